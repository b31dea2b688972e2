set_option maxHeartbeats 4000000 in
set_option maxRecDepth 100000 in
theorem c_C_print (l : Launch) (dC : Nat → ClassId) (dI : Nat → Nat → Nat) (cI cZ cO cW : ClassId) (z : Nat) (X : va_W) (h : Nat) (adr ad wd : Nat → Nat) (nO nW : Nat) (σ : T2) (p0 : Int32) (p1 : Int32) (hI : cInv nO nW σ) : Met l yX0_print wsX0_print ({ frames := 2, cells := 0, slots := 0, locals := 43 }) (wPc (dC, dI) (tyL cI cZ cO cW) z [.ref h, .int p0, .int p1] (cWd h adr ad wd nO nW cI cO cW σ ++ X)) (wQi (dC, dI) z (fun u : T2 => cWd h adr ad wd nO nW cI cO cW u ++ X) (fun r u => r = (sC_print σ p0 p1).1 ∧ u = (sC_print σ p0 p1).2)) 0 0 (fun q => z ≤ q) := by
  refine en_met (cc := cX0_print) (maxL := 6) (ret := (some .int)) (by decide) rfl (Nat.le_of_ble_eq_true rfl) ?_
  intro p e s m below meth c ls hx hb hml hr hts hown hlocks hnm hv hl
  obtain ⟨hz, hP, hK, hD⟩ := hv
  have hown : s.vm.findClass RX0 = some m.cls := hown
  have hS : va_S (fun q : Nat => z ≤ q) s.heap s.heap [] := va_S.rf
  have hin0 : ∀ w ∈ wsX00, w ∈ wsX0_print := by decide +kernel
  have hin1 : ∀ w ∈ wsX10, w ∈ wsX0_print := by decide +kernel
  have hin2 : ∀ w ∈ wsX20, w ∈ wsX0_print := by decide +kernel
  have hl : lv_has ls 6 [(0, .ref h), (1, .int p0), (2, .int p1)] := hl
  refine lv_aload_n hx hb dX0_print_0 rfl (lv_at hl 0 rfl) ?_
  refine lv_iload_n hx hb dX0_print_1 rfl (lv_at hl 1 rfl) ?_
  refine va_csq (W.runV (As := [.int p0]) (rest := []) ⟨hx, hb, hml, hown, hts⟩ (c_C_writerOf l dC dI cI cZ cO cW z X h adr ad wd nO nW σ p0 hI) (cwV 1 hts gX0_print_X0_writerOf rfl rfl rfl (by decide +kernel) ⟨Nat.le_of_ble_eq_true rfl, Nat.le_of_ble_eq_true rfl⟩) (wPreV (Nat.le_trans hz hS.1) hP hK hD (va_recv hK hP (ci := 0) (q0 := 0) rfl rfl)) rfl rfl hl.1 rfl (lv_room (Nat.le_of_ble_eq_true rfl)) dX0_print_2 ⟨Nat.le_of_ble_eq_true rfl, Nat.le_of_ble_eq_true rfl⟩) (fun r e_ => ?_)
  subst e_
  by_cases c1_ : (sC_isWithin p0 1 (σ 5 0)) = 0
  · rw [qq_none c1_]
    refine W.eq (g2 := F0 m 5 ls [.null]) rfl ?_
    refine lv_astore_nN (lv' := [(3, .null), (0, .ref h), (1, .int p0), (2, .int p1)]) hx hb dX0_print_5 rfl hl (by decide) rfl (fun ls hl => ?_)
    refine lv_aload_nN hx hb dX0_print_6 rfl (lv_at hl 0 rfl) ?_
    refine lv_ifnullN (tgt := 14) hx hb dX0_print_7 (by decide) ?_
    refine lv_iconst (v := (-1)) hx hb dX0_print_14 (by decide) ?_
    exact w_iret (v := (-1)) (u := σ) hx hb hr hlocks hP hD hS dX0_print_15 (wpair (by unfold sC_print; rw [if_pos c1_] <;> rfl))
  · rw [qq_some c1_]
    refine W.eq (g2 := F0 m 5 ls [.ref (wd ((p0 - 1).toNatClampNeg))]) rfl ?_
    refine lv_astore_n (lv' := [(3, .ref (wd ((p0 - 1).toNatClampNeg))), (0, .ref h), (1, .int p0), (2, .int p1)]) hx hb dX0_print_5 rfl hl (by decide) rfl (fun ls hl => ?_)
    refine lv_aload_n hx hb dX0_print_6 rfl (lv_at hl 0 rfl) ?_
    refine lv_ifnull hx hb dX0_print_7 ?_
    refine lv_iload_n hx hb dX0_print_10 rfl (lv_at hl 3 rfl) ?_
    refine lv_if_ge (tgt := 16) hx hb dX0_print_11 (by decide) (fun c2_ => ?_) (fun c2_ => ?_)
    · refine lv_aload_n hx hb dX0_print_16 rfl (lv_at hl 0 rfl) ?_
      refine va_get (v := va_rf (tk ad (σ 42 ((p0 - 1).toNatClampNeg)))) (D := (dC, dI)) (ci := 2) (C := RX2) (T := TX2) (N := 3) hx hb hts hin2 hown hK hP (6 + nO + ((p0 - 1).toNatClampNeg)) (cw_wr (qq_lt hI c1_)) rfl 2 (by decide) (hts (.fieldLink RX0 125 RX2 "taken" "LSpoolRows$Output;") (by decide +kernel)) (fun _ h9 => h9) rfl dX0_print_17 ?_
      by_cases c3_ : (σ 42 ((p0 - 1).toNatClampNeg)) = 0
      · rw [tk_none c3_]
        refine W.eq (g2 := F0 m 20 ls [.null]) rfl ?_
        refine lv_astoreN (lv' := [(4, .null), (3, .ref (wd ((p0 - 1).toNatClampNeg))), (0, .ref h), (1, .int p0), (2, .int p1)]) hx hb dX0_print_20 hl (by decide) rfl (fun ls hl => ?_)
        refine lv_aloadN hx hb dX0_print_22 (lv_at hl 0 rfl) ?_
        refine lv_ifnonnullN hx hb dX0_print_24 ?_
        refine lv_bipush (v := (-2)) hx hb dX0_print_27 (by decide) ?_
        exact w_iret (v := (-2)) (u := σ) hx hb hr hlocks hP hD hS dX0_print_29 (wpair (by unfold sC_print; rw [if_neg c1_, if_pos c2_, if_pos c3_] <;> rfl))
      · rw [tk_some c3_]
        refine W.eq (g2 := F0 m 20 ls [.ref (ad ((σ 42 ((p0 - 1).toNatClampNeg)) - 1).toNatClampNeg)]) rfl ?_
        refine lv_astore (lv' := [(4, .ref (ad ((σ 42 ((p0 - 1).toNatClampNeg)) - 1).toNatClampNeg)), (3, .ref (wd ((p0 - 1).toNatClampNeg))), (0, .ref h), (1, .int p0), (2, .int p1)]) hx hb dX0_print_20 hl (by decide) rfl (fun ls hl => ?_)
        refine lv_aload hx hb dX0_print_22 (lv_at hl 0 rfl) ?_
        refine lv_ifnonnull (tgt := 30) hx hb dX0_print_24 (by decide) ?_
        refine lv_iload_n hx hb dX0_print_30 rfl (lv_at hl 4 rfl) ?_
        refine lv_aload hx hb dX0_print_31 (lv_at hl 0 rfl) ?_
        refine vp_callSi (W.runV (As := []) (rest := [.int p1]) ⟨hx, hb, hml, hown, hts⟩ (c_O_pagesToPrint l dC dI cI cZ cO cW z X h adr ad wd nO nW σ (((σ 42 ((p0 - 1).toNatClampNeg)) - 1).toNatClampNeg) (ct_lt hI c3_ (qq_lt hI c1_))) (cwV 0 hts gX0_print_X1_pagesToPrint rfl rfl rfl (by decide +kernel) ⟨Nat.le_of_ble_eq_true rfl, Nat.le_of_ble_eq_true rfl⟩) (wPreV (Nat.le_trans hz hS.1) hP hK hD (va_recv hK hP (ci := 1) (q0 := (6 + (((σ 42 ((p0 - 1).toNatClampNeg)) - 1).toNatClampNeg))) rfl (cw_out (ct_lt hI c3_ (qq_lt hI c1_))))) rfl rfl hl.1 rfl (lv_room (Nat.le_of_ble_eq_true rfl)) dX0_print_33 ⟨Nat.le_of_ble_eq_true rfl, Nat.le_of_ble_eq_true rfl⟩) (fun r e_ => ?_)
        subst e_
        refine va_mmin hx hb (hml.trans hl.1.symm) hown (hts (.methodLink RX0 32 Lib.Math.min.name) (by decide +kernel)) (hts (.static Lib.Math.min.name) (by decide +kernel)) (hts (.initialized "java/lang/Math") (by decide +kernel)) (hts (.code Lib.Math.min.name Lib.Math.min.code 2 (some .int)) (by decide +kernel)) (Nat.le_of_ble_eq_true rfl) (Nat.le_of_ble_eq_true rfl) (Nat.le_of_ble_eq_true rfl) (Nat.le_of_ble_eq_true rfl) dX0_print_36 ?_
        refine lv_istore (lv' := [(5, .int (if (sO_pagesToPrint σ (((σ 42 ((p0 - 1).toNatClampNeg)) - 1).toNatClampNeg)) < p1 then (sO_pagesToPrint σ (((σ 42 ((p0 - 1).toNatClampNeg)) - 1).toNatClampNeg)) else p1)), (4, .ref (ad ((σ 42 ((p0 - 1).toNatClampNeg)) - 1).toNatClampNeg)), (3, .ref (wd ((p0 - 1).toNatClampNeg))), (0, .ref h), (1, .int p0), (2, .int p1)]) hx hb dX0_print_39 hl (by decide) rfl (fun ls hl => ?_)
        refine lv_aload hx hb dX0_print_41 (lv_at hl 1 rfl) ?_
        refine lv_dup hx hb dX0_print_43 rfl ?_
        refine va_get (v := .int (σ 31 (((σ 42 ((p0 - 1).toNatClampNeg)) - 1).toNatClampNeg))) (D := (dC, dI)) (ci := 1) (C := RX1) (T := TX1) (N := 13) hx hb hts hin1 hown hK hP (6 + (((σ 42 ((p0 - 1).toNatClampNeg)) - 1).toNatClampNeg)) (cw_out (ct_lt hI c3_ (qq_lt hI c1_))) rfl 11 (by decide) (hts (.fieldLink RX0 137 RX1 "printed" "I") (by decide +kernel)) (fun _ h9 => h9) rfl dX0_print_44 ?_
        refine lv_iload hx hb dX0_print_47 (lv_at hl 0 rfl) ?_
        refine lv_iadd hx hb dX0_print_49 ?_
        refine va_put (D := (dC, dI)) (ci := 1) (v := .int ((σ 31 (((σ 42 ((p0 - 1).toNatClampNeg)) - 1).toNatClampNeg)) + (if (sO_pagesToPrint σ (((σ 42 ((p0 - 1).toNatClampNeg)) - 1).toNatClampNeg)) < p1 then (sO_pagesToPrint σ (((σ 42 ((p0 - 1).toNatClampNeg)) - 1).toNatClampNeg)) else p1))) (ty := .int) (C := RX1) (T := TX1) (N := 13) hx hb hts hin1 tyX1 tyX1_ok nmX1 hown hK hP hD hS (6 + (((σ 42 ((p0 - 1).toNatClampNeg)) - 1).toNatClampNeg)) (cw_out (ct_lt hI c3_ (qq_lt hI c1_))) rfl 11 (by decide) (hts (.fieldLink RX0 137 RX1 "printed" "I") (by decide +kernel)) (fun _ h9 => h9) rfl (by decide +kernel) rfl rfl (Nat.le_of_ble_eq_true rfl) dX0_print_50 (fun H locs hP hD hS => ?_)
        have hP : va_P (dC, dI) vwCl (cWd h adr ad wd nO nW cI cO cW (upd2 σ 31 (((σ 42 ((p0 - 1).toNatClampNeg)) - 1).toNatClampNeg) ((σ 31 (((σ 42 ((p0 - 1).toNatClampNeg)) - 1).toNatClampNeg)) + (if (sO_pagesToPrint σ (((σ 42 ((p0 - 1).toNatClampNeg)) - 1).toNatClampNeg)) < p1 then (sO_pagesToPrint σ (((σ 42 ((p0 - 1).toNatClampNeg)) - 1).toNatClampNeg)) else p1))) ++ X) H := by rw [← cw_set_out (k := 11) rfl (by decide) (ct_lt hI c3_ (qq_lt hI c1_))]; exact hP
        have hD : va_D (fun q : Nat => z ≤ q) (cWd h adr ad wd nO nW cI cO cW (upd2 σ 31 (((σ 42 ((p0 - 1).toNatClampNeg)) - 1).toNatClampNeg) ((σ 31 (((σ 42 ((p0 - 1).toNatClampNeg)) - 1).toNatClampNeg)) + (if (sO_pagesToPrint σ (((σ 42 ((p0 - 1).toNatClampNeg)) - 1).toNatClampNeg)) < p1 then (sO_pagesToPrint σ (((σ 42 ((p0 - 1).toNatClampNeg)) - 1).toNatClampNeg)) else p1))) ++ X) := by rw [← cw_set_out (k := 11) rfl (by decide) (ct_lt hI c3_ (qq_lt hI c1_))]; exact hD
        refine lv_aload_n hx hb dX0_print_53 rfl (lv_at hl 3 rfl) ?_
        refine lv_dup hx hb dX0_print_54 rfl ?_
        refine va_get (v := .int (σ 11 0)) (D := (dC, dI)) (ci := 0) (C := RX0) (T := TX0) (N := 13) hx hb hts hin0 hown hK hP 0 rfl rfl 11 (by decide) (hts (.fieldLink RX0 140 RX0 "pagesPrinted" "I") (by decide +kernel)) (fun _ h9 => h9) rfl dX0_print_55 ?_
        refine lv_iload hx hb dX0_print_58 (lv_at hl 0 rfl) ?_
        refine lv_iadd hx hb dX0_print_60 ?_
        refine va_put (D := (dC, dI)) (ci := 0) (v := .int ((σ 11 0) + (if (sO_pagesToPrint σ (((σ 42 ((p0 - 1).toNatClampNeg)) - 1).toNatClampNeg)) < p1 then (sO_pagesToPrint σ (((σ 42 ((p0 - 1).toNatClampNeg)) - 1).toNatClampNeg)) else p1))) (ty := .int) (C := RX0) (T := TX0) (N := 13) hx hb hts hin0 tyX0 tyX0_ok nmX0 hown hK hP hD hS 0 rfl rfl 11 (by decide) (hts (.fieldLink RX0 140 RX0 "pagesPrinted" "I") (by decide +kernel)) (fun _ h9 => h9) rfl (by decide +kernel) rfl rfl (Nat.le_of_ble_eq_true rfl) dX0_print_61 (fun H locs hP hD hS => ?_)
        have hP : va_P (dC, dI) vwCl (cWd h adr ad wd nO nW cI cO cW (upd2 (upd2 σ 31 (((σ 42 ((p0 - 1).toNatClampNeg)) - 1).toNatClampNeg) ((σ 31 (((σ 42 ((p0 - 1).toNatClampNeg)) - 1).toNatClampNeg)) + (if (sO_pagesToPrint σ (((σ 42 ((p0 - 1).toNatClampNeg)) - 1).toNatClampNeg)) < p1 then (sO_pagesToPrint σ (((σ 42 ((p0 - 1).toNatClampNeg)) - 1).toNatClampNeg)) else p1))) 11 0 ((σ 11 0) + (if (sO_pagesToPrint σ (((σ 42 ((p0 - 1).toNatClampNeg)) - 1).toNatClampNeg)) < p1 then (sO_pagesToPrint σ (((σ 42 ((p0 - 1).toNatClampNeg)) - 1).toNatClampNeg)) else p1))) ++ X) H := by rw [← cput_11]; exact hP
        have hD : va_D (fun q : Nat => z ≤ q) (cWd h adr ad wd nO nW cI cO cW (upd2 (upd2 σ 31 (((σ 42 ((p0 - 1).toNatClampNeg)) - 1).toNatClampNeg) ((σ 31 (((σ 42 ((p0 - 1).toNatClampNeg)) - 1).toNatClampNeg)) + (if (sO_pagesToPrint σ (((σ 42 ((p0 - 1).toNatClampNeg)) - 1).toNatClampNeg)) < p1 then (sO_pagesToPrint σ (((σ 42 ((p0 - 1).toNatClampNeg)) - 1).toNatClampNeg)) else p1))) 11 0 ((σ 11 0) + (if (sO_pagesToPrint σ (((σ 42 ((p0 - 1).toNatClampNeg)) - 1).toNatClampNeg)) < p1 then (sO_pagesToPrint σ (((σ 42 ((p0 - 1).toNatClampNeg)) - 1).toNatClampNeg)) else p1))) ++ X) := by rw [← cput_11]; exact hD
        refine lv_aload hx hb dX0_print_64 (lv_at hl 1 rfl) ?_
        refine vp_callSi (W.runV (As := []) (rest := []) ⟨hx, hb, hml, hown, hts⟩ (c_O_pagesToPrint l dC dI cI cZ cO cW z X h adr ad wd nO nW (upd2 (upd2 σ 31 (((σ 42 ((p0 - 1).toNatClampNeg)) - 1).toNatClampNeg) ((σ 31 (((σ 42 ((p0 - 1).toNatClampNeg)) - 1).toNatClampNeg)) + (if (sO_pagesToPrint σ (((σ 42 ((p0 - 1).toNatClampNeg)) - 1).toNatClampNeg)) < p1 then (sO_pagesToPrint σ (((σ 42 ((p0 - 1).toNatClampNeg)) - 1).toNatClampNeg)) else p1))) 11 0 ((σ 11 0) + (if (sO_pagesToPrint σ (((σ 42 ((p0 - 1).toNatClampNeg)) - 1).toNatClampNeg)) < p1 then (sO_pagesToPrint σ (((σ 42 ((p0 - 1).toNatClampNeg)) - 1).toNatClampNeg)) else p1))) (((σ 42 ((p0 - 1).toNatClampNeg)) - 1).toNatClampNeg) (ct_lt hI c3_ (qq_lt hI c1_))) (cwV 0 hts gX0_print_X1_pagesToPrint rfl rfl rfl (by decide +kernel) ⟨Nat.le_of_ble_eq_true rfl, Nat.le_of_ble_eq_true rfl⟩) (wPreV (Nat.le_trans hz hS.1) hP hK hD (va_recv hK hP (ci := 1) (q0 := (6 + (((σ 42 ((p0 - 1).toNatClampNeg)) - 1).toNatClampNeg))) rfl (cw_out (ct_lt hI c3_ (qq_lt hI c1_))))) rfl rfl hl.1 rfl (lv_room (Nat.le_of_ble_eq_true rfl)) dX0_print_66 ⟨Nat.le_of_ble_eq_true rfl, Nat.le_of_ble_eq_true rfl⟩) (fun r e_ => ?_)
        subst e_
        refine lv_if_ne (tgt := 90) hx hb dX0_print_69 (by decide) (fun c4_ => ?_) (fun c4_ => ?_)
        · refine lv_iload hx hb dX0_print_90 (lv_at hl 0 rfl) ?_
          exact w_iret (v := if (sO_pagesToPrint σ (((σ 42 ((p0 - 1).toNatClampNeg)) - 1).toNatClampNeg)) < p1 then (sO_pagesToPrint σ (((σ 42 ((p0 - 1).toNatClampNeg)) - 1).toNatClampNeg)) else p1) (u := upd2 (upd2 σ 31 (((σ 42 ((p0 - 1).toNatClampNeg)) - 1).toNatClampNeg) ((σ 31 (((σ 42 ((p0 - 1).toNatClampNeg)) - 1).toNatClampNeg)) + (if (sO_pagesToPrint σ (((σ 42 ((p0 - 1).toNatClampNeg)) - 1).toNatClampNeg)) < p1 then (sO_pagesToPrint σ (((σ 42 ((p0 - 1).toNatClampNeg)) - 1).toNatClampNeg)) else p1))) 11 0 ((σ 11 0) + (if (sO_pagesToPrint σ (((σ 42 ((p0 - 1).toNatClampNeg)) - 1).toNatClampNeg)) < p1 then (sO_pagesToPrint σ (((σ 42 ((p0 - 1).toNatClampNeg)) - 1).toNatClampNeg)) else p1))) hx hb hr hlocks hP hD hS dX0_print_92 (wpair (by unfold sC_print; rw [if_neg c1_, if_pos c2_, if_neg c3_, if_neg c4_] <;> rfl))
        · refine lv_aload_n hx hb dX0_print_72 rfl (lv_at hl 2 rfl) ?_
          refine lv_null hx hb dX0_print_73 ?_
          refine va_put (D := (dC, dI)) (ci := 2) (v := .null) (ty := .object "SpoolRows$Output") (C := RX2) (T := TX2) (N := 3) hx hb hts hin2 tyX2 tyX2_ok nmX2 hown hK hP hD hS (6 + nO + ((p0 - 1).toNatClampNeg)) (cw_wr (qq_lt hI c1_)) rfl 2 (by decide) (hts (.fieldLink RX0 125 RX2 "taken" "LSpoolRows$Output;") (by decide +kernel)) (fun _ h9 => h9) rfl (by decide +kernel) rfl rfl (Nat.le_of_ble_eq_true rfl) dX0_print_74 (fun H locs hP hD hS => ?_)
          have hP : va_P (dC, dI) vwCl (cWd h adr ad wd nO nW cI cO cW (upd2 (upd2 (upd2 σ 31 (((σ 42 ((p0 - 1).toNatClampNeg)) - 1).toNatClampNeg) ((σ 31 (((σ 42 ((p0 - 1).toNatClampNeg)) - 1).toNatClampNeg)) + (if (sO_pagesToPrint σ (((σ 42 ((p0 - 1).toNatClampNeg)) - 1).toNatClampNeg)) < p1 then (sO_pagesToPrint σ (((σ 42 ((p0 - 1).toNatClampNeg)) - 1).toNatClampNeg)) else p1))) 11 0 ((σ 11 0) + (if (sO_pagesToPrint σ (((σ 42 ((p0 - 1).toNatClampNeg)) - 1).toNatClampNeg)) < p1 then (sO_pagesToPrint σ (((σ 42 ((p0 - 1).toNatClampNeg)) - 1).toNatClampNeg)) else p1))) 42 ((p0 - 1).toNatClampNeg) 0) ++ X) H := by rw [← cw_setT (v := none) (qq_lt hI c1_) (tk_none rfl)]; exact hP
          have hD : va_D (fun q : Nat => z ≤ q) (cWd h adr ad wd nO nW cI cO cW (upd2 (upd2 (upd2 σ 31 (((σ 42 ((p0 - 1).toNatClampNeg)) - 1).toNatClampNeg) ((σ 31 (((σ 42 ((p0 - 1).toNatClampNeg)) - 1).toNatClampNeg)) + (if (sO_pagesToPrint σ (((σ 42 ((p0 - 1).toNatClampNeg)) - 1).toNatClampNeg)) < p1 then (sO_pagesToPrint σ (((σ 42 ((p0 - 1).toNatClampNeg)) - 1).toNatClampNeg)) else p1))) 11 0 ((σ 11 0) + (if (sO_pagesToPrint σ (((σ 42 ((p0 - 1).toNatClampNeg)) - 1).toNatClampNeg)) < p1 then (sO_pagesToPrint σ (((σ 42 ((p0 - 1).toNatClampNeg)) - 1).toNatClampNeg)) else p1))) 42 ((p0 - 1).toNatClampNeg) 0) ++ X) := by rw [← cw_setT (v := none) (qq_lt hI c1_) (tk_none rfl)]; exact hD
          refine lv_aload_n hx hb dX0_print_77 rfl (lv_at hl 3 rfl) ?_
          refine lv_aload hx hb dX0_print_78 (lv_at hl 1 rfl) ?_
          refine w_callv (va_runV (As := [.ref (ad ((σ 42 ((p0 - 1).toNatClampNeg)) - 1).toNatClampNeg)]) (rest := []) ⟨hx, hb, hml, hown, hts⟩ (c_C_noteInOrder l dC dI cI cZ cO cW z X h adr ad wd nO nW (upd2 (upd2 (upd2 σ 31 (((σ 42 ((p0 - 1).toNatClampNeg)) - 1).toNatClampNeg) ((σ 31 (((σ 42 ((p0 - 1).toNatClampNeg)) - 1).toNatClampNeg)) + (if (sO_pagesToPrint σ (((σ 42 ((p0 - 1).toNatClampNeg)) - 1).toNatClampNeg)) < p1 then (sO_pagesToPrint σ (((σ 42 ((p0 - 1).toNatClampNeg)) - 1).toNatClampNeg)) else p1))) 11 0 ((σ 11 0) + (if (sO_pagesToPrint σ (((σ 42 ((p0 - 1).toNatClampNeg)) - 1).toNatClampNeg)) < p1 then (sO_pagesToPrint σ (((σ 42 ((p0 - 1).toNatClampNeg)) - 1).toNatClampNeg)) else p1))) 42 ((p0 - 1).toNatClampNeg) 0) (((σ 42 ((p0 - 1).toNatClampNeg)) - 1).toNatClampNeg) (ct_lt hI c3_ (qq_lt hI c1_)) (show (0 : Int32) ≤ σ 7 0 from f7_nn hI)) (cwV 1 hts gX0_print_X0_noteInOrder rfl rfl rfl (by decide +kernel) ⟨Nat.le_of_ble_eq_true rfl, Nat.le_of_ble_eq_true rfl⟩) (wPreV (Nat.le_trans hz hS.1) hP hK hD (va_recv hK hP (ci := 0) (q0 := 0) rfl rfl)) rfl rfl hl.1 rfl (lv_room (Nat.le_of_ble_eq_true rfl)) dX0_print_80 ⟨Nat.le_of_ble_eq_true rfl, Nat.le_of_ble_eq_true rfl⟩) hS (fun u H locs e_ hP hD hS => ?_)
          subst e_
          have hP : va_P (dC, dI) vwCl (cWd h adr ad wd nO nW cI cO cW (sC_noteInOrder (upd2 (upd2 (upd2 σ 31 (((σ 42 ((p0 - 1).toNatClampNeg)) - 1).toNatClampNeg) ((σ 31 (((σ 42 ((p0 - 1).toNatClampNeg)) - 1).toNatClampNeg)) + (if (sO_pagesToPrint σ (((σ 42 ((p0 - 1).toNatClampNeg)) - 1).toNatClampNeg)) < p1 then (sO_pagesToPrint σ (((σ 42 ((p0 - 1).toNatClampNeg)) - 1).toNatClampNeg)) else p1))) 11 0 ((σ 11 0) + (if (sO_pagesToPrint σ (((σ 42 ((p0 - 1).toNatClampNeg)) - 1).toNatClampNeg)) < p1 then (sO_pagesToPrint σ (((σ 42 ((p0 - 1).toNatClampNeg)) - 1).toNatClampNeg)) else p1))) 42 ((p0 - 1).toNatClampNeg) 0) (((σ 42 ((p0 - 1).toNatClampNeg)) - 1).toNatClampNeg)) ++ X) H := hP
          have hD : va_D (fun q : Nat => z ≤ q) (cWd h adr ad wd nO nW cI cO cW (sC_noteInOrder (upd2 (upd2 (upd2 σ 31 (((σ 42 ((p0 - 1).toNatClampNeg)) - 1).toNatClampNeg) ((σ 31 (((σ 42 ((p0 - 1).toNatClampNeg)) - 1).toNatClampNeg)) + (if (sO_pagesToPrint σ (((σ 42 ((p0 - 1).toNatClampNeg)) - 1).toNatClampNeg)) < p1 then (sO_pagesToPrint σ (((σ 42 ((p0 - 1).toNatClampNeg)) - 1).toNatClampNeg)) else p1))) 11 0 ((σ 11 0) + (if (sO_pagesToPrint σ (((σ 42 ((p0 - 1).toNatClampNeg)) - 1).toNatClampNeg)) < p1 then (sO_pagesToPrint σ (((σ 42 ((p0 - 1).toNatClampNeg)) - 1).toNatClampNeg)) else p1))) 42 ((p0 - 1).toNatClampNeg) 0) (((σ 42 ((p0 - 1).toNatClampNeg)) - 1).toNatClampNeg)) ++ X) := hD
          refine lv_aload_n hx hb dX0_print_83 rfl (lv_at hl 3 rfl) ?_
          refine lv_aload hx hb dX0_print_84 (lv_at hl 1 rfl) ?_
          refine lv_iconst (v := 4) hx hb dX0_print_86 (by decide) ?_
          refine w_callv (va_runV (As := [.ref (ad ((σ 42 ((p0 - 1).toNatClampNeg)) - 1).toNatClampNeg), .int 4]) (rest := []) ⟨hx, hb, hml, hown, hts⟩ (c_C_letGo l dC dI cI cZ cO cW z X h adr ad wd nO nW (sC_noteInOrder (upd2 (upd2 (upd2 σ 31 (((σ 42 ((p0 - 1).toNatClampNeg)) - 1).toNatClampNeg) ((σ 31 (((σ 42 ((p0 - 1).toNatClampNeg)) - 1).toNatClampNeg)) + (if (sO_pagesToPrint σ (((σ 42 ((p0 - 1).toNatClampNeg)) - 1).toNatClampNeg)) < p1 then (sO_pagesToPrint σ (((σ 42 ((p0 - 1).toNatClampNeg)) - 1).toNatClampNeg)) else p1))) 11 0 ((σ 11 0) + (if (sO_pagesToPrint σ (((σ 42 ((p0 - 1).toNatClampNeg)) - 1).toNatClampNeg)) < p1 then (sO_pagesToPrint σ (((σ 42 ((p0 - 1).toNatClampNeg)) - 1).toNatClampNeg)) else p1))) 42 ((p0 - 1).toNatClampNeg) 0) (((σ 42 ((p0 - 1).toNatClampNeg)) - 1).toNatClampNeg)) (((σ 42 ((p0 - 1).toNatClampNeg)) - 1).toNatClampNeg) 4 (ct_lt hI c3_ (qq_lt hI c1_))) (cwV 2 hts gX0_print_X0_letGo rfl rfl rfl (by decide +kernel) ⟨Nat.le_of_ble_eq_true rfl, Nat.le_of_ble_eq_true rfl⟩) (wPreV (Nat.le_trans hz hS.1) hP hK hD (va_recv hK hP (ci := 0) (q0 := 0) rfl rfl)) rfl rfl hl.1 rfl (lv_room (Nat.le_of_ble_eq_true rfl)) dX0_print_87 ⟨Nat.le_of_ble_eq_true rfl, Nat.le_of_ble_eq_true rfl⟩) hS (fun u H locs e_ hP hD hS => ?_)
          subst e_
          have hP : va_P (dC, dI) vwCl (cWd h adr ad wd nO nW cI cO cW (sC_letGo (sC_noteInOrder (upd2 (upd2 (upd2 σ 31 (((σ 42 ((p0 - 1).toNatClampNeg)) - 1).toNatClampNeg) ((σ 31 (((σ 42 ((p0 - 1).toNatClampNeg)) - 1).toNatClampNeg)) + (if (sO_pagesToPrint σ (((σ 42 ((p0 - 1).toNatClampNeg)) - 1).toNatClampNeg)) < p1 then (sO_pagesToPrint σ (((σ 42 ((p0 - 1).toNatClampNeg)) - 1).toNatClampNeg)) else p1))) 11 0 ((σ 11 0) + (if (sO_pagesToPrint σ (((σ 42 ((p0 - 1).toNatClampNeg)) - 1).toNatClampNeg)) < p1 then (sO_pagesToPrint σ (((σ 42 ((p0 - 1).toNatClampNeg)) - 1).toNatClampNeg)) else p1))) 42 ((p0 - 1).toNatClampNeg) 0) (((σ 42 ((p0 - 1).toNatClampNeg)) - 1).toNatClampNeg)) (((σ 42 ((p0 - 1).toNatClampNeg)) - 1).toNatClampNeg) 4) ++ X) H := hP
          have hD : va_D (fun q : Nat => z ≤ q) (cWd h adr ad wd nO nW cI cO cW (sC_letGo (sC_noteInOrder (upd2 (upd2 (upd2 σ 31 (((σ 42 ((p0 - 1).toNatClampNeg)) - 1).toNatClampNeg) ((σ 31 (((σ 42 ((p0 - 1).toNatClampNeg)) - 1).toNatClampNeg)) + (if (sO_pagesToPrint σ (((σ 42 ((p0 - 1).toNatClampNeg)) - 1).toNatClampNeg)) < p1 then (sO_pagesToPrint σ (((σ 42 ((p0 - 1).toNatClampNeg)) - 1).toNatClampNeg)) else p1))) 11 0 ((σ 11 0) + (if (sO_pagesToPrint σ (((σ 42 ((p0 - 1).toNatClampNeg)) - 1).toNatClampNeg)) < p1 then (sO_pagesToPrint σ (((σ 42 ((p0 - 1).toNatClampNeg)) - 1).toNatClampNeg)) else p1))) 42 ((p0 - 1).toNatClampNeg) 0) (((σ 42 ((p0 - 1).toNatClampNeg)) - 1).toNatClampNeg)) (((σ 42 ((p0 - 1).toNatClampNeg)) - 1).toNatClampNeg) 4) ++ X) := hD
          refine lv_iload hx hb dX0_print_90 (lv_at hl 0 rfl) ?_
          exact w_iret (v := if (sO_pagesToPrint σ (((σ 42 ((p0 - 1).toNatClampNeg)) - 1).toNatClampNeg)) < p1 then (sO_pagesToPrint σ (((σ 42 ((p0 - 1).toNatClampNeg)) - 1).toNatClampNeg)) else p1) (u := (sC_letGo (sC_noteInOrder (upd2 (upd2 (upd2 σ 31 (((σ 42 ((p0 - 1).toNatClampNeg)) - 1).toNatClampNeg) ((σ 31 (((σ 42 ((p0 - 1).toNatClampNeg)) - 1).toNatClampNeg)) + (if (sO_pagesToPrint σ (((σ 42 ((p0 - 1).toNatClampNeg)) - 1).toNatClampNeg)) < p1 then (sO_pagesToPrint σ (((σ 42 ((p0 - 1).toNatClampNeg)) - 1).toNatClampNeg)) else p1))) 11 0 ((σ 11 0) + (if (sO_pagesToPrint σ (((σ 42 ((p0 - 1).toNatClampNeg)) - 1).toNatClampNeg)) < p1 then (sO_pagesToPrint σ (((σ 42 ((p0 - 1).toNatClampNeg)) - 1).toNatClampNeg)) else p1))) 42 ((p0 - 1).toNatClampNeg) 0) (((σ 42 ((p0 - 1).toNatClampNeg)) - 1).toNatClampNeg)) (((σ 42 ((p0 - 1).toNatClampNeg)) - 1).toNatClampNeg) 4)) hx hb hr hlocks hP hD hS dX0_print_92 (wpair (by unfold sC_print; rw [if_neg c1_, if_pos c2_, if_neg c3_, if_pos c4_] <;> rfl))
    · refine lv_iconst (v := (-1)) hx hb dX0_print_14 (by decide) ?_
      exact w_iret (v := (-1)) (u := σ) hx hb hr hlocks hP hD hS dX0_print_15 (wpair (by unfold sC_print; rw [if_neg c1_, if_neg c2_] <;> rfl))
set_option maxHeartbeats 4000000 in
set_option maxRecDepth 100000 in
theorem c_C_cut (l : Launch) (dC : Nat → ClassId) (dI : Nat → Nat → Nat) (cI cZ cO cW : ClassId) (z : Nat) (X : va_W) (h : Nat) (adr ad wd : Nat → Nat) (nO nW : Nat) (σ : T2) (p0 : Int32) (hI : cInv nO nW σ) : Met l yX0_cut wsX0_cut ({ frames := 2, cells := 0, slots := 0, locals := 43 }) (wPc (dC, dI) (tyL cI cZ cO cW) z [.ref h, .int p0] (cWd h adr ad wd nO nW cI cO cW σ ++ X)) (wQi (dC, dI) z (fun u : T2 => cWd h adr ad wd nO nW cI cO cW u ++ X) (fun r u => r = (sC_cut σ p0).1 ∧ u = (sC_cut σ p0).2)) 0 0 (fun q => z ≤ q) := by
  refine en_met (cc := cX0_cut) (maxL := 5) (ret := (some .int)) (by decide) rfl (Nat.le_of_ble_eq_true rfl) ?_
  intro p e s m below meth c ls hx hb hml hr hts hown hlocks hnm hv hl
  obtain ⟨hz, hP, hK, hD⟩ := hv
  have hown : s.vm.findClass RX0 = some m.cls := hown
  have hS : va_S (fun q : Nat => z ≤ q) s.heap s.heap [] := va_S.rf
  have hin0 : ∀ w ∈ wsX00, w ∈ wsX0_cut := by decide +kernel
  have hin1 : ∀ w ∈ wsX10, w ∈ wsX0_cut := by decide +kernel
  have hin2 : ∀ w ∈ wsX20, w ∈ wsX0_cut := by decide +kernel
  have hl : lv_has ls 5 [(0, .ref h), (1, .int p0)] := hl
  refine lv_aload_n hx hb dX0_cut_0 rfl (lv_at hl 0 rfl) ?_
  refine lv_iload_n hx hb dX0_cut_1 rfl (lv_at hl 1 rfl) ?_
  refine va_csq (W.runV (As := [.int p0]) (rest := []) ⟨hx, hb, hml, hown, hts⟩ (c_C_writerOf l dC dI cI cZ cO cW z X h adr ad wd nO nW σ p0 hI) (cwV 1 hts gX0_cut_X0_writerOf rfl rfl rfl (by decide +kernel) ⟨Nat.le_of_ble_eq_true rfl, Nat.le_of_ble_eq_true rfl⟩) (wPreV (Nat.le_trans hz hS.1) hP hK hD (va_recv hK hP (ci := 0) (q0 := 0) rfl rfl)) rfl rfl hl.1 rfl (lv_room (Nat.le_of_ble_eq_true rfl)) dX0_cut_2 ⟨Nat.le_of_ble_eq_true rfl, Nat.le_of_ble_eq_true rfl⟩) (fun r e_ => ?_)
  subst e_
  by_cases c1_ : (sC_isWithin p0 1 (σ 5 0)) = 0
  · rw [qq_none c1_]
    refine W.eq (g2 := F0 m 5 ls [.null]) rfl ?_
    refine lv_astore_nN (lv' := [(2, .null), (0, .ref h), (1, .int p0)]) hx hb dX0_cut_5 rfl hl (by decide) rfl (fun ls hl => ?_)
    refine lv_aload_nN hx hb dX0_cut_6 rfl (lv_at hl 0 rfl) ?_
    refine lv_ifnonnullN hx hb dX0_cut_7 ?_
    refine lv_iconst (v := (-1)) hx hb dX0_cut_10 (by decide) ?_
    exact w_iret (v := (-1)) (u := σ) hx hb hr hlocks hP hD hS dX0_cut_11 (wpair (by unfold sC_cut; rw [if_pos c1_] <;> rfl))
  · rw [qq_some c1_]
    refine W.eq (g2 := F0 m 5 ls [.ref (wd ((p0 - 1).toNatClampNeg))]) rfl ?_
    refine lv_astore_n (lv' := [(2, .ref (wd ((p0 - 1).toNatClampNeg))), (0, .ref h), (1, .int p0)]) hx hb dX0_cut_5 rfl hl (by decide) rfl (fun ls hl => ?_)
    refine lv_aload_n hx hb dX0_cut_6 rfl (lv_at hl 0 rfl) ?_
    refine lv_ifnonnull (tgt := 12) hx hb dX0_cut_7 (by decide) ?_
    refine lv_aload_n hx hb dX0_cut_12 rfl (lv_at hl 0 rfl) ?_
    refine va_get (v := va_rf (tk ad (σ 42 ((p0 - 1).toNatClampNeg)))) (D := (dC, dI)) (ci := 2) (C := RX2) (T := TX2) (N := 3) hx hb hts hin2 hown hK hP (6 + nO + ((p0 - 1).toNatClampNeg)) (cw_wr (qq_lt hI c1_)) rfl 2 (by decide) (hts (.fieldLink RX0 125 RX2 "taken" "LSpoolRows$Output;") (by decide +kernel)) (fun _ h9 => h9) rfl dX0_cut_13 ?_
    by_cases c2_ : (σ 42 ((p0 - 1).toNatClampNeg)) = 0
    · rw [tk_none c2_]
      refine W.eq (g2 := F0 m 16 ls [.null]) rfl ?_
      refine lv_astore_nN (lv' := [(3, .null), (2, .ref (wd ((p0 - 1).toNatClampNeg))), (0, .ref h), (1, .int p0)]) hx hb dX0_cut_16 rfl hl (by decide) rfl (fun ls hl => ?_)
      refine lv_aload_nN hx hb dX0_cut_17 rfl (lv_at hl 0 rfl) ?_
      refine lv_ifnonnullN hx hb dX0_cut_18 ?_
      refine lv_bipush (v := (-2)) hx hb dX0_cut_21 (by decide) ?_
      exact w_iret (v := (-2)) (u := σ) hx hb hr hlocks hP hD hS dX0_cut_23 (wpair (by unfold sC_cut; rw [if_neg c1_, if_pos c2_] <;> rfl))
    · rw [tk_some c2_]
      refine W.eq (g2 := F0 m 16 ls [.ref (ad ((σ 42 ((p0 - 1).toNatClampNeg)) - 1).toNatClampNeg)]) rfl ?_
      refine lv_astore_n (lv' := [(3, .ref (ad ((σ 42 ((p0 - 1).toNatClampNeg)) - 1).toNatClampNeg)), (2, .ref (wd ((p0 - 1).toNatClampNeg))), (0, .ref h), (1, .int p0)]) hx hb dX0_cut_16 rfl hl (by decide) rfl (fun ls hl => ?_)
      refine lv_aload_n hx hb dX0_cut_17 rfl (lv_at hl 0 rfl) ?_
      refine lv_ifnonnull (tgt := 24) hx hb dX0_cut_18 (by decide) ?_
      refine lv_aload_n hx hb dX0_cut_24 rfl (lv_at hl 0 rfl) ?_
      refine vp_callSi (W.runV (As := []) (rest := []) ⟨hx, hb, hml, hown, hts⟩ (c_O_lastCheckpoint l dC dI cI cZ cO cW z X h adr ad wd nO nW σ (((σ 42 ((p0 - 1).toNatClampNeg)) - 1).toNatClampNeg) (ct_lt hI c2_ (qq_lt hI c1_))) (cwV 0 hts gX0_cut_X1_lastCheckpoint rfl rfl rfl (by decide +kernel) ⟨Nat.le_of_ble_eq_true rfl, Nat.le_of_ble_eq_true rfl⟩) (wPreV (Nat.le_trans hz hS.1) hP hK hD (va_recv hK hP (ci := 1) (q0 := (6 + (((σ 42 ((p0 - 1).toNatClampNeg)) - 1).toNatClampNeg))) rfl (cw_out (ct_lt hI c2_ (qq_lt hI c1_))))) rfl rfl hl.1 rfl (lv_room (Nat.le_of_ble_eq_true rfl)) dX0_cut_25 ⟨Nat.le_of_ble_eq_true rfl, Nat.le_of_ble_eq_true rfl⟩) (fun r e_ => ?_)
      subst e_
      refine lv_istore (lv' := [(4, .int (sO_lastCheckpoint σ (((σ 42 ((p0 - 1).toNatClampNeg)) - 1).toNatClampNeg))), (3, .ref (ad ((σ 42 ((p0 - 1).toNatClampNeg)) - 1).toNatClampNeg)), (2, .ref (wd ((p0 - 1).toNatClampNeg))), (0, .ref h), (1, .int p0)]) hx hb dX0_cut_28 hl (by decide) rfl (fun ls hl => ?_)
      refine lv_aload_n hx hb dX0_cut_30 rfl (lv_at hl 1 rfl) ?_
      refine va_get (v := .int (σ 32 (((σ 42 ((p0 - 1).toNatClampNeg)) - 1).toNatClampNeg))) (D := (dC, dI)) (ci := 1) (C := RX1) (T := TX1) (N := 13) hx hb hts hin1 hown hK hP (6 + (((σ 42 ((p0 - 1).toNatClampNeg)) - 1).toNatClampNeg)) (cw_out (ct_lt hI c2_ (qq_lt hI c1_))) rfl 12 (by decide) (hts (.fieldLink RX0 152 RX1 "purgeWaits" "Z") (by decide +kernel)) (fun _ h9 => h9) rfl dX0_cut_31 ?_
      refine lv_if_eq (tgt := 51) hx hb dX0_cut_34 (by decide) (fun c3_ => ?_) (fun c3_ => ?_)
      · refine lv_aload_n hx hb dX0_cut_51 rfl (lv_at hl 3 rfl) ?_
        refine lv_dup hx hb dX0_cut_52 rfl ?_
        refine va_get (v := .int (σ 12 0)) (D := (dC, dI)) (ci := 0) (C := RX0) (T := TX0) (N := 13) hx hb hts hin0 hown hK hP 0 rfl rfl 12 (by decide) (hts (.fieldLink RX0 155 RX0 "pagesAgain" "I") (by decide +kernel)) (fun _ h9 => h9) rfl dX0_cut_53 ?_
        refine lv_aload_n hx hb dX0_cut_56 rfl (lv_at hl 1 rfl) ?_
        refine va_get (v := .int (σ 31 (((σ 42 ((p0 - 1).toNatClampNeg)) - 1).toNatClampNeg))) (D := (dC, dI)) (ci := 1) (C := RX1) (T := TX1) (N := 13) hx hb hts hin1 hown hK hP (6 + (((σ 42 ((p0 - 1).toNatClampNeg)) - 1).toNatClampNeg)) (cw_out (ct_lt hI c2_ (qq_lt hI c1_))) rfl 11 (by decide) (hts (.fieldLink RX0 137 RX1 "printed" "I") (by decide +kernel)) (fun _ h9 => h9) rfl dX0_cut_57 ?_
        refine lv_iload hx hb dX0_cut_60 (lv_at hl 0 rfl) ?_
        refine lv_isub hx hb dX0_cut_62 ?_
        refine lv_iadd hx hb dX0_cut_63 ?_
        refine va_put (D := (dC, dI)) (ci := 0) (v := .int ((σ 12 0) + ((σ 31 (((σ 42 ((p0 - 1).toNatClampNeg)) - 1).toNatClampNeg)) - (sO_lastCheckpoint σ (((σ 42 ((p0 - 1).toNatClampNeg)) - 1).toNatClampNeg))))) (ty := .int) (C := RX0) (T := TX0) (N := 13) hx hb hts hin0 tyX0 tyX0_ok nmX0 hown hK hP hD hS 0 rfl rfl 12 (by decide) (hts (.fieldLink RX0 155 RX0 "pagesAgain" "I") (by decide +kernel)) (fun _ h9 => h9) rfl (by decide +kernel) rfl rfl (Nat.le_of_ble_eq_true rfl) dX0_cut_64 (fun H locs hP hD hS => ?_)
        have hP : va_P (dC, dI) vwCl (cWd h adr ad wd nO nW cI cO cW (upd2 σ 12 0 ((σ 12 0) + ((σ 31 (((σ 42 ((p0 - 1).toNatClampNeg)) - 1).toNatClampNeg)) - (sO_lastCheckpoint σ (((σ 42 ((p0 - 1).toNatClampNeg)) - 1).toNatClampNeg))))) ++ X) H := by rw [← cput_12]; exact hP
        have hD : va_D (fun q : Nat => z ≤ q) (cWd h adr ad wd nO nW cI cO cW (upd2 σ 12 0 ((σ 12 0) + ((σ 31 (((σ 42 ((p0 - 1).toNatClampNeg)) - 1).toNatClampNeg)) - (sO_lastCheckpoint σ (((σ 42 ((p0 - 1).toNatClampNeg)) - 1).toNatClampNeg))))) ++ X) := by rw [← cput_12]; exact hD
        refine lv_aload_n hx hb dX0_cut_67 rfl (lv_at hl 1 rfl) ?_
        refine lv_iload hx hb dX0_cut_68 (lv_at hl 0 rfl) ?_
        refine va_put (D := (dC, dI)) (ci := 1) (v := .int (sO_lastCheckpoint σ (((σ 42 ((p0 - 1).toNatClampNeg)) - 1).toNatClampNeg))) (ty := .int) (C := RX1) (T := TX1) (N := 13) hx hb hts hin1 tyX1 tyX1_ok nmX1 hown hK hP hD hS (6 + (((σ 42 ((p0 - 1).toNatClampNeg)) - 1).toNatClampNeg)) (cw_out (ct_lt hI c2_ (qq_lt hI c1_))) rfl 11 (by decide) (hts (.fieldLink RX0 137 RX1 "printed" "I") (by decide +kernel)) (fun _ h9 => h9) rfl (by decide +kernel) rfl rfl (Nat.le_of_ble_eq_true rfl) dX0_cut_70 (fun H locs hP hD hS => ?_)
        have hP : va_P (dC, dI) vwCl (cWd h adr ad wd nO nW cI cO cW (upd2 (upd2 σ 12 0 ((σ 12 0) + ((σ 31 (((σ 42 ((p0 - 1).toNatClampNeg)) - 1).toNatClampNeg)) - (sO_lastCheckpoint σ (((σ 42 ((p0 - 1).toNatClampNeg)) - 1).toNatClampNeg))))) 31 (((σ 42 ((p0 - 1).toNatClampNeg)) - 1).toNatClampNeg) (sO_lastCheckpoint σ (((σ 42 ((p0 - 1).toNatClampNeg)) - 1).toNatClampNeg))) ++ X) H := by rw [← cw_set_out (k := 11) rfl (by decide) (ct_lt hI c2_ (qq_lt hI c1_))]; exact hP
        have hD : va_D (fun q : Nat => z ≤ q) (cWd h adr ad wd nO nW cI cO cW (upd2 (upd2 σ 12 0 ((σ 12 0) + ((σ 31 (((σ 42 ((p0 - 1).toNatClampNeg)) - 1).toNatClampNeg)) - (sO_lastCheckpoint σ (((σ 42 ((p0 - 1).toNatClampNeg)) - 1).toNatClampNeg))))) 31 (((σ 42 ((p0 - 1).toNatClampNeg)) - 1).toNatClampNeg) (sO_lastCheckpoint σ (((σ 42 ((p0 - 1).toNatClampNeg)) - 1).toNatClampNeg))) ++ X) := by rw [← cw_set_out (k := 11) rfl (by decide) (ct_lt hI c2_ (qq_lt hI c1_))]; exact hD
        refine lv_iload hx hb dX0_cut_73 (lv_at hl 0 rfl) ?_
        exact w_iret (v := sO_lastCheckpoint σ (((σ 42 ((p0 - 1).toNatClampNeg)) - 1).toNatClampNeg)) (u := upd2 (upd2 σ 12 0 ((σ 12 0) + ((σ 31 (((σ 42 ((p0 - 1).toNatClampNeg)) - 1).toNatClampNeg)) - (sO_lastCheckpoint σ (((σ 42 ((p0 - 1).toNatClampNeg)) - 1).toNatClampNeg))))) 31 (((σ 42 ((p0 - 1).toNatClampNeg)) - 1).toNatClampNeg) (sO_lastCheckpoint σ (((σ 42 ((p0 - 1).toNatClampNeg)) - 1).toNatClampNeg))) hx hb hr hlocks hP hD hS dX0_cut_75 (wpair (by unfold sC_cut; rw [if_neg c1_, if_neg c2_, if_pos c3_] <;> rfl))
      · refine lv_aload_n hx hb dX0_cut_37 rfl (lv_at hl 2 rfl) ?_
        refine lv_null hx hb dX0_cut_38 ?_
        refine va_put (D := (dC, dI)) (ci := 2) (v := .null) (ty := .object "SpoolRows$Output") (C := RX2) (T := TX2) (N := 3) hx hb hts hin2 tyX2 tyX2_ok nmX2 hown hK hP hD hS (6 + nO + ((p0 - 1).toNatClampNeg)) (cw_wr (qq_lt hI c1_)) rfl 2 (by decide) (hts (.fieldLink RX0 125 RX2 "taken" "LSpoolRows$Output;") (by decide +kernel)) (fun _ h9 => h9) rfl (by decide +kernel) rfl rfl (Nat.le_of_ble_eq_true rfl) dX0_cut_39 (fun H locs hP hD hS => ?_)
        have hP : va_P (dC, dI) vwCl (cWd h adr ad wd nO nW cI cO cW (upd2 σ 42 ((p0 - 1).toNatClampNeg) 0) ++ X) H := by rw [← cw_setT (v := none) (qq_lt hI c1_) (tk_none rfl)]; exact hP
        have hD : va_D (fun q : Nat => z ≤ q) (cWd h adr ad wd nO nW cI cO cW (upd2 σ 42 ((p0 - 1).toNatClampNeg) 0) ++ X) := by rw [← cw_setT (v := none) (qq_lt hI c1_) (tk_none rfl)]; exact hD
        refine lv_aload_n hx hb dX0_cut_42 rfl (lv_at hl 3 rfl) ?_
        refine lv_aload_n hx hb dX0_cut_43 rfl (lv_at hl 1 rfl) ?_
        refine lv_iconst (v := 5) hx hb dX0_cut_44 (by decide) ?_
        refine w_callv (va_runV (As := [.ref (ad ((σ 42 ((p0 - 1).toNatClampNeg)) - 1).toNatClampNeg), .int 5]) (rest := []) ⟨hx, hb, hml, hown, hts⟩ (c_C_letGo l dC dI cI cZ cO cW z X h adr ad wd nO nW (upd2 σ 42 ((p0 - 1).toNatClampNeg) 0) (((σ 42 ((p0 - 1).toNatClampNeg)) - 1).toNatClampNeg) 5 (ct_lt hI c2_ (qq_lt hI c1_))) (cwV 2 hts gX0_cut_X0_letGo rfl rfl rfl (by decide +kernel) ⟨Nat.le_of_ble_eq_true rfl, Nat.le_of_ble_eq_true rfl⟩) (wPreV (Nat.le_trans hz hS.1) hP hK hD (va_recv hK hP (ci := 0) (q0 := 0) rfl rfl)) rfl rfl hl.1 rfl (lv_room (Nat.le_of_ble_eq_true rfl)) dX0_cut_45 ⟨Nat.le_of_ble_eq_true rfl, Nat.le_of_ble_eq_true rfl⟩) hS (fun u H locs e_ hP hD hS => ?_)
        subst e_
        have hP : va_P (dC, dI) vwCl (cWd h adr ad wd nO nW cI cO cW (sC_letGo (upd2 σ 42 ((p0 - 1).toNatClampNeg) 0) (((σ 42 ((p0 - 1).toNatClampNeg)) - 1).toNatClampNeg) 5) ++ X) H := hP
        have hD : va_D (fun q : Nat => z ≤ q) (cWd h adr ad wd nO nW cI cO cW (sC_letGo (upd2 σ 42 ((p0 - 1).toNatClampNeg) 0) (((σ 42 ((p0 - 1).toNatClampNeg)) - 1).toNatClampNeg) 5) ++ X) := hD
        refine lv_goto (tgt := 73) hx hb dX0_cut_48 (by decide) ?_
        refine lv_iload hx hb dX0_cut_73 (lv_at hl 0 rfl) ?_
        exact w_iret (v := sO_lastCheckpoint σ (((σ 42 ((p0 - 1).toNatClampNeg)) - 1).toNatClampNeg)) (u := (sC_letGo (upd2 σ 42 ((p0 - 1).toNatClampNeg) 0) (((σ 42 ((p0 - 1).toNatClampNeg)) - 1).toNatClampNeg) 5)) hx hb hr hlocks hP hD hS dX0_cut_75 (wpair (by unfold sC_cut; rw [if_neg c1_, if_neg c2_, if_neg c3_] <;> rfl))
