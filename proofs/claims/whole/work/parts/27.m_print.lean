set_option maxHeartbeats 4000000 in
set_option maxRecDepth 100000 in
theorem c_M_print (l : Launch) (dC : Nat → ClassId) (dI : Nat → Nat → Nat) (cI cZ cO cW : ClassId) (z : Nat) (X : va_W) (h : Nat) (adr : Nat → Nat) (τ : T2) (p0 : Int32) (p1 : Int32) (hI : mInv τ) : Met l yX3_print wsX3_print ({ frames := 1, cells := 0, slots := 0, locals := 22 }) (wPc (dC, dI) (tyL cI cZ cO cW) z [.ref h, .int p0, .int p1] (mW h adr cI cZ τ ++ X)) (wQi (dC, dI) z (fun u : T2 => mW h adr cI cZ u ++ X) (fun r u => r = (sM_print τ p0 p1).1 ∧ u = (sM_print τ p0 p1).2)) 0 0 (fun q => z ≤ q) := by
  refine en_met (cc := cX3_print) (maxL := 6) (ret := (some .int)) (by decide) rfl (Nat.le_of_ble_eq_true rfl) ?_
  intro p e s m below meth c ls hx hb hml hr hts hown hlocks hnm hv hl
  obtain ⟨hz, hP, hK, hD⟩ := hv
  have hown : s.vm.findClass RX3 = some m.cls := hown
  have hin : ∀ w ∈ wsX30, w ∈ wsX3_print := by decide +kernel
  have hS : va_S (fun q : Nat => z ≤ q) s.heap s.heap [] := va_S.rf
  have hl : lv_has ls 6 [(0, .ref h), (1, .int p0), (2, .int p1)] := hl
  refine lv_aload_n hx hb dX3_print_0 rfl (lv_at hl 0 rfl) ?_
  refine lv_iload_n hx hb dX3_print_1 rfl (lv_at hl 1 rfl) ?_
  refine vp_callSi (W.runV (As := [.int p0]) (rest := []) ⟨hx, hb, hml, hown, hts⟩ (c_M_isWriter l dC dI cI cZ cO cW z X h adr τ p0) (cwV 1 hts gX3_print_X3_isWriter rfl rfl rfl (by decide +kernel) ⟨Nat.le_of_ble_eq_true rfl, Nat.le_of_ble_eq_true rfl⟩) (wPreV (Nat.le_trans hz hS.1) hP hK hD (va_recv hK hP (ci := 3) (q0 := 0) rfl rfl)) rfl rfl hl.1 rfl (lv_room (Nat.le_of_ble_eq_true rfl)) dX3_print_2 ⟨Nat.le_of_ble_eq_true rfl, Nat.le_of_ble_eq_true rfl⟩) (fun r e_ => ?_)
  subst e_
  refine lv_if_eq (tgt := 12) hx hb dX3_print_5 (by decide) (fun c1_ => ?_) (fun c1_ => ?_)
  · refine lv_iconst (v := (-1)) hx hb dX3_print_12 (by decide) ?_
    exact w_iret (v := (-1)) (u := τ) hx hb hr hlocks hP hD hS dX3_print_13 (wpair (by unfold sM_print; rw [if_pos c1_] <;> rfl))
  · refine lv_iload_n hx hb dX3_print_8 rfl (lv_at hl 2 rfl) ?_
    refine lv_if_ge (tgt := 14) hx hb dX3_print_9 (by decide) (fun c2_ => ?_) (fun c2_ => ?_)
    · refine lv_aload_n hx hb dX3_print_14 rfl (lv_at hl 0 rfl) ?_
      refine va_get (D := (dC, dI)) (ci := 3) (v := .ref (adr 18)) (C := RX3) (T := TX3) (N := 24) hx hb hts hin hown hK hP 0 rfl rfl 18 (by decide) (hts (.fieldLink RX3 56 RX3 "has" "[I") (by decide +kernel)) (fun _ h9 => h9) rfl dX3_print_15 ?_
      refine lv_iload_n hx hb dX3_print_18 rfl (lv_at hl 1 rfl) ?_
      refine va_iald (D := (dC, dI)) (i := p0) (f := τ 18) hx hb hK hP 16 0 rfl rfl (mw_in hI c1_) dX3_print_19 ?_
      refine lv_istore_n (lv' := [(3, .int (τ 18 p0.toNatClampNeg)), (0, .ref h), (1, .int p0), (2, .int p1)]) hx hb dX3_print_20 rfl hl (by decide) rfl (fun ls hl => ?_)
      refine lv_iload_n hx hb dX3_print_21 rfl (lv_at hl 0 rfl) ?_
      refine lv_if_ne (tgt := 28) hx hb dX3_print_22 (by decide) (fun c3_ => ?_) (fun c3_ => ?_)
      · refine lv_aload_n hx hb dX3_print_28 rfl (lv_at hl 1 rfl) ?_
        refine lv_iload_n hx hb dX3_print_29 rfl (lv_at hl 0 rfl) ?_
        refine vp_callSi (W.runV (As := [.int (τ 18 p0.toNatClampNeg)]) (rest := []) ⟨hx, hb, hml, hown, hts⟩ (c_M_pagesOf l dC dI cI cZ cO cW z X h adr τ (τ 18 p0.toNatClampNeg) (mh_in hI _)) (cwV 1 hts gX3_print_X3_pagesOf rfl rfl rfl (by decide +kernel) ⟨Nat.le_of_ble_eq_true rfl, Nat.le_of_ble_eq_true rfl⟩) (wPreV (Nat.le_trans hz hS.1) hP hK hD (va_recv hK hP (ci := 3) (q0 := 0) rfl rfl)) rfl rfl hl.1 rfl (lv_room (Nat.le_of_ble_eq_true rfl)) dX3_print_30 ⟨Nat.le_of_ble_eq_true rfl, Nat.le_of_ble_eq_true rfl⟩) (fun r e_ => ?_)
        subst e_
        refine lv_aload_n hx hb dX3_print_33 rfl (lv_at hl 1 rfl) ?_
        refine va_get (D := (dC, dI)) (ci := 3) (v := .ref (adr 3)) (C := RX3) (T := TX3) (N := 24) hx hb hts hin hown hK hP 0 rfl rfl 3 (by decide) (hts (.fieldLink RX3 16 RX3 "copies" "[I") (by decide +kernel)) (fun _ h9 => h9) rfl dX3_print_34 ?_
        refine lv_iload_n hx hb dX3_print_37 rfl (lv_at hl 0 rfl) ?_
        refine va_iald (D := (dC, dI)) (i := τ 18 p0.toNatClampNeg) (f := τ 3) hx hb hK hP 3 0 rfl rfl (mh_in hI _) dX3_print_38 ?_
        refine lv_imul hx hb dX3_print_39 ?_
        refine lv_aload_n hx hb dX3_print_40 rfl (lv_at hl 1 rfl) ?_
        refine va_get (D := (dC, dI)) (ci := 3) (v := .ref (adr 9)) (C := RX3) (T := TX3) (N := 24) hx hb hts hin hown hK hP 0 rfl rfl 9 (by decide) (hts (.fieldLink RX3 34 RX3 "done" "[I") (by decide +kernel)) (fun _ h9 => h9) rfl dX3_print_41 ?_
        refine lv_iload_n hx hb dX3_print_44 rfl (lv_at hl 0 rfl) ?_
        refine va_iald (D := (dC, dI)) (i := τ 18 p0.toNatClampNeg) (f := τ 9) hx hb hK hP 9 0 rfl rfl (mh_in hI _) dX3_print_45 ?_
        refine lv_isub hx hb dX3_print_46 ?_
        refine lv_istore (lv' := [(4, .int (((sM_pagesOf τ (τ 18 p0.toNatClampNeg)) * (τ 3 ((τ 18 p0.toNatClampNeg).toNatClampNeg))) - (τ 9 ((τ 18 p0.toNatClampNeg).toNatClampNeg)))), (3, .int (τ 18 p0.toNatClampNeg)), (0, .ref h), (1, .int p0), (2, .int p1)]) hx hb dX3_print_47 hl (by decide) rfl (fun ls hl => ?_)
        refine lv_iload_n hx hb dX3_print_49 rfl (lv_at hl 4 rfl) ?_
        refine lv_iload hx hb dX3_print_50 (lv_at hl 0 rfl) ?_
        refine lv_icmp_ge (tgt := 59) hx hb dX3_print_52 (by decide) (fun c4_ => ?_) (fun c4_ => ?_)
        · refine lv_iload hx hb dX3_print_59 (lv_at hl 0 rfl) ?_
          refine lv_istore (lv' := [(5, .int (((sM_pagesOf τ (τ 18 p0.toNatClampNeg)) * (τ 3 ((τ 18 p0.toNatClampNeg).toNatClampNeg))) - (τ 9 ((τ 18 p0.toNatClampNeg).toNatClampNeg)))), (4, .int (((sM_pagesOf τ (τ 18 p0.toNatClampNeg)) * (τ 3 ((τ 18 p0.toNatClampNeg).toNatClampNeg))) - (τ 9 ((τ 18 p0.toNatClampNeg).toNatClampNeg)))), (3, .int (τ 18 p0.toNatClampNeg)), (0, .ref h), (1, .int p0), (2, .int p1)]) hx hb dX3_print_61 hl (by decide) rfl (fun ls hl => ?_)
          refine lv_aload_n hx hb dX3_print_63 rfl (lv_at hl 3 rfl) ?_
          refine va_get (D := (dC, dI)) (ci := 3) (v := .ref (adr 9)) (C := RX3) (T := TX3) (N := 24) hx hb hts hin hown hK hP 0 rfl rfl 9 (by decide) (hts (.fieldLink RX3 34 RX3 "done" "[I") (by decide +kernel)) (fun _ h9 => h9) rfl dX3_print_64 ?_
          refine lv_iload_n hx hb dX3_print_67 rfl (lv_at hl 2 rfl) ?_
          refine lv_dup2_11 hx hb dX3_print_68 rfl rfl ?_
          refine va_iald (D := (dC, dI)) (i := τ 18 p0.toNatClampNeg) (f := τ 9) hx hb hK hP 9 0 rfl rfl (mh_in hI _) dX3_print_69 ?_
          refine lv_iload hx hb dX3_print_70 (lv_at hl 0 rfl) ?_
          refine lv_iadd hx hb dX3_print_72 ?_
          refine va_iast (D := (dC, dI)) (i := τ 18 p0.toNatClampNeg) (x := (τ 9 ((τ 18 p0.toNatClampNeg).toNatClampNeg)) + (((sM_pagesOf τ (τ 18 p0.toNatClampNeg)) * (τ 3 ((τ 18 p0.toNatClampNeg).toNatClampNeg))) - (τ 9 ((τ 18 p0.toNatClampNeg).toNatClampNeg)))) (f := τ 9) hx hb hK hP hD hS 9 0 rfl rfl (mh_in hI _) dX3_print_73 (fun H locs hP hD hS => ?_)
          have hP : va_P (dC, dI) vwCl (mW h adr cI cZ (upd2 τ 9 ((τ 18 p0.toNatClampNeg).toNatClampNeg) ((τ 9 ((τ 18 p0.toNatClampNeg).toNatClampNeg)) + (((sM_pagesOf τ (τ 18 p0.toNatClampNeg)) * (τ 3 ((τ 18 p0.toNatClampNeg).toNatClampNeg))) - (τ 9 ((τ 18 p0.toNatClampNeg).toNatClampNeg))))) ++ X) H := by rw [← mput_9]; exact hP
          have hD : va_D (fun q : Nat => z ≤ q) (mW h adr cI cZ (upd2 τ 9 ((τ 18 p0.toNatClampNeg).toNatClampNeg) ((τ 9 ((τ 18 p0.toNatClampNeg).toNatClampNeg)) + (((sM_pagesOf τ (τ 18 p0.toNatClampNeg)) * (τ 3 ((τ 18 p0.toNatClampNeg).toNatClampNeg))) - (τ 9 ((τ 18 p0.toNatClampNeg).toNatClampNeg))))) ++ X) := by rw [← mput_9]; exact hD
          refine lv_aload_n hx hb dX3_print_74 rfl (lv_at hl 3 rfl) ?_
          refine lv_dup hx hb dX3_print_75 rfl ?_
          refine va_get (D := (dC, dI)) (ci := 3) (v := .int (τ 22 0)) (C := RX3) (T := TX3) (N := 24) hx hb hts hin hown hK hP 0 rfl rfl 22 (by decide) (hts (.fieldLink RX3 107 RX3 "pagesPrinted" "I") (by decide +kernel)) (fun _ h9 => h9) rfl dX3_print_76 ?_
          refine lv_iload hx hb dX3_print_79 (lv_at hl 0 rfl) ?_
          refine lv_iadd hx hb dX3_print_81 ?_
          refine va_put (D := (dC, dI)) (ci := 3) (v := .int ((τ 22 0) + (((sM_pagesOf τ (τ 18 p0.toNatClampNeg)) * (τ 3 ((τ 18 p0.toNatClampNeg).toNatClampNeg))) - (τ 9 ((τ 18 p0.toNatClampNeg).toNatClampNeg))))) (ty := .int) (C := RX3) (T := TX3) (N := 24) hx hb hts hin tyX3 tyX3_ok nmX3 hown hK hP hD hS 0 rfl rfl 22 (by decide) (hts (.fieldLink RX3 107 RX3 "pagesPrinted" "I") (by decide +kernel)) (fun _ h9 => h9) rfl (by decide +kernel) rfl rfl (Nat.le_of_ble_eq_true rfl) dX3_print_82 (fun H locs hP hD hS => ?_)
          have hP : va_P (dC, dI) vwCl (mW h adr cI cZ (upd2 (upd2 τ 9 ((τ 18 p0.toNatClampNeg).toNatClampNeg) ((τ 9 ((τ 18 p0.toNatClampNeg).toNatClampNeg)) + (((sM_pagesOf τ (τ 18 p0.toNatClampNeg)) * (τ 3 ((τ 18 p0.toNatClampNeg).toNatClampNeg))) - (τ 9 ((τ 18 p0.toNatClampNeg).toNatClampNeg))))) 22 0 ((τ 22 0) + (((sM_pagesOf τ (τ 18 p0.toNatClampNeg)) * (τ 3 ((τ 18 p0.toNatClampNeg).toNatClampNeg))) - (τ 9 ((τ 18 p0.toNatClampNeg).toNatClampNeg))))) ++ X) H := by rw [← mput_22]; exact hP
          have hD : va_D (fun q : Nat => z ≤ q) (mW h adr cI cZ (upd2 (upd2 τ 9 ((τ 18 p0.toNatClampNeg).toNatClampNeg) ((τ 9 ((τ 18 p0.toNatClampNeg).toNatClampNeg)) + (((sM_pagesOf τ (τ 18 p0.toNatClampNeg)) * (τ 3 ((τ 18 p0.toNatClampNeg).toNatClampNeg))) - (τ 9 ((τ 18 p0.toNatClampNeg).toNatClampNeg))))) 22 0 ((τ 22 0) + (((sM_pagesOf τ (τ 18 p0.toNatClampNeg)) * (τ 3 ((τ 18 p0.toNatClampNeg).toNatClampNeg))) - (τ 9 ((τ 18 p0.toNatClampNeg).toNatClampNeg))))) ++ X) := by rw [← mput_22]; exact hD
          refine lv_iload hx hb dX3_print_85 (lv_at hl 0 rfl) ?_
          refine lv_iload hx hb dX3_print_87 (lv_at hl 1 rfl) ?_
          refine lv_icmp_ge (tgt := 95) hx hb dX3_print_89 (by decide) (fun c5_ => ?_) (fun c5_ => ?_)
          · refine lv_aload_n hx hb dX3_print_95 rfl (lv_at hl 3 rfl) ?_
            refine lv_iload_n hx hb dX3_print_96 rfl (lv_at hl 2 rfl) ?_
            refine lv_iconst (v := 4) hx hb dX3_print_97 (by decide) ?_
            refine w_callv (va_runV (As := [.int (τ 18 p0.toNatClampNeg), .int 4]) (rest := []) ⟨hx, hb, hml, hown, hts⟩ (c_M_goes l dC dI cI cZ cO cW z X h adr (upd2 (upd2 τ 9 ((τ 18 p0.toNatClampNeg).toNatClampNeg) ((τ 9 ((τ 18 p0.toNatClampNeg).toNatClampNeg)) + (((sM_pagesOf τ (τ 18 p0.toNatClampNeg)) * (τ 3 ((τ 18 p0.toNatClampNeg).toNatClampNeg))) - (τ 9 ((τ 18 p0.toNatClampNeg).toNatClampNeg))))) 22 0 ((τ 22 0) + (((sM_pagesOf τ (τ 18 p0.toNatClampNeg)) * (τ 3 ((τ 18 p0.toNatClampNeg).toNatClampNeg))) - (τ 9 ((τ 18 p0.toNatClampNeg).toNatClampNeg))))) (τ 18 p0.toNatClampNeg) 4 (mh_in hI _)) (cwV 2 hts gX3_print_X3_goes rfl rfl rfl (by decide +kernel) ⟨Nat.le_of_ble_eq_true rfl, Nat.le_of_ble_eq_true rfl⟩) (wPreV (Nat.le_trans hz hS.1) hP hK hD (va_recv hK hP (ci := 3) (q0 := 0) rfl rfl)) rfl rfl hl.1 rfl (lv_room (Nat.le_of_ble_eq_true rfl)) dX3_print_98 ⟨Nat.le_of_ble_eq_true rfl, Nat.le_of_ble_eq_true rfl⟩) hS (fun t6_ H locs ht6_ hP hD hS => ?_)
            have hP : va_P (dC, dI) vwCl (mW h adr cI cZ t6_ ++ X) H := hP
            have hD : va_D (fun q : Nat => z ≤ q) (mW h adr cI cZ t6_ ++ X) := hD
            refine lv_aload_n hx hb dX3_print_101 rfl (lv_at hl 3 rfl) ?_
            refine va_get (D := (dC, dI)) (ci := 3) (v := .ref (adr 20)) (C := RX3) (T := TX3) (N := 24) hx hb hts hin hown hK hP 0 rfl rfl 20 (by decide) (hts (.fieldLink RX3 59 RX3 "printed" "[I") (by decide +kernel)) (fun _ h9 => h9) rfl dX3_print_102 ?_
            refine lv_aload_n hx hb dX3_print_105 rfl (lv_at hl 3 rfl) ?_
            refine va_get (D := (dC, dI)) (ci := 3) (v := .int (t6_ 21 0)) (C := RX3) (T := TX3) (N := 24) hx hb hts hin hown hK hP 0 rfl rfl 21 (by decide) (hts (.fieldLink RX3 110 RX3 "finished" "I") (by decide +kernel)) (fun _ h9 => h9) rfl dX3_print_106 ?_
            refine lv_iload_n hx hb dX3_print_109 rfl (lv_at hl 2 rfl) ?_
            refine va_iast (D := (dC, dI)) (i := t6_ 21 0) (x := τ 18 p0.toNatClampNeg) (f := t6_ 20) hx hb hK hP hD hS 17 0 rfl rfl (by rw [ht6_]; exact mf_in hI) dX3_print_110 (fun H locs hP hD hS => ?_)
            have hP : va_P (dC, dI) vwCl (mW h adr cI cZ (upd2 t6_ 20 ((t6_ 21 0).toNatClampNeg) (τ 18 p0.toNatClampNeg)) ++ X) H := by rw [← mput_20]; exact hP
            have hD : va_D (fun q : Nat => z ≤ q) (mW h adr cI cZ (upd2 t6_ 20 ((t6_ 21 0).toNatClampNeg) (τ 18 p0.toNatClampNeg)) ++ X) := by rw [← mput_20]; exact hD
            refine lv_aload_n hx hb dX3_print_111 rfl (lv_at hl 3 rfl) ?_
            refine lv_dup hx hb dX3_print_112 rfl ?_
            refine va_get (D := (dC, dI)) (ci := 3) (v := .int (t6_ 21 0)) (C := RX3) (T := TX3) (N := 24) hx hb hts hin hown hK hP 0 rfl rfl 21 (by decide) (hts (.fieldLink RX3 110 RX3 "finished" "I") (by decide +kernel)) (fun _ h9 => h9) rfl dX3_print_113 ?_
            refine lv_iconst (v := 1) hx hb dX3_print_116 (by decide) ?_
            refine lv_iadd hx hb dX3_print_117 ?_
            refine va_put (D := (dC, dI)) (ci := 3) (v := .int ((t6_ 21 0) + 1)) (ty := .int) (C := RX3) (T := TX3) (N := 24) hx hb hts hin tyX3 tyX3_ok nmX3 hown hK hP hD hS 0 rfl rfl 21 (by decide) (hts (.fieldLink RX3 110 RX3 "finished" "I") (by decide +kernel)) (fun _ h9 => h9) rfl (by decide +kernel) rfl rfl (Nat.le_of_ble_eq_true rfl) dX3_print_118 (fun H locs hP hD hS => ?_)
            have hP : va_P (dC, dI) vwCl (mW h adr cI cZ (upd2 (upd2 t6_ 20 ((t6_ 21 0).toNatClampNeg) (τ 18 p0.toNatClampNeg)) 21 0 ((t6_ 21 0) + 1)) ++ X) H := by rw [← mput_21]; exact hP
            have hD : va_D (fun q : Nat => z ≤ q) (mW h adr cI cZ (upd2 (upd2 t6_ 20 ((t6_ 21 0).toNatClampNeg) (τ 18 p0.toNatClampNeg)) 21 0 ((t6_ 21 0) + 1)) ++ X) := by rw [← mput_21]; exact hD
            refine lv_aload_n hx hb dX3_print_121 rfl (lv_at hl 3 rfl) ?_
            refine va_get (D := (dC, dI)) (ci := 3) (v := .ref (adr 18)) (C := RX3) (T := TX3) (N := 24) hx hb hts hin hown hK hP 0 rfl rfl 18 (by decide) (hts (.fieldLink RX3 56 RX3 "has" "[I") (by decide +kernel)) (fun _ h9 => h9) rfl dX3_print_122 ?_
            refine lv_iload_n hx hb dX3_print_125 rfl (lv_at hl 4 rfl) ?_
            refine lv_iconst (v := 0) hx hb dX3_print_126 (by decide) ?_
            refine va_iast (D := (dC, dI)) (i := p0) (x := 0) (f := (upd2 (upd2 t6_ 20 ((t6_ 21 0).toNatClampNeg) (τ 18 p0.toNatClampNeg)) 21 0 ((t6_ 21 0) + 1)) 18) hx hb hK hP hD hS 16 0 rfl rfl (mw_in hI c1_) dX3_print_127 (fun H locs hP hD hS => ?_)
            have hP : va_P (dC, dI) vwCl (mW h adr cI cZ (upd2 (upd2 (upd2 t6_ 20 ((t6_ 21 0).toNatClampNeg) (τ 18 p0.toNatClampNeg)) 21 0 ((t6_ 21 0) + 1)) 18 p0.toNatClampNeg 0) ++ X) H := by rw [← mput_18]; exact hP
            have hD : va_D (fun q : Nat => z ≤ q) (mW h adr cI cZ (upd2 (upd2 (upd2 t6_ 20 ((t6_ 21 0).toNatClampNeg) (τ 18 p0.toNatClampNeg)) 21 0 ((t6_ 21 0) + 1)) 18 p0.toNatClampNeg 0) ++ X) := by rw [← mput_18]; exact hD
            refine lv_iload hx hb dX3_print_128 (lv_at hl 0 rfl) ?_
            subst ht6_
            exact w_iret (v := ((sM_pagesOf τ (τ 18 p0.toNatClampNeg)) * (τ 3 ((τ 18 p0.toNatClampNeg).toNatClampNeg))) - (τ 9 ((τ 18 p0.toNatClampNeg).toNatClampNeg))) (u := upd2 (upd2 (upd2 (sM_goes (upd2 (upd2 τ 9 ((τ 18 p0.toNatClampNeg).toNatClampNeg) ((τ 9 ((τ 18 p0.toNatClampNeg).toNatClampNeg)) + (((sM_pagesOf τ (τ 18 p0.toNatClampNeg)) * (τ 3 ((τ 18 p0.toNatClampNeg).toNatClampNeg))) - (τ 9 ((τ 18 p0.toNatClampNeg).toNatClampNeg))))) 22 0 ((τ 22 0) + (((sM_pagesOf τ (τ 18 p0.toNatClampNeg)) * (τ 3 ((τ 18 p0.toNatClampNeg).toNatClampNeg))) - (τ 9 ((τ 18 p0.toNatClampNeg).toNatClampNeg))))) (τ 18 p0.toNatClampNeg) 4) 20 (((sM_goes (upd2 (upd2 τ 9 ((τ 18 p0.toNatClampNeg).toNatClampNeg) ((τ 9 ((τ 18 p0.toNatClampNeg).toNatClampNeg)) + (((sM_pagesOf τ (τ 18 p0.toNatClampNeg)) * (τ 3 ((τ 18 p0.toNatClampNeg).toNatClampNeg))) - (τ 9 ((τ 18 p0.toNatClampNeg).toNatClampNeg))))) 22 0 ((τ 22 0) + (((sM_pagesOf τ (τ 18 p0.toNatClampNeg)) * (τ 3 ((τ 18 p0.toNatClampNeg).toNatClampNeg))) - (τ 9 ((τ 18 p0.toNatClampNeg).toNatClampNeg))))) (τ 18 p0.toNatClampNeg) 4) 21 0).toNatClampNeg) (τ 18 p0.toNatClampNeg)) 21 0 (((sM_goes (upd2 (upd2 τ 9 ((τ 18 p0.toNatClampNeg).toNatClampNeg) ((τ 9 ((τ 18 p0.toNatClampNeg).toNatClampNeg)) + (((sM_pagesOf τ (τ 18 p0.toNatClampNeg)) * (τ 3 ((τ 18 p0.toNatClampNeg).toNatClampNeg))) - (τ 9 ((τ 18 p0.toNatClampNeg).toNatClampNeg))))) 22 0 ((τ 22 0) + (((sM_pagesOf τ (τ 18 p0.toNatClampNeg)) * (τ 3 ((τ 18 p0.toNatClampNeg).toNatClampNeg))) - (τ 9 ((τ 18 p0.toNatClampNeg).toNatClampNeg))))) (τ 18 p0.toNatClampNeg) 4) 21 0) + 1)) 18 p0.toNatClampNeg 0) hx hb hr hlocks hP hD hS dX3_print_130 (wpair (by unfold sM_print; rw [if_neg c1_, if_pos c2_, if_neg c3_, if_pos c4_, if_pos c5_] <;> rfl))
          · refine lv_iload hx hb dX3_print_92 (lv_at hl 0 rfl) ?_
            exact w_iret (v := ((sM_pagesOf τ (τ 18 p0.toNatClampNeg)) * (τ 3 ((τ 18 p0.toNatClampNeg).toNatClampNeg))) - (τ 9 ((τ 18 p0.toNatClampNeg).toNatClampNeg))) (u := upd2 (upd2 τ 9 ((τ 18 p0.toNatClampNeg).toNatClampNeg) ((τ 9 ((τ 18 p0.toNatClampNeg).toNatClampNeg)) + (((sM_pagesOf τ (τ 18 p0.toNatClampNeg)) * (τ 3 ((τ 18 p0.toNatClampNeg).toNatClampNeg))) - (τ 9 ((τ 18 p0.toNatClampNeg).toNatClampNeg))))) 22 0 ((τ 22 0) + (((sM_pagesOf τ (τ 18 p0.toNatClampNeg)) * (τ 3 ((τ 18 p0.toNatClampNeg).toNatClampNeg))) - (τ 9 ((τ 18 p0.toNatClampNeg).toNatClampNeg))))) hx hb hr hlocks hP hD hS dX3_print_94 (wpair (by unfold sM_print; rw [if_neg c1_, if_pos c2_, if_neg c3_, if_pos c4_, if_neg c5_] <;> rfl))
        · refine lv_iload_n hx hb dX3_print_55 rfl (lv_at hl 4 rfl) ?_
          refine lv_goto (tgt := 61) hx hb dX3_print_56 (by decide) ?_
          refine lv_istore (lv' := [(5, .int p1), (4, .int (((sM_pagesOf τ (τ 18 p0.toNatClampNeg)) * (τ 3 ((τ 18 p0.toNatClampNeg).toNatClampNeg))) - (τ 9 ((τ 18 p0.toNatClampNeg).toNatClampNeg)))), (3, .int (τ 18 p0.toNatClampNeg)), (0, .ref h), (1, .int p0), (2, .int p1)]) hx hb dX3_print_61 hl (by decide) rfl (fun ls hl => ?_)
          refine lv_aload_n hx hb dX3_print_63 rfl (lv_at hl 3 rfl) ?_
          refine va_get (D := (dC, dI)) (ci := 3) (v := .ref (adr 9)) (C := RX3) (T := TX3) (N := 24) hx hb hts hin hown hK hP 0 rfl rfl 9 (by decide) (hts (.fieldLink RX3 34 RX3 "done" "[I") (by decide +kernel)) (fun _ h9 => h9) rfl dX3_print_64 ?_
          refine lv_iload_n hx hb dX3_print_67 rfl (lv_at hl 2 rfl) ?_
          refine lv_dup2_11 hx hb dX3_print_68 rfl rfl ?_
          refine va_iald (D := (dC, dI)) (i := τ 18 p0.toNatClampNeg) (f := τ 9) hx hb hK hP 9 0 rfl rfl (mh_in hI _) dX3_print_69 ?_
          refine lv_iload hx hb dX3_print_70 (lv_at hl 0 rfl) ?_
          refine lv_iadd hx hb dX3_print_72 ?_
          refine va_iast (D := (dC, dI)) (i := τ 18 p0.toNatClampNeg) (x := (τ 9 ((τ 18 p0.toNatClampNeg).toNatClampNeg)) + p1) (f := τ 9) hx hb hK hP hD hS 9 0 rfl rfl (mh_in hI _) dX3_print_73 (fun H locs hP hD hS => ?_)
          have hP : va_P (dC, dI) vwCl (mW h adr cI cZ (upd2 τ 9 ((τ 18 p0.toNatClampNeg).toNatClampNeg) ((τ 9 ((τ 18 p0.toNatClampNeg).toNatClampNeg)) + p1)) ++ X) H := by rw [← mput_9]; exact hP
          have hD : va_D (fun q : Nat => z ≤ q) (mW h adr cI cZ (upd2 τ 9 ((τ 18 p0.toNatClampNeg).toNatClampNeg) ((τ 9 ((τ 18 p0.toNatClampNeg).toNatClampNeg)) + p1)) ++ X) := by rw [← mput_9]; exact hD
          refine lv_aload_n hx hb dX3_print_74 rfl (lv_at hl 3 rfl) ?_
          refine lv_dup hx hb dX3_print_75 rfl ?_
          refine va_get (D := (dC, dI)) (ci := 3) (v := .int (τ 22 0)) (C := RX3) (T := TX3) (N := 24) hx hb hts hin hown hK hP 0 rfl rfl 22 (by decide) (hts (.fieldLink RX3 107 RX3 "pagesPrinted" "I") (by decide +kernel)) (fun _ h9 => h9) rfl dX3_print_76 ?_
          refine lv_iload hx hb dX3_print_79 (lv_at hl 0 rfl) ?_
          refine lv_iadd hx hb dX3_print_81 ?_
          refine va_put (D := (dC, dI)) (ci := 3) (v := .int ((τ 22 0) + p1)) (ty := .int) (C := RX3) (T := TX3) (N := 24) hx hb hts hin tyX3 tyX3_ok nmX3 hown hK hP hD hS 0 rfl rfl 22 (by decide) (hts (.fieldLink RX3 107 RX3 "pagesPrinted" "I") (by decide +kernel)) (fun _ h9 => h9) rfl (by decide +kernel) rfl rfl (Nat.le_of_ble_eq_true rfl) dX3_print_82 (fun H locs hP hD hS => ?_)
          have hP : va_P (dC, dI) vwCl (mW h adr cI cZ (upd2 (upd2 τ 9 ((τ 18 p0.toNatClampNeg).toNatClampNeg) ((τ 9 ((τ 18 p0.toNatClampNeg).toNatClampNeg)) + p1)) 22 0 ((τ 22 0) + p1)) ++ X) H := by rw [← mput_22]; exact hP
          have hD : va_D (fun q : Nat => z ≤ q) (mW h adr cI cZ (upd2 (upd2 τ 9 ((τ 18 p0.toNatClampNeg).toNatClampNeg) ((τ 9 ((τ 18 p0.toNatClampNeg).toNatClampNeg)) + p1)) 22 0 ((τ 22 0) + p1)) ++ X) := by rw [← mput_22]; exact hD
          refine lv_iload hx hb dX3_print_85 (lv_at hl 0 rfl) ?_
          refine lv_iload hx hb dX3_print_87 (lv_at hl 1 rfl) ?_
          refine lv_icmp_ge (tgt := 95) hx hb dX3_print_89 (by decide) (fun z_ => absurd z_ c4_) (fun _ => ?_)
          refine lv_iload hx hb dX3_print_92 (lv_at hl 0 rfl) ?_
          exact w_iret (v := p1) (u := upd2 (upd2 τ 9 ((τ 18 p0.toNatClampNeg).toNatClampNeg) ((τ 9 ((τ 18 p0.toNatClampNeg).toNatClampNeg)) + p1)) 22 0 ((τ 22 0) + p1)) hx hb hr hlocks hP hD hS dX3_print_94 (wpair (by unfold sM_print; rw [if_neg c1_, if_pos c2_, if_neg c3_, if_neg c4_] <;> rfl))
      · refine lv_bipush (v := (-2)) hx hb dX3_print_25 (by decide) ?_
        exact w_iret (v := (-2)) (u := τ) hx hb hr hlocks hP hD hS dX3_print_27 (wpair (by unfold sM_print; rw [if_neg c1_, if_pos c2_, if_pos c3_] <;> rfl))
    · refine lv_iconst (v := (-1)) hx hb dX3_print_12 (by decide) ?_
      exact w_iret (v := (-1)) (u := τ) hx hb hr hlocks hP hD hS dX3_print_13 (wpair (by unfold sM_print; rw [if_neg c1_, if_neg c2_] <;> rfl))
