set_option maxHeartbeats 4000000 in
set_option maxRecDepth 100000 in
theorem c_C_line (l : Launch) (dC : Nat → ClassId) (dI : Nat → Nat → Nat) (cI cZ cO cW : ClassId) (z : Nat) (X : va_W) (h : Nat) (adr ad wd : Nat → Nat) (nO nW : Nat) (σ : T2) (p0 : Int32) (p1 : Int32) (hI : cInv nO nW σ) : Met l yX0_line wsX0_line ({ frames := 2, cells := 0, slots := 0, locals := 44 }) (wPc (dC, dI) (tyL cI cZ cO cW) z [.ref h, .int p0, .int p1] (cWd h adr ad wd nO nW cI cO cW σ ++ X)) (wQi (dC, dI) z (fun u : T2 => cWd h adr ad wd nO nW cI cO cW u ++ X) (fun r u => r = (sC_line σ p0 p1).1 ∧ u = (sC_line σ p0 p1).2)) 0 0 (fun q => z ≤ q) := by
  refine en_met (cc := cX0_line) (maxL := 5) (ret := (some .int)) (by decide) rfl (Nat.le_of_ble_eq_true rfl) ?_
  intro p e s m below meth c ls hx hb hml hr hts hown hlocks hnm hv hl
  obtain ⟨hz, hP, hK, hD⟩ := hv
  have hown : s.vm.findClass RX0 = some m.cls := hown
  have hS : va_S (fun q : Nat => z ≤ q) s.heap s.heap [] := va_S.rf
  have hin1 : ∀ w ∈ wsX10, w ∈ wsX0_line := by decide +kernel
  have hl : lv_has ls 5 [(0, .ref h), (1, .int p0), (2, .int p1)] := hl
  refine lv_aload_n hx hb dX0_line_0 rfl (lv_at hl 0 rfl) ?_
  refine lv_iload_n hx hb dX0_line_1 rfl (lv_at hl 1 rfl) ?_
  refine va_csq (W.runV (As := [.int p0]) (rest := []) ⟨hx, hb, hml, hown, hts⟩ (c_C_outputOf l dC dI cI cZ cO cW z X h adr ad wd nO nW σ p0 (oi hI)) (cwV 1 hts gX0_line_X0_outputOf rfl rfl rfl (by decide +kernel) ⟨Nat.le_of_ble_eq_true rfl, Nat.le_of_ble_eq_true rfl⟩) (wPreV (Nat.le_trans hz hS.1) hP hK hD (va_recv hK hP (ci := 0) (q0 := 0) rfl rfl)) rfl rfl hl.1 rfl (lv_room (Nat.le_of_ble_eq_true rfl)) dX0_line_2 ⟨Nat.le_of_ble_eq_true rfl, Nat.le_of_ble_eq_true rfl⟩) (fun r e_ => ?_)
  subst e_
  by_cases c1_ : (sC_isWithin p0 1 (σ 3 0)) = 0
  · rw [oo_none c1_]
    refine W.eq (g2 := F0 m 5 ls [.null]) rfl ?_
    refine lv_astore_nN (lv' := [(3, .null), (0, .ref h), (1, .int p0), (2, .int p1)]) hx hb dX0_line_5 rfl hl (by decide) rfl (fun ls hl => ?_)
    refine lv_aload_nN hx hb dX0_line_6 rfl (lv_at hl 0 rfl) ?_
    refine lv_ifnullN (tgt := 20) hx hb dX0_line_7 (by decide) ?_
    refine lv_iconst (v := (-1)) hx hb dX0_line_20 (by decide) ?_
    exact w_iret (v := (-1)) (u := σ) hx hb hr hlocks hP hD hS dX0_line_21 (wpair (by unfold sC_line; rw [if_pos c1_] <;> rfl))
  · rw [oo_some c1_]
    refine W.eq (g2 := F0 m 5 ls [.ref (ad ((p0 - 1).toNatClampNeg))]) rfl ?_
    refine lv_astore_n (lv' := [(3, .ref (ad ((p0 - 1).toNatClampNeg))), (0, .ref h), (1, .int p0), (2, .int p1)]) hx hb dX0_line_5 rfl hl (by decide) rfl (fun ls hl => ?_)
    refine lv_aload_n hx hb dX0_line_6 rfl (lv_at hl 0 rfl) ?_
    refine lv_ifnull hx hb dX0_line_7 ?_
    refine lv_iload_n hx hb dX0_line_10 rfl (lv_at hl 3 rfl) ?_
    refine lv_iconst (v := 0) hx hb dX0_line_11 (by decide) ?_
    refine lv_ldc (v := 34047) hx hb hown (hts (.constant RX0 67 34047) (by decide +kernel)) dX0_line_12 ?_
    refine vp_callSi (W.runS (As := [.int p1, .int 0, .int 34047]) (rest := []) ⟨hx, hb, hml, hown, hts⟩ (c_C_isWithin l dC dI cI cZ cO cW z X h adr ad wd nO nW σ p1 0 34047) (va_cwS 3 hts gX0_line_X0_isWithin rfl rfl rfl (by decide +kernel) ⟨Nat.le_of_ble_eq_true rfl, Nat.le_of_ble_eq_true rfl⟩) (wPreS (Nat.le_trans hz hS.1) hP hK hD) rfl rfl hl.1 rfl (lv_room (Nat.le_of_ble_eq_true rfl)) dX0_line_14 ⟨Nat.le_of_ble_eq_true rfl, Nat.le_of_ble_eq_true rfl⟩) (fun r e_ => ?_)
    subst e_
    refine lv_if_ne (tgt := 22) hx hb dX0_line_17 (by decide) (fun c2_ => ?_) (fun c2_ => ?_)
    · refine lv_aload_n hx hb dX0_line_22 rfl (lv_at hl 0 rfl) ?_
      refine va_get (v := .int (σ 26 ((p0 - 1).toNatClampNeg))) (D := (dC, dI)) (ci := 1) (C := RX1) (T := TX1) (N := 13) hx hb hts hin1 hown hK hP (6 + ((p0 - 1).toNatClampNeg)) (cw_out (oo_lt (oi hI) c1_)) rfl 6 (by decide) (hts (.fieldLink RX0 68 RX1 "state" "I") (by decide +kernel)) (fun _ h9 => h9) rfl dX0_line_23 ?_
      refine lv_iconst (v := 1) hx hb dX0_line_26 (by decide) ?_
      refine lv_icmp_eq (tgt := 33) hx hb dX0_line_27 (by decide) (fun c3_ => ?_) (fun c3_ => ?_)
      · refine lv_aload_n hx hb dX0_line_33 rfl (lv_at hl 0 rfl) ?_
        refine vp_callSi (W.runV (As := []) (rest := []) ⟨hx, hb, hml, hown, hts⟩ (c_O_isAtLimit l dC dI cI cZ cO cW z X h adr ad wd nO nW σ ((p0 - 1).toNatClampNeg) (oo_lt (oi hI) c1_)) (cwV 0 hts gX0_line_X1_isAtLimit rfl rfl rfl (by decide +kernel) ⟨Nat.le_of_ble_eq_true rfl, Nat.le_of_ble_eq_true rfl⟩) (wPreV (Nat.le_trans hz hS.1) hP hK hD (va_recv hK hP (ci := 1) (q0 := (6 + ((p0 - 1).toNatClampNeg))) rfl (cw_out (oo_lt (oi hI) c1_)))) rfl rfl hl.1 rfl (lv_room (Nat.le_of_ble_eq_true rfl)) dX0_line_34 ⟨Nat.le_of_ble_eq_true rfl, Nat.le_of_ble_eq_true rfl⟩) (fun r e_ => ?_)
        subst e_
        refine lv_istore (lv' := [(4, .int (sO_isAtLimit σ ((p0 - 1).toNatClampNeg))), (3, .ref (ad ((p0 - 1).toNatClampNeg))), (0, .ref h), (1, .int p0), (2, .int p1)]) hx hb dX0_line_37 hl (by decide) rfl (fun ls hl => ?_)
        refine lv_iload hx hb dX0_line_39 (lv_at hl 0 rfl) ?_
        refine lv_if_eq (tgt := 53) hx hb dX0_line_41 (by decide) (fun c4_ => ?_) (fun c4_ => ?_)
        · refine lv_aload_n hx hb dX0_line_53 rfl (lv_at hl 2 rfl) ?_
          refine lv_aload_n hx hb dX0_line_54 rfl (lv_at hl 1 rfl) ?_
          refine vp_callSi (W.runV (As := [.ref (ad ((p0 - 1).toNatClampNeg))]) (rest := []) ⟨hx, hb, hml, hown, hts⟩ (c_C_hasRoomForLine l dC dI cI cZ cO cW z X h adr ad wd nO nW σ ((p0 - 1).toNatClampNeg) (oo_lt (oi hI) c1_)) (cwV 1 hts gX0_line_X0_hasRoomForLine rfl rfl rfl (by decide +kernel) ⟨Nat.le_of_ble_eq_true rfl, Nat.le_of_ble_eq_true rfl⟩) (wPreV (Nat.le_trans hz hS.1) hP hK hD (va_recv hK hP (ci := 0) (q0 := 0) rfl rfl)) rfl rfl hl.1 rfl (lv_room (Nat.le_of_ble_eq_true rfl)) dX0_line_55 ⟨Nat.le_of_ble_eq_true rfl, Nat.le_of_ble_eq_true rfl⟩) (fun r e_ => ?_)
          subst e_
          refine lv_if_ne (tgt := 64) hx hb dX0_line_58 (by decide) (fun c5_ => ?_) (fun c5_ => ?_)
          · refine lv_aload_n hx hb dX0_line_64 rfl (lv_at hl 2 rfl) ?_
            refine lv_aload_n hx hb dX0_line_65 rfl (lv_at hl 1 rfl) ?_
            refine lv_iload_n hx hb dX0_line_66 rfl (lv_at hl 4 rfl) ?_
            refine w_callv (va_runV (As := [.ref (ad ((p0 - 1).toNatClampNeg)), .int p1]) (rest := []) ⟨hx, hb, hml, hown, hts⟩ (c_C_takeLine l dC dI cI cZ cO cW z X h adr ad wd nO nW σ ((p0 - 1).toNatClampNeg) p1 (oo_lt (oi hI) c1_) (f10_nn hI)) (cwV 2 hts gX0_line_X0_takeLine rfl rfl rfl (by decide +kernel) ⟨Nat.le_of_ble_eq_true rfl, Nat.le_of_ble_eq_true rfl⟩) (wPreV (Nat.le_trans hz hS.1) hP hK hD (va_recv hK hP (ci := 0) (q0 := 0) rfl rfl)) rfl rfl hl.1 rfl (lv_room (Nat.le_of_ble_eq_true rfl)) dX0_line_67 ⟨Nat.le_of_ble_eq_true rfl, Nat.le_of_ble_eq_true rfl⟩) hS (fun u H locs e_ hP hD hS => ?_)
            subst e_
            have hP : va_P (dC, dI) vwCl (cWd h adr ad wd nO nW cI cO cW (sC_takeLine σ ((p0 - 1).toNatClampNeg) p1) ++ X) H := hP
            have hD : va_D (fun q : Nat => z ≤ q) (cWd h adr ad wd nO nW cI cO cW (sC_takeLine σ ((p0 - 1).toNatClampNeg) p1) ++ X) := hD
            refine lv_iload hx hb dX0_line_70 (lv_at hl 0 rfl) ?_
            refine lv_if_eq (tgt := 79) hx hb dX0_line_72 (by decide) (fun _ => ?_) (fun z_ => absurd c4_ z_)
            refine lv_iconst (v := 1) hx hb dX0_line_79 (by decide) ?_
            exact w_iret (v := 1) (u := (sC_takeLine σ ((p0 - 1).toNatClampNeg) p1)) hx hb hr hlocks hP hD hS dX0_line_80 (wpair (by unfold sC_line; rw [if_neg c1_, if_neg c2_, if_pos c3_, if_pos c4_, if_neg c5_] <;> rfl))
          · refine lv_bipush (v := (-3)) hx hb dX0_line_61 (by decide) ?_
            exact w_iret (v := (-3)) (u := σ) hx hb hr hlocks hP hD hS dX0_line_63 (wpair (by unfold sC_line; rw [if_neg c1_, if_neg c2_, if_pos c3_, if_pos c4_, if_pos c5_] <;> rfl))
        · refine lv_aload_n hx hb dX0_line_44 rfl (lv_at hl 1 rfl) ?_
          refine va_get (v := .int (σ 30 ((p0 - 1).toNatClampNeg))) (D := (dC, dI)) (ci := 1) (C := RX1) (T := TX1) (N := 13) hx hb hts hin1 hown hK hP (6 + ((p0 - 1).toNatClampNeg)) (cw_out (oo_lt (oi hI) c1_)) rfl 10 (by decide) (hts (.fieldLink RX0 75 RX1 "limitEnds" "Z") (by decide +kernel)) (fun _ h9 => h9) rfl dX0_line_45 ?_
          refine lv_if_eq (tgt := 53) hx hb dX0_line_48 (by decide) (fun c6_ => ?_) (fun c6_ => ?_)
          · refine lv_aload_n hx hb dX0_line_53 rfl (lv_at hl 2 rfl) ?_
            refine lv_aload_n hx hb dX0_line_54 rfl (lv_at hl 1 rfl) ?_
            refine vp_callSi (W.runV (As := [.ref (ad ((p0 - 1).toNatClampNeg))]) (rest := []) ⟨hx, hb, hml, hown, hts⟩ (c_C_hasRoomForLine l dC dI cI cZ cO cW z X h adr ad wd nO nW σ ((p0 - 1).toNatClampNeg) (oo_lt (oi hI) c1_)) (cwV 1 hts gX0_line_X0_hasRoomForLine rfl rfl rfl (by decide +kernel) ⟨Nat.le_of_ble_eq_true rfl, Nat.le_of_ble_eq_true rfl⟩) (wPreV (Nat.le_trans hz hS.1) hP hK hD (va_recv hK hP (ci := 0) (q0 := 0) rfl rfl)) rfl rfl hl.1 rfl (lv_room (Nat.le_of_ble_eq_true rfl)) dX0_line_55 ⟨Nat.le_of_ble_eq_true rfl, Nat.le_of_ble_eq_true rfl⟩) (fun r e_ => ?_)
            subst e_
            refine lv_if_ne (tgt := 64) hx hb dX0_line_58 (by decide) (fun c7_ => ?_) (fun c7_ => ?_)
            · refine lv_aload_n hx hb dX0_line_64 rfl (lv_at hl 2 rfl) ?_
              refine lv_aload_n hx hb dX0_line_65 rfl (lv_at hl 1 rfl) ?_
              refine lv_iload_n hx hb dX0_line_66 rfl (lv_at hl 4 rfl) ?_
              refine w_callv (va_runV (As := [.ref (ad ((p0 - 1).toNatClampNeg)), .int p1]) (rest := []) ⟨hx, hb, hml, hown, hts⟩ (c_C_takeLine l dC dI cI cZ cO cW z X h adr ad wd nO nW σ ((p0 - 1).toNatClampNeg) p1 (oo_lt (oi hI) c1_) (f10_nn hI)) (cwV 2 hts gX0_line_X0_takeLine rfl rfl rfl (by decide +kernel) ⟨Nat.le_of_ble_eq_true rfl, Nat.le_of_ble_eq_true rfl⟩) (wPreV (Nat.le_trans hz hS.1) hP hK hD (va_recv hK hP (ci := 0) (q0 := 0) rfl rfl)) rfl rfl hl.1 rfl (lv_room (Nat.le_of_ble_eq_true rfl)) dX0_line_67 ⟨Nat.le_of_ble_eq_true rfl, Nat.le_of_ble_eq_true rfl⟩) hS (fun u H locs e_ hP hD hS => ?_)
              subst e_
              have hP : va_P (dC, dI) vwCl (cWd h adr ad wd nO nW cI cO cW (sC_takeLine σ ((p0 - 1).toNatClampNeg) p1) ++ X) H := hP
              have hD : va_D (fun q : Nat => z ≤ q) (cWd h adr ad wd nO nW cI cO cW (sC_takeLine σ ((p0 - 1).toNatClampNeg) p1) ++ X) := hD
              refine lv_iload hx hb dX0_line_70 (lv_at hl 0 rfl) ?_
              refine lv_if_eq (tgt := 79) hx hb dX0_line_72 (by decide) (fun z_ => absurd z_ c4_) (fun _ => ?_)
              refine lv_iconst (v := 2) hx hb dX0_line_75 (by decide) ?_
              refine lv_goto (tgt := 80) hx hb dX0_line_76 (by decide) ?_
              exact w_iret (v := 2) (u := (sC_takeLine σ ((p0 - 1).toNatClampNeg) p1)) hx hb hr hlocks hP hD hS dX0_line_80 (wpair (by unfold sC_line; rw [if_neg c1_, if_neg c2_, if_pos c3_, if_neg c4_, if_pos c6_, if_neg c7_] <;> rfl))
            · refine lv_bipush (v := (-3)) hx hb dX0_line_61 (by decide) ?_
              exact w_iret (v := (-3)) (u := σ) hx hb hr hlocks hP hD hS dX0_line_63 (wpair (by unfold sC_line; rw [if_neg c1_, if_neg c2_, if_pos c3_, if_neg c4_, if_pos c6_, if_pos c7_] <;> rfl))
          · refine lv_iconst (v := 0) hx hb dX0_line_51 (by decide) ?_
            exact w_iret (v := 0) (u := σ) hx hb hr hlocks hP hD hS dX0_line_52 (wpair (by unfold sC_line; rw [if_neg c1_, if_neg c2_, if_pos c3_, if_neg c4_, if_neg c6_] <;> rfl))
      · refine lv_bipush (v := (-2)) hx hb dX0_line_30 (by decide) ?_
        exact w_iret (v := (-2)) (u := σ) hx hb hr hlocks hP hD hS dX0_line_32 (wpair (by unfold sC_line; rw [if_neg c1_, if_neg c2_, if_neg c3_] <;> rfl))
    · refine lv_iconst (v := (-1)) hx hb dX0_line_20 (by decide) ?_
      exact w_iret (v := (-1)) (u := σ) hx hb hr hlocks hP hD hS dX0_line_21 (wpair (by unfold sC_line; rw [if_neg c1_, if_pos c2_] <;> rfl))
set_option maxHeartbeats 4000000 in
set_option maxRecDepth 100000 in
theorem c_C_limit (l : Launch) (dC : Nat → ClassId) (dI : Nat → Nat → Nat) (cI cZ cO cW : ClassId) (z : Nat) (X : va_W) (h : Nat) (adr ad wd : Nat → Nat) (nO nW : Nat) (σ : T2) (p0 : Int32) (p1 : Int32) (p2 : Int32) (hI : cInv nO nW σ) (hp2 : p2 = 0 ∨ p2 = 1) : Met l yX0_limit wsX0_limit ({ frames := 2, cells := 0, slots := 0, locals := 43 }) (wPc (dC, dI) (tyL cI cZ cO cW) z [.ref h, .int p0, .int p1, .int p2] (cWd h adr ad wd nO nW cI cO cW σ ++ X)) (wQi (dC, dI) z (fun u : T2 => cWd h adr ad wd nO nW cI cO cW u ++ X) (fun r u => r = (sC_limit σ p0 p1 p2).1 ∧ u = (sC_limit σ p0 p1 p2).2)) 0 0 (fun q => z ≤ q) := by
  refine en_met (cc := cX0_limit) (maxL := 5) (ret := (some .int)) (by decide) rfl (Nat.le_of_ble_eq_true rfl) ?_
  intro p e s m below meth c ls hx hb hml hr hts hown hlocks hnm hv hl
  obtain ⟨hz, hP, hK, hD⟩ := hv
  have hown : s.vm.findClass RX0 = some m.cls := hown
  have hS : va_S (fun q : Nat => z ≤ q) s.heap s.heap [] := va_S.rf
  have hin1 : ∀ w ∈ wsX10, w ∈ wsX0_limit := by decide +kernel
  have hl : lv_has ls 5 [(0, .ref h), (1, .int p0), (2, .int p1), (3, .int p2)] := hl
  refine lv_aload_n hx hb dX0_limit_0 rfl (lv_at hl 0 rfl) ?_
  refine lv_iload_n hx hb dX0_limit_1 rfl (lv_at hl 1 rfl) ?_
  refine va_csq (W.runV (As := [.int p0]) (rest := []) ⟨hx, hb, hml, hown, hts⟩ (c_C_outputOf l dC dI cI cZ cO cW z X h adr ad wd nO nW σ p0 (oi hI)) (cwV 1 hts gX0_limit_X0_outputOf rfl rfl rfl (by decide +kernel) ⟨Nat.le_of_ble_eq_true rfl, Nat.le_of_ble_eq_true rfl⟩) (wPreV (Nat.le_trans hz hS.1) hP hK hD (va_recv hK hP (ci := 0) (q0 := 0) rfl rfl)) rfl rfl hl.1 rfl (lv_room (Nat.le_of_ble_eq_true rfl)) dX0_limit_2 ⟨Nat.le_of_ble_eq_true rfl, Nat.le_of_ble_eq_true rfl⟩) (fun r e_ => ?_)
  subst e_
  by_cases c1_ : (sC_isWithin p0 1 (σ 3 0)) = 0
  · rw [oo_none c1_]
    refine W.eq (g2 := F0 m 5 ls [.null]) rfl ?_
    refine lv_astoreN (lv' := [(4, .null), (0, .ref h), (1, .int p0), (2, .int p1), (3, .int p2)]) hx hb dX0_limit_5 hl (by decide) rfl (fun ls hl => ?_)
    refine lv_aloadN hx hb dX0_limit_7 (lv_at hl 0 rfl) ?_
    refine lv_ifnullN (tgt := 16) hx hb dX0_limit_9 (by decide) ?_
    refine lv_iconst (v := (-1)) hx hb dX0_limit_16 (by decide) ?_
    exact w_iret (v := (-1)) (u := σ) hx hb hr hlocks hP hD hS dX0_limit_17 (wpair (by unfold sC_limit; rw [if_pos c1_] <;> rfl))
  · rw [oo_some c1_]
    refine W.eq (g2 := F0 m 5 ls [.ref (ad ((p0 - 1).toNatClampNeg))]) rfl ?_
    refine lv_astore (lv' := [(4, .ref (ad ((p0 - 1).toNatClampNeg))), (0, .ref h), (1, .int p0), (2, .int p1), (3, .int p2)]) hx hb dX0_limit_5 hl (by decide) rfl (fun ls hl => ?_)
    refine lv_aload hx hb dX0_limit_7 (lv_at hl 0 rfl) ?_
    refine lv_ifnull hx hb dX0_limit_9 ?_
    refine lv_iload_n hx hb dX0_limit_12 rfl (lv_at hl 3 rfl) ?_
    refine lv_if_ge (tgt := 18) hx hb dX0_limit_13 (by decide) (fun c2_ => ?_) (fun c2_ => ?_)
    · refine lv_aload hx hb dX0_limit_18 (lv_at hl 0 rfl) ?_
      refine vp_callSi (W.runV (As := []) (rest := []) ⟨hx, hb, hml, hown, hts⟩ (c_O_isGone l dC dI cI cZ cO cW z X h adr ad wd nO nW σ ((p0 - 1).toNatClampNeg) (oo_lt (oi hI) c1_)) (cwV 0 hts gX0_limit_X1_isGone rfl rfl rfl (by decide +kernel) ⟨Nat.le_of_ble_eq_true rfl, Nat.le_of_ble_eq_true rfl⟩) (wPreV (Nat.le_trans hz hS.1) hP hK hD (va_recv hK hP (ci := 1) (q0 := (6 + ((p0 - 1).toNatClampNeg))) rfl (cw_out (oo_lt (oi hI) c1_)))) rfl rfl hl.1 rfl (lv_room (Nat.le_of_ble_eq_true rfl)) dX0_limit_20 ⟨Nat.le_of_ble_eq_true rfl, Nat.le_of_ble_eq_true rfl⟩) (fun r e_ => ?_)
      subst e_
      refine lv_if_eq (tgt := 29) hx hb dX0_limit_23 (by decide) (fun c3_ => ?_) (fun c3_ => ?_)
      · refine lv_aload hx hb dX0_limit_29 (lv_at hl 0 rfl) ?_
        refine lv_iload_n hx hb dX0_limit_31 rfl (lv_at hl 3 rfl) ?_
        refine va_put (D := (dC, dI)) (ci := 1) (v := .int p1) (ty := .int) (C := RX1) (T := TX1) (N := 13) hx hb hts hin1 tyX1 tyX1_ok nmX1 hown hK hP hD hS (6 + ((p0 - 1).toNatClampNeg)) (cw_out (oo_lt (oi hI) c1_)) rfl 9 (by decide) (hts (.fieldLink RX0 90 RX1 "limit" "I") (by decide +kernel)) (fun _ h9 => h9) rfl (by decide +kernel) rfl rfl (Nat.le_of_ble_eq_true rfl) dX0_limit_32 (fun H locs hP hD hS => ?_)
        have hP : va_P (dC, dI) vwCl (cWd h adr ad wd nO nW cI cO cW (upd2 σ 29 ((p0 - 1).toNatClampNeg) p1) ++ X) H := by rw [← cw_set_out (k := 9) rfl (by decide) (oo_lt (oi hI) c1_)]; exact hP
        have hD : va_D (fun q : Nat => z ≤ q) (cWd h adr ad wd nO nW cI cO cW (upd2 σ 29 ((p0 - 1).toNatClampNeg) p1) ++ X) := by rw [← cw_set_out (k := 9) rfl (by decide) (oo_lt (oi hI) c1_)]; exact hD
        refine lv_aload hx hb dX0_limit_35 (lv_at hl 0 rfl) ?_
        refine lv_iload_n hx hb dX0_limit_37 rfl (lv_at hl 4 rfl) ?_
        refine va_put (D := (dC, dI)) (ci := 1) (v := .int p2) (ty := .boolean) (C := RX1) (T := TX1) (N := 13) hx hb hts hin1 tyX1 tyX1_ok nmX1 hown hK hP hD hS (6 + ((p0 - 1).toNatClampNeg)) (cw_out (oo_lt (oi hI) c1_)) rfl 10 (by decide) (hts (.fieldLink RX0 75 RX1 "limitEnds" "Z") (by decide +kernel)) (fun _ h9 => h9) rfl (by decide +kernel) (nb_of hp2) (fb_of hp2) (Nat.le_of_ble_eq_true rfl) dX0_limit_38 (fun H locs hP hD hS => ?_)
        have hP : va_P (dC, dI) vwCl (cWd h adr ad wd nO nW cI cO cW (upd2 (upd2 σ 29 ((p0 - 1).toNatClampNeg) p1) 30 ((p0 - 1).toNatClampNeg) p2) ++ X) H := by rw [← cw_set_out (k := 10) rfl (by decide) (oo_lt (oi hI) c1_)]; exact hP
        have hD : va_D (fun q : Nat => z ≤ q) (cWd h adr ad wd nO nW cI cO cW (upd2 (upd2 σ 29 ((p0 - 1).toNatClampNeg) p1) 30 ((p0 - 1).toNatClampNeg) p2) ++ X) := by rw [← cw_set_out (k := 10) rfl (by decide) (oo_lt (oi hI) c1_)]; exact hD
        refine lv_iconst (v := 1) hx hb dX0_limit_41 (by decide) ?_
        exact w_iret (v := 1) (u := upd2 (upd2 σ 29 ((p0 - 1).toNatClampNeg) p1) 30 ((p0 - 1).toNatClampNeg) p2) hx hb hr hlocks hP hD hS dX0_limit_42 (wpair (by unfold sC_limit; rw [if_neg c1_, if_pos c2_, if_pos c3_] <;> rfl))
      · refine lv_bipush (v := (-2)) hx hb dX0_limit_26 (by decide) ?_
        exact w_iret (v := (-2)) (u := σ) hx hb hr hlocks hP hD hS dX0_limit_28 (wpair (by unfold sC_limit; rw [if_neg c1_, if_pos c2_, if_neg c3_] <;> rfl))
    · refine lv_iconst (v := (-1)) hx hb dX0_limit_16 (by decide) ?_
      exact w_iret (v := (-1)) (u := σ) hx hb hr hlocks hP hD hS dX0_limit_17 (wpair (by unfold sC_limit; rw [if_neg c1_, if_neg c2_] <;> rfl))
