set_option maxHeartbeats 4000000 in
set_option maxRecDepth 100000 in
theorem c_C_output (l : Launch) (dC : Nat → ClassId) (dI : Nat → Nat → Nat) (cI cZ cO cW : ClassId) (z : Nat) (X : va_W) (h : Nat) (adr ad wd : Nat → Nat) (nO nW : Nat) (σ : T2) (p0 : Int32) (p1 : Int32) (p2 : Int32) (hI : cInv nO nW σ) (hn : σ 3 0 < 1000) : Met l yX0_output wsX0_output ({ frames := 3, cells := 1, slots := 13, locals := 66 }) (wPc (dC, dI) (tyL cI cZ cO cW) z [.ref h, .int p0, .int p1, .int p2] (cWd h adr ad wd nO nW cI cO cW σ ++ X)) (wQi (dC, dI) z (fun u : (Nat → Nat) × Nat × T2 => cWd h adr u.1 wd u.2.1 nW cI cO cW u.2.2 ++ X) (fun r u => r = (sC_output nO σ p0 p1 p2).1 ∧ u.2 = (sC_output nO σ p0 p1 p2).2)) 1 13 (fun q => z ≤ q) := by
  refine en_met (cc := cX0_output) (maxL := 5) (ret := (some .int)) (by decide) rfl (Nat.le_of_ble_eq_true rfl) ?_
  intro p e s m below meth c ls hx hb hml hr hts hown hlocks hnm hv hl
  obtain ⟨hz, hP, hK, hD⟩ := hv
  have hown : s.vm.findClass RX0 = some m.cls := hown
  have hS : va_S (fun q : Nat => z ≤ q) s.heap s.heap [] := va_S.rf
  have hA : ∀ q : Nat, s.heap.size ≤ q → (fun q : Nat => z ≤ q) q := fun q h => Nat.le_trans hz h
  have hin0 : ∀ w ∈ wsX00, w ∈ wsX0_output := by decide +kernel
  have hin1 : ∀ w ∈ wsX10, w ∈ wsX0_output := by decide +kernel
  have hl : lv_has ls 5 [(0, .ref h), (1, .int p0), (2, .int p1), (3, .int p2)] := hl
  refine lv_iload_n hx hb dX0_output_0 rfl (lv_at hl 1 rfl) ?_
  refine lv_iconst (v := 1) hx hb dX0_output_1 (by decide) ?_
  refine lv_sipush (v := 9999) hx hb dX0_output_2 (by decide) ?_
  refine vp_callSi (W.runS (As := [.int p0, .int 1, .int 9999]) (rest := []) ⟨hx, hb, hml, hown, hts⟩ (c_C_isWithin l dC dI cI cZ cO cW z X h adr ad wd nO nW σ p0 1 9999) (va_cwS 3 hts gX0_output_X0_isWithin rfl rfl rfl (by decide +kernel) ⟨Nat.le_of_ble_eq_true rfl, Nat.le_of_ble_eq_true rfl⟩) (wPreS (Nat.le_trans hz hS.1) hP hK hD) rfl rfl hl.1 rfl (lv_room (Nat.le_of_ble_eq_true rfl)) dX0_output_5 ⟨Nat.le_of_ble_eq_true rfl, Nat.le_of_ble_eq_true rfl⟩) (fun r e_ => ?_)
  subst e_
  refine lv_if_eq (tgt := 31) hx hb dX0_output_8 (by decide) (fun c1_ => ?_) (fun c1_ => ?_)
  · refine lv_iconst (v := (-1)) hx hb dX0_output_31 (by decide) ?_
    refine W.widen (k := 1) (n := 13) (by omega) (by omega) ?_
    exact w_iret (v := (-1)) (u := (ad, nO, σ)) hx hb hr hlocks hP hD hS dX0_output_32 (wtrip (by unfold sC_output; rw [if_pos c1_] <;> rfl))
  · refine lv_iload_n hx hb dX0_output_11 rfl (lv_at hl 2 rfl) ?_
    refine lv_iconst (v := 0) hx hb dX0_output_12 (by decide) ?_
    refine lv_bipush (v := 7) hx hb dX0_output_13 (by decide) ?_
    refine vp_callSi (W.runS (As := [.int p1, .int 0, .int 7]) (rest := []) ⟨hx, hb, hml, hown, hts⟩ (c_C_isWithin l dC dI cI cZ cO cW z X h adr ad wd nO nW σ p1 0 7) (va_cwS 3 hts gX0_output_X0_isWithin rfl rfl rfl (by decide +kernel) ⟨Nat.le_of_ble_eq_true rfl, Nat.le_of_ble_eq_true rfl⟩) (wPreS (Nat.le_trans hz hS.1) hP hK hD) rfl rfl hl.1 rfl (lv_room (Nat.le_of_ble_eq_true rfl)) dX0_output_15 ⟨Nat.le_of_ble_eq_true rfl, Nat.le_of_ble_eq_true rfl⟩) (fun r e_ => ?_)
    subst e_
    refine lv_if_eq (tgt := 31) hx hb dX0_output_18 (by decide) (fun c2_ => ?_) (fun c2_ => ?_)
    · refine lv_iconst (v := (-1)) hx hb dX0_output_31 (by decide) ?_
      refine W.widen (k := 1) (n := 13) (by omega) (by omega) ?_
      exact w_iret (v := (-1)) (u := (ad, nO, σ)) hx hb hr hlocks hP hD hS dX0_output_32 (wtrip (by unfold sC_output; rw [if_neg c1_, if_pos c2_] <;> rfl))
    · refine lv_iload_n hx hb dX0_output_21 rfl (lv_at hl 3 rfl) ?_
      refine lv_iconst (v := 1) hx hb dX0_output_22 (by decide) ?_
      refine lv_bipush (v := 9) hx hb dX0_output_23 (by decide) ?_
      refine vp_callSi (W.runS (As := [.int p2, .int 1, .int 9]) (rest := []) ⟨hx, hb, hml, hown, hts⟩ (c_C_isWithin l dC dI cI cZ cO cW z X h adr ad wd nO nW σ p2 1 9) (va_cwS 3 hts gX0_output_X0_isWithin rfl rfl rfl (by decide +kernel) ⟨Nat.le_of_ble_eq_true rfl, Nat.le_of_ble_eq_true rfl⟩) (wPreS (Nat.le_trans hz hS.1) hP hK hD) rfl rfl hl.1 rfl (lv_room (Nat.le_of_ble_eq_true rfl)) dX0_output_25 ⟨Nat.le_of_ble_eq_true rfl, Nat.le_of_ble_eq_true rfl⟩) (fun r e_ => ?_)
      subst e_
      refine lv_if_ne (tgt := 33) hx hb dX0_output_28 (by decide) (fun c3_ => ?_) (fun c3_ => ?_)
      · refine lv_aload_n hx hb dX0_output_33 rfl (lv_at hl 0 rfl) ?_
        refine va_get (v := .int (σ 1 0)) (D := (dC, dI)) (ci := 0) (C := RX0) (T := TX0) (N := 13) hx hb hts hin0 hown hK hP 0 rfl rfl 1 (by decide) (hts (.fieldLink RX0 41 RX0 "freePages" "I") (by decide +kernel)) (fun _ h9 => h9) rfl dX0_output_34 ?_
        refine lv_aload_n hx hb dX0_output_37 rfl (lv_at hl 0 rfl) ?_
        refine va_get (v := .int (σ 0 0)) (D := (dC, dI)) (ci := 0) (C := RX0) (T := TX0) (N := 13) hx hb hts hin0 hown hK hP 0 rfl rfl 0 (by decide) (hts (.fieldLink RX0 45 RX0 "reserved" "I") (by decide +kernel)) (fun _ h9 => h9) rfl dX0_output_38 ?_
        refine lv_icmp_gt (tgt := 54) hx hb dX0_output_41 (by decide) (fun c4_ => ?_) (fun c4_ => ?_)
        · refine lv_aload_n hx hb dX0_output_54 rfl (lv_at hl 0 rfl) ?_
          refine lv_iload_n hx hb dX0_output_55 rfl (lv_at hl 1 rfl) ?_
          refine lv_iload_n hx hb dX0_output_56 rfl (lv_at hl 2 rfl) ?_
          refine lv_iload_n hx hb dX0_output_57 rfl (lv_at hl 3 rfl) ?_
          refine w_callr (va_runV (As := [.int p0, .int p1, .int p2]) (rest := []) ⟨hx, hb, hml, hown, hts⟩ (c_C_addOutput l dC dI cI cZ cO cW z X h adr ad wd nO nW σ p0 p1 p2 hI hn) (cwV 3 hts gX0_output_X0_addOutput rfl rfl rfl (by decide +kernel) ⟨(Nat.le_of_ble_eq_true rfl), (Nat.le_of_ble_eq_true rfl)⟩) (wPreV (Nat.le_trans hz hS.1) hP hK hD (va_recv hK hP (ci := 0) (q0 := 0) rfl rfl)) rfl rfl hl.1 rfl (lv_room (Nat.le_of_ble_eq_true rfl)) dX0_output_58 ⟨(Nat.le_of_ble_eq_true rfl), (Nat.le_of_ble_eq_true rfl)⟩) hS (fun q H locs hP hD hS => ?_)
          have hP : va_P (dC, dI) vwCl (cWd h adr (up1 ad nO q) wd (nO + 1) nW cI cO cW (sC_new σ nO p0 p1 p2) ++ X) H := hP
          have hD : va_D (fun q : Nat => z ≤ q) (cWd h adr (up1 ad nO q) wd (nO + 1) nW cI cO cW (sC_new σ nO p0 p1 p2) ++ X) := hD
          refine W.widen (k := 1) (n := 13) (by omega) (by omega) ?_
          refine lv_astore (lv' := [(4, .ref q), (0, .ref h), (1, .int p0), (2, .int p1), (3, .int p2)]) hx hb dX0_output_61 hl (by decide) rfl (fun ls hl => ?_)
          refine lv_aload hx hb dX0_output_63 (lv_at hl 0 rfl) ?_
          refine lv_ifnonnull (tgt := 72) hx hb dX0_output_65 (by decide) ?_
          refine lv_aload hx hb dX0_output_72 (lv_at hl 0 rfl) ?_
          refine va_get (v := .int ((sC_new σ nO p0 p1 p2) 20 nO)) (D := (dC, dI)) (ci := 1) (C := RX1) (T := TX1) (N := 13) hx hb hts hin1 hown hK hP (6 + nO) (cw_outA (Nat.lt_succ_self nO) up1_at) rfl 0 (by decide) (hts (.fieldLink RX0 60 RX1 "number" "I") (by decide +kernel)) (fun _ h9 => h9) rfl dX0_output_74 ?_
          exact w_iret (v := (sC_new σ nO p0 p1 p2) 20 nO) (u := (up1 ad nO q, nO + 1, (sC_new σ nO p0 p1 p2))) hx hb hr hlocks hP hD hS dX0_output_77 (wtrip (by rw [new_20]; unfold sC_output; rw [if_neg c1_, if_neg c2_, if_neg c3_, if_pos c4_]))
        · refine lv_aload_n hx hb dX0_output_44 rfl (lv_at hl 0 rfl) ?_
          refine lv_iload_n hx hb dX0_output_45 rfl (lv_at hl 1 rfl) ?_
          refine vp_callSi (W.runV (As := [.int p0]) (rest := []) ⟨hx, hb, hml, hown, hts⟩ (c_C_hasOutputThere l dC dI cI cZ cO cW z X h adr ad wd nO nW σ p0 hI) (cwV 1 hts gX0_output_X0_hasOutputThere rfl rfl rfl (by decide +kernel) ⟨Nat.le_of_ble_eq_true rfl, Nat.le_of_ble_eq_true rfl⟩) (wPreV (Nat.le_trans hz hS.1) hP hK hD (va_recv hK hP (ci := 0) (q0 := 0) rfl rfl)) rfl rfl hl.1 rfl (lv_room (Nat.le_of_ble_eq_true rfl)) dX0_output_46 ⟨Nat.le_of_ble_eq_true rfl, Nat.le_of_ble_eq_true rfl⟩) (fun r e_ => ?_)
          subst e_
          refine lv_if_ne (tgt := 54) hx hb dX0_output_49 (by decide) (fun c5_ => ?_) (fun c5_ => ?_)
          · refine lv_aload_n hx hb dX0_output_54 rfl (lv_at hl 0 rfl) ?_
            refine lv_iload_n hx hb dX0_output_55 rfl (lv_at hl 1 rfl) ?_
            refine lv_iload_n hx hb dX0_output_56 rfl (lv_at hl 2 rfl) ?_
            refine lv_iload_n hx hb dX0_output_57 rfl (lv_at hl 3 rfl) ?_
            refine w_callr (va_runV (As := [.int p0, .int p1, .int p2]) (rest := []) ⟨hx, hb, hml, hown, hts⟩ (c_C_addOutput l dC dI cI cZ cO cW z X h adr ad wd nO nW σ p0 p1 p2 hI hn) (cwV 3 hts gX0_output_X0_addOutput rfl rfl rfl (by decide +kernel) ⟨(Nat.le_of_ble_eq_true rfl), (Nat.le_of_ble_eq_true rfl)⟩) (wPreV (Nat.le_trans hz hS.1) hP hK hD (va_recv hK hP (ci := 0) (q0 := 0) rfl rfl)) rfl rfl hl.1 rfl (lv_room (Nat.le_of_ble_eq_true rfl)) dX0_output_58 ⟨(Nat.le_of_ble_eq_true rfl), (Nat.le_of_ble_eq_true rfl)⟩) hS (fun q H locs hP hD hS => ?_)
            have hP : va_P (dC, dI) vwCl (cWd h adr (up1 ad nO q) wd (nO + 1) nW cI cO cW (sC_new σ nO p0 p1 p2) ++ X) H := hP
            have hD : va_D (fun q : Nat => z ≤ q) (cWd h adr (up1 ad nO q) wd (nO + 1) nW cI cO cW (sC_new σ nO p0 p1 p2) ++ X) := hD
            refine W.widen (k := 1) (n := 13) (by omega) (by omega) ?_
            refine lv_astore (lv' := [(4, .ref q), (0, .ref h), (1, .int p0), (2, .int p1), (3, .int p2)]) hx hb dX0_output_61 hl (by decide) rfl (fun ls hl => ?_)
            refine lv_aload hx hb dX0_output_63 (lv_at hl 0 rfl) ?_
            refine lv_ifnonnull (tgt := 72) hx hb dX0_output_65 (by decide) ?_
            refine lv_aload hx hb dX0_output_72 (lv_at hl 0 rfl) ?_
            refine va_get (v := .int ((sC_new σ nO p0 p1 p2) 20 nO)) (D := (dC, dI)) (ci := 1) (C := RX1) (T := TX1) (N := 13) hx hb hts hin1 hown hK hP (6 + nO) (cw_outA (Nat.lt_succ_self nO) up1_at) rfl 0 (by decide) (hts (.fieldLink RX0 60 RX1 "number" "I") (by decide +kernel)) (fun _ h9 => h9) rfl dX0_output_74 ?_
            exact w_iret (v := (sC_new σ nO p0 p1 p2) 20 nO) (u := (up1 ad nO q, nO + 1, (sC_new σ nO p0 p1 p2))) hx hb hr hlocks hP hD hS dX0_output_77 (wtrip (by rw [new_20]; unfold sC_output; rw [if_neg c1_, if_neg c2_, if_neg c3_, if_neg c4_, if_neg c5_]))
          · refine lv_iconst (v := 0) hx hb dX0_output_52 (by decide) ?_
            refine W.widen (k := 1) (n := 13) (by omega) (by omega) ?_
            exact w_iret (v := 0) (u := (ad, nO, σ)) hx hb hr hlocks hP hD hS dX0_output_53 (wtrip (by unfold sC_output; rw [if_neg c1_, if_neg c2_, if_neg c3_, if_neg c4_, if_pos c5_] <;> rfl))
      · refine lv_iconst (v := (-1)) hx hb dX0_output_31 (by decide) ?_
        refine W.widen (k := 1) (n := 13) (by omega) (by omega) ?_
        exact w_iret (v := (-1)) (u := (ad, nO, σ)) hx hb hr hlocks hP hD hS dX0_output_32 (wtrip (by unfold sC_output; rw [if_neg c1_, if_neg c2_, if_pos c3_] <;> rfl))
set_option maxHeartbeats 4000000 in
set_option maxRecDepth 100000 in
theorem c_C_segment (l : Launch) (dC : Nat → ClassId) (dI : Nat → Nat → Nat) (cI cZ cO cW : ClassId) (z : Nat) (X : va_W) (h : Nat) (adr ad wd : Nat → Nat) (nO nW : Nat) (σ : T2) (p0 : Int32) (hI : cInv nO nW σ) (hn : σ 3 0 < 1000) : Met l yX0_segment wsX0_segment ({ frames := 3, cells := 1, slots := 13, locals := 60 }) (wPc (dC, dI) (tyL cI cZ cO cW) z [.ref h, .int p0] (cWd h adr ad wd nO nW cI cO cW σ ++ X)) (wQi (dC, dI) z (fun u : (Nat → Nat) × Nat × T2 => cWd h adr u.1 wd u.2.1 nW cI cO cW u.2.2 ++ X) (fun r u => r = (sC_segment nO σ p0).1 ∧ u.2 = (sC_segment nO σ p0).2)) 1 13 (fun q => z ≤ q) := by
  refine en_met (cc := cX0_segment) (maxL := 4) (ret := (some .int)) (by decide) rfl (Nat.le_of_ble_eq_true rfl) ?_
  intro p e s m below meth c ls hx hb hml hr hts hown hlocks hnm hv hl
  obtain ⟨hz, hP, hK, hD⟩ := hv
  have hown : s.vm.findClass RX0 = some m.cls := hown
  have hS : va_S (fun q : Nat => z ≤ q) s.heap s.heap [] := va_S.rf
  have hA : ∀ q : Nat, s.heap.size ≤ q → (fun q : Nat => z ≤ q) q := fun q h => Nat.le_trans hz h
  have hin1 : ∀ w ∈ wsX10, w ∈ wsX0_segment := by decide +kernel
  have hl : lv_has ls 4 [(0, .ref h), (1, .int p0)] := hl
  refine lv_aload_n hx hb dX0_segment_0 rfl (lv_at hl 0 rfl) ?_
  refine lv_iload_n hx hb dX0_segment_1 rfl (lv_at hl 1 rfl) ?_
  refine va_csq (W.runV (As := [.int p0]) (rest := []) ⟨hx, hb, hml, hown, hts⟩ (c_C_outputOf l dC dI cI cZ cO cW z X h adr ad wd nO nW σ p0 (oi hI)) (cwV 1 hts gX0_segment_X0_outputOf rfl rfl rfl (by decide +kernel) ⟨Nat.le_of_ble_eq_true rfl, Nat.le_of_ble_eq_true rfl⟩) (wPreV (Nat.le_trans hz hS.1) hP hK hD (va_recv hK hP (ci := 0) (q0 := 0) rfl rfl)) rfl rfl hl.1 rfl (lv_room (Nat.le_of_ble_eq_true rfl)) dX0_segment_2 ⟨Nat.le_of_ble_eq_true rfl, Nat.le_of_ble_eq_true rfl⟩) (fun r e_ => ?_)
  subst e_
  by_cases c1_ : (sC_isWithin p0 1 (σ 3 0)) = 0
  · rw [oo_none c1_]
    refine W.eq (g2 := F0 m 5 ls [.null]) rfl ?_
    refine lv_astore_nN (lv' := [(2, .null), (0, .ref h), (1, .int p0)]) hx hb dX0_segment_5 rfl hl (by decide) rfl (fun ls hl => ?_)
    refine lv_aload_nN hx hb dX0_segment_6 rfl (lv_at hl 0 rfl) ?_
    refine lv_ifnonnullN hx hb dX0_segment_7 ?_
    refine lv_iconst (v := (-1)) hx hb dX0_segment_10 (by decide) ?_
    refine W.widen (k := 1) (n := 13) (by omega) (by omega) ?_
    exact w_iret (v := (-1)) (u := (ad, nO, σ)) hx hb hr hlocks hP hD hS dX0_segment_11 (wtrip (by unfold sC_segment; rw [if_pos c1_] <;> rfl))
  · rw [oo_some c1_]
    refine W.eq (g2 := F0 m 5 ls [.ref (ad ((p0 - 1).toNatClampNeg))]) rfl ?_
    refine lv_astore_n (lv' := [(2, .ref (ad ((p0 - 1).toNatClampNeg))), (0, .ref h), (1, .int p0)]) hx hb dX0_segment_5 rfl hl (by decide) rfl (fun ls hl => ?_)
    refine lv_aload_n hx hb dX0_segment_6 rfl (lv_at hl 0 rfl) ?_
    refine lv_ifnonnull (tgt := 12) hx hb dX0_segment_7 (by decide) ?_
    refine lv_aload_n hx hb dX0_segment_12 rfl (lv_at hl 0 rfl) ?_
    refine va_get (v := .int (σ 26 ((p0 - 1).toNatClampNeg))) (D := (dC, dI)) (ci := 1) (C := RX1) (T := TX1) (N := 13) hx hb hts hin1 hown hK hP (6 + ((p0 - 1).toNatClampNeg)) (cw_out (oo_lt (oi hI) c1_)) rfl 6 (by decide) (hts (.fieldLink RX0 68 RX1 "state" "I") (by decide +kernel)) (fun _ h9 => h9) rfl dX0_segment_13 ?_
    refine lv_iconst (v := 1) hx hb dX0_segment_16 (by decide) ?_
    refine lv_icmp_ne (tgt := 27) hx hb dX0_segment_17 (by decide) (fun c2_ => ?_) (fun c2_ => ?_)
    · refine lv_bipush (v := (-2)) hx hb dX0_segment_27 (by decide) ?_
      refine W.widen (k := 1) (n := 13) (by omega) (by omega) ?_
      exact w_iret (v := (-2)) (u := (ad, nO, σ)) hx hb hr hlocks hP hD hS dX0_segment_29 (wtrip (by unfold sC_segment; rw [if_neg c1_, if_neg c2_] <;> rfl))
    · refine lv_aload_n hx hb dX0_segment_20 rfl (lv_at hl 0 rfl) ?_
      refine va_get (v := .int (σ 28 ((p0 - 1).toNatClampNeg))) (D := (dC, dI)) (ci := 1) (C := RX1) (T := TX1) (N := 13) hx hb hts hin1 hown hK hP (6 + ((p0 - 1).toNatClampNeg)) (cw_out (oo_lt (oi hI) c1_)) rfl 8 (by decide) (hts (.fieldLink RX0 103 RX1 "lines" "I") (by decide +kernel)) (fun _ h9 => h9) rfl dX0_segment_21 ?_
      refine lv_if_ne (tgt := 30) hx hb dX0_segment_24 (by decide) (fun c3_ => ?_) (fun c3_ => ?_)
      · refine lv_aload_n hx hb dX0_segment_30 rfl (lv_at hl 1 rfl) ?_
        refine lv_aload_n hx hb dX0_segment_31 rfl (lv_at hl 0 rfl) ?_
        refine va_get (v := .int (σ 21 ((p0 - 1).toNatClampNeg))) (D := (dC, dI)) (ci := 1) (C := RX1) (T := TX1) (N := 13) hx hb hts hin1 hown hK hP (6 + ((p0 - 1).toNatClampNeg)) (cw_out (oo_lt (oi hI) c1_)) rfl 1 (by decide) (hts (.fieldLink RX0 96 RX1 "job" "I") (by decide +kernel)) (fun _ h9 => h9) rfl dX0_segment_32 ?_
        refine lv_aload_n hx hb dX0_segment_35 rfl (lv_at hl 0 rfl) ?_
        refine va_get (v := .int (σ 22 ((p0 - 1).toNatClampNeg))) (D := (dC, dI)) (ci := 1) (C := RX1) (T := TX1) (N := 13) hx hb hts hin1 hown hK hP (6 + ((p0 - 1).toNatClampNeg)) (cw_out (oo_lt (oi hI) c1_)) rfl 2 (by decide) (hts (.fieldLink RX0 106 RX1 "kind" "I") (by decide +kernel)) (fun _ h9 => h9) rfl dX0_segment_36 ?_
        refine lv_aload_n hx hb dX0_segment_39 rfl (lv_at hl 0 rfl) ?_
        refine va_get (v := .int (σ 23 ((p0 - 1).toNatClampNeg))) (D := (dC, dI)) (ci := 1) (C := RX1) (T := TX1) (N := 13) hx hb hts hin1 hown hK hP (6 + ((p0 - 1).toNatClampNeg)) (cw_out (oo_lt (oi hI) c1_)) rfl 3 (by decide) (hts (.fieldLink RX0 109 RX1 "copies" "I") (by decide +kernel)) (fun _ h9 => h9) rfl dX0_segment_40 ?_
        refine w_callr (va_runV (As := [.int (σ 21 ((p0 - 1).toNatClampNeg)), .int (σ 22 ((p0 - 1).toNatClampNeg)), .int (σ 23 ((p0 - 1).toNatClampNeg))]) (rest := []) ⟨hx, hb, hml, hown, hts⟩ (c_C_addOutput l dC dI cI cZ cO cW z X h adr ad wd nO nW σ (σ 21 ((p0 - 1).toNatClampNeg)) (σ 22 ((p0 - 1).toNatClampNeg)) (σ 23 ((p0 - 1).toNatClampNeg)) hI hn) (cwV 3 hts gX0_segment_X0_addOutput rfl rfl rfl (by decide +kernel) ⟨(Nat.le_of_ble_eq_true rfl), (Nat.le_of_ble_eq_true rfl)⟩) (wPreV (Nat.le_trans hz hS.1) hP hK hD (va_recv hK hP (ci := 0) (q0 := 0) rfl rfl)) rfl rfl hl.1 rfl (lv_room (Nat.le_of_ble_eq_true rfl)) dX0_segment_43 ⟨(Nat.le_of_ble_eq_true rfl), (Nat.le_of_ble_eq_true rfl)⟩) hS (fun q H locs hP hD hS => ?_)
        have hP : va_P (dC, dI) vwCl (cWd h adr (up1 ad nO q) wd (nO + 1) nW cI cO cW (sC_new σ nO (σ 21 ((p0 - 1).toNatClampNeg)) (σ 22 ((p0 - 1).toNatClampNeg)) (σ 23 ((p0 - 1).toNatClampNeg))) ++ X) H := hP
        have hD : va_D (fun q : Nat => z ≤ q) (cWd h adr (up1 ad nO q) wd (nO + 1) nW cI cO cW (sC_new σ nO (σ 21 ((p0 - 1).toNatClampNeg)) (σ 22 ((p0 - 1).toNatClampNeg)) (σ 23 ((p0 - 1).toNatClampNeg))) ++ X) := hD
        refine W.widen (k := 1) (n := 13) (by omega) (by omega) ?_
        refine lv_astore_n (lv' := [(3, .ref q), (2, .ref (ad ((p0 - 1).toNatClampNeg))), (0, .ref h), (1, .int p0)]) hx hb dX0_segment_46 rfl hl (by decide) rfl (fun ls hl => ?_)
        refine lv_aload_n hx hb dX0_segment_47 rfl (lv_at hl 0 rfl) ?_
        refine lv_ifnonnull (tgt := 53) hx hb dX0_segment_48 (by decide) ?_
        refine lv_aload_n hx hb dX0_segment_53 rfl (lv_at hl 0 rfl) ?_
        refine lv_aload_n hx hb dX0_segment_54 rfl (lv_at hl 1 rfl) ?_
        have hjn : ((p0 - 1).toNatClampNeg) ≠ nO := Nat.ne_of_lt (oo_lt (oi hI) c1_)
        have c_t := c_O_takeSettingsOf l dC dI cI cZ cO cW z X h adr (up1 ad nO q) wd (nO + 1) nW (sC_new σ nO (σ 21 ((p0 - 1).toNatClampNeg)) (σ 22 ((p0 - 1).toNatClampNeg)) (σ 23 ((p0 - 1).toNatClampNeg))) nO ((p0 - 1).toNatClampNeg) (Nat.lt_succ_self nO) (Nat.lt_succ_of_lt (oo_lt (oi hI) c1_)) (by rw [new_30 hjn]; exact (hI.2.2.2.2.2.2.2 _ (oo_lt (oi hI) c1_)).2) (by rw [new_27 hjn]; exact (hI.2.2.2.2.2.2.2 _ (oo_lt (oi hI) c1_)).1)
        rw [up1_at, up1_ne hjn] at c_t
        refine w_callv (va_runV (As := [.ref (ad ((p0 - 1).toNatClampNeg))]) (rest := []) ⟨hx, hb, hml, hown, hts⟩ c_t (cwV 1 hts gX0_segment_X1_takeSettingsOf rfl rfl rfl (by decide +kernel) ⟨(Nat.le_of_ble_eq_true rfl), (Nat.le_of_ble_eq_true rfl)⟩) (wPreV (Nat.le_trans hz hS.1) hP hK hD (va_recv hK hP (ci := 1) (q0 := 6 + nO) rfl (cw_outA (Nat.lt_succ_self nO) up1_at))) rfl rfl hl.1 rfl (lv_room (Nat.le_of_ble_eq_true rfl)) dX0_segment_55 ⟨(Nat.le_of_ble_eq_true rfl), (Nat.le_of_ble_eq_true rfl)⟩) hS (fun u H locs e_ hP hD hS => ?_)
        subst e_
        have hP : va_P (dC, dI) vwCl (cWd h adr (up1 ad nO q) wd (nO + 1) nW cI cO cW (sO_takeSettingsOf (sC_new σ nO (σ 21 ((p0 - 1).toNatClampNeg)) (σ 22 ((p0 - 1).toNatClampNeg)) (σ 23 ((p0 - 1).toNatClampNeg))) nO ((p0 - 1).toNatClampNeg)) ++ X) H := hP
        have hD : va_D (fun q : Nat => z ≤ q) (cWd h adr (up1 ad nO q) wd (nO + 1) nW cI cO cW (sO_takeSettingsOf (sC_new σ nO (σ 21 ((p0 - 1).toNatClampNeg)) (σ 22 ((p0 - 1).toNatClampNeg)) (σ 23 ((p0 - 1).toNatClampNeg))) nO ((p0 - 1).toNatClampNeg)) ++ X) := hD
        refine W.widen (k := 1) (n := 13) (by omega) (by omega) ?_
        refine lv_aload_n hx hb dX0_segment_58 rfl (lv_at hl 1 rfl) ?_
        refine lv_iconst (v := 2) hx hb dX0_segment_59 (by decide) ?_
        refine va_put (D := (dC, dI)) (ci := 1) (v := .int 2) (ty := .int) (C := RX1) (T := TX1) (N := 13) hx hb hts hin1 tyX1 tyX1_ok nmX1 hown hK hP hD hS (6 + ((p0 - 1).toNatClampNeg)) (cw_outA (Nat.lt_succ_of_lt (oo_lt (oi hI) c1_)) (up1_ne hjn)) rfl 6 (by decide) (hts (.fieldLink RX0 68 RX1 "state" "I") (by decide +kernel)) (fun _ h9 => h9) rfl (by decide +kernel) rfl rfl (Nat.le_of_ble_eq_true rfl) dX0_segment_60 (fun H locs hP hD hS => ?_)
        rw [← up1_ne (ad := ad) (q := q) hjn, cw_set_out (f := 26) rfl (by decide) (Nat.lt_succ_of_lt (oo_lt (oi hI) c1_))] at hP hD
        refine lv_aload_n hx hb dX0_segment_63 rfl (lv_at hl 0 rfl) ?_
        refine va_get (v := .int ((upd2 (sO_takeSettingsOf (sC_new σ nO (σ 21 ((p0 - 1).toNatClampNeg)) (σ 22 ((p0 - 1).toNatClampNeg)) (σ 23 ((p0 - 1).toNatClampNeg))) nO ((p0 - 1).toNatClampNeg)) 26 ((p0 - 1).toNatClampNeg) 2) 20 nO)) (D := (dC, dI)) (ci := 1) (C := RX1) (T := TX1) (N := 13) hx hb hts hin1 hown hK hP (6 + nO) (cw_outA (Nat.lt_succ_self nO) up1_at) rfl 0 (by decide) (hts (.fieldLink RX0 60 RX1 "number" "I") (by decide +kernel)) (fun _ h9 => h9) rfl dX0_segment_64 ?_
        exact w_iret (v := (upd2 (sO_takeSettingsOf (sC_new σ nO (σ 21 ((p0 - 1).toNatClampNeg)) (σ 22 ((p0 - 1).toNatClampNeg)) (σ 23 ((p0 - 1).toNatClampNeg))) nO ((p0 - 1).toNatClampNeg)) 26 ((p0 - 1).toNatClampNeg) 2) 20 nO) (u := (up1 ad nO q, nO + 1, (upd2 (sO_takeSettingsOf (sC_new σ nO (σ 21 ((p0 - 1).toNatClampNeg)) (σ 22 ((p0 - 1).toNatClampNeg)) (σ 23 ((p0 - 1).toNatClampNeg))) nO ((p0 - 1).toNatClampNeg)) 26 ((p0 - 1).toNatClampNeg) 2))) hx hb hr hlocks hP hD hS dX0_segment_67 (wtrip (by rw [seg_20]; unfold sC_segment; rw [if_neg c1_, if_pos c2_, if_neg c3_]))
      · refine lv_bipush (v := (-2)) hx hb dX0_segment_27 (by decide) ?_
        refine W.widen (k := 1) (n := 13) (by omega) (by omega) ?_
        exact w_iret (v := (-2)) (u := (ad, nO, σ)) hx hb hr hlocks hP hD hS dX0_segment_29 (wtrip (by unfold sC_segment; rw [if_neg c1_, if_pos c2_, if_pos c3_] <;> rfl))
set_option maxHeartbeats 4000000 in
set_option maxRecDepth 100000 in
theorem c_C_writer (l : Launch) (dC : Nat → ClassId) (dI : Nat → Nat → Nat) (cI cZ cO cW : ClassId) (z : Nat) (X : va_W) (h : Nat) (adr ad wd : Nat → Nat) (nO nW : Nat) (σ : T2) (p0 : Int32) (hI : cInv nO nW σ) : Met l yX0_writer wsX0_writer ({ frames := 2, cells := 1, slots := 3, locals := 34 }) (wPc (dC, dI) (tyL cI cZ cO cW) z [.ref h, .int p0] (cWd h adr ad wd nO nW cI cO cW σ ++ X)) (wQi (dC, dI) z (fun u : (Nat → Nat) × Nat × T2 => cWd h adr ad u.1 nO u.2.1 cI cO cW u.2.2 ++ X) (fun r u => r = (sC_writer nW σ p0).1 ∧ u.2 = (sC_writer nW σ p0).2)) 1 3 (fun q => z ≤ q) := by
  refine en_met (cc := cX0_writer) (maxL := 4) (ret := (some .int)) (by decide) rfl (Nat.le_of_ble_eq_true rfl) ?_
  intro p e s m below meth c ls hx hb hml hr hts hown hlocks hnm hv hl
  obtain ⟨hz, hP, hK, hD⟩ := hv
  have hown : s.vm.findClass RX0 = some m.cls := hown
  have hS : va_S (fun q : Nat => z ≤ q) s.heap s.heap [] := va_S.rf
  have hA : ∀ q : Nat, s.heap.size ≤ q → (fun q : Nat => z ≤ q) q := fun q h => Nat.le_trans hz h
  have hin0 : ∀ w ∈ wsX00, w ∈ wsX0_writer := by decide +kernel
  have hin2 : ∀ w ∈ wsX20, w ∈ wsX0_writer := by decide +kernel
  have hl : lv_has ls 4 [(0, .ref h), (1, .int p0)] := hl
  refine lv_iload_n hx hb dX0_writer_0 rfl (lv_at hl 1 rfl) ?_
  refine lv_if_ge (tgt := 6) hx hb dX0_writer_1 (by decide) (fun c1_ => ?_) (fun c1_ => ?_)
  · refine lv_iload_n hx hb dX0_writer_6 rfl (lv_at hl 1 rfl) ?_
    refine lv_bipush (v := 16) hx hb dX0_writer_7 (by decide) ?_
    refine lv_irem hx hb dX0_writer_9 (by decide) ?_
    refine lv_istore_n (lv' := [(2, .int (p0 - p0 / 16 * 16)), (0, .ref h), (1, .int p0)]) hx hb dX0_writer_10 rfl hl (by decide) rfl (fun ls hl => ?_)
    refine lv_iload_n hx hb dX0_writer_11 rfl (lv_at hl 2 rfl) ?_
    refine lv_bipush (v := 16) hx hb dX0_writer_12 (by decide) ?_
    refine lv_idiv hx hb dX0_writer_14 (by decide) ?_
    refine lv_iconst (v := 1) hx hb dX0_writer_15 (by decide) ?_
    refine lv_isub hx hb dX0_writer_16 ?_
    refine lv_istore_n (lv' := [(3, .int ((p0 / 16) - 1)), (2, .int (p0 - p0 / 16 * 16)), (0, .ref h), (1, .int p0)]) hx hb dX0_writer_17 rfl hl (by decide) rfl (fun ls hl => ?_)
    refine lv_iload_n hx hb dX0_writer_18 rfl (lv_at hl 1 rfl) ?_
    refine lv_bipush (v := 8) hx hb dX0_writer_19 (by decide) ?_
    refine lv_icmp_gt (tgt := 30) hx hb dX0_writer_21 (by decide) (fun c2_ => ?_) (fun c2_ => ?_)
    · refine lv_iconst (v := (-1)) hx hb dX0_writer_30 (by decide) ?_
      refine W.widen (k := 1) (n := 3) (by omega) (by omega) ?_
      exact w_iret (v := (-1)) (u := (wd, nW, σ)) hx hb hr hlocks hP hD hS dX0_writer_31 (wtrip (by unfold sC_writer; rw [if_pos c1_, if_pos c2_] <;> rfl))
    · refine lv_iload_n hx hb dX0_writer_24 rfl (lv_at hl 0 rfl) ?_
      refine lv_bipush (v := 8) hx hb dX0_writer_25 (by decide) ?_
      refine lv_icmp_lt (tgt := 32) hx hb dX0_writer_27 (by decide) (fun c3_ => ?_) (fun c3_ => ?_)
      · refine lv_aload_n hx hb dX0_writer_32 rfl (lv_at hl 2 rfl) ?_
        refine va_get (v := .int (σ 5 0)) (D := (dC, dI)) (ci := 0) (C := RX0) (T := TX0) (N := 13) hx hb hts hin0 hown hK hP 0 rfl rfl 5 (by decide) (hts (.fieldLink RX0 115 RX0 "writerCount" "I") (by decide +kernel)) (fun _ h9 => h9) rfl dX0_writer_33 ?_
        refine lv_bipush (v := 9) hx hb dX0_writer_36 (by decide) ?_
        refine lv_icmp_lt (tgt := 43) hx hb dX0_writer_38 (by decide) (fun c4_ => ?_) (fun c4_ => ?_)
        · refine lv_aload_n hx hb dX0_writer_43 rfl (lv_at hl 2 rfl) ?_
          refine va_get (v := .ref (adr 4)) (D := (dC, dI)) (ci := 0) (C := RX0) (T := TX0) (N := 13) hx hb hts hin0 hown hK hP 0 rfl rfl 4 (by decide) (hts (.fieldLink RX0 17 RX0 "writers" "[LSpoolRows$Writer;") (by decide +kernel)) (fun _ h9 => h9) rfl dX0_writer_44 ?_
          refine lv_aload_n hx hb dX0_writer_47 rfl (lv_at hl 2 rfl) ?_
          refine va_get (v := .int (σ 5 0)) (D := (dC, dI)) (ci := 0) (C := RX0) (T := TX0) (N := 13) hx hb hts hin0 hown hK hP 0 rfl rfl 5 (by decide) (hts (.fieldLink RX0 115 RX0 "writerCount" "I") (by decide +kernel)) (fun _ h9 => h9) rfl dX0_writer_48 ?_
          refine va_new (ci := 2) (fs := [.int 0, .int 0, .null]) (C := RX2) (T := TX2) (N := 3) hx hb hts hin2 tyX2 tyX2_ok hown (hts (.classLink RX0 15 RX2) (by decide +kernel)) (hts (.instantiable RX2 3) (by decide +kernel)) (hts (.initialized RX2) (by decide +kernel)) hK hP hD hS hA rfl (fun j hj => by rcases (show j = 0 ∨ j = 1 ∨ j = 2 by omega) with rfl | rfl | rfl <;> rfl) (Nat.le_of_ble_eq_true rfl) (Nat.le_of_ble_eq_true rfl) dX0_writer_51 (fun q H hP hD hS => ?_)
          have hP : va_P (dC, dI) vwCl (((q, .inr (2, [.int 0, .int 0, .null])) : Nat × va_E) :: (cWd h adr ad wd nO nW cI cO cW σ ++ X)) H := va_P_perm hP pm_rot
          have hD : va_D (fun q : Nat => z ≤ q) (((q, .inr (2, [.int 0, .int 0, .null])) : Nat × va_E) :: (cWd h adr ad wd nO nW cI cO cW σ ++ X)) := va_D_perm hD pm_rot
          refine W.widen (k := 1) (n := 3) (by omega) (by omega) ?_
          refine lv_dup hx hb dX0_writer_54 rfl ?_
          refine lv_iload_n hx hb dX0_writer_55 rfl (lv_at hl 1 rfl) ?_
          refine lv_iload_n hx hb dX0_writer_56 rfl (lv_at hl 0 rfl) ?_
          refine w_callv (va_runI (As := [.int (p0 - p0 / 16 * 16), .int ((p0 / 16) - 1)]) (rest := [.ref q, .int (σ 5 0), .ref (adr 4)]) ⟨hx, hb, hml, hown, hts⟩ (c_W_init l dC dI cI cZ cO cW z (cWd h adr ad wd nO nW cI cO cW σ ++ X) q (p0 - p0 / 16 * 16) ((p0 / 16) - 1)) (cwI 2 hts gX0_writer_X2_init rfl rfl rfl (hts (.initialized RX2) (by decide +kernel)) (hts (.methodLink RX0 118 yX2_init) (by decide +kernel)) (hts (.instanceMethod yX2_init) (by decide +kernel)) rfl (by decide +kernel) ⟨(Nat.le_of_ble_eq_true rfl), (Nat.le_of_ble_eq_true rfl)⟩) (wPreS (Nat.le_trans hz hS.1) hP hK hD) rfl rfl hl.1 rfl (lv_room (Nat.le_of_ble_eq_true rfl)) dX0_writer_57 ⟨(Nat.le_of_ble_eq_true rfl), (Nat.le_of_ble_eq_true rfl)⟩) hS (fun u H locs e_ hP hD hS => ?_)
          have hP : va_P (dC, dI) vwCl (((q, .inr (2, [.int (p0 - p0 / 16 * 16), .int ((p0 / 16) - 1), .null])) : Nat × va_E) :: (cWd h adr ad wd nO nW cI cO cW σ ++ X)) H := hP
          have hD : va_D (fun q : Nat => z ≤ q) (((q, .inr (2, [.int (p0 - p0 / 16 * 16), .int ((p0 / 16) - 1), .null])) : Nat × va_E) :: (cWd h adr ad wd nO nW cI cO cW σ ++ X)) := hD
          refine W.widen (k := 1) (n := 3) (by omega) (by omega) ?_
          refine va_astq (D := (dC, dI)) (i := σ 5 0) hx hb hK hP hD hS 3 3 0 2 rfl rfl rfl rfl (ow_in hI c4_) dX0_writer_60 (fun H locs hP hD hS => ?_)
          refine lv_aload_n hx hb dX0_writer_61 rfl (lv_at hl 2 rfl) ?_
          refine lv_dup hx hb dX0_writer_62 rfl ?_
          refine va_get (v := .int (σ 5 0)) (D := (dC, dI)) (ci := 0) (C := RX0) (T := TX0) (N := 13) hx hb hts hin0 hown hK hP 1 rfl rfl 5 (by decide) (hts (.fieldLink RX0 115 RX0 "writerCount" "I") (by decide +kernel)) (fun _ h9 => h9) rfl dX0_writer_63 ?_
          refine lv_iconst (v := 1) hx hb dX0_writer_66 (by decide) ?_
          refine lv_iadd hx hb dX0_writer_67 ?_
          refine va_put (D := (dC, dI)) (ci := 0) (v := .int (σ 5 0 + 1)) (ty := .int) (C := RX0) (T := TX0) (N := 13) hx hb hts hin0 tyX0 tyX0_ok nmX0 hown hK hP hD hS 1 rfl rfl 5 (by decide) (hts (.fieldLink RX0 115 RX0 "writerCount" "I") (by decide +kernel)) (fun _ h9 => h9) rfl (by decide +kernel) rfl rfl (Nat.le_of_ble_eq_true rfl) dX0_writer_68 (fun H locs hP hD hS => ?_)
          have hP := va_P_perm hP (pm_newW (q := q) (p0 := p0 - p0 / 16 * 16) (p1 := (p0 / 16) - 1) hI)
          have hD := va_D_perm hD (pm_newW (q := q) (p0 := p0 - p0 / 16 * 16) (p1 := (p0 / 16) - 1) hI)
          refine lv_aload_n hx hb dX0_writer_71 rfl (lv_at hl 2 rfl) ?_
          refine va_get (v := .int (σ 5 0 + 1)) (D := (dC, dI)) (ci := 0) (C := RX0) (T := TX0) (N := 13) hx hb hts hin0 hown hK hP 0 rfl rfl 5 (by decide) (hts (.fieldLink RX0 115 RX0 "writerCount" "I") (by decide +kernel)) (fun _ h9 => h9) rfl dX0_writer_72 ?_
          exact w_iret (v := σ 5 0 + 1) (u := (up1 wd nW q, nW + 1, upd2 (upd2 (upd2 (upd2 σ 40 nW (p0 - p0 / 16 * 16)) 41 nW ((p0 / 16) - 1)) 42 nW 0) 5 0 ((σ 5 0) + 1))) hx hb hr hlocks hP hD hS dX0_writer_75 (wtrip (by unfold sC_writer; rw [if_pos c1_, if_neg c2_, if_pos c3_, if_pos c4_]))
        · refine lv_iconst (v := 0) hx hb dX0_writer_41 (by decide) ?_
          refine W.widen (k := 1) (n := 3) (by omega) (by omega) ?_
          exact w_iret (v := 0) (u := (wd, nW, σ)) hx hb hr hlocks hP hD hS dX0_writer_42 (wtrip (by unfold sC_writer; rw [if_pos c1_, if_neg c2_, if_pos c3_, if_neg c4_] <;> rfl))
      · refine lv_iconst (v := (-1)) hx hb dX0_writer_30 (by decide) ?_
        refine W.widen (k := 1) (n := 3) (by omega) (by omega) ?_
        exact w_iret (v := (-1)) (u := (wd, nW, σ)) hx hb hr hlocks hP hD hS dX0_writer_31 (wtrip (by unfold sC_writer; rw [if_pos c1_, if_neg c2_, if_neg c3_] <;> rfl))
  · refine lv_iconst (v := (-1)) hx hb dX0_writer_4 (by decide) ?_
    refine W.widen (k := 1) (n := 3) (by omega) (by omega) ?_
    exact w_iret (v := (-1)) (u := (wd, nW, σ)) hx hb hr hlocks hP hD hS dX0_writer_5 (wtrip (by unfold sC_writer; rw [if_neg c1_] <;> rfl))
