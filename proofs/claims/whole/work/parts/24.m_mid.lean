set_option maxHeartbeats 4000000 in
set_option maxRecDepth 100000 in
theorem c_M_limit (l : Launch) (dC : Nat → ClassId) (dI : Nat → Nat → Nat) (cI cZ cO cW : ClassId) (z : Nat) (X : va_W) (h : Nat) (adr : Nat → Nat) (τ : T2) (p0 : Int32) (p1 : Int32) (p2 : Int32) (hI : mInv τ) : Met l yX3_limit wsX3_limit ({ frames := 1, cells := 0, slots := 0, locals := 21 }) (wPc (dC, dI) (tyL cI cZ cO cW) z [.ref h, .int p0, .int p1, .int p2] (mW h adr cI cZ τ ++ X)) (wQi (dC, dI) z (fun u : T2 => mW h adr cI cZ u ++ X) (fun r u => r = (sM_limit τ p0 p1 p2).1 ∧ u = (sM_limit τ p0 p1 p2).2)) 0 0 (fun q => z ≤ q) := by
  refine en_met (cc := cX3_limit) (maxL := 4) (ret := (some .int)) (by decide) rfl (Nat.le_of_ble_eq_true rfl) ?_
  intro p e s m below meth c ls hx hb hml hr hts hown hlocks hnm hv hl
  obtain ⟨hz, hP, hK, hD⟩ := hv
  have hown : s.vm.findClass RX3 = some m.cls := hown
  have hin : ∀ w ∈ wsX30, w ∈ wsX3_limit := by decide +kernel
  have hS : va_S (fun q : Nat => z ≤ q) s.heap s.heap [] := va_S.rf
  have hl : lv_has ls 4 [(0, .ref h), (1, .int p0), (2, .int p1), (3, .int p2)] := hl
  refine lv_aload_n hx hb dX3_limit_0 rfl (lv_at hl 0 rfl) ?_
  refine lv_iload_n hx hb dX3_limit_1 rfl (lv_at hl 1 rfl) ?_
  refine vp_callSi (W.runV (As := [.int p0]) (rest := []) ⟨hx, hb, hml, hown, hts⟩ (c_M_isOutput l dC dI cI cZ cO cW z X h adr τ p0) (cwV 1 hts gX3_limit_X3_isOutput rfl rfl rfl (by decide +kernel) ⟨Nat.le_of_ble_eq_true rfl, Nat.le_of_ble_eq_true rfl⟩) (wPreV (Nat.le_trans hz hS.1) hP hK hD (va_recv hK hP (ci := 3) (q0 := 0) rfl rfl)) rfl rfl hl.1 rfl (lv_room (Nat.le_of_ble_eq_true rfl)) dX3_limit_2 ⟨Nat.le_of_ble_eq_true rfl, Nat.le_of_ble_eq_true rfl⟩) (fun r e_ => ?_)
  subst e_
  refine lv_if_eq (tgt := 12) hx hb dX3_limit_5 (by decide) (fun c1_ => ?_) (fun c1_ => ?_)
  · refine lv_iconst (v := (-1)) hx hb dX3_limit_12 (by decide) ?_
    exact w_iret (v := (-1)) (u := τ) hx hb hr hlocks hP hD hS dX3_limit_13 (wpair (by unfold sM_limit; rw [if_pos c1_] <;> rfl))
  · refine lv_iload_n hx hb dX3_limit_8 rfl (lv_at hl 2 rfl) ?_
    refine lv_if_ge (tgt := 14) hx hb dX3_limit_9 (by decide) (fun c2_ => ?_) (fun c2_ => ?_)
    · refine lv_aload_n hx hb dX3_limit_14 rfl (lv_at hl 0 rfl) ?_
      refine lv_iload_n hx hb dX3_limit_15 rfl (lv_at hl 1 rfl) ?_
      refine vp_callSi (W.runV (As := [.int p0]) (rest := []) ⟨hx, hb, hml, hown, hts⟩ (c_M_isGone l dC dI cI cZ cO cW z X h adr τ p0 (mo_in hI c1_)) (cwV 1 hts gX3_limit_X3_isGone rfl rfl rfl (by decide +kernel) ⟨Nat.le_of_ble_eq_true rfl, Nat.le_of_ble_eq_true rfl⟩) (wPreV (Nat.le_trans hz hS.1) hP hK hD (va_recv hK hP (ci := 3) (q0 := 0) rfl rfl)) rfl rfl hl.1 rfl (lv_room (Nat.le_of_ble_eq_true rfl)) dX3_limit_16 ⟨Nat.le_of_ble_eq_true rfl, Nat.le_of_ble_eq_true rfl⟩) (fun r e_ => ?_)
      subst e_
      refine lv_if_eq (tgt := 25) hx hb dX3_limit_19 (by decide) (fun c3_ => ?_) (fun c3_ => ?_)
      · refine lv_aload_n hx hb dX3_limit_25 rfl (lv_at hl 0 rfl) ?_
        refine va_get (D := (dC, dI)) (ci := 3) (v := .ref (adr 8)) (C := RX3) (T := TX3) (N := 24) hx hb hts hin hown hK hP 0 rfl rfl 8 (by decide) (hts (.fieldLink RX3 31 RX3 "limits" "[I") (by decide +kernel)) (fun _ h9 => h9) rfl dX3_limit_26 ?_
        refine lv_iload_n hx hb dX3_limit_29 rfl (lv_at hl 1 rfl) ?_
        refine lv_iload_n hx hb dX3_limit_30 rfl (lv_at hl 2 rfl) ?_
        refine va_iast (D := (dC, dI)) (i := p0) (x := p1) (f := τ 8) hx hb hK hP hD hS 8 0 rfl rfl (mo_in hI c1_) dX3_limit_31 (fun H locs hP hD hS => ?_)
        have hP : va_P (dC, dI) vwCl (mW h adr cI cZ (upd2 τ 8 p0.toNatClampNeg p1) ++ X) H := by rw [← mput_8]; exact hP
        have hD : va_D (fun q : Nat => z ≤ q) (mW h adr cI cZ (upd2 τ 8 p0.toNatClampNeg p1) ++ X) := by rw [← mput_8]; exact hD
        refine lv_aload_n hx hb dX3_limit_32 rfl (lv_at hl 0 rfl) ?_
        refine va_get (D := (dC, dI)) (ci := 3) (v := .ref (adr 10)) (C := RX3) (T := TX3) (N := 24) hx hb hts hin hown hK hP 0 rfl rfl 10 (by decide) (hts (.fieldLink RX3 37 RX3 "ends" "[Z") (by decide +kernel)) (fun _ h9 => h9) rfl dX3_limit_33 ?_
        refine lv_iload_n hx hb dX3_limit_36 rfl (lv_at hl 1 rfl) ?_
        refine lv_iload_n hx hb dX3_limit_37 rfl (lv_at hl 3 rfl) ?_
        refine va_zast (D := (dC, dI)) (i := p0) (x := p2) (f := (upd2 τ 8 p0.toNatClampNeg p1) 10) hx hb hK hP hD hS 10 1 rfl rfl (mo_in hI c1_) dX3_limit_38 (fun H locs hP hD hS => ?_)
        have hP : va_P (dC, dI) vwCl (mW h adr cI cZ (upd2 (upd2 τ 8 p0.toNatClampNeg p1) 10 p0.toNatClampNeg (vp_nar .boolean p2)) ++ X) H := by rw [← mput_10]; exact hP
        have hD : va_D (fun q : Nat => z ≤ q) (mW h adr cI cZ (upd2 (upd2 τ 8 p0.toNatClampNeg p1) 10 p0.toNatClampNeg (vp_nar .boolean p2)) ++ X) := by rw [← mput_10]; exact hD
        refine lv_iconst (v := 1) hx hb dX3_limit_39 (by decide) ?_
        exact w_iret (v := 1) (u := upd2 (upd2 τ 8 p0.toNatClampNeg p1) 10 p0.toNatClampNeg (vp_nar .boolean p2)) hx hb hr hlocks hP hD hS dX3_limit_40 (wpair (by unfold sM_limit; rw [if_neg c1_, if_pos c2_, if_pos c3_] <;> rfl))
      · refine lv_bipush (v := (-2)) hx hb dX3_limit_22 (by decide) ?_
        exact w_iret (v := (-2)) (u := τ) hx hb hr hlocks hP hD hS dX3_limit_24 (wpair (by unfold sM_limit; rw [if_neg c1_, if_pos c2_, if_neg c3_] <;> rfl))
    · refine lv_iconst (v := (-1)) hx hb dX3_limit_12 (by decide) ?_
      exact w_iret (v := (-1)) (u := τ) hx hb hr hlocks hP hD hS dX3_limit_13 (wpair (by unfold sM_limit; rw [if_neg c1_, if_neg c2_] <;> rfl))
set_option maxHeartbeats 4000000 in
set_option maxRecDepth 100000 in
theorem c_M_end (l : Launch) (dC : Nat → ClassId) (dI : Nat → Nat → Nat) (cI cZ cO cW : ClassId) (z : Nat) (X : va_W) (h : Nat) (adr : Nat → Nat) (τ : T2) (p0 : Int32) (hI : mInv τ) : Met l yX3_end wsX3_end ({ frames := 1, cells := 0, slots := 0, locals := 22 }) (wPc (dC, dI) (tyL cI cZ cO cW) z [.ref h, .int p0] (mW h adr cI cZ τ ++ X)) (wQi (dC, dI) z (fun u : T2 => mW h adr cI cZ u ++ X) (fun r u => r = (sM_end τ p0).1 ∧ u = (sM_end τ p0).2)) 0 0 (fun q => z ≤ q) := by
  refine en_met (cc := cX3_end) (maxL := 4) (ret := (some .int)) (by decide) rfl (Nat.le_of_ble_eq_true rfl) ?_
  intro p e s m below meth c ls hx hb hml hr hts hown hlocks hnm hv hl
  obtain ⟨hz, hP, hK, hD⟩ := hv
  have hown : s.vm.findClass RX3 = some m.cls := hown
  have hin : ∀ w ∈ wsX30, w ∈ wsX3_end := by decide +kernel
  have hS : va_S (fun q : Nat => z ≤ q) s.heap s.heap [] := va_S.rf
  have hl : lv_has ls 4 [(0, .ref h), (1, .int p0)] := hl
  refine lv_iconst (v := 0) hx hb dX3_end_0 (by decide) ?_
  refine lv_istore_n (lv' := [(2, .int 0), (0, .ref h), (1, .int p0)]) hx hb dX3_end_1 rfl hl (by decide) rfl (fun ls hl => ?_)
  refine lv_iconst (v := 1) hx hb dX3_end_2 (by decide) ?_
  refine lv_istore_n (lv' := [(3, .int 1), (2, .int 0), (0, .ref h), (1, .int p0)]) hx hb dX3_end_3 rfl hl (by decide) rfl (fun ls hl => ?_)
  obtain ⟨N, hNc⟩ : ∃ N : Nat, N = (τ 13 0).toNatClampNeg := ⟨_, rfl⟩
  have hN := mN_out hI
  rw [← hNc] at hN
  have key : ∀ (n i : Nat) (a : Int32) (τ1 : T2) (H : Heap) (locs : List Loc) (ls : Array Slot), i ≤ N → N - i < n → sM_end_F τ p0 i = (a, τ1) → va_P (dC, dI) vwCl (mW h adr cI cZ τ1 ++ X) H → va_D (fun q : Nat => z ≤ q) (mW h adr cI cZ τ1 ++ X) → va_S (fun q : Nat => z ≤ q) s.heap H locs → τ1 13 0 = nI N → lv_has ls 4 [(0, .ref h), (1, .int p0), (2, .int a), (3, .int (nI (i + 1)))] → W p l e ({ frames := 1, cells := 0, slots := 0, locals := 22 }) s m ([.ref h, .int p0] : List Value).toArray below meth c H locs 0 0 (MQ below (wQi (dC, dI) z (fun u : T2 => mW h adr cI cZ u ++ X) (fun r u => r = (sM_end τ p0).1 ∧ u = (sM_end τ p0).2)) ([.ref h, .int p0] : List Value).toArray s 0 0 (fun q => z ≤ q)) (F0 m 4 ls []) := by
    intro n
    induction n with
    | zero => intro i a τ1 H locs ls hi hn; exact absurd hn (Nat.not_lt_zero _)
    | succ n ih =>
      intro i a τ1 H locs ls hi hn hF hP hD hS hN1 hl
      refine lv_iload_n hx hb dX3_end_4 rfl (lv_at hl 3 rfl) ?_
      refine lv_aload_n hx hb dX3_end_5 rfl (lv_at hl 0 rfl) ?_
      refine va_get (D := (dC, dI)) (ci := 3) (v := .int (τ1 13 0)) (C := RX3) (T := TX3) (N := 24) hx hb hts hin hown hK hP 0 rfl rfl 13 (by decide) (hts (.fieldLink RX3 67 RX3 "outputs" "I") (by decide +kernel)) (fun _ h9 => h9) rfl dX3_end_6 ?_
      refine lv_icmp_gt (tgt := 69) hx hb dX3_end_9 (by decide) (fun c2_ => ?_) (fun c2_ => ?_)
      · have hiN : i = N := lg_out hN1 hN.2 (by decide) hi c2_
        subst hiN
        refine lv_iload_n hx hb dX3_end_69 rfl (lv_at hl 2 rfl) ?_
        exact w_iret (v := a) (u := τ1) hx hb hr hlocks hP hD hS dX3_end_70 (wpair (by unfold sM_end; rw [← hNc, hF]; show _ = sM_end_x τ p0 a τ1; unfold sM_end_x; rfl))
      · have hlt : i < N := lg_in hN1 hN.2 (by decide) hi c2_
        refine lv_aload_n hx hb dX3_end_12 rfl (lv_at hl 0 rfl) ?_
        refine va_get (D := (dC, dI)) (ci := 3) (v := .ref (adr 1)) (C := RX3) (T := TX3) (N := 24) hx hb hts hin hown hK hP 0 rfl rfl 1 (by decide) (hts (.fieldLink RX3 7 RX3 "jobs" "[I") (by decide +kernel)) (fun _ h9 => h9) rfl dX3_end_13 ?_
        refine lv_iload_n hx hb dX3_end_16 rfl (lv_at hl 3 rfl) ?_
        refine va_iald (D := (dC, dI)) (i := nI (i + 1)) (f := τ1 1) hx hb hK hP 1 0 rfl rfl (in_g hlt hN.2) dX3_end_17 ?_
        refine lv_iload_n hx hb dX3_end_18 rfl (lv_at hl 1 rfl) ?_
        refine lv_icmp_ne (tgt := 63) hx hb dX3_end_19 (by decide) (fun c3_ => ?_) (fun c3_ => ?_)
        · refine lv_iinc (v := nI (i + 1 + 1)) (lv' := [(3, .int (nI (i + 1 + 1))), (0, .ref h), (1, .int p0), (2, .int a)]) hx hb dX3_end_63 hl (k := 3) rfl (nI_1 _) (by decide) rfl (fun ls hl => ?_)
          refine lv_goto (tgt := 4) hx hb dX3_end_66 (by decide) ?_
          exact ih (i + 1) a τ1 H locs ls hlt (by omega) (by show sM_end_s τ p0 i (sM_end_F τ p0 i).1 (sM_end_F τ p0 i).2 = _; rw [hF]; show sM_end_s τ p0 i a τ1 = _; unfold sM_end_s; rw [if_neg c3_] <;> rfl) hP hD hS hN1 (lv_sub hl [1, 2, 3, 0] rfl)
        · refine lv_aload_n hx hb dX3_end_22 rfl (lv_at hl 0 rfl) ?_
          refine va_get (D := (dC, dI)) (ci := 3) (v := .ref (adr 6)) (C := RX3) (T := TX3) (N := 24) hx hb hts hin hown hK hP 0 rfl rfl 6 (by decide) (hts (.fieldLink RX3 25 RX3 "states" "[I") (by decide +kernel)) (fun _ h9 => h9) rfl dX3_end_23 ?_
          refine lv_iload_n hx hb dX3_end_26 rfl (lv_at hl 3 rfl) ?_
          refine va_iald (D := (dC, dI)) (i := nI (i + 1)) (f := τ1 6) hx hb hK hP 6 0 rfl rfl (in_g hlt hN.2) dX3_end_27 ?_
          refine lv_iconst (v := 1) hx hb dX3_end_28 (by decide) ?_
          refine lv_icmp_eq (tgt := 35) hx hb dX3_end_29 (by decide) (fun c4_ => ?_) (fun c4_ => ?_)
          · refine lv_iinc (v := a + 1) (lv' := [(2, .int (a + 1)), (0, .ref h), (1, .int p0), (3, .int (nI (i + 1)))]) hx hb dX3_end_35 hl (k := 2) rfl (by rfl) (by decide) rfl (fun ls hl => ?_)
            refine lv_aload_n hx hb dX3_end_38 rfl (lv_at hl 1 rfl) ?_
            refine va_get (D := (dC, dI)) (ci := 3) (v := .ref (adr 7)) (C := RX3) (T := TX3) (N := 24) hx hb hts hin hown hK hP 0 rfl rfl 7 (by decide) (hts (.fieldLink RX3 28 RX3 "lines" "[I") (by decide +kernel)) (fun _ h9 => h9) rfl dX3_end_39 ?_
            refine lv_iload_n hx hb dX3_end_42 rfl (lv_at hl 3 rfl) ?_
            refine va_iald (D := (dC, dI)) (i := nI (i + 1)) (f := τ1 7) hx hb hK hP 7 0 rfl rfl (in_g hlt hN.2) dX3_end_43 ?_
            refine lv_if_ne (tgt := 56) hx hb dX3_end_44 (by decide) (fun c5_ => ?_) (fun c5_ => ?_)
            · refine lv_aload_n hx hb dX3_end_56 rfl (lv_at hl 1 rfl) ?_
              refine va_get (D := (dC, dI)) (ci := 3) (v := .ref (adr 6)) (C := RX3) (T := TX3) (N := 24) hx hb hts hin hown hK hP 0 rfl rfl 6 (by decide) (hts (.fieldLink RX3 25 RX3 "states" "[I") (by decide +kernel)) (fun _ h9 => h9) rfl dX3_end_57 ?_
              refine lv_iload_n hx hb dX3_end_60 rfl (lv_at hl 3 rfl) ?_
              refine lv_iconst (v := 2) hx hb dX3_end_61 (by decide) ?_
              refine va_iast (D := (dC, dI)) (i := nI (i + 1)) (x := 2) (f := τ1 6) hx hb hK hP hD hS 6 0 rfl rfl (in_g hlt hN.2) dX3_end_62 (fun H locs hP hD hS => ?_)
              have hP : va_P (dC, dI) vwCl (mW h adr cI cZ (upd2 τ1 6 ((nI (i + 1)).toNatClampNeg) 2) ++ X) H := by rw [← mput_6]; exact hP
              have hD : va_D (fun q : Nat => z ≤ q) (mW h adr cI cZ (upd2 τ1 6 ((nI (i + 1)).toNatClampNeg) 2) ++ X) := by rw [← mput_6]; exact hD
              refine lv_iinc (v := nI (i + 1 + 1)) (lv' := [(3, .int (nI (i + 1 + 1))), (2, .int (a + 1)), (0, .ref h), (1, .int p0)]) hx hb dX3_end_63 hl (k := 3) rfl (nI_1 _) (by decide) rfl (fun ls hl => ?_)
              refine lv_goto (tgt := 4) hx hb dX3_end_66 (by decide) ?_
              exact ih (i + 1) (a + 1) (upd2 τ1 6 ((nI (i + 1)).toNatClampNeg) 2) H locs ls hlt (by omega) (by show sM_end_s τ p0 i (sM_end_F τ p0 i).1 (sM_end_F τ p0 i).2 = _; rw [hF]; show sM_end_s τ p0 i a τ1 = _; unfold sM_end_s; rw [if_pos c3_, if_pos c4_, if_neg c5_] <;> rfl) hP hD hS hN1 (lv_sub hl [2, 3, 1, 0] rfl)
            · refine lv_aload_n hx hb dX3_end_47 rfl (lv_at hl 1 rfl) ?_
              refine lv_iload_n hx hb dX3_end_48 rfl (lv_at hl 3 rfl) ?_
              refine lv_iconst (v := 5) hx hb dX3_end_49 (by decide) ?_
              refine w_callv (va_runV (As := [.int (nI (i + 1)), .int 5]) (rest := []) ⟨hx, hb, hml, hown, hts⟩ (c_M_goes l dC dI cI cZ cO cW z X h adr τ1 (nI (i + 1)) 5 (in_g hlt hN.2)) (cwV 2 hts gX3_end_X3_goes rfl rfl rfl (by decide +kernel) ⟨Nat.le_of_ble_eq_true rfl, Nat.le_of_ble_eq_true rfl⟩) (wPreV (Nat.le_trans hz hS.1) hP hK hD (va_recv hK hP (ci := 3) (q0 := 0) rfl rfl)) rfl rfl hl.1 rfl (lv_room (Nat.le_of_ble_eq_true rfl)) dX3_end_50 ⟨Nat.le_of_ble_eq_true rfl, Nat.le_of_ble_eq_true rfl⟩) hS (fun u H locs e_ hP hD hS => ?_)
              subst e_
              have hP : va_P (dC, dI) vwCl (mW h adr cI cZ (sM_goes τ1 (nI (i + 1)) 5) ++ X) H := hP
              have hD : va_D (fun q : Nat => z ≤ q) (mW h adr cI cZ (sM_goes τ1 (nI (i + 1)) 5) ++ X) := hD
              refine lv_goto (tgt := 63) hx hb dX3_end_53 (by decide) ?_
              refine lv_iinc (v := nI (i + 1 + 1)) (lv' := [(3, .int (nI (i + 1 + 1))), (2, .int (a + 1)), (0, .ref h), (1, .int p0)]) hx hb dX3_end_63 hl (k := 3) rfl (nI_1 _) (by decide) rfl (fun ls hl => ?_)
              refine lv_goto (tgt := 4) hx hb dX3_end_66 (by decide) ?_
              exact ih (i + 1) (a + 1) (sM_goes τ1 (nI (i + 1)) 5) H locs ls hlt (by omega) (by show sM_end_s τ p0 i (sM_end_F τ p0 i).1 (sM_end_F τ p0 i).2 = _; rw [hF]; show sM_end_s τ p0 i a τ1 = _; unfold sM_end_s; rw [if_pos c3_, if_pos c4_, if_pos c5_] <;> rfl) hP hD hS hN1 (lv_sub hl [2, 3, 1, 0] rfl)
          · refine lv_goto (tgt := 63) hx hb dX3_end_32 (by decide) ?_
            refine lv_iinc (v := nI (i + 1 + 1)) (lv' := [(3, .int (nI (i + 1 + 1))), (0, .ref h), (1, .int p0), (2, .int a)]) hx hb dX3_end_63 hl (k := 3) rfl (nI_1 _) (by decide) rfl (fun ls hl => ?_)
            refine lv_goto (tgt := 4) hx hb dX3_end_66 (by decide) ?_
            exact ih (i + 1) a τ1 H locs ls hlt (by omega) (by show sM_end_s τ p0 i (sM_end_F τ p0 i).1 (sM_end_F τ p0 i).2 = _; rw [hF]; show sM_end_s τ p0 i a τ1 = _; unfold sM_end_s; rw [if_pos c3_, if_neg c4_] <;> rfl) hP hD hS hN1 (lv_sub hl [1, 2, 3, 0] rfl)
  exact key (N + 1) 0 0 τ _ _ ls (Nat.zero_le _) (by omega) rfl hP hD hS hN.1 (lv_sub hl [2, 3, 1, 0] rfl)
set_option maxHeartbeats 4000000 in
set_option maxRecDepth 100000 in
theorem c_M_writer (l : Launch) (dC : Nat → ClassId) (dI : Nat → Nat → Nat) (cI cZ cO cW : ClassId) (z : Nat) (X : va_W) (h : Nat) (adr : Nat → Nat) (τ : T2) (p0 : Int32) (hI : mInv τ) : Met l yX3_writer wsX3_writer ({ frames := 0, cells := 0, slots := 0, locals := 0 }) (wPc (dC, dI) (tyL cI cZ cO cW) z [.ref h, .int p0] (mW h adr cI cZ τ ++ X)) (wQi (dC, dI) z (fun u : T2 => mW h adr cI cZ u ++ X) (fun r u => r = (sM_writer τ p0).1 ∧ u = (sM_writer τ p0).2)) 0 0 (fun q => z ≤ q) := by
  refine en_met (cc := cX3_writer) (maxL := 2) (ret := (some .int)) (by decide) rfl (Nat.le_of_ble_eq_true rfl) ?_
  intro p e s m below meth c ls hx hb hml hr hts hown hlocks hnm hv hl
  obtain ⟨hz, hP, hK, hD⟩ := hv
  have hown : s.vm.findClass RX3 = some m.cls := hown
  have hin : ∀ w ∈ wsX30, w ∈ wsX3_writer := by decide +kernel
  have hS : va_S (fun q : Nat => z ≤ q) s.heap s.heap [] := va_S.rf
  have hl : lv_has ls 2 [(0, .ref h), (1, .int p0)] := hl
  refine lv_iload_n hx hb dX3_writer_0 rfl (lv_at hl 1 rfl) ?_
  refine lv_if_lt (tgt := 22) hx hb dX3_writer_1 (by decide) (fun c1_ => ?_) (fun c1_ => ?_)
  · refine lv_iconst (v := (-1)) hx hb dX3_writer_22 (by decide) ?_
    exact w_iret (v := (-1)) (u := τ) hx hb hr hlocks hP hD hS dX3_writer_23 (wpair (by unfold sM_writer; rw [if_pos c1_] <;> rfl))
  · refine lv_iload_n hx hb dX3_writer_4 rfl (lv_at hl 1 rfl) ?_
    refine lv_bipush (v := 16) hx hb dX3_writer_5 (by decide) ?_
    refine lv_irem hx hb dX3_writer_7 (by decide) ?_
    refine lv_bipush (v := 8) hx hb dX3_writer_8 (by decide) ?_
    refine lv_icmp_gt (tgt := 22) hx hb dX3_writer_10 (by decide) (fun c2_ => ?_) (fun c2_ => ?_)
    · refine lv_iconst (v := (-1)) hx hb dX3_writer_22 (by decide) ?_
      exact w_iret (v := (-1)) (u := τ) hx hb hr hlocks hP hD hS dX3_writer_23 (wpair (by unfold sM_writer; rw [if_neg c1_, if_pos c2_] <;> rfl))
    · refine lv_iload_n hx hb dX3_writer_13 rfl (lv_at hl 1 rfl) ?_
      refine lv_bipush (v := 16) hx hb dX3_writer_14 (by decide) ?_
      refine lv_idiv hx hb dX3_writer_16 (by decide) ?_
      refine lv_bipush (v := 8) hx hb dX3_writer_17 (by decide) ?_
      refine lv_icmp_le (tgt := 24) hx hb dX3_writer_19 (by decide) (fun c3_ => ?_) (fun c3_ => ?_)
      · refine lv_aload_n hx hb dX3_writer_24 rfl (lv_at hl 0 rfl) ?_
        refine va_get (D := (dC, dI)) (ci := 3) (v := .int (τ 19 0)) (C := RX3) (T := TX3) (N := 24) hx hb hts hin hown hK hP 0 rfl rfl 19 (by decide) (hts (.fieldLink RX3 70 RX3 "writers" "I") (by decide +kernel)) (fun _ h9 => h9) rfl dX3_writer_25 ?_
        refine lv_bipush (v := 9) hx hb dX3_writer_28 (by decide) ?_
        refine lv_icmp_ne (tgt := 35) hx hb dX3_writer_30 (by decide) (fun c4_ => ?_) (fun c4_ => ?_)
        · refine lv_aload_n hx hb dX3_writer_35 rfl (lv_at hl 0 rfl) ?_
          refine lv_dup hx hb dX3_writer_36 rfl ?_
          refine va_get (D := (dC, dI)) (ci := 3) (v := .int (τ 19 0)) (C := RX3) (T := TX3) (N := 24) hx hb hts hin hown hK hP 0 rfl rfl 19 (by decide) (hts (.fieldLink RX3 70 RX3 "writers" "I") (by decide +kernel)) (fun _ h9 => h9) rfl dX3_writer_37 ?_
          refine lv_iconst (v := 1) hx hb dX3_writer_40 (by decide) ?_
          refine lv_iadd hx hb dX3_writer_41 ?_
          refine va_put (D := (dC, dI)) (ci := 3) (v := .int ((τ 19 0) + 1)) (ty := .int) (C := RX3) (T := TX3) (N := 24) hx hb hts hin tyX3 tyX3_ok nmX3 hown hK hP hD hS 0 rfl rfl 19 (by decide) (hts (.fieldLink RX3 70 RX3 "writers" "I") (by decide +kernel)) (fun _ h9 => h9) rfl (by decide +kernel) rfl rfl (Nat.le_of_ble_eq_true rfl) dX3_writer_42 (fun H locs hP hD hS => ?_)
          have hP : va_P (dC, dI) vwCl (mW h adr cI cZ (upd2 τ 19 0 ((τ 19 0) + 1)) ++ X) H := by rw [← mput_19]; exact hP
          have hD : va_D (fun q : Nat => z ≤ q) (mW h adr cI cZ (upd2 τ 19 0 ((τ 19 0) + 1)) ++ X) := by rw [← mput_19]; exact hD
          refine lv_aload_n hx hb dX3_writer_45 rfl (lv_at hl 0 rfl) ?_
          refine va_get (D := (dC, dI)) (ci := 3) (v := .ref (adr 17)) (C := RX3) (T := TX3) (N := 24) hx hb hts hin hown hK hP 0 rfl rfl 17 (by decide) (hts (.fieldLink RX3 53 RX3 "criteria" "[I") (by decide +kernel)) (fun _ h9 => h9) rfl dX3_writer_46 ?_
          refine lv_aload_n hx hb dX3_writer_49 rfl (lv_at hl 0 rfl) ?_
          refine va_get (D := (dC, dI)) (ci := 3) (v := .int ((τ 19 0) + 1)) (C := RX3) (T := TX3) (N := 24) hx hb hts hin hown hK hP 0 rfl rfl 19 (by decide) (hts (.fieldLink RX3 70 RX3 "writers" "I") (by decide +kernel)) (fun _ h9 => h9) rfl dX3_writer_50 ?_
          refine lv_iload_n hx hb dX3_writer_53 rfl (lv_at hl 1 rfl) ?_
          refine va_iast (D := (dC, dI)) (i := (τ 19 0) + 1) (x := p0) (f := (upd2 τ 19 0 ((τ 19 0) + 1)) 17) hx hb hK hP hD hS 15 0 rfl rfl (mw1_in hI c4_) dX3_writer_54 (fun H locs hP hD hS => ?_)
          have hP : va_P (dC, dI) vwCl (mW h adr cI cZ (upd2 (upd2 τ 19 0 ((τ 19 0) + 1)) 17 (((τ 19 0) + 1).toNatClampNeg) p0) ++ X) H := by rw [← mput_17]; exact hP
          have hD : va_D (fun q : Nat => z ≤ q) (mW h adr cI cZ (upd2 (upd2 τ 19 0 ((τ 19 0) + 1)) 17 (((τ 19 0) + 1).toNatClampNeg) p0) ++ X) := by rw [← mput_17]; exact hD
          refine lv_aload_n hx hb dX3_writer_55 rfl (lv_at hl 0 rfl) ?_
          refine va_get (D := (dC, dI)) (ci := 3) (v := .int ((τ 19 0) + 1)) (C := RX3) (T := TX3) (N := 24) hx hb hts hin hown hK hP 0 rfl rfl 19 (by decide) (hts (.fieldLink RX3 70 RX3 "writers" "I") (by decide +kernel)) (fun _ h9 => h9) rfl dX3_writer_56 ?_
          exact w_iret (v := (τ 19 0) + 1) (u := upd2 (upd2 τ 19 0 ((τ 19 0) + 1)) 17 (((τ 19 0) + 1).toNatClampNeg) p0) hx hb hr hlocks hP hD hS dX3_writer_59 (wpair (by unfold sM_writer; rw [if_neg c1_, if_neg c2_, if_pos c3_, if_neg c4_] <;> rfl))
        · refine lv_iconst (v := 0) hx hb dX3_writer_33 (by decide) ?_
          exact w_iret (v := 0) (u := τ) hx hb hr hlocks hP hD hS dX3_writer_34 (wpair (by unfold sM_writer; rw [if_neg c1_, if_neg c2_, if_pos c3_, if_pos c4_] <;> rfl))
      · refine lv_iconst (v := (-1)) hx hb dX3_writer_22 (by decide) ?_
        exact w_iret (v := (-1)) (u := τ) hx hb hr hlocks hP hD hS dX3_writer_23 (wpair (by unfold sM_writer; rw [if_neg c1_, if_neg c2_, if_neg c3_] <;> rfl))
