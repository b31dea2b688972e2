set_option maxHeartbeats 4000000 in
set_option maxRecDepth 100000 in
theorem c_M_isOutput (l : Launch) (dC : Nat → ClassId) (dI : Nat → Nat → Nat) (cI cZ cO cW : ClassId) (z : Nat) (X : va_W) (h : Nat) (adr : Nat → Nat) (τ : T2) (p0 : Int32) : Met l yX3_isOutput wsX3_isOutput ({ frames := 0, cells := 0, slots := 0, locals := 0 }) (wPc (dC, dI) (tyL cI cZ cO cW) z [.ref h, .int p0] (mW h adr cI cZ τ ++ X)) (vp_Si (fun r => r = sM_isOutput τ p0)) 0 0 (fun _ => False) := by
  refine en_met (cc := cX3_isOutput) (maxL := 2) (ret := (some .boolean)) (by decide) rfl (Nat.le_of_ble_eq_true rfl) ?_
  intro p e s m below meth c ls hx hb hml hr hts hown hlocks hnm hv hl
  obtain ⟨hz, hP, hK, hD⟩ := hv
  have hown : s.vm.findClass RX3 = some m.cls := hown
  have hin : ∀ w ∈ wsX30, w ∈ wsX3_isOutput := by decide +kernel
  have hS : va_S (fun q : Nat => z ≤ q) s.heap s.heap [] := va_S.rf
  have hl : lv_has ls 2 [(0, .ref h), (1, .int p0)] := hl
  refine lv_iload_n hx hb dX3_isOutput_0 rfl (lv_at hl 1 rfl) ?_
  refine lv_if_le (tgt := 16) hx hb dX3_isOutput_1 (by decide) (fun c1_ => ?_) (fun c1_ => ?_)
  · refine lv_iconst (v := 0) hx hb dX3_isOutput_16 (by decide) ?_
    exact w_rz (v := 0) hx hb hr rfl hlocks dX3_isOutput_17 (by unfold sM_isOutput; rw [if_pos c1_] <;> rfl)
  · refine lv_iload_n hx hb dX3_isOutput_4 rfl (lv_at hl 1 rfl) ?_
    refine lv_aload_n hx hb dX3_isOutput_5 rfl (lv_at hl 0 rfl) ?_
    refine va_get (D := (dC, dI)) (ci := 3) (v := .int (τ 13 0)) (C := RX3) (T := TX3) (N := 24) hx hb hts hin hown hK hP 0 rfl rfl 13 (by decide) (hts (.fieldLink RX3 67 RX3 "outputs" "I") (by decide +kernel)) (fun _ h9 => h9) rfl dX3_isOutput_6 ?_
    refine lv_icmp_gt (tgt := 16) hx hb dX3_isOutput_9 (by decide) (fun c2_ => ?_) (fun c2_ => ?_)
    · refine lv_iconst (v := 0) hx hb dX3_isOutput_16 (by decide) ?_
      exact w_rz (v := 0) hx hb hr rfl hlocks dX3_isOutput_17 (by unfold sM_isOutput; rw [if_neg c1_, if_pos c2_] <;> rfl)
    · refine lv_iconst (v := 1) hx hb dX3_isOutput_12 (by decide) ?_
      refine lv_goto (tgt := 17) hx hb dX3_isOutput_13 (by decide) ?_
      exact w_rz (v := 1) hx hb hr rfl hlocks dX3_isOutput_17 (by unfold sM_isOutput; rw [if_neg c1_, if_neg c2_] <;> rfl)
set_option maxHeartbeats 4000000 in
set_option maxRecDepth 100000 in
theorem c_M_isWriter (l : Launch) (dC : Nat → ClassId) (dI : Nat → Nat → Nat) (cI cZ cO cW : ClassId) (z : Nat) (X : va_W) (h : Nat) (adr : Nat → Nat) (τ : T2) (p0 : Int32) : Met l yX3_isWriter wsX3_isWriter ({ frames := 0, cells := 0, slots := 0, locals := 0 }) (wPc (dC, dI) (tyL cI cZ cO cW) z [.ref h, .int p0] (mW h adr cI cZ τ ++ X)) (vp_Si (fun r => r = sM_isWriter τ p0)) 0 0 (fun _ => False) := by
  refine en_met (cc := cX3_isWriter) (maxL := 2) (ret := (some .boolean)) (by decide) rfl (Nat.le_of_ble_eq_true rfl) ?_
  intro p e s m below meth c ls hx hb hml hr hts hown hlocks hnm hv hl
  obtain ⟨hz, hP, hK, hD⟩ := hv
  have hown : s.vm.findClass RX3 = some m.cls := hown
  have hin : ∀ w ∈ wsX30, w ∈ wsX3_isWriter := by decide +kernel
  have hS : va_S (fun q : Nat => z ≤ q) s.heap s.heap [] := va_S.rf
  have hl : lv_has ls 2 [(0, .ref h), (1, .int p0)] := hl
  refine lv_iload_n hx hb dX3_isWriter_0 rfl (lv_at hl 1 rfl) ?_
  refine lv_if_le (tgt := 16) hx hb dX3_isWriter_1 (by decide) (fun c1_ => ?_) (fun c1_ => ?_)
  · refine lv_iconst (v := 0) hx hb dX3_isWriter_16 (by decide) ?_
    exact w_rz (v := 0) hx hb hr rfl hlocks dX3_isWriter_17 (by unfold sM_isWriter; rw [if_pos c1_] <;> rfl)
  · refine lv_iload_n hx hb dX3_isWriter_4 rfl (lv_at hl 1 rfl) ?_
    refine lv_aload_n hx hb dX3_isWriter_5 rfl (lv_at hl 0 rfl) ?_
    refine va_get (D := (dC, dI)) (ci := 3) (v := .int (τ 19 0)) (C := RX3) (T := TX3) (N := 24) hx hb hts hin hown hK hP 0 rfl rfl 19 (by decide) (hts (.fieldLink RX3 70 RX3 "writers" "I") (by decide +kernel)) (fun _ h9 => h9) rfl dX3_isWriter_6 ?_
    refine lv_icmp_gt (tgt := 16) hx hb dX3_isWriter_9 (by decide) (fun c2_ => ?_) (fun c2_ => ?_)
    · refine lv_iconst (v := 0) hx hb dX3_isWriter_16 (by decide) ?_
      exact w_rz (v := 0) hx hb hr rfl hlocks dX3_isWriter_17 (by unfold sM_isWriter; rw [if_neg c1_, if_pos c2_] <;> rfl)
    · refine lv_iconst (v := 1) hx hb dX3_isWriter_12 (by decide) ?_
      refine lv_goto (tgt := 17) hx hb dX3_isWriter_13 (by decide) ?_
      exact w_rz (v := 1) hx hb hr rfl hlocks dX3_isWriter_17 (by unfold sM_isWriter; rw [if_neg c1_, if_neg c2_] <;> rfl)
set_option maxHeartbeats 4000000 in
set_option maxRecDepth 100000 in
theorem c_M_isGone (l : Launch) (dC : Nat → ClassId) (dI : Nat → Nat → Nat) (cI cZ cO cW : ClassId) (z : Nat) (X : va_W) (h : Nat) (adr : Nat → Nat) (τ : T2) (p0 : Int32) (ho : vp_in p0 1001) : Met l yX3_isGone wsX3_isGone ({ frames := 0, cells := 0, slots := 0, locals := 0 }) (wPc (dC, dI) (tyL cI cZ cO cW) z [.ref h, .int p0] (mW h adr cI cZ τ ++ X)) (vp_Si (fun r => r = sM_isGone τ p0)) 0 0 (fun _ => False) := by
  refine en_met (cc := cX3_isGone) (maxL := 2) (ret := (some .boolean)) (by decide) rfl (Nat.le_of_ble_eq_true rfl) ?_
  intro p e s m below meth c ls hx hb hml hr hts hown hlocks hnm hv hl
  obtain ⟨hz, hP, hK, hD⟩ := hv
  have hown : s.vm.findClass RX3 = some m.cls := hown
  have hin : ∀ w ∈ wsX30, w ∈ wsX3_isGone := by decide +kernel
  have hS : va_S (fun q : Nat => z ≤ q) s.heap s.heap [] := va_S.rf
  have hl : lv_has ls 2 [(0, .ref h), (1, .int p0)] := hl
  refine lv_aload_n hx hb dX3_isGone_0 rfl (lv_at hl 0 rfl) ?_
  refine va_get (D := (dC, dI)) (ci := 3) (v := .ref (adr 6)) (C := RX3) (T := TX3) (N := 24) hx hb hts hin hown hK hP 0 rfl rfl 6 (by decide) (hts (.fieldLink RX3 25 RX3 "states" "[I") (by decide +kernel)) (fun _ h9 => h9) rfl dX3_isGone_1 ?_
  refine lv_iload_n hx hb dX3_isGone_4 rfl (lv_at hl 1 rfl) ?_
  refine va_iald (D := (dC, dI)) (i := p0) (f := τ 6) hx hb hK hP 6 0 rfl rfl ho dX3_isGone_5 ?_
  refine lv_iconst (v := 4) hx hb dX3_isGone_6 (by decide) ?_
  refine lv_icmp_eq (tgt := 20) hx hb dX3_isGone_7 (by decide) (fun c1_ => ?_) (fun c1_ => ?_)
  · refine lv_iconst (v := 1) hx hb dX3_isGone_20 (by decide) ?_
    refine lv_goto (tgt := 25) hx hb dX3_isGone_21 (by decide) ?_
    exact w_rz (v := 1) hx hb hr rfl hlocks dX3_isGone_25 (by unfold sM_isGone; rw [if_pos c1_] <;> rfl)
  · refine lv_aload_n hx hb dX3_isGone_10 rfl (lv_at hl 0 rfl) ?_
    refine va_get (D := (dC, dI)) (ci := 3) (v := .ref (adr 6)) (C := RX3) (T := TX3) (N := 24) hx hb hts hin hown hK hP 0 rfl rfl 6 (by decide) (hts (.fieldLink RX3 25 RX3 "states" "[I") (by decide +kernel)) (fun _ h9 => h9) rfl dX3_isGone_11 ?_
    refine lv_iload_n hx hb dX3_isGone_14 rfl (lv_at hl 1 rfl) ?_
    refine va_iald (D := (dC, dI)) (i := p0) (f := τ 6) hx hb hK hP 6 0 rfl rfl ho dX3_isGone_15 ?_
    refine lv_iconst (v := 5) hx hb dX3_isGone_16 (by decide) ?_
    refine lv_icmp_ne (tgt := 24) hx hb dX3_isGone_17 (by decide) (fun c2_ => ?_) (fun c2_ => ?_)
    · refine lv_iconst (v := 0) hx hb dX3_isGone_24 (by decide) ?_
      exact w_rz (v := 0) hx hb hr rfl hlocks dX3_isGone_25 (by unfold sM_isGone; rw [if_neg c1_, if_neg c2_] <;> rfl)
    · refine lv_iconst (v := 1) hx hb dX3_isGone_20 (by decide) ?_
      refine lv_goto (tgt := 25) hx hb dX3_isGone_21 (by decide) ?_
      exact w_rz (v := 1) hx hb hr rfl hlocks dX3_isGone_25 (by unfold sM_isGone; rw [if_neg c1_, if_pos c2_] <;> rfl)
set_option maxHeartbeats 4000000 in
set_option maxRecDepth 100000 in
theorem c_M_pagesOf (l : Launch) (dC : Nat → ClassId) (dI : Nat → Nat → Nat) (cI cZ cO cW : ClassId) (z : Nat) (X : va_W) (h : Nat) (adr : Nat → Nat) (τ : T2) (p0 : Int32) (ho : vp_in p0 1001) : Met l yX3_pagesOf wsX3_pagesOf ({ frames := 0, cells := 0, slots := 0, locals := 0 }) (wPc (dC, dI) (tyL cI cZ cO cW) z [.ref h, .int p0] (mW h adr cI cZ τ ++ X)) (vp_Si (fun r => r = sM_pagesOf τ p0)) 0 0 (fun _ => False) := by
  refine en_met (cc := cX3_pagesOf) (maxL := 2) (ret := (some .int)) (by decide) rfl (Nat.le_of_ble_eq_true rfl) ?_
  intro p e s m below meth c ls hx hb hml hr hts hown hlocks hnm hv hl
  obtain ⟨hz, hP, hK, hD⟩ := hv
  have hown : s.vm.findClass RX3 = some m.cls := hown
  have hin : ∀ w ∈ wsX30, w ∈ wsX3_pagesOf := by decide +kernel
  have hS : va_S (fun q : Nat => z ≤ q) s.heap s.heap [] := va_S.rf
  have hl : lv_has ls 2 [(0, .ref h), (1, .int p0)] := hl
  refine lv_aload_n hx hb dX3_pagesOf_0 rfl (lv_at hl 0 rfl) ?_
  refine va_get (D := (dC, dI)) (ci := 3) (v := .ref (adr 7)) (C := RX3) (T := TX3) (N := 24) hx hb hts hin hown hK hP 0 rfl rfl 7 (by decide) (hts (.fieldLink RX3 28 RX3 "lines" "[I") (by decide +kernel)) (fun _ h9 => h9) rfl dX3_pagesOf_1 ?_
  refine lv_iload_n hx hb dX3_pagesOf_4 rfl (lv_at hl 1 rfl) ?_
  refine va_iald (D := (dC, dI)) (i := p0) (f := τ 7) hx hb hK hP 7 0 rfl rfl ho dX3_pagesOf_5 ?_
  refine lv_bipush (v := 8) hx hb dX3_pagesOf_6 (by decide) ?_
  refine lv_iadd hx hb dX3_pagesOf_8 ?_
  refine lv_iconst (v := 1) hx hb dX3_pagesOf_9 (by decide) ?_
  refine lv_isub hx hb dX3_pagesOf_10 ?_
  refine lv_bipush (v := 8) hx hb dX3_pagesOf_11 (by decide) ?_
  refine lv_idiv hx hb dX3_pagesOf_13 (by decide) ?_
  exact w_ri (v := (((τ 7 p0.toNatClampNeg) + 8) - 1) / 8) hx hb hr hlocks dX3_pagesOf_14 (by unfold sM_pagesOf; rfl)
set_option maxHeartbeats 4000000 in
set_option maxRecDepth 100000 in
theorem c_M_free (l : Launch) (dC : Nat → ClassId) (dI : Nat → Nat → Nat) (cI cZ cO cW : ClassId) (z : Nat) (X : va_W) (h : Nat) (adr : Nat → Nat) (τ : T2) (hI : mInv τ) : Met l yX3_free wsX3_free ({ frames := 1, cells := 0, slots := 0, locals := 21 }) (wPc (dC, dI) (tyL cI cZ cO cW) z [.ref h] (mW h adr cI cZ τ ++ X)) (vp_Si (fun r => r = sM_free τ)) 0 0 (fun _ => False) := by
  refine en_met (cc := cX3_free) (maxL := 3) (ret := (some .int)) (by decide) rfl (Nat.le_of_ble_eq_true rfl) ?_
  intro p e s m below meth c ls hx hb hml hr hts hown hlocks hnm hv hl
  obtain ⟨hz, hP, hK, hD⟩ := hv
  have hown : s.vm.findClass RX3 = some m.cls := hown
  have hin : ∀ w ∈ wsX30, w ∈ wsX3_free := by decide +kernel
  have hS : va_S (fun q : Nat => z ≤ q) s.heap s.heap [] := va_S.rf
  have hl : lv_has ls 3 [(0, .ref h)] := hl
  refine lv_aload_n hx hb dX3_free_0 rfl (lv_at hl 0 rfl) ?_
  refine va_get (D := (dC, dI)) (ci := 3) (v := .int (τ 0 0)) (C := RX3) (T := TX3) (N := 24) hx hb hts hin hown hK hP 0 rfl rfl 0 (by decide) (hts (.fieldLink RX3 63 RX3 "room" "I") (by decide +kernel)) (fun _ h9 => h9) rfl dX3_free_1 ?_
  refine lv_istore_n (lv' := [(1, .int (τ 0 0)), (0, .ref h)]) hx hb dX3_free_4 rfl hl (by decide) rfl (fun ls hl => ?_)
  refine lv_iconst (v := 1) hx hb dX3_free_5 (by decide) ?_
  refine lv_istore_n (lv' := [(2, .int 1), (1, .int (τ 0 0)), (0, .ref h)]) hx hb dX3_free_6 rfl hl (by decide) rfl (fun ls hl => ?_)
  obtain ⟨N, hNc⟩ : ∃ N : Nat, N = (τ 13 0).toNatClampNeg := ⟨_, rfl⟩
  have hN := mN_out hI
  rw [← hNc] at hN
  have key : ∀ (n i : Nat) (a : Int32) (ls : Array Slot), i ≤ N → N - i < n → sM_free_F τ i = a → lv_has ls 3 [(0, .ref h), (1, .int a), (2, .int (nI (i + 1)))] → W p l e ({ frames := 1, cells := 0, slots := 0, locals := 21 }) s m ([.ref h] : List Value).toArray below meth c s.heap [] 0 0 (MQ below (vp_Si (fun r => r = sM_free τ)) ([.ref h] : List Value).toArray s 0 0 (fun _ => False)) (F0 m 7 ls []) := by
    intro n
    induction n with
    | zero => intro i a ls hi hn; exact absurd hn (Nat.not_lt_zero _)
    | succ n ih =>
      intro i a ls hi hn hF hl
      refine lv_iload_n hx hb dX3_free_7 rfl (lv_at hl 2 rfl) ?_
      refine lv_aload_n hx hb dX3_free_8 rfl (lv_at hl 0 rfl) ?_
      refine va_get (D := (dC, dI)) (ci := 3) (v := .int (τ 13 0)) (C := RX3) (T := TX3) (N := 24) hx hb hts hin hown hK hP 0 rfl rfl 13 (by decide) (hts (.fieldLink RX3 67 RX3 "outputs" "I") (by decide +kernel)) (fun _ h9 => h9) rfl dX3_free_9 ?_
      refine lv_icmp_gt (tgt := 41) hx hb dX3_free_12 (by decide) (fun c2_ => ?_) (fun c2_ => ?_)
      · have hiN : i = N := lg_out hN.1 hN.2 (by decide) hi c2_
        subst hiN
        refine lv_iload_n hx hb dX3_free_41 rfl (lv_at hl 1 rfl) ?_
        exact w_ri (v := a) hx hb hr hlocks dX3_free_42 (by unfold sM_free; rw [← hNc, hF]; show _ = sM_free_x τ a; unfold sM_free_x; rfl)
      · have hlt : i < N := lg_in hN.1 hN.2 (by decide) hi c2_
        refine lv_iload_n hx hb dX3_free_15 rfl (lv_at hl 1 rfl) ?_
        refine lv_aload_n hx hb dX3_free_16 rfl (lv_at hl 0 rfl) ?_
        refine lv_iload_n hx hb dX3_free_17 rfl (lv_at hl 2 rfl) ?_
        refine vp_callSi (W.runV (As := [.int (nI (i + 1))]) (rest := [.int a]) ⟨hx, hb, hml, hown, hts⟩ (c_M_isGone l dC dI cI cZ cO cW z X h adr τ (nI (i + 1)) (in_g hlt hN.2)) (cwV 1 hts gX3_free_X3_isGone rfl rfl rfl (by decide +kernel) ⟨Nat.le_of_ble_eq_true rfl, Nat.le_of_ble_eq_true rfl⟩) (wPreV (Nat.le_trans hz hS.1) hP hK hD (va_recv hK hP (ci := 3) (q0 := 0) rfl rfl)) rfl rfl hl.1 rfl (lv_room (Nat.le_of_ble_eq_true rfl)) dX3_free_18 ⟨Nat.le_of_ble_eq_true rfl, Nat.le_of_ble_eq_true rfl⟩) (fun r e_ => ?_)
        subst e_
        refine lv_if_eq (tgt := 28) hx hb dX3_free_21 (by decide) (fun c3_ => ?_) (fun c3_ => ?_)
        · refine lv_aload_n hx hb dX3_free_28 rfl (lv_at hl 0 rfl) ?_
          refine lv_iload_n hx hb dX3_free_29 rfl (lv_at hl 2 rfl) ?_
          refine vp_callSi (W.runV (As := [.int (nI (i + 1))]) (rest := [.int a]) ⟨hx, hb, hml, hown, hts⟩ (c_M_pagesOf l dC dI cI cZ cO cW z X h adr τ (nI (i + 1)) (in_g hlt hN.2)) (cwV 1 hts gX3_free_X3_pagesOf rfl rfl rfl (by decide +kernel) ⟨Nat.le_of_ble_eq_true rfl, Nat.le_of_ble_eq_true rfl⟩) (wPreV (Nat.le_trans hz hS.1) hP hK hD (va_recv hK hP (ci := 3) (q0 := 0) rfl rfl)) rfl rfl hl.1 rfl (lv_room (Nat.le_of_ble_eq_true rfl)) dX3_free_30 ⟨Nat.le_of_ble_eq_true rfl, Nat.le_of_ble_eq_true rfl⟩) (fun r e_ => ?_)
          subst e_
          refine lv_isub hx hb dX3_free_33 ?_
          refine lv_istore_n (lv' := [(1, .int (a - (sM_pagesOf τ (nI (i + 1))))), (0, .ref h), (2, .int (nI (i + 1)))]) hx hb dX3_free_34 rfl hl (by decide) rfl (fun ls hl => ?_)
          refine lv_iinc (v := nI (i + 1 + 1)) (lv' := [(2, .int (nI (i + 1 + 1))), (1, .int (a - (sM_pagesOf τ (nI (i + 1))))), (0, .ref h)]) hx hb dX3_free_35 hl (k := 2) rfl (nI_1 _) (by decide) rfl (fun ls hl => ?_)
          refine lv_goto (tgt := 7) hx hb dX3_free_38 (by decide) ?_
          exact ih (i + 1) (a - (sM_pagesOf τ (nI (i + 1)))) ls hlt (by omega) (by show sM_free_s τ i (sM_free_F τ i) = _; rw [hF]; show sM_free_s τ i a = _; unfold sM_free_s; rw [if_pos c3_] <;> rfl)  (lv_sub hl [2, 1, 0] rfl)
        · refine lv_iconst (v := 0) hx hb dX3_free_24 (by decide) ?_
          refine lv_goto (tgt := 33) hx hb dX3_free_25 (by decide) ?_
          refine lv_isub hx hb dX3_free_33 ?_
          refine lv_istore_n (lv' := [(1, .int (a - 0)), (0, .ref h), (2, .int (nI (i + 1)))]) hx hb dX3_free_34 rfl hl (by decide) rfl (fun ls hl => ?_)
          refine lv_iinc (v := nI (i + 1 + 1)) (lv' := [(2, .int (nI (i + 1 + 1))), (1, .int (a - 0)), (0, .ref h)]) hx hb dX3_free_35 hl (k := 2) rfl (nI_1 _) (by decide) rfl (fun ls hl => ?_)
          refine lv_goto (tgt := 7) hx hb dX3_free_38 (by decide) ?_
          exact ih (i + 1) (a - 0) ls hlt (by omega) (by show sM_free_s τ i (sM_free_F τ i) = _; rw [hF]; show sM_free_s τ i a = _; unfold sM_free_s; rw [if_neg c3_] <;> rfl)  (lv_sub hl [2, 1, 0] rfl)
  exact key (N + 1) 0 (τ 0 0) ls (Nat.zero_le _) (by omega) rfl  (lv_sub hl [2, 1, 0] rfl)
set_option maxHeartbeats 4000000 in
set_option maxRecDepth 100000 in
theorem c_M_goes (l : Launch) (dC : Nat → ClassId) (dI : Nat → Nat → Nat) (cI cZ cO cW : ClassId) (z : Nat) (X : va_W) (h : Nat) (adr : Nat → Nat) (τ : T2) (p0 : Int32) (p1 : Int32) (ho : vp_in p0 1001) : Met l yX3_goes wsX3_goes ({ frames := 0, cells := 0, slots := 0, locals := 0 }) (wPc (dC, dI) (tyL cI cZ cO cW) z [.ref h, .int p0, .int p1] (mW h adr cI cZ τ ++ X)) (wQv (dC, dI) z (fun u : T2 => mW h adr cI cZ u ++ X) (fun u => u = sM_goes τ p0 p1)) 0 0 (fun q => z ≤ q) := by
  refine en_met (cc := cX3_goes) (maxL := 3) (ret := none) (by decide) rfl (Nat.le_of_ble_eq_true rfl) ?_
  intro p e s m below meth c ls hx hb hml hr hts hown hlocks hnm hv hl
  obtain ⟨hz, hP, hK, hD⟩ := hv
  have hown : s.vm.findClass RX3 = some m.cls := hown
  have hin : ∀ w ∈ wsX30, w ∈ wsX3_goes := by decide +kernel
  have hS : va_S (fun q : Nat => z ≤ q) s.heap s.heap [] := va_S.rf
  have hl : lv_has ls 3 [(0, .ref h), (1, .int p0), (2, .int p1)] := hl
  refine lv_aload_n hx hb dX3_goes_0 rfl (lv_at hl 0 rfl) ?_
  refine va_get (D := (dC, dI)) (ci := 3) (v := .ref (adr 6)) (C := RX3) (T := TX3) (N := 24) hx hb hts hin hown hK hP 0 rfl rfl 6 (by decide) (hts (.fieldLink RX3 25 RX3 "states" "[I") (by decide +kernel)) (fun _ h9 => h9) rfl dX3_goes_1 ?_
  refine lv_iload_n hx hb dX3_goes_4 rfl (lv_at hl 1 rfl) ?_
  refine lv_iload_n hx hb dX3_goes_5 rfl (lv_at hl 2 rfl) ?_
  refine va_iast (D := (dC, dI)) (i := p0) (x := p1) (f := τ 6) hx hb hK hP hD hS 6 0 rfl rfl ho dX3_goes_6 (fun H locs hP hD hS => ?_)
  have hP : va_P (dC, dI) vwCl (mW h adr cI cZ (upd2 τ 6 p0.toNatClampNeg p1) ++ X) H := by rw [← mput_6]; exact hP
  have hD : va_D (fun q : Nat => z ≤ q) (mW h adr cI cZ (upd2 τ 6 p0.toNatClampNeg p1) ++ X) := by rw [← mput_6]; exact hD
  refine lv_aload_n hx hb dX3_goes_7 rfl (lv_at hl 0 rfl) ?_
  refine va_get (D := (dC, dI)) (ci := 3) (v := .ref (adr 11)) (C := RX3) (T := TX3) (N := 24) hx hb hts hin hown hK hP 0 rfl rfl 11 (by decide) (hts (.fieldLink RX3 41 RX3 "held" "[Z") (by decide +kernel)) (fun _ h9 => h9) rfl dX3_goes_8 ?_
  refine lv_iload_n hx hb dX3_goes_11 rfl (lv_at hl 1 rfl) ?_
  refine lv_iconst (v := 0) hx hb dX3_goes_12 (by decide) ?_
  refine va_zast (D := (dC, dI)) (i := p0) (x := 0) (f := (upd2 τ 6 p0.toNatClampNeg p1) 11) hx hb hK hP hD hS 11 1 rfl rfl ho dX3_goes_13 (fun H locs hP hD hS => ?_)
  have hP : va_P (dC, dI) vwCl (mW h adr cI cZ (upd2 (upd2 τ 6 p0.toNatClampNeg p1) 11 p0.toNatClampNeg (vp_nar .boolean 0)) ++ X) H := by rw [← mput_11]; exact hP
  have hD : va_D (fun q : Nat => z ≤ q) (mW h adr cI cZ (upd2 (upd2 τ 6 p0.toNatClampNeg p1) 11 p0.toNatClampNeg (vp_nar .boolean 0)) ++ X) := by rw [← mput_11]; exact hD
  exact w_vret (u := upd2 (upd2 τ 6 p0.toNatClampNeg p1) 11 p0.toNatClampNeg (vp_nar .boolean 0)) hx hb hr hlocks hP hD hS dX3_goes_14 (by unfold sM_goes; rfl)
set_option maxHeartbeats 4000000 in
set_option maxRecDepth 100000 in
theorem c_M_fits (l : Launch) (dC : Nat → ClassId) (dI : Nat → Nat → Nat) (cI cZ cO cW : ClassId) (z : Nat) (X : va_W) (h : Nat) (adr : Nat → Nat) (τ : T2) (p0 : Int32) (p1 : Int32) (ho : vp_in p0 1001) : Met l yX3_fits wsX3_fits ({ frames := 0, cells := 0, slots := 0, locals := 0 }) (wPc (dC, dI) (tyL cI cZ cO cW) z [.ref h, .int p0, .int p1] (mW h adr cI cZ τ ++ X)) (vp_Si (fun r => r = sM_fits τ p0 p1)) 0 0 (fun _ => False) := by
  refine en_met (cc := cX3_fits) (maxL := 3) (ret := (some .boolean)) (by decide) rfl (Nat.le_of_ble_eq_true rfl) ?_
  intro p e s m below meth c ls hx hb hml hr hts hown hlocks hnm hv hl
  obtain ⟨hz, hP, hK, hD⟩ := hv
  have hown : s.vm.findClass RX3 = some m.cls := hown
  have hin : ∀ w ∈ wsX30, w ∈ wsX3_fits := by decide +kernel
  have hS : va_S (fun q : Nat => z ≤ q) s.heap s.heap [] := va_S.rf
  have hl : lv_has ls 3 [(0, .ref h), (1, .int p0), (2, .int p1)] := hl
  refine lv_iload_n hx hb dX3_fits_0 rfl (lv_at hl 2 rfl) ?_
  refine lv_bipush (v := 16) hx hb dX3_fits_1 (by decide) ?_
  refine lv_irem hx hb dX3_fits_3 (by decide) ?_
  refine lv_bipush (v := 8) hx hb dX3_fits_4 (by decide) ?_
  refine lv_icmp_eq (tgt := 22) hx hb dX3_fits_6 (by decide) (fun c1_ => ?_) (fun c1_ => ?_)
  · refine lv_iload_n hx hb dX3_fits_22 rfl (lv_at hl 2 rfl) ?_
    refine lv_bipush (v := 16) hx hb dX3_fits_23 (by decide) ?_
    refine lv_idiv hx hb dX3_fits_25 (by decide) ?_
    refine lv_if_eq (tgt := 44) hx hb dX3_fits_26 (by decide) (fun c2_ => ?_) (fun c2_ => ?_)
    · refine lv_iconst (v := 1) hx hb dX3_fits_44 (by decide) ?_
      refine lv_goto (tgt := 49) hx hb dX3_fits_45 (by decide) ?_
      exact w_rz (v := 1) hx hb hr rfl hlocks dX3_fits_49 (by unfold sM_fits; rw [if_pos c1_, if_pos c2_] <;> rfl)
    · refine lv_iload_n hx hb dX3_fits_29 rfl (lv_at hl 2 rfl) ?_
      refine lv_bipush (v := 16) hx hb dX3_fits_30 (by decide) ?_
      refine lv_idiv hx hb dX3_fits_32 (by decide) ?_
      refine lv_iconst (v := 1) hx hb dX3_fits_33 (by decide) ?_
      refine lv_isub hx hb dX3_fits_34 ?_
      refine lv_aload_n hx hb dX3_fits_35 rfl (lv_at hl 0 rfl) ?_
      refine va_get (D := (dC, dI)) (ci := 3) (v := .ref (adr 4)) (C := RX3) (T := TX3) (N := 24) hx hb hts hin hown hK hP 0 rfl rfl 4 (by decide) (hts (.fieldLink RX3 19 RX3 "destinations" "[I") (by decide +kernel)) (fun _ h9 => h9) rfl dX3_fits_36 ?_
      refine lv_iload_n hx hb dX3_fits_39 rfl (lv_at hl 1 rfl) ?_
      refine va_iald (D := (dC, dI)) (i := p0) (f := τ 4) hx hb hK hP 4 0 rfl rfl ho dX3_fits_40 ?_
      refine lv_icmp_ne (tgt := 48) hx hb dX3_fits_41 (by decide) (fun c3_ => ?_) (fun c3_ => ?_)
      · refine lv_iconst (v := 0) hx hb dX3_fits_48 (by decide) ?_
        exact w_rz (v := 0) hx hb hr rfl hlocks dX3_fits_49 (by unfold sM_fits; rw [if_pos c1_, if_neg c2_, if_neg c3_] <;> rfl)
      · refine lv_iconst (v := 1) hx hb dX3_fits_44 (by decide) ?_
        refine lv_goto (tgt := 49) hx hb dX3_fits_45 (by decide) ?_
        exact w_rz (v := 1) hx hb hr rfl hlocks dX3_fits_49 (by unfold sM_fits; rw [if_pos c1_, if_neg c2_, if_pos c3_] <;> rfl)
  · refine lv_iload_n hx hb dX3_fits_9 rfl (lv_at hl 2 rfl) ?_
    refine lv_bipush (v := 16) hx hb dX3_fits_10 (by decide) ?_
    refine lv_irem hx hb dX3_fits_12 (by decide) ?_
    refine lv_aload_n hx hb dX3_fits_13 rfl (lv_at hl 0 rfl) ?_
    refine va_get (D := (dC, dI)) (ci := 3) (v := .ref (adr 2)) (C := RX3) (T := TX3) (N := 24) hx hb hts hin hown hK hP 0 rfl rfl 2 (by decide) (hts (.fieldLink RX3 13 RX3 "classes" "[I") (by decide +kernel)) (fun _ h9 => h9) rfl dX3_fits_14 ?_
    refine lv_iload_n hx hb dX3_fits_17 rfl (lv_at hl 1 rfl) ?_
    refine va_iald (D := (dC, dI)) (i := p0) (f := τ 2) hx hb hK hP 2 0 rfl rfl ho dX3_fits_18 ?_
    refine lv_icmp_ne (tgt := 48) hx hb dX3_fits_19 (by decide) (fun c4_ => ?_) (fun c4_ => ?_)
    · refine lv_iconst (v := 0) hx hb dX3_fits_48 (by decide) ?_
      exact w_rz (v := 0) hx hb hr rfl hlocks dX3_fits_49 (by unfold sM_fits; rw [if_neg c1_, if_neg c4_] <;> rfl)
    · refine lv_iload_n hx hb dX3_fits_22 rfl (lv_at hl 2 rfl) ?_
      refine lv_bipush (v := 16) hx hb dX3_fits_23 (by decide) ?_
      refine lv_idiv hx hb dX3_fits_25 (by decide) ?_
      refine lv_if_eq (tgt := 44) hx hb dX3_fits_26 (by decide) (fun c5_ => ?_) (fun c5_ => ?_)
      · refine lv_iconst (v := 1) hx hb dX3_fits_44 (by decide) ?_
        refine lv_goto (tgt := 49) hx hb dX3_fits_45 (by decide) ?_
        exact w_rz (v := 1) hx hb hr rfl hlocks dX3_fits_49 (by unfold sM_fits; rw [if_neg c1_, if_pos c4_, if_pos c5_] <;> rfl)
      · refine lv_iload_n hx hb dX3_fits_29 rfl (lv_at hl 2 rfl) ?_
        refine lv_bipush (v := 16) hx hb dX3_fits_30 (by decide) ?_
        refine lv_idiv hx hb dX3_fits_32 (by decide) ?_
        refine lv_iconst (v := 1) hx hb dX3_fits_33 (by decide) ?_
        refine lv_isub hx hb dX3_fits_34 ?_
        refine lv_aload_n hx hb dX3_fits_35 rfl (lv_at hl 0 rfl) ?_
        refine va_get (D := (dC, dI)) (ci := 3) (v := .ref (adr 4)) (C := RX3) (T := TX3) (N := 24) hx hb hts hin hown hK hP 0 rfl rfl 4 (by decide) (hts (.fieldLink RX3 19 RX3 "destinations" "[I") (by decide +kernel)) (fun _ h9 => h9) rfl dX3_fits_36 ?_
        refine lv_iload_n hx hb dX3_fits_39 rfl (lv_at hl 1 rfl) ?_
        refine va_iald (D := (dC, dI)) (i := p0) (f := τ 4) hx hb hK hP 4 0 rfl rfl ho dX3_fits_40 ?_
        refine lv_icmp_ne (tgt := 48) hx hb dX3_fits_41 (by decide) (fun c6_ => ?_) (fun c6_ => ?_)
        · refine lv_iconst (v := 0) hx hb dX3_fits_48 (by decide) ?_
          exact w_rz (v := 0) hx hb hr rfl hlocks dX3_fits_49 (by unfold sM_fits; rw [if_neg c1_, if_pos c4_, if_neg c5_, if_neg c6_] <;> rfl)
        · refine lv_iconst (v := 1) hx hb dX3_fits_44 (by decide) ?_
          refine lv_goto (tgt := 49) hx hb dX3_fits_45 (by decide) ?_
          exact w_rz (v := 1) hx hb hr rfl hlocks dX3_fits_49 (by unfold sM_fits; rw [if_neg c1_, if_pos c4_, if_neg c5_, if_pos c6_] <;> rfl)
set_option maxHeartbeats 4000000 in
set_option maxRecDepth 100000 in
theorem c_M_isStill (l : Launch) (dC : Nat → ClassId) (dI : Nat → Nat → Nat) (cI cZ cO cW : ClassId) (z : Nat) (X : va_W) (h : Nat) (adr : Nat → Nat) (τ : T2) (p0 : Int32) (ho : vp_in p0 1001) : Met l yX3_isStill wsX3_isStill ({ frames := 0, cells := 0, slots := 0, locals := 0 }) (wPc (dC, dI) (tyL cI cZ cO cW) z [.ref h, .int p0] (mW h adr cI cZ τ ++ X)) (vp_Si (fun r => r = sM_isStill τ p0)) 0 0 (fun _ => False) := by
  refine en_met (cc := cX3_isStill) (maxL := 2) (ret := (some .boolean)) (by decide) rfl (Nat.le_of_ble_eq_true rfl) ?_
  intro p e s m below meth c ls hx hb hml hr hts hown hlocks hnm hv hl
  obtain ⟨hz, hP, hK, hD⟩ := hv
  have hown : s.vm.findClass RX3 = some m.cls := hown
  have hin : ∀ w ∈ wsX30, w ∈ wsX3_isStill := by decide +kernel
  have hS : va_S (fun q : Nat => z ≤ q) s.heap s.heap [] := va_S.rf
  have hl : lv_has ls 2 [(0, .ref h), (1, .int p0)] := hl
  refine lv_aload_n hx hb dX3_isStill_0 rfl (lv_at hl 0 rfl) ?_
  refine va_get (D := (dC, dI)) (ci := 3) (v := .ref (adr 6)) (C := RX3) (T := TX3) (N := 24) hx hb hts hin hown hK hP 0 rfl rfl 6 (by decide) (hts (.fieldLink RX3 25 RX3 "states" "[I") (by decide +kernel)) (fun _ h9 => h9) rfl dX3_isStill_1 ?_
  refine lv_iload_n hx hb dX3_isStill_4 rfl (lv_at hl 1 rfl) ?_
  refine va_iald (D := (dC, dI)) (i := p0) (f := τ 6) hx hb hK hP 6 0 rfl rfl ho dX3_isStill_5 ?_
  refine lv_iconst (v := 1) hx hb dX3_isStill_6 (by decide) ?_
  refine lv_icmp_eq (tgt := 20) hx hb dX3_isStill_7 (by decide) (fun c1_ => ?_) (fun c1_ => ?_)
  · refine lv_iconst (v := 1) hx hb dX3_isStill_20 (by decide) ?_
    refine lv_goto (tgt := 25) hx hb dX3_isStill_21 (by decide) ?_
    exact w_rz (v := 1) hx hb hr rfl hlocks dX3_isStill_25 (by unfold sM_isStill; rw [if_pos c1_] <;> rfl)
  · refine lv_aload_n hx hb dX3_isStill_10 rfl (lv_at hl 0 rfl) ?_
    refine va_get (D := (dC, dI)) (ci := 3) (v := .ref (adr 6)) (C := RX3) (T := TX3) (N := 24) hx hb hts hin hown hK hP 0 rfl rfl 6 (by decide) (hts (.fieldLink RX3 25 RX3 "states" "[I") (by decide +kernel)) (fun _ h9 => h9) rfl dX3_isStill_11 ?_
    refine lv_iload_n hx hb dX3_isStill_14 rfl (lv_at hl 1 rfl) ?_
    refine va_iald (D := (dC, dI)) (i := p0) (f := τ 6) hx hb hK hP 6 0 rfl rfl ho dX3_isStill_15 ?_
    refine lv_iconst (v := 2) hx hb dX3_isStill_16 (by decide) ?_
    refine lv_icmp_ne (tgt := 24) hx hb dX3_isStill_17 (by decide) (fun c2_ => ?_) (fun c2_ => ?_)
    · refine lv_iconst (v := 0) hx hb dX3_isStill_24 (by decide) ?_
      exact w_rz (v := 0) hx hb hr rfl hlocks dX3_isStill_25 (by unfold sM_isStill; rw [if_neg c1_, if_neg c2_] <;> rfl)
    · refine lv_iconst (v := 1) hx hb dX3_isStill_20 (by decide) ?_
      refine lv_goto (tgt := 25) hx hb dX3_isStill_21 (by decide) ?_
      exact w_rz (v := 1) hx hb hr rfl hlocks dX3_isStill_25 (by unfold sM_isStill; rw [if_neg c1_, if_pos c2_] <;> rfl)
