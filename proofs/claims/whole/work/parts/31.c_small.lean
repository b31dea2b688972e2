set_option maxHeartbeats 4000000 in
set_option maxRecDepth 100000 in
theorem c_C_isWithin (l : Launch) (dC : Nat → ClassId) (dI : Nat → Nat → Nat) (cI cZ cO cW : ClassId) (z : Nat) (X : va_W) (h : Nat) (adr ad wd : Nat → Nat) (nO nW : Nat) (σ : T2) (p0 : Int32) (p1 : Int32) (p2 : Int32) : Met l yX0_isWithin wsX0_isWithin ({ frames := 0, cells := 0, slots := 0, locals := 0 }) (wPc (dC, dI) (tyL cI cZ cO cW) z [.int p0, .int p1, .int p2] (cWd h adr ad wd nO nW cI cO cW σ ++ X)) (vp_Si (fun r => r = sC_isWithin p0 p1 p2)) 0 0 (fun _ => False) := by
  refine en_met (cc := cX0_isWithin) (maxL := 3) (ret := (some .boolean)) (by decide) rfl (Nat.le_of_ble_eq_true rfl) ?_
  intro p e s m below meth c ls hx hb hml hr hts hown hlocks hnm hv hl
  obtain ⟨hz, hP, hK, hD⟩ := hv
  have hown : s.vm.findClass RX0 = some m.cls := hown
  have hS : va_S (fun q : Nat => z ≤ q) s.heap s.heap [] := va_S.rf
  have hl : lv_has ls 3 [(0, .int p0), (1, .int p1), (2, .int p2)] := hl
  refine lv_iload_n hx hb dX0_isWithin_0 rfl (lv_at hl 0 rfl) ?_
  refine lv_iload_n hx hb dX0_isWithin_1 rfl (lv_at hl 1 rfl) ?_
  refine lv_icmp_lt (tgt := 14) hx hb dX0_isWithin_2 (by decide) (fun c1_ => ?_) (fun c1_ => ?_)
  · refine lv_iconst (v := 0) hx hb dX0_isWithin_14 (by decide) ?_
    exact w_rz (v := 0) hx hb hr rfl hlocks dX0_isWithin_15 (by unfold sC_isWithin; rw [if_pos c1_] <;> rfl)
  · refine lv_iload_n hx hb dX0_isWithin_5 rfl (lv_at hl 0 rfl) ?_
    refine lv_iload_n hx hb dX0_isWithin_6 rfl (lv_at hl 2 rfl) ?_
    refine lv_icmp_gt (tgt := 14) hx hb dX0_isWithin_7 (by decide) (fun c2_ => ?_) (fun c2_ => ?_)
    · refine lv_iconst (v := 0) hx hb dX0_isWithin_14 (by decide) ?_
      exact w_rz (v := 0) hx hb hr rfl hlocks dX0_isWithin_15 (by unfold sC_isWithin; rw [if_neg c1_, if_pos c2_] <;> rfl)
    · refine lv_iconst (v := 1) hx hb dX0_isWithin_10 (by decide) ?_
      refine lv_goto (tgt := 15) hx hb dX0_isWithin_11 (by decide) ?_
      exact w_rz (v := 1) hx hb hr rfl hlocks dX0_isWithin_15 (by unfold sC_isWithin; rw [if_neg c1_, if_neg c2_] <;> rfl)
set_option maxHeartbeats 4000000 in
set_option maxRecDepth 100000 in
theorem c_C_outputOf (l : Launch) (dC : Nat → ClassId) (dI : Nat → Nat → Nat) (cI cZ cO cW : ClassId) (z : Nat) (X : va_W) (h : Nat) (adr ad wd : Nat → Nat) (nO nW : Nat) (σ : T2) (p0 : Int32) (hO : oInv nO σ) : Met l yX0_outputOf wsX0_outputOf ({ frames := 1, cells := 0, slots := 0, locals := 22 }) (wPc (dC, dI) (tyL cI cZ cO cW) z [.ref h, .int p0] (cWd h adr ad wd nO nW cI cO cW σ ++ X)) (va_Sq (fun r => r = sC_outputOf ad σ p0)) 0 0 (fun _ => False) := by
  refine en_met (cc := cX0_outputOf) (maxL := 2) (ret := (some (.object "SpoolRows$Output"))) (by decide) rfl (Nat.le_of_ble_eq_true rfl) ?_
  intro p e s m below meth c ls hx hb hml hr hts hown hlocks hnm hv hl
  obtain ⟨hz, hP, hK, hD⟩ := hv
  have hown : s.vm.findClass RX0 = some m.cls := hown
  have hS : va_S (fun q : Nat => z ≤ q) s.heap s.heap [] := va_S.rf
  have hin0 : ∀ w ∈ wsX00, w ∈ wsX0_outputOf := by decide +kernel
  have hl : lv_has ls 2 [(0, .ref h), (1, .int p0)] := hl
  refine lv_iload_n hx hb dX0_outputOf_0 rfl (lv_at hl 1 rfl) ?_
  refine lv_iconst (v := 1) hx hb dX0_outputOf_1 (by decide) ?_
  refine lv_aload_n hx hb dX0_outputOf_2 rfl (lv_at hl 0 rfl) ?_
  refine va_get (v := .int (σ 3 0)) (D := (dC, dI)) (ci := 0) (C := RX0) (T := TX0) (N := 13) hx hb hts hin0 hown hK hP 0 rfl rfl 3 (by decide) (hts (.fieldLink RX0 93 RX0 "outputCount" "I") (by decide +kernel)) (fun _ h9 => h9) rfl dX0_outputOf_3 ?_
  refine vp_callSi (W.runS (As := [.int p0, .int 1, .int (σ 3 0)]) (rest := []) ⟨hx, hb, hml, hown, hts⟩ (c_C_isWithin l dC dI cI cZ cO cW z X h adr ad wd nO nW σ p0 1 (σ 3 0)) (va_cwS 3 hts gX0_outputOf_X0_isWithin rfl rfl rfl (by decide +kernel) ⟨Nat.le_of_ble_eq_true rfl, Nat.le_of_ble_eq_true rfl⟩) (wPreS (Nat.le_trans hz hS.1) hP hK hD) rfl rfl hl.1 rfl (lv_room (Nat.le_of_ble_eq_true rfl)) dX0_outputOf_6 ⟨Nat.le_of_ble_eq_true rfl, Nat.le_of_ble_eq_true rfl⟩) (fun r e_ => ?_)
  subst e_
  refine lv_if_eq (tgt := 23) hx hb dX0_outputOf_9 (by decide) (fun c1_ => ?_) (fun c1_ => ?_)
  · refine lv_null hx hb dX0_outputOf_23 ?_
    exact w_rq (r := none) hx hb hr (Or.inl ⟨_, rfl⟩) hlocks dX0_outputOf_24 (by unfold sC_outputOf; rw [if_pos c1_] <;> rfl)
  · refine lv_aload_n hx hb dX0_outputOf_12 rfl (lv_at hl 0 rfl) ?_
    refine va_get (v := .ref (adr 2)) (D := (dC, dI)) (ci := 0) (C := RX0) (T := TX0) (N := 13) hx hb hts hin0 hown hK hP 0 rfl rfl 2 (by decide) (hts (.fieldLink RX0 11 RX0 "outputs" "[LSpoolRows$Output;") (by decide +kernel)) (fun _ h9 => h9) rfl dX0_outputOf_13 ?_
    refine lv_iload_n hx hb dX0_outputOf_16 rfl (lv_at hl 1 rfl) ?_
    refine lv_iconst (v := 1) hx hb dX0_outputOf_17 (by decide) ?_
    refine lv_isub hx hb dX0_outputOf_18 ?_
    refine va_aldq (D := (dC, dI)) (i := p0 - 1) hx hb hK hP 1 2 rfl rfl (oo_in hO c1_) dX0_outputOf_19 ?_
    rw [if_pos (oo_lt hO c1_)]
    refine W.eq (g2 := F0 m 20 ls [.ref (ad (p0 - 1).toNatClampNeg)]) rfl ?_
    refine lv_goto (tgt := 24) hx hb dX0_outputOf_20 (by decide) ?_
    exact w_rq (r := some (ad (p0 - 1).toNatClampNeg)) hx hb hr (Or.inl ⟨_, rfl⟩) hlocks dX0_outputOf_24 (by unfold sC_outputOf; rw [if_neg c1_] <;> rfl)
set_option maxHeartbeats 4000000 in
set_option maxRecDepth 100000 in
theorem c_C_writerOf (l : Launch) (dC : Nat → ClassId) (dI : Nat → Nat → Nat) (cI cZ cO cW : ClassId) (z : Nat) (X : va_W) (h : Nat) (adr ad wd : Nat → Nat) (nO nW : Nat) (σ : T2) (p0 : Int32) (hI : cInv nO nW σ) : Met l yX0_writerOf wsX0_writerOf ({ frames := 1, cells := 0, slots := 0, locals := 22 }) (wPc (dC, dI) (tyL cI cZ cO cW) z [.ref h, .int p0] (cWd h adr ad wd nO nW cI cO cW σ ++ X)) (va_Sq (fun r => r = sC_writerOf wd σ p0)) 0 0 (fun _ => False) := by
  refine en_met (cc := cX0_writerOf) (maxL := 2) (ret := (some (.object "SpoolRows$Writer"))) (by decide) rfl (Nat.le_of_ble_eq_true rfl) ?_
  intro p e s m below meth c ls hx hb hml hr hts hown hlocks hnm hv hl
  obtain ⟨hz, hP, hK, hD⟩ := hv
  have hown : s.vm.findClass RX0 = some m.cls := hown
  have hS : va_S (fun q : Nat => z ≤ q) s.heap s.heap [] := va_S.rf
  have hin0 : ∀ w ∈ wsX00, w ∈ wsX0_writerOf := by decide +kernel
  have hl : lv_has ls 2 [(0, .ref h), (1, .int p0)] := hl
  refine lv_iload_n hx hb dX0_writerOf_0 rfl (lv_at hl 1 rfl) ?_
  refine lv_iconst (v := 1) hx hb dX0_writerOf_1 (by decide) ?_
  refine lv_aload_n hx hb dX0_writerOf_2 rfl (lv_at hl 0 rfl) ?_
  refine va_get (v := .int (σ 5 0)) (D := (dC, dI)) (ci := 0) (C := RX0) (T := TX0) (N := 13) hx hb hts hin0 hown hK hP 0 rfl rfl 5 (by decide) (hts (.fieldLink RX0 115 RX0 "writerCount" "I") (by decide +kernel)) (fun _ h9 => h9) rfl dX0_writerOf_3 ?_
  refine vp_callSi (W.runS (As := [.int p0, .int 1, .int (σ 5 0)]) (rest := []) ⟨hx, hb, hml, hown, hts⟩ (c_C_isWithin l dC dI cI cZ cO cW z X h adr ad wd nO nW σ p0 1 (σ 5 0)) (va_cwS 3 hts gX0_writerOf_X0_isWithin rfl rfl rfl (by decide +kernel) ⟨Nat.le_of_ble_eq_true rfl, Nat.le_of_ble_eq_true rfl⟩) (wPreS (Nat.le_trans hz hS.1) hP hK hD) rfl rfl hl.1 rfl (lv_room (Nat.le_of_ble_eq_true rfl)) dX0_writerOf_6 ⟨Nat.le_of_ble_eq_true rfl, Nat.le_of_ble_eq_true rfl⟩) (fun r e_ => ?_)
  subst e_
  refine lv_if_eq (tgt := 23) hx hb dX0_writerOf_9 (by decide) (fun c1_ => ?_) (fun c1_ => ?_)
  · refine lv_null hx hb dX0_writerOf_23 ?_
    exact w_rq (r := none) hx hb hr (Or.inl ⟨_, rfl⟩) hlocks dX0_writerOf_24 (by unfold sC_writerOf; rw [if_pos c1_] <;> rfl)
  · refine lv_aload_n hx hb dX0_writerOf_12 rfl (lv_at hl 0 rfl) ?_
    refine va_get (v := .ref (adr 4)) (D := (dC, dI)) (ci := 0) (C := RX0) (T := TX0) (N := 13) hx hb hts hin0 hown hK hP 0 rfl rfl 4 (by decide) (hts (.fieldLink RX0 17 RX0 "writers" "[LSpoolRows$Writer;") (by decide +kernel)) (fun _ h9 => h9) rfl dX0_writerOf_13 ?_
    refine lv_iload_n hx hb dX0_writerOf_16 rfl (lv_at hl 1 rfl) ?_
    refine lv_iconst (v := 1) hx hb dX0_writerOf_17 (by decide) ?_
    refine lv_isub hx hb dX0_writerOf_18 ?_
    refine va_aldq (D := (dC, dI)) (i := p0 - 1) hx hb hK hP 2 3 rfl rfl (qq_in hI c1_) dX0_writerOf_19 ?_
    rw [if_pos (qq_lt hI c1_)]
    refine W.eq (g2 := F0 m 20 ls [.ref (wd (p0 - 1).toNatClampNeg)]) rfl ?_
    refine lv_goto (tgt := 24) hx hb dX0_writerOf_20 (by decide) ?_
    exact w_rq (r := some (wd (p0 - 1).toNatClampNeg)) hx hb hr (Or.inl ⟨_, rfl⟩) hlocks dX0_writerOf_24 (by unfold sC_writerOf; rw [if_neg c1_] <;> rfl)
set_option maxHeartbeats 4000000 in
set_option maxRecDepth 100000 in
theorem c_C_isThere (l : Launch) (dC : Nat → ClassId) (dI : Nat → Nat → Nat) (cI cZ cO cW : ClassId) (z : Nat) (X : va_W) (h : Nat) (adr ad wd : Nat → Nat) (nO nW : Nat) (σ : T2) (p0 : Int32) (hI : cInv nO nW σ) : Met l yX0_isThere wsX0_isThere ({ frames := 2, cells := 0, slots := 0, locals := 43 }) (wPc (dC, dI) (tyL cI cZ cO cW) z [.ref h, .int p0] (cWd h adr ad wd nO nW cI cO cW σ ++ X)) (vp_Si (fun r => r = sC_isThere σ p0)) 0 0 (fun _ => False) := by
  refine en_met (cc := cX0_isThere) (maxL := 3) (ret := (some .boolean)) (by decide) rfl (Nat.le_of_ble_eq_true rfl) ?_
  intro p e s m below meth c ls hx hb hml hr hts hown hlocks hnm hv hl
  obtain ⟨hz, hP, hK, hD⟩ := hv
  have hown : s.vm.findClass RX0 = some m.cls := hown
  have hS : va_S (fun q : Nat => z ≤ q) s.heap s.heap [] := va_S.rf
  have hl : lv_has ls 3 [(0, .ref h), (1, .int p0)] := hl
  refine lv_aload_n hx hb dX0_isThere_0 rfl (lv_at hl 0 rfl) ?_
  refine lv_iload_n hx hb dX0_isThere_1 rfl (lv_at hl 1 rfl) ?_
  refine va_csq (W.runV (As := [.int p0]) (rest := []) ⟨hx, hb, hml, hown, hts⟩ (c_C_outputOf l dC dI cI cZ cO cW z X h adr ad wd nO nW σ p0 (oi hI)) (cwV 1 hts gX0_isThere_X0_outputOf rfl rfl rfl (by decide +kernel) ⟨Nat.le_of_ble_eq_true rfl, Nat.le_of_ble_eq_true rfl⟩) (wPreV (Nat.le_trans hz hS.1) hP hK hD (va_recv hK hP (ci := 0) (q0 := 0) rfl rfl)) rfl rfl hl.1 rfl (lv_room (Nat.le_of_ble_eq_true rfl)) dX0_isThere_2 ⟨Nat.le_of_ble_eq_true rfl, Nat.le_of_ble_eq_true rfl⟩) (fun r e_ => ?_)
  subst e_
  by_cases c1_ : (sC_isWithin p0 1 (σ 3 0)) = 0
  · rw [oo_none c1_]
    refine W.eq (g2 := F0 m 5 ls [.null]) rfl ?_
    refine lv_astore_nN (lv' := [(2, .null), (0, .ref h), (1, .int p0)]) hx hb dX0_isThere_5 rfl hl (by decide) rfl (fun ls hl => ?_)
    refine lv_aload_nN hx hb dX0_isThere_6 rfl (lv_at hl 0 rfl) ?_
    refine lv_ifnullN (tgt := 21) hx hb dX0_isThere_7 (by decide) ?_
    refine lv_iconst (v := 0) hx hb dX0_isThere_21 (by decide) ?_
    exact w_rz (v := 0) hx hb hr rfl hlocks dX0_isThere_22 (by unfold sC_isThere; rw [if_pos c1_] <;> rfl)
  · rw [oo_some c1_]
    refine W.eq (g2 := F0 m 5 ls [.ref (ad ((p0 - 1).toNatClampNeg))]) rfl ?_
    refine lv_astore_n (lv' := [(2, .ref (ad ((p0 - 1).toNatClampNeg))), (0, .ref h), (1, .int p0)]) hx hb dX0_isThere_5 rfl hl (by decide) rfl (fun ls hl => ?_)
    refine lv_aload_n hx hb dX0_isThere_6 rfl (lv_at hl 0 rfl) ?_
    refine lv_ifnull hx hb dX0_isThere_7 ?_
    refine lv_aload_n hx hb dX0_isThere_10 rfl (lv_at hl 0 rfl) ?_
    refine vp_callSi (W.runV (As := []) (rest := []) ⟨hx, hb, hml, hown, hts⟩ (c_O_isGone l dC dI cI cZ cO cW z X h adr ad wd nO nW σ ((p0 - 1).toNatClampNeg) (oo_lt (oi hI) c1_)) (cwV 0 hts gX0_isThere_X1_isGone rfl rfl rfl (by decide +kernel) ⟨Nat.le_of_ble_eq_true rfl, Nat.le_of_ble_eq_true rfl⟩) (wPreV (Nat.le_trans hz hS.1) hP hK hD (va_recv hK hP (ci := 1) (q0 := (6 + ((p0 - 1).toNatClampNeg))) rfl (cw_out (oo_lt (oi hI) c1_)))) rfl rfl hl.1 rfl (lv_room (Nat.le_of_ble_eq_true rfl)) dX0_isThere_11 ⟨Nat.le_of_ble_eq_true rfl, Nat.le_of_ble_eq_true rfl⟩) (fun r e_ => ?_)
    subst e_
    refine lv_if_ne (tgt := 21) hx hb dX0_isThere_14 (by decide) (fun c2_ => ?_) (fun c2_ => ?_)
    · refine lv_iconst (v := 0) hx hb dX0_isThere_21 (by decide) ?_
      exact w_rz (v := 0) hx hb hr rfl hlocks dX0_isThere_22 (by unfold sC_isThere; rw [if_neg c1_, if_neg c2_] <;> rfl)
    · refine lv_iconst (v := 1) hx hb dX0_isThere_17 (by decide) ?_
      refine lv_goto (tgt := 22) hx hb dX0_isThere_18 (by decide) ?_
      exact w_rz (v := 1) hx hb hr rfl hlocks dX0_isThere_22 (by unfold sC_isThere; rw [if_neg c1_, if_pos c2_] <;> rfl)
set_option maxHeartbeats 4000000 in
set_option maxRecDepth 100000 in
theorem c_C_hasRoomForLine (l : Launch) (dC : Nat → ClassId) (dI : Nat → Nat → Nat) (cI cZ cO cW : ClassId) (z : Nat) (X : va_W) (h : Nat) (adr ad wd : Nat → Nat) (nO nW : Nat) (σ : T2) (j0 : Nat) (h_j0 : j0 < nO) : Met l yX0_hasRoomForLine wsX0_hasRoomForLine ({ frames := 1, cells := 0, slots := 0, locals := 20 }) (wPc (dC, dI) (tyL cI cZ cO cW) z [.ref h, .ref (ad j0)] (cWd h adr ad wd nO nW cI cO cW σ ++ X)) (vp_Si (fun r => r = sC_hasRoomForLine σ j0)) 0 0 (fun _ => False) := by
  refine en_met (cc := cX0_hasRoomForLine) (maxL := 2) (ret := (some .boolean)) (by decide) rfl (Nat.le_of_ble_eq_true rfl) ?_
  intro p e s m below meth c ls hx hb hml hr hts hown hlocks hnm hv hl
  obtain ⟨hz, hP, hK, hD⟩ := hv
  have hown : s.vm.findClass RX0 = some m.cls := hown
  have hS : va_S (fun q : Nat => z ≤ q) s.heap s.heap [] := va_S.rf
  have hin0 : ∀ w ∈ wsX00, w ∈ wsX0_hasRoomForLine := by decide +kernel
  have hl : lv_has ls 2 [(0, .ref h), (1, .ref (ad j0))] := hl
  refine lv_aload_n hx hb dX0_hasRoomForLine_0 rfl (lv_at hl 0 rfl) ?_
  refine va_get (v := .int (σ 1 0)) (D := (dC, dI)) (ci := 0) (C := RX0) (T := TX0) (N := 13) hx hb hts hin0 hown hK hP 0 rfl rfl 1 (by decide) (hts (.fieldLink RX0 41 RX0 "freePages" "I") (by decide +kernel)) (fun _ h9 => h9) rfl dX0_hasRoomForLine_1 ?_
  refine lv_if_gt (tgt := 14) hx hb dX0_hasRoomForLine_4 (by decide) (fun c1_ => ?_) (fun c1_ => ?_)
  · refine lv_iconst (v := 1) hx hb dX0_hasRoomForLine_14 (by decide) ?_
    refine lv_goto (tgt := 19) hx hb dX0_hasRoomForLine_15 (by decide) ?_
    exact w_rz (v := 1) hx hb hr rfl hlocks dX0_hasRoomForLine_19 (by unfold sC_hasRoomForLine; rw [if_pos c1_] <;> rfl)
  · refine lv_aload_n hx hb dX0_hasRoomForLine_7 rfl (lv_at hl 1 rfl) ?_
    refine vp_callSi (W.runV (As := []) (rest := []) ⟨hx, hb, hml, hown, hts⟩ (c_O_needsPage l dC dI cI cZ cO cW z X h adr ad wd nO nW σ j0 h_j0) (cwV 0 hts gX0_hasRoomForLine_X1_needsPage rfl rfl rfl (by decide +kernel) ⟨Nat.le_of_ble_eq_true rfl, Nat.le_of_ble_eq_true rfl⟩) (wPreV (Nat.le_trans hz hS.1) hP hK hD (va_recv hK hP (ci := 1) (q0 := (6 + j0)) rfl (cw_out h_j0))) rfl rfl hl.1 rfl (lv_room (Nat.le_of_ble_eq_true rfl)) dX0_hasRoomForLine_8 ⟨Nat.le_of_ble_eq_true rfl, Nat.le_of_ble_eq_true rfl⟩) (fun r e_ => ?_)
    subst e_
    refine lv_if_ne (tgt := 18) hx hb dX0_hasRoomForLine_11 (by decide) (fun c2_ => ?_) (fun c2_ => ?_)
    · refine lv_iconst (v := 0) hx hb dX0_hasRoomForLine_18 (by decide) ?_
      exact w_rz (v := 0) hx hb hr rfl hlocks dX0_hasRoomForLine_19 (by unfold sC_hasRoomForLine; rw [if_neg c1_, if_neg c2_] <;> rfl)
    · refine lv_iconst (v := 1) hx hb dX0_hasRoomForLine_14 (by decide) ?_
      refine lv_goto (tgt := 19) hx hb dX0_hasRoomForLine_15 (by decide) ?_
      exact w_rz (v := 1) hx hb hr rfl hlocks dX0_hasRoomForLine_19 (by unfold sC_hasRoomForLine; rw [if_neg c1_, if_pos c2_] <;> rfl)
set_option maxHeartbeats 4000000 in
set_option maxRecDepth 100000 in
theorem c_C_letGo (l : Launch) (dC : Nat → ClassId) (dI : Nat → Nat → Nat) (cI cZ cO cW : ClassId) (z : Nat) (X : va_W) (h : Nat) (adr ad wd : Nat → Nat) (nO nW : Nat) (σ : T2) (j0 : Nat) (p1 : Int32) (h_j0 : j0 < nO) : Met l yX0_letGo wsX0_letGo ({ frames := 1, cells := 0, slots := 0, locals := 20 }) (wPc (dC, dI) (tyL cI cZ cO cW) z [.ref h, .ref (ad j0), .int p1] (cWd h adr ad wd nO nW cI cO cW σ ++ X)) (wQv (dC, dI) z (fun u : T2 => cWd h adr ad wd nO nW cI cO cW u ++ X) (fun u => u = sC_letGo σ j0 p1)) 0 0 (fun q => z ≤ q) := by
  refine en_met (cc := cX0_letGo) (maxL := 3) (ret := none) (by decide) rfl (Nat.le_of_ble_eq_true rfl) ?_
  intro p e s m below meth c ls hx hb hml hr hts hown hlocks hnm hv hl
  obtain ⟨hz, hP, hK, hD⟩ := hv
  have hown : s.vm.findClass RX0 = some m.cls := hown
  have hS : va_S (fun q : Nat => z ≤ q) s.heap s.heap [] := va_S.rf
  have hin0 : ∀ w ∈ wsX00, w ∈ wsX0_letGo := by decide +kernel
  have hin1 : ∀ w ∈ wsX10, w ∈ wsX0_letGo := by decide +kernel
  have hl : lv_has ls 3 [(0, .ref h), (1, .ref (ad j0)), (2, .int p1)] := hl
  refine lv_aload_n hx hb dX0_letGo_0 rfl (lv_at hl 1 rfl) ?_
  refine lv_iload_n hx hb dX0_letGo_1 rfl (lv_at hl 2 rfl) ?_
  refine va_put (D := (dC, dI)) (ci := 1) (v := .int p1) (ty := .int) (C := RX1) (T := TX1) (N := 13) hx hb hts hin1 tyX1 tyX1_ok nmX1 hown hK hP hD hS (6 + j0) (cw_out h_j0) rfl 6 (by decide) (hts (.fieldLink RX0 68 RX1 "state" "I") (by decide +kernel)) (fun _ h9 => h9) rfl (by decide +kernel) rfl rfl (Nat.le_of_ble_eq_true rfl) dX0_letGo_2 (fun H locs hP hD hS => ?_)
  have hP : va_P (dC, dI) vwCl (cWd h adr ad wd nO nW cI cO cW (upd2 σ 26 j0 p1) ++ X) H := by rw [← cw_set_out (k := 6) rfl (by decide) h_j0]; exact hP
  have hD : va_D (fun q : Nat => z ≤ q) (cWd h adr ad wd nO nW cI cO cW (upd2 σ 26 j0 p1) ++ X) := by rw [← cw_set_out (k := 6) rfl (by decide) h_j0]; exact hD
  refine lv_aload_n hx hb dX0_letGo_5 rfl (lv_at hl 1 rfl) ?_
  refine lv_iconst (v := 0) hx hb dX0_letGo_6 (by decide) ?_
  refine va_put (D := (dC, dI)) (ci := 1) (v := .int 0) (ty := .boolean) (C := RX1) (T := TX1) (N := 13) hx hb hts hin1 tyX1 tyX1_ok nmX1 hown hK hP hD hS (6 + j0) (cw_out h_j0) rfl 7 (by decide) (hts (.fieldLink RX0 161 RX1 "held" "Z") (by decide +kernel)) (fun _ h9 => h9) rfl (by decide +kernel) rfl rfl (Nat.le_of_ble_eq_true rfl) dX0_letGo_7 (fun H locs hP hD hS => ?_)
  have hP : va_P (dC, dI) vwCl (cWd h adr ad wd nO nW cI cO cW (upd2 (upd2 σ 26 j0 p1) 27 j0 0) ++ X) H := by rw [← cw_set_out (k := 7) rfl (by decide) h_j0]; exact hP
  have hD : va_D (fun q : Nat => z ≤ q) (cWd h adr ad wd nO nW cI cO cW (upd2 (upd2 σ 26 j0 p1) 27 j0 0) ++ X) := by rw [← cw_set_out (k := 7) rfl (by decide) h_j0]; exact hD
  refine lv_aload_n hx hb dX0_letGo_10 rfl (lv_at hl 0 rfl) ?_
  refine lv_dup hx hb dX0_letGo_11 rfl ?_
  refine va_get (v := .int (σ 1 0)) (D := (dC, dI)) (ci := 0) (C := RX0) (T := TX0) (N := 13) hx hb hts hin0 hown hK hP 0 rfl rfl 1 (by decide) (hts (.fieldLink RX0 41 RX0 "freePages" "I") (by decide +kernel)) (fun _ h9 => h9) rfl dX0_letGo_12 ?_
  refine lv_aload_n hx hb dX0_letGo_15 rfl (lv_at hl 1 rfl) ?_
  refine vp_callSi (W.runV (As := []) (rest := [.int (σ 1 0), .ref h]) ⟨hx, hb, hml, hown, hts⟩ (c_O_pageCount l dC dI cI cZ cO cW z X h adr ad wd nO nW (upd2 (upd2 σ 26 j0 p1) 27 j0 0) j0 h_j0) (cwV 0 hts gX0_letGo_X1_pageCount rfl rfl rfl (by decide +kernel) ⟨Nat.le_of_ble_eq_true rfl, Nat.le_of_ble_eq_true rfl⟩) (wPreV (Nat.le_trans hz hS.1) hP hK hD (va_recv hK hP (ci := 1) (q0 := (6 + j0)) rfl (cw_out h_j0))) rfl rfl hl.1 rfl (lv_room (Nat.le_of_ble_eq_true rfl)) dX0_letGo_16 ⟨Nat.le_of_ble_eq_true rfl, Nat.le_of_ble_eq_true rfl⟩) (fun r e_ => ?_)
  subst e_
  refine lv_iadd hx hb dX0_letGo_19 ?_
  refine va_put (D := (dC, dI)) (ci := 0) (v := .int ((σ 1 0) + (sO_pageCount (upd2 (upd2 σ 26 j0 p1) 27 j0 0) j0))) (ty := .int) (C := RX0) (T := TX0) (N := 13) hx hb hts hin0 tyX0 tyX0_ok nmX0 hown hK hP hD hS 0 rfl rfl 1 (by decide) (hts (.fieldLink RX0 41 RX0 "freePages" "I") (by decide +kernel)) (fun _ h9 => h9) rfl (by decide +kernel) rfl rfl (Nat.le_of_ble_eq_true rfl) dX0_letGo_20 (fun H locs hP hD hS => ?_)
  have hP : va_P (dC, dI) vwCl (cWd h adr ad wd nO nW cI cO cW (upd2 (upd2 (upd2 σ 26 j0 p1) 27 j0 0) 1 0 ((σ 1 0) + (sO_pageCount (upd2 (upd2 σ 26 j0 p1) 27 j0 0) j0))) ++ X) H := by rw [← cput_1]; exact hP
  have hD : va_D (fun q : Nat => z ≤ q) (cWd h adr ad wd nO nW cI cO cW (upd2 (upd2 (upd2 σ 26 j0 p1) 27 j0 0) 1 0 ((σ 1 0) + (sO_pageCount (upd2 (upd2 σ 26 j0 p1) 27 j0 0) j0))) ++ X) := by rw [← cput_1]; exact hD
  exact w_vret (u := upd2 (upd2 (upd2 σ 26 j0 p1) 27 j0 0) 1 0 ((σ 1 0) + (sO_pageCount (upd2 (upd2 σ 26 j0 p1) 27 j0 0) j0))) hx hb hr hlocks hP hD hS dX0_letGo_23 (by unfold sC_letGo; rfl)
set_option maxHeartbeats 4000000 in
set_option maxRecDepth 100000 in
theorem c_C_releaseOrPurge (l : Launch) (dC : Nat → ClassId) (dI : Nat → Nat → Nat) (cI cZ cO cW : ClassId) (z : Nat) (X : va_W) (h : Nat) (adr ad wd : Nat → Nat) (nO nW : Nat) (σ : T2) (j0 : Nat) (h_j0 : j0 < nO) : Met l yX0_releaseOrPurge wsX0_releaseOrPurge ({ frames := 2, cells := 0, slots := 0, locals := 42 }) (wPc (dC, dI) (tyL cI cZ cO cW) z [.ref h, .ref (ad j0)] (cWd h adr ad wd nO nW cI cO cW σ ++ X)) (wQv (dC, dI) z (fun u : T2 => cWd h adr ad wd nO nW cI cO cW u ++ X) (fun u => u = sC_releaseOrPurge σ j0)) 0 0 (fun q => z ≤ q) := by
  refine en_met (cc := cX0_releaseOrPurge) (maxL := 2) (ret := none) (by decide) rfl (Nat.le_of_ble_eq_true rfl) ?_
  intro p e s m below meth c ls hx hb hml hr hts hown hlocks hnm hv hl
  obtain ⟨hz, hP, hK, hD⟩ := hv
  have hown : s.vm.findClass RX0 = some m.cls := hown
  have hS : va_S (fun q : Nat => z ≤ q) s.heap s.heap [] := va_S.rf
  have hin1 : ∀ w ∈ wsX10, w ∈ wsX0_releaseOrPurge := by decide +kernel
  have hl : lv_has ls 2 [(0, .ref h), (1, .ref (ad j0))] := hl
  refine lv_aload_n hx hb dX0_releaseOrPurge_0 rfl (lv_at hl 1 rfl) ?_
  refine va_get (v := .int (σ 28 j0)) (D := (dC, dI)) (ci := 1) (C := RX1) (T := TX1) (N := 13) hx hb hts hin1 hown hK hP (6 + j0) (cw_out h_j0) rfl 8 (by decide) (hts (.fieldLink RX0 103 RX1 "lines" "I") (by decide +kernel)) (fun _ h9 => h9) rfl dX0_releaseOrPurge_1 ?_
  refine lv_if_ne (tgt := 16) hx hb dX0_releaseOrPurge_4 (by decide) (fun c1_ => ?_) (fun c1_ => ?_)
  · refine lv_aload_n hx hb dX0_releaseOrPurge_16 rfl (lv_at hl 1 rfl) ?_
    refine lv_iconst (v := 2) hx hb dX0_releaseOrPurge_17 (by decide) ?_
    refine va_put (D := (dC, dI)) (ci := 1) (v := .int 2) (ty := .int) (C := RX1) (T := TX1) (N := 13) hx hb hts hin1 tyX1 tyX1_ok nmX1 hown hK hP hD hS (6 + j0) (cw_out h_j0) rfl 6 (by decide) (hts (.fieldLink RX0 68 RX1 "state" "I") (by decide +kernel)) (fun _ h9 => h9) rfl (by decide +kernel) rfl rfl (Nat.le_of_ble_eq_true rfl) dX0_releaseOrPurge_18 (fun H locs hP hD hS => ?_)
    have hP : va_P (dC, dI) vwCl (cWd h adr ad wd nO nW cI cO cW (upd2 σ 26 j0 2) ++ X) H := by rw [← cw_set_out (k := 6) rfl (by decide) h_j0]; exact hP
    have hD : va_D (fun q : Nat => z ≤ q) (cWd h adr ad wd nO nW cI cO cW (upd2 σ 26 j0 2) ++ X) := by rw [← cw_set_out (k := 6) rfl (by decide) h_j0]; exact hD
    exact w_vret (u := upd2 σ 26 j0 2) hx hb hr hlocks hP hD hS dX0_releaseOrPurge_21 (by unfold sC_releaseOrPurge; rw [if_neg c1_] <;> rfl)
  · refine lv_aload_n hx hb dX0_releaseOrPurge_7 rfl (lv_at hl 0 rfl) ?_
    refine lv_aload_n hx hb dX0_releaseOrPurge_8 rfl (lv_at hl 1 rfl) ?_
    refine lv_iconst (v := 5) hx hb dX0_releaseOrPurge_9 (by decide) ?_
    refine w_callv (va_runV (As := [.ref (ad j0), .int 5]) (rest := []) ⟨hx, hb, hml, hown, hts⟩ (c_C_letGo l dC dI cI cZ cO cW z X h adr ad wd nO nW σ j0 5 h_j0) (cwV 2 hts gX0_releaseOrPurge_X0_letGo rfl rfl rfl (by decide +kernel) ⟨Nat.le_of_ble_eq_true rfl, Nat.le_of_ble_eq_true rfl⟩) (wPreV (Nat.le_trans hz hS.1) hP hK hD (va_recv hK hP (ci := 0) (q0 := 0) rfl rfl)) rfl rfl hl.1 rfl (lv_room (Nat.le_of_ble_eq_true rfl)) dX0_releaseOrPurge_10 ⟨Nat.le_of_ble_eq_true rfl, Nat.le_of_ble_eq_true rfl⟩) hS (fun u H locs e_ hP hD hS => ?_)
    subst e_
    have hP : va_P (dC, dI) vwCl (cWd h adr ad wd nO nW cI cO cW (sC_letGo σ j0 5) ++ X) H := hP
    have hD : va_D (fun q : Nat => z ≤ q) (cWd h adr ad wd nO nW cI cO cW (sC_letGo σ j0 5) ++ X) := hD
    refine lv_goto (tgt := 21) hx hb dX0_releaseOrPurge_13 (by decide) ?_
    exact w_vret (u := (sC_letGo σ j0 5)) hx hb hr hlocks hP hD hS dX0_releaseOrPurge_21 (by unfold sC_releaseOrPurge; rw [if_pos c1_] <;> rfl)
set_option maxHeartbeats 4000000 in
set_option maxRecDepth 100000 in
theorem c_C_keepSign (l : Launch) (dC : Nat → ClassId) (dI : Nat → Nat → Nat) (cI cZ cO cW : ClassId) (z : Nat) (X : va_W) (h : Nat) (adr ad wd : Nat → Nat) (nO nW : Nat) (σ : T2) (p0 : Int32) (p1 : Int32) (hk : 0 ≤ σ 10 0) : Met l yX0_keepSign wsX0_keepSign ({ frames := 0, cells := 0, slots := 0, locals := 0 }) (wPc (dC, dI) (tyL cI cZ cO cW) z [.ref h, .int p0, .int p1] (cWd h adr ad wd nO nW cI cO cW σ ++ X)) (wQv (dC, dI) z (fun u : T2 => cWd h adr ad wd nO nW cI cO cW u ++ X) (fun u => u = sC_keepSign σ p0 p1)) 0 0 (fun q => z ≤ q) := by
  refine en_met (cc := cX0_keepSign) (maxL := 3) (ret := none) (by decide) rfl (Nat.le_of_ble_eq_true rfl) ?_
  intro p e s m below meth c ls hx hb hml hr hts hown hlocks hnm hv hl
  obtain ⟨hz, hP, hK, hD⟩ := hv
  have hown : s.vm.findClass RX0 = some m.cls := hown
  have hS : va_S (fun q : Nat => z ≤ q) s.heap s.heap [] := va_S.rf
  have hin0 : ∀ w ∈ wsX00, w ∈ wsX0_keepSign := by decide +kernel
  have hl : lv_has ls 3 [(0, .ref h), (1, .int p0), (2, .int p1)] := hl
  refine lv_aload_n hx hb dX0_keepSign_0 rfl (lv_at hl 0 rfl) ?_
  refine va_get (v := .int (σ 10 0)) (D := (dC, dI)) (ci := 0) (C := RX0) (T := TX0) (N := 13) hx hb hts hin0 hown hK hP 0 rfl rfl 10 (by decide) (hts (.fieldLink RX0 170 RX0 "keptLines" "I") (by decide +kernel)) (fun _ h9 => h9) rfl dX0_keepSign_1 ?_
  refine lv_sipush (v := 512) hx hb dX0_keepSign_4 (by decide) ?_
  refine lv_icmp_ge (tgt := 40) hx hb dX0_keepSign_7 (by decide) (fun c1_ => ?_) (fun c1_ => ?_)
  · exact w_vret (u := σ) hx hb hr hlocks hP hD hS dX0_keepSign_40 (by unfold sC_keepSign; rw [if_pos c1_] <;> rfl)
  · refine lv_aload_n hx hb dX0_keepSign_10 rfl (lv_at hl 0 rfl) ?_
    refine va_get (v := .ref (adr 8)) (D := (dC, dI)) (ci := 0) (C := RX0) (T := TX0) (N := 13) hx hb hts hin0 hown hK hP 0 rfl rfl 8 (by decide) (hts (.fieldLink RX0 25 RX0 "lineSigns" "[I") (by decide +kernel)) (fun _ h9 => h9) rfl dX0_keepSign_11 ?_
    refine lv_aload_n hx hb dX0_keepSign_14 rfl (lv_at hl 0 rfl) ?_
    refine va_get (v := .int (σ 10 0)) (D := (dC, dI)) (ci := 0) (C := RX0) (T := TX0) (N := 13) hx hb hts hin0 hown hK hP 0 rfl rfl 10 (by decide) (hts (.fieldLink RX0 170 RX0 "keptLines" "I") (by decide +kernel)) (fun _ h9 => h9) rfl dX0_keepSign_15 ?_
    refine lv_iload_n hx hb dX0_keepSign_18 rfl (lv_at hl 1 rfl) ?_
    refine va_iast (D := (dC, dI)) (i := σ 10 0) (x := p0) (f := σ 8) hx hb hK hP hD hS 4 0 rfl rfl (ks_in hk c1_) dX0_keepSign_19 (fun H locs hP hD hS => ?_)
    have hP : va_P (dC, dI) vwCl (cWd h adr ad wd nO nW cI cO cW (upd2 σ 8 ((σ 10 0).toNatClampNeg) p0) ++ X) H := by rw [← cput_8]; exact hP
    have hD : va_D (fun q : Nat => z ≤ q) (cWd h adr ad wd nO nW cI cO cW (upd2 σ 8 ((σ 10 0).toNatClampNeg) p0) ++ X) := by rw [← cput_8]; exact hD
    refine lv_aload_n hx hb dX0_keepSign_20 rfl (lv_at hl 0 rfl) ?_
    refine va_get (v := .ref (adr 9)) (D := (dC, dI)) (ci := 0) (C := RX0) (T := TX0) (N := 13) hx hb hts hin0 hown hK hP 0 rfl rfl 9 (by decide) (hts (.fieldLink RX0 28 RX0 "lineOutputs" "[I") (by decide +kernel)) (fun _ h9 => h9) rfl dX0_keepSign_21 ?_
    refine lv_aload_n hx hb dX0_keepSign_24 rfl (lv_at hl 0 rfl) ?_
    refine va_get (v := .int (σ 10 0)) (D := (dC, dI)) (ci := 0) (C := RX0) (T := TX0) (N := 13) hx hb hts hin0 hown hK hP 0 rfl rfl 10 (by decide) (hts (.fieldLink RX0 170 RX0 "keptLines" "I") (by decide +kernel)) (fun _ h9 => h9) rfl dX0_keepSign_25 ?_
    refine lv_iload_n hx hb dX0_keepSign_28 rfl (lv_at hl 2 rfl) ?_
    refine va_iast (D := (dC, dI)) (i := σ 10 0) (x := p1) (f := (upd2 σ 8 ((σ 10 0).toNatClampNeg) p0) 9) hx hb hK hP hD hS 5 0 rfl rfl (ks_in hk c1_) dX0_keepSign_29 (fun H locs hP hD hS => ?_)
    have hP : va_P (dC, dI) vwCl (cWd h adr ad wd nO nW cI cO cW (upd2 (upd2 σ 8 ((σ 10 0).toNatClampNeg) p0) 9 ((σ 10 0).toNatClampNeg) p1) ++ X) H := by rw [← cput_9]; exact hP
    have hD : va_D (fun q : Nat => z ≤ q) (cWd h adr ad wd nO nW cI cO cW (upd2 (upd2 σ 8 ((σ 10 0).toNatClampNeg) p0) 9 ((σ 10 0).toNatClampNeg) p1) ++ X) := by rw [← cput_9]; exact hD
    refine lv_aload_n hx hb dX0_keepSign_30 rfl (lv_at hl 0 rfl) ?_
    refine lv_dup hx hb dX0_keepSign_31 rfl ?_
    refine va_get (v := .int (σ 10 0)) (D := (dC, dI)) (ci := 0) (C := RX0) (T := TX0) (N := 13) hx hb hts hin0 hown hK hP 0 rfl rfl 10 (by decide) (hts (.fieldLink RX0 170 RX0 "keptLines" "I") (by decide +kernel)) (fun _ h9 => h9) rfl dX0_keepSign_32 ?_
    refine lv_iconst (v := 1) hx hb dX0_keepSign_35 (by decide) ?_
    refine lv_iadd hx hb dX0_keepSign_36 ?_
    refine va_put (D := (dC, dI)) (ci := 0) (v := .int ((σ 10 0) + 1)) (ty := .int) (C := RX0) (T := TX0) (N := 13) hx hb hts hin0 tyX0 tyX0_ok nmX0 hown hK hP hD hS 0 rfl rfl 10 (by decide) (hts (.fieldLink RX0 170 RX0 "keptLines" "I") (by decide +kernel)) (fun _ h9 => h9) rfl (by decide +kernel) rfl rfl (Nat.le_of_ble_eq_true rfl) dX0_keepSign_37 (fun H locs hP hD hS => ?_)
    have hP : va_P (dC, dI) vwCl (cWd h adr ad wd nO nW cI cO cW (upd2 (upd2 (upd2 σ 8 ((σ 10 0).toNatClampNeg) p0) 9 ((σ 10 0).toNatClampNeg) p1) 10 0 ((σ 10 0) + 1)) ++ X) H := by rw [← cput_10]; exact hP
    have hD : va_D (fun q : Nat => z ≤ q) (cWd h adr ad wd nO nW cI cO cW (upd2 (upd2 (upd2 σ 8 ((σ 10 0).toNatClampNeg) p0) 9 ((σ 10 0).toNatClampNeg) p1) 10 0 ((σ 10 0) + 1)) ++ X) := by rw [← cput_10]; exact hD
    exact w_vret (u := upd2 (upd2 (upd2 σ 8 ((σ 10 0).toNatClampNeg) p0) 9 ((σ 10 0).toNatClampNeg) p1) 10 0 ((σ 10 0) + 1)) hx hb hr hlocks hP hD hS dX0_keepSign_40 (by unfold sC_keepSign; rw [if_neg c1_] <;> rfl)
set_option maxHeartbeats 4000000 in
set_option maxRecDepth 100000 in
theorem c_C_takeLine (l : Launch) (dC : Nat → ClassId) (dI : Nat → Nat → Nat) (cI cZ cO cW : ClassId) (z : Nat) (X : va_W) (h : Nat) (adr ad wd : Nat → Nat) (nO nW : Nat) (σ : T2) (j0 : Nat) (p1 : Int32) (h_j0 : j0 < nO) (hk : 0 ≤ σ 10 0) : Met l yX0_takeLine wsX0_takeLine ({ frames := 1, cells := 0, slots := 0, locals := 22 }) (wPc (dC, dI) (tyL cI cZ cO cW) z [.ref h, .ref (ad j0), .int p1] (cWd h adr ad wd nO nW cI cO cW σ ++ X)) (wQv (dC, dI) z (fun u : T2 => cWd h adr ad wd nO nW cI cO cW u ++ X) (fun u => u = sC_takeLine σ j0 p1)) 0 0 (fun q => z ≤ q) := by
  refine en_met (cc := cX0_takeLine) (maxL := 3) (ret := none) (by decide) rfl (Nat.le_of_ble_eq_true rfl) ?_
  intro p e s m below meth c ls hx hb hml hr hts hown hlocks hnm hv hl
  obtain ⟨hz, hP, hK, hD⟩ := hv
  have hown : s.vm.findClass RX0 = some m.cls := hown
  have hS : va_S (fun q : Nat => z ≤ q) s.heap s.heap [] := va_S.rf
  have hin0 : ∀ w ∈ wsX00, w ∈ wsX0_takeLine := by decide +kernel
  have hin1 : ∀ w ∈ wsX10, w ∈ wsX0_takeLine := by decide +kernel
  have hl : lv_has ls 3 [(0, .ref h), (1, .ref (ad j0)), (2, .int p1)] := hl
  refine lv_aload_n hx hb dX0_takeLine_0 rfl (lv_at hl 1 rfl) ?_
  refine vp_callSi (W.runV (As := []) (rest := []) ⟨hx, hb, hml, hown, hts⟩ (c_O_needsPage l dC dI cI cZ cO cW z X h adr ad wd nO nW σ j0 h_j0) (cwV 0 hts gX0_takeLine_X1_needsPage rfl rfl rfl (by decide +kernel) ⟨Nat.le_of_ble_eq_true rfl, Nat.le_of_ble_eq_true rfl⟩) (wPreV (Nat.le_trans hz hS.1) hP hK hD (va_recv hK hP (ci := 1) (q0 := (6 + j0)) rfl (cw_out h_j0))) rfl rfl hl.1 rfl (lv_room (Nat.le_of_ble_eq_true rfl)) dX0_takeLine_1 ⟨Nat.le_of_ble_eq_true rfl, Nat.le_of_ble_eq_true rfl⟩) (fun r e_ => ?_)
  subst e_
  refine lv_if_eq (tgt := 17) hx hb dX0_takeLine_4 (by decide) (fun c1_ => ?_) (fun c1_ => ?_)
  · refine lv_aload_n hx hb dX0_takeLine_17 rfl (lv_at hl 1 rfl) ?_
    refine lv_dup hx hb dX0_takeLine_18 rfl ?_
    refine va_get (v := .int (σ 28 j0)) (D := (dC, dI)) (ci := 1) (C := RX1) (T := TX1) (N := 13) hx hb hts hin1 hown hK hP (6 + j0) (cw_out h_j0) rfl 8 (by decide) (hts (.fieldLink RX0 103 RX1 "lines" "I") (by decide +kernel)) (fun _ h9 => h9) rfl dX0_takeLine_19 ?_
    refine lv_iconst (v := 1) hx hb dX0_takeLine_22 (by decide) ?_
    refine lv_iadd hx hb dX0_takeLine_23 ?_
    refine va_put (D := (dC, dI)) (ci := 1) (v := .int ((σ 28 j0) + 1)) (ty := .int) (C := RX1) (T := TX1) (N := 13) hx hb hts hin1 tyX1 tyX1_ok nmX1 hown hK hP hD hS (6 + j0) (cw_out h_j0) rfl 8 (by decide) (hts (.fieldLink RX0 103 RX1 "lines" "I") (by decide +kernel)) (fun _ h9 => h9) rfl (by decide +kernel) rfl rfl (Nat.le_of_ble_eq_true rfl) dX0_takeLine_24 (fun H locs hP hD hS => ?_)
    have hP : va_P (dC, dI) vwCl (cWd h adr ad wd nO nW cI cO cW (upd2 σ 28 j0 ((σ 28 j0) + 1)) ++ X) H := by rw [← cw_set_out (k := 8) rfl (by decide) h_j0]; exact hP
    have hD : va_D (fun q : Nat => z ≤ q) (cWd h adr ad wd nO nW cI cO cW (upd2 σ 28 j0 ((σ 28 j0) + 1)) ++ X) := by rw [← cw_set_out (k := 8) rfl (by decide) h_j0]; exact hD
    refine lv_iload_n hx hb dX0_takeLine_27 rfl (lv_at hl 2 rfl) ?_
    refine lv_sipush (v := 256) hx hb dX0_takeLine_28 (by decide) ?_
    refine lv_idiv hx hb dX0_takeLine_31 (by decide) ?_
    refine lv_if_le (tgt := 48) hx hb dX0_takeLine_32 (by decide) (fun c2_ => ?_) (fun c2_ => ?_)
    · exact w_vret (u := upd2 σ 28 j0 ((σ 28 j0) + 1)) hx hb hr hlocks hP hD hS dX0_takeLine_48 (by unfold sC_takeLine; rw [if_pos c1_, if_pos c2_] <;> rfl)
    · refine lv_aload_n hx hb dX0_takeLine_35 rfl (lv_at hl 0 rfl) ?_
      refine lv_iload_n hx hb dX0_takeLine_36 rfl (lv_at hl 2 rfl) ?_
      refine lv_sipush (v := 256) hx hb dX0_takeLine_37 (by decide) ?_
      refine lv_irem hx hb dX0_takeLine_40 (by decide) ?_
      refine lv_aload_n hx hb dX0_takeLine_41 rfl (lv_at hl 1 rfl) ?_
      refine va_get (v := .int (σ 20 j0)) (D := (dC, dI)) (ci := 1) (C := RX1) (T := TX1) (N := 13) hx hb hts hin1 hown hK hP (6 + j0) (cw_out h_j0) rfl 0 (by decide) (hts (.fieldLink RX0 60 RX1 "number" "I") (by decide +kernel)) (fun _ h9 => h9) rfl dX0_takeLine_42 ?_
      refine w_callv (va_runV (As := [.int (p1 - p1 / 256 * 256), .int (σ 20 j0)]) (rest := []) ⟨hx, hb, hml, hown, hts⟩ (c_C_keepSign l dC dI cI cZ cO cW z X h adr ad wd nO nW (upd2 σ 28 j0 ((σ 28 j0) + 1)) (p1 - p1 / 256 * 256) (σ 20 j0) (show (0 : Int32) ≤ σ 10 0 from hk)) (cwV 2 hts gX0_takeLine_X0_keepSign rfl rfl rfl (by decide +kernel) ⟨Nat.le_of_ble_eq_true rfl, Nat.le_of_ble_eq_true rfl⟩) (wPreV (Nat.le_trans hz hS.1) hP hK hD (va_recv hK hP (ci := 0) (q0 := 0) rfl rfl)) rfl rfl hl.1 rfl (lv_room (Nat.le_of_ble_eq_true rfl)) dX0_takeLine_45 ⟨Nat.le_of_ble_eq_true rfl, Nat.le_of_ble_eq_true rfl⟩) hS (fun u H locs e_ hP hD hS => ?_)
      subst e_
      have hP : va_P (dC, dI) vwCl (cWd h adr ad wd nO nW cI cO cW (sC_keepSign (upd2 σ 28 j0 ((σ 28 j0) + 1)) (p1 - p1 / 256 * 256) (σ 20 j0)) ++ X) H := hP
      have hD : va_D (fun q : Nat => z ≤ q) (cWd h adr ad wd nO nW cI cO cW (sC_keepSign (upd2 σ 28 j0 ((σ 28 j0) + 1)) (p1 - p1 / 256 * 256) (σ 20 j0)) ++ X) := hD
      exact w_vret (u := (sC_keepSign (upd2 σ 28 j0 ((σ 28 j0) + 1)) (p1 - p1 / 256 * 256) (σ 20 j0))) hx hb hr hlocks hP hD hS dX0_takeLine_48 (by unfold sC_takeLine; rw [if_pos c1_, if_neg c2_] <;> rfl)
  · refine lv_aload_n hx hb dX0_takeLine_7 rfl (lv_at hl 0 rfl) ?_
    refine lv_dup hx hb dX0_takeLine_8 rfl ?_
    refine va_get (v := .int (σ 1 0)) (D := (dC, dI)) (ci := 0) (C := RX0) (T := TX0) (N := 13) hx hb hts hin0 hown hK hP 0 rfl rfl 1 (by decide) (hts (.fieldLink RX0 41 RX0 "freePages" "I") (by decide +kernel)) (fun _ h9 => h9) rfl dX0_takeLine_9 ?_
    refine lv_iconst (v := 1) hx hb dX0_takeLine_12 (by decide) ?_
    refine lv_isub hx hb dX0_takeLine_13 ?_
    refine va_put (D := (dC, dI)) (ci := 0) (v := .int ((σ 1 0) - 1)) (ty := .int) (C := RX0) (T := TX0) (N := 13) hx hb hts hin0 tyX0 tyX0_ok nmX0 hown hK hP hD hS 0 rfl rfl 1 (by decide) (hts (.fieldLink RX0 41 RX0 "freePages" "I") (by decide +kernel)) (fun _ h9 => h9) rfl (by decide +kernel) rfl rfl (Nat.le_of_ble_eq_true rfl) dX0_takeLine_14 (fun H locs hP hD hS => ?_)
    have hP : va_P (dC, dI) vwCl (cWd h adr ad wd nO nW cI cO cW (upd2 σ 1 0 ((σ 1 0) - 1)) ++ X) H := by rw [← cput_1]; exact hP
    have hD : va_D (fun q : Nat => z ≤ q) (cWd h adr ad wd nO nW cI cO cW (upd2 σ 1 0 ((σ 1 0) - 1)) ++ X) := by rw [← cput_1]; exact hD
    refine lv_aload_n hx hb dX0_takeLine_17 rfl (lv_at hl 1 rfl) ?_
    refine lv_dup hx hb dX0_takeLine_18 rfl ?_
    refine va_get (v := .int (σ 28 j0)) (D := (dC, dI)) (ci := 1) (C := RX1) (T := TX1) (N := 13) hx hb hts hin1 hown hK hP (6 + j0) (cw_out h_j0) rfl 8 (by decide) (hts (.fieldLink RX0 103 RX1 "lines" "I") (by decide +kernel)) (fun _ h9 => h9) rfl dX0_takeLine_19 ?_
    refine lv_iconst (v := 1) hx hb dX0_takeLine_22 (by decide) ?_
    refine lv_iadd hx hb dX0_takeLine_23 ?_
    refine va_put (D := (dC, dI)) (ci := 1) (v := .int ((σ 28 j0) + 1)) (ty := .int) (C := RX1) (T := TX1) (N := 13) hx hb hts hin1 tyX1 tyX1_ok nmX1 hown hK hP hD hS (6 + j0) (cw_out h_j0) rfl 8 (by decide) (hts (.fieldLink RX0 103 RX1 "lines" "I") (by decide +kernel)) (fun _ h9 => h9) rfl (by decide +kernel) rfl rfl (Nat.le_of_ble_eq_true rfl) dX0_takeLine_24 (fun H locs hP hD hS => ?_)
    have hP : va_P (dC, dI) vwCl (cWd h adr ad wd nO nW cI cO cW (upd2 (upd2 σ 1 0 ((σ 1 0) - 1)) 28 j0 ((σ 28 j0) + 1)) ++ X) H := by rw [← cw_set_out (k := 8) rfl (by decide) h_j0]; exact hP
    have hD : va_D (fun q : Nat => z ≤ q) (cWd h adr ad wd nO nW cI cO cW (upd2 (upd2 σ 1 0 ((σ 1 0) - 1)) 28 j0 ((σ 28 j0) + 1)) ++ X) := by rw [← cw_set_out (k := 8) rfl (by decide) h_j0]; exact hD
    refine lv_iload_n hx hb dX0_takeLine_27 rfl (lv_at hl 2 rfl) ?_
    refine lv_sipush (v := 256) hx hb dX0_takeLine_28 (by decide) ?_
    refine lv_idiv hx hb dX0_takeLine_31 (by decide) ?_
    refine lv_if_le (tgt := 48) hx hb dX0_takeLine_32 (by decide) (fun c3_ => ?_) (fun c3_ => ?_)
    · exact w_vret (u := upd2 (upd2 σ 1 0 ((σ 1 0) - 1)) 28 j0 ((σ 28 j0) + 1)) hx hb hr hlocks hP hD hS dX0_takeLine_48 (by unfold sC_takeLine; rw [if_neg c1_, if_pos c3_] <;> rfl)
    · refine lv_aload_n hx hb dX0_takeLine_35 rfl (lv_at hl 0 rfl) ?_
      refine lv_iload_n hx hb dX0_takeLine_36 rfl (lv_at hl 2 rfl) ?_
      refine lv_sipush (v := 256) hx hb dX0_takeLine_37 (by decide) ?_
      refine lv_irem hx hb dX0_takeLine_40 (by decide) ?_
      refine lv_aload_n hx hb dX0_takeLine_41 rfl (lv_at hl 1 rfl) ?_
      refine va_get (v := .int (σ 20 j0)) (D := (dC, dI)) (ci := 1) (C := RX1) (T := TX1) (N := 13) hx hb hts hin1 hown hK hP (6 + j0) (cw_out h_j0) rfl 0 (by decide) (hts (.fieldLink RX0 60 RX1 "number" "I") (by decide +kernel)) (fun _ h9 => h9) rfl dX0_takeLine_42 ?_
      refine w_callv (va_runV (As := [.int (p1 - p1 / 256 * 256), .int (σ 20 j0)]) (rest := []) ⟨hx, hb, hml, hown, hts⟩ (c_C_keepSign l dC dI cI cZ cO cW z X h adr ad wd nO nW (upd2 (upd2 σ 1 0 ((σ 1 0) - 1)) 28 j0 ((σ 28 j0) + 1)) (p1 - p1 / 256 * 256) (σ 20 j0) (show (0 : Int32) ≤ σ 10 0 from hk)) (cwV 2 hts gX0_takeLine_X0_keepSign rfl rfl rfl (by decide +kernel) ⟨Nat.le_of_ble_eq_true rfl, Nat.le_of_ble_eq_true rfl⟩) (wPreV (Nat.le_trans hz hS.1) hP hK hD (va_recv hK hP (ci := 0) (q0 := 0) rfl rfl)) rfl rfl hl.1 rfl (lv_room (Nat.le_of_ble_eq_true rfl)) dX0_takeLine_45 ⟨Nat.le_of_ble_eq_true rfl, Nat.le_of_ble_eq_true rfl⟩) hS (fun u H locs e_ hP hD hS => ?_)
      subst e_
      have hP : va_P (dC, dI) vwCl (cWd h adr ad wd nO nW cI cO cW (sC_keepSign (upd2 (upd2 σ 1 0 ((σ 1 0) - 1)) 28 j0 ((σ 28 j0) + 1)) (p1 - p1 / 256 * 256) (σ 20 j0)) ++ X) H := hP
      have hD : va_D (fun q : Nat => z ≤ q) (cWd h adr ad wd nO nW cI cO cW (sC_keepSign (upd2 (upd2 σ 1 0 ((σ 1 0) - 1)) 28 j0 ((σ 28 j0) + 1)) (p1 - p1 / 256 * 256) (σ 20 j0)) ++ X) := hD
      exact w_vret (u := (sC_keepSign (upd2 (upd2 σ 1 0 ((σ 1 0) - 1)) 28 j0 ((σ 28 j0) + 1)) (p1 - p1 / 256 * 256) (σ 20 j0))) hx hb hr hlocks hP hD hS dX0_takeLine_48 (by unfold sC_takeLine; rw [if_neg c1_, if_neg c3_] <;> rfl)
set_option maxHeartbeats 4000000 in
set_option maxRecDepth 100000 in
theorem c_C_noteInOrder (l : Launch) (dC : Nat → ClassId) (dI : Nat → Nat → Nat) (cI cZ cO cW : ClassId) (z : Nat) (X : va_W) (h : Nat) (adr ad wd : Nat → Nat) (nO nW : Nat) (σ : T2) (j0 : Nat) (h_j0 : j0 < nO) (hk : 0 ≤ σ 7 0) : Met l yX0_noteInOrder wsX0_noteInOrder ({ frames := 0, cells := 0, slots := 0, locals := 0 }) (wPc (dC, dI) (tyL cI cZ cO cW) z [.ref h, .ref (ad j0)] (cWd h adr ad wd nO nW cI cO cW σ ++ X)) (wQv (dC, dI) z (fun u : T2 => cWd h adr ad wd nO nW cI cO cW u ++ X) (fun u => u = sC_noteInOrder σ j0)) 0 0 (fun q => z ≤ q) := by
  refine en_met (cc := cX0_noteInOrder) (maxL := 2) (ret := none) (by decide) rfl (Nat.le_of_ble_eq_true rfl) ?_
  intro p e s m below meth c ls hx hb hml hr hts hown hlocks hnm hv hl
  obtain ⟨hz, hP, hK, hD⟩ := hv
  have hown : s.vm.findClass RX0 = some m.cls := hown
  have hS : va_S (fun q : Nat => z ≤ q) s.heap s.heap [] := va_S.rf
  have hin0 : ∀ w ∈ wsX00, w ∈ wsX0_noteInOrder := by decide +kernel
  have hin1 : ∀ w ∈ wsX10, w ∈ wsX0_noteInOrder := by decide +kernel
  have hl : lv_has ls 2 [(0, .ref h), (1, .ref (ad j0))] := hl
  refine lv_aload_n hx hb dX0_noteInOrder_0 rfl (lv_at hl 0 rfl) ?_
  refine va_get (v := .int (σ 7 0)) (D := (dC, dI)) (ci := 0) (C := RX0) (T := TX0) (N := 13) hx hb hts hin0 hown hK hP 0 rfl rfl 7 (by decide) (hts (.fieldLink RX0 176 RX0 "printedCount" "I") (by decide +kernel)) (fun _ h9 => h9) rfl dX0_noteInOrder_1 ?_
  refine lv_sipush (v := 1000) hx hb dX0_noteInOrder_4 (by decide) ?_
  refine lv_icmp_ge (tgt := 33) hx hb dX0_noteInOrder_7 (by decide) (fun c1_ => ?_) (fun c1_ => ?_)
  · exact w_vret (u := σ) hx hb hr hlocks hP hD hS dX0_noteInOrder_33 (by unfold sC_noteInOrder; rw [if_pos c1_] <;> rfl)
  · refine lv_aload_n hx hb dX0_noteInOrder_10 rfl (lv_at hl 0 rfl) ?_
    refine va_get (v := .ref (adr 6)) (D := (dC, dI)) (ci := 0) (C := RX0) (T := TX0) (N := 13) hx hb hts hin0 hown hK hP 0 rfl rfl 6 (by decide) (hts (.fieldLink RX0 21 RX0 "printedOrder" "[I") (by decide +kernel)) (fun _ h9 => h9) rfl dX0_noteInOrder_11 ?_
    refine lv_aload_n hx hb dX0_noteInOrder_14 rfl (lv_at hl 0 rfl) ?_
    refine va_get (v := .int (σ 7 0)) (D := (dC, dI)) (ci := 0) (C := RX0) (T := TX0) (N := 13) hx hb hts hin0 hown hK hP 0 rfl rfl 7 (by decide) (hts (.fieldLink RX0 176 RX0 "printedCount" "I") (by decide +kernel)) (fun _ h9 => h9) rfl dX0_noteInOrder_15 ?_
    refine lv_aload_n hx hb dX0_noteInOrder_18 rfl (lv_at hl 1 rfl) ?_
    refine va_get (v := .int (σ 20 j0)) (D := (dC, dI)) (ci := 1) (C := RX1) (T := TX1) (N := 13) hx hb hts hin1 hown hK hP (6 + j0) (cw_out h_j0) rfl 0 (by decide) (hts (.fieldLink RX0 60 RX1 "number" "I") (by decide +kernel)) (fun _ h9 => h9) rfl dX0_noteInOrder_19 ?_
    refine va_iast (D := (dC, dI)) (i := σ 7 0) (x := σ 20 j0) (f := σ 6) hx hb hK hP hD hS 3 0 rfl rfl (nio_in hk c1_) dX0_noteInOrder_22 (fun H locs hP hD hS => ?_)
    have hP : va_P (dC, dI) vwCl (cWd h adr ad wd nO nW cI cO cW (upd2 σ 6 ((σ 7 0).toNatClampNeg) (σ 20 j0)) ++ X) H := by rw [← cput_6]; exact hP
    have hD : va_D (fun q : Nat => z ≤ q) (cWd h adr ad wd nO nW cI cO cW (upd2 σ 6 ((σ 7 0).toNatClampNeg) (σ 20 j0)) ++ X) := by rw [← cput_6]; exact hD
    refine lv_aload_n hx hb dX0_noteInOrder_23 rfl (lv_at hl 0 rfl) ?_
    refine lv_dup hx hb dX0_noteInOrder_24 rfl ?_
    refine va_get (v := .int (σ 7 0)) (D := (dC, dI)) (ci := 0) (C := RX0) (T := TX0) (N := 13) hx hb hts hin0 hown hK hP 0 rfl rfl 7 (by decide) (hts (.fieldLink RX0 176 RX0 "printedCount" "I") (by decide +kernel)) (fun _ h9 => h9) rfl dX0_noteInOrder_25 ?_
    refine lv_iconst (v := 1) hx hb dX0_noteInOrder_28 (by decide) ?_
    refine lv_iadd hx hb dX0_noteInOrder_29 ?_
    refine va_put (D := (dC, dI)) (ci := 0) (v := .int ((σ 7 0) + 1)) (ty := .int) (C := RX0) (T := TX0) (N := 13) hx hb hts hin0 tyX0 tyX0_ok nmX0 hown hK hP hD hS 0 rfl rfl 7 (by decide) (hts (.fieldLink RX0 176 RX0 "printedCount" "I") (by decide +kernel)) (fun _ h9 => h9) rfl (by decide +kernel) rfl rfl (Nat.le_of_ble_eq_true rfl) dX0_noteInOrder_30 (fun H locs hP hD hS => ?_)
    have hP : va_P (dC, dI) vwCl (cWd h adr ad wd nO nW cI cO cW (upd2 (upd2 σ 6 ((σ 7 0).toNatClampNeg) (σ 20 j0)) 7 0 ((σ 7 0) + 1)) ++ X) H := by rw [← cput_7]; exact hP
    have hD : va_D (fun q : Nat => z ≤ q) (cWd h adr ad wd nO nW cI cO cW (upd2 (upd2 σ 6 ((σ 7 0).toNatClampNeg) (σ 20 j0)) 7 0 ((σ 7 0) + 1)) ++ X) := by rw [← cput_7]; exact hD
    exact w_vret (u := upd2 (upd2 σ 6 ((σ 7 0).toNatClampNeg) (σ 20 j0)) 7 0 ((σ 7 0) + 1)) hx hb hr hlocks hP hD hS dX0_noteInOrder_33 (by unfold sC_noteInOrder; rw [if_neg c1_] <;> rfl)
