set_option maxHeartbeats 4000000 in
set_option maxRecDepth 100000 in
theorem c_C_hasOutputThere (l : Launch) (dC : Nat → ClassId) (dI : Nat → Nat → Nat) (cI cZ cO cW : ClassId) (z : Nat) (X : va_W) (h : Nat) (adr ad wd : Nat → Nat) (nO nW : Nat) (σ : T2) (p0 : Int32) (hI : cInv nO nW σ) : Met l yX0_hasOutputThere wsX0_hasOutputThere ({ frames := 2, cells := 0, slots := 0, locals := 43 }) (wPc (dC, dI) (tyL cI cZ cO cW) z [.ref h, .int p0] (cWd h adr ad wd nO nW cI cO cW σ ++ X)) (vp_Si (fun r => r = sC_hasOutputThere σ p0)) 0 0 (fun _ => False) := by
  refine en_met (cc := cX0_hasOutputThere) (maxL := 4) (ret := (some .boolean)) (by decide) rfl (Nat.le_of_ble_eq_true rfl) ?_
  intro p e s m below meth c ls hx hb hml hr hts hown hlocks hnm hv hl
  obtain ⟨hz, hP, hK, hD⟩ := hv
  have hown : s.vm.findClass RX0 = some m.cls := hown
  have hS : va_S (fun q : Nat => z ≤ q) s.heap s.heap [] := va_S.rf
  have hin0 : ∀ w ∈ wsX00, w ∈ wsX0_hasOutputThere := by decide +kernel
  have hin1 : ∀ w ∈ wsX10, w ∈ wsX0_hasOutputThere := by decide +kernel
  have hl : lv_has ls 4 [(0, .ref h), (1, .int p0)] := hl
  refine lv_iconst (v := 1) hx hb dX0_hasOutputThere_0 (by decide) ?_
  refine lv_istore_n (lv' := [(2, .int 1), (0, .ref h), (1, .int p0)]) hx hb dX0_hasOutputThere_1 rfl hl (by decide) rfl (fun ls hl => ?_)
  obtain ⟨N, hNc⟩ : ∃ N : Nat, N = (σ 3 0).toNatClampNeg := ⟨_, rfl⟩
  have hN := cN_out hI
  rw [← hNc] at hN
  have key : ∀ (n i : Nat) (ls : Array Slot), i ≤ N → N - i < n → sC_hasOutputThere_F σ p0 i = 0 → lv_has ls 4 [(0, .ref h), (1, .int p0), (2, .int (nI (i + 1)))] → W p l e ({ frames := 2, cells := 0, slots := 0, locals := 43 }) s m ([.ref h, .int p0] : List Value).toArray below meth c s.heap [] 0 0 (MQ below (vp_Si (fun r => r = sC_hasOutputThere σ p0)) ([.ref h, .int p0] : List Value).toArray s 0 0 (fun _ => False)) (F0 m 2 ls []) := by
    intro n
    induction n with
    | zero => intro i ls hi hn; exact absurd hn (Nat.not_lt_zero _)
    | succ n ih =>
      intro i ls hi hn hF hl
      refine lv_iload_n hx hb dX0_hasOutputThere_2 rfl (lv_at hl 2 rfl) ?_
      refine lv_aload_n hx hb dX0_hasOutputThere_3 rfl (lv_at hl 0 rfl) ?_
      refine va_get (v := .int (σ 3 0)) (D := (dC, dI)) (ci := 0) (C := RX0) (T := TX0) (N := 13) hx hb hts hin0 hown hK hP 0 rfl rfl 3 (by decide) (hts (.fieldLink RX0 93 RX0 "outputCount" "I") (by decide +kernel)) (fun _ h9 => h9) rfl dX0_hasOutputThere_4 ?_
      refine lv_icmp_gt (tgt := 43) hx hb dX0_hasOutputThere_7 (by decide) (fun c2_ => ?_) (fun c2_ => ?_)
      · have hiN : i = N := lg_out hN.1 hN.2 (by decide) hi c2_
        subst hiN
        refine lv_iconst (v := 0) hx hb dX0_hasOutputThere_43 (by decide) ?_
        exact w_rz (v := 0) hx hb hr rfl hlocks dX0_hasOutputThere_44 (by unfold sC_hasOutputThere; rw [← hNc]; exact hF.symm)
      · have hlt : i < N := lg_in hN.1 hN.2 (by decide) hi c2_
        refine lv_aload_n hx hb dX0_hasOutputThere_10 rfl (lv_at hl 0 rfl) ?_
        refine lv_iload_n hx hb dX0_hasOutputThere_11 rfl (lv_at hl 2 rfl) ?_
        refine va_csq (W.runV (As := [.int (nI (i + 1))]) (rest := []) ⟨hx, hb, hml, hown, hts⟩ (c_C_outputOf l dC dI cI cZ cO cW z X h adr ad wd nO nW σ (nI (i + 1)) (oi hI)) (cwV 1 hts gX0_hasOutputThere_X0_outputOf rfl rfl rfl (by decide +kernel) ⟨Nat.le_of_ble_eq_true rfl, Nat.le_of_ble_eq_true rfl⟩) (wPreV (Nat.le_trans hz hS.1) hP hK hD (va_recv hK hP (ci := 0) (q0 := 0) rfl rfl)) rfl rfl hl.1 rfl (lv_room (Nat.le_of_ble_eq_true rfl)) dX0_hasOutputThere_12 ⟨Nat.le_of_ble_eq_true rfl, Nat.le_of_ble_eq_true rfl⟩) (fun r e_ => ?_)
        subst e_
        rw [oo_some (iw_l hN.1 hN.2 hlt)]
        refine W.eq (g2 := F0 m 15 ls [.ref (ad (((nI (i + 1)) - 1).toNatClampNeg))]) rfl ?_
        refine lv_astore_n (lv' := [(3, .ref (ad (((nI (i + 1)) - 1).toNatClampNeg))), (0, .ref h), (1, .int p0), (2, .int (nI (i + 1)))]) hx hb dX0_hasOutputThere_15 rfl hl (by decide) rfl (fun ls hl => ?_)
        refine lv_aload_n hx hb dX0_hasOutputThere_16 rfl (lv_at hl 0 rfl) ?_
        refine lv_ifnull hx hb dX0_hasOutputThere_17 ?_
        refine lv_aload_n hx hb dX0_hasOutputThere_20 rfl (lv_at hl 0 rfl) ?_
        refine va_get (v := .int (σ 21 (((nI (i + 1)) - 1).toNatClampNeg))) (D := (dC, dI)) (ci := 1) (C := RX1) (T := TX1) (N := 13) hx hb hts hin1 hown hK hP (6 + (((nI (i + 1)) - 1).toNatClampNeg)) (cw_out (lt_g hI hNc hlt)) rfl 1 (by decide) (hts (.fieldLink RX0 96 RX1 "job" "I") (by decide +kernel)) (fun _ h9 => h9) rfl dX0_hasOutputThere_21 ?_
        refine lv_iload_n hx hb dX0_hasOutputThere_24 rfl (lv_at hl 2 rfl) ?_
        refine lv_icmp_ne (tgt := 37) hx hb dX0_hasOutputThere_25 (by decide) (fun c3_ => ?_) (fun c3_ => ?_)
        · refine lv_iinc (v := nI (i + 1 + 1)) (lv' := [(2, .int (nI (i + 1 + 1))), (3, .ref (ad (((nI (i + 1)) - 1).toNatClampNeg))), (0, .ref h), (1, .int p0)]) hx hb dX0_hasOutputThere_37 hl (k := 3) rfl (nI_1 _) (by decide) rfl (fun ls hl => ?_)
          refine lv_goto (tgt := 2) hx hb dX0_hasOutputThere_40 (by decide) ?_
          exact ih (i + 1) ls hlt (by omega) (by show (if sC_hasOutputThere_F σ p0 i = 0 then sC_hasOutputThere_s σ p0 i else sC_hasOutputThere_F σ p0 i) = 0; rw [if_pos hF]; unfold sC_hasOutputThere_s; rw [if_neg c3_] <;> rfl)  (lv_sub hl [2, 3, 0] rfl)
        · refine lv_aload_n hx hb dX0_hasOutputThere_28 rfl (lv_at hl 0 rfl) ?_
          refine vp_callSi (W.runV (As := []) (rest := []) ⟨hx, hb, hml, hown, hts⟩ (c_O_isGone l dC dI cI cZ cO cW z X h adr ad wd nO nW σ (((nI (i + 1)) - 1).toNatClampNeg) (lt_g hI hNc hlt)) (cwV 0 hts gX0_hasOutputThere_X1_isGone rfl rfl rfl (by decide +kernel) ⟨Nat.le_of_ble_eq_true rfl, Nat.le_of_ble_eq_true rfl⟩) (wPreV (Nat.le_trans hz hS.1) hP hK hD (va_recv hK hP (ci := 1) (q0 := (6 + (((nI (i + 1)) - 1).toNatClampNeg))) rfl (cw_out (lt_g hI hNc hlt)))) rfl rfl hl.1 rfl (lv_room (Nat.le_of_ble_eq_true rfl)) dX0_hasOutputThere_29 ⟨Nat.le_of_ble_eq_true rfl, Nat.le_of_ble_eq_true rfl⟩) (fun r e_ => ?_)
          subst e_
          refine lv_if_ne (tgt := 37) hx hb dX0_hasOutputThere_32 (by decide) (fun c4_ => ?_) (fun c4_ => ?_)
          · refine lv_iinc (v := nI (i + 1 + 1)) (lv' := [(2, .int (nI (i + 1 + 1))), (3, .ref (ad (((nI (i + 1)) - 1).toNatClampNeg))), (0, .ref h), (1, .int p0)]) hx hb dX0_hasOutputThere_37 hl (k := 3) rfl (nI_1 _) (by decide) rfl (fun ls hl => ?_)
            refine lv_goto (tgt := 2) hx hb dX0_hasOutputThere_40 (by decide) ?_
            exact ih (i + 1) ls hlt (by omega) (by show (if sC_hasOutputThere_F σ p0 i = 0 then sC_hasOutputThere_s σ p0 i else sC_hasOutputThere_F σ p0 i) = 0; rw [if_pos hF]; unfold sC_hasOutputThere_s; rw [if_pos c3_, if_neg c4_] <;> rfl)  (lv_sub hl [2, 3, 0] rfl)
          · refine lv_iconst (v := 1) hx hb dX0_hasOutputThere_35 (by decide) ?_
            exact w_rz (v := 1) hx hb hr rfl hlocks dX0_hasOutputThere_36 (by unfold sC_hasOutputThere; rw [← hNc]; exact (find_stay (F := sC_hasOutputThere_F σ p0) (S := sC_hasOutputThere_s σ p0) (fun _ => rfl) hF (by unfold sC_hasOutputThere_s; rw [if_pos c3_, if_pos c4_] <;> rfl) hlt).symm)
  exact key (N + 1) 0 ls (Nat.zero_le _) (by omega) rfl  (lv_sub hl [1, 2, 0] rfl)
set_option maxHeartbeats 4000000 in
set_option maxRecDepth 100000 in
theorem c_C_outputsThere (l : Launch) (dC : Nat → ClassId) (dI : Nat → Nat → Nat) (cI cZ cO cW : ClassId) (z : Nat) (X : va_W) (h : Nat) (adr ad wd : Nat → Nat) (nO nW : Nat) (σ : T2) (hI : cInv nO nW σ) : Met l yX0_outputsThere wsX0_outputsThere ({ frames := 3, cells := 0, slots := 0, locals := 65 }) (wPc (dC, dI) (tyL cI cZ cO cW) z [.ref h] (cWd h adr ad wd nO nW cI cO cW σ ++ X)) (vp_Si (fun r => r = sC_outputsThere σ)) 0 0 (fun _ => False) := by
  refine en_met (cc := cX0_outputsThere) (maxL := 3) (ret := (some .int)) (by decide) rfl (Nat.le_of_ble_eq_true rfl) ?_
  intro p e s m below meth c ls hx hb hml hr hts hown hlocks hnm hv hl
  obtain ⟨hz, hP, hK, hD⟩ := hv
  have hown : s.vm.findClass RX0 = some m.cls := hown
  have hS : va_S (fun q : Nat => z ≤ q) s.heap s.heap [] := va_S.rf
  have hin0 : ∀ w ∈ wsX00, w ∈ wsX0_outputsThere := by decide +kernel
  have hl : lv_has ls 3 [(0, .ref h)] := hl
  refine lv_iconst (v := 0) hx hb dX0_outputsThere_0 (by decide) ?_
  refine lv_istore_n (lv' := [(1, .int 0), (0, .ref h)]) hx hb dX0_outputsThere_1 rfl hl (by decide) rfl (fun ls hl => ?_)
  refine lv_iconst (v := 1) hx hb dX0_outputsThere_2 (by decide) ?_
  refine lv_istore_n (lv' := [(2, .int 1), (1, .int 0), (0, .ref h)]) hx hb dX0_outputsThere_3 rfl hl (by decide) rfl (fun ls hl => ?_)
  obtain ⟨N, hNc⟩ : ∃ N : Nat, N = (σ 3 0).toNatClampNeg := ⟨_, rfl⟩
  have hN := cN_out hI
  rw [← hNc] at hN
  have key : ∀ (n i : Nat) (a : Int32) (ls : Array Slot), i ≤ N → N - i < n → sC_outputsThere_F σ i = a → lv_has ls 3 [(0, .ref h), (1, .int a), (2, .int (nI (i + 1)))] → W p l e ({ frames := 3, cells := 0, slots := 0, locals := 65 }) s m ([.ref h] : List Value).toArray below meth c s.heap [] 0 0 (MQ below (vp_Si (fun r => r = sC_outputsThere σ)) ([.ref h] : List Value).toArray s 0 0 (fun _ => False)) (F0 m 4 ls []) := by
    intro n
    induction n with
    | zero => intro i a ls hi hn; exact absurd hn (Nat.not_lt_zero _)
    | succ n ih =>
      intro i a ls hi hn hF hl
      refine lv_iload_n hx hb dX0_outputsThere_4 rfl (lv_at hl 2 rfl) ?_
      refine lv_aload_n hx hb dX0_outputsThere_5 rfl (lv_at hl 0 rfl) ?_
      refine va_get (v := .int (σ 3 0)) (D := (dC, dI)) (ci := 0) (C := RX0) (T := TX0) (N := 13) hx hb hts hin0 hown hK hP 0 rfl rfl 3 (by decide) (hts (.fieldLink RX0 93 RX0 "outputCount" "I") (by decide +kernel)) (fun _ h9 => h9) rfl dX0_outputsThere_6 ?_
      refine lv_icmp_gt (tgt := 29) hx hb dX0_outputsThere_9 (by decide) (fun c2_ => ?_) (fun c2_ => ?_)
      · have hiN : i = N := lg_out hN.1 hN.2 (by decide) hi c2_
        subst hiN
        refine lv_iload_n hx hb dX0_outputsThere_29 rfl (lv_at hl 1 rfl) ?_
        exact w_ri (v := a) hx hb hr hlocks dX0_outputsThere_30 (by unfold sC_outputsThere; rw [← hNc, hF]; show _ = sC_outputsThere_x σ a; unfold sC_outputsThere_x; rfl)
      · have hlt : i < N := lg_in hN.1 hN.2 (by decide) hi c2_
        refine lv_aload_n hx hb dX0_outputsThere_12 rfl (lv_at hl 0 rfl) ?_
        refine lv_iload_n hx hb dX0_outputsThere_13 rfl (lv_at hl 2 rfl) ?_
        refine vp_callSi (W.runV (As := [.int (nI (i + 1))]) (rest := []) ⟨hx, hb, hml, hown, hts⟩ (c_C_isThere l dC dI cI cZ cO cW z X h adr ad wd nO nW σ (nI (i + 1)) hI) (cwV 1 hts gX0_outputsThere_X0_isThere rfl rfl rfl (by decide +kernel) ⟨Nat.le_of_ble_eq_true rfl, Nat.le_of_ble_eq_true rfl⟩) (wPreV (Nat.le_trans hz hS.1) hP hK hD (va_recv hK hP (ci := 0) (q0 := 0) rfl rfl)) rfl rfl hl.1 rfl (lv_room (Nat.le_of_ble_eq_true rfl)) dX0_outputsThere_14 ⟨Nat.le_of_ble_eq_true rfl, Nat.le_of_ble_eq_true rfl⟩) (fun r e_ => ?_)
        subst e_
        refine lv_if_eq (tgt := 23) hx hb dX0_outputsThere_17 (by decide) (fun c3_ => ?_) (fun c3_ => ?_)
        · refine lv_iinc (v := nI (i + 1 + 1)) (lv' := [(2, .int (nI (i + 1 + 1))), (0, .ref h), (1, .int a)]) hx hb dX0_outputsThere_23 hl (k := 2) rfl (nI_1 _) (by decide) rfl (fun ls hl => ?_)
          refine lv_goto (tgt := 4) hx hb dX0_outputsThere_26 (by decide) ?_
          exact ih (i + 1) a ls hlt (by omega) (by show sC_outputsThere_s σ i (sC_outputsThere_F σ i) = _; rw [hF]; show sC_outputsThere_s σ i a = _; unfold sC_outputsThere_s; rw [if_pos c3_] <;> rfl)  (lv_sub hl [1, 2, 0] rfl)
        · refine lv_iinc (v := a + 1) (lv' := [(1, .int (a + 1)), (0, .ref h), (2, .int (nI (i + 1)))]) hx hb dX0_outputsThere_20 hl (k := 1) rfl (by rfl) (by decide) rfl (fun ls hl => ?_)
          refine lv_iinc (v := nI (i + 1 + 1)) (lv' := [(2, .int (nI (i + 1 + 1))), (1, .int (a + 1)), (0, .ref h)]) hx hb dX0_outputsThere_23 hl (k := 2) rfl (nI_1 _) (by decide) rfl (fun ls hl => ?_)
          refine lv_goto (tgt := 4) hx hb dX0_outputsThere_26 (by decide) ?_
          exact ih (i + 1) (a + 1) ls hlt (by omega) (by show sC_outputsThere_s σ i (sC_outputsThere_F σ i) = _; rw [hF]; show sC_outputsThere_s σ i a = _; unfold sC_outputsThere_s; rw [if_neg c3_] <;> rfl)  (lv_sub hl [2, 1, 0] rfl)
  exact key (N + 1) 0 0 ls (Nat.zero_le _) (by omega) rfl  (lv_sub hl [2, 1, 0] rfl)
set_option maxHeartbeats 4000000 in
set_option maxRecDepth 100000 in
theorem c_C_firstFor (l : Launch) (dC : Nat → ClassId) (dI : Nat → Nat → Nat) (cI cZ cO cW : ClassId) (z : Nat) (X : va_W) (h : Nat) (adr ad wd : Nat → Nat) (nO nW : Nat) (σ : T2) (w0 : Nat) (h_w0 : w0 < nW) (hI : cInv nO nW σ) : Met l yX0_firstFor wsX0_firstFor ({ frames := 2, cells := 0, slots := 0, locals := 43 }) (wPc (dC, dI) (tyL cI cZ cO cW) z [.ref h, .ref (wd w0)] (cWd h adr ad wd nO nW cI cO cW σ ++ X)) (va_Sq (fun r => r = tk ad (sC_firstFor σ w0))) 0 0 (fun _ => False) := by
  refine en_met (cc := cX0_firstFor) (maxL := 5) (ret := (some (.object "SpoolRows$Output"))) (by decide) rfl (Nat.le_of_ble_eq_true rfl) ?_
  intro p e s m below meth c ls hx hb hml hr hts hown hlocks hnm hv hl
  obtain ⟨hz, hP, hK, hD⟩ := hv
  have hown : s.vm.findClass RX0 = some m.cls := hown
  have hS : va_S (fun q : Nat => z ≤ q) s.heap s.heap [] := va_S.rf
  have hin0 : ∀ w ∈ wsX00, w ∈ wsX0_firstFor := by decide +kernel
  have hl : lv_has ls 5 [(0, .ref h), (1, .ref (wd w0))] := hl
  refine lv_null hx hb dX0_firstFor_0 ?_
  refine lv_astore_nN (lv' := [(2, .null), (0, .ref h), (1, .ref (wd w0))]) hx hb dX0_firstFor_1 rfl hl (by decide) rfl (fun ls hl => ?_)
  refine lv_iconst (v := 1) hx hb dX0_firstFor_2 (by decide) ?_
  refine lv_istore_n (lv' := [(3, .int 1), (2, .null), (0, .ref h), (1, .ref (wd w0))]) hx hb dX0_firstFor_3 rfl hl (by decide) rfl (fun ls hl => ?_)
  obtain ⟨N, hNc⟩ : ∃ N : Nat, N = (σ 3 0).toNatClampNeg := ⟨_, rfl⟩
  have hN := cN_out hI
  rw [← hNc] at hN
  have key : ∀ (n i : Nat) (a : Int32) (ls : Array Slot), i ≤ N → N - i < n → sC_firstFor_F σ w0 i = a → (a = 0 ∨ ∃ j, j < nO ∧ a = nI (j + 1)) → lv_has ls 5 [(0, .ref h), (1, .ref (wd w0)), (2, va_rf (tk ad a)), (3, .int (nI (i + 1)))] → W p l e ({ frames := 2, cells := 0, slots := 0, locals := 43 }) s m ([.ref h, .ref (wd w0)] : List Value).toArray below meth c s.heap [] 0 0 (MQ below (va_Sq (fun r => r = tk ad (sC_firstFor σ w0))) ([.ref h, .ref (wd w0)] : List Value).toArray s 0 0 (fun _ => False)) (F0 m 4 ls []) := by
    intro n
    induction n with
    | zero => intro i a ls hi hn; exact absurd hn (Nat.not_lt_zero _)
    | succ n ih =>
      intro i a ls hi hn hF hA hl
      by_cases ha0 : a = 0
      · rw [tk_none ha0] at hl
        have hl : lv_has ls 5 [(0, .ref h), (1, .ref (wd w0)), (2, .null), (3, .int (nI (i + 1)))] := hl
        refine lv_iload_n hx hb dX0_firstFor_4 rfl (lv_at hl 3 rfl) ?_
        refine lv_aload_n hx hb dX0_firstFor_5 rfl (lv_at hl 0 rfl) ?_
        refine va_get (v := .int (σ 3 0)) (D := (dC, dI)) (ci := 0) (C := RX0) (T := TX0) (N := 13) hx hb hts hin0 hown hK hP 0 rfl rfl 3 (by decide) (hts (.fieldLink RX0 93 RX0 "outputCount" "I") (by decide +kernel)) (fun _ h9 => h9) rfl dX0_firstFor_6 ?_
        refine lv_icmp_gt (tgt := 63) hx hb dX0_firstFor_9 (by decide) (fun c2_ => ?_) (fun c2_ => ?_)
        · have hiN : i = N := lg_out hN.1 hN.2 (by decide) hi c2_
          subst hiN
          refine lv_aload_nN hx hb dX0_firstFor_63 rfl (lv_at hl 2 rfl) ?_
          exact w_rq (r := none) hx hb hr (Or.inl ⟨_, rfl⟩) hlocks dX0_firstFor_64 (by unfold sC_firstFor; rw [← hNc, hF, tk_none ha0])
        · have hlt : i < N := lg_in hN.1 hN.2 (by decide) hi c2_
          refine lv_aload_n hx hb dX0_firstFor_12 rfl (lv_at hl 0 rfl) ?_
          refine lv_iload_n hx hb dX0_firstFor_13 rfl (lv_at hl 3 rfl) ?_
          refine va_csq (W.runV (As := [.int (nI (i + 1))]) (rest := []) ⟨hx, hb, hml, hown, hts⟩ (c_C_outputOf l dC dI cI cZ cO cW z X h adr ad wd nO nW σ (nI (i + 1)) (oi hI)) (cwV 1 hts gX0_firstFor_X0_outputOf rfl rfl rfl (by decide +kernel) ⟨Nat.le_of_ble_eq_true rfl, Nat.le_of_ble_eq_true rfl⟩) (wPreV (Nat.le_trans hz hS.1) hP hK hD (va_recv hK hP (ci := 0) (q0 := 0) rfl rfl)) rfl rfl hl.1 rfl (lv_room (Nat.le_of_ble_eq_true rfl)) dX0_firstFor_14 ⟨Nat.le_of_ble_eq_true rfl, Nat.le_of_ble_eq_true rfl⟩) (fun r e_ => ?_)
          subst e_
          rw [oo_some (iw_l hN.1 hN.2 hlt)]
          refine W.eq (g2 := F0 m 17 ls [.ref (ad (((nI (i + 1)) - 1).toNatClampNeg))]) rfl ?_
          refine lv_astore (lv' := [(4, .ref (ad (((nI (i + 1)) - 1).toNatClampNeg))), (0, .ref h), (1, .ref (wd w0)), (2, .null), (3, .int (nI (i + 1)))]) hx hb dX0_firstFor_17 hl (by decide) rfl (fun ls hl => ?_)
          refine lv_aload hx hb dX0_firstFor_19 (lv_at hl 0 rfl) ?_
          refine lv_ifnull hx hb dX0_firstFor_21 ?_
          refine lv_aload hx hb dX0_firstFor_24 (lv_at hl 0 rfl) ?_
          refine vp_callSi (W.runV (As := []) (rest := []) ⟨hx, hb, hml, hown, hts⟩ (c_O_mayBePrinted l dC dI cI cZ cO cW z X h adr ad wd nO nW σ (((nI (i + 1)) - 1).toNatClampNeg) (lt_g hI hNc hlt)) (cwV 0 hts gX0_firstFor_X1_mayBePrinted rfl rfl rfl (by decide +kernel) ⟨Nat.le_of_ble_eq_true rfl, Nat.le_of_ble_eq_true rfl⟩) (wPreV (Nat.le_trans hz hS.1) hP hK hD (va_recv hK hP (ci := 1) (q0 := (6 + (((nI (i + 1)) - 1).toNatClampNeg))) rfl (cw_out (lt_g hI hNc hlt)))) rfl rfl hl.1 rfl (lv_room (Nat.le_of_ble_eq_true rfl)) dX0_firstFor_26 ⟨Nat.le_of_ble_eq_true rfl, Nat.le_of_ble_eq_true rfl⟩) (fun r e_ => ?_)
          subst e_
          refine lv_if_eq (tgt := 57) hx hb dX0_firstFor_29 (by decide) (fun c3_ => ?_) (fun c3_ => ?_)
          · refine lv_iinc (v := nI (i + 1 + 1)) (lv' := [(3, .int (nI (i + 1 + 1))), (4, .ref (ad (((nI (i + 1)) - 1).toNatClampNeg))), (0, .ref h), (1, .ref (wd w0)), (2, .null)]) hx hb dX0_firstFor_57 hl (k := 4) rfl (nI_1 _) (by decide) rfl (fun ls hl => ?_)
            refine lv_goto (tgt := 4) hx hb dX0_firstFor_60 (by decide) ?_
            exact ih (i + 1) a ls hlt (by omega) (by show sC_firstFor_s σ w0 i (sC_firstFor_F σ w0 i) = _; rw [hF]; show sC_firstFor_s σ w0 i a = _; unfold sC_firstFor_s; rw [if_pos ha0, if_pos c3_] <;> rfl) hA (by rw [tk_none ha0]; exact (lv_sub hl [2, 3, 4, 0] rfl))
          · refine lv_aload_n hx hb dX0_firstFor_32 rfl (lv_at hl 2 rfl) ?_
            refine lv_aload hx hb dX0_firstFor_33 (lv_at hl 0 rfl) ?_
            refine vp_callSi (W.runV (As := [.ref (ad (((nI (i + 1)) - 1).toNatClampNeg))]) (rest := []) ⟨hx, hb, hml, hown, hts⟩ (c_W_suits l dC dI cI cZ cO cW z X h adr ad wd nO nW σ w0 (((nI (i + 1)) - 1).toNatClampNeg) h_w0 (lt_g hI hNc hlt)) (cwV 1 hts gX0_firstFor_X2_suits rfl rfl rfl (by decide +kernel) ⟨Nat.le_of_ble_eq_true rfl, Nat.le_of_ble_eq_true rfl⟩) (wPreV (Nat.le_trans hz hS.1) hP hK hD (va_recv hK hP (ci := 2) (q0 := (6 + nO + w0)) rfl (cw_wr h_w0))) rfl rfl hl.1 rfl (lv_room (Nat.le_of_ble_eq_true rfl)) dX0_firstFor_35 ⟨Nat.le_of_ble_eq_true rfl, Nat.le_of_ble_eq_true rfl⟩) (fun r e_ => ?_)
            subst e_
            refine lv_if_eq (tgt := 57) hx hb dX0_firstFor_38 (by decide) (fun c4_ => ?_) (fun c4_ => ?_)
            · refine lv_iinc (v := nI (i + 1 + 1)) (lv' := [(3, .int (nI (i + 1 + 1))), (4, .ref (ad (((nI (i + 1)) - 1).toNatClampNeg))), (0, .ref h), (1, .ref (wd w0)), (2, .null)]) hx hb dX0_firstFor_57 hl (k := 4) rfl (nI_1 _) (by decide) rfl (fun ls hl => ?_)
              refine lv_goto (tgt := 4) hx hb dX0_firstFor_60 (by decide) ?_
              exact ih (i + 1) a ls hlt (by omega) (by show sC_firstFor_s σ w0 i (sC_firstFor_F σ w0 i) = _; rw [hF]; show sC_firstFor_s σ w0 i a = _; unfold sC_firstFor_s; rw [if_pos ha0, if_neg c3_, if_pos c4_] <;> rfl) hA (by rw [tk_none ha0]; exact (lv_sub hl [2, 3, 4, 0] rfl))
            · refine lv_aload_nN hx hb dX0_firstFor_41 rfl (lv_at hl 3 rfl) ?_
              refine lv_ifnullN (tgt := 54) hx hb dX0_firstFor_42 (by decide) ?_
              refine lv_aload hx hb dX0_firstFor_54 (lv_at hl 0 rfl) ?_
              refine lv_astore_n (lv' := [(2, .ref (ad (((nI (i + 1)) - 1).toNatClampNeg))), (4, .ref (ad (((nI (i + 1)) - 1).toNatClampNeg))), (0, .ref h), (1, .ref (wd w0)), (3, .int (nI (i + 1)))]) hx hb dX0_firstFor_56 rfl hl (by decide) rfl (fun ls hl => ?_)
              refine lv_iinc (v := nI (i + 1 + 1)) (lv' := [(3, .int (nI (i + 1 + 1))), (2, .ref (ad (((nI (i + 1)) - 1).toNatClampNeg))), (4, .ref (ad (((nI (i + 1)) - 1).toNatClampNeg))), (0, .ref h), (1, .ref (wd w0))]) hx hb dX0_firstFor_57 hl (k := 4) rfl (nI_1 _) (by decide) rfl (fun ls hl => ?_)
              refine lv_goto (tgt := 4) hx hb dX0_firstFor_60 (by decide) ?_
              exact ih (i + 1) (nI ((((nI (i + 1)) - 1).toNatClampNeg) + 1)) ls hlt (by omega) (by show sC_firstFor_s σ w0 i (sC_firstFor_F σ w0 i) = _; rw [hF]; show sC_firstFor_s σ w0 i a = _; unfold sC_firstFor_s; rw [if_pos ha0, if_neg c3_, if_neg c4_] <;> rfl) (Or.inr ⟨_, lt_g hI hNc hlt, rfl⟩) (by rw [tk_put (lt_g hI hNc hlt) hI]; exact (lv_sub hl [3, 4, 1, 0] rfl))
      · rw [tk_some ha0] at hl
        have hl : lv_has ls 5 [(0, .ref h), (1, .ref (wd w0)), (2, .ref (ad (a - 1).toNatClampNeg)), (3, .int (nI (i + 1)))] := hl
        refine lv_iload_n hx hb dX0_firstFor_4 rfl (lv_at hl 3 rfl) ?_
        refine lv_aload_n hx hb dX0_firstFor_5 rfl (lv_at hl 0 rfl) ?_
        refine va_get (v := .int (σ 3 0)) (D := (dC, dI)) (ci := 0) (C := RX0) (T := TX0) (N := 13) hx hb hts hin0 hown hK hP 0 rfl rfl 3 (by decide) (hts (.fieldLink RX0 93 RX0 "outputCount" "I") (by decide +kernel)) (fun _ h9 => h9) rfl dX0_firstFor_6 ?_
        refine lv_icmp_gt (tgt := 63) hx hb dX0_firstFor_9 (by decide) (fun c5_ => ?_) (fun c5_ => ?_)
        · have hiN : i = N := lg_out hN.1 hN.2 (by decide) hi c5_
          subst hiN
          refine lv_aload_n hx hb dX0_firstFor_63 rfl (lv_at hl 2 rfl) ?_
          exact w_rq (r := some (ad (a - 1).toNatClampNeg)) hx hb hr (Or.inl ⟨_, rfl⟩) hlocks dX0_firstFor_64 (by unfold sC_firstFor; rw [← hNc, hF, tk_some ha0])
        · have hlt : i < N := lg_in hN.1 hN.2 (by decide) hi c5_
          refine lv_aload_n hx hb dX0_firstFor_12 rfl (lv_at hl 0 rfl) ?_
          refine lv_iload_n hx hb dX0_firstFor_13 rfl (lv_at hl 3 rfl) ?_
          refine va_csq (W.runV (As := [.int (nI (i + 1))]) (rest := []) ⟨hx, hb, hml, hown, hts⟩ (c_C_outputOf l dC dI cI cZ cO cW z X h adr ad wd nO nW σ (nI (i + 1)) (oi hI)) (cwV 1 hts gX0_firstFor_X0_outputOf rfl rfl rfl (by decide +kernel) ⟨Nat.le_of_ble_eq_true rfl, Nat.le_of_ble_eq_true rfl⟩) (wPreV (Nat.le_trans hz hS.1) hP hK hD (va_recv hK hP (ci := 0) (q0 := 0) rfl rfl)) rfl rfl hl.1 rfl (lv_room (Nat.le_of_ble_eq_true rfl)) dX0_firstFor_14 ⟨Nat.le_of_ble_eq_true rfl, Nat.le_of_ble_eq_true rfl⟩) (fun r e_ => ?_)
          subst e_
          rw [oo_some (iw_l hN.1 hN.2 hlt)]
          refine W.eq (g2 := F0 m 17 ls [.ref (ad (((nI (i + 1)) - 1).toNatClampNeg))]) rfl ?_
          refine lv_astore (lv' := [(4, .ref (ad (((nI (i + 1)) - 1).toNatClampNeg))), (0, .ref h), (1, .ref (wd w0)), (2, .ref (ad (a - 1).toNatClampNeg)), (3, .int (nI (i + 1)))]) hx hb dX0_firstFor_17 hl (by decide) rfl (fun ls hl => ?_)
          refine lv_aload hx hb dX0_firstFor_19 (lv_at hl 0 rfl) ?_
          refine lv_ifnull hx hb dX0_firstFor_21 ?_
          refine lv_aload hx hb dX0_firstFor_24 (lv_at hl 0 rfl) ?_
          refine vp_callSi (W.runV (As := []) (rest := []) ⟨hx, hb, hml, hown, hts⟩ (c_O_mayBePrinted l dC dI cI cZ cO cW z X h adr ad wd nO nW σ (((nI (i + 1)) - 1).toNatClampNeg) (lt_g hI hNc hlt)) (cwV 0 hts gX0_firstFor_X1_mayBePrinted rfl rfl rfl (by decide +kernel) ⟨Nat.le_of_ble_eq_true rfl, Nat.le_of_ble_eq_true rfl⟩) (wPreV (Nat.le_trans hz hS.1) hP hK hD (va_recv hK hP (ci := 1) (q0 := (6 + (((nI (i + 1)) - 1).toNatClampNeg))) rfl (cw_out (lt_g hI hNc hlt)))) rfl rfl hl.1 rfl (lv_room (Nat.le_of_ble_eq_true rfl)) dX0_firstFor_26 ⟨Nat.le_of_ble_eq_true rfl, Nat.le_of_ble_eq_true rfl⟩) (fun r e_ => ?_)
          subst e_
          refine lv_if_eq (tgt := 57) hx hb dX0_firstFor_29 (by decide) (fun c6_ => ?_) (fun c6_ => ?_)
          · refine lv_iinc (v := nI (i + 1 + 1)) (lv' := [(3, .int (nI (i + 1 + 1))), (4, .ref (ad (((nI (i + 1)) - 1).toNatClampNeg))), (0, .ref h), (1, .ref (wd w0)), (2, .ref (ad (a - 1).toNatClampNeg))]) hx hb dX0_firstFor_57 hl (k := 4) rfl (nI_1 _) (by decide) rfl (fun ls hl => ?_)
            refine lv_goto (tgt := 4) hx hb dX0_firstFor_60 (by decide) ?_
            exact ih (i + 1) a ls hlt (by omega) (by show sC_firstFor_s σ w0 i (sC_firstFor_F σ w0 i) = _; rw [hF]; show sC_firstFor_s σ w0 i a = _; unfold sC_firstFor_s; rw [if_neg ha0, if_pos c6_] <;> rfl) hA (by rw [tk_some ha0]; exact (lv_sub hl [2, 3, 4, 0] rfl))
          · refine lv_aload_n hx hb dX0_firstFor_32 rfl (lv_at hl 2 rfl) ?_
            refine lv_aload hx hb dX0_firstFor_33 (lv_at hl 0 rfl) ?_
            refine vp_callSi (W.runV (As := [.ref (ad (((nI (i + 1)) - 1).toNatClampNeg))]) (rest := []) ⟨hx, hb, hml, hown, hts⟩ (c_W_suits l dC dI cI cZ cO cW z X h adr ad wd nO nW σ w0 (((nI (i + 1)) - 1).toNatClampNeg) h_w0 (lt_g hI hNc hlt)) (cwV 1 hts gX0_firstFor_X2_suits rfl rfl rfl (by decide +kernel) ⟨Nat.le_of_ble_eq_true rfl, Nat.le_of_ble_eq_true rfl⟩) (wPreV (Nat.le_trans hz hS.1) hP hK hD (va_recv hK hP (ci := 2) (q0 := (6 + nO + w0)) rfl (cw_wr h_w0))) rfl rfl hl.1 rfl (lv_room (Nat.le_of_ble_eq_true rfl)) dX0_firstFor_35 ⟨Nat.le_of_ble_eq_true rfl, Nat.le_of_ble_eq_true rfl⟩) (fun r e_ => ?_)
            subst e_
            refine lv_if_eq (tgt := 57) hx hb dX0_firstFor_38 (by decide) (fun c7_ => ?_) (fun c7_ => ?_)
            · refine lv_iinc (v := nI (i + 1 + 1)) (lv' := [(3, .int (nI (i + 1 + 1))), (4, .ref (ad (((nI (i + 1)) - 1).toNatClampNeg))), (0, .ref h), (1, .ref (wd w0)), (2, .ref (ad (a - 1).toNatClampNeg))]) hx hb dX0_firstFor_57 hl (k := 4) rfl (nI_1 _) (by decide) rfl (fun ls hl => ?_)
              refine lv_goto (tgt := 4) hx hb dX0_firstFor_60 (by decide) ?_
              exact ih (i + 1) a ls hlt (by omega) (by show sC_firstFor_s σ w0 i (sC_firstFor_F σ w0 i) = _; rw [hF]; show sC_firstFor_s σ w0 i a = _; unfold sC_firstFor_s; rw [if_neg ha0, if_neg c6_, if_pos c7_] <;> rfl) hA (by rw [tk_some ha0]; exact (lv_sub hl [2, 3, 4, 0] rfl))
            · refine lv_aload_n hx hb dX0_firstFor_41 rfl (lv_at hl 3 rfl) ?_
              refine lv_ifnull hx hb dX0_firstFor_42 ?_
              refine lv_aload hx hb dX0_firstFor_45 (lv_at hl 0 rfl) ?_
              refine lv_aload_n hx hb dX0_firstFor_47 rfl (lv_at hl 3 rfl) ?_
              refine vp_callSi (W.runV (As := [.ref (ad (a - 1).toNatClampNeg)]) (rest := []) ⟨hx, hb, hml, hown, hts⟩ (c_O_comesBefore l dC dI cI cZ cO cW z X h adr ad wd nO nW σ (((nI (i + 1)) - 1).toNatClampNeg) ((a - 1).toNatClampNeg) (lt_g hI hNc hlt) (fa_lt hI hA ha0)) (cwV 1 hts gX0_firstFor_X1_comesBefore rfl rfl rfl (by decide +kernel) ⟨Nat.le_of_ble_eq_true rfl, Nat.le_of_ble_eq_true rfl⟩) (wPreV (Nat.le_trans hz hS.1) hP hK hD (va_recv hK hP (ci := 1) (q0 := (6 + (((nI (i + 1)) - 1).toNatClampNeg))) rfl (cw_out (lt_g hI hNc hlt)))) rfl rfl hl.1 rfl (lv_room (Nat.le_of_ble_eq_true rfl)) dX0_firstFor_48 ⟨Nat.le_of_ble_eq_true rfl, Nat.le_of_ble_eq_true rfl⟩) (fun r e_ => ?_)
              subst e_
              refine lv_if_eq (tgt := 57) hx hb dX0_firstFor_51 (by decide) (fun c8_ => ?_) (fun c8_ => ?_)
              · refine lv_iinc (v := nI (i + 1 + 1)) (lv' := [(3, .int (nI (i + 1 + 1))), (4, .ref (ad (((nI (i + 1)) - 1).toNatClampNeg))), (0, .ref h), (1, .ref (wd w0)), (2, .ref (ad (a - 1).toNatClampNeg))]) hx hb dX0_firstFor_57 hl (k := 4) rfl (nI_1 _) (by decide) rfl (fun ls hl => ?_)
                refine lv_goto (tgt := 4) hx hb dX0_firstFor_60 (by decide) ?_
                exact ih (i + 1) a ls hlt (by omega) (by show sC_firstFor_s σ w0 i (sC_firstFor_F σ w0 i) = _; rw [hF]; show sC_firstFor_s σ w0 i a = _; unfold sC_firstFor_s; rw [if_neg ha0, if_neg c6_, if_neg c7_, if_pos c8_] <;> rfl) hA (by rw [tk_some ha0]; exact (lv_sub hl [2, 3, 4, 0] rfl))
              · refine lv_aload hx hb dX0_firstFor_54 (lv_at hl 0 rfl) ?_
                refine lv_astore_n (lv' := [(2, .ref (ad (((nI (i + 1)) - 1).toNatClampNeg))), (4, .ref (ad (((nI (i + 1)) - 1).toNatClampNeg))), (0, .ref h), (1, .ref (wd w0)), (3, .int (nI (i + 1)))]) hx hb dX0_firstFor_56 rfl hl (by decide) rfl (fun ls hl => ?_)
                refine lv_iinc (v := nI (i + 1 + 1)) (lv' := [(3, .int (nI (i + 1 + 1))), (2, .ref (ad (((nI (i + 1)) - 1).toNatClampNeg))), (4, .ref (ad (((nI (i + 1)) - 1).toNatClampNeg))), (0, .ref h), (1, .ref (wd w0))]) hx hb dX0_firstFor_57 hl (k := 4) rfl (nI_1 _) (by decide) rfl (fun ls hl => ?_)
                refine lv_goto (tgt := 4) hx hb dX0_firstFor_60 (by decide) ?_
                exact ih (i + 1) (nI ((((nI (i + 1)) - 1).toNatClampNeg) + 1)) ls hlt (by omega) (by show sC_firstFor_s σ w0 i (sC_firstFor_F σ w0 i) = _; rw [hF]; show sC_firstFor_s σ w0 i a = _; unfold sC_firstFor_s; rw [if_neg ha0, if_neg c6_, if_neg c7_, if_neg c8_] <;> rfl) (Or.inr ⟨_, lt_g hI hNc hlt, rfl⟩) (by rw [tk_put (lt_g hI hNc hlt) hI]; exact (lv_sub hl [3, 4, 1, 0] rfl))
  exact key (N + 1) 0 0 ls (Nat.zero_le _) (by omega) rfl (Or.inl rfl) (by rw [tk_none rfl]; exact (lv_sub hl [2, 3, 1, 0] rfl))
