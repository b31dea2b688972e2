set_option maxHeartbeats 4000000 in
set_option maxRecDepth 100000 in
theorem c_C_end (l : Launch) (dC : Nat → ClassId) (dI : Nat → Nat → Nat) (cI cZ cO cW : ClassId) (z : Nat) (X : va_W) (h : Nat) (adr ad wd : Nat → Nat) (nO nW : Nat) (σ : T2) (p0 : Int32) (hI : cInv nO nW σ) : Met l yX0_end wsX0_end ({ frames := 3, cells := 0, slots := 0, locals := 63 }) (wPc (dC, dI) (tyL cI cZ cO cW) z [.ref h, .int p0] (cWd h adr ad wd nO nW cI cO cW σ ++ X)) (wQi (dC, dI) z (fun u : T2 => cWd h adr ad wd nO nW cI cO cW u ++ X) (fun r u => r = (sC_end σ p0).1 ∧ u = (sC_end σ p0).2)) 0 0 (fun q => z ≤ q) := by
  refine en_met (cc := cX0_end) (maxL := 5) (ret := (some .int)) (by decide) rfl (Nat.le_of_ble_eq_true rfl) ?_
  intro p e s m below meth c ls hx hb hml hr hts hown hlocks hnm hv hl
  obtain ⟨hz, hP, hK, hD⟩ := hv
  have hown : s.vm.findClass RX0 = some m.cls := hown
  have hS : va_S (fun q : Nat => z ≤ q) s.heap s.heap [] := va_S.rf
  have hin0 : ∀ w ∈ wsX00, w ∈ wsX0_end := by decide +kernel
  have hin1 : ∀ w ∈ wsX10, w ∈ wsX0_end := by decide +kernel
  have hl : lv_has ls 5 [(0, .ref h), (1, .int p0)] := hl
  refine lv_iconst (v := 0) hx hb dX0_end_0 (by decide) ?_
  refine lv_istore_n (lv' := [(2, .int 0), (0, .ref h), (1, .int p0)]) hx hb dX0_end_1 rfl hl (by decide) rfl (fun ls hl => ?_)
  refine lv_iconst (v := 1) hx hb dX0_end_2 (by decide) ?_
  refine lv_istore_n (lv' := [(3, .int 1), (2, .int 0), (0, .ref h), (1, .int p0)]) hx hb dX0_end_3 rfl hl (by decide) rfl (fun ls hl => ?_)
  obtain ⟨N, hNc⟩ : ∃ N : Nat, N = (σ 3 0).toNatClampNeg := ⟨_, rfl⟩
  have hN := cN_out hI
  rw [← hNc] at hN
  have key : ∀ (n i : Nat) (a : Int32) (σ1 : T2) (H : Heap) (locs : List Loc) (ls : Array Slot), i ≤ N → N - i < n → sC_end_F σ p0 i = (a, σ1) → va_P (dC, dI) vwCl (cWd h adr ad wd nO nW cI cO cW σ1 ++ X) H → va_D (fun q : Nat => z ≤ q) (cWd h adr ad wd nO nW cI cO cW σ1 ++ X) → va_S (fun q : Nat => z ≤ q) s.heap H locs → σ1 3 0 = nI N → lv_has ls 5 [(0, .ref h), (1, .int p0), (2, .int a), (3, .int (nI (i + 1)))] → W p l e ({ frames := 3, cells := 0, slots := 0, locals := 63 }) s m ([.ref h, .int p0] : List Value).toArray below meth c H locs 0 0 (MQ below (wQi (dC, dI) z (fun u : T2 => cWd h adr ad wd nO nW cI cO cW u ++ X) (fun r u => r = (sC_end σ p0).1 ∧ u = (sC_end σ p0).2)) ([.ref h, .int p0] : List Value).toArray s 0 0 (fun q => z ≤ q)) (F0 m 4 ls []) := by
    intro n
    induction n with
    | zero => intro i a σ1 H locs ls hi hn; exact absurd hn (Nat.not_lt_zero _)
    | succ n ih =>
      intro i a σ1 H locs ls hi hn hF hP hD hS hN1 hl
      refine lv_iload_n hx hb dX0_end_4 rfl (lv_at hl 3 rfl) ?_
      refine lv_aload_n hx hb dX0_end_5 rfl (lv_at hl 0 rfl) ?_
      refine va_get (v := .int (σ1 3 0)) (D := (dC, dI)) (ci := 0) (C := RX0) (T := TX0) (N := 13) hx hb hts hin0 hown hK hP 0 rfl rfl 3 (by decide) (hts (.fieldLink RX0 93 RX0 "outputCount" "I") (by decide +kernel)) (fun _ h9 => h9) rfl dX0_end_6 ?_
      refine lv_icmp_gt (tgt := 57) hx hb dX0_end_9 (by decide) (fun c2_ => ?_) (fun c2_ => ?_)
      · have hiN : i = N := lg_out hN1 hN.2 (by decide) hi c2_
        subst hiN
        refine lv_iload_n hx hb dX0_end_57 rfl (lv_at hl 2 rfl) ?_
        exact w_iret (v := a) (u := σ1) hx hb hr hlocks hP hD hS dX0_end_58 (wpair (by unfold sC_end; rw [← hNc, hF]; show _ = sC_end_x σ p0 a σ1; unfold sC_end_x; rfl))
      · have hlt : i < N := lg_in hN1 hN.2 (by decide) hi c2_
        refine lv_aload_n hx hb dX0_end_12 rfl (lv_at hl 0 rfl) ?_
        refine lv_iload_n hx hb dX0_end_13 rfl (lv_at hl 3 rfl) ?_
        refine va_csq (W.runV (As := [.int (nI (i + 1))]) (rest := []) ⟨hx, hb, hml, hown, hts⟩ (c_C_outputOf l dC dI cI cZ cO cW z X h adr ad wd nO nW σ1 (nI (i + 1)) (oi_l hI hNc hN1)) (cwV 1 hts gX0_end_X0_outputOf rfl rfl rfl (by decide +kernel) ⟨Nat.le_of_ble_eq_true rfl, Nat.le_of_ble_eq_true rfl⟩) (wPreV (Nat.le_trans hz hS.1) hP hK hD (va_recv hK hP (ci := 0) (q0 := 0) rfl rfl)) rfl rfl hl.1 rfl (lv_room (Nat.le_of_ble_eq_true rfl)) dX0_end_14 ⟨Nat.le_of_ble_eq_true rfl, Nat.le_of_ble_eq_true rfl⟩) (fun r e_ => ?_)
        subst e_
        rw [oo_some (iw_l hN1 hN.2 hlt)]
        refine W.eq (g2 := F0 m 17 ls [.ref (ad (((nI (i + 1)) - 1).toNatClampNeg))]) rfl ?_
        refine lv_astore (lv' := [(4, .ref (ad (((nI (i + 1)) - 1).toNatClampNeg))), (0, .ref h), (1, .int p0), (2, .int a), (3, .int (nI (i + 1)))]) hx hb dX0_end_17 hl (by decide) rfl (fun ls hl => ?_)
        refine lv_aload hx hb dX0_end_19 (lv_at hl 0 rfl) ?_
        refine lv_ifnull hx hb dX0_end_21 ?_
        refine lv_aload hx hb dX0_end_24 (lv_at hl 0 rfl) ?_
        refine va_get (v := .int (σ1 21 (((nI (i + 1)) - 1).toNatClampNeg))) (D := (dC, dI)) (ci := 1) (C := RX1) (T := TX1) (N := 13) hx hb hts hin1 hown hK hP (6 + (((nI (i + 1)) - 1).toNatClampNeg)) (cw_out (lt_g hI hNc hlt)) rfl 1 (by decide) (hts (.fieldLink RX0 96 RX1 "job" "I") (by decide +kernel)) (fun _ h9 => h9) rfl dX0_end_26 ?_
        refine lv_iload_n hx hb dX0_end_29 rfl (lv_at hl 2 rfl) ?_
        refine lv_icmp_ne (tgt := 51) hx hb dX0_end_30 (by decide) (fun c3_ => ?_) (fun c3_ => ?_)
        · refine lv_iinc (v := nI (i + 1 + 1)) (lv' := [(3, .int (nI (i + 1 + 1))), (4, .ref (ad (((nI (i + 1)) - 1).toNatClampNeg))), (0, .ref h), (1, .int p0), (2, .int a)]) hx hb dX0_end_51 hl (k := 4) rfl (nI_1 _) (by decide) rfl (fun ls hl => ?_)
          refine lv_goto (tgt := 4) hx hb dX0_end_54 (by decide) ?_
          exact ih (i + 1) a σ1 H locs ls hlt (by omega) (by show sC_end_s σ p0 i (sC_end_F σ p0 i).1 (sC_end_F σ p0 i).2 = _; rw [hF]; show sC_end_s σ p0 i a σ1 = _; unfold sC_end_s; rw [if_neg c3_] <;> rfl) hP hD hS hN1 (lv_sub hl [2, 3, 4, 0] rfl)
        · refine lv_aload hx hb dX0_end_33 (lv_at hl 0 rfl) ?_
          refine va_get (v := .int (σ1 26 (((nI (i + 1)) - 1).toNatClampNeg))) (D := (dC, dI)) (ci := 1) (C := RX1) (T := TX1) (N := 13) hx hb hts hin1 hown hK hP (6 + (((nI (i + 1)) - 1).toNatClampNeg)) (cw_out (lt_g hI hNc hlt)) rfl 6 (by decide) (hts (.fieldLink RX0 68 RX1 "state" "I") (by decide +kernel)) (fun _ h9 => h9) rfl dX0_end_35 ?_
          refine lv_iconst (v := 1) hx hb dX0_end_38 (by decide) ?_
          refine lv_icmp_ne (tgt := 51) hx hb dX0_end_39 (by decide) (fun c4_ => ?_) (fun c4_ => ?_)
          · refine lv_iinc (v := nI (i + 1 + 1)) (lv' := [(3, .int (nI (i + 1 + 1))), (4, .ref (ad (((nI (i + 1)) - 1).toNatClampNeg))), (0, .ref h), (1, .int p0), (2, .int a)]) hx hb dX0_end_51 hl (k := 4) rfl (nI_1 _) (by decide) rfl (fun ls hl => ?_)
            refine lv_goto (tgt := 4) hx hb dX0_end_54 (by decide) ?_
            exact ih (i + 1) a σ1 H locs ls hlt (by omega) (by show sC_end_s σ p0 i (sC_end_F σ p0 i).1 (sC_end_F σ p0 i).2 = _; rw [hF]; show sC_end_s σ p0 i a σ1 = _; unfold sC_end_s; rw [if_pos c3_, if_neg c4_] <;> rfl) hP hD hS hN1 (lv_sub hl [2, 3, 4, 0] rfl)
          · refine lv_iinc (v := a + 1) (lv' := [(2, .int (a + 1)), (4, .ref (ad (((nI (i + 1)) - 1).toNatClampNeg))), (0, .ref h), (1, .int p0), (3, .int (nI (i + 1)))]) hx hb dX0_end_42 hl (k := 3) rfl (by rfl) (by decide) rfl (fun ls hl => ?_)
            refine lv_aload_n hx hb dX0_end_45 rfl (lv_at hl 2 rfl) ?_
            refine lv_aload hx hb dX0_end_46 (lv_at hl 1 rfl) ?_
            refine w_callv (va_runV (As := [.ref (ad (((nI (i + 1)) - 1).toNatClampNeg))]) (rest := []) ⟨hx, hb, hml, hown, hts⟩ (c_C_releaseOrPurge l dC dI cI cZ cO cW z X h adr ad wd nO nW σ1 (((nI (i + 1)) - 1).toNatClampNeg) (lt_g hI hNc hlt)) (cwV 1 hts gX0_end_X0_releaseOrPurge rfl rfl rfl (by decide +kernel) ⟨Nat.le_of_ble_eq_true rfl, Nat.le_of_ble_eq_true rfl⟩) (wPreV (Nat.le_trans hz hS.1) hP hK hD (va_recv hK hP (ci := 0) (q0 := 0) rfl rfl)) rfl rfl hl.1 rfl (lv_room (Nat.le_of_ble_eq_true rfl)) dX0_end_48 ⟨Nat.le_of_ble_eq_true rfl, Nat.le_of_ble_eq_true rfl⟩) hS (fun u H locs e_ hP hD hS => ?_)
            subst e_
            have hP : va_P (dC, dI) vwCl (cWd h adr ad wd nO nW cI cO cW (sC_releaseOrPurge σ1 (((nI (i + 1)) - 1).toNatClampNeg)) ++ X) H := hP
            have hD : va_D (fun q : Nat => z ≤ q) (cWd h adr ad wd nO nW cI cO cW (sC_releaseOrPurge σ1 (((nI (i + 1)) - 1).toNatClampNeg)) ++ X) := hD
            refine lv_iinc (v := nI (i + 1 + 1)) (lv' := [(3, .int (nI (i + 1 + 1))), (2, .int (a + 1)), (4, .ref (ad (((nI (i + 1)) - 1).toNatClampNeg))), (0, .ref h), (1, .int p0)]) hx hb dX0_end_51 hl (k := 4) rfl (nI_1 _) (by decide) rfl (fun ls hl => ?_)
            refine lv_goto (tgt := 4) hx hb dX0_end_54 (by decide) ?_
            exact ih (i + 1) (a + 1) (sC_releaseOrPurge σ1 (((nI (i + 1)) - 1).toNatClampNeg)) H locs ls hlt (by omega) (by show sC_end_s σ p0 i (sC_end_F σ p0 i).1 (sC_end_F σ p0 i).2 = _; rw [hF]; show sC_end_s σ p0 i a σ1 = _; unfold sC_end_s; rw [if_pos c3_, if_pos c4_] <;> rfl) hP hD hS (by rw [rp_3]; exact hN1) (lv_sub hl [3, 4, 1, 0] rfl)
  exact key (N + 1) 0 0 σ _ _ ls (Nat.zero_le _) (by omega) rfl hP hD hS hN.1 (lv_sub hl [2, 3, 1, 0] rfl)
set_option maxHeartbeats 4000000 in
set_option maxRecDepth 100000 in
theorem c_C_next (l : Launch) (dC : Nat → ClassId) (dI : Nat → Nat → Nat) (cI cZ cO cW : ClassId) (z : Nat) (X : va_W) (h : Nat) (adr ad wd : Nat → Nat) (nO nW : Nat) (σ : T2) (p0 : Int32) (hI : cInv nO nW σ) : Met l yX0_next wsX0_next ({ frames := 3, cells := 0, slots := 0, locals := 67 }) (wPc (dC, dI) (tyL cI cZ cO cW) z [.ref h, .int p0] (cWd h adr ad wd nO nW cI cO cW σ ++ X)) (wQi (dC, dI) z (fun u : T2 => cWd h adr ad wd nO nW cI cO cW u ++ X) (fun r u => r = (sC_next σ p0).1 ∧ u = (sC_next σ p0).2)) 0 0 (fun q => z ≤ q) := by
  refine en_met (cc := cX0_next) (maxL := 4) (ret := (some .int)) (by decide) rfl (Nat.le_of_ble_eq_true rfl) ?_
  intro p e s m below meth c ls hx hb hml hr hts hown hlocks hnm hv hl
  obtain ⟨hz, hP, hK, hD⟩ := hv
  have hown : s.vm.findClass RX0 = some m.cls := hown
  have hS : va_S (fun q : Nat => z ≤ q) s.heap s.heap [] := va_S.rf
  have hin1 : ∀ w ∈ wsX10, w ∈ wsX0_next := by decide +kernel
  have hin2 : ∀ w ∈ wsX20, w ∈ wsX0_next := by decide +kernel
  have hl : lv_has ls 4 [(0, .ref h), (1, .int p0)] := hl
  refine lv_aload_n hx hb dX0_next_0 rfl (lv_at hl 0 rfl) ?_
  refine lv_iload_n hx hb dX0_next_1 rfl (lv_at hl 1 rfl) ?_
  refine va_csq (W.runV (As := [.int p0]) (rest := []) ⟨hx, hb, hml, hown, hts⟩ (c_C_writerOf l dC dI cI cZ cO cW z X h adr ad wd nO nW σ p0 hI) (cwV 1 hts gX0_next_X0_writerOf rfl rfl rfl (by decide +kernel) ⟨Nat.le_of_ble_eq_true rfl, Nat.le_of_ble_eq_true rfl⟩) (wPreV (Nat.le_trans hz hS.1) hP hK hD (va_recv hK hP (ci := 0) (q0 := 0) rfl rfl)) rfl rfl hl.1 rfl (lv_room (Nat.le_of_ble_eq_true rfl)) dX0_next_2 ⟨Nat.le_of_ble_eq_true rfl, Nat.le_of_ble_eq_true rfl⟩) (fun r e_ => ?_)
  subst e_
  by_cases c1_ : (sC_isWithin p0 1 (σ 5 0)) = 0
  · rw [qq_none c1_]
    refine W.eq (g2 := F0 m 5 ls [.null]) rfl ?_
    refine lv_astore_nN (lv' := [(2, .null), (0, .ref h), (1, .int p0)]) hx hb dX0_next_5 rfl hl (by decide) rfl (fun ls hl => ?_)
    refine lv_aload_nN hx hb dX0_next_6 rfl (lv_at hl 0 rfl) ?_
    refine lv_ifnonnullN hx hb dX0_next_7 ?_
    refine lv_iconst (v := (-1)) hx hb dX0_next_10 (by decide) ?_
    exact w_iret (v := (-1)) (u := σ) hx hb hr hlocks hP hD hS dX0_next_11 (wpair (by unfold sC_next; rw [if_pos c1_] <;> rfl))
  · rw [qq_some c1_]
    refine W.eq (g2 := F0 m 5 ls [.ref (wd ((p0 - 1).toNatClampNeg))]) rfl ?_
    refine lv_astore_n (lv' := [(2, .ref (wd ((p0 - 1).toNatClampNeg))), (0, .ref h), (1, .int p0)]) hx hb dX0_next_5 rfl hl (by decide) rfl (fun ls hl => ?_)
    refine lv_aload_n hx hb dX0_next_6 rfl (lv_at hl 0 rfl) ?_
    refine lv_ifnonnull (tgt := 12) hx hb dX0_next_7 (by decide) ?_
    refine lv_aload_n hx hb dX0_next_12 rfl (lv_at hl 0 rfl) ?_
    refine va_get (v := va_rf (tk ad (σ 42 ((p0 - 1).toNatClampNeg)))) (D := (dC, dI)) (ci := 2) (C := RX2) (T := TX2) (N := 3) hx hb hts hin2 hown hK hP (6 + nO + ((p0 - 1).toNatClampNeg)) (cw_wr (qq_lt hI c1_)) rfl 2 (by decide) (hts (.fieldLink RX0 125 RX2 "taken" "LSpoolRows$Output;") (by decide +kernel)) (fun _ h9 => h9) rfl dX0_next_13 ?_
    by_cases c2_ : (σ 42 ((p0 - 1).toNatClampNeg)) = 0
    · rw [tk_none c2_]
      refine W.eq (g2 := F0 m 16 ls [.null]) rfl ?_
      refine lv_ifnullN (tgt := 22) hx hb dX0_next_16 (by decide) ?_
      refine lv_aload_n hx hb dX0_next_22 rfl (lv_at hl 1 rfl) ?_
      refine lv_aload_n hx hb dX0_next_23 rfl (lv_at hl 0 rfl) ?_
      refine va_csq (W.runV (As := [.ref (wd ((p0 - 1).toNatClampNeg))]) (rest := []) ⟨hx, hb, hml, hown, hts⟩ (c_C_firstFor l dC dI cI cZ cO cW z X h adr ad wd nO nW σ ((p0 - 1).toNatClampNeg) (qq_lt hI c1_) hI) (cwV 1 hts gX0_next_X0_firstFor rfl rfl rfl (by decide +kernel) ⟨Nat.le_of_ble_eq_true rfl, Nat.le_of_ble_eq_true rfl⟩) (wPreV (Nat.le_trans hz hS.1) hP hK hD (va_recv hK hP (ci := 0) (q0 := 0) rfl rfl)) rfl rfl hl.1 rfl (lv_room (Nat.le_of_ble_eq_true rfl)) dX0_next_24 ⟨Nat.le_of_ble_eq_true rfl, Nat.le_of_ble_eq_true rfl⟩) (fun r e_ => ?_)
      subst e_
      by_cases c3_ : (sC_firstFor σ ((p0 - 1).toNatClampNeg)) = 0
      · rw [tk_none c3_]
        refine W.eq (g2 := F0 m 27 ls [.null]) rfl ?_
        refine lv_astore_nN (lv' := [(3, .null), (2, .ref (wd ((p0 - 1).toNatClampNeg))), (0, .ref h), (1, .int p0)]) hx hb dX0_next_27 rfl hl (by decide) rfl (fun ls hl => ?_)
        refine lv_aload_nN hx hb dX0_next_28 rfl (lv_at hl 0 rfl) ?_
        refine lv_ifnonnullN hx hb dX0_next_29 ?_
        refine lv_iconst (v := 0) hx hb dX0_next_32 (by decide) ?_
        exact w_iret (v := 0) (u := σ) hx hb hr hlocks hP hD hS dX0_next_33 (wpair (by unfold sC_next; rw [if_neg c1_, if_pos c2_, if_pos c3_] <;> rfl))
      · rw [tk_some c3_]
        refine W.eq (g2 := F0 m 27 ls [.ref (ad (((sC_firstFor σ ((p0 - 1).toNatClampNeg)) - 1).toNatClampNeg))]) rfl ?_
        refine lv_astore_n (lv' := [(3, .ref (ad (((sC_firstFor σ ((p0 - 1).toNatClampNeg)) - 1).toNatClampNeg))), (2, .ref (wd ((p0 - 1).toNatClampNeg))), (0, .ref h), (1, .int p0)]) hx hb dX0_next_27 rfl hl (by decide) rfl (fun ls hl => ?_)
        refine lv_aload_n hx hb dX0_next_28 rfl (lv_at hl 0 rfl) ?_
        refine lv_ifnonnull (tgt := 34) hx hb dX0_next_29 (by decide) ?_
        refine lv_aload_n hx hb dX0_next_34 rfl (lv_at hl 0 rfl) ?_
        refine lv_iconst (v := 3) hx hb dX0_next_35 (by decide) ?_
        refine va_put (D := (dC, dI)) (ci := 1) (v := .int 3) (ty := .int) (C := RX1) (T := TX1) (N := 13) hx hb hts hin1 tyX1 tyX1_ok nmX1 hown hK hP hD hS (6 + (((sC_firstFor σ ((p0 - 1).toNatClampNeg)) - 1).toNatClampNeg)) (cw_out (ff_lt hI c3_)) rfl 6 (by decide) (hts (.fieldLink RX0 68 RX1 "state" "I") (by decide +kernel)) (fun _ h9 => h9) rfl (by decide +kernel) rfl rfl (Nat.le_of_ble_eq_true rfl) dX0_next_36 (fun H locs hP hD hS => ?_)
        have hP : va_P (dC, dI) vwCl (cWd h adr ad wd nO nW cI cO cW (upd2 σ 26 (((sC_firstFor σ ((p0 - 1).toNatClampNeg)) - 1).toNatClampNeg) 3) ++ X) H := by rw [← cw_set_out (k := 6) rfl (by decide) (ff_lt hI c3_)]; exact hP
        have hD : va_D (fun q : Nat => z ≤ q) (cWd h adr ad wd nO nW cI cO cW (upd2 σ 26 (((sC_firstFor σ ((p0 - 1).toNatClampNeg)) - 1).toNatClampNeg) 3) ++ X) := by rw [← cw_set_out (k := 6) rfl (by decide) (ff_lt hI c3_)]; exact hD
        refine lv_aload_n hx hb dX0_next_39 rfl (lv_at hl 1 rfl) ?_
        refine lv_aload_n hx hb dX0_next_40 rfl (lv_at hl 0 rfl) ?_
        refine va_put (D := (dC, dI)) (ci := 2) (v := .ref (ad (((sC_firstFor σ ((p0 - 1).toNatClampNeg)) - 1).toNatClampNeg))) (ty := .object "SpoolRows$Output") (C := RX2) (T := TX2) (N := 3) hx hb hts hin2 tyX2 tyX2_ok nmX2 hown hK hP hD hS (6 + nO + ((p0 - 1).toNatClampNeg)) (cw_wr (qq_lt hI c1_)) rfl 2 (by decide) (hts (.fieldLink RX0 125 RX2 "taken" "LSpoolRows$Output;") (by decide +kernel)) (fun _ h9 => h9) rfl (by decide +kernel) rfl rfl (Nat.le_of_ble_eq_true rfl) dX0_next_41 (fun H locs hP hD hS => ?_)
        have hP : va_P (dC, dI) vwCl (cWd h adr ad wd nO nW cI cO cW (upd2 (upd2 σ 26 (((sC_firstFor σ ((p0 - 1).toNatClampNeg)) - 1).toNatClampNeg) 3) 42 ((p0 - 1).toNatClampNeg) (nI ((((sC_firstFor σ ((p0 - 1).toNatClampNeg)) - 1).toNatClampNeg) + 1))) ++ X) H := by rw [← cw_setT (v := some (ad (((sC_firstFor σ ((p0 - 1).toNatClampNeg)) - 1).toNatClampNeg))) (qq_lt hI c1_) (tk_put (ff_lt hI c3_) hI)]; exact hP
        have hD : va_D (fun q : Nat => z ≤ q) (cWd h adr ad wd nO nW cI cO cW (upd2 (upd2 σ 26 (((sC_firstFor σ ((p0 - 1).toNatClampNeg)) - 1).toNatClampNeg) 3) 42 ((p0 - 1).toNatClampNeg) (nI ((((sC_firstFor σ ((p0 - 1).toNatClampNeg)) - 1).toNatClampNeg) + 1))) ++ X) := by rw [← cw_setT (v := some (ad (((sC_firstFor σ ((p0 - 1).toNatClampNeg)) - 1).toNatClampNeg))) (qq_lt hI c1_) (tk_put (ff_lt hI c3_) hI)]; exact hD
        refine lv_aload_n hx hb dX0_next_44 rfl (lv_at hl 0 rfl) ?_
        refine va_get (v := .int (σ 20 (((sC_firstFor σ ((p0 - 1).toNatClampNeg)) - 1).toNatClampNeg))) (D := (dC, dI)) (ci := 1) (C := RX1) (T := TX1) (N := 13) hx hb hts hin1 hown hK hP (6 + (((sC_firstFor σ ((p0 - 1).toNatClampNeg)) - 1).toNatClampNeg)) (cw_out (ff_lt hI c3_)) rfl 0 (by decide) (hts (.fieldLink RX0 60 RX1 "number" "I") (by decide +kernel)) (fun _ h9 => h9) rfl dX0_next_45 ?_
        exact w_iret (v := σ 20 (((sC_firstFor σ ((p0 - 1).toNatClampNeg)) - 1).toNatClampNeg)) (u := upd2 (upd2 σ 26 (((sC_firstFor σ ((p0 - 1).toNatClampNeg)) - 1).toNatClampNeg) 3) 42 ((p0 - 1).toNatClampNeg) (nI ((((sC_firstFor σ ((p0 - 1).toNatClampNeg)) - 1).toNatClampNeg) + 1))) hx hb hr hlocks hP hD hS dX0_next_48 (wpair (by unfold sC_next; rw [if_neg c1_, if_pos c2_, if_neg c3_] <;> rfl))
    · rw [tk_some c2_]
      refine W.eq (g2 := F0 m 16 ls [.ref (ad ((σ 42 ((p0 - 1).toNatClampNeg)) - 1).toNatClampNeg)]) rfl ?_
      refine lv_ifnull hx hb dX0_next_16 ?_
      refine lv_bipush (v := (-2)) hx hb dX0_next_19 (by decide) ?_
      exact w_iret (v := (-2)) (u := σ) hx hb hr hlocks hP hD hS dX0_next_21 (wpair (by unfold sC_next; rw [if_neg c1_, if_neg c2_] <;> rfl))
