set_option maxHeartbeats 4000000 in
set_option maxRecDepth 100000 in
theorem c_M_cut (l : Launch) (dC : Nat → ClassId) (dI : Nat → Nat → Nat) (cI cZ cO cW : ClassId) (z : Nat) (X : va_W) (h : Nat) (adr : Nat → Nat) (τ : T2) (p0 : Int32) (hI : mInv τ) : Met l yX3_cut wsX3_cut ({ frames := 1, cells := 0, slots := 0, locals := 22 }) (wPc (dC, dI) (tyL cI cZ cO cW) z [.ref h, .int p0] (mW h adr cI cZ τ ++ X)) (wQi (dC, dI) z (fun u : T2 => mW h adr cI cZ u ++ X) (fun r u => r = (sM_cut τ p0).1 ∧ u = (sM_cut τ p0).2)) 0 0 (fun q => z ≤ q) := by
  refine en_met (cc := cX3_cut) (maxL := 4) (ret := (some .int)) (by decide) rfl (Nat.le_of_ble_eq_true rfl) ?_
  intro p e s m below meth c ls hx hb hml hr hts hown hlocks hnm hv hl
  obtain ⟨hz, hP, hK, hD⟩ := hv
  have hown : s.vm.findClass RX3 = some m.cls := hown
  have hin : ∀ w ∈ wsX30, w ∈ wsX3_cut := by decide +kernel
  have hS : va_S (fun q : Nat => z ≤ q) s.heap s.heap [] := va_S.rf
  have hl : lv_has ls 4 [(0, .ref h), (1, .int p0)] := hl
  refine lv_aload_n hx hb dX3_cut_0 rfl (lv_at hl 0 rfl) ?_
  refine lv_iload_n hx hb dX3_cut_1 rfl (lv_at hl 1 rfl) ?_
  refine vp_callSi (W.runV (As := [.int p0]) (rest := []) ⟨hx, hb, hml, hown, hts⟩ (c_M_isWriter l dC dI cI cZ cO cW z X h adr τ p0) (cwV 1 hts gX3_cut_X3_isWriter rfl rfl rfl (by decide +kernel) ⟨Nat.le_of_ble_eq_true rfl, Nat.le_of_ble_eq_true rfl⟩) (wPreV (Nat.le_trans hz hS.1) hP hK hD (va_recv hK hP (ci := 3) (q0 := 0) rfl rfl)) rfl rfl hl.1 rfl (lv_room (Nat.le_of_ble_eq_true rfl)) dX3_cut_2 ⟨Nat.le_of_ble_eq_true rfl, Nat.le_of_ble_eq_true rfl⟩) (fun r e_ => ?_)
  subst e_
  refine lv_if_ne (tgt := 10) hx hb dX3_cut_5 (by decide) (fun c1_ => ?_) (fun c1_ => ?_)
  · refine lv_aload_n hx hb dX3_cut_10 rfl (lv_at hl 0 rfl) ?_
    refine va_get (D := (dC, dI)) (ci := 3) (v := .ref (adr 18)) (C := RX3) (T := TX3) (N := 24) hx hb hts hin hown hK hP 0 rfl rfl 18 (by decide) (hts (.fieldLink RX3 56 RX3 "has" "[I") (by decide +kernel)) (fun _ h9 => h9) rfl dX3_cut_11 ?_
    refine lv_iload_n hx hb dX3_cut_14 rfl (lv_at hl 1 rfl) ?_
    refine va_iald (D := (dC, dI)) (i := p0) (f := τ 18) hx hb hK hP 16 0 rfl rfl (mw_in hI c1_) dX3_cut_15 ?_
    refine lv_istore_n (lv' := [(2, .int (τ 18 p0.toNatClampNeg)), (0, .ref h), (1, .int p0)]) hx hb dX3_cut_16 rfl hl (by decide) rfl (fun ls hl => ?_)
    refine lv_iload_n hx hb dX3_cut_17 rfl (lv_at hl 0 rfl) ?_
    refine lv_if_ne (tgt := 24) hx hb dX3_cut_18 (by decide) (fun c2_ => ?_) (fun c2_ => ?_)
    · refine lv_aload_n hx hb dX3_cut_24 rfl (lv_at hl 1 rfl) ?_
      refine va_get (D := (dC, dI)) (ci := 3) (v := .ref (adr 9)) (C := RX3) (T := TX3) (N := 24) hx hb hts hin hown hK hP 0 rfl rfl 9 (by decide) (hts (.fieldLink RX3 34 RX3 "done" "[I") (by decide +kernel)) (fun _ h9 => h9) rfl dX3_cut_25 ?_
      refine lv_iload_n hx hb dX3_cut_28 rfl (lv_at hl 0 rfl) ?_
      refine va_iald (D := (dC, dI)) (i := τ 18 p0.toNatClampNeg) (f := τ 9) hx hb hK hP 9 0 rfl rfl (mh_in hI _) dX3_cut_29 ?_
      refine lv_iconst (v := 4) hx hb dX3_cut_30 (by decide) ?_
      refine lv_idiv hx hb dX3_cut_31 (by decide) ?_
      refine lv_iconst (v := 4) hx hb dX3_cut_32 (by decide) ?_
      refine lv_imul hx hb dX3_cut_33 ?_
      refine lv_istore_n (lv' := [(3, .int (((τ 9 ((τ 18 p0.toNatClampNeg).toNatClampNeg)) / 4) * 4)), (2, .int (τ 18 p0.toNatClampNeg)), (0, .ref h), (1, .int p0)]) hx hb dX3_cut_34 rfl hl (by decide) rfl (fun ls hl => ?_)
      refine lv_aload_n hx hb dX3_cut_35 rfl (lv_at hl 2 rfl) ?_
      refine va_get (D := (dC, dI)) (ci := 3) (v := .ref (adr 12)) (C := RX3) (T := TX3) (N := 24) hx hb hts hin hown hK hP 0 rfl rfl 12 (by decide) (hts (.fieldLink RX3 44 RX3 "waits" "[Z") (by decide +kernel)) (fun _ h9 => h9) rfl dX3_cut_36 ?_
      refine lv_iload_n hx hb dX3_cut_39 rfl (lv_at hl 1 rfl) ?_
      refine va_zald (D := (dC, dI)) (i := τ 18 p0.toNatClampNeg) (f := τ 12) hx hb hK hP 12 1 rfl rfl (mh_in hI _) dX3_cut_40 ?_
      refine lv_if_eq (tgt := 59) hx hb dX3_cut_41 (by decide) (fun c3_ => ?_) (fun c3_ => ?_)
      · refine lv_aload_n hx hb dX3_cut_59 rfl (lv_at hl 2 rfl) ?_
        refine lv_dup hx hb dX3_cut_60 rfl ?_
        refine va_get (D := (dC, dI)) (ci := 3) (v := .int (τ 23 0)) (C := RX3) (T := TX3) (N := 24) hx hb hts hin hown hK hP 0 rfl rfl 23 (by decide) (hts (.fieldLink RX3 113 RX3 "again" "I") (by decide +kernel)) (fun _ h9 => h9) rfl dX3_cut_61 ?_
        refine lv_aload_n hx hb dX3_cut_64 rfl (lv_at hl 2 rfl) ?_
        refine va_get (D := (dC, dI)) (ci := 3) (v := .ref (adr 9)) (C := RX3) (T := TX3) (N := 24) hx hb hts hin hown hK hP 0 rfl rfl 9 (by decide) (hts (.fieldLink RX3 34 RX3 "done" "[I") (by decide +kernel)) (fun _ h9 => h9) rfl dX3_cut_65 ?_
        refine lv_iload_n hx hb dX3_cut_68 rfl (lv_at hl 1 rfl) ?_
        refine va_iald (D := (dC, dI)) (i := τ 18 p0.toNatClampNeg) (f := τ 9) hx hb hK hP 9 0 rfl rfl (mh_in hI _) dX3_cut_69 ?_
        refine lv_iload_n hx hb dX3_cut_70 rfl (lv_at hl 0 rfl) ?_
        refine lv_isub hx hb dX3_cut_71 ?_
        refine lv_iadd hx hb dX3_cut_72 ?_
        refine va_put (D := (dC, dI)) (ci := 3) (v := .int ((τ 23 0) + ((τ 9 ((τ 18 p0.toNatClampNeg).toNatClampNeg)) - (((τ 9 ((τ 18 p0.toNatClampNeg).toNatClampNeg)) / 4) * 4)))) (ty := .int) (C := RX3) (T := TX3) (N := 24) hx hb hts hin tyX3 tyX3_ok nmX3 hown hK hP hD hS 0 rfl rfl 23 (by decide) (hts (.fieldLink RX3 113 RX3 "again" "I") (by decide +kernel)) (fun _ h9 => h9) rfl (by decide +kernel) rfl rfl (Nat.le_of_ble_eq_true rfl) dX3_cut_73 (fun H locs hP hD hS => ?_)
        have hP : va_P (dC, dI) vwCl (mW h adr cI cZ (upd2 τ 23 0 ((τ 23 0) + ((τ 9 ((τ 18 p0.toNatClampNeg).toNatClampNeg)) - (((τ 9 ((τ 18 p0.toNatClampNeg).toNatClampNeg)) / 4) * 4)))) ++ X) H := by rw [← mput_23]; exact hP
        have hD : va_D (fun q : Nat => z ≤ q) (mW h adr cI cZ (upd2 τ 23 0 ((τ 23 0) + ((τ 9 ((τ 18 p0.toNatClampNeg).toNatClampNeg)) - (((τ 9 ((τ 18 p0.toNatClampNeg).toNatClampNeg)) / 4) * 4)))) ++ X) := by rw [← mput_23]; exact hD
        refine lv_aload_n hx hb dX3_cut_76 rfl (lv_at hl 2 rfl) ?_
        refine va_get (D := (dC, dI)) (ci := 3) (v := .ref (adr 9)) (C := RX3) (T := TX3) (N := 24) hx hb hts hin hown hK hP 0 rfl rfl 9 (by decide) (hts (.fieldLink RX3 34 RX3 "done" "[I") (by decide +kernel)) (fun _ h9 => h9) rfl dX3_cut_77 ?_
        refine lv_iload_n hx hb dX3_cut_80 rfl (lv_at hl 1 rfl) ?_
        refine lv_iload_n hx hb dX3_cut_81 rfl (lv_at hl 0 rfl) ?_
        refine va_iast (D := (dC, dI)) (i := τ 18 p0.toNatClampNeg) (x := ((τ 9 ((τ 18 p0.toNatClampNeg).toNatClampNeg)) / 4) * 4) (f := (upd2 τ 23 0 ((τ 23 0) + ((τ 9 ((τ 18 p0.toNatClampNeg).toNatClampNeg)) - (((τ 9 ((τ 18 p0.toNatClampNeg).toNatClampNeg)) / 4) * 4)))) 9) hx hb hK hP hD hS 9 0 rfl rfl (mh_in hI _) dX3_cut_82 (fun H locs hP hD hS => ?_)
        have hP : va_P (dC, dI) vwCl (mW h adr cI cZ (upd2 (upd2 τ 23 0 ((τ 23 0) + ((τ 9 ((τ 18 p0.toNatClampNeg).toNatClampNeg)) - (((τ 9 ((τ 18 p0.toNatClampNeg).toNatClampNeg)) / 4) * 4)))) 9 ((τ 18 p0.toNatClampNeg).toNatClampNeg) (((τ 9 ((τ 18 p0.toNatClampNeg).toNatClampNeg)) / 4) * 4)) ++ X) H := by rw [← mput_9]; exact hP
        have hD : va_D (fun q : Nat => z ≤ q) (mW h adr cI cZ (upd2 (upd2 τ 23 0 ((τ 23 0) + ((τ 9 ((τ 18 p0.toNatClampNeg).toNatClampNeg)) - (((τ 9 ((τ 18 p0.toNatClampNeg).toNatClampNeg)) / 4) * 4)))) 9 ((τ 18 p0.toNatClampNeg).toNatClampNeg) (((τ 9 ((τ 18 p0.toNatClampNeg).toNatClampNeg)) / 4) * 4)) ++ X) := by rw [← mput_9]; exact hD
        refine lv_iload_n hx hb dX3_cut_83 rfl (lv_at hl 0 rfl) ?_
        exact w_iret (v := ((τ 9 ((τ 18 p0.toNatClampNeg).toNatClampNeg)) / 4) * 4) (u := upd2 (upd2 τ 23 0 ((τ 23 0) + ((τ 9 ((τ 18 p0.toNatClampNeg).toNatClampNeg)) - (((τ 9 ((τ 18 p0.toNatClampNeg).toNatClampNeg)) / 4) * 4)))) 9 ((τ 18 p0.toNatClampNeg).toNatClampNeg) (((τ 9 ((τ 18 p0.toNatClampNeg).toNatClampNeg)) / 4) * 4)) hx hb hr hlocks hP hD hS dX3_cut_84 (wpair (by unfold sM_cut; rw [if_neg c1_, if_neg c2_, if_pos c3_] <;> rfl))
      · refine lv_aload_n hx hb dX3_cut_44 rfl (lv_at hl 2 rfl) ?_
        refine lv_iload_n hx hb dX3_cut_45 rfl (lv_at hl 1 rfl) ?_
        refine lv_iconst (v := 5) hx hb dX3_cut_46 (by decide) ?_
        refine w_callv (va_runV (As := [.int (τ 18 p0.toNatClampNeg), .int 5]) (rest := []) ⟨hx, hb, hml, hown, hts⟩ (c_M_goes l dC dI cI cZ cO cW z X h adr τ (τ 18 p0.toNatClampNeg) 5 (mh_in hI _)) (cwV 2 hts gX3_cut_X3_goes rfl rfl rfl (by decide +kernel) ⟨Nat.le_of_ble_eq_true rfl, Nat.le_of_ble_eq_true rfl⟩) (wPreV (Nat.le_trans hz hS.1) hP hK hD (va_recv hK hP (ci := 3) (q0 := 0) rfl rfl)) rfl rfl hl.1 rfl (lv_room (Nat.le_of_ble_eq_true rfl)) dX3_cut_47 ⟨Nat.le_of_ble_eq_true rfl, Nat.le_of_ble_eq_true rfl⟩) hS (fun t4_ H locs ht4_ hP hD hS => ?_)
        have hP : va_P (dC, dI) vwCl (mW h adr cI cZ t4_ ++ X) H := hP
        have hD : va_D (fun q : Nat => z ≤ q) (mW h adr cI cZ t4_ ++ X) := hD
        refine lv_aload_n hx hb dX3_cut_50 rfl (lv_at hl 2 rfl) ?_
        refine va_get (D := (dC, dI)) (ci := 3) (v := .ref (adr 18)) (C := RX3) (T := TX3) (N := 24) hx hb hts hin hown hK hP 0 rfl rfl 18 (by decide) (hts (.fieldLink RX3 56 RX3 "has" "[I") (by decide +kernel)) (fun _ h9 => h9) rfl dX3_cut_51 ?_
        refine lv_iload_n hx hb dX3_cut_54 rfl (lv_at hl 3 rfl) ?_
        refine lv_iconst (v := 0) hx hb dX3_cut_55 (by decide) ?_
        refine va_iast (D := (dC, dI)) (i := p0) (x := 0) (f := t4_ 18) hx hb hK hP hD hS 16 0 rfl rfl (mw_in hI c1_) dX3_cut_56 (fun H locs hP hD hS => ?_)
        have hP : va_P (dC, dI) vwCl (mW h adr cI cZ (upd2 t4_ 18 p0.toNatClampNeg 0) ++ X) H := by rw [← mput_18]; exact hP
        have hD : va_D (fun q : Nat => z ≤ q) (mW h adr cI cZ (upd2 t4_ 18 p0.toNatClampNeg 0) ++ X) := by rw [← mput_18]; exact hD
        refine lv_iload_n hx hb dX3_cut_57 rfl (lv_at hl 0 rfl) ?_
        subst ht4_
        exact w_iret (v := ((τ 9 ((τ 18 p0.toNatClampNeg).toNatClampNeg)) / 4) * 4) (u := upd2 (sM_goes τ (τ 18 p0.toNatClampNeg) 5) 18 p0.toNatClampNeg 0) hx hb hr hlocks hP hD hS dX3_cut_58 (wpair (by unfold sM_cut; rw [if_neg c1_, if_neg c2_, if_neg c3_] <;> rfl))
    · refine lv_bipush (v := (-2)) hx hb dX3_cut_21 (by decide) ?_
      exact w_iret (v := (-2)) (u := τ) hx hb hr hlocks hP hD hS dX3_cut_23 (wpair (by unfold sM_cut; rw [if_neg c1_, if_pos c2_] <;> rfl))
  · refine lv_iconst (v := (-1)) hx hb dX3_cut_8 (by decide) ?_
    exact w_iret (v := (-1)) (u := τ) hx hb hr hlocks hP hD hS dX3_cut_9 (wpair (by unfold sM_cut; rw [if_pos c1_] <;> rfl))
set_option maxHeartbeats 4000000 in
set_option maxRecDepth 100000 in
theorem c_M_purge (l : Launch) (dC : Nat → ClassId) (dI : Nat → Nat → Nat) (cI cZ cO cW : ClassId) (z : Nat) (X : va_W) (h : Nat) (adr : Nat → Nat) (τ : T2) (p0 : Int32) (hI : mInv τ) : Met l yX3_purge wsX3_purge ({ frames := 1, cells := 0, slots := 0, locals := 22 }) (wPc (dC, dI) (tyL cI cZ cO cW) z [.ref h, .int p0] (mW h adr cI cZ τ ++ X)) (wQi (dC, dI) z (fun u : T2 => mW h adr cI cZ u ++ X) (fun r u => r = (sM_purge τ p0).1 ∧ u = (sM_purge τ p0).2)) 0 0 (fun q => z ≤ q) := by
  refine en_met (cc := cX3_purge) (maxL := 2) (ret := (some .int)) (by decide) rfl (Nat.le_of_ble_eq_true rfl) ?_
  intro p e s m below meth c ls hx hb hml hr hts hown hlocks hnm hv hl
  obtain ⟨hz, hP, hK, hD⟩ := hv
  have hown : s.vm.findClass RX3 = some m.cls := hown
  have hin : ∀ w ∈ wsX30, w ∈ wsX3_purge := by decide +kernel
  have hS : va_S (fun q : Nat => z ≤ q) s.heap s.heap [] := va_S.rf
  have hl : lv_has ls 2 [(0, .ref h), (1, .int p0)] := hl
  refine lv_aload_n hx hb dX3_purge_0 rfl (lv_at hl 0 rfl) ?_
  refine lv_iload_n hx hb dX3_purge_1 rfl (lv_at hl 1 rfl) ?_
  refine vp_callSi (W.runV (As := [.int p0]) (rest := []) ⟨hx, hb, hml, hown, hts⟩ (c_M_isOutput l dC dI cI cZ cO cW z X h adr τ p0) (cwV 1 hts gX3_purge_X3_isOutput rfl rfl rfl (by decide +kernel) ⟨Nat.le_of_ble_eq_true rfl, Nat.le_of_ble_eq_true rfl⟩) (wPreV (Nat.le_trans hz hS.1) hP hK hD (va_recv hK hP (ci := 3) (q0 := 0) rfl rfl)) rfl rfl hl.1 rfl (lv_room (Nat.le_of_ble_eq_true rfl)) dX3_purge_2 ⟨Nat.le_of_ble_eq_true rfl, Nat.le_of_ble_eq_true rfl⟩) (fun r e_ => ?_)
  subst e_
  refine lv_if_ne (tgt := 10) hx hb dX3_purge_5 (by decide) (fun c1_ => ?_) (fun c1_ => ?_)
  · refine lv_aload_n hx hb dX3_purge_10 rfl (lv_at hl 0 rfl) ?_
    refine lv_iload_n hx hb dX3_purge_11 rfl (lv_at hl 1 rfl) ?_
    refine vp_callSi (W.runV (As := [.int p0]) (rest := []) ⟨hx, hb, hml, hown, hts⟩ (c_M_isGone l dC dI cI cZ cO cW z X h adr τ p0 (mo_in hI c1_)) (cwV 1 hts gX3_purge_X3_isGone rfl rfl rfl (by decide +kernel) ⟨Nat.le_of_ble_eq_true rfl, Nat.le_of_ble_eq_true rfl⟩) (wPreV (Nat.le_trans hz hS.1) hP hK hD (va_recv hK hP (ci := 3) (q0 := 0) rfl rfl)) rfl rfl hl.1 rfl (lv_room (Nat.le_of_ble_eq_true rfl)) dX3_purge_12 ⟨Nat.le_of_ble_eq_true rfl, Nat.le_of_ble_eq_true rfl⟩) (fun r e_ => ?_)
    subst e_
    refine lv_if_eq (tgt := 21) hx hb dX3_purge_15 (by decide) (fun c2_ => ?_) (fun c2_ => ?_)
    · refine lv_aload_n hx hb dX3_purge_21 rfl (lv_at hl 0 rfl) ?_
      refine va_get (D := (dC, dI)) (ci := 3) (v := .ref (adr 6)) (C := RX3) (T := TX3) (N := 24) hx hb hts hin hown hK hP 0 rfl rfl 6 (by decide) (hts (.fieldLink RX3 25 RX3 "states" "[I") (by decide +kernel)) (fun _ h9 => h9) rfl dX3_purge_22 ?_
      refine lv_iload_n hx hb dX3_purge_25 rfl (lv_at hl 1 rfl) ?_
      refine va_iald (D := (dC, dI)) (i := p0) (f := τ 6) hx hb hK hP 6 0 rfl rfl (mo_in hI c1_) dX3_purge_26 ?_
      refine lv_iconst (v := 3) hx hb dX3_purge_27 (by decide) ?_
      refine lv_icmp_ne (tgt := 40) hx hb dX3_purge_28 (by decide) (fun c3_ => ?_) (fun c3_ => ?_)
      · refine lv_aload_n hx hb dX3_purge_40 rfl (lv_at hl 0 rfl) ?_
        refine lv_iload_n hx hb dX3_purge_41 rfl (lv_at hl 1 rfl) ?_
        refine lv_iconst (v := 5) hx hb dX3_purge_42 (by decide) ?_
        refine w_callv (va_runV (As := [.int p0, .int 5]) (rest := []) ⟨hx, hb, hml, hown, hts⟩ (c_M_goes l dC dI cI cZ cO cW z X h adr τ p0 5 (mo_in hI c1_)) (cwV 2 hts gX3_purge_X3_goes rfl rfl rfl (by decide +kernel) ⟨Nat.le_of_ble_eq_true rfl, Nat.le_of_ble_eq_true rfl⟩) (wPreV (Nat.le_trans hz hS.1) hP hK hD (va_recv hK hP (ci := 3) (q0 := 0) rfl rfl)) rfl rfl hl.1 rfl (lv_room (Nat.le_of_ble_eq_true rfl)) dX3_purge_43 ⟨Nat.le_of_ble_eq_true rfl, Nat.le_of_ble_eq_true rfl⟩) hS (fun u H locs e_ hP hD hS => ?_)
        subst e_
        have hP : va_P (dC, dI) vwCl (mW h adr cI cZ (sM_goes τ p0 5) ++ X) H := hP
        have hD : va_D (fun q : Nat => z ≤ q) (mW h adr cI cZ (sM_goes τ p0 5) ++ X) := hD
        refine lv_iconst (v := 1) hx hb dX3_purge_46 (by decide) ?_
        exact w_iret (v := 1) (u := (sM_goes τ p0 5)) hx hb hr hlocks hP hD hS dX3_purge_47 (wpair (by unfold sM_purge; rw [if_neg c1_, if_pos c2_, if_neg c3_] <;> rfl))
      · refine lv_aload_n hx hb dX3_purge_31 rfl (lv_at hl 0 rfl) ?_
        refine va_get (D := (dC, dI)) (ci := 3) (v := .ref (adr 12)) (C := RX3) (T := TX3) (N := 24) hx hb hts hin hown hK hP 0 rfl rfl 12 (by decide) (hts (.fieldLink RX3 44 RX3 "waits" "[Z") (by decide +kernel)) (fun _ h9 => h9) rfl dX3_purge_32 ?_
        refine lv_iload_n hx hb dX3_purge_35 rfl (lv_at hl 1 rfl) ?_
        refine lv_iconst (v := 1) hx hb dX3_purge_36 (by decide) ?_
        refine va_zast (D := (dC, dI)) (i := p0) (x := 1) (f := τ 12) hx hb hK hP hD hS 12 1 rfl rfl (mo_in hI c1_) dX3_purge_37 (fun H locs hP hD hS => ?_)
        have hP : va_P (dC, dI) vwCl (mW h adr cI cZ (upd2 τ 12 p0.toNatClampNeg (vp_nar .boolean 1)) ++ X) H := by rw [← mput_12]; exact hP
        have hD : va_D (fun q : Nat => z ≤ q) (mW h adr cI cZ (upd2 τ 12 p0.toNatClampNeg (vp_nar .boolean 1)) ++ X) := by rw [← mput_12]; exact hD
        refine lv_iconst (v := 0) hx hb dX3_purge_38 (by decide) ?_
        exact w_iret (v := 0) (u := upd2 τ 12 p0.toNatClampNeg (vp_nar .boolean 1)) hx hb hr hlocks hP hD hS dX3_purge_39 (wpair (by unfold sM_purge; rw [if_neg c1_, if_pos c2_, if_pos c3_] <;> rfl))
    · refine lv_bipush (v := (-2)) hx hb dX3_purge_18 (by decide) ?_
      exact w_iret (v := (-2)) (u := τ) hx hb hr hlocks hP hD hS dX3_purge_20 (wpair (by unfold sM_purge; rw [if_neg c1_, if_neg c2_] <;> rfl))
  · refine lv_iconst (v := (-1)) hx hb dX3_purge_8 (by decide) ?_
    exact w_iret (v := (-1)) (u := τ) hx hb hr hlocks hP hD hS dX3_purge_9 (wpair (by unfold sM_purge; rw [if_pos c1_] <;> rfl))
set_option maxHeartbeats 4000000 in
set_option maxRecDepth 100000 in
theorem c_M_hold (l : Launch) (dC : Nat → ClassId) (dI : Nat → Nat → Nat) (cI cZ cO cW : ClassId) (z : Nat) (X : va_W) (h : Nat) (adr : Nat → Nat) (τ : T2) (p0 : Int32) (p1 : Int32) (hI : mInv τ) : Met l yX3_hold wsX3_hold ({ frames := 1, cells := 0, slots := 0, locals := 21 }) (wPc (dC, dI) (tyL cI cZ cO cW) z [.ref h, .int p0, .int p1] (mW h adr cI cZ τ ++ X)) (wQi (dC, dI) z (fun u : T2 => mW h adr cI cZ u ++ X) (fun r u => r = (sM_hold τ p0 p1).1 ∧ u = (sM_hold τ p0 p1).2)) 0 0 (fun q => z ≤ q) := by
  refine en_met (cc := cX3_hold) (maxL := 4) (ret := (some .int)) (by decide) rfl (Nat.le_of_ble_eq_true rfl) ?_
  intro p e s m below meth c ls hx hb hml hr hts hown hlocks hnm hv hl
  obtain ⟨hz, hP, hK, hD⟩ := hv
  have hown : s.vm.findClass RX3 = some m.cls := hown
  have hin : ∀ w ∈ wsX30, w ∈ wsX3_hold := by decide +kernel
  have hS : va_S (fun q : Nat => z ≤ q) s.heap s.heap [] := va_S.rf
  have hl : lv_has ls 4 [(0, .ref h), (1, .int p0), (2, .int p1)] := hl
  refine lv_aload_n hx hb dX3_hold_0 rfl (lv_at hl 0 rfl) ?_
  refine lv_iload_n hx hb dX3_hold_1 rfl (lv_at hl 1 rfl) ?_
  refine vp_callSi (W.runV (As := [.int p0]) (rest := []) ⟨hx, hb, hml, hown, hts⟩ (c_M_isOutput l dC dI cI cZ cO cW z X h adr τ p0) (cwV 1 hts gX3_hold_X3_isOutput rfl rfl rfl (by decide +kernel) ⟨Nat.le_of_ble_eq_true rfl, Nat.le_of_ble_eq_true rfl⟩) (wPreV (Nat.le_trans hz hS.1) hP hK hD (va_recv hK hP (ci := 3) (q0 := 0) rfl rfl)) rfl rfl hl.1 rfl (lv_room (Nat.le_of_ble_eq_true rfl)) dX3_hold_2 ⟨Nat.le_of_ble_eq_true rfl, Nat.le_of_ble_eq_true rfl⟩) (fun r e_ => ?_)
  subst e_
  refine lv_if_ne (tgt := 10) hx hb dX3_hold_5 (by decide) (fun c1_ => ?_) (fun c1_ => ?_)
  · refine lv_aload_n hx hb dX3_hold_10 rfl (lv_at hl 0 rfl) ?_
    refine lv_iload_n hx hb dX3_hold_11 rfl (lv_at hl 1 rfl) ?_
    refine vp_callSi (W.runV (As := [.int p0]) (rest := []) ⟨hx, hb, hml, hown, hts⟩ (c_M_isStill l dC dI cI cZ cO cW z X h adr τ p0 (mo_in hI c1_)) (cwV 1 hts gX3_hold_X3_isStill rfl rfl rfl (by decide +kernel) ⟨Nat.le_of_ble_eq_true rfl, Nat.le_of_ble_eq_true rfl⟩) (wPreV (Nat.le_trans hz hS.1) hP hK hD (va_recv hK hP (ci := 3) (q0 := 0) rfl rfl)) rfl rfl hl.1 rfl (lv_room (Nat.le_of_ble_eq_true rfl)) dX3_hold_12 ⟨Nat.le_of_ble_eq_true rfl, Nat.le_of_ble_eq_true rfl⟩) (fun r e_ => ?_)
    subst e_
    refine lv_if_ne (tgt := 21) hx hb dX3_hold_15 (by decide) (fun c2_ => ?_) (fun c2_ => ?_)
    · refine lv_aload_n hx hb dX3_hold_21 rfl (lv_at hl 0 rfl) ?_
      refine va_get (D := (dC, dI)) (ci := 3) (v := .ref (adr 11)) (C := RX3) (T := TX3) (N := 24) hx hb hts hin hown hK hP 0 rfl rfl 11 (by decide) (hts (.fieldLink RX3 41 RX3 "held" "[Z") (by decide +kernel)) (fun _ h9 => h9) rfl dX3_hold_22 ?_
      refine lv_iload_n hx hb dX3_hold_25 rfl (lv_at hl 1 rfl) ?_
      refine va_zald (D := (dC, dI)) (i := p0) (f := τ 11) hx hb hK hP 11 1 rfl rfl (mo_in hI c1_) dX3_hold_26 ?_
      refine lv_if_eq (tgt := 34) hx hb dX3_hold_27 (by decide) (fun c3_ => ?_) (fun c3_ => ?_)
      · refine lv_iconst (v := 0) hx hb dX3_hold_34 (by decide) ?_
        refine lv_istore_n (lv' := [(3, .int 0), (0, .ref h), (1, .int p0), (2, .int p1)]) hx hb dX3_hold_35 rfl hl (by decide) rfl (fun ls hl => ?_)
        refine lv_aload_n hx hb dX3_hold_36 rfl (lv_at hl 1 rfl) ?_
        refine va_get (D := (dC, dI)) (ci := 3) (v := .ref (adr 11)) (C := RX3) (T := TX3) (N := 24) hx hb hts hin hown hK hP 0 rfl rfl 11 (by decide) (hts (.fieldLink RX3 41 RX3 "held" "[Z") (by decide +kernel)) (fun _ h9 => h9) rfl dX3_hold_37 ?_
        refine lv_iload_n hx hb dX3_hold_40 rfl (lv_at hl 2 rfl) ?_
        refine lv_iload_n hx hb dX3_hold_41 rfl (lv_at hl 3 rfl) ?_
        refine va_zast (D := (dC, dI)) (i := p0) (x := p1) (f := τ 11) hx hb hK hP hD hS 11 1 rfl rfl (mo_in hI c1_) dX3_hold_42 (fun H locs hP hD hS => ?_)
        have hP : va_P (dC, dI) vwCl (mW h adr cI cZ (upd2 τ 11 p0.toNatClampNeg (vp_nar .boolean p1)) ++ X) H := by rw [← mput_11]; exact hP
        have hD : va_D (fun q : Nat => z ≤ q) (mW h adr cI cZ (upd2 τ 11 p0.toNatClampNeg (vp_nar .boolean p1)) ++ X) := by rw [← mput_11]; exact hD
        refine lv_iload_n hx hb dX3_hold_43 rfl (lv_at hl 0 rfl) ?_
        exact w_iret (v := 0) (u := upd2 τ 11 p0.toNatClampNeg (vp_nar .boolean p1)) hx hb hr hlocks hP hD hS dX3_hold_44 (wpair (by unfold sM_hold; rw [if_neg c1_, if_neg c2_, if_pos c3_] <;> rfl))
      · refine lv_iconst (v := 1) hx hb dX3_hold_30 (by decide) ?_
        refine lv_goto (tgt := 35) hx hb dX3_hold_31 (by decide) ?_
        refine lv_istore_n (lv' := [(3, .int 1), (0, .ref h), (1, .int p0), (2, .int p1)]) hx hb dX3_hold_35 rfl hl (by decide) rfl (fun ls hl => ?_)
        refine lv_aload_n hx hb dX3_hold_36 rfl (lv_at hl 1 rfl) ?_
        refine va_get (D := (dC, dI)) (ci := 3) (v := .ref (adr 11)) (C := RX3) (T := TX3) (N := 24) hx hb hts hin hown hK hP 0 rfl rfl 11 (by decide) (hts (.fieldLink RX3 41 RX3 "held" "[Z") (by decide +kernel)) (fun _ h9 => h9) rfl dX3_hold_37 ?_
        refine lv_iload_n hx hb dX3_hold_40 rfl (lv_at hl 2 rfl) ?_
        refine lv_iload_n hx hb dX3_hold_41 rfl (lv_at hl 3 rfl) ?_
        refine va_zast (D := (dC, dI)) (i := p0) (x := p1) (f := τ 11) hx hb hK hP hD hS 11 1 rfl rfl (mo_in hI c1_) dX3_hold_42 (fun H locs hP hD hS => ?_)
        have hP : va_P (dC, dI) vwCl (mW h adr cI cZ (upd2 τ 11 p0.toNatClampNeg (vp_nar .boolean p1)) ++ X) H := by rw [← mput_11]; exact hP
        have hD : va_D (fun q : Nat => z ≤ q) (mW h adr cI cZ (upd2 τ 11 p0.toNatClampNeg (vp_nar .boolean p1)) ++ X) := by rw [← mput_11]; exact hD
        refine lv_iload_n hx hb dX3_hold_43 rfl (lv_at hl 0 rfl) ?_
        exact w_iret (v := 1) (u := upd2 τ 11 p0.toNatClampNeg (vp_nar .boolean p1)) hx hb hr hlocks hP hD hS dX3_hold_44 (wpair (by unfold sM_hold; rw [if_neg c1_, if_neg c2_, if_neg c3_] <;> rfl))
    · refine lv_bipush (v := (-2)) hx hb dX3_hold_18 (by decide) ?_
      exact w_iret (v := (-2)) (u := τ) hx hb hr hlocks hP hD hS dX3_hold_20 (wpair (by unfold sM_hold; rw [if_neg c1_, if_pos c2_] <;> rfl))
  · refine lv_iconst (v := (-1)) hx hb dX3_hold_8 (by decide) ?_
    exact w_iret (v := (-1)) (u := τ) hx hb hr hlocks hP hD hS dX3_hold_9 (wpair (by unfold sM_hold; rw [if_pos c1_] <;> rfl))
set_option maxHeartbeats 4000000 in
set_option maxRecDepth 100000 in
theorem c_M_route (l : Launch) (dC : Nat → ClassId) (dI : Nat → Nat → Nat) (cI cZ cO cW : ClassId) (z : Nat) (X : va_W) (h : Nat) (adr : Nat → Nat) (τ : T2) (p0 : Int32) (p1 : Int32) (hI : mInv τ) : Met l yX3_route wsX3_route ({ frames := 1, cells := 0, slots := 0, locals := 21 }) (wPc (dC, dI) (tyL cI cZ cO cW) z [.ref h, .int p0, .int p1] (mW h adr cI cZ τ ++ X)) (wQi (dC, dI) z (fun u : T2 => mW h adr cI cZ u ++ X) (fun r u => r = (sM_route τ p0 p1).1 ∧ u = (sM_route τ p0 p1).2)) 0 0 (fun q => z ≤ q) := by
  refine en_met (cc := cX3_route) (maxL := 4) (ret := (some .int)) (by decide) rfl (Nat.le_of_ble_eq_true rfl) ?_
  intro p e s m below meth c ls hx hb hml hr hts hown hlocks hnm hv hl
  obtain ⟨hz, hP, hK, hD⟩ := hv
  have hown : s.vm.findClass RX3 = some m.cls := hown
  have hin : ∀ w ∈ wsX30, w ∈ wsX3_route := by decide +kernel
  have hS : va_S (fun q : Nat => z ≤ q) s.heap s.heap [] := va_S.rf
  have hl : lv_has ls 4 [(0, .ref h), (1, .int p0), (2, .int p1)] := hl
  refine lv_aload_n hx hb dX3_route_0 rfl (lv_at hl 0 rfl) ?_
  refine lv_iload_n hx hb dX3_route_1 rfl (lv_at hl 1 rfl) ?_
  refine vp_callSi (W.runV (As := [.int p0]) (rest := []) ⟨hx, hb, hml, hown, hts⟩ (c_M_isOutput l dC dI cI cZ cO cW z X h adr τ p0) (cwV 1 hts gX3_route_X3_isOutput rfl rfl rfl (by decide +kernel) ⟨Nat.le_of_ble_eq_true rfl, Nat.le_of_ble_eq_true rfl⟩) (wPreV (Nat.le_trans hz hS.1) hP hK hD (va_recv hK hP (ci := 3) (q0 := 0) rfl rfl)) rfl rfl hl.1 rfl (lv_room (Nat.le_of_ble_eq_true rfl)) dX3_route_2 ⟨Nat.le_of_ble_eq_true rfl, Nat.le_of_ble_eq_true rfl⟩) (fun r e_ => ?_)
  subst e_
  refine lv_if_eq (tgt := 18) hx hb dX3_route_5 (by decide) (fun c1_ => ?_) (fun c1_ => ?_)
  · refine lv_iconst (v := (-1)) hx hb dX3_route_18 (by decide) ?_
    exact w_iret (v := (-1)) (u := τ) hx hb hr hlocks hP hD hS dX3_route_19 (wpair (by unfold sM_route; rw [if_pos c1_] <;> rfl))
  · refine lv_iload_n hx hb dX3_route_8 rfl (lv_at hl 2 rfl) ?_
    refine lv_if_lt (tgt := 18) hx hb dX3_route_9 (by decide) (fun c2_ => ?_) (fun c2_ => ?_)
    · refine lv_iconst (v := (-1)) hx hb dX3_route_18 (by decide) ?_
      exact w_iret (v := (-1)) (u := τ) hx hb hr hlocks hP hD hS dX3_route_19 (wpair (by unfold sM_route; rw [if_neg c1_, if_pos c2_] <;> rfl))
    · refine lv_iload_n hx hb dX3_route_12 rfl (lv_at hl 2 rfl) ?_
      refine lv_bipush (v := 63) hx hb dX3_route_13 (by decide) ?_
      refine lv_icmp_le (tgt := 20) hx hb dX3_route_15 (by decide) (fun c3_ => ?_) (fun c3_ => ?_)
      · refine lv_aload_n hx hb dX3_route_20 rfl (lv_at hl 0 rfl) ?_
        refine lv_iload_n hx hb dX3_route_21 rfl (lv_at hl 1 rfl) ?_
        refine vp_callSi (W.runV (As := [.int p0]) (rest := []) ⟨hx, hb, hml, hown, hts⟩ (c_M_isStill l dC dI cI cZ cO cW z X h adr τ p0 (mo_in hI c1_)) (cwV 1 hts gX3_route_X3_isStill rfl rfl rfl (by decide +kernel) ⟨Nat.le_of_ble_eq_true rfl, Nat.le_of_ble_eq_true rfl⟩) (wPreV (Nat.le_trans hz hS.1) hP hK hD (va_recv hK hP (ci := 3) (q0 := 0) rfl rfl)) rfl rfl hl.1 rfl (lv_room (Nat.le_of_ble_eq_true rfl)) dX3_route_22 ⟨Nat.le_of_ble_eq_true rfl, Nat.le_of_ble_eq_true rfl⟩) (fun r e_ => ?_)
        subst e_
        refine lv_if_ne (tgt := 31) hx hb dX3_route_25 (by decide) (fun c4_ => ?_) (fun c4_ => ?_)
        · refine lv_bipush (v := 8) hx hb dX3_route_31 (by decide) ?_
          refine lv_aload_n hx hb dX3_route_33 rfl (lv_at hl 0 rfl) ?_
          refine va_get (D := (dC, dI)) (ci := 3) (v := .ref (adr 5)) (C := RX3) (T := TX3) (N := 24) hx hb hts hin hown hK hP 0 rfl rfl 5 (by decide) (hts (.fieldLink RX3 22 RX3 "priorities" "[I") (by decide +kernel)) (fun _ h9 => h9) rfl dX3_route_34 ?_
          refine lv_iload_n hx hb dX3_route_37 rfl (lv_at hl 1 rfl) ?_
          refine va_iald (D := (dC, dI)) (i := p0) (f := τ 5) hx hb hK hP 5 0 rfl rfl (mo_in hI c1_) dX3_route_38 ?_
          refine lv_imul hx hb dX3_route_39 ?_
          refine lv_aload_n hx hb dX3_route_40 rfl (lv_at hl 0 rfl) ?_
          refine va_get (D := (dC, dI)) (ci := 3) (v := .ref (adr 4)) (C := RX3) (T := TX3) (N := 24) hx hb hts hin hown hK hP 0 rfl rfl 4 (by decide) (hts (.fieldLink RX3 19 RX3 "destinations" "[I") (by decide +kernel)) (fun _ h9 => h9) rfl dX3_route_41 ?_
          refine lv_iload_n hx hb dX3_route_44 rfl (lv_at hl 1 rfl) ?_
          refine va_iald (D := (dC, dI)) (i := p0) (f := τ 4) hx hb hK hP 4 0 rfl rfl (mo_in hI c1_) dX3_route_45 ?_
          refine lv_iadd hx hb dX3_route_46 ?_
          refine lv_istore_n (lv' := [(3, .int ((8 * (τ 5 p0.toNatClampNeg)) + (τ 4 p0.toNatClampNeg))), (0, .ref h), (1, .int p0), (2, .int p1)]) hx hb dX3_route_47 rfl hl (by decide) rfl (fun ls hl => ?_)
          refine lv_aload_n hx hb dX3_route_48 rfl (lv_at hl 1 rfl) ?_
          refine va_get (D := (dC, dI)) (ci := 3) (v := .ref (adr 5)) (C := RX3) (T := TX3) (N := 24) hx hb hts hin hown hK hP 0 rfl rfl 5 (by decide) (hts (.fieldLink RX3 22 RX3 "priorities" "[I") (by decide +kernel)) (fun _ h9 => h9) rfl dX3_route_49 ?_
          refine lv_iload_n hx hb dX3_route_52 rfl (lv_at hl 2 rfl) ?_
          refine lv_iload_n hx hb dX3_route_53 rfl (lv_at hl 3 rfl) ?_
          refine lv_bipush (v := 8) hx hb dX3_route_54 (by decide) ?_
          refine lv_idiv hx hb dX3_route_56 (by decide) ?_
          refine va_iast (D := (dC, dI)) (i := p0) (x := p1 / 8) (f := τ 5) hx hb hK hP hD hS 5 0 rfl rfl (mo_in hI c1_) dX3_route_57 (fun H locs hP hD hS => ?_)
          have hP : va_P (dC, dI) vwCl (mW h adr cI cZ (upd2 τ 5 p0.toNatClampNeg (p1 / 8)) ++ X) H := by rw [← mput_5]; exact hP
          have hD : va_D (fun q : Nat => z ≤ q) (mW h adr cI cZ (upd2 τ 5 p0.toNatClampNeg (p1 / 8)) ++ X) := by rw [← mput_5]; exact hD
          refine lv_aload_n hx hb dX3_route_58 rfl (lv_at hl 1 rfl) ?_
          refine va_get (D := (dC, dI)) (ci := 3) (v := .ref (adr 4)) (C := RX3) (T := TX3) (N := 24) hx hb hts hin hown hK hP 0 rfl rfl 4 (by decide) (hts (.fieldLink RX3 19 RX3 "destinations" "[I") (by decide +kernel)) (fun _ h9 => h9) rfl dX3_route_59 ?_
          refine lv_iload_n hx hb dX3_route_62 rfl (lv_at hl 2 rfl) ?_
          refine lv_iload_n hx hb dX3_route_63 rfl (lv_at hl 3 rfl) ?_
          refine lv_bipush (v := 8) hx hb dX3_route_64 (by decide) ?_
          refine lv_irem hx hb dX3_route_66 (by decide) ?_
          refine va_iast (D := (dC, dI)) (i := p0) (x := p1 - p1 / 8 * 8) (f := (upd2 τ 5 p0.toNatClampNeg (p1 / 8)) 4) hx hb hK hP hD hS 4 0 rfl rfl (mo_in hI c1_) dX3_route_67 (fun H locs hP hD hS => ?_)
          have hP : va_P (dC, dI) vwCl (mW h adr cI cZ (upd2 (upd2 τ 5 p0.toNatClampNeg (p1 / 8)) 4 p0.toNatClampNeg (p1 - p1 / 8 * 8)) ++ X) H := by rw [← mput_4]; exact hP
          have hD : va_D (fun q : Nat => z ≤ q) (mW h adr cI cZ (upd2 (upd2 τ 5 p0.toNatClampNeg (p1 / 8)) 4 p0.toNatClampNeg (p1 - p1 / 8 * 8)) ++ X) := by rw [← mput_4]; exact hD
          refine lv_iload_n hx hb dX3_route_68 rfl (lv_at hl 0 rfl) ?_
          exact w_iret (v := (8 * (τ 5 p0.toNatClampNeg)) + (τ 4 p0.toNatClampNeg)) (u := upd2 (upd2 τ 5 p0.toNatClampNeg (p1 / 8)) 4 p0.toNatClampNeg (p1 - p1 / 8 * 8)) hx hb hr hlocks hP hD hS dX3_route_69 (wpair (by unfold sM_route; rw [if_neg c1_, if_neg c2_, if_pos c3_, if_neg c4_] <;> rfl))
        · refine lv_bipush (v := (-2)) hx hb dX3_route_28 (by decide) ?_
          exact w_iret (v := (-2)) (u := τ) hx hb hr hlocks hP hD hS dX3_route_30 (wpair (by unfold sM_route; rw [if_neg c1_, if_neg c2_, if_pos c3_, if_pos c4_] <;> rfl))
      · refine lv_iconst (v := (-1)) hx hb dX3_route_18 (by decide) ?_
        exact w_iret (v := (-1)) (u := τ) hx hb hr hlocks hP hD hS dX3_route_19 (wpair (by unfold sM_route; rw [if_neg c1_, if_neg c2_, if_neg c3_] <;> rfl))
