set_option maxHeartbeats 4000000 in
set_option maxRecDepth 100000 in
theorem c_C_purge (l : Launch) (dC : Nat → ClassId) (dI : Nat → Nat → Nat) (cI cZ cO cW : ClassId) (z : Nat) (X : va_W) (h : Nat) (adr ad wd : Nat → Nat) (nO nW : Nat) (σ : T2) (p0 : Int32) (hI : cInv nO nW σ) : Met l yX0_purge wsX0_purge ({ frames := 2, cells := 0, slots := 0, locals := 43 }) (wPc (dC, dI) (tyL cI cZ cO cW) z [.ref h, .int p0] (cWd h adr ad wd nO nW cI cO cW σ ++ X)) (wQi (dC, dI) z (fun u : T2 => cWd h adr ad wd nO nW cI cO cW u ++ X) (fun r u => r = (sC_purge σ p0).1 ∧ u = (sC_purge σ p0).2)) 0 0 (fun q => z ≤ q) := by
  refine en_met (cc := cX0_purge) (maxL := 3) (ret := (some .int)) (by decide) rfl (Nat.le_of_ble_eq_true rfl) ?_
  intro p e s m below meth c ls hx hb hml hr hts hown hlocks hnm hv hl
  obtain ⟨hz, hP, hK, hD⟩ := hv
  have hown : s.vm.findClass RX0 = some m.cls := hown
  have hS : va_S (fun q : Nat => z ≤ q) s.heap s.heap [] := va_S.rf
  have hin1 : ∀ w ∈ wsX10, w ∈ wsX0_purge := by decide +kernel
  have hl : lv_has ls 3 [(0, .ref h), (1, .int p0)] := hl
  refine lv_aload_n hx hb dX0_purge_0 rfl (lv_at hl 0 rfl) ?_
  refine lv_iload_n hx hb dX0_purge_1 rfl (lv_at hl 1 rfl) ?_
  refine va_csq (W.runV (As := [.int p0]) (rest := []) ⟨hx, hb, hml, hown, hts⟩ (c_C_outputOf l dC dI cI cZ cO cW z X h adr ad wd nO nW σ p0 (oi hI)) (cwV 1 hts gX0_purge_X0_outputOf rfl rfl rfl (by decide +kernel) ⟨Nat.le_of_ble_eq_true rfl, Nat.le_of_ble_eq_true rfl⟩) (wPreV (Nat.le_trans hz hS.1) hP hK hD (va_recv hK hP (ci := 0) (q0 := 0) rfl rfl)) rfl rfl hl.1 rfl (lv_room (Nat.le_of_ble_eq_true rfl)) dX0_purge_2 ⟨Nat.le_of_ble_eq_true rfl, Nat.le_of_ble_eq_true rfl⟩) (fun r e_ => ?_)
  subst e_
  by_cases c1_ : (sC_isWithin p0 1 (σ 3 0)) = 0
  · rw [oo_none c1_]
    refine W.eq (g2 := F0 m 5 ls [.null]) rfl ?_
    refine lv_astore_nN (lv' := [(2, .null), (0, .ref h), (1, .int p0)]) hx hb dX0_purge_5 rfl hl (by decide) rfl (fun ls hl => ?_)
    refine lv_aload_nN hx hb dX0_purge_6 rfl (lv_at hl 0 rfl) ?_
    refine lv_ifnonnullN hx hb dX0_purge_7 ?_
    refine lv_iconst (v := (-1)) hx hb dX0_purge_10 (by decide) ?_
    exact w_iret (v := (-1)) (u := σ) hx hb hr hlocks hP hD hS dX0_purge_11 (wpair (by unfold sC_purge; rw [if_pos c1_] <;> rfl))
  · rw [oo_some c1_]
    refine W.eq (g2 := F0 m 5 ls [.ref (ad ((p0 - 1).toNatClampNeg))]) rfl ?_
    refine lv_astore_n (lv' := [(2, .ref (ad ((p0 - 1).toNatClampNeg))), (0, .ref h), (1, .int p0)]) hx hb dX0_purge_5 rfl hl (by decide) rfl (fun ls hl => ?_)
    refine lv_aload_n hx hb dX0_purge_6 rfl (lv_at hl 0 rfl) ?_
    refine lv_ifnonnull (tgt := 12) hx hb dX0_purge_7 (by decide) ?_
    refine lv_aload_n hx hb dX0_purge_12 rfl (lv_at hl 0 rfl) ?_
    refine vp_callSi (W.runV (As := []) (rest := []) ⟨hx, hb, hml, hown, hts⟩ (c_O_isGone l dC dI cI cZ cO cW z X h adr ad wd nO nW σ ((p0 - 1).toNatClampNeg) (oo_lt (oi hI) c1_)) (cwV 0 hts gX0_purge_X1_isGone rfl rfl rfl (by decide +kernel) ⟨Nat.le_of_ble_eq_true rfl, Nat.le_of_ble_eq_true rfl⟩) (wPreV (Nat.le_trans hz hS.1) hP hK hD (va_recv hK hP (ci := 1) (q0 := (6 + ((p0 - 1).toNatClampNeg))) rfl (cw_out (oo_lt (oi hI) c1_)))) rfl rfl hl.1 rfl (lv_room (Nat.le_of_ble_eq_true rfl)) dX0_purge_13 ⟨Nat.le_of_ble_eq_true rfl, Nat.le_of_ble_eq_true rfl⟩) (fun r e_ => ?_)
    subst e_
    refine lv_if_eq (tgt := 22) hx hb dX0_purge_16 (by decide) (fun c2_ => ?_) (fun c2_ => ?_)
    · refine lv_aload_n hx hb dX0_purge_22 rfl (lv_at hl 0 rfl) ?_
      refine va_get (v := .int (σ 26 ((p0 - 1).toNatClampNeg))) (D := (dC, dI)) (ci := 1) (C := RX1) (T := TX1) (N := 13) hx hb hts hin1 hown hK hP (6 + ((p0 - 1).toNatClampNeg)) (cw_out (oo_lt (oi hI) c1_)) rfl 6 (by decide) (hts (.fieldLink RX0 68 RX1 "state" "I") (by decide +kernel)) (fun _ h9 => h9) rfl dX0_purge_23 ?_
      refine lv_iconst (v := 3) hx hb dX0_purge_26 (by decide) ?_
      refine lv_icmp_ne (tgt := 37) hx hb dX0_purge_27 (by decide) (fun c3_ => ?_) (fun c3_ => ?_)
      · refine lv_aload_n hx hb dX0_purge_37 rfl (lv_at hl 1 rfl) ?_
        refine lv_aload_n hx hb dX0_purge_38 rfl (lv_at hl 0 rfl) ?_
        refine lv_iconst (v := 5) hx hb dX0_purge_39 (by decide) ?_
        refine w_callv (va_runV (As := [.ref (ad ((p0 - 1).toNatClampNeg)), .int 5]) (rest := []) ⟨hx, hb, hml, hown, hts⟩ (c_C_letGo l dC dI cI cZ cO cW z X h adr ad wd nO nW σ ((p0 - 1).toNatClampNeg) 5 (oo_lt (oi hI) c1_)) (cwV 2 hts gX0_purge_X0_letGo rfl rfl rfl (by decide +kernel) ⟨Nat.le_of_ble_eq_true rfl, Nat.le_of_ble_eq_true rfl⟩) (wPreV (Nat.le_trans hz hS.1) hP hK hD (va_recv hK hP (ci := 0) (q0 := 0) rfl rfl)) rfl rfl hl.1 rfl (lv_room (Nat.le_of_ble_eq_true rfl)) dX0_purge_40 ⟨Nat.le_of_ble_eq_true rfl, Nat.le_of_ble_eq_true rfl⟩) hS (fun u H locs e_ hP hD hS => ?_)
        subst e_
        have hP : va_P (dC, dI) vwCl (cWd h adr ad wd nO nW cI cO cW (sC_letGo σ ((p0 - 1).toNatClampNeg) 5) ++ X) H := hP
        have hD : va_D (fun q : Nat => z ≤ q) (cWd h adr ad wd nO nW cI cO cW (sC_letGo σ ((p0 - 1).toNatClampNeg) 5) ++ X) := hD
        refine lv_iconst (v := 1) hx hb dX0_purge_43 (by decide) ?_
        exact w_iret (v := 1) (u := (sC_letGo σ ((p0 - 1).toNatClampNeg) 5)) hx hb hr hlocks hP hD hS dX0_purge_44 (wpair (by unfold sC_purge; rw [if_neg c1_, if_pos c2_, if_neg c3_] <;> rfl))
      · refine lv_aload_n hx hb dX0_purge_30 rfl (lv_at hl 0 rfl) ?_
        refine lv_iconst (v := 1) hx hb dX0_purge_31 (by decide) ?_
        refine va_put (D := (dC, dI)) (ci := 1) (v := .int 1) (ty := .boolean) (C := RX1) (T := TX1) (N := 13) hx hb hts hin1 tyX1 tyX1_ok nmX1 hown hK hP hD hS (6 + ((p0 - 1).toNatClampNeg)) (cw_out (oo_lt (oi hI) c1_)) rfl 12 (by decide) (hts (.fieldLink RX0 152 RX1 "purgeWaits" "Z") (by decide +kernel)) (fun _ h9 => h9) rfl (by decide +kernel) rfl rfl (Nat.le_of_ble_eq_true rfl) dX0_purge_32 (fun H locs hP hD hS => ?_)
        have hP : va_P (dC, dI) vwCl (cWd h adr ad wd nO nW cI cO cW (upd2 σ 32 ((p0 - 1).toNatClampNeg) 1) ++ X) H := by rw [← cw_set_out (k := 12) rfl (by decide) (oo_lt (oi hI) c1_)]; exact hP
        have hD : va_D (fun q : Nat => z ≤ q) (cWd h adr ad wd nO nW cI cO cW (upd2 σ 32 ((p0 - 1).toNatClampNeg) 1) ++ X) := by rw [← cw_set_out (k := 12) rfl (by decide) (oo_lt (oi hI) c1_)]; exact hD
        refine lv_iconst (v := 0) hx hb dX0_purge_35 (by decide) ?_
        exact w_iret (v := 0) (u := upd2 σ 32 ((p0 - 1).toNatClampNeg) 1) hx hb hr hlocks hP hD hS dX0_purge_36 (wpair (by unfold sC_purge; rw [if_neg c1_, if_pos c2_, if_pos c3_] <;> rfl))
    · refine lv_bipush (v := (-2)) hx hb dX0_purge_19 (by decide) ?_
      exact w_iret (v := (-2)) (u := σ) hx hb hr hlocks hP hD hS dX0_purge_21 (wpair (by unfold sC_purge; rw [if_neg c1_, if_neg c2_] <;> rfl))
set_option maxHeartbeats 4000000 in
set_option maxRecDepth 100000 in
theorem c_C_hold (l : Launch) (dC : Nat → ClassId) (dI : Nat → Nat → Nat) (cI cZ cO cW : ClassId) (z : Nat) (X : va_W) (h : Nat) (adr ad wd : Nat → Nat) (nO nW : Nat) (σ : T2) (p0 : Int32) (p1 : Int32) (hI : cInv nO nW σ) (hp1 : p1 = 0 ∨ p1 = 1) : Met l yX0_hold wsX0_hold ({ frames := 2, cells := 0, slots := 0, locals := 43 }) (wPc (dC, dI) (tyL cI cZ cO cW) z [.ref h, .int p0, .int p1] (cWd h adr ad wd nO nW cI cO cW σ ++ X)) (wQi (dC, dI) z (fun u : T2 => cWd h adr ad wd nO nW cI cO cW u ++ X) (fun r u => r = (sC_hold σ p0 p1).1 ∧ u = (sC_hold σ p0 p1).2)) 0 0 (fun q => z ≤ q) := by
  refine en_met (cc := cX0_hold) (maxL := 5) (ret := (some .int)) (by decide) rfl (Nat.le_of_ble_eq_true rfl) ?_
  intro p e s m below meth c ls hx hb hml hr hts hown hlocks hnm hv hl
  obtain ⟨hz, hP, hK, hD⟩ := hv
  have hown : s.vm.findClass RX0 = some m.cls := hown
  have hS : va_S (fun q : Nat => z ≤ q) s.heap s.heap [] := va_S.rf
  have hin1 : ∀ w ∈ wsX10, w ∈ wsX0_hold := by decide +kernel
  have hl : lv_has ls 5 [(0, .ref h), (1, .int p0), (2, .int p1)] := hl
  refine lv_aload_n hx hb dX0_hold_0 rfl (lv_at hl 0 rfl) ?_
  refine lv_iload_n hx hb dX0_hold_1 rfl (lv_at hl 1 rfl) ?_
  refine va_csq (W.runV (As := [.int p0]) (rest := []) ⟨hx, hb, hml, hown, hts⟩ (c_C_outputOf l dC dI cI cZ cO cW z X h adr ad wd nO nW σ p0 (oi hI)) (cwV 1 hts gX0_hold_X0_outputOf rfl rfl rfl (by decide +kernel) ⟨Nat.le_of_ble_eq_true rfl, Nat.le_of_ble_eq_true rfl⟩) (wPreV (Nat.le_trans hz hS.1) hP hK hD (va_recv hK hP (ci := 0) (q0 := 0) rfl rfl)) rfl rfl hl.1 rfl (lv_room (Nat.le_of_ble_eq_true rfl)) dX0_hold_2 ⟨Nat.le_of_ble_eq_true rfl, Nat.le_of_ble_eq_true rfl⟩) (fun r e_ => ?_)
  subst e_
  by_cases c1_ : (sC_isWithin p0 1 (σ 3 0)) = 0
  · rw [oo_none c1_]
    refine W.eq (g2 := F0 m 5 ls [.null]) rfl ?_
    refine lv_astore_nN (lv' := [(3, .null), (0, .ref h), (1, .int p0), (2, .int p1)]) hx hb dX0_hold_5 rfl hl (by decide) rfl (fun ls hl => ?_)
    refine lv_aload_nN hx hb dX0_hold_6 rfl (lv_at hl 0 rfl) ?_
    refine lv_ifnonnullN hx hb dX0_hold_7 ?_
    refine lv_iconst (v := (-1)) hx hb dX0_hold_10 (by decide) ?_
    exact w_iret (v := (-1)) (u := σ) hx hb hr hlocks hP hD hS dX0_hold_11 (wpair (by unfold sC_hold; rw [if_pos c1_] <;> rfl))
  · rw [oo_some c1_]
    refine W.eq (g2 := F0 m 5 ls [.ref (ad ((p0 - 1).toNatClampNeg))]) rfl ?_
    refine lv_astore_n (lv' := [(3, .ref (ad ((p0 - 1).toNatClampNeg))), (0, .ref h), (1, .int p0), (2, .int p1)]) hx hb dX0_hold_5 rfl hl (by decide) rfl (fun ls hl => ?_)
    refine lv_aload_n hx hb dX0_hold_6 rfl (lv_at hl 0 rfl) ?_
    refine lv_ifnonnull (tgt := 12) hx hb dX0_hold_7 (by decide) ?_
    refine lv_aload_n hx hb dX0_hold_12 rfl (lv_at hl 0 rfl) ?_
    refine vp_callSi (W.runV (As := []) (rest := []) ⟨hx, hb, hml, hown, hts⟩ (c_O_isOpenOrReleased l dC dI cI cZ cO cW z X h adr ad wd nO nW σ ((p0 - 1).toNatClampNeg) (oo_lt (oi hI) c1_)) (cwV 0 hts gX0_hold_X1_isOpenOrReleased rfl rfl rfl (by decide +kernel) ⟨Nat.le_of_ble_eq_true rfl, Nat.le_of_ble_eq_true rfl⟩) (wPreV (Nat.le_trans hz hS.1) hP hK hD (va_recv hK hP (ci := 1) (q0 := (6 + ((p0 - 1).toNatClampNeg))) rfl (cw_out (oo_lt (oi hI) c1_)))) rfl rfl hl.1 rfl (lv_room (Nat.le_of_ble_eq_true rfl)) dX0_hold_13 ⟨Nat.le_of_ble_eq_true rfl, Nat.le_of_ble_eq_true rfl⟩) (fun r e_ => ?_)
    subst e_
    refine lv_if_ne (tgt := 22) hx hb dX0_hold_16 (by decide) (fun c2_ => ?_) (fun c2_ => ?_)
    · refine lv_aload_n hx hb dX0_hold_22 rfl (lv_at hl 0 rfl) ?_
      refine va_get (v := .int (σ 27 ((p0 - 1).toNatClampNeg))) (D := (dC, dI)) (ci := 1) (C := RX1) (T := TX1) (N := 13) hx hb hts hin1 hown hK hP (6 + ((p0 - 1).toNatClampNeg)) (cw_out (oo_lt (oi hI) c1_)) rfl 7 (by decide) (hts (.fieldLink RX0 161 RX1 "held" "Z") (by decide +kernel)) (fun _ h9 => h9) rfl dX0_hold_23 ?_
      refine lv_if_eq (tgt := 33) hx hb dX0_hold_26 (by decide) (fun c3_ => ?_) (fun c3_ => ?_)
      · refine lv_iconst (v := 0) hx hb dX0_hold_33 (by decide) ?_
        refine lv_istore (lv' := [(4, .int 0), (3, .ref (ad ((p0 - 1).toNatClampNeg))), (0, .ref h), (1, .int p0), (2, .int p1)]) hx hb dX0_hold_34 hl (by decide) rfl (fun ls hl => ?_)
        refine lv_aload_n hx hb dX0_hold_36 rfl (lv_at hl 1 rfl) ?_
        refine lv_iload_n hx hb dX0_hold_37 rfl (lv_at hl 4 rfl) ?_
        refine va_put (D := (dC, dI)) (ci := 1) (v := .int p1) (ty := .boolean) (C := RX1) (T := TX1) (N := 13) hx hb hts hin1 tyX1 tyX1_ok nmX1 hown hK hP hD hS (6 + ((p0 - 1).toNatClampNeg)) (cw_out (oo_lt (oi hI) c1_)) rfl 7 (by decide) (hts (.fieldLink RX0 161 RX1 "held" "Z") (by decide +kernel)) (fun _ h9 => h9) rfl (by decide +kernel) (nb_of hp1) (fb_of hp1) (Nat.le_of_ble_eq_true rfl) dX0_hold_38 (fun H locs hP hD hS => ?_)
        have hP : va_P (dC, dI) vwCl (cWd h adr ad wd nO nW cI cO cW (upd2 σ 27 ((p0 - 1).toNatClampNeg) p1) ++ X) H := by rw [← cw_set_out (k := 7) rfl (by decide) (oo_lt (oi hI) c1_)]; exact hP
        have hD : va_D (fun q : Nat => z ≤ q) (cWd h adr ad wd nO nW cI cO cW (upd2 σ 27 ((p0 - 1).toNatClampNeg) p1) ++ X) := by rw [← cw_set_out (k := 7) rfl (by decide) (oo_lt (oi hI) c1_)]; exact hD
        refine lv_iload hx hb dX0_hold_41 (lv_at hl 0 rfl) ?_
        exact w_iret (v := 0) (u := upd2 σ 27 ((p0 - 1).toNatClampNeg) p1) hx hb hr hlocks hP hD hS dX0_hold_43 (wpair (by unfold sC_hold; rw [if_neg c1_, if_neg c2_, if_pos c3_] <;> rfl))
      · refine lv_iconst (v := 1) hx hb dX0_hold_29 (by decide) ?_
        refine lv_goto (tgt := 34) hx hb dX0_hold_30 (by decide) ?_
        refine lv_istore (lv' := [(4, .int 1), (3, .ref (ad ((p0 - 1).toNatClampNeg))), (0, .ref h), (1, .int p0), (2, .int p1)]) hx hb dX0_hold_34 hl (by decide) rfl (fun ls hl => ?_)
        refine lv_aload_n hx hb dX0_hold_36 rfl (lv_at hl 1 rfl) ?_
        refine lv_iload_n hx hb dX0_hold_37 rfl (lv_at hl 4 rfl) ?_
        refine va_put (D := (dC, dI)) (ci := 1) (v := .int p1) (ty := .boolean) (C := RX1) (T := TX1) (N := 13) hx hb hts hin1 tyX1 tyX1_ok nmX1 hown hK hP hD hS (6 + ((p0 - 1).toNatClampNeg)) (cw_out (oo_lt (oi hI) c1_)) rfl 7 (by decide) (hts (.fieldLink RX0 161 RX1 "held" "Z") (by decide +kernel)) (fun _ h9 => h9) rfl (by decide +kernel) (nb_of hp1) (fb_of hp1) (Nat.le_of_ble_eq_true rfl) dX0_hold_38 (fun H locs hP hD hS => ?_)
        have hP : va_P (dC, dI) vwCl (cWd h adr ad wd nO nW cI cO cW (upd2 σ 27 ((p0 - 1).toNatClampNeg) p1) ++ X) H := by rw [← cw_set_out (k := 7) rfl (by decide) (oo_lt (oi hI) c1_)]; exact hP
        have hD : va_D (fun q : Nat => z ≤ q) (cWd h adr ad wd nO nW cI cO cW (upd2 σ 27 ((p0 - 1).toNatClampNeg) p1) ++ X) := by rw [← cw_set_out (k := 7) rfl (by decide) (oo_lt (oi hI) c1_)]; exact hD
        refine lv_iload hx hb dX0_hold_41 (lv_at hl 0 rfl) ?_
        exact w_iret (v := 1) (u := upd2 σ 27 ((p0 - 1).toNatClampNeg) p1) hx hb hr hlocks hP hD hS dX0_hold_43 (wpair (by unfold sC_hold; rw [if_neg c1_, if_neg c2_, if_neg c3_] <;> rfl))
    · refine lv_bipush (v := (-2)) hx hb dX0_hold_19 (by decide) ?_
      exact w_iret (v := (-2)) (u := σ) hx hb hr hlocks hP hD hS dX0_hold_21 (wpair (by unfold sC_hold; rw [if_neg c1_, if_pos c2_] <;> rfl))
set_option maxHeartbeats 4000000 in
set_option maxRecDepth 100000 in
theorem c_C_route (l : Launch) (dC : Nat → ClassId) (dI : Nat → Nat → Nat) (cI cZ cO cW : ClassId) (z : Nat) (X : va_W) (h : Nat) (adr ad wd : Nat → Nat) (nO nW : Nat) (σ : T2) (p0 : Int32) (p1 : Int32) (hI : cInv nO nW σ) : Met l yX0_route wsX0_route ({ frames := 2, cells := 0, slots := 0, locals := 43 }) (wPc (dC, dI) (tyL cI cZ cO cW) z [.ref h, .int p0, .int p1] (cWd h adr ad wd nO nW cI cO cW σ ++ X)) (wQi (dC, dI) z (fun u : T2 => cWd h adr ad wd nO nW cI cO cW u ++ X) (fun r u => r = (sC_route σ p0 p1).1 ∧ u = (sC_route σ p0 p1).2)) 0 0 (fun q => z ≤ q) := by
  refine en_met (cc := cX0_route) (maxL := 5) (ret := (some .int)) (by decide) rfl (Nat.le_of_ble_eq_true rfl) ?_
  intro p e s m below meth c ls hx hb hml hr hts hown hlocks hnm hv hl
  obtain ⟨hz, hP, hK, hD⟩ := hv
  have hown : s.vm.findClass RX0 = some m.cls := hown
  have hS : va_S (fun q : Nat => z ≤ q) s.heap s.heap [] := va_S.rf
  have hin1 : ∀ w ∈ wsX10, w ∈ wsX0_route := by decide +kernel
  have hl : lv_has ls 5 [(0, .ref h), (1, .int p0), (2, .int p1)] := hl
  refine lv_aload_n hx hb dX0_route_0 rfl (lv_at hl 0 rfl) ?_
  refine lv_iload_n hx hb dX0_route_1 rfl (lv_at hl 1 rfl) ?_
  refine va_csq (W.runV (As := [.int p0]) (rest := []) ⟨hx, hb, hml, hown, hts⟩ (c_C_outputOf l dC dI cI cZ cO cW z X h adr ad wd nO nW σ p0 (oi hI)) (cwV 1 hts gX0_route_X0_outputOf rfl rfl rfl (by decide +kernel) ⟨Nat.le_of_ble_eq_true rfl, Nat.le_of_ble_eq_true rfl⟩) (wPreV (Nat.le_trans hz hS.1) hP hK hD (va_recv hK hP (ci := 0) (q0 := 0) rfl rfl)) rfl rfl hl.1 rfl (lv_room (Nat.le_of_ble_eq_true rfl)) dX0_route_2 ⟨Nat.le_of_ble_eq_true rfl, Nat.le_of_ble_eq_true rfl⟩) (fun r e_ => ?_)
  subst e_
  by_cases c1_ : (sC_isWithin p0 1 (σ 3 0)) = 0
  · rw [oo_none c1_]
    refine W.eq (g2 := F0 m 5 ls [.null]) rfl ?_
    refine lv_astore_nN (lv' := [(3, .null), (0, .ref h), (1, .int p0), (2, .int p1)]) hx hb dX0_route_5 rfl hl (by decide) rfl (fun ls hl => ?_)
    refine lv_aload_nN hx hb dX0_route_6 rfl (lv_at hl 0 rfl) ?_
    refine lv_ifnullN (tgt := 20) hx hb dX0_route_7 (by decide) ?_
    refine lv_iconst (v := (-1)) hx hb dX0_route_20 (by decide) ?_
    exact w_iret (v := (-1)) (u := σ) hx hb hr hlocks hP hD hS dX0_route_21 (wpair (by unfold sC_route; rw [if_pos c1_] <;> rfl))
  · rw [oo_some c1_]
    refine W.eq (g2 := F0 m 5 ls [.ref (ad ((p0 - 1).toNatClampNeg))]) rfl ?_
    refine lv_astore_n (lv' := [(3, .ref (ad ((p0 - 1).toNatClampNeg))), (0, .ref h), (1, .int p0), (2, .int p1)]) hx hb dX0_route_5 rfl hl (by decide) rfl (fun ls hl => ?_)
    refine lv_aload_n hx hb dX0_route_6 rfl (lv_at hl 0 rfl) ?_
    refine lv_ifnull hx hb dX0_route_7 ?_
    refine lv_iload_n hx hb dX0_route_10 rfl (lv_at hl 3 rfl) ?_
    refine lv_iconst (v := 0) hx hb dX0_route_11 (by decide) ?_
    refine lv_bipush (v := 63) hx hb dX0_route_12 (by decide) ?_
    refine vp_callSi (W.runS (As := [.int p1, .int 0, .int 63]) (rest := []) ⟨hx, hb, hml, hown, hts⟩ (c_C_isWithin l dC dI cI cZ cO cW z X h adr ad wd nO nW σ p1 0 63) (va_cwS 3 hts gX0_route_X0_isWithin rfl rfl rfl (by decide +kernel) ⟨Nat.le_of_ble_eq_true rfl, Nat.le_of_ble_eq_true rfl⟩) (wPreS (Nat.le_trans hz hS.1) hP hK hD) rfl rfl hl.1 rfl (lv_room (Nat.le_of_ble_eq_true rfl)) dX0_route_14 ⟨Nat.le_of_ble_eq_true rfl, Nat.le_of_ble_eq_true rfl⟩) (fun r e_ => ?_)
    subst e_
    refine lv_if_ne (tgt := 22) hx hb dX0_route_17 (by decide) (fun c2_ => ?_) (fun c2_ => ?_)
    · refine lv_aload_n hx hb dX0_route_22 rfl (lv_at hl 0 rfl) ?_
      refine vp_callSi (W.runV (As := []) (rest := []) ⟨hx, hb, hml, hown, hts⟩ (c_O_isOpenOrReleased l dC dI cI cZ cO cW z X h adr ad wd nO nW σ ((p0 - 1).toNatClampNeg) (oo_lt (oi hI) c1_)) (cwV 0 hts gX0_route_X1_isOpenOrReleased rfl rfl rfl (by decide +kernel) ⟨Nat.le_of_ble_eq_true rfl, Nat.le_of_ble_eq_true rfl⟩) (wPreV (Nat.le_trans hz hS.1) hP hK hD (va_recv hK hP (ci := 1) (q0 := (6 + ((p0 - 1).toNatClampNeg))) rfl (cw_out (oo_lt (oi hI) c1_)))) rfl rfl hl.1 rfl (lv_room (Nat.le_of_ble_eq_true rfl)) dX0_route_23 ⟨Nat.le_of_ble_eq_true rfl, Nat.le_of_ble_eq_true rfl⟩) (fun r e_ => ?_)
      subst e_
      refine lv_if_ne (tgt := 32) hx hb dX0_route_26 (by decide) (fun c3_ => ?_) (fun c3_ => ?_)
      · refine lv_aload_n hx hb dX0_route_32 rfl (lv_at hl 0 rfl) ?_
        refine va_get (v := .int (σ 25 ((p0 - 1).toNatClampNeg))) (D := (dC, dI)) (ci := 1) (C := RX1) (T := TX1) (N := 13) hx hb hts hin1 hown hK hP (6 + ((p0 - 1).toNatClampNeg)) (cw_out (oo_lt (oi hI) c1_)) rfl 5 (by decide) (hts (.fieldLink RX0 164 RX1 "priority" "I") (by decide +kernel)) (fun _ h9 => h9) rfl dX0_route_33 ?_
        refine lv_bipush (v := 8) hx hb dX0_route_36 (by decide) ?_
        refine lv_imul hx hb dX0_route_38 ?_
        refine lv_aload_n hx hb dX0_route_39 rfl (lv_at hl 0 rfl) ?_
        refine va_get (v := .int (σ 24 ((p0 - 1).toNatClampNeg))) (D := (dC, dI)) (ci := 1) (C := RX1) (T := TX1) (N := 13) hx hb hts hin1 hown hK hP (6 + ((p0 - 1).toNatClampNeg)) (cw_out (oo_lt (oi hI) c1_)) rfl 4 (by decide) (hts (.fieldLink RX0 167 RX1 "destination" "I") (by decide +kernel)) (fun _ h9 => h9) rfl dX0_route_40 ?_
        refine lv_iadd hx hb dX0_route_43 ?_
        refine lv_istore (lv' := [(4, .int (((σ 25 ((p0 - 1).toNatClampNeg)) * 8) + (σ 24 ((p0 - 1).toNatClampNeg)))), (3, .ref (ad ((p0 - 1).toNatClampNeg))), (0, .ref h), (1, .int p0), (2, .int p1)]) hx hb dX0_route_44 hl (by decide) rfl (fun ls hl => ?_)
        refine lv_aload_n hx hb dX0_route_46 rfl (lv_at hl 1 rfl) ?_
        refine lv_iload_n hx hb dX0_route_47 rfl (lv_at hl 4 rfl) ?_
        refine lv_bipush (v := 8) hx hb dX0_route_48 (by decide) ?_
        refine lv_idiv hx hb dX0_route_50 (by decide) ?_
        refine va_put (D := (dC, dI)) (ci := 1) (v := .int (p1 / 8)) (ty := .int) (C := RX1) (T := TX1) (N := 13) hx hb hts hin1 tyX1 tyX1_ok nmX1 hown hK hP hD hS (6 + ((p0 - 1).toNatClampNeg)) (cw_out (oo_lt (oi hI) c1_)) rfl 5 (by decide) (hts (.fieldLink RX0 164 RX1 "priority" "I") (by decide +kernel)) (fun _ h9 => h9) rfl (by decide +kernel) rfl rfl (Nat.le_of_ble_eq_true rfl) dX0_route_51 (fun H locs hP hD hS => ?_)
        have hP : va_P (dC, dI) vwCl (cWd h adr ad wd nO nW cI cO cW (upd2 σ 25 ((p0 - 1).toNatClampNeg) (p1 / 8)) ++ X) H := by rw [← cw_set_out (k := 5) rfl (by decide) (oo_lt (oi hI) c1_)]; exact hP
        have hD : va_D (fun q : Nat => z ≤ q) (cWd h adr ad wd nO nW cI cO cW (upd2 σ 25 ((p0 - 1).toNatClampNeg) (p1 / 8)) ++ X) := by rw [← cw_set_out (k := 5) rfl (by decide) (oo_lt (oi hI) c1_)]; exact hD
        refine lv_aload_n hx hb dX0_route_54 rfl (lv_at hl 1 rfl) ?_
        refine lv_iload_n hx hb dX0_route_55 rfl (lv_at hl 4 rfl) ?_
        refine lv_bipush (v := 8) hx hb dX0_route_56 (by decide) ?_
        refine lv_irem hx hb dX0_route_58 (by decide) ?_
        refine va_put (D := (dC, dI)) (ci := 1) (v := .int (p1 - p1 / 8 * 8)) (ty := .int) (C := RX1) (T := TX1) (N := 13) hx hb hts hin1 tyX1 tyX1_ok nmX1 hown hK hP hD hS (6 + ((p0 - 1).toNatClampNeg)) (cw_out (oo_lt (oi hI) c1_)) rfl 4 (by decide) (hts (.fieldLink RX0 167 RX1 "destination" "I") (by decide +kernel)) (fun _ h9 => h9) rfl (by decide +kernel) rfl rfl (Nat.le_of_ble_eq_true rfl) dX0_route_59 (fun H locs hP hD hS => ?_)
        have hP : va_P (dC, dI) vwCl (cWd h adr ad wd nO nW cI cO cW (upd2 (upd2 σ 25 ((p0 - 1).toNatClampNeg) (p1 / 8)) 24 ((p0 - 1).toNatClampNeg) (p1 - p1 / 8 * 8)) ++ X) H := by rw [← cw_set_out (k := 4) rfl (by decide) (oo_lt (oi hI) c1_)]; exact hP
        have hD : va_D (fun q : Nat => z ≤ q) (cWd h adr ad wd nO nW cI cO cW (upd2 (upd2 σ 25 ((p0 - 1).toNatClampNeg) (p1 / 8)) 24 ((p0 - 1).toNatClampNeg) (p1 - p1 / 8 * 8)) ++ X) := by rw [← cw_set_out (k := 4) rfl (by decide) (oo_lt (oi hI) c1_)]; exact hD
        refine lv_iload hx hb dX0_route_62 (lv_at hl 0 rfl) ?_
        exact w_iret (v := ((σ 25 ((p0 - 1).toNatClampNeg)) * 8) + (σ 24 ((p0 - 1).toNatClampNeg))) (u := upd2 (upd2 σ 25 ((p0 - 1).toNatClampNeg) (p1 / 8)) 24 ((p0 - 1).toNatClampNeg) (p1 - p1 / 8 * 8)) hx hb hr hlocks hP hD hS dX0_route_64 (wpair (by unfold sC_route; rw [if_neg c1_, if_neg c2_, if_neg c3_] <;> rfl))
      · refine lv_bipush (v := (-2)) hx hb dX0_route_29 (by decide) ?_
        exact w_iret (v := (-2)) (u := σ) hx hb hr hlocks hP hD hS dX0_route_31 (wpair (by unfold sC_route; rw [if_neg c1_, if_neg c2_, if_pos c3_] <;> rfl))
    · refine lv_iconst (v := (-1)) hx hb dX0_route_20 (by decide) ?_
      exact w_iret (v := (-1)) (u := σ) hx hb hr hlocks hP hD hS dX0_route_21 (wpair (by unfold sC_route; rw [if_neg c1_, if_pos c2_] <;> rfl))
