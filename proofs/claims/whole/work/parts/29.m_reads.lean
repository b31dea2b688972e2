set_option maxHeartbeats 4000000 in
set_option maxRecDepth 100000 in
theorem c_M_search (l : Launch) (dC : Nat → ClassId) (dI : Nat → Nat → Nat) (cI cZ cO cW : ClassId) (z : Nat) (X : va_W) (h : Nat) (adr : Nat → Nat) (τ : T2) (p0 : Int32) (hI : mInv τ) : Met l yX3_search wsX3_search ({ frames := 1, cells := 0, slots := 0, locals := 21 }) (wPc (dC, dI) (tyL cI cZ cO cW) z [.ref h, .int p0] (mW h adr cI cZ τ ++ X)) (vp_Si (fun r => r = sM_search τ p0)) 0 0 (fun _ => False) := by
  refine en_met (cc := cX3_search) (maxL := 4) (ret := (some .int)) (by decide) rfl (Nat.le_of_ble_eq_true rfl) ?_
  intro p e s m below meth c ls hx hb hml hr hts hown hlocks hnm hv hl
  obtain ⟨hz, hP, hK, hD⟩ := hv
  have hown : s.vm.findClass RX3 = some m.cls := hown
  have hin : ∀ w ∈ wsX30, w ∈ wsX3_search := by decide +kernel
  have hS : va_S (fun q : Nat => z ≤ q) s.heap s.heap [] := va_S.rf
  have hl : lv_has ls 4 [(0, .ref h), (1, .int p0)] := hl
  refine lv_iload_n hx hb dX3_search_0 rfl (lv_at hl 1 rfl) ?_
  refine lv_if_lt (tgt := 11) hx hb dX3_search_1 (by decide) (fun c1_ => ?_) (fun c1_ => ?_)
  · refine lv_iconst (v := (-1)) hx hb dX3_search_11 (by decide) ?_
    exact w_ri (v := (-1)) hx hb hr hlocks dX3_search_12 (by unfold sM_search; rw [if_pos c1_] <;> rfl)
  · refine lv_iload_n hx hb dX3_search_4 rfl (lv_at hl 1 rfl) ?_
    refine lv_sipush (v := 255) hx hb dX3_search_5 (by decide) ?_
    refine lv_icmp_le (tgt := 13) hx hb dX3_search_8 (by decide) (fun c2_ => ?_) (fun c2_ => ?_)
    · refine lv_iconst (v := 0) hx hb dX3_search_13 (by decide) ?_
      refine lv_istore_n (lv' := [(2, .int 0), (0, .ref h), (1, .int p0)]) hx hb dX3_search_14 rfl hl (by decide) rfl (fun ls hl => ?_)
      refine lv_iconst (v := 0) hx hb dX3_search_15 (by decide) ?_
      refine lv_istore_n (lv' := [(3, .int 0), (2, .int 0), (0, .ref h), (1, .int p0)]) hx hb dX3_search_16 rfl hl (by decide) rfl (fun ls hl => ?_)
      obtain ⟨N, hNc⟩ : ∃ N : Nat, N = (τ 16 0).toNatClampNeg := ⟨_, rfl⟩
      have hN := mN_all hI
      rw [← hNc] at hN
      have key : ∀ (n i : Nat) (a : Int32) (ls : Array Slot), i ≤ N → N - i < n → sM_search_F τ p0 i = a → lv_has ls 4 [(0, .ref h), (1, .int p0), (2, .int a), (3, .int (nI i))] → W p l e ({ frames := 1, cells := 0, slots := 0, locals := 21 }) s m ([.ref h, .int p0] : List Value).toArray below meth c s.heap [] 0 0 (MQ below (vp_Si (fun r => r = sM_search τ p0)) ([.ref h, .int p0] : List Value).toArray s 0 0 (fun _ => False)) (F0 m 17 ls []) := by
        intro n
        induction n with
        | zero => intro i a ls hi hn; exact absurd hn (Nat.not_lt_zero _)
        | succ n ih =>
          intro i a ls hi hn hF hl
          refine lv_iload_n hx hb dX3_search_17 rfl (lv_at hl 3 rfl) ?_
          refine lv_aload_n hx hb dX3_search_18 rfl (lv_at hl 0 rfl) ?_
          refine va_get (D := (dC, dI)) (ci := 3) (v := .int (τ 16 0)) (C := RX3) (T := TX3) (N := 24) hx hb hts hin hown hK hP 0 rfl rfl 16 (by decide) (hts (.fieldLink RX3 93 RX3 "all" "I") (by decide +kernel)) (fun _ h9 => h9) rfl dX3_search_19 ?_
          refine lv_icmp_ge (tgt := 62) hx hb dX3_search_22 (by decide) (fun c4_ => ?_) (fun c4_ => ?_)
          · have hiN : i = N := lc_out hN.1 hN.2 (by decide) hi c4_
            subst hiN
            refine lv_iload_n hx hb dX3_search_62 rfl (lv_at hl 2 rfl) ?_
            exact w_ri (v := a) hx hb hr hlocks dX3_search_63 (by unfold sM_search; rw [if_neg c1_, if_pos c2_, ← hNc, hF]; show _ = sM_search_x τ p0 a; unfold sM_search_x; rfl)
          · have hlt : i < N := lc_in hN.1 hN.2 (by decide) hi c4_
            refine lv_iload_n hx hb dX3_search_25 rfl (lv_at hl 2 rfl) ?_
            refine lv_aload_n hx hb dX3_search_26 rfl (lv_at hl 0 rfl) ?_
            refine va_get (D := (dC, dI)) (ci := 3) (v := .ref (adr 15)) (C := RX3) (T := TX3) (N := 24) hx hb hts hin hown hK hP 0 rfl rfl 15 (by decide) (hts (.fieldLink RX3 50 RX3 "signs" "[I") (by decide +kernel)) (fun _ h9 => h9) rfl dX3_search_27 ?_
            refine lv_iload_n hx hb dX3_search_30 rfl (lv_at hl 3 rfl) ?_
            refine va_iald (D := (dC, dI)) (i := nI i) (f := τ 15) hx hb hK hP 14 0 rfl rfl (in_c hlt hN.2 (by decide)) dX3_search_31 ?_
            refine lv_iload_n hx hb dX3_search_32 rfl (lv_at hl 1 rfl) ?_
            refine lv_icmp_ne (tgt := 53) hx hb dX3_search_33 (by decide) (fun c5_ => ?_) (fun c5_ => ?_)
            · refine lv_iconst (v := 0) hx hb dX3_search_53 (by decide) ?_
              refine lv_iadd hx hb dX3_search_54 ?_
              refine lv_istore_n (lv' := [(2, .int (a + 0)), (0, .ref h), (1, .int p0), (3, .int (nI i))]) hx hb dX3_search_55 rfl hl (by decide) rfl (fun ls hl => ?_)
              refine lv_iinc (v := nI (i + 1)) (lv' := [(3, .int (nI (i + 1))), (2, .int (a + 0)), (0, .ref h), (1, .int p0)]) hx hb dX3_search_56 hl (k := 3) rfl (nI_1 _) (by decide) rfl (fun ls hl => ?_)
              refine lv_goto (tgt := 17) hx hb dX3_search_59 (by decide) ?_
              exact ih (i + 1) (a + 0) ls hlt (by omega) (by show sM_search_s τ p0 i (sM_search_F τ p0 i) = _; rw [hF]; show sM_search_s τ p0 i a = _; unfold sM_search_s; rw [if_neg c5_] <;> rfl)  (lv_sub hl [2, 3, 1, 0] rfl)
            · refine lv_aload_n hx hb dX3_search_36 rfl (lv_at hl 0 rfl) ?_
              refine lv_aload_n hx hb dX3_search_37 rfl (lv_at hl 0 rfl) ?_
              refine va_get (D := (dC, dI)) (ci := 3) (v := .ref (adr 14)) (C := RX3) (T := TX3) (N := 24) hx hb hts hin hown hK hP 0 rfl rfl 14 (by decide) (hts (.fieldLink RX3 47 RX3 "owners" "[I") (by decide +kernel)) (fun _ h9 => h9) rfl dX3_search_38 ?_
              refine lv_iload_n hx hb dX3_search_41 rfl (lv_at hl 3 rfl) ?_
              refine va_iald (D := (dC, dI)) (i := nI i) (f := τ 14) hx hb hK hP 13 0 rfl rfl (in_c hlt hN.2 (by decide)) dX3_search_42 ?_
              refine vp_callSi (W.runV (As := [.int (τ 14 ((nI i).toNatClampNeg))]) (rest := [.int a]) ⟨hx, hb, hml, hown, hts⟩ (c_M_isGone l dC dI cI cZ cO cW z X h adr τ (τ 14 ((nI i).toNatClampNeg)) (mown_in hI hNc hlt)) (cwV 1 hts gX3_search_X3_isGone rfl rfl rfl (by decide +kernel) ⟨Nat.le_of_ble_eq_true rfl, Nat.le_of_ble_eq_true rfl⟩) (wPreV (Nat.le_trans hz hS.1) hP hK hD (va_recv hK hP (ci := 3) (q0 := 0) rfl rfl)) rfl rfl hl.1 rfl (lv_room (Nat.le_of_ble_eq_true rfl)) dX3_search_43 ⟨Nat.le_of_ble_eq_true rfl, Nat.le_of_ble_eq_true rfl⟩) (fun r e_ => ?_)
              subst e_
              refine lv_if_ne (tgt := 53) hx hb dX3_search_46 (by decide) (fun c6_ => ?_) (fun c6_ => ?_)
              · refine lv_iconst (v := 0) hx hb dX3_search_53 (by decide) ?_
                refine lv_iadd hx hb dX3_search_54 ?_
                refine lv_istore_n (lv' := [(2, .int (a + 0)), (0, .ref h), (1, .int p0), (3, .int (nI i))]) hx hb dX3_search_55 rfl hl (by decide) rfl (fun ls hl => ?_)
                refine lv_iinc (v := nI (i + 1)) (lv' := [(3, .int (nI (i + 1))), (2, .int (a + 0)), (0, .ref h), (1, .int p0)]) hx hb dX3_search_56 hl (k := 3) rfl (nI_1 _) (by decide) rfl (fun ls hl => ?_)
                refine lv_goto (tgt := 17) hx hb dX3_search_59 (by decide) ?_
                exact ih (i + 1) (a + 0) ls hlt (by omega) (by show sM_search_s τ p0 i (sM_search_F τ p0 i) = _; rw [hF]; show sM_search_s τ p0 i a = _; unfold sM_search_s; rw [if_pos c5_, if_neg c6_] <;> rfl)  (lv_sub hl [2, 3, 1, 0] rfl)
              · refine lv_iconst (v := 1) hx hb dX3_search_49 (by decide) ?_
                refine lv_goto (tgt := 54) hx hb dX3_search_50 (by decide) ?_
                refine lv_iadd hx hb dX3_search_54 ?_
                refine lv_istore_n (lv' := [(2, .int (a + 1)), (0, .ref h), (1, .int p0), (3, .int (nI i))]) hx hb dX3_search_55 rfl hl (by decide) rfl (fun ls hl => ?_)
                refine lv_iinc (v := nI (i + 1)) (lv' := [(3, .int (nI (i + 1))), (2, .int (a + 1)), (0, .ref h), (1, .int p0)]) hx hb dX3_search_56 hl (k := 3) rfl (nI_1 _) (by decide) rfl (fun ls hl => ?_)
                refine lv_goto (tgt := 17) hx hb dX3_search_59 (by decide) ?_
                exact ih (i + 1) (a + 1) ls hlt (by omega) (by show sM_search_s τ p0 i (sM_search_F τ p0 i) = _; rw [hF]; show sM_search_s τ p0 i a = _; unfold sM_search_s; rw [if_pos c5_, if_pos c6_] <;> rfl)  (lv_sub hl [2, 3, 1, 0] rfl)
      exact key (N + 1) 0 0 ls (Nat.zero_le _) (by omega) rfl  (lv_sub hl [2, 3, 1, 0] rfl)
    · refine lv_iconst (v := (-1)) hx hb dX3_search_11 (by decide) ?_
      exact w_ri (v := (-1)) hx hb hr hlocks dX3_search_12 (by unfold sM_search; rw [if_neg c1_, if_neg c2_] <;> rfl)
set_option maxHeartbeats 4000000 in
set_option maxRecDepth 100000 in
theorem c_M_order (l : Launch) (dC : Nat → ClassId) (dI : Nat → Nat → Nat) (cI cZ cO cW : ClassId) (z : Nat) (X : va_W) (h : Nat) (adr : Nat → Nat) (τ : T2) (p0 : Int32) (hI : mInv τ) : Met l yX3_order wsX3_order ({ frames := 0, cells := 0, slots := 0, locals := 0 }) (wPc (dC, dI) (tyL cI cZ cO cW) z [.ref h, .int p0] (mW h adr cI cZ τ ++ X)) (vp_Si (fun r => r = sM_order τ p0)) 0 0 (fun _ => False) := by
  refine en_met (cc := cX3_order) (maxL := 2) (ret := (some .int)) (by decide) rfl (Nat.le_of_ble_eq_true rfl) ?_
  intro p e s m below meth c ls hx hb hml hr hts hown hlocks hnm hv hl
  obtain ⟨hz, hP, hK, hD⟩ := hv
  have hown : s.vm.findClass RX3 = some m.cls := hown
  have hin : ∀ w ∈ wsX30, w ∈ wsX3_order := by decide +kernel
  have hS : va_S (fun q : Nat => z ≤ q) s.heap s.heap [] := va_S.rf
  have hl : lv_has ls 2 [(0, .ref h), (1, .int p0)] := hl
  refine lv_iload_n hx hb dX3_order_0 rfl (lv_at hl 1 rfl) ?_
  refine lv_if_lt (tgt := 21) hx hb dX3_order_1 (by decide) (fun c1_ => ?_) (fun c1_ => ?_)
  · refine lv_iconst (v := 0) hx hb dX3_order_21 (by decide) ?_
    exact w_ri (v := 0) hx hb hr hlocks dX3_order_22 (by unfold sM_order; rw [if_pos c1_] <;> rfl)
  · refine lv_iload_n hx hb dX3_order_4 rfl (lv_at hl 1 rfl) ?_
    refine lv_aload_n hx hb dX3_order_5 rfl (lv_at hl 0 rfl) ?_
    refine va_get (D := (dC, dI)) (ci := 3) (v := .int (τ 21 0)) (C := RX3) (T := TX3) (N := 24) hx hb hts hin hown hK hP 0 rfl rfl 21 (by decide) (hts (.fieldLink RX3 110 RX3 "finished" "I") (by decide +kernel)) (fun _ h9 => h9) rfl dX3_order_6 ?_
    refine lv_icmp_ge (tgt := 21) hx hb dX3_order_9 (by decide) (fun c2_ => ?_) (fun c2_ => ?_)
    · refine lv_iconst (v := 0) hx hb dX3_order_21 (by decide) ?_
      exact w_ri (v := 0) hx hb hr hlocks dX3_order_22 (by unfold sM_order; rw [if_neg c1_, if_pos c2_] <;> rfl)
    · refine lv_aload_n hx hb dX3_order_12 rfl (lv_at hl 0 rfl) ?_
      refine va_get (D := (dC, dI)) (ci := 3) (v := .ref (adr 20)) (C := RX3) (T := TX3) (N := 24) hx hb hts hin hown hK hP 0 rfl rfl 20 (by decide) (hts (.fieldLink RX3 59 RX3 "printed" "[I") (by decide +kernel)) (fun _ h9 => h9) rfl dX3_order_13 ?_
      refine lv_iload_n hx hb dX3_order_16 rfl (lv_at hl 1 rfl) ?_
      refine va_iald (D := (dC, dI)) (i := p0) (f := τ 20) hx hb hK hP 17 0 rfl rfl (mord_in hI c1_ c2_) dX3_order_17 ?_
      refine lv_goto (tgt := 22) hx hb dX3_order_18 (by decide) ?_
      exact w_ri (v := τ 20 p0.toNatClampNeg) hx hb hr hlocks dX3_order_22 (by unfold sM_order; rw [if_neg c1_, if_neg c2_] <;> rfl)
set_option maxHeartbeats 4000000 in
set_option maxRecDepth 100000 in
theorem c_M_state (l : Launch) (dC : Nat → ClassId) (dI : Nat → Nat → Nat) (cI cZ cO cW : ClassId) (z : Nat) (X : va_W) (h : Nat) (adr : Nat → Nat) (τ : T2) (p0 : Int32) (p1 : Int32) (hI : mInv τ) : Met l yX3_state wsX3_state ({ frames := 1, cells := 0, slots := 0, locals := 21 }) (wPc (dC, dI) (tyL cI cZ cO cW) z [.ref h, .int p0, .int p1] (mW h adr cI cZ τ ++ X)) (vp_Si (fun r => r = sM_state τ p0 p1)) 0 0 (fun _ => False) := by
  refine en_met (cc := cX3_state) (maxL := 4) (ret := (some .int)) (by decide) rfl (Nat.le_of_ble_eq_true rfl) ?_
  intro p e s m below meth c ls hx hb hml hr hts hown hlocks hnm hv hl
  obtain ⟨hz, hP, hK, hD⟩ := hv
  have hown : s.vm.findClass RX3 = some m.cls := hown
  have hin : ∀ w ∈ wsX30, w ∈ wsX3_state := by decide +kernel
  have hS : va_S (fun q : Nat => z ≤ q) s.heap s.heap [] := va_S.rf
  have hl : lv_has ls 4 [(0, .ref h), (1, .int p0), (2, .int p1)] := hl
  refine lv_aload_n hx hb dX3_state_0 rfl (lv_at hl 0 rfl) ?_
  refine lv_iload_n hx hb dX3_state_1 rfl (lv_at hl 1 rfl) ?_
  refine vp_callSi (W.runV (As := [.int p0]) (rest := []) ⟨hx, hb, hml, hown, hts⟩ (c_M_isOutput l dC dI cI cZ cO cW z X h adr τ p0) (cwV 1 hts gX3_state_X3_isOutput rfl rfl rfl (by decide +kernel) ⟨Nat.le_of_ble_eq_true rfl, Nat.le_of_ble_eq_true rfl⟩) (wPreV (Nat.le_trans hz hS.1) hP hK hD (va_recv hK hP (ci := 3) (q0 := 0) rfl rfl)) rfl rfl hl.1 rfl (lv_room (Nat.le_of_ble_eq_true rfl)) dX3_state_2 ⟨Nat.le_of_ble_eq_true rfl, Nat.le_of_ble_eq_true rfl⟩) (fun r e_ => ?_)
  subst e_
  refine lv_if_ne (tgt := 10) hx hb dX3_state_5 (by decide) (fun c1_ => ?_) (fun c1_ => ?_)
  · refine lv_aload_n hx hb dX3_state_10 rfl (lv_at hl 0 rfl) ?_
    refine lv_iload_n hx hb dX3_state_11 rfl (lv_at hl 1 rfl) ?_
    refine vp_callSi (W.runV (As := [.int p0]) (rest := []) ⟨hx, hb, hml, hown, hts⟩ (c_M_pagesOf l dC dI cI cZ cO cW z X h adr τ p0 (mo_in hI c1_)) (cwV 1 hts gX3_state_X3_pagesOf rfl rfl rfl (by decide +kernel) ⟨Nat.le_of_ble_eq_true rfl, Nat.le_of_ble_eq_true rfl⟩) (wPreV (Nat.le_trans hz hS.1) hP hK hD (va_recv hK hP (ci := 3) (q0 := 0) rfl rfl)) rfl rfl hl.1 rfl (lv_room (Nat.le_of_ble_eq_true rfl)) dX3_state_12 ⟨Nat.le_of_ble_eq_true rfl, Nat.le_of_ble_eq_true rfl⟩) (fun r e_ => ?_)
    subst e_
    refine lv_istore_n (lv' := [(3, .int (sM_pagesOf τ p0)), (0, .ref h), (1, .int p0), (2, .int p1)]) hx hb dX3_state_15 rfl hl (by decide) rfl (fun ls hl => ?_)
    refine lv_iload_n hx hb dX3_state_16 rfl (lv_at hl 3 rfl) ?_
    by_cases c2_ : p1 = 0
    · refine lv_tableIn (tgt := 56) hx hb dX3_state_17 (by rw [c2_]; decide) (by rw [c2_]; decide) (by rw [c2_]; rfl) (by decide) ?_
      refine lv_aload_n hx hb dX3_state_56 rfl (lv_at hl 1 rfl) ?_
      refine va_get (D := (dC, dI)) (ci := 3) (v := .ref (adr 6)) (C := RX3) (T := TX3) (N := 24) hx hb hts hin hown hK hP 0 rfl rfl 6 (by decide) (hts (.fieldLink RX3 25 RX3 "states" "[I") (by decide +kernel)) (fun _ h9 => h9) rfl dX3_state_57 ?_
      refine lv_iload_n hx hb dX3_state_60 rfl (lv_at hl 2 rfl) ?_
      refine va_iald (D := (dC, dI)) (i := p0) (f := τ 6) hx hb hK hP 6 0 rfl rfl (mo_in hI c1_) dX3_state_61 ?_
      refine lv_aload_n hx hb dX3_state_62 rfl (lv_at hl 1 rfl) ?_
      refine va_get (D := (dC, dI)) (ci := 3) (v := .ref (adr 11)) (C := RX3) (T := TX3) (N := 24) hx hb hts hin hown hK hP 0 rfl rfl 11 (by decide) (hts (.fieldLink RX3 41 RX3 "held" "[Z") (by decide +kernel)) (fun _ h9 => h9) rfl dX3_state_63 ?_
      refine lv_iload_n hx hb dX3_state_66 rfl (lv_at hl 2 rfl) ?_
      refine va_zald (D := (dC, dI)) (i := p0) (f := τ 11) hx hb hK hP 11 1 rfl rfl (mo_in hI c1_) dX3_state_67 ?_
      refine lv_if_eq (tgt := 76) hx hb dX3_state_68 (by decide) (fun c8_ => ?_) (fun c8_ => ?_)
      · refine lv_iconst (v := 0) hx hb dX3_state_76 (by decide) ?_
        refine lv_iadd hx hb dX3_state_77 ?_
        exact w_ri (v := (τ 6 p0.toNatClampNeg) + 0) hx hb hr hlocks dX3_state_78 (by unfold sM_state; rw [if_neg c1_, if_pos c2_, if_pos c8_] <;> rfl)
      · refine lv_bipush (v := 6) hx hb dX3_state_71 (by decide) ?_
        refine lv_goto (tgt := 77) hx hb dX3_state_73 (by decide) ?_
        refine lv_iadd hx hb dX3_state_77 ?_
        exact w_ri (v := (τ 6 p0.toNatClampNeg) + 6) hx hb hr hlocks dX3_state_78 (by unfold sM_state; rw [if_neg c1_, if_pos c2_, if_neg c8_] <;> rfl)
    · by_cases c3_ : p1 = 1
      · refine lv_tableIn (tgt := 79) hx hb dX3_state_17 (by rw [c3_]; decide) (by rw [c3_]; decide) (by rw [c3_]; rfl) (by decide) ?_
        refine lv_aload_n hx hb dX3_state_79 rfl (lv_at hl 1 rfl) ?_
        refine va_get (D := (dC, dI)) (ci := 3) (v := .ref (adr 7)) (C := RX3) (T := TX3) (N := 24) hx hb hts hin hown hK hP 0 rfl rfl 7 (by decide) (hts (.fieldLink RX3 28 RX3 "lines" "[I") (by decide +kernel)) (fun _ h9 => h9) rfl dX3_state_80 ?_
        refine lv_iload_n hx hb dX3_state_83 rfl (lv_at hl 2 rfl) ?_
        refine va_iald (D := (dC, dI)) (i := p0) (f := τ 7) hx hb hK hP 7 0 rfl rfl (mo_in hI c1_) dX3_state_84 ?_
        exact w_ri (v := τ 7 p0.toNatClampNeg) hx hb hr hlocks dX3_state_85 (by unfold sM_state; rw [if_neg c1_, if_neg c2_, if_pos c3_] <;> rfl)
      · by_cases c4_ : p1 = 2
        · refine lv_tableIn (tgt := 86) hx hb dX3_state_17 (by rw [c4_]; decide) (by rw [c4_]; decide) (by rw [c4_]; rfl) (by decide) ?_
          refine lv_iload_n hx hb dX3_state_86 rfl (lv_at hl 0 rfl) ?_
          exact w_ri (v := sM_pagesOf τ p0) hx hb hr hlocks dX3_state_87 (by unfold sM_state; rw [if_neg c1_, if_neg c2_, if_neg c3_, if_pos c4_] <;> rfl)
        · by_cases c5_ : p1 = 3
          · refine lv_tableIn (tgt := 88) hx hb dX3_state_17 (by rw [c5_]; decide) (by rw [c5_]; decide) (by rw [c5_]; rfl) (by decide) ?_
            refine lv_aload_n hx hb dX3_state_88 rfl (lv_at hl 1 rfl) ?_
            refine va_get (D := (dC, dI)) (ci := 3) (v := .ref (adr 9)) (C := RX3) (T := TX3) (N := 24) hx hb hts hin hown hK hP 0 rfl rfl 9 (by decide) (hts (.fieldLink RX3 34 RX3 "done" "[I") (by decide +kernel)) (fun _ h9 => h9) rfl dX3_state_89 ?_
            refine lv_iload_n hx hb dX3_state_92 rfl (lv_at hl 2 rfl) ?_
            refine va_iald (D := (dC, dI)) (i := p0) (f := τ 9) hx hb hK hP 9 0 rfl rfl (mo_in hI c1_) dX3_state_93 ?_
            exact w_ri (v := τ 9 p0.toNatClampNeg) hx hb hr hlocks dX3_state_94 (by unfold sM_state; rw [if_neg c1_, if_neg c2_, if_neg c3_, if_neg c4_, if_pos c5_] <;> rfl)
          · by_cases c6_ : p1 = 4
            · refine lv_tableIn (tgt := 95) hx hb dX3_state_17 (by rw [c6_]; decide) (by rw [c6_]; decide) (by rw [c6_]; rfl) (by decide) ?_
              refine lv_aload_n hx hb dX3_state_95 rfl (lv_at hl 1 rfl) ?_
              refine va_get (D := (dC, dI)) (ci := 3) (v := .ref (adr 1)) (C := RX3) (T := TX3) (N := 24) hx hb hts hin hown hK hP 0 rfl rfl 1 (by decide) (hts (.fieldLink RX3 7 RX3 "jobs" "[I") (by decide +kernel)) (fun _ h9 => h9) rfl dX3_state_96 ?_
              refine lv_iload_n hx hb dX3_state_99 rfl (lv_at hl 2 rfl) ?_
              refine va_iald (D := (dC, dI)) (i := p0) (f := τ 1) hx hb hK hP 1 0 rfl rfl (mo_in hI c1_) dX3_state_100 ?_
              exact w_ri (v := τ 1 p0.toNatClampNeg) hx hb hr hlocks dX3_state_101 (by unfold sM_state; rw [if_neg c1_, if_neg c2_, if_neg c3_, if_neg c4_, if_neg c5_, if_pos c6_] <;> rfl)
            · by_cases c7_ : p1 = 5
              · refine lv_tableIn (tgt := 102) hx hb dX3_state_17 (by rw [c7_]; decide) (by rw [c7_]; decide) (by rw [c7_]; rfl) (by decide) ?_
                refine lv_iload_n hx hb dX3_state_102 rfl (lv_at hl 0 rfl) ?_
                refine lv_if_ne (tgt := 115) hx hb dX3_state_103 (by decide) (fun c9_ => ?_) (fun c9_ => ?_)
                · refine lv_aload_n hx hb dX3_state_115 rfl (lv_at hl 1 rfl) ?_
                  refine va_get (D := (dC, dI)) (ci := 3) (v := .ref (adr 3)) (C := RX3) (T := TX3) (N := 24) hx hb hts hin hown hK hP 0 rfl rfl 3 (by decide) (hts (.fieldLink RX3 16 RX3 "copies" "[I") (by decide +kernel)) (fun _ h9 => h9) rfl dX3_state_116 ?_
                  refine lv_iload_n hx hb dX3_state_119 rfl (lv_at hl 2 rfl) ?_
                  refine va_iald (D := (dC, dI)) (i := p0) (f := τ 3) hx hb hK hP 3 0 rfl rfl (mo_in hI c1_) dX3_state_120 ?_
                  refine lv_aload_n hx hb dX3_state_121 rfl (lv_at hl 1 rfl) ?_
                  refine va_get (D := (dC, dI)) (ci := 3) (v := .ref (adr 9)) (C := RX3) (T := TX3) (N := 24) hx hb hts hin hown hK hP 0 rfl rfl 9 (by decide) (hts (.fieldLink RX3 34 RX3 "done" "[I") (by decide +kernel)) (fun _ h9 => h9) rfl dX3_state_122 ?_
                  refine lv_iload_n hx hb dX3_state_125 rfl (lv_at hl 2 rfl) ?_
                  refine va_iald (D := (dC, dI)) (i := p0) (f := τ 9) hx hb hK hP 9 0 rfl rfl (mo_in hI c1_) dX3_state_126 ?_
                  refine lv_iload_n hx hb dX3_state_127 rfl (lv_at hl 0 rfl) ?_
                  refine lv_idiv hx hb dX3_state_128 c9_ ?_
                  refine lv_isub hx hb dX3_state_129 ?_
                  exact w_ri (v := (τ 3 p0.toNatClampNeg) - ((τ 9 p0.toNatClampNeg) / (sM_pagesOf τ p0))) hx hb hr hlocks dX3_state_130 (by unfold sM_state; rw [if_neg c1_, if_neg c2_, if_neg c3_, if_neg c4_, if_neg c5_, if_neg c6_, if_pos c7_, if_neg c9_] <;> rfl)
                · refine lv_aload_n hx hb dX3_state_106 rfl (lv_at hl 1 rfl) ?_
                  refine va_get (D := (dC, dI)) (ci := 3) (v := .ref (adr 3)) (C := RX3) (T := TX3) (N := 24) hx hb hts hin hown hK hP 0 rfl rfl 3 (by decide) (hts (.fieldLink RX3 16 RX3 "copies" "[I") (by decide +kernel)) (fun _ h9 => h9) rfl dX3_state_107 ?_
                  refine lv_iload_n hx hb dX3_state_110 rfl (lv_at hl 2 rfl) ?_
                  refine va_iald (D := (dC, dI)) (i := p0) (f := τ 3) hx hb hK hP 3 0 rfl rfl (mo_in hI c1_) dX3_state_111 ?_
                  refine lv_goto (tgt := 130) hx hb dX3_state_112 (by decide) ?_
                  exact w_ri (v := τ 3 p0.toNatClampNeg) hx hb hr hlocks dX3_state_130 (by unfold sM_state; rw [if_neg c1_, if_neg c2_, if_neg c3_, if_neg c4_, if_neg c5_, if_neg c6_, if_pos c7_, if_pos c9_] <;> rfl)
              · refine lv_tableOut (tgt := 131) hx hb dX3_state_17 (by have q0 := lv_neT c2_ (show (0 : Int32).toInt = 0 from rfl); have q1 := lv_neT c3_ (show (1 : Int32).toInt = 1 from rfl); have q2 := lv_neT c4_ (show (2 : Int32).toInt = 2 from rfl); have q3 := lv_neT c5_ (show (3 : Int32).toInt = 3 from rfl); have q4 := lv_neT c6_ (show (4 : Int32).toInt = 4 from rfl); have q5 := lv_neT c7_ (show (5 : Int32).toInt = 5 from rfl); omega) (by decide) ?_
                refine lv_iconst (v := (-1)) hx hb dX3_state_131 (by decide) ?_
                exact w_ri (v := (-1)) hx hb hr hlocks dX3_state_132 (by unfold sM_state; rw [if_neg c1_, if_neg c2_, if_neg c3_, if_neg c4_, if_neg c5_, if_neg c6_, if_neg c7_] <;> rfl)
  · refine lv_iconst (v := (-1)) hx hb dX3_state_8 (by decide) ?_
    exact w_ri (v := (-1)) hx hb hr hlocks dX3_state_9 (by unfold sM_state; rw [if_pos c1_] <;> rfl)
set_option maxHeartbeats 4000000 in
set_option maxRecDepth 100000 in
theorem c_M_count (l : Launch) (dC : Nat → ClassId) (dI : Nat → Nat → Nat) (cI cZ cO cW : ClassId) (z : Nat) (X : va_W) (h : Nat) (adr : Nat → Nat) (τ : T2) (p0 : Int32) (hI : mInv τ) : Met l yX3_count wsX3_count ({ frames := 2, cells := 0, slots := 0, locals := 43 }) (wPc (dC, dI) (tyL cI cZ cO cW) z [.ref h, .int p0] (mW h adr cI cZ τ ++ X)) (vp_Si (fun r => r = sM_count τ p0)) 0 0 (fun _ => False) := by
  refine en_met (cc := cX3_count) (maxL := 4) (ret := (some .int)) (by decide) rfl (Nat.le_of_ble_eq_true rfl) ?_
  intro p e s m below meth c ls hx hb hml hr hts hown hlocks hnm hv hl
  obtain ⟨hz, hP, hK, hD⟩ := hv
  have hown : s.vm.findClass RX3 = some m.cls := hown
  have hin : ∀ w ∈ wsX30, w ∈ wsX3_count := by decide +kernel
  have hS : va_S (fun q : Nat => z ≤ q) s.heap s.heap [] := va_S.rf
  have hl : lv_has ls 4 [(0, .ref h), (1, .int p0)] := hl
  refine lv_iconst (v := 0) hx hb dX3_count_0 (by decide) ?_
  refine lv_istore_n (lv' := [(2, .int 0), (0, .ref h), (1, .int p0)]) hx hb dX3_count_1 rfl hl (by decide) rfl (fun ls hl => ?_)
  refine lv_iconst (v := 1) hx hb dX3_count_2 (by decide) ?_
  refine lv_istore_n (lv' := [(3, .int 1), (2, .int 0), (0, .ref h), (1, .int p0)]) hx hb dX3_count_3 rfl hl (by decide) rfl (fun ls hl => ?_)
  obtain ⟨N, hNc⟩ : ∃ N : Nat, N = (τ 13 0).toNatClampNeg := ⟨_, rfl⟩
  have hN := mN_out hI
  rw [← hNc] at hN
  have key : ∀ (n i : Nat) (a : Int32) (ls : Array Slot), i ≤ N → N - i < n → sM_count_F τ p0 i = a → lv_has ls 4 [(0, .ref h), (1, .int p0), (2, .int a), (3, .int (nI (i + 1)))] → W p l e ({ frames := 2, cells := 0, slots := 0, locals := 43 }) s m ([.ref h, .int p0] : List Value).toArray below meth c s.heap [] 0 0 (MQ below (vp_Si (fun r => r = sM_count τ p0)) ([.ref h, .int p0] : List Value).toArray s 0 0 (fun _ => False)) (F0 m 4 ls []) := by
    intro n
    induction n with
    | zero => intro i a ls hi hn; exact absurd hn (Nat.not_lt_zero _)
    | succ n ih =>
      intro i a ls hi hn hF hl
      refine lv_iload_n hx hb dX3_count_4 rfl (lv_at hl 3 rfl) ?_
      refine lv_aload_n hx hb dX3_count_5 rfl (lv_at hl 0 rfl) ?_
      refine va_get (D := (dC, dI)) (ci := 3) (v := .int (τ 13 0)) (C := RX3) (T := TX3) (N := 24) hx hb hts hin hown hK hP 0 rfl rfl 13 (by decide) (hts (.fieldLink RX3 67 RX3 "outputs" "I") (by decide +kernel)) (fun _ h9 => h9) rfl dX3_count_6 ?_
      refine lv_icmp_gt (tgt := 34) hx hb dX3_count_9 (by decide) (fun c2_ => ?_) (fun c2_ => ?_)
      · have hiN : i = N := lg_out hN.1 hN.2 (by decide) hi c2_
        subst hiN
        refine lv_iload_n hx hb dX3_count_34 rfl (lv_at hl 1 rfl) ?_
        by_cases c3_ : p0 = 0
        · refine lv_tableIn (tgt := 68) hx hb dX3_count_35 (by rw [c3_]; decide) (by rw [c3_]; decide) (by rw [c3_]; rfl) (by decide) ?_
          refine lv_aload_n hx hb dX3_count_68 rfl (lv_at hl 0 rfl) ?_
          refine vp_callSi (W.runV (As := []) (rest := []) ⟨hx, hb, hml, hown, hts⟩ (c_M_free l dC dI cI cZ cO cW z X h adr τ hI) (cwV 0 hts gX3_count_X3_free rfl rfl rfl (by decide +kernel) ⟨Nat.le_of_ble_eq_true rfl, Nat.le_of_ble_eq_true rfl⟩) (wPreV (Nat.le_trans hz hS.1) hP hK hD (va_recv hK hP (ci := 3) (q0 := 0) rfl rfl)) rfl rfl hl.1 rfl (lv_room (Nat.le_of_ble_eq_true rfl)) dX3_count_69 ⟨Nat.le_of_ble_eq_true rfl, Nat.le_of_ble_eq_true rfl⟩) (fun r e_ => ?_)
          subst e_
          exact w_ri (v := sM_free τ) hx hb hr hlocks dX3_count_72 (by unfold sM_count; rw [← hNc, hF]; show _ = sM_count_x τ p0 a; unfold sM_count_x; rw [if_pos c3_] <;> rfl)
        · by_cases c4_ : p0 = 1
          · refine lv_tableIn (tgt := 73) hx hb dX3_count_35 (by rw [c4_]; decide) (by rw [c4_]; decide) (by rw [c4_]; rfl) (by decide) ?_
            refine lv_iload_n hx hb dX3_count_73 rfl (lv_at hl 2 rfl) ?_
            exact w_ri (v := a) hx hb hr hlocks dX3_count_74 (by unfold sM_count; rw [← hNc, hF]; show _ = sM_count_x τ p0 a; unfold sM_count_x; rw [if_neg c3_, if_pos c4_] <;> rfl)
          · by_cases c5_ : p0 = 2
            · refine lv_tableIn (tgt := 75) hx hb dX3_count_35 (by rw [c5_]; decide) (by rw [c5_]; decide) (by rw [c5_]; rfl) (by decide) ?_
              refine lv_aload_n hx hb dX3_count_75 rfl (lv_at hl 0 rfl) ?_
              refine va_get (D := (dC, dI)) (ci := 3) (v := .int (τ 19 0)) (C := RX3) (T := TX3) (N := 24) hx hb hts hin hown hK hP 0 rfl rfl 19 (by decide) (hts (.fieldLink RX3 70 RX3 "writers" "I") (by decide +kernel)) (fun _ h9 => h9) rfl dX3_count_76 ?_
              exact w_ri (v := τ 19 0) hx hb hr hlocks dX3_count_79 (by unfold sM_count; rw [← hNc, hF]; show _ = sM_count_x τ p0 a; unfold sM_count_x; rw [if_neg c3_, if_neg c4_, if_pos c5_] <;> rfl)
            · by_cases c6_ : p0 = 3
              · refine lv_tableIn (tgt := 80) hx hb dX3_count_35 (by rw [c6_]; decide) (by rw [c6_]; decide) (by rw [c6_]; rfl) (by decide) ?_
                refine lv_aload_n hx hb dX3_count_80 rfl (lv_at hl 0 rfl) ?_
                refine va_get (D := (dC, dI)) (ci := 3) (v := .int (τ 22 0)) (C := RX3) (T := TX3) (N := 24) hx hb hts hin hown hK hP 0 rfl rfl 22 (by decide) (hts (.fieldLink RX3 107 RX3 "pagesPrinted" "I") (by decide +kernel)) (fun _ h9 => h9) rfl dX3_count_81 ?_
                exact w_ri (v := τ 22 0) hx hb hr hlocks dX3_count_84 (by unfold sM_count; rw [← hNc, hF]; show _ = sM_count_x τ p0 a; unfold sM_count_x; rw [if_neg c3_, if_neg c4_, if_neg c5_, if_pos c6_] <;> rfl)
              · by_cases c7_ : p0 = 4
                · refine lv_tableIn (tgt := 85) hx hb dX3_count_35 (by rw [c7_]; decide) (by rw [c7_]; decide) (by rw [c7_]; rfl) (by decide) ?_
                  refine lv_aload_n hx hb dX3_count_85 rfl (lv_at hl 0 rfl) ?_
                  refine va_get (D := (dC, dI)) (ci := 3) (v := .int (τ 23 0)) (C := RX3) (T := TX3) (N := 24) hx hb hts hin hown hK hP 0 rfl rfl 23 (by decide) (hts (.fieldLink RX3 113 RX3 "again" "I") (by decide +kernel)) (fun _ h9 => h9) rfl dX3_count_86 ?_
                  exact w_ri (v := τ 23 0) hx hb hr hlocks dX3_count_89 (by unfold sM_count; rw [← hNc, hF]; show _ = sM_count_x τ p0 a; unfold sM_count_x; rw [if_neg c3_, if_neg c4_, if_neg c5_, if_neg c6_, if_pos c7_] <;> rfl)
                · refine lv_tableOut (tgt := 90) hx hb dX3_count_35 (by have q0 := lv_neT c3_ (show (0 : Int32).toInt = 0 from rfl); have q1 := lv_neT c4_ (show (1 : Int32).toInt = 1 from rfl); have q2 := lv_neT c5_ (show (2 : Int32).toInt = 2 from rfl); have q3 := lv_neT c6_ (show (3 : Int32).toInt = 3 from rfl); have q4 := lv_neT c7_ (show (4 : Int32).toInt = 4 from rfl); omega) (by decide) ?_
                  refine lv_iconst (v := (-1)) hx hb dX3_count_90 (by decide) ?_
                  exact w_ri (v := (-1)) hx hb hr hlocks dX3_count_91 (by unfold sM_count; rw [← hNc, hF]; show _ = sM_count_x τ p0 a; unfold sM_count_x; rw [if_neg c3_, if_neg c4_, if_neg c5_, if_neg c6_, if_neg c7_] <;> rfl)
      · have hlt : i < N := lg_in hN.1 hN.2 (by decide) hi c2_
        refine lv_iload_n hx hb dX3_count_12 rfl (lv_at hl 2 rfl) ?_
        refine lv_aload_n hx hb dX3_count_13 rfl (lv_at hl 0 rfl) ?_
        refine lv_iload_n hx hb dX3_count_14 rfl (lv_at hl 3 rfl) ?_
        refine vp_callSi (W.runV (As := [.int (nI (i + 1))]) (rest := [.int a]) ⟨hx, hb, hml, hown, hts⟩ (c_M_isGone l dC dI cI cZ cO cW z X h adr τ (nI (i + 1)) (in_g hlt hN.2)) (cwV 1 hts gX3_count_X3_isGone rfl rfl rfl (by decide +kernel) ⟨Nat.le_of_ble_eq_true rfl, Nat.le_of_ble_eq_true rfl⟩) (wPreV (Nat.le_trans hz hS.1) hP hK hD (va_recv hK hP (ci := 3) (q0 := 0) rfl rfl)) rfl rfl hl.1 rfl (lv_room (Nat.le_of_ble_eq_true rfl)) dX3_count_15 ⟨Nat.le_of_ble_eq_true rfl, Nat.le_of_ble_eq_true rfl⟩) (fun r e_ => ?_)
        subst e_
        refine lv_if_eq (tgt := 25) hx hb dX3_count_18 (by decide) (fun c8_ => ?_) (fun c8_ => ?_)
        · refine lv_iconst (v := 1) hx hb dX3_count_25 (by decide) ?_
          refine lv_iadd hx hb dX3_count_26 ?_
          refine lv_istore_n (lv' := [(2, .int (a + 1)), (0, .ref h), (1, .int p0), (3, .int (nI (i + 1)))]) hx hb dX3_count_27 rfl hl (by decide) rfl (fun ls hl => ?_)
          refine lv_iinc (v := nI (i + 1 + 1)) (lv' := [(3, .int (nI (i + 1 + 1))), (2, .int (a + 1)), (0, .ref h), (1, .int p0)]) hx hb dX3_count_28 hl (k := 3) rfl (nI_1 _) (by decide) rfl (fun ls hl => ?_)
          refine lv_goto (tgt := 4) hx hb dX3_count_31 (by decide) ?_
          exact ih (i + 1) (a + 1) ls hlt (by omega) (by show sM_count_s τ p0 i (sM_count_F τ p0 i) = _; rw [hF]; show sM_count_s τ p0 i a = _; unfold sM_count_s; rw [if_pos c8_] <;> rfl)  (lv_sub hl [2, 3, 1, 0] rfl)
        · refine lv_iconst (v := 0) hx hb dX3_count_21 (by decide) ?_
          refine lv_goto (tgt := 26) hx hb dX3_count_22 (by decide) ?_
          refine lv_iadd hx hb dX3_count_26 ?_
          refine lv_istore_n (lv' := [(2, .int (a + 0)), (0, .ref h), (1, .int p0), (3, .int (nI (i + 1)))]) hx hb dX3_count_27 rfl hl (by decide) rfl (fun ls hl => ?_)
          refine lv_iinc (v := nI (i + 1 + 1)) (lv' := [(3, .int (nI (i + 1 + 1))), (2, .int (a + 0)), (0, .ref h), (1, .int p0)]) hx hb dX3_count_28 hl (k := 3) rfl (nI_1 _) (by decide) rfl (fun ls hl => ?_)
          refine lv_goto (tgt := 4) hx hb dX3_count_31 (by decide) ?_
          exact ih (i + 1) (a + 0) ls hlt (by omega) (by show sM_count_s τ p0 i (sM_count_F τ p0 i) = _; rw [hF]; show sM_count_s τ p0 i a = _; unfold sM_count_s; rw [if_neg c8_] <;> rfl)  (lv_sub hl [2, 3, 1, 0] rfl)
  exact key (N + 1) 0 0 ls (Nat.zero_le _) (by omega) rfl  (lv_sub hl [2, 3, 1, 0] rfl)
