set_option maxHeartbeats 4000000 in
set_option maxRecDepth 100000 in
theorem c_C_search (l : Launch) (dC : Nat → ClassId) (dI : Nat → Nat → Nat) (cI cZ cO cW : ClassId) (z : Nat) (X : va_W) (h : Nat) (adr ad wd : Nat → Nat) (nO nW : Nat) (σ : T2) (p0 : Int32) (hI : cInv nO nW σ) : Met l yX0_search wsX0_search ({ frames := 3, cells := 0, slots := 0, locals := 65 }) (wPc (dC, dI) (tyL cI cZ cO cW) z [.ref h, .int p0] (cWd h adr ad wd nO nW cI cO cW σ ++ X)) (vp_Si (fun r => r = sC_search σ p0)) 0 0 (fun _ => False) := by
  refine en_met (cc := cX0_search) (maxL := 4) (ret := (some .int)) (by decide) rfl (Nat.le_of_ble_eq_true rfl) ?_
  intro p e s m below meth c ls hx hb hml hr hts hown hlocks hnm hv hl
  obtain ⟨hz, hP, hK, hD⟩ := hv
  have hown : s.vm.findClass RX0 = some m.cls := hown
  have hS : va_S (fun q : Nat => z ≤ q) s.heap s.heap [] := va_S.rf
  have hin0 : ∀ w ∈ wsX00, w ∈ wsX0_search := by decide +kernel
  have hl : lv_has ls 4 [(0, .ref h), (1, .int p0)] := hl
  refine lv_iload_n hx hb dX0_search_0 rfl (lv_at hl 1 rfl) ?_
  refine lv_iconst (v := 0) hx hb dX0_search_1 (by decide) ?_
  refine lv_sipush (v := 255) hx hb dX0_search_2 (by decide) ?_
  refine vp_callSi (W.runS (As := [.int p0, .int 0, .int 255]) (rest := []) ⟨hx, hb, hml, hown, hts⟩ (c_C_isWithin l dC dI cI cZ cO cW z X h adr ad wd nO nW σ p0 0 255) (va_cwS 3 hts gX0_search_X0_isWithin rfl rfl rfl (by decide +kernel) ⟨Nat.le_of_ble_eq_true rfl, Nat.le_of_ble_eq_true rfl⟩) (wPreS (Nat.le_trans hz hS.1) hP hK hD) rfl rfl hl.1 rfl (lv_room (Nat.le_of_ble_eq_true rfl)) dX0_search_5 ⟨Nat.le_of_ble_eq_true rfl, Nat.le_of_ble_eq_true rfl⟩) (fun r e_ => ?_)
  subst e_
  refine lv_if_ne (tgt := 13) hx hb dX0_search_8 (by decide) (fun c1_ => ?_) (fun c1_ => ?_)
  · refine lv_iconst (v := 0) hx hb dX0_search_13 (by decide) ?_
    refine lv_istore_n (lv' := [(2, .int 0), (0, .ref h), (1, .int p0)]) hx hb dX0_search_14 rfl hl (by decide) rfl (fun ls hl => ?_)
    refine lv_iconst (v := 0) hx hb dX0_search_15 (by decide) ?_
    refine lv_istore_n (lv' := [(3, .int 0), (2, .int 0), (0, .ref h), (1, .int p0)]) hx hb dX0_search_16 rfl hl (by decide) rfl (fun ls hl => ?_)
    obtain ⟨N, hNc⟩ : ∃ N : Nat, N = (σ 10 0).toNatClampNeg := ⟨_, rfl⟩
    have hN := cN_kept hI
    rw [← hNc] at hN
    have key : ∀ (n i : Nat) (a : Int32) (ls : Array Slot), i ≤ N → N - i < n → sC_search_F σ p0 i = a → lv_has ls 4 [(0, .ref h), (1, .int p0), (2, .int a), (3, .int (nI i))] → W p l e ({ frames := 3, cells := 0, slots := 0, locals := 65 }) s m ([.ref h, .int p0] : List Value).toArray below meth c s.heap [] 0 0 (MQ below (vp_Si (fun r => r = sC_search σ p0)) ([.ref h, .int p0] : List Value).toArray s 0 0 (fun _ => False)) (F0 m 17 ls []) := by
      intro n
      induction n with
      | zero => intro i a ls hi hn; exact absurd hn (Nat.not_lt_zero _)
      | succ n ih =>
        intro i a ls hi hn hF hl
        refine lv_iload_n hx hb dX0_search_17 rfl (lv_at hl 3 rfl) ?_
        refine lv_aload_n hx hb dX0_search_18 rfl (lv_at hl 0 rfl) ?_
        refine va_get (v := .int (σ 10 0)) (D := (dC, dI)) (ci := 0) (C := RX0) (T := TX0) (N := 13) hx hb hts hin0 hown hK hP 0 rfl rfl 10 (by decide) (hts (.fieldLink RX0 170 RX0 "keptLines" "I") (by decide +kernel)) (fun _ h9 => h9) rfl dX0_search_19 ?_
        refine lv_icmp_ge (tgt := 57) hx hb dX0_search_22 (by decide) (fun c3_ => ?_) (fun c3_ => ?_)
        · have hiN : i = N := lc_out hN.1 hN.2 (by decide) hi c3_
          subst hiN
          refine lv_iload_n hx hb dX0_search_57 rfl (lv_at hl 2 rfl) ?_
          exact w_ri (v := a) hx hb hr hlocks dX0_search_58 (by unfold sC_search; rw [if_neg c1_, ← hNc, hF]; show _ = sC_search_x σ p0 a; unfold sC_search_x; rfl)
        · have hlt : i < N := lc_in hN.1 hN.2 (by decide) hi c3_
          refine lv_aload_n hx hb dX0_search_25 rfl (lv_at hl 0 rfl) ?_
          refine va_get (v := .ref (adr 8)) (D := (dC, dI)) (ci := 0) (C := RX0) (T := TX0) (N := 13) hx hb hts hin0 hown hK hP 0 rfl rfl 8 (by decide) (hts (.fieldLink RX0 25 RX0 "lineSigns" "[I") (by decide +kernel)) (fun _ h9 => h9) rfl dX0_search_26 ?_
          refine lv_iload_n hx hb dX0_search_29 rfl (lv_at hl 3 rfl) ?_
          refine va_iald (D := (dC, dI)) (i := nI i) (f := σ 8) hx hb hK hP 4 0 rfl rfl (in_c hlt hN.2 (by decide)) dX0_search_30 ?_
          refine lv_iload_n hx hb dX0_search_31 rfl (lv_at hl 1 rfl) ?_
          refine lv_icmp_ne (tgt := 51) hx hb dX0_search_32 (by decide) (fun c4_ => ?_) (fun c4_ => ?_)
          · refine lv_iinc (v := nI (i + 1)) (lv' := [(3, .int (nI (i + 1))), (0, .ref h), (1, .int p0), (2, .int a)]) hx hb dX0_search_51 hl (k := 3) rfl (nI_1 _) (by decide) rfl (fun ls hl => ?_)
            refine lv_goto (tgt := 17) hx hb dX0_search_54 (by decide) ?_
            exact ih (i + 1) a ls hlt (by omega) (by show sC_search_s σ p0 i (sC_search_F σ p0 i) = _; rw [hF]; show sC_search_s σ p0 i a = _; unfold sC_search_s; rw [if_neg c4_] <;> rfl)  (lv_sub hl [1, 2, 3, 0] rfl)
          · refine lv_aload_n hx hb dX0_search_35 rfl (lv_at hl 0 rfl) ?_
            refine lv_aload_n hx hb dX0_search_36 rfl (lv_at hl 0 rfl) ?_
            refine va_get (v := .ref (adr 9)) (D := (dC, dI)) (ci := 0) (C := RX0) (T := TX0) (N := 13) hx hb hts hin0 hown hK hP 0 rfl rfl 9 (by decide) (hts (.fieldLink RX0 28 RX0 "lineOutputs" "[I") (by decide +kernel)) (fun _ h9 => h9) rfl dX0_search_37 ?_
            refine lv_iload_n hx hb dX0_search_40 rfl (lv_at hl 3 rfl) ?_
            refine va_iald (D := (dC, dI)) (i := nI i) (f := σ 9) hx hb hK hP 5 0 rfl rfl (in_c hlt hN.2 (by decide)) dX0_search_41 ?_
            refine vp_callSi (W.runV (As := [.int (σ 9 ((nI i).toNatClampNeg))]) (rest := []) ⟨hx, hb, hml, hown, hts⟩ (c_C_isThere l dC dI cI cZ cO cW z X h adr ad wd nO nW σ (σ 9 ((nI i).toNatClampNeg)) hI) (cwV 1 hts gX0_search_X0_isThere rfl rfl rfl (by decide +kernel) ⟨Nat.le_of_ble_eq_true rfl, Nat.le_of_ble_eq_true rfl⟩) (wPreV (Nat.le_trans hz hS.1) hP hK hD (va_recv hK hP (ci := 0) (q0 := 0) rfl rfl)) rfl rfl hl.1 rfl (lv_room (Nat.le_of_ble_eq_true rfl)) dX0_search_42 ⟨Nat.le_of_ble_eq_true rfl, Nat.le_of_ble_eq_true rfl⟩) (fun r e_ => ?_)
            subst e_
            refine lv_if_eq (tgt := 51) hx hb dX0_search_45 (by decide) (fun c5_ => ?_) (fun c5_ => ?_)
            · refine lv_iinc (v := nI (i + 1)) (lv' := [(3, .int (nI (i + 1))), (0, .ref h), (1, .int p0), (2, .int a)]) hx hb dX0_search_51 hl (k := 3) rfl (nI_1 _) (by decide) rfl (fun ls hl => ?_)
              refine lv_goto (tgt := 17) hx hb dX0_search_54 (by decide) ?_
              exact ih (i + 1) a ls hlt (by omega) (by show sC_search_s σ p0 i (sC_search_F σ p0 i) = _; rw [hF]; show sC_search_s σ p0 i a = _; unfold sC_search_s; rw [if_pos c4_, if_pos c5_] <;> rfl)  (lv_sub hl [1, 2, 3, 0] rfl)
            · refine lv_iinc (v := a + 1) (lv' := [(2, .int (a + 1)), (0, .ref h), (1, .int p0), (3, .int (nI i))]) hx hb dX0_search_48 hl (k := 2) rfl (by rfl) (by decide) rfl (fun ls hl => ?_)
              refine lv_iinc (v := nI (i + 1)) (lv' := [(3, .int (nI (i + 1))), (2, .int (a + 1)), (0, .ref h), (1, .int p0)]) hx hb dX0_search_51 hl (k := 3) rfl (nI_1 _) (by decide) rfl (fun ls hl => ?_)
              refine lv_goto (tgt := 17) hx hb dX0_search_54 (by decide) ?_
              exact ih (i + 1) (a + 1) ls hlt (by omega) (by show sC_search_s σ p0 i (sC_search_F σ p0 i) = _; rw [hF]; show sC_search_s σ p0 i a = _; unfold sC_search_s; rw [if_pos c4_, if_neg c5_] <;> rfl)  (lv_sub hl [2, 3, 1, 0] rfl)
    exact key (N + 1) 0 0 ls (Nat.zero_le _) (by omega) rfl  (lv_sub hl [2, 3, 1, 0] rfl)
  · refine lv_iconst (v := (-1)) hx hb dX0_search_11 (by decide) ?_
    exact w_ri (v := (-1)) hx hb hr hlocks dX0_search_12 (by unfold sC_search; rw [if_pos c1_] <;> rfl)
set_option maxHeartbeats 4000000 in
set_option maxRecDepth 100000 in
theorem c_C_order (l : Launch) (dC : Nat → ClassId) (dI : Nat → Nat → Nat) (cI cZ cO cW : ClassId) (z : Nat) (X : va_W) (h : Nat) (adr ad wd : Nat → Nat) (nO nW : Nat) (σ : T2) (p0 : Int32) (hI : cInv nO nW σ) : Met l yX0_order wsX0_order ({ frames := 1, cells := 0, slots := 0, locals := 22 }) (wPc (dC, dI) (tyL cI cZ cO cW) z [.ref h, .int p0] (cWd h adr ad wd nO nW cI cO cW σ ++ X)) (vp_Si (fun r => r = sC_order σ p0)) 0 0 (fun _ => False) := by
  refine en_met (cc := cX0_order) (maxL := 2) (ret := (some .int)) (by decide) rfl (Nat.le_of_ble_eq_true rfl) ?_
  intro p e s m below meth c ls hx hb hml hr hts hown hlocks hnm hv hl
  obtain ⟨hz, hP, hK, hD⟩ := hv
  have hown : s.vm.findClass RX0 = some m.cls := hown
  have hS : va_S (fun q : Nat => z ≤ q) s.heap s.heap [] := va_S.rf
  have hin0 : ∀ w ∈ wsX00, w ∈ wsX0_order := by decide +kernel
  have hl : lv_has ls 2 [(0, .ref h), (1, .int p0)] := hl
  refine lv_iload_n hx hb dX0_order_0 rfl (lv_at hl 1 rfl) ?_
  refine lv_iconst (v := 0) hx hb dX0_order_1 (by decide) ?_
  refine lv_aload_n hx hb dX0_order_2 rfl (lv_at hl 0 rfl) ?_
  refine va_get (v := .int (σ 7 0)) (D := (dC, dI)) (ci := 0) (C := RX0) (T := TX0) (N := 13) hx hb hts hin0 hown hK hP 0 rfl rfl 7 (by decide) (hts (.fieldLink RX0 176 RX0 "printedCount" "I") (by decide +kernel)) (fun _ h9 => h9) rfl dX0_order_3 ?_
  refine lv_iconst (v := 1) hx hb dX0_order_6 (by decide) ?_
  refine lv_isub hx hb dX0_order_7 ?_
  refine vp_callSi (W.runS (As := [.int p0, .int 0, .int ((σ 7 0) - 1)]) (rest := []) ⟨hx, hb, hml, hown, hts⟩ (c_C_isWithin l dC dI cI cZ cO cW z X h adr ad wd nO nW σ p0 0 ((σ 7 0) - 1)) (va_cwS 3 hts gX0_order_X0_isWithin rfl rfl rfl (by decide +kernel) ⟨Nat.le_of_ble_eq_true rfl, Nat.le_of_ble_eq_true rfl⟩) (wPreS (Nat.le_trans hz hS.1) hP hK hD) rfl rfl hl.1 rfl (lv_room (Nat.le_of_ble_eq_true rfl)) dX0_order_8 ⟨Nat.le_of_ble_eq_true rfl, Nat.le_of_ble_eq_true rfl⟩) (fun r e_ => ?_)
  subst e_
  refine lv_if_eq (tgt := 23) hx hb dX0_order_11 (by decide) (fun c1_ => ?_) (fun c1_ => ?_)
  · refine lv_iconst (v := 0) hx hb dX0_order_23 (by decide) ?_
    exact w_ri (v := 0) hx hb hr hlocks dX0_order_24 (by unfold sC_order; rw [if_pos c1_] <;> rfl)
  · refine lv_aload_n hx hb dX0_order_14 rfl (lv_at hl 0 rfl) ?_
    refine va_get (v := .ref (adr 6)) (D := (dC, dI)) (ci := 0) (C := RX0) (T := TX0) (N := 13) hx hb hts hin0 hown hK hP 0 rfl rfl 6 (by decide) (hts (.fieldLink RX0 21 RX0 "printedOrder" "[I") (by decide +kernel)) (fun _ h9 => h9) rfl dX0_order_15 ?_
    refine lv_iload_n hx hb dX0_order_18 rfl (lv_at hl 1 rfl) ?_
    refine va_iald (D := (dC, dI)) (i := p0) (f := σ 6) hx hb hK hP 3 0 rfl rfl (cord_in hI c1_) dX0_order_19 ?_
    refine lv_goto (tgt := 24) hx hb dX0_order_20 (by decide) ?_
    exact w_ri (v := σ 6 p0.toNatClampNeg) hx hb hr hlocks dX0_order_24 (by unfold sC_order; rw [if_neg c1_] <;> rfl)
set_option maxHeartbeats 4000000 in
set_option maxRecDepth 100000 in
theorem c_C_state (l : Launch) (dC : Nat → ClassId) (dI : Nat → Nat → Nat) (cI cZ cO cW : ClassId) (z : Nat) (X : va_W) (h : Nat) (adr ad wd : Nat → Nat) (nO nW : Nat) (σ : T2) (p0 : Int32) (p1 : Int32) (hI : cInv nO nW σ) : Met l yX0_state wsX0_state ({ frames := 2, cells := 0, slots := 0, locals := 43 }) (wPc (dC, dI) (tyL cI cZ cO cW) z [.ref h, .int p0, .int p1] (cWd h adr ad wd nO nW cI cO cW σ ++ X)) (vp_Si (fun r => r = sC_state σ p0 p1)) 0 0 (fun _ => False) := by
  refine en_met (cc := cX0_state) (maxL := 4) (ret := (some .int)) (by decide) rfl (Nat.le_of_ble_eq_true rfl) ?_
  intro p e s m below meth c ls hx hb hml hr hts hown hlocks hnm hv hl
  obtain ⟨hz, hP, hK, hD⟩ := hv
  have hown : s.vm.findClass RX0 = some m.cls := hown
  have hS : va_S (fun q : Nat => z ≤ q) s.heap s.heap [] := va_S.rf
  have hin1 : ∀ w ∈ wsX10, w ∈ wsX0_state := by decide +kernel
  have hl : lv_has ls 4 [(0, .ref h), (1, .int p0), (2, .int p1)] := hl
  refine lv_aload_n hx hb dX0_state_0 rfl (lv_at hl 0 rfl) ?_
  refine lv_iload_n hx hb dX0_state_1 rfl (lv_at hl 1 rfl) ?_
  refine va_csq (W.runV (As := [.int p0]) (rest := []) ⟨hx, hb, hml, hown, hts⟩ (c_C_outputOf l dC dI cI cZ cO cW z X h adr ad wd nO nW σ p0 (oi hI)) (cwV 1 hts gX0_state_X0_outputOf rfl rfl rfl (by decide +kernel) ⟨Nat.le_of_ble_eq_true rfl, Nat.le_of_ble_eq_true rfl⟩) (wPreV (Nat.le_trans hz hS.1) hP hK hD (va_recv hK hP (ci := 0) (q0 := 0) rfl rfl)) rfl rfl hl.1 rfl (lv_room (Nat.le_of_ble_eq_true rfl)) dX0_state_2 ⟨Nat.le_of_ble_eq_true rfl, Nat.le_of_ble_eq_true rfl⟩) (fun r e_ => ?_)
  subst e_
  by_cases c1_ : (sC_isWithin p0 1 (σ 3 0)) = 0
  · rw [oo_none c1_]
    refine W.eq (g2 := F0 m 5 ls [.null]) rfl ?_
    refine lv_astore_nN (lv' := [(3, .null), (0, .ref h), (1, .int p0), (2, .int p1)]) hx hb dX0_state_5 rfl hl (by decide) rfl (fun ls hl => ?_)
    refine lv_aload_nN hx hb dX0_state_6 rfl (lv_at hl 0 rfl) ?_
    refine lv_ifnonnullN hx hb dX0_state_7 ?_
    refine lv_iconst (v := (-1)) hx hb dX0_state_10 (by decide) ?_
    exact w_ri (v := (-1)) hx hb hr hlocks dX0_state_11 (by unfold sC_state; rw [if_pos c1_] <;> rfl)
  · rw [oo_some c1_]
    refine W.eq (g2 := F0 m 5 ls [.ref (ad ((p0 - 1).toNatClampNeg))]) rfl ?_
    refine lv_astore_n (lv' := [(3, .ref (ad ((p0 - 1).toNatClampNeg))), (0, .ref h), (1, .int p0), (2, .int p1)]) hx hb dX0_state_5 rfl hl (by decide) rfl (fun ls hl => ?_)
    refine lv_aload_n hx hb dX0_state_6 rfl (lv_at hl 0 rfl) ?_
    refine lv_ifnonnull (tgt := 12) hx hb dX0_state_7 (by decide) ?_
    refine lv_iload_n hx hb dX0_state_12 rfl (lv_at hl 3 rfl) ?_
    by_cases c2_ : p1 = 0
    · refine lv_tableIn (tgt := 52) hx hb dX0_state_13 (by rw [c2_]; decide) (by rw [c2_]; decide) (by rw [c2_]; rfl) (by decide) ?_
      refine lv_aload_n hx hb dX0_state_52 rfl (lv_at hl 0 rfl) ?_
      refine va_get (v := .int (σ 27 ((p0 - 1).toNatClampNeg))) (D := (dC, dI)) (ci := 1) (C := RX1) (T := TX1) (N := 13) hx hb hts hin1 hown hK hP (6 + ((p0 - 1).toNatClampNeg)) (cw_out (oo_lt (oi hI) c1_)) rfl 7 (by decide) (hts (.fieldLink RX0 161 RX1 "held" "Z") (by decide +kernel)) (fun _ h9 => h9) rfl dX0_state_53 ?_
      refine lv_if_eq (tgt := 69) hx hb dX0_state_56 (by decide) (fun c8_ => ?_) (fun c8_ => ?_)
      · refine lv_aload_n hx hb dX0_state_69 rfl (lv_at hl 0 rfl) ?_
        refine va_get (v := .int (σ 26 ((p0 - 1).toNatClampNeg))) (D := (dC, dI)) (ci := 1) (C := RX1) (T := TX1) (N := 13) hx hb hts hin1 hown hK hP (6 + ((p0 - 1).toNatClampNeg)) (cw_out (oo_lt (oi hI) c1_)) rfl 6 (by decide) (hts (.fieldLink RX0 68 RX1 "state" "I") (by decide +kernel)) (fun _ h9 => h9) rfl dX0_state_70 ?_
        exact w_ri (v := σ 26 ((p0 - 1).toNatClampNeg)) hx hb hr hlocks dX0_state_73 (by unfold sC_state; rw [if_neg c1_, if_pos c2_, if_pos c8_] <;> rfl)
      · refine lv_aload_n hx hb dX0_state_59 rfl (lv_at hl 0 rfl) ?_
        refine va_get (v := .int (σ 26 ((p0 - 1).toNatClampNeg))) (D := (dC, dI)) (ci := 1) (C := RX1) (T := TX1) (N := 13) hx hb hts hin1 hown hK hP (6 + ((p0 - 1).toNatClampNeg)) (cw_out (oo_lt (oi hI) c1_)) rfl 6 (by decide) (hts (.fieldLink RX0 68 RX1 "state" "I") (by decide +kernel)) (fun _ h9 => h9) rfl dX0_state_60 ?_
        refine lv_bipush (v := 6) hx hb dX0_state_63 (by decide) ?_
        refine lv_iadd hx hb dX0_state_65 ?_
        refine lv_goto (tgt := 73) hx hb dX0_state_66 (by decide) ?_
        exact w_ri (v := (σ 26 ((p0 - 1).toNatClampNeg)) + 6) hx hb hr hlocks dX0_state_73 (by unfold sC_state; rw [if_neg c1_, if_pos c2_, if_neg c8_] <;> rfl)
    · by_cases c3_ : p1 = 1
      · refine lv_tableIn (tgt := 74) hx hb dX0_state_13 (by rw [c3_]; decide) (by rw [c3_]; decide) (by rw [c3_]; rfl) (by decide) ?_
        refine lv_aload_n hx hb dX0_state_74 rfl (lv_at hl 0 rfl) ?_
        refine va_get (v := .int (σ 28 ((p0 - 1).toNatClampNeg))) (D := (dC, dI)) (ci := 1) (C := RX1) (T := TX1) (N := 13) hx hb hts hin1 hown hK hP (6 + ((p0 - 1).toNatClampNeg)) (cw_out (oo_lt (oi hI) c1_)) rfl 8 (by decide) (hts (.fieldLink RX0 103 RX1 "lines" "I") (by decide +kernel)) (fun _ h9 => h9) rfl dX0_state_75 ?_
        exact w_ri (v := σ 28 ((p0 - 1).toNatClampNeg)) hx hb hr hlocks dX0_state_78 (by unfold sC_state; rw [if_neg c1_, if_neg c2_, if_pos c3_] <;> rfl)
      · by_cases c4_ : p1 = 2
        · refine lv_tableIn (tgt := 79) hx hb dX0_state_13 (by rw [c4_]; decide) (by rw [c4_]; decide) (by rw [c4_]; rfl) (by decide) ?_
          refine lv_aload_n hx hb dX0_state_79 rfl (lv_at hl 0 rfl) ?_
          refine vp_callSi (W.runV (As := []) (rest := []) ⟨hx, hb, hml, hown, hts⟩ (c_O_pageCount l dC dI cI cZ cO cW z X h adr ad wd nO nW σ ((p0 - 1).toNatClampNeg) (oo_lt (oi hI) c1_)) (cwV 0 hts gX0_state_X1_pageCount rfl rfl rfl (by decide +kernel) ⟨Nat.le_of_ble_eq_true rfl, Nat.le_of_ble_eq_true rfl⟩) (wPreV (Nat.le_trans hz hS.1) hP hK hD (va_recv hK hP (ci := 1) (q0 := (6 + ((p0 - 1).toNatClampNeg))) rfl (cw_out (oo_lt (oi hI) c1_)))) rfl rfl hl.1 rfl (lv_room (Nat.le_of_ble_eq_true rfl)) dX0_state_80 ⟨Nat.le_of_ble_eq_true rfl, Nat.le_of_ble_eq_true rfl⟩) (fun r e_ => ?_)
          subst e_
          exact w_ri (v := sO_pageCount σ ((p0 - 1).toNatClampNeg)) hx hb hr hlocks dX0_state_83 (by unfold sC_state; rw [if_neg c1_, if_neg c2_, if_neg c3_, if_pos c4_] <;> rfl)
        · by_cases c5_ : p1 = 3
          · refine lv_tableIn (tgt := 84) hx hb dX0_state_13 (by rw [c5_]; decide) (by rw [c5_]; decide) (by rw [c5_]; rfl) (by decide) ?_
            refine lv_aload_n hx hb dX0_state_84 rfl (lv_at hl 0 rfl) ?_
            refine va_get (v := .int (σ 31 ((p0 - 1).toNatClampNeg))) (D := (dC, dI)) (ci := 1) (C := RX1) (T := TX1) (N := 13) hx hb hts hin1 hown hK hP (6 + ((p0 - 1).toNatClampNeg)) (cw_out (oo_lt (oi hI) c1_)) rfl 11 (by decide) (hts (.fieldLink RX0 137 RX1 "printed" "I") (by decide +kernel)) (fun _ h9 => h9) rfl dX0_state_85 ?_
            exact w_ri (v := σ 31 ((p0 - 1).toNatClampNeg)) hx hb hr hlocks dX0_state_88 (by unfold sC_state; rw [if_neg c1_, if_neg c2_, if_neg c3_, if_neg c4_, if_pos c5_] <;> rfl)
          · by_cases c6_ : p1 = 4
            · refine lv_tableIn (tgt := 89) hx hb dX0_state_13 (by rw [c6_]; decide) (by rw [c6_]; decide) (by rw [c6_]; rfl) (by decide) ?_
              refine lv_aload_n hx hb dX0_state_89 rfl (lv_at hl 0 rfl) ?_
              refine va_get (v := .int (σ 21 ((p0 - 1).toNatClampNeg))) (D := (dC, dI)) (ci := 1) (C := RX1) (T := TX1) (N := 13) hx hb hts hin1 hown hK hP (6 + ((p0 - 1).toNatClampNeg)) (cw_out (oo_lt (oi hI) c1_)) rfl 1 (by decide) (hts (.fieldLink RX0 96 RX1 "job" "I") (by decide +kernel)) (fun _ h9 => h9) rfl dX0_state_90 ?_
              exact w_ri (v := σ 21 ((p0 - 1).toNatClampNeg)) hx hb hr hlocks dX0_state_93 (by unfold sC_state; rw [if_neg c1_, if_neg c2_, if_neg c3_, if_neg c4_, if_neg c5_, if_pos c6_] <;> rfl)
            · by_cases c7_ : p1 = 5
              · refine lv_tableIn (tgt := 94) hx hb dX0_state_13 (by rw [c7_]; decide) (by rw [c7_]; decide) (by rw [c7_]; rfl) (by decide) ?_
                refine lv_aload_n hx hb dX0_state_94 rfl (lv_at hl 0 rfl) ?_
                refine vp_callSi (W.runV (As := []) (rest := []) ⟨hx, hb, hml, hown, hts⟩ (c_O_copiesLeft l dC dI cI cZ cO cW z X h adr ad wd nO nW σ ((p0 - 1).toNatClampNeg) (oo_lt (oi hI) c1_)) (cwV 0 hts gX0_state_X1_copiesLeft rfl rfl rfl (by decide +kernel) ⟨Nat.le_of_ble_eq_true rfl, Nat.le_of_ble_eq_true rfl⟩) (wPreV (Nat.le_trans hz hS.1) hP hK hD (va_recv hK hP (ci := 1) (q0 := (6 + ((p0 - 1).toNatClampNeg))) rfl (cw_out (oo_lt (oi hI) c1_)))) rfl rfl hl.1 rfl (lv_room (Nat.le_of_ble_eq_true rfl)) dX0_state_95 ⟨Nat.le_of_ble_eq_true rfl, Nat.le_of_ble_eq_true rfl⟩) (fun r e_ => ?_)
                subst e_
                exact w_ri (v := sO_copiesLeft σ ((p0 - 1).toNatClampNeg)) hx hb hr hlocks dX0_state_98 (by unfold sC_state; rw [if_neg c1_, if_neg c2_, if_neg c3_, if_neg c4_, if_neg c5_, if_neg c6_, if_pos c7_] <;> rfl)
              · refine lv_tableOut (tgt := 99) hx hb dX0_state_13 (by have q0 := lv_neT c2_ (show (0 : Int32).toInt = 0 from rfl); have q1 := lv_neT c3_ (show (1 : Int32).toInt = 1 from rfl); have q2 := lv_neT c4_ (show (2 : Int32).toInt = 2 from rfl); have q3 := lv_neT c5_ (show (3 : Int32).toInt = 3 from rfl); have q4 := lv_neT c6_ (show (4 : Int32).toInt = 4 from rfl); have q5 := lv_neT c7_ (show (5 : Int32).toInt = 5 from rfl); omega) (by decide) ?_
                refine lv_iconst (v := (-1)) hx hb dX0_state_99 (by decide) ?_
                exact w_ri (v := (-1)) hx hb hr hlocks dX0_state_100 (by unfold sC_state; rw [if_neg c1_, if_neg c2_, if_neg c3_, if_neg c4_, if_neg c5_, if_neg c6_, if_neg c7_] <;> rfl)
set_option maxHeartbeats 4000000 in
set_option maxRecDepth 100000 in
theorem c_C_count (l : Launch) (dC : Nat → ClassId) (dI : Nat → Nat → Nat) (cI cZ cO cW : ClassId) (z : Nat) (X : va_W) (h : Nat) (adr ad wd : Nat → Nat) (nO nW : Nat) (σ : T2) (p0 : Int32) (hI : cInv nO nW σ) : Met l yX0_count wsX0_count ({ frames := 4, cells := 0, slots := 0, locals := 87 }) (wPc (dC, dI) (tyL cI cZ cO cW) z [.ref h, .int p0] (cWd h adr ad wd nO nW cI cO cW σ ++ X)) (vp_Si (fun r => r = sC_count σ p0)) 0 0 (fun _ => False) := by
  refine en_met (cc := cX0_count) (maxL := 2) (ret := (some .int)) (by decide) rfl (Nat.le_of_ble_eq_true rfl) ?_
  intro p e s m below meth c ls hx hb hml hr hts hown hlocks hnm hv hl
  obtain ⟨hz, hP, hK, hD⟩ := hv
  have hown : s.vm.findClass RX0 = some m.cls := hown
  have hS : va_S (fun q : Nat => z ≤ q) s.heap s.heap [] := va_S.rf
  have hin0 : ∀ w ∈ wsX00, w ∈ wsX0_count := by decide +kernel
  have hl : lv_has ls 2 [(0, .ref h), (1, .int p0)] := hl
  refine lv_iload_n hx hb dX0_count_0 rfl (lv_at hl 1 rfl) ?_
  by_cases c1_ : p0 = 0
  · refine lv_tableIn (tgt := 36) hx hb dX0_count_1 (by rw [c1_]; decide) (by rw [c1_]; decide) (by rw [c1_]; rfl) (by decide) ?_
    refine lv_aload_n hx hb dX0_count_36 rfl (lv_at hl 0 rfl) ?_
    refine va_get (v := .int (σ 1 0)) (D := (dC, dI)) (ci := 0) (C := RX0) (T := TX0) (N := 13) hx hb hts hin0 hown hK hP 0 rfl rfl 1 (by decide) (hts (.fieldLink RX0 41 RX0 "freePages" "I") (by decide +kernel)) (fun _ h9 => h9) rfl dX0_count_37 ?_
    exact w_ri (v := σ 1 0) hx hb hr hlocks dX0_count_40 (by unfold sC_count; rw [if_pos c1_] <;> rfl)
  · by_cases c2_ : p0 = 1
    · refine lv_tableIn (tgt := 41) hx hb dX0_count_1 (by rw [c2_]; decide) (by rw [c2_]; decide) (by rw [c2_]; rfl) (by decide) ?_
      refine lv_aload_n hx hb dX0_count_41 rfl (lv_at hl 0 rfl) ?_
      refine vp_callSi (W.runV (As := []) (rest := []) ⟨hx, hb, hml, hown, hts⟩ (c_C_outputsThere l dC dI cI cZ cO cW z X h adr ad wd nO nW σ hI) (cwV 0 hts gX0_count_X0_outputsThere rfl rfl rfl (by decide +kernel) ⟨Nat.le_of_ble_eq_true rfl, Nat.le_of_ble_eq_true rfl⟩) (wPreV (Nat.le_trans hz hS.1) hP hK hD (va_recv hK hP (ci := 0) (q0 := 0) rfl rfl)) rfl rfl hl.1 rfl (lv_room (Nat.le_of_ble_eq_true rfl)) dX0_count_42 ⟨Nat.le_of_ble_eq_true rfl, Nat.le_of_ble_eq_true rfl⟩) (fun r e_ => ?_)
      subst e_
      exact w_ri (v := sC_outputsThere σ) hx hb hr hlocks dX0_count_45 (by unfold sC_count; rw [if_neg c1_, if_pos c2_] <;> rfl)
    · by_cases c3_ : p0 = 2
      · refine lv_tableIn (tgt := 46) hx hb dX0_count_1 (by rw [c3_]; decide) (by rw [c3_]; decide) (by rw [c3_]; rfl) (by decide) ?_
        refine lv_aload_n hx hb dX0_count_46 rfl (lv_at hl 0 rfl) ?_
        refine va_get (v := .int (σ 5 0)) (D := (dC, dI)) (ci := 0) (C := RX0) (T := TX0) (N := 13) hx hb hts hin0 hown hK hP 0 rfl rfl 5 (by decide) (hts (.fieldLink RX0 115 RX0 "writerCount" "I") (by decide +kernel)) (fun _ h9 => h9) rfl dX0_count_47 ?_
        exact w_ri (v := σ 5 0) hx hb hr hlocks dX0_count_50 (by unfold sC_count; rw [if_neg c1_, if_neg c2_, if_pos c3_] <;> rfl)
      · by_cases c4_ : p0 = 3
        · refine lv_tableIn (tgt := 51) hx hb dX0_count_1 (by rw [c4_]; decide) (by rw [c4_]; decide) (by rw [c4_]; rfl) (by decide) ?_
          refine lv_aload_n hx hb dX0_count_51 rfl (lv_at hl 0 rfl) ?_
          refine va_get (v := .int (σ 11 0)) (D := (dC, dI)) (ci := 0) (C := RX0) (T := TX0) (N := 13) hx hb hts hin0 hown hK hP 0 rfl rfl 11 (by decide) (hts (.fieldLink RX0 140 RX0 "pagesPrinted" "I") (by decide +kernel)) (fun _ h9 => h9) rfl dX0_count_52 ?_
          exact w_ri (v := σ 11 0) hx hb hr hlocks dX0_count_55 (by unfold sC_count; rw [if_neg c1_, if_neg c2_, if_neg c3_, if_pos c4_] <;> rfl)
        · by_cases c5_ : p0 = 4
          · refine lv_tableIn (tgt := 56) hx hb dX0_count_1 (by rw [c5_]; decide) (by rw [c5_]; decide) (by rw [c5_]; rfl) (by decide) ?_
            refine lv_aload_n hx hb dX0_count_56 rfl (lv_at hl 0 rfl) ?_
            refine va_get (v := .int (σ 12 0)) (D := (dC, dI)) (ci := 0) (C := RX0) (T := TX0) (N := 13) hx hb hts hin0 hown hK hP 0 rfl rfl 12 (by decide) (hts (.fieldLink RX0 155 RX0 "pagesAgain" "I") (by decide +kernel)) (fun _ h9 => h9) rfl dX0_count_57 ?_
            exact w_ri (v := σ 12 0) hx hb hr hlocks dX0_count_60 (by unfold sC_count; rw [if_neg c1_, if_neg c2_, if_neg c3_, if_neg c4_, if_pos c5_] <;> rfl)
          · refine lv_tableOut (tgt := 61) hx hb dX0_count_1 (by have q0 := lv_neT c1_ (show (0 : Int32).toInt = 0 from rfl); have q1 := lv_neT c2_ (show (1 : Int32).toInt = 1 from rfl); have q2 := lv_neT c3_ (show (2 : Int32).toInt = 2 from rfl); have q3 := lv_neT c4_ (show (3 : Int32).toInt = 3 from rfl); have q4 := lv_neT c5_ (show (4 : Int32).toInt = 4 from rfl); omega) (by decide) ?_
            refine lv_iconst (v := (-1)) hx hb dX0_count_61 (by decide) ?_
            exact w_ri (v := (-1)) hx hb hr hlocks dX0_count_62 (by unfold sC_count; rw [if_neg c1_, if_neg c2_, if_neg c3_, if_neg c4_, if_neg c5_] <;> rfl)
