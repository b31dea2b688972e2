set_option maxHeartbeats 4000000 in
set_option maxRecDepth 100000 in
theorem c_M_output (l : Launch) (dC : Nat → ClassId) (dI : Nat → Nat → Nat) (cI cZ cO cW : ClassId) (z : Nat) (X : va_W) (h : Nat) (adr : Nat → Nat) (τ : T2) (p0 : Int32) (p1 : Int32) (p2 : Int32) (hI : mInv τ) : Met l yX3_output wsX3_output ({ frames := 2, cells := 0, slots := 0, locals := 43 }) (wPc (dC, dI) (tyL cI cZ cO cW) z [.ref h, .int p0, .int p1, .int p2] (mW h adr cI cZ τ ++ X)) (wQi (dC, dI) z (fun u : T2 => mW h adr cI cZ u ++ X) (fun r u => r = (sM_output τ p0 p1 p2).1 ∧ u = (sM_output τ p0 p1 p2).2)) 0 0 (fun q => z ≤ q) := by
  refine en_met (cc := cX3_output) (maxL := 6) (ret := (some .int)) (by decide) rfl (Nat.le_of_ble_eq_true rfl) ?_
  intro p e s m below meth c ls hx hb hml hr hts hown hlocks hnm hv hl
  obtain ⟨hz, hP, hK, hD⟩ := hv
  have hown : s.vm.findClass RX3 = some m.cls := hown
  have hin : ∀ w ∈ wsX30, w ∈ wsX3_output := by decide +kernel
  have hS : va_S (fun q : Nat => z ≤ q) s.heap s.heap [] := va_S.rf
  have hl : lv_has ls 6 [(0, .ref h), (1, .int p0), (2, .int p1), (3, .int p2)] := hl
  refine lv_iload_n hx hb dX3_output_0 rfl (lv_at hl 1 rfl) ?_
  refine lv_iconst (v := 1) hx hb dX3_output_1 (by decide) ?_
  refine lv_icmp_lt (tgt := 33) hx hb dX3_output_2 (by decide) (fun c1_ => ?_) (fun c1_ => ?_)
  · refine lv_iconst (v := (-1)) hx hb dX3_output_33 (by decide) ?_
    exact w_iret (v := (-1)) (u := τ) hx hb hr hlocks hP hD hS dX3_output_34 (wpair (by unfold sM_output; rw [if_pos c1_] <;> rfl))
  · refine lv_iload_n hx hb dX3_output_5 rfl (lv_at hl 1 rfl) ?_
    refine lv_sipush (v := 9999) hx hb dX3_output_6 (by decide) ?_
    refine lv_icmp_gt (tgt := 33) hx hb dX3_output_9 (by decide) (fun c2_ => ?_) (fun c2_ => ?_)
    · refine lv_iconst (v := (-1)) hx hb dX3_output_33 (by decide) ?_
      exact w_iret (v := (-1)) (u := τ) hx hb hr hlocks hP hD hS dX3_output_34 (wpair (by unfold sM_output; rw [if_neg c1_, if_pos c2_] <;> rfl))
    · refine lv_iload_n hx hb dX3_output_12 rfl (lv_at hl 2 rfl) ?_
      refine lv_if_lt (tgt := 33) hx hb dX3_output_13 (by decide) (fun c3_ => ?_) (fun c3_ => ?_)
      · refine lv_iconst (v := (-1)) hx hb dX3_output_33 (by decide) ?_
        exact w_iret (v := (-1)) (u := τ) hx hb hr hlocks hP hD hS dX3_output_34 (wpair (by unfold sM_output; rw [if_neg c1_, if_neg c2_, if_pos c3_] <;> rfl))
      · refine lv_iload_n hx hb dX3_output_16 rfl (lv_at hl 2 rfl) ?_
        refine lv_bipush (v := 7) hx hb dX3_output_17 (by decide) ?_
        refine lv_icmp_gt (tgt := 33) hx hb dX3_output_19 (by decide) (fun c4_ => ?_) (fun c4_ => ?_)
        · refine lv_iconst (v := (-1)) hx hb dX3_output_33 (by decide) ?_
          exact w_iret (v := (-1)) (u := τ) hx hb hr hlocks hP hD hS dX3_output_34 (wpair (by unfold sM_output; rw [if_neg c1_, if_neg c2_, if_neg c3_, if_pos c4_] <;> rfl))
        · refine lv_iload_n hx hb dX3_output_22 rfl (lv_at hl 3 rfl) ?_
          refine lv_iconst (v := 1) hx hb dX3_output_23 (by decide) ?_
          refine lv_icmp_lt (tgt := 33) hx hb dX3_output_24 (by decide) (fun c5_ => ?_) (fun c5_ => ?_)
          · refine lv_iconst (v := (-1)) hx hb dX3_output_33 (by decide) ?_
            exact w_iret (v := (-1)) (u := τ) hx hb hr hlocks hP hD hS dX3_output_34 (wpair (by unfold sM_output; rw [if_neg c1_, if_neg c2_, if_neg c3_, if_neg c4_, if_pos c5_] <;> rfl))
          · refine lv_iload_n hx hb dX3_output_27 rfl (lv_at hl 3 rfl) ?_
            refine lv_bipush (v := 9) hx hb dX3_output_28 (by decide) ?_
            refine lv_icmp_le (tgt := 35) hx hb dX3_output_30 (by decide) (fun c6_ => ?_) (fun c6_ => ?_)
            · refine lv_iconst (v := 0) hx hb dX3_output_35 (by decide) ?_
              refine lv_istore (lv' := [(4, .int 0), (0, .ref h), (1, .int p0), (2, .int p1), (3, .int p2)]) hx hb dX3_output_36 hl (by decide) rfl (fun ls hl => ?_)
              refine lv_iconst (v := 1) hx hb dX3_output_38 (by decide) ?_
              refine lv_istore (lv' := [(5, .int 1), (4, .int 0), (0, .ref h), (1, .int p0), (2, .int p1), (3, .int p2)]) hx hb dX3_output_39 hl (by decide) rfl (fun ls hl => ?_)
              obtain ⟨N, hNc⟩ : ∃ N : Nat, N = (τ 13 0).toNatClampNeg := ⟨_, rfl⟩
              have hN := mN_out hI
              rw [← hNc] at hN
              have key : ∀ (n i : Nat) (a : Int32) (ls : Array Slot), i ≤ N → N - i < n → sM_output_F τ p0 p1 p2 i = a → lv_has ls 6 [(0, .ref h), (1, .int p0), (2, .int p1), (3, .int p2), (4, .int a), (5, .int (nI (i + 1)))] → W p l e ({ frames := 2, cells := 0, slots := 0, locals := 43 }) s m ([.ref h, .int p0, .int p1, .int p2] : List Value).toArray below meth c s.heap [] 0 0 (MQ below (wQi (dC, dI) z (fun u : T2 => mW h adr cI cZ u ++ X) (fun r u => r = (sM_output τ p0 p1 p2).1 ∧ u = (sM_output τ p0 p1 p2).2)) ([.ref h, .int p0, .int p1, .int p2] : List Value).toArray s 0 0 (fun q => z ≤ q)) (F0 m 41 ls []) := by
                intro n
                induction n with
                | zero => intro i a ls hi hn; exact absurd hn (Nat.not_lt_zero _)
                | succ n ih =>
                  intro i a ls hi hn hF hl
                  refine lv_iload hx hb dX3_output_41 (lv_at hl 5 rfl) ?_
                  refine lv_aload_n hx hb dX3_output_43 rfl (lv_at hl 0 rfl) ?_
                  refine va_get (D := (dC, dI)) (ci := 3) (v := .int (τ 13 0)) (C := RX3) (T := TX3) (N := 24) hx hb hts hin hown hK hP 0 rfl rfl 13 (by decide) (hts (.fieldLink RX3 67 RX3 "outputs" "I") (by decide +kernel)) (fun _ h9 => h9) rfl dX3_output_44 ?_
                  refine lv_icmp_gt (tgt := 88) hx hb dX3_output_47 (by decide) (fun c8_ => ?_) (fun c8_ => ?_)
                  · have hiN : i = N := lg_out hN.1 hN.2 (by decide) hi c8_
                    subst hiN
                    refine lv_aload_n hx hb dX3_output_88 rfl (lv_at hl 0 rfl) ?_
                    refine va_get (D := (dC, dI)) (ci := 3) (v := .int (τ 13 0)) (C := RX3) (T := TX3) (N := 24) hx hb hts hin hown hK hP 0 rfl rfl 13 (by decide) (hts (.fieldLink RX3 67 RX3 "outputs" "I") (by decide +kernel)) (fun _ h9 => h9) rfl dX3_output_89 ?_
                    refine lv_sipush (v := 1000) hx hb dX3_output_92 (by decide) ?_
                    refine lv_icmp_eq (tgt := 117) hx hb dX3_output_95 (by decide) (fun c9_ => ?_) (fun c9_ => ?_)
                    · refine lv_iconst (v := 0) hx hb dX3_output_117 (by decide) ?_
                      exact w_iret (v := 0) (u := τ) hx hb hr hlocks hP hD hS dX3_output_118 (wpair (by unfold sM_output; rw [if_neg c1_, if_neg c2_, if_neg c3_, if_neg c4_, if_neg c5_, if_pos c6_, ← hNc, hF]; show _ = sM_output_x τ p0 p1 p2 a; unfold sM_output_x; rw [if_pos c9_] <;> rfl))
                    · refine lv_iload hx hb dX3_output_98 (lv_at hl 4 rfl) ?_
                      refine lv_if_ne (tgt := 119) hx hb dX3_output_100 (by decide) (fun c10_ => ?_) (fun c10_ => ?_)
                      · refine lv_aload_n hx hb dX3_output_119 rfl (lv_at hl 0 rfl) ?_
                        refine lv_iload_n hx hb dX3_output_120 rfl (lv_at hl 1 rfl) ?_
                        refine lv_iload_n hx hb dX3_output_121 rfl (lv_at hl 2 rfl) ?_
                        refine lv_iload_n hx hb dX3_output_122 rfl (lv_at hl 3 rfl) ?_
                        refine lv_iconst (v := 0) hx hb dX3_output_123 (by decide) ?_
                        refine lv_iconst (v := 0) hx hb dX3_output_124 (by decide) ?_
                        refine w_callv (va_runV (As := [.int p0, .int p1, .int p2, .int 0, .int 0]) (rest := []) ⟨hx, hb, hml, hown, hts⟩ (c_M_create l dC dI cI cZ cO cW z X h adr τ p0 p1 p2 0 0 (mc_in hI c9_)) (cwV 5 hts gX3_output_X3_create rfl rfl rfl (by decide +kernel) ⟨Nat.le_of_ble_eq_true rfl, Nat.le_of_ble_eq_true rfl⟩) (wPreV (Nat.le_trans hz hS.1) hP hK hD (va_recv hK hP (ci := 3) (q0 := 0) rfl rfl)) rfl rfl hl.1 rfl (lv_room (Nat.le_of_ble_eq_true rfl)) dX3_output_125 ⟨Nat.le_of_ble_eq_true rfl, Nat.le_of_ble_eq_true rfl⟩) hS (fun u H locs e_ hP hD hS => ?_)
                        subst e_
                        have hP : va_P (dC, dI) vwCl (mW h adr cI cZ (sM_create τ p0 p1 p2 0 0) ++ X) H := hP
                        have hD : va_D (fun q : Nat => z ≤ q) (mW h adr cI cZ (sM_create τ p0 p1 p2 0 0) ++ X) := hD
                        refine lv_aload_n hx hb dX3_output_128 rfl (lv_at hl 0 rfl) ?_
                        refine va_get (D := (dC, dI)) (ci := 3) (v := .int ((sM_create τ p0 p1 p2 0 0) 13 0)) (C := RX3) (T := TX3) (N := 24) hx hb hts hin hown hK hP 0 rfl rfl 13 (by decide) (hts (.fieldLink RX3 67 RX3 "outputs" "I") (by decide +kernel)) (fun _ h9 => h9) rfl dX3_output_129 ?_
                        exact w_iret (v := (sM_create τ p0 p1 p2 0 0) 13 0) (u := (sM_create τ p0 p1 p2 0 0)) hx hb hr hlocks hP hD hS dX3_output_132 (wpair (by unfold sM_output; rw [if_neg c1_, if_neg c2_, if_neg c3_, if_neg c4_, if_neg c5_, if_pos c6_, ← hNc, hF]; show _ = sM_output_x τ p0 p1 p2 a; unfold sM_output_x; rw [if_neg c9_, if_neg c10_] <;> rfl))
                      · refine lv_aload_n hx hb dX3_output_103 rfl (lv_at hl 0 rfl) ?_
                        refine vp_callSi (W.runV (As := []) (rest := []) ⟨hx, hb, hml, hown, hts⟩ (c_M_free l dC dI cI cZ cO cW z X h adr τ hI) (cwV 0 hts gX3_output_X3_free rfl rfl rfl (by decide +kernel) ⟨Nat.le_of_ble_eq_true rfl, Nat.le_of_ble_eq_true rfl⟩) (wPreV (Nat.le_trans hz hS.1) hP hK hD (va_recv hK hP (ci := 3) (q0 := 0) rfl rfl)) rfl rfl hl.1 rfl (lv_room (Nat.le_of_ble_eq_true rfl)) dX3_output_104 ⟨Nat.le_of_ble_eq_true rfl, Nat.le_of_ble_eq_true rfl⟩) (fun r e_ => ?_)
                        subst e_
                        refine lv_aload_n hx hb dX3_output_107 rfl (lv_at hl 0 rfl) ?_
                        refine va_get (D := (dC, dI)) (ci := 3) (v := .int (τ 0 0)) (C := RX3) (T := TX3) (N := 24) hx hb hts hin hown hK hP 0 rfl rfl 0 (by decide) (hts (.fieldLink RX3 63 RX3 "room" "I") (by decide +kernel)) (fun _ h9 => h9) rfl dX3_output_108 ?_
                        refine lv_bipush (v := 8) hx hb dX3_output_111 (by decide) ?_
                        refine lv_idiv hx hb dX3_output_113 (by decide) ?_
                        refine lv_icmp_gt (tgt := 119) hx hb dX3_output_114 (by decide) (fun c11_ => ?_) (fun c11_ => ?_)
                        · refine lv_aload_n hx hb dX3_output_119 rfl (lv_at hl 0 rfl) ?_
                          refine lv_iload_n hx hb dX3_output_120 rfl (lv_at hl 1 rfl) ?_
                          refine lv_iload_n hx hb dX3_output_121 rfl (lv_at hl 2 rfl) ?_
                          refine lv_iload_n hx hb dX3_output_122 rfl (lv_at hl 3 rfl) ?_
                          refine lv_iconst (v := 0) hx hb dX3_output_123 (by decide) ?_
                          refine lv_iconst (v := 0) hx hb dX3_output_124 (by decide) ?_
                          refine w_callv (va_runV (As := [.int p0, .int p1, .int p2, .int 0, .int 0]) (rest := []) ⟨hx, hb, hml, hown, hts⟩ (c_M_create l dC dI cI cZ cO cW z X h adr τ p0 p1 p2 0 0 (mc_in hI c9_)) (cwV 5 hts gX3_output_X3_create rfl rfl rfl (by decide +kernel) ⟨Nat.le_of_ble_eq_true rfl, Nat.le_of_ble_eq_true rfl⟩) (wPreV (Nat.le_trans hz hS.1) hP hK hD (va_recv hK hP (ci := 3) (q0 := 0) rfl rfl)) rfl rfl hl.1 rfl (lv_room (Nat.le_of_ble_eq_true rfl)) dX3_output_125 ⟨Nat.le_of_ble_eq_true rfl, Nat.le_of_ble_eq_true rfl⟩) hS (fun u H locs e_ hP hD hS => ?_)
                          subst e_
                          have hP : va_P (dC, dI) vwCl (mW h adr cI cZ (sM_create τ p0 p1 p2 0 0) ++ X) H := hP
                          have hD : va_D (fun q : Nat => z ≤ q) (mW h adr cI cZ (sM_create τ p0 p1 p2 0 0) ++ X) := hD
                          refine lv_aload_n hx hb dX3_output_128 rfl (lv_at hl 0 rfl) ?_
                          refine va_get (D := (dC, dI)) (ci := 3) (v := .int ((sM_create τ p0 p1 p2 0 0) 13 0)) (C := RX3) (T := TX3) (N := 24) hx hb hts hin hown hK hP 0 rfl rfl 13 (by decide) (hts (.fieldLink RX3 67 RX3 "outputs" "I") (by decide +kernel)) (fun _ h9 => h9) rfl dX3_output_129 ?_
                          exact w_iret (v := (sM_create τ p0 p1 p2 0 0) 13 0) (u := (sM_create τ p0 p1 p2 0 0)) hx hb hr hlocks hP hD hS dX3_output_132 (wpair (by unfold sM_output; rw [if_neg c1_, if_neg c2_, if_neg c3_, if_neg c4_, if_neg c5_, if_pos c6_, ← hNc, hF]; show _ = sM_output_x τ p0 p1 p2 a; unfold sM_output_x; rw [if_neg c9_, if_pos c10_, if_pos c11_] <;> rfl))
                        · refine lv_iconst (v := 0) hx hb dX3_output_117 (by decide) ?_
                          exact w_iret (v := 0) (u := τ) hx hb hr hlocks hP hD hS dX3_output_118 (wpair (by unfold sM_output; rw [if_neg c1_, if_neg c2_, if_neg c3_, if_neg c4_, if_neg c5_, if_pos c6_, ← hNc, hF]; show _ = sM_output_x τ p0 p1 p2 a; unfold sM_output_x; rw [if_neg c9_, if_pos c10_, if_neg c11_] <;> rfl))
                  · have hlt : i < N := lg_in hN.1 hN.2 (by decide) hi c8_
                    refine lv_iload hx hb dX3_output_50 (lv_at hl 4 rfl) ?_
                    refine lv_if_ne (tgt := 75) hx hb dX3_output_52 (by decide) (fun c12_ => ?_) (fun c12_ => ?_)
                    · refine lv_iconst (v := 1) hx hb dX3_output_75 (by decide) ?_
                      refine lv_goto (tgt := 80) hx hb dX3_output_76 (by decide) ?_
                      refine lv_istore (lv' := [(4, .int 1), (0, .ref h), (1, .int p0), (2, .int p1), (3, .int p2), (5, .int (nI (i + 1)))]) hx hb dX3_output_80 hl (by decide) rfl (fun ls hl => ?_)
                      refine lv_iinc (v := nI (i + 1 + 1)) (lv' := [(5, .int (nI (i + 1 + 1))), (4, .int 1), (0, .ref h), (1, .int p0), (2, .int p1), (3, .int p2)]) hx hb dX3_output_82 hl (k := 5) rfl (nI_1 _) (by decide) rfl (fun ls hl => ?_)
                      refine lv_goto (tgt := 41) hx hb dX3_output_85 (by decide) ?_
                      exact ih (i + 1) 1 ls hlt (by omega) (by show sM_output_s τ p0 p1 p2 i (sM_output_F τ p0 p1 p2 i) = _; rw [hF]; show sM_output_s τ p0 p1 p2 i a = _; unfold sM_output_s; rw [if_neg c12_] <;> rfl)  (lv_sub hl [2, 3, 4, 5, 1, 0] rfl)
                    · refine lv_aload_n hx hb dX3_output_55 rfl (lv_at hl 0 rfl) ?_
                      refine va_get (D := (dC, dI)) (ci := 3) (v := .ref (adr 1)) (C := RX3) (T := TX3) (N := 24) hx hb hts hin hown hK hP 0 rfl rfl 1 (by decide) (hts (.fieldLink RX3 7 RX3 "jobs" "[I") (by decide +kernel)) (fun _ h9 => h9) rfl dX3_output_56 ?_
                      refine lv_iload hx hb dX3_output_59 (lv_at hl 5 rfl) ?_
                      refine va_iald (D := (dC, dI)) (i := nI (i + 1)) (f := τ 1) hx hb hK hP 1 0 rfl rfl (in_g hlt hN.2) dX3_output_61 ?_
                      refine lv_iload_n hx hb dX3_output_62 rfl (lv_at hl 1 rfl) ?_
                      refine lv_icmp_ne (tgt := 79) hx hb dX3_output_63 (by decide) (fun c13_ => ?_) (fun c13_ => ?_)
                      · refine lv_iconst (v := 0) hx hb dX3_output_79 (by decide) ?_
                        refine lv_istore (lv' := [(4, .int 0), (0, .ref h), (1, .int p0), (2, .int p1), (3, .int p2), (5, .int (nI (i + 1)))]) hx hb dX3_output_80 hl (by decide) rfl (fun ls hl => ?_)
                        refine lv_iinc (v := nI (i + 1 + 1)) (lv' := [(5, .int (nI (i + 1 + 1))), (4, .int 0), (0, .ref h), (1, .int p0), (2, .int p1), (3, .int p2)]) hx hb dX3_output_82 hl (k := 5) rfl (nI_1 _) (by decide) rfl (fun ls hl => ?_)
                        refine lv_goto (tgt := 41) hx hb dX3_output_85 (by decide) ?_
                        exact ih (i + 1) 0 ls hlt (by omega) (by show sM_output_s τ p0 p1 p2 i (sM_output_F τ p0 p1 p2 i) = _; rw [hF]; show sM_output_s τ p0 p1 p2 i a = _; unfold sM_output_s; rw [if_pos c12_, if_neg c13_] <;> rfl)  (lv_sub hl [2, 3, 4, 5, 1, 0] rfl)
                      · refine lv_aload_n hx hb dX3_output_66 rfl (lv_at hl 0 rfl) ?_
                        refine lv_iload hx hb dX3_output_67 (lv_at hl 5 rfl) ?_
                        refine vp_callSi (W.runV (As := [.int (nI (i + 1))]) (rest := []) ⟨hx, hb, hml, hown, hts⟩ (c_M_isGone l dC dI cI cZ cO cW z X h adr τ (nI (i + 1)) (in_g hlt hN.2)) (cwV 1 hts gX3_output_X3_isGone rfl rfl rfl (by decide +kernel) ⟨Nat.le_of_ble_eq_true rfl, Nat.le_of_ble_eq_true rfl⟩) (wPreV (Nat.le_trans hz hS.1) hP hK hD (va_recv hK hP (ci := 3) (q0 := 0) rfl rfl)) rfl rfl hl.1 rfl (lv_room (Nat.le_of_ble_eq_true rfl)) dX3_output_69 ⟨Nat.le_of_ble_eq_true rfl, Nat.le_of_ble_eq_true rfl⟩) (fun r e_ => ?_)
                        subst e_
                        refine lv_if_ne (tgt := 79) hx hb dX3_output_72 (by decide) (fun c14_ => ?_) (fun c14_ => ?_)
                        · refine lv_iconst (v := 0) hx hb dX3_output_79 (by decide) ?_
                          refine lv_istore (lv' := [(4, .int 0), (0, .ref h), (1, .int p0), (2, .int p1), (3, .int p2), (5, .int (nI (i + 1)))]) hx hb dX3_output_80 hl (by decide) rfl (fun ls hl => ?_)
                          refine lv_iinc (v := nI (i + 1 + 1)) (lv' := [(5, .int (nI (i + 1 + 1))), (4, .int 0), (0, .ref h), (1, .int p0), (2, .int p1), (3, .int p2)]) hx hb dX3_output_82 hl (k := 5) rfl (nI_1 _) (by decide) rfl (fun ls hl => ?_)
                          refine lv_goto (tgt := 41) hx hb dX3_output_85 (by decide) ?_
                          exact ih (i + 1) 0 ls hlt (by omega) (by show sM_output_s τ p0 p1 p2 i (sM_output_F τ p0 p1 p2 i) = _; rw [hF]; show sM_output_s τ p0 p1 p2 i a = _; unfold sM_output_s; rw [if_pos c12_, if_pos c13_, if_neg c14_] <;> rfl)  (lv_sub hl [2, 3, 4, 5, 1, 0] rfl)
                        · refine lv_iconst (v := 1) hx hb dX3_output_75 (by decide) ?_
                          refine lv_goto (tgt := 80) hx hb dX3_output_76 (by decide) ?_
                          refine lv_istore (lv' := [(4, .int 1), (0, .ref h), (1, .int p0), (2, .int p1), (3, .int p2), (5, .int (nI (i + 1)))]) hx hb dX3_output_80 hl (by decide) rfl (fun ls hl => ?_)
                          refine lv_iinc (v := nI (i + 1 + 1)) (lv' := [(5, .int (nI (i + 1 + 1))), (4, .int 1), (0, .ref h), (1, .int p0), (2, .int p1), (3, .int p2)]) hx hb dX3_output_82 hl (k := 5) rfl (nI_1 _) (by decide) rfl (fun ls hl => ?_)
                          refine lv_goto (tgt := 41) hx hb dX3_output_85 (by decide) ?_
                          exact ih (i + 1) 1 ls hlt (by omega) (by show sM_output_s τ p0 p1 p2 i (sM_output_F τ p0 p1 p2 i) = _; rw [hF]; show sM_output_s τ p0 p1 p2 i a = _; unfold sM_output_s; rw [if_pos c12_, if_pos c13_, if_pos c14_] <;> rfl)  (lv_sub hl [2, 3, 4, 5, 1, 0] rfl)
              exact key (N + 1) 0 0 ls (Nat.zero_le _) (by omega) rfl  (lv_sub hl [2, 3, 4, 5, 1, 0] rfl)
            · refine lv_iconst (v := (-1)) hx hb dX3_output_33 (by decide) ?_
              exact w_iret (v := (-1)) (u := τ) hx hb hr hlocks hP hD hS dX3_output_34 (wpair (by unfold sM_output; rw [if_neg c1_, if_neg c2_, if_neg c3_, if_neg c4_, if_neg c5_, if_neg c6_] <;> rfl))
