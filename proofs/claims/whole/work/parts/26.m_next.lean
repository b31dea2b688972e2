set_option maxHeartbeats 4000000 in
set_option maxRecDepth 100000 in
theorem c_M_next (l : Launch) (dC : Nat → ClassId) (dI : Nat → Nat → Nat) (cI cZ cO cW : ClassId) (z : Nat) (X : va_W) (h : Nat) (adr : Nat → Nat) (τ : T2) (p0 : Int32) (hI : mInv τ) : Met l yX3_next wsX3_next ({ frames := 1, cells := 0, slots := 0, locals := 22 }) (wPc (dC, dI) (tyL cI cZ cO cW) z [.ref h, .int p0] (mW h adr cI cZ τ ++ X)) (wQi (dC, dI) z (fun u : T2 => mW h adr cI cZ u ++ X) (fun r u => r = (sM_next τ p0).1 ∧ u = (sM_next τ p0).2)) 0 0 (fun q => z ≤ q) := by
  refine en_met (cc := cX3_next) (maxL := 5) (ret := (some .int)) (by decide) rfl (Nat.le_of_ble_eq_true rfl) ?_
  intro p e s m below meth c ls hx hb hml hr hts hown hlocks hnm hv hl
  obtain ⟨hz, hP, hK, hD⟩ := hv
  have hown : s.vm.findClass RX3 = some m.cls := hown
  have hin : ∀ w ∈ wsX30, w ∈ wsX3_next := by decide +kernel
  have hS : va_S (fun q : Nat => z ≤ q) s.heap s.heap [] := va_S.rf
  have hl : lv_has ls 5 [(0, .ref h), (1, .int p0)] := hl
  refine lv_aload_n hx hb dX3_next_0 rfl (lv_at hl 0 rfl) ?_
  refine lv_iload_n hx hb dX3_next_1 rfl (lv_at hl 1 rfl) ?_
  refine vp_callSi (W.runV (As := [.int p0]) (rest := []) ⟨hx, hb, hml, hown, hts⟩ (c_M_isWriter l dC dI cI cZ cO cW z X h adr τ p0) (cwV 1 hts gX3_next_X3_isWriter rfl rfl rfl (by decide +kernel) ⟨Nat.le_of_ble_eq_true rfl, Nat.le_of_ble_eq_true rfl⟩) (wPreV (Nat.le_trans hz hS.1) hP hK hD (va_recv hK hP (ci := 3) (q0 := 0) rfl rfl)) rfl rfl hl.1 rfl (lv_room (Nat.le_of_ble_eq_true rfl)) dX3_next_2 ⟨Nat.le_of_ble_eq_true rfl, Nat.le_of_ble_eq_true rfl⟩) (fun r e_ => ?_)
  subst e_
  refine lv_if_ne (tgt := 10) hx hb dX3_next_5 (by decide) (fun c1_ => ?_) (fun c1_ => ?_)
  · refine lv_aload_n hx hb dX3_next_10 rfl (lv_at hl 0 rfl) ?_
    refine va_get (D := (dC, dI)) (ci := 3) (v := .ref (adr 18)) (C := RX3) (T := TX3) (N := 24) hx hb hts hin hown hK hP 0 rfl rfl 18 (by decide) (hts (.fieldLink RX3 56 RX3 "has" "[I") (by decide +kernel)) (fun _ h9 => h9) rfl dX3_next_11 ?_
    refine lv_iload_n hx hb dX3_next_14 rfl (lv_at hl 1 rfl) ?_
    refine va_iald (D := (dC, dI)) (i := p0) (f := τ 18) hx hb hK hP 16 0 rfl rfl (mw_in hI c1_) dX3_next_15 ?_
    refine lv_if_eq (tgt := 22) hx hb dX3_next_16 (by decide) (fun c2_ => ?_) (fun c2_ => ?_)
    · refine lv_iconst (v := 0) hx hb dX3_next_22 (by decide) ?_
      refine lv_istore_n (lv' := [(2, .int 0), (0, .ref h), (1, .int p0)]) hx hb dX3_next_23 rfl hl (by decide) rfl (fun ls hl => ?_)
      refine lv_iconst (v := 1) hx hb dX3_next_24 (by decide) ?_
      refine lv_istore_n (lv' := [(3, .int 1), (2, .int 0), (0, .ref h), (1, .int p0)]) hx hb dX3_next_25 rfl hl (by decide) rfl (fun ls hl => ?_)
      obtain ⟨N, hNc⟩ : ∃ N : Nat, N = (τ 13 0).toNatClampNeg := ⟨_, rfl⟩
      have hN := mN_out hI
      rw [← hNc] at hN
      have key : ∀ (n i : Nat) (a : Int32) (ls : Array Slot), i ≤ N → N - i < n → sM_next_F τ p0 i = a → (vp_in a 1001) → lv_has ls 5 [(0, .ref h), (1, .int p0), (2, .int a), (3, .int (nI (i + 1)))] → W p l e ({ frames := 1, cells := 0, slots := 0, locals := 22 }) s m ([.ref h, .int p0] : List Value).toArray below meth c s.heap [] 0 0 (MQ below (wQi (dC, dI) z (fun u : T2 => mW h adr cI cZ u ++ X) (fun r u => r = (sM_next τ p0).1 ∧ u = (sM_next τ p0).2)) ([.ref h, .int p0] : List Value).toArray s 0 0 (fun q => z ≤ q)) (F0 m 26 ls []) := by
        intro n
        induction n with
        | zero => intro i a ls hi hn; exact absurd hn (Nat.not_lt_zero _)
        | succ n ih =>
          intro i a ls hi hn hF hA hl
          refine lv_iload_n hx hb dX3_next_26 rfl (lv_at hl 3 rfl) ?_
          refine lv_aload_n hx hb dX3_next_27 rfl (lv_at hl 0 rfl) ?_
          refine va_get (D := (dC, dI)) (ci := 3) (v := .int (τ 13 0)) (C := RX3) (T := TX3) (N := 24) hx hb hts hin hown hK hP 0 rfl rfl 13 (by decide) (hts (.fieldLink RX3 67 RX3 "outputs" "I") (by decide +kernel)) (fun _ h9 => h9) rfl dX3_next_28 ?_
          refine lv_icmp_gt (tgt := 152) hx hb dX3_next_31 (by decide) (fun c4_ => ?_) (fun c4_ => ?_)
          · have hiN : i = N := lg_out hN.1 hN.2 (by decide) hi c4_
            subst hiN
            refine lv_iload_n hx hb dX3_next_152 rfl (lv_at hl 2 rfl) ?_
            refine lv_if_ne (tgt := 158) hx hb dX3_next_153 (by decide) (fun c5_ => ?_) (fun c5_ => ?_)
            · refine lv_aload_n hx hb dX3_next_158 rfl (lv_at hl 0 rfl) ?_
              refine va_get (D := (dC, dI)) (ci := 3) (v := .ref (adr 6)) (C := RX3) (T := TX3) (N := 24) hx hb hts hin hown hK hP 0 rfl rfl 6 (by decide) (hts (.fieldLink RX3 25 RX3 "states" "[I") (by decide +kernel)) (fun _ h9 => h9) rfl dX3_next_159 ?_
              refine lv_iload_n hx hb dX3_next_162 rfl (lv_at hl 2 rfl) ?_
              refine lv_iconst (v := 3) hx hb dX3_next_163 (by decide) ?_
              refine va_iast (D := (dC, dI)) (i := a) (x := 3) (f := τ 6) hx hb hK hP hD hS 6 0 rfl rfl hA dX3_next_164 (fun H locs hP hD hS => ?_)
              have hP : va_P (dC, dI) vwCl (mW h adr cI cZ (upd2 τ 6 a.toNatClampNeg 3) ++ X) H := by rw [← mput_6]; exact hP
              have hD : va_D (fun q : Nat => z ≤ q) (mW h adr cI cZ (upd2 τ 6 a.toNatClampNeg 3) ++ X) := by rw [← mput_6]; exact hD
              refine lv_aload_n hx hb dX3_next_165 rfl (lv_at hl 0 rfl) ?_
              refine va_get (D := (dC, dI)) (ci := 3) (v := .ref (adr 18)) (C := RX3) (T := TX3) (N := 24) hx hb hts hin hown hK hP 0 rfl rfl 18 (by decide) (hts (.fieldLink RX3 56 RX3 "has" "[I") (by decide +kernel)) (fun _ h9 => h9) rfl dX3_next_166 ?_
              refine lv_iload_n hx hb dX3_next_169 rfl (lv_at hl 1 rfl) ?_
              refine lv_iload_n hx hb dX3_next_170 rfl (lv_at hl 2 rfl) ?_
              refine va_iast (D := (dC, dI)) (i := p0) (x := a) (f := (upd2 τ 6 a.toNatClampNeg 3) 18) hx hb hK hP hD hS 16 0 rfl rfl (mw_in hI c1_) dX3_next_171 (fun H locs hP hD hS => ?_)
              have hP : va_P (dC, dI) vwCl (mW h adr cI cZ (upd2 (upd2 τ 6 a.toNatClampNeg 3) 18 p0.toNatClampNeg a) ++ X) H := by rw [← mput_18]; exact hP
              have hD : va_D (fun q : Nat => z ≤ q) (mW h adr cI cZ (upd2 (upd2 τ 6 a.toNatClampNeg 3) 18 p0.toNatClampNeg a) ++ X) := by rw [← mput_18]; exact hD
              refine lv_iload_n hx hb dX3_next_172 rfl (lv_at hl 2 rfl) ?_
              exact w_iret (v := a) (u := upd2 (upd2 τ 6 a.toNatClampNeg 3) 18 p0.toNatClampNeg a) hx hb hr hlocks hP hD hS dX3_next_173 (wpair (by unfold sM_next; rw [if_neg c1_, if_pos c2_, ← hNc, hF]; show _ = sM_next_x τ p0 a; unfold sM_next_x; rw [if_neg c5_] <;> rfl))
            · refine lv_iconst (v := 0) hx hb dX3_next_156 (by decide) ?_
              exact w_iret (v := 0) (u := τ) hx hb hr hlocks hP hD hS dX3_next_157 (wpair (by unfold sM_next; rw [if_neg c1_, if_pos c2_, ← hNc, hF]; show _ = sM_next_x τ p0 a; unfold sM_next_x; rw [if_pos c5_] <;> rfl))
          · have hlt : i < N := lg_in hN.1 hN.2 (by decide) hi c4_
            refine lv_aload_n hx hb dX3_next_34 rfl (lv_at hl 0 rfl) ?_
            refine va_get (D := (dC, dI)) (ci := 3) (v := .ref (adr 6)) (C := RX3) (T := TX3) (N := 24) hx hb hts hin hown hK hP 0 rfl rfl 6 (by decide) (hts (.fieldLink RX3 25 RX3 "states" "[I") (by decide +kernel)) (fun _ h9 => h9) rfl dX3_next_35 ?_
            refine lv_iload_n hx hb dX3_next_38 rfl (lv_at hl 3 rfl) ?_
            refine va_iald (D := (dC, dI)) (i := nI (i + 1)) (f := τ 6) hx hb hK hP 6 0 rfl rfl (in_g hlt hN.2) dX3_next_39 ?_
            refine lv_iconst (v := 2) hx hb dX3_next_40 (by decide) ?_
            refine lv_icmp_ne (tgt := 146) hx hb dX3_next_41 (by decide) (fun c6_ => ?_) (fun c6_ => ?_)
            · refine lv_iinc (v := nI (i + 1 + 1)) (lv' := [(3, .int (nI (i + 1 + 1))), (0, .ref h), (1, .int p0), (2, .int a)]) hx hb dX3_next_146 hl (k := 3) rfl (nI_1 _) (by decide) rfl (fun ls hl => ?_)
              refine lv_goto (tgt := 26) hx hb dX3_next_149 (by decide) ?_
              exact ih (i + 1) a ls hlt (by omega) (by show sM_next_s τ p0 i (sM_next_F τ p0 i) = _; rw [hF]; show sM_next_s τ p0 i a = _; unfold sM_next_s; rw [if_neg c6_] <;> rfl) hA (lv_sub hl [1, 2, 3, 0] rfl)
            · refine lv_aload_n hx hb dX3_next_44 rfl (lv_at hl 0 rfl) ?_
              refine va_get (D := (dC, dI)) (ci := 3) (v := .ref (adr 11)) (C := RX3) (T := TX3) (N := 24) hx hb hts hin hown hK hP 0 rfl rfl 11 (by decide) (hts (.fieldLink RX3 41 RX3 "held" "[Z") (by decide +kernel)) (fun _ h9 => h9) rfl dX3_next_45 ?_
              refine lv_iload_n hx hb dX3_next_48 rfl (lv_at hl 3 rfl) ?_
              refine va_zald (D := (dC, dI)) (i := nI (i + 1)) (f := τ 11) hx hb hK hP 11 1 rfl rfl (in_g hlt hN.2) dX3_next_49 ?_
              refine lv_if_ne (tgt := 146) hx hb dX3_next_50 (by decide) (fun c7_ => ?_) (fun c7_ => ?_)
              · refine lv_iinc (v := nI (i + 1 + 1)) (lv' := [(3, .int (nI (i + 1 + 1))), (0, .ref h), (1, .int p0), (2, .int a)]) hx hb dX3_next_146 hl (k := 3) rfl (nI_1 _) (by decide) rfl (fun ls hl => ?_)
                refine lv_goto (tgt := 26) hx hb dX3_next_149 (by decide) ?_
                exact ih (i + 1) a ls hlt (by omega) (by show sM_next_s τ p0 i (sM_next_F τ p0 i) = _; rw [hF]; show sM_next_s τ p0 i a = _; unfold sM_next_s; rw [if_pos c6_, if_neg c7_] <;> rfl) hA (lv_sub hl [1, 2, 3, 0] rfl)
              · refine lv_aload_n hx hb dX3_next_53 rfl (lv_at hl 0 rfl) ?_
                refine va_get (D := (dC, dI)) (ci := 3) (v := .ref (adr 7)) (C := RX3) (T := TX3) (N := 24) hx hb hts hin hown hK hP 0 rfl rfl 7 (by decide) (hts (.fieldLink RX3 28 RX3 "lines" "[I") (by decide +kernel)) (fun _ h9 => h9) rfl dX3_next_54 ?_
                refine lv_iload_n hx hb dX3_next_57 rfl (lv_at hl 3 rfl) ?_
                refine va_iald (D := (dC, dI)) (i := nI (i + 1)) (f := τ 7) hx hb hK hP 7 0 rfl rfl (in_g hlt hN.2) dX3_next_58 ?_
                refine lv_if_eq (tgt := 146) hx hb dX3_next_59 (by decide) (fun c8_ => ?_) (fun c8_ => ?_)
                · refine lv_iinc (v := nI (i + 1 + 1)) (lv' := [(3, .int (nI (i + 1 + 1))), (0, .ref h), (1, .int p0), (2, .int a)]) hx hb dX3_next_146 hl (k := 3) rfl (nI_1 _) (by decide) rfl (fun ls hl => ?_)
                  refine lv_goto (tgt := 26) hx hb dX3_next_149 (by decide) ?_
                  exact ih (i + 1) a ls hlt (by omega) (by show sM_next_s τ p0 i (sM_next_F τ p0 i) = _; rw [hF]; show sM_next_s τ p0 i a = _; unfold sM_next_s; rw [if_pos c6_, if_pos c7_, if_pos c8_] <;> rfl) hA (lv_sub hl [1, 2, 3, 0] rfl)
                · refine lv_aload_n hx hb dX3_next_62 rfl (lv_at hl 0 rfl) ?_
                  refine lv_iload_n hx hb dX3_next_63 rfl (lv_at hl 3 rfl) ?_
                  refine lv_aload_n hx hb dX3_next_64 rfl (lv_at hl 0 rfl) ?_
                  refine va_get (D := (dC, dI)) (ci := 3) (v := .ref (adr 17)) (C := RX3) (T := TX3) (N := 24) hx hb hts hin hown hK hP 0 rfl rfl 17 (by decide) (hts (.fieldLink RX3 53 RX3 "criteria" "[I") (by decide +kernel)) (fun _ h9 => h9) rfl dX3_next_65 ?_
                  refine lv_iload_n hx hb dX3_next_68 rfl (lv_at hl 1 rfl) ?_
                  refine va_iald (D := (dC, dI)) (i := p0) (f := τ 17) hx hb hK hP 15 0 rfl rfl (mw_in hI c1_) dX3_next_69 ?_
                  refine vp_callSi (W.runV (As := [.int (nI (i + 1)), .int (τ 17 p0.toNatClampNeg)]) (rest := []) ⟨hx, hb, hml, hown, hts⟩ (c_M_fits l dC dI cI cZ cO cW z X h adr τ (nI (i + 1)) (τ 17 p0.toNatClampNeg) (in_g hlt hN.2)) (cwV 2 hts gX3_next_X3_fits rfl rfl rfl (by decide +kernel) ⟨Nat.le_of_ble_eq_true rfl, Nat.le_of_ble_eq_true rfl⟩) (wPreV (Nat.le_trans hz hS.1) hP hK hD (va_recv hK hP (ci := 3) (q0 := 0) rfl rfl)) rfl rfl hl.1 rfl (lv_room (Nat.le_of_ble_eq_true rfl)) dX3_next_70 ⟨Nat.le_of_ble_eq_true rfl, Nat.le_of_ble_eq_true rfl⟩) (fun r e_ => ?_)
                  subst e_
                  refine lv_if_ne (tgt := 79) hx hb dX3_next_73 (by decide) (fun c9_ => ?_) (fun c9_ => ?_)
                  · refine lv_iload_n hx hb dX3_next_79 rfl (lv_at hl 2 rfl) ?_
                    refine lv_if_eq (tgt := 128) hx hb dX3_next_80 (by decide) (fun c10_ => ?_) (fun c10_ => ?_)
                    · refine lv_iconst (v := 1) hx hb dX3_next_128 (by decide) ?_
                      refine lv_goto (tgt := 133) hx hb dX3_next_129 (by decide) ?_
                      refine lv_istore (lv' := [(4, .int 1), (0, .ref h), (1, .int p0), (2, .int a), (3, .int (nI (i + 1)))]) hx hb dX3_next_133 hl (by decide) rfl (fun ls hl => ?_)
                      refine lv_iload hx hb dX3_next_135 (lv_at hl 0 rfl) ?_
                      refine lv_if_eq (tgt := 144) hx hb dX3_next_137 (by decide) (fun z_ => absurd z_ (by decide)) (fun _ => ?_)
                      refine lv_iload_n hx hb dX3_next_140 rfl (lv_at hl 4 rfl) ?_
                      refine lv_goto (tgt := 145) hx hb dX3_next_141 (by decide) ?_
                      refine lv_istore_n (lv' := [(2, .int (nI (i + 1))), (4, .int 1), (0, .ref h), (1, .int p0), (3, .int (nI (i + 1)))]) hx hb dX3_next_145 rfl hl (by decide) rfl (fun ls hl => ?_)
                      refine lv_iinc (v := nI (i + 1 + 1)) (lv' := [(3, .int (nI (i + 1 + 1))), (2, .int (nI (i + 1))), (4, .int 1), (0, .ref h), (1, .int p0)]) hx hb dX3_next_146 hl (k := 4) rfl (nI_1 _) (by decide) rfl (fun ls hl => ?_)
                      refine lv_goto (tgt := 26) hx hb dX3_next_149 (by decide) ?_
                      exact ih (i + 1) (nI (i + 1)) ls hlt (by omega) (by show sM_next_s τ p0 i (sM_next_F τ p0 i) = _; rw [hF]; show sM_next_s τ p0 i a = _; unfold sM_next_s; rw [if_pos c6_, if_pos c7_, if_neg c8_, if_neg c9_, if_pos c10_] <;> rfl) (in_g hlt hN.2) (lv_sub hl [3, 4, 1, 0] rfl)
                    · refine lv_aload_n hx hb dX3_next_83 rfl (lv_at hl 0 rfl) ?_
                      refine va_get (D := (dC, dI)) (ci := 3) (v := .ref (adr 5)) (C := RX3) (T := TX3) (N := 24) hx hb hts hin hown hK hP 0 rfl rfl 5 (by decide) (hts (.fieldLink RX3 22 RX3 "priorities" "[I") (by decide +kernel)) (fun _ h9 => h9) rfl dX3_next_84 ?_
                      refine lv_iload_n hx hb dX3_next_87 rfl (lv_at hl 3 rfl) ?_
                      refine va_iald (D := (dC, dI)) (i := nI (i + 1)) (f := τ 5) hx hb hK hP 5 0 rfl rfl (in_g hlt hN.2) dX3_next_88 ?_
                      refine lv_aload_n hx hb dX3_next_89 rfl (lv_at hl 0 rfl) ?_
                      refine va_get (D := (dC, dI)) (ci := 3) (v := .ref (adr 5)) (C := RX3) (T := TX3) (N := 24) hx hb hts hin hown hK hP 0 rfl rfl 5 (by decide) (hts (.fieldLink RX3 22 RX3 "priorities" "[I") (by decide +kernel)) (fun _ h9 => h9) rfl dX3_next_90 ?_
                      refine lv_iload_n hx hb dX3_next_93 rfl (lv_at hl 2 rfl) ?_
                      refine va_iald (D := (dC, dI)) (i := a) (f := τ 5) hx hb hK hP 5 0 rfl rfl hA dX3_next_94 ?_
                      refine lv_icmp_gt (tgt := 128) hx hb dX3_next_95 (by decide) (fun c11_ => ?_) (fun c11_ => ?_)
                      · refine lv_iconst (v := 1) hx hb dX3_next_128 (by decide) ?_
                        refine lv_goto (tgt := 133) hx hb dX3_next_129 (by decide) ?_
                        refine lv_istore (lv' := [(4, .int 1), (0, .ref h), (1, .int p0), (2, .int a), (3, .int (nI (i + 1)))]) hx hb dX3_next_133 hl (by decide) rfl (fun ls hl => ?_)
                        refine lv_iload hx hb dX3_next_135 (lv_at hl 0 rfl) ?_
                        refine lv_if_eq (tgt := 144) hx hb dX3_next_137 (by decide) (fun z_ => absurd z_ (by decide)) (fun _ => ?_)
                        refine lv_iload_n hx hb dX3_next_140 rfl (lv_at hl 4 rfl) ?_
                        refine lv_goto (tgt := 145) hx hb dX3_next_141 (by decide) ?_
                        refine lv_istore_n (lv' := [(2, .int (nI (i + 1))), (4, .int 1), (0, .ref h), (1, .int p0), (3, .int (nI (i + 1)))]) hx hb dX3_next_145 rfl hl (by decide) rfl (fun ls hl => ?_)
                        refine lv_iinc (v := nI (i + 1 + 1)) (lv' := [(3, .int (nI (i + 1 + 1))), (2, .int (nI (i + 1))), (4, .int 1), (0, .ref h), (1, .int p0)]) hx hb dX3_next_146 hl (k := 4) rfl (nI_1 _) (by decide) rfl (fun ls hl => ?_)
                        refine lv_goto (tgt := 26) hx hb dX3_next_149 (by decide) ?_
                        exact ih (i + 1) (nI (i + 1)) ls hlt (by omega) (by show sM_next_s τ p0 i (sM_next_F τ p0 i) = _; rw [hF]; show sM_next_s τ p0 i a = _; unfold sM_next_s; rw [if_pos c6_, if_pos c7_, if_neg c8_, if_neg c9_, if_neg c10_, if_pos c11_] <;> rfl) (in_g hlt hN.2) (lv_sub hl [3, 4, 1, 0] rfl)
                      · refine lv_aload_n hx hb dX3_next_98 rfl (lv_at hl 0 rfl) ?_
                        refine va_get (D := (dC, dI)) (ci := 3) (v := .ref (adr 5)) (C := RX3) (T := TX3) (N := 24) hx hb hts hin hown hK hP 0 rfl rfl 5 (by decide) (hts (.fieldLink RX3 22 RX3 "priorities" "[I") (by decide +kernel)) (fun _ h9 => h9) rfl dX3_next_99 ?_
                        refine lv_iload_n hx hb dX3_next_102 rfl (lv_at hl 3 rfl) ?_
                        refine va_iald (D := (dC, dI)) (i := nI (i + 1)) (f := τ 5) hx hb hK hP 5 0 rfl rfl (in_g hlt hN.2) dX3_next_103 ?_
                        refine lv_aload_n hx hb dX3_next_104 rfl (lv_at hl 0 rfl) ?_
                        refine va_get (D := (dC, dI)) (ci := 3) (v := .ref (adr 5)) (C := RX3) (T := TX3) (N := 24) hx hb hts hin hown hK hP 0 rfl rfl 5 (by decide) (hts (.fieldLink RX3 22 RX3 "priorities" "[I") (by decide +kernel)) (fun _ h9 => h9) rfl dX3_next_105 ?_
                        refine lv_iload_n hx hb dX3_next_108 rfl (lv_at hl 2 rfl) ?_
                        refine va_iald (D := (dC, dI)) (i := a) (f := τ 5) hx hb hK hP 5 0 rfl rfl hA dX3_next_109 ?_
                        refine lv_icmp_ne (tgt := 132) hx hb dX3_next_110 (by decide) (fun c12_ => ?_) (fun c12_ => ?_)
                        · refine lv_iconst (v := 0) hx hb dX3_next_132 (by decide) ?_
                          refine lv_istore (lv' := [(4, .int 0), (0, .ref h), (1, .int p0), (2, .int a), (3, .int (nI (i + 1)))]) hx hb dX3_next_133 hl (by decide) rfl (fun ls hl => ?_)
                          refine lv_iload hx hb dX3_next_135 (lv_at hl 0 rfl) ?_
                          refine lv_if_eq (tgt := 144) hx hb dX3_next_137 (by decide) (fun _ => ?_) (fun z_ => absurd (by decide) z_)
                          refine lv_iload_n hx hb dX3_next_144 rfl (lv_at hl 3 rfl) ?_
                          refine lv_istore_n (lv' := [(2, .int a), (4, .int 0), (0, .ref h), (1, .int p0), (3, .int (nI (i + 1)))]) hx hb dX3_next_145 rfl hl (by decide) rfl (fun ls hl => ?_)
                          refine lv_iinc (v := nI (i + 1 + 1)) (lv' := [(3, .int (nI (i + 1 + 1))), (2, .int a), (4, .int 0), (0, .ref h), (1, .int p0)]) hx hb dX3_next_146 hl (k := 4) rfl (nI_1 _) (by decide) rfl (fun ls hl => ?_)
                          refine lv_goto (tgt := 26) hx hb dX3_next_149 (by decide) ?_
                          exact ih (i + 1) a ls hlt (by omega) (by show sM_next_s τ p0 i (sM_next_F τ p0 i) = _; rw [hF]; show sM_next_s τ p0 i a = _; unfold sM_next_s; rw [if_pos c6_, if_pos c7_, if_neg c8_, if_neg c9_, if_neg c10_, if_neg c11_, if_neg c12_] <;> rfl) hA (lv_sub hl [3, 4, 1, 0] rfl)
                        · refine lv_aload_n hx hb dX3_next_113 rfl (lv_at hl 0 rfl) ?_
                          refine va_get (D := (dC, dI)) (ci := 3) (v := .ref (adr 1)) (C := RX3) (T := TX3) (N := 24) hx hb hts hin hown hK hP 0 rfl rfl 1 (by decide) (hts (.fieldLink RX3 7 RX3 "jobs" "[I") (by decide +kernel)) (fun _ h9 => h9) rfl dX3_next_114 ?_
                          refine lv_iload_n hx hb dX3_next_117 rfl (lv_at hl 3 rfl) ?_
                          refine va_iald (D := (dC, dI)) (i := nI (i + 1)) (f := τ 1) hx hb hK hP 1 0 rfl rfl (in_g hlt hN.2) dX3_next_118 ?_
                          refine lv_aload_n hx hb dX3_next_119 rfl (lv_at hl 0 rfl) ?_
                          refine va_get (D := (dC, dI)) (ci := 3) (v := .ref (adr 1)) (C := RX3) (T := TX3) (N := 24) hx hb hts hin hown hK hP 0 rfl rfl 1 (by decide) (hts (.fieldLink RX3 7 RX3 "jobs" "[I") (by decide +kernel)) (fun _ h9 => h9) rfl dX3_next_120 ?_
                          refine lv_iload_n hx hb dX3_next_123 rfl (lv_at hl 2 rfl) ?_
                          refine va_iald (D := (dC, dI)) (i := a) (f := τ 1) hx hb hK hP 1 0 rfl rfl hA dX3_next_124 ?_
                          refine lv_icmp_ge (tgt := 132) hx hb dX3_next_125 (by decide) (fun c13_ => ?_) (fun c13_ => ?_)
                          · refine lv_iconst (v := 0) hx hb dX3_next_132 (by decide) ?_
                            refine lv_istore (lv' := [(4, .int 0), (0, .ref h), (1, .int p0), (2, .int a), (3, .int (nI (i + 1)))]) hx hb dX3_next_133 hl (by decide) rfl (fun ls hl => ?_)
                            refine lv_iload hx hb dX3_next_135 (lv_at hl 0 rfl) ?_
                            refine lv_if_eq (tgt := 144) hx hb dX3_next_137 (by decide) (fun _ => ?_) (fun z_ => absurd (by decide) z_)
                            refine lv_iload_n hx hb dX3_next_144 rfl (lv_at hl 3 rfl) ?_
                            refine lv_istore_n (lv' := [(2, .int a), (4, .int 0), (0, .ref h), (1, .int p0), (3, .int (nI (i + 1)))]) hx hb dX3_next_145 rfl hl (by decide) rfl (fun ls hl => ?_)
                            refine lv_iinc (v := nI (i + 1 + 1)) (lv' := [(3, .int (nI (i + 1 + 1))), (2, .int a), (4, .int 0), (0, .ref h), (1, .int p0)]) hx hb dX3_next_146 hl (k := 4) rfl (nI_1 _) (by decide) rfl (fun ls hl => ?_)
                            refine lv_goto (tgt := 26) hx hb dX3_next_149 (by decide) ?_
                            exact ih (i + 1) a ls hlt (by omega) (by show sM_next_s τ p0 i (sM_next_F τ p0 i) = _; rw [hF]; show sM_next_s τ p0 i a = _; unfold sM_next_s; rw [if_pos c6_, if_pos c7_, if_neg c8_, if_neg c9_, if_neg c10_, if_neg c11_, if_pos c12_, if_pos c13_] <;> rfl) hA (lv_sub hl [3, 4, 1, 0] rfl)
                          · refine lv_iconst (v := 1) hx hb dX3_next_128 (by decide) ?_
                            refine lv_goto (tgt := 133) hx hb dX3_next_129 (by decide) ?_
                            refine lv_istore (lv' := [(4, .int 1), (0, .ref h), (1, .int p0), (2, .int a), (3, .int (nI (i + 1)))]) hx hb dX3_next_133 hl (by decide) rfl (fun ls hl => ?_)
                            refine lv_iload hx hb dX3_next_135 (lv_at hl 0 rfl) ?_
                            refine lv_if_eq (tgt := 144) hx hb dX3_next_137 (by decide) (fun z_ => absurd z_ (by decide)) (fun _ => ?_)
                            refine lv_iload_n hx hb dX3_next_140 rfl (lv_at hl 4 rfl) ?_
                            refine lv_goto (tgt := 145) hx hb dX3_next_141 (by decide) ?_
                            refine lv_istore_n (lv' := [(2, .int (nI (i + 1))), (4, .int 1), (0, .ref h), (1, .int p0), (3, .int (nI (i + 1)))]) hx hb dX3_next_145 rfl hl (by decide) rfl (fun ls hl => ?_)
                            refine lv_iinc (v := nI (i + 1 + 1)) (lv' := [(3, .int (nI (i + 1 + 1))), (2, .int (nI (i + 1))), (4, .int 1), (0, .ref h), (1, .int p0)]) hx hb dX3_next_146 hl (k := 4) rfl (nI_1 _) (by decide) rfl (fun ls hl => ?_)
                            refine lv_goto (tgt := 26) hx hb dX3_next_149 (by decide) ?_
                            exact ih (i + 1) (nI (i + 1)) ls hlt (by omega) (by show sM_next_s τ p0 i (sM_next_F τ p0 i) = _; rw [hF]; show sM_next_s τ p0 i a = _; unfold sM_next_s; rw [if_pos c6_, if_pos c7_, if_neg c8_, if_neg c9_, if_neg c10_, if_neg c11_, if_pos c12_, if_neg c13_] <;> rfl) (in_g hlt hN.2) (lv_sub hl [3, 4, 1, 0] rfl)
                  · refine lv_goto (tgt := 146) hx hb dX3_next_76 (by decide) ?_
                    refine lv_iinc (v := nI (i + 1 + 1)) (lv' := [(3, .int (nI (i + 1 + 1))), (0, .ref h), (1, .int p0), (2, .int a)]) hx hb dX3_next_146 hl (k := 3) rfl (nI_1 _) (by decide) rfl (fun ls hl => ?_)
                    refine lv_goto (tgt := 26) hx hb dX3_next_149 (by decide) ?_
                    exact ih (i + 1) a ls hlt (by omega) (by show sM_next_s τ p0 i (sM_next_F τ p0 i) = _; rw [hF]; show sM_next_s τ p0 i a = _; unfold sM_next_s; rw [if_pos c6_, if_pos c7_, if_neg c8_, if_pos c9_] <;> rfl) hA (lv_sub hl [1, 2, 3, 0] rfl)
      exact key (N + 1) 0 0 ls (Nat.zero_le _) (by omega) rfl in_0 (lv_sub hl [2, 3, 1, 0] rfl)
    · refine lv_bipush (v := (-2)) hx hb dX3_next_19 (by decide) ?_
      exact w_iret (v := (-2)) (u := τ) hx hb hr hlocks hP hD hS dX3_next_21 (wpair (by unfold sM_next; rw [if_neg c1_, if_neg c2_] <;> rfl))
  · refine lv_iconst (v := (-1)) hx hb dX3_next_8 (by decide) ?_
    exact w_iret (v := (-1)) (u := τ) hx hb hr hlocks hP hD hS dX3_next_9 (wpair (by unfold sM_next; rw [if_pos c1_] <;> rfl))
