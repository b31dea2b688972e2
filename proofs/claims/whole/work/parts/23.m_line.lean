set_option maxHeartbeats 4000000 in
set_option maxRecDepth 100000 in
theorem c_M_line (l : Launch) (dC : Nat → ClassId) (dI : Nat → Nat → Nat) (cI cZ cO cW : ClassId) (z : Nat) (X : va_W) (h : Nat) (adr : Nat → Nat) (τ : T2) (p0 : Int32) (p1 : Int32) (hI : mInv τ) : Met l yX3_line wsX3_line ({ frames := 2, cells := 0, slots := 0, locals := 43 }) (wPc (dC, dI) (tyL cI cZ cO cW) z [.ref h, .int p0, .int p1] (mW h adr cI cZ τ ++ X)) (wQi (dC, dI) z (fun u : T2 => mW h adr cI cZ u ++ X) (fun r u => r = (sM_line τ p0 p1).1 ∧ u = (sM_line τ p0 p1).2)) 0 0 (fun q => z ≤ q) := by
  refine en_met (cc := cX3_line) (maxL := 4) (ret := (some .int)) (by decide) rfl (Nat.le_of_ble_eq_true rfl) ?_
  intro p e s m below meth c ls hx hb hml hr hts hown hlocks hnm hv hl
  obtain ⟨hz, hP, hK, hD⟩ := hv
  have hown : s.vm.findClass RX3 = some m.cls := hown
  have hin : ∀ w ∈ wsX30, w ∈ wsX3_line := by decide +kernel
  have hS : va_S (fun q : Nat => z ≤ q) s.heap s.heap [] := va_S.rf
  have hl : lv_has ls 4 [(0, .ref h), (1, .int p0), (2, .int p1)] := hl
  refine lv_aload_n hx hb dX3_line_0 rfl (lv_at hl 0 rfl) ?_
  refine lv_iload_n hx hb dX3_line_1 rfl (lv_at hl 1 rfl) ?_
  refine vp_callSi (W.runV (As := [.int p0]) (rest := []) ⟨hx, hb, hml, hown, hts⟩ (c_M_isOutput l dC dI cI cZ cO cW z X h adr τ p0) (cwV 1 hts gX3_line_X3_isOutput rfl rfl rfl (by decide +kernel) ⟨Nat.le_of_ble_eq_true rfl, Nat.le_of_ble_eq_true rfl⟩) (wPreV (Nat.le_trans hz hS.1) hP hK hD (va_recv hK hP (ci := 3) (q0 := 0) rfl rfl)) rfl rfl hl.1 rfl (lv_room (Nat.le_of_ble_eq_true rfl)) dX3_line_2 ⟨Nat.le_of_ble_eq_true rfl, Nat.le_of_ble_eq_true rfl⟩) (fun r e_ => ?_)
  subst e_
  refine lv_if_eq (tgt := 18) hx hb dX3_line_5 (by decide) (fun c1_ => ?_) (fun c1_ => ?_)
  · refine lv_iconst (v := (-1)) hx hb dX3_line_18 (by decide) ?_
    exact w_iret (v := (-1)) (u := τ) hx hb hr hlocks hP hD hS dX3_line_19 (wpair (by unfold sM_line; rw [if_pos c1_] <;> rfl))
  · refine lv_iload_n hx hb dX3_line_8 rfl (lv_at hl 2 rfl) ?_
    refine lv_if_lt (tgt := 18) hx hb dX3_line_9 (by decide) (fun c2_ => ?_) (fun c2_ => ?_)
    · refine lv_iconst (v := (-1)) hx hb dX3_line_18 (by decide) ?_
      exact w_iret (v := (-1)) (u := τ) hx hb hr hlocks hP hD hS dX3_line_19 (wpair (by unfold sM_line; rw [if_neg c1_, if_pos c2_] <;> rfl))
    · refine lv_iload_n hx hb dX3_line_12 rfl (lv_at hl 2 rfl) ?_
      refine lv_ldc (v := 34047) hx hb hown (hts (.constant RX3 92 34047) (by decide +kernel)) dX3_line_13 ?_
      refine lv_icmp_le (tgt := 20) hx hb dX3_line_15 (by decide) (fun c3_ => ?_) (fun c3_ => ?_)
      · refine lv_aload_n hx hb dX3_line_20 rfl (lv_at hl 0 rfl) ?_
        refine va_get (D := (dC, dI)) (ci := 3) (v := .ref (adr 6)) (C := RX3) (T := TX3) (N := 24) hx hb hts hin hown hK hP 0 rfl rfl 6 (by decide) (hts (.fieldLink RX3 25 RX3 "states" "[I") (by decide +kernel)) (fun _ h9 => h9) rfl dX3_line_21 ?_
        refine lv_iload_n hx hb dX3_line_24 rfl (lv_at hl 1 rfl) ?_
        refine va_iald (D := (dC, dI)) (i := p0) (f := τ 6) hx hb hK hP 6 0 rfl rfl (mo_in hI c1_) dX3_line_25 ?_
        refine lv_iconst (v := 1) hx hb dX3_line_26 (by decide) ?_
        refine lv_icmp_eq (tgt := 33) hx hb dX3_line_27 (by decide) (fun c4_ => ?_) (fun c4_ => ?_)
        · refine lv_aload_n hx hb dX3_line_33 rfl (lv_at hl 0 rfl) ?_
          refine va_get (D := (dC, dI)) (ci := 3) (v := .ref (adr 8)) (C := RX3) (T := TX3) (N := 24) hx hb hts hin hown hK hP 0 rfl rfl 8 (by decide) (hts (.fieldLink RX3 31 RX3 "limits" "[I") (by decide +kernel)) (fun _ h9 => h9) rfl dX3_line_34 ?_
          refine lv_iload_n hx hb dX3_line_37 rfl (lv_at hl 1 rfl) ?_
          refine va_iald (D := (dC, dI)) (i := p0) (f := τ 8) hx hb hK hP 8 0 rfl rfl (mo_in hI c1_) dX3_line_38 ?_
          refine lv_if_le (tgt := 61) hx hb dX3_line_39 (by decide) (fun c5_ => ?_) (fun c5_ => ?_)
          · refine lv_iconst (v := 0) hx hb dX3_line_61 (by decide) ?_
            refine lv_istore_n (lv' := [(3, .int 0), (0, .ref h), (1, .int p0), (2, .int p1)]) hx hb dX3_line_62 rfl hl (by decide) rfl (fun ls hl => ?_)
            refine lv_iload_n hx hb dX3_line_63 rfl (lv_at hl 0 rfl) ?_
            refine lv_if_eq (tgt := 78) hx hb dX3_line_64 (by decide) (fun _ => ?_) (fun z_ => absurd (by decide) z_)
            refine lv_aload_n hx hb dX3_line_78 rfl (lv_at hl 1 rfl) ?_
            refine va_get (D := (dC, dI)) (ci := 3) (v := .ref (adr 7)) (C := RX3) (T := TX3) (N := 24) hx hb hts hin hown hK hP 0 rfl rfl 7 (by decide) (hts (.fieldLink RX3 28 RX3 "lines" "[I") (by decide +kernel)) (fun _ h9 => h9) rfl dX3_line_79 ?_
            refine lv_iload_n hx hb dX3_line_82 rfl (lv_at hl 2 rfl) ?_
            refine va_iald (D := (dC, dI)) (i := p0) (f := τ 7) hx hb hK hP 7 0 rfl rfl (mo_in hI c1_) dX3_line_83 ?_
            refine lv_bipush (v := 8) hx hb dX3_line_84 (by decide) ?_
            refine lv_irem hx hb dX3_line_86 (by decide) ?_
            refine lv_if_ne (tgt := 100) hx hb dX3_line_87 (by decide) (fun c6_ => ?_) (fun c6_ => ?_)
            · refine lv_aload_n hx hb dX3_line_100 rfl (lv_at hl 1 rfl) ?_
              refine va_get (D := (dC, dI)) (ci := 3) (v := .ref (adr 14)) (C := RX3) (T := TX3) (N := 24) hx hb hts hin hown hK hP 0 rfl rfl 14 (by decide) (hts (.fieldLink RX3 47 RX3 "owners" "[I") (by decide +kernel)) (fun _ h9 => h9) rfl dX3_line_101 ?_
              refine lv_aload_n hx hb dX3_line_104 rfl (lv_at hl 1 rfl) ?_
              refine va_get (D := (dC, dI)) (ci := 3) (v := .int (τ 16 0)) (C := RX3) (T := TX3) (N := 24) hx hb hts hin hown hK hP 0 rfl rfl 16 (by decide) (hts (.fieldLink RX3 93 RX3 "all" "I") (by decide +kernel)) (fun _ h9 => h9) rfl dX3_line_105 ?_
              refine lv_iload_n hx hb dX3_line_108 rfl (lv_at hl 2 rfl) ?_
              refine va_iast (D := (dC, dI)) (i := τ 16 0) (x := p0) (f := τ 14) hx hb hK hP hD hS 13 0 rfl rfl (ma_in hI) dX3_line_109 (fun H locs hP hD hS => ?_)
              have hP : va_P (dC, dI) vwCl (mW h adr cI cZ (upd2 τ 14 ((τ 16 0).toNatClampNeg) p0) ++ X) H := by rw [← mput_14]; exact hP
              have hD : va_D (fun q : Nat => z ≤ q) (mW h adr cI cZ (upd2 τ 14 ((τ 16 0).toNatClampNeg) p0) ++ X) := by rw [← mput_14]; exact hD
              refine lv_aload_n hx hb dX3_line_110 rfl (lv_at hl 1 rfl) ?_
              refine va_get (D := (dC, dI)) (ci := 3) (v := .ref (adr 15)) (C := RX3) (T := TX3) (N := 24) hx hb hts hin hown hK hP 0 rfl rfl 15 (by decide) (hts (.fieldLink RX3 50 RX3 "signs" "[I") (by decide +kernel)) (fun _ h9 => h9) rfl dX3_line_111 ?_
              refine lv_aload_n hx hb dX3_line_114 rfl (lv_at hl 1 rfl) ?_
              refine va_get (D := (dC, dI)) (ci := 3) (v := .int (τ 16 0)) (C := RX3) (T := TX3) (N := 24) hx hb hts hin hown hK hP 0 rfl rfl 16 (by decide) (hts (.fieldLink RX3 93 RX3 "all" "I") (by decide +kernel)) (fun _ h9 => h9) rfl dX3_line_115 ?_
              refine lv_iload_n hx hb dX3_line_118 rfl (lv_at hl 3 rfl) ?_
              refine lv_sipush (v := 256) hx hb dX3_line_119 (by decide) ?_
              refine lv_idiv hx hb dX3_line_122 (by decide) ?_
              refine lv_if_le (tgt := 134) hx hb dX3_line_123 (by decide) (fun c7_ => ?_) (fun c7_ => ?_)
              · refine lv_iconst (v := (-1)) hx hb dX3_line_134 (by decide) ?_
                refine va_iast (D := (dC, dI)) (i := τ 16 0) (x := (-1)) (f := (upd2 τ 14 ((τ 16 0).toNatClampNeg) p0) 15) hx hb hK hP hD hS 14 0 rfl rfl (ma_in hI) dX3_line_135 (fun H locs hP hD hS => ?_)
                have hP : va_P (dC, dI) vwCl (mW h adr cI cZ (upd2 (upd2 τ 14 ((τ 16 0).toNatClampNeg) p0) 15 ((τ 16 0).toNatClampNeg) (-1)) ++ X) H := by rw [← mput_15]; exact hP
                have hD : va_D (fun q : Nat => z ≤ q) (mW h adr cI cZ (upd2 (upd2 τ 14 ((τ 16 0).toNatClampNeg) p0) 15 ((τ 16 0).toNatClampNeg) (-1)) ++ X) := by rw [← mput_15]; exact hD
                refine lv_aload_n hx hb dX3_line_136 rfl (lv_at hl 1 rfl) ?_
                refine lv_dup hx hb dX3_line_137 rfl ?_
                refine va_get (D := (dC, dI)) (ci := 3) (v := .int (τ 16 0)) (C := RX3) (T := TX3) (N := 24) hx hb hts hin hown hK hP 0 rfl rfl 16 (by decide) (hts (.fieldLink RX3 93 RX3 "all" "I") (by decide +kernel)) (fun _ h9 => h9) rfl dX3_line_138 ?_
                refine lv_iconst (v := 1) hx hb dX3_line_141 (by decide) ?_
                refine lv_iadd hx hb dX3_line_142 ?_
                refine va_put (D := (dC, dI)) (ci := 3) (v := .int ((τ 16 0) + 1)) (ty := .int) (C := RX3) (T := TX3) (N := 24) hx hb hts hin tyX3 tyX3_ok nmX3 hown hK hP hD hS 0 rfl rfl 16 (by decide) (hts (.fieldLink RX3 93 RX3 "all" "I") (by decide +kernel)) (fun _ h9 => h9) rfl (by decide +kernel) rfl rfl (Nat.le_of_ble_eq_true rfl) dX3_line_143 (fun H locs hP hD hS => ?_)
                have hP : va_P (dC, dI) vwCl (mW h adr cI cZ (upd2 (upd2 (upd2 τ 14 ((τ 16 0).toNatClampNeg) p0) 15 ((τ 16 0).toNatClampNeg) (-1)) 16 0 ((τ 16 0) + 1)) ++ X) H := by rw [← mput_16]; exact hP
                have hD : va_D (fun q : Nat => z ≤ q) (mW h adr cI cZ (upd2 (upd2 (upd2 τ 14 ((τ 16 0).toNatClampNeg) p0) 15 ((τ 16 0).toNatClampNeg) (-1)) 16 0 ((τ 16 0) + 1)) ++ X) := by rw [← mput_16]; exact hD
                refine lv_aload_n hx hb dX3_line_146 rfl (lv_at hl 1 rfl) ?_
                refine va_get (D := (dC, dI)) (ci := 3) (v := .ref (adr 7)) (C := RX3) (T := TX3) (N := 24) hx hb hts hin hown hK hP 0 rfl rfl 7 (by decide) (hts (.fieldLink RX3 28 RX3 "lines" "[I") (by decide +kernel)) (fun _ h9 => h9) rfl dX3_line_147 ?_
                refine lv_iload_n hx hb dX3_line_150 rfl (lv_at hl 2 rfl) ?_
                refine lv_dup2_11 hx hb dX3_line_151 rfl rfl ?_
                refine va_iald (D := (dC, dI)) (i := p0) (f := (upd2 (upd2 (upd2 τ 14 ((τ 16 0).toNatClampNeg) p0) 15 ((τ 16 0).toNatClampNeg) (-1)) 16 0 ((τ 16 0) + 1)) 7) hx hb hK hP 7 0 rfl rfl (mo_in hI c1_) dX3_line_152 ?_
                refine W.eq (g2 := F0 m 153 ls [.int (τ 7 p0.toNatClampNeg), .int p0, .ref (adr 7)]) rfl ?_
                refine lv_iconst (v := 1) hx hb dX3_line_153 (by decide) ?_
                refine lv_iadd hx hb dX3_line_154 ?_
                refine va_iast (D := (dC, dI)) (i := p0) (x := (τ 7 p0.toNatClampNeg) + 1) (f := (upd2 (upd2 (upd2 τ 14 ((τ 16 0).toNatClampNeg) p0) 15 ((τ 16 0).toNatClampNeg) (-1)) 16 0 ((τ 16 0) + 1)) 7) hx hb hK hP hD hS 7 0 rfl rfl (mo_in hI c1_) dX3_line_155 (fun H locs hP hD hS => ?_)
                have hP : va_P (dC, dI) vwCl (mW h adr cI cZ (upd2 (upd2 (upd2 (upd2 τ 14 ((τ 16 0).toNatClampNeg) p0) 15 ((τ 16 0).toNatClampNeg) (-1)) 16 0 ((τ 16 0) + 1)) 7 p0.toNatClampNeg ((τ 7 p0.toNatClampNeg) + 1)) ++ X) H := by rw [← mput_7]; exact hP
                have hD : va_D (fun q : Nat => z ≤ q) (mW h adr cI cZ (upd2 (upd2 (upd2 (upd2 τ 14 ((τ 16 0).toNatClampNeg) p0) 15 ((τ 16 0).toNatClampNeg) (-1)) 16 0 ((τ 16 0) + 1)) 7 p0.toNatClampNeg ((τ 7 p0.toNatClampNeg) + 1)) ++ X) := by rw [← mput_7]; exact hD
                refine lv_iload_n hx hb dX3_line_156 rfl (lv_at hl 0 rfl) ?_
                refine lv_if_eq (tgt := 164) hx hb dX3_line_157 (by decide) (fun _ => ?_) (fun z_ => absurd (by decide) z_)
                refine lv_iconst (v := 1) hx hb dX3_line_164 (by decide) ?_
                exact w_iret (v := 1) (u := upd2 (upd2 (upd2 (upd2 τ 14 ((τ 16 0).toNatClampNeg) p0) 15 ((τ 16 0).toNatClampNeg) (-1)) 16 0 ((τ 16 0) + 1)) 7 p0.toNatClampNeg ((τ 7 p0.toNatClampNeg) + 1)) hx hb hr hlocks hP hD hS dX3_line_165 (wpair (by unfold sM_line; rw [if_neg c1_, if_neg c2_, if_pos c3_, if_pos c4_, if_pos c5_, if_neg c6_, if_pos c7_] <;> rfl))
              · refine lv_iload_n hx hb dX3_line_126 rfl (lv_at hl 3 rfl) ?_
                refine lv_sipush (v := 256) hx hb dX3_line_127 (by decide) ?_
                refine lv_irem hx hb dX3_line_130 (by decide) ?_
                refine lv_goto (tgt := 135) hx hb dX3_line_131 (by decide) ?_
                refine va_iast (D := (dC, dI)) (i := τ 16 0) (x := p1 - p1 / 256 * 256) (f := (upd2 τ 14 ((τ 16 0).toNatClampNeg) p0) 15) hx hb hK hP hD hS 14 0 rfl rfl (ma_in hI) dX3_line_135 (fun H locs hP hD hS => ?_)
                have hP : va_P (dC, dI) vwCl (mW h adr cI cZ (upd2 (upd2 τ 14 ((τ 16 0).toNatClampNeg) p0) 15 ((τ 16 0).toNatClampNeg) (p1 - p1 / 256 * 256)) ++ X) H := by rw [← mput_15]; exact hP
                have hD : va_D (fun q : Nat => z ≤ q) (mW h adr cI cZ (upd2 (upd2 τ 14 ((τ 16 0).toNatClampNeg) p0) 15 ((τ 16 0).toNatClampNeg) (p1 - p1 / 256 * 256)) ++ X) := by rw [← mput_15]; exact hD
                refine lv_aload_n hx hb dX3_line_136 rfl (lv_at hl 1 rfl) ?_
                refine lv_dup hx hb dX3_line_137 rfl ?_
                refine va_get (D := (dC, dI)) (ci := 3) (v := .int (τ 16 0)) (C := RX3) (T := TX3) (N := 24) hx hb hts hin hown hK hP 0 rfl rfl 16 (by decide) (hts (.fieldLink RX3 93 RX3 "all" "I") (by decide +kernel)) (fun _ h9 => h9) rfl dX3_line_138 ?_
                refine lv_iconst (v := 1) hx hb dX3_line_141 (by decide) ?_
                refine lv_iadd hx hb dX3_line_142 ?_
                refine va_put (D := (dC, dI)) (ci := 3) (v := .int ((τ 16 0) + 1)) (ty := .int) (C := RX3) (T := TX3) (N := 24) hx hb hts hin tyX3 tyX3_ok nmX3 hown hK hP hD hS 0 rfl rfl 16 (by decide) (hts (.fieldLink RX3 93 RX3 "all" "I") (by decide +kernel)) (fun _ h9 => h9) rfl (by decide +kernel) rfl rfl (Nat.le_of_ble_eq_true rfl) dX3_line_143 (fun H locs hP hD hS => ?_)
                have hP : va_P (dC, dI) vwCl (mW h adr cI cZ (upd2 (upd2 (upd2 τ 14 ((τ 16 0).toNatClampNeg) p0) 15 ((τ 16 0).toNatClampNeg) (p1 - p1 / 256 * 256)) 16 0 ((τ 16 0) + 1)) ++ X) H := by rw [← mput_16]; exact hP
                have hD : va_D (fun q : Nat => z ≤ q) (mW h adr cI cZ (upd2 (upd2 (upd2 τ 14 ((τ 16 0).toNatClampNeg) p0) 15 ((τ 16 0).toNatClampNeg) (p1 - p1 / 256 * 256)) 16 0 ((τ 16 0) + 1)) ++ X) := by rw [← mput_16]; exact hD
                refine lv_aload_n hx hb dX3_line_146 rfl (lv_at hl 1 rfl) ?_
                refine va_get (D := (dC, dI)) (ci := 3) (v := .ref (adr 7)) (C := RX3) (T := TX3) (N := 24) hx hb hts hin hown hK hP 0 rfl rfl 7 (by decide) (hts (.fieldLink RX3 28 RX3 "lines" "[I") (by decide +kernel)) (fun _ h9 => h9) rfl dX3_line_147 ?_
                refine lv_iload_n hx hb dX3_line_150 rfl (lv_at hl 2 rfl) ?_
                refine lv_dup2_11 hx hb dX3_line_151 rfl rfl ?_
                refine va_iald (D := (dC, dI)) (i := p0) (f := (upd2 (upd2 (upd2 τ 14 ((τ 16 0).toNatClampNeg) p0) 15 ((τ 16 0).toNatClampNeg) (p1 - p1 / 256 * 256)) 16 0 ((τ 16 0) + 1)) 7) hx hb hK hP 7 0 rfl rfl (mo_in hI c1_) dX3_line_152 ?_
                refine W.eq (g2 := F0 m 153 ls [.int (τ 7 p0.toNatClampNeg), .int p0, .ref (adr 7)]) rfl ?_
                refine lv_iconst (v := 1) hx hb dX3_line_153 (by decide) ?_
                refine lv_iadd hx hb dX3_line_154 ?_
                refine va_iast (D := (dC, dI)) (i := p0) (x := (τ 7 p0.toNatClampNeg) + 1) (f := (upd2 (upd2 (upd2 τ 14 ((τ 16 0).toNatClampNeg) p0) 15 ((τ 16 0).toNatClampNeg) (p1 - p1 / 256 * 256)) 16 0 ((τ 16 0) + 1)) 7) hx hb hK hP hD hS 7 0 rfl rfl (mo_in hI c1_) dX3_line_155 (fun H locs hP hD hS => ?_)
                have hP : va_P (dC, dI) vwCl (mW h adr cI cZ (upd2 (upd2 (upd2 (upd2 τ 14 ((τ 16 0).toNatClampNeg) p0) 15 ((τ 16 0).toNatClampNeg) (p1 - p1 / 256 * 256)) 16 0 ((τ 16 0) + 1)) 7 p0.toNatClampNeg ((τ 7 p0.toNatClampNeg) + 1)) ++ X) H := by rw [← mput_7]; exact hP
                have hD : va_D (fun q : Nat => z ≤ q) (mW h adr cI cZ (upd2 (upd2 (upd2 (upd2 τ 14 ((τ 16 0).toNatClampNeg) p0) 15 ((τ 16 0).toNatClampNeg) (p1 - p1 / 256 * 256)) 16 0 ((τ 16 0) + 1)) 7 p0.toNatClampNeg ((τ 7 p0.toNatClampNeg) + 1)) ++ X) := by rw [← mput_7]; exact hD
                refine lv_iload_n hx hb dX3_line_156 rfl (lv_at hl 0 rfl) ?_
                refine lv_if_eq (tgt := 164) hx hb dX3_line_157 (by decide) (fun _ => ?_) (fun z_ => absurd (by decide) z_)
                refine lv_iconst (v := 1) hx hb dX3_line_164 (by decide) ?_
                exact w_iret (v := 1) (u := upd2 (upd2 (upd2 (upd2 τ 14 ((τ 16 0).toNatClampNeg) p0) 15 ((τ 16 0).toNatClampNeg) (p1 - p1 / 256 * 256)) 16 0 ((τ 16 0) + 1)) 7 p0.toNatClampNeg ((τ 7 p0.toNatClampNeg) + 1)) hx hb hr hlocks hP hD hS dX3_line_165 (wpair (by unfold sM_line; rw [if_neg c1_, if_neg c2_, if_pos c3_, if_pos c4_, if_pos c5_, if_neg c6_, if_neg c7_] <;> rfl))
            · refine lv_aload_n hx hb dX3_line_90 rfl (lv_at hl 1 rfl) ?_
              refine vp_callSi (W.runV (As := []) (rest := []) ⟨hx, hb, hml, hown, hts⟩ (c_M_free l dC dI cI cZ cO cW z X h adr τ hI) (cwV 0 hts gX3_line_X3_free rfl rfl rfl (by decide +kernel) ⟨Nat.le_of_ble_eq_true rfl, Nat.le_of_ble_eq_true rfl⟩) (wPreV (Nat.le_trans hz hS.1) hP hK hD (va_recv hK hP (ci := 3) (q0 := 0) rfl rfl)) rfl rfl hl.1 rfl (lv_room (Nat.le_of_ble_eq_true rfl)) dX3_line_91 ⟨Nat.le_of_ble_eq_true rfl, Nat.le_of_ble_eq_true rfl⟩) (fun r e_ => ?_)
              subst e_
              refine lv_if_ne (tgt := 100) hx hb dX3_line_94 (by decide) (fun c8_ => ?_) (fun c8_ => ?_)
              · refine lv_aload_n hx hb dX3_line_100 rfl (lv_at hl 1 rfl) ?_
                refine va_get (D := (dC, dI)) (ci := 3) (v := .ref (adr 14)) (C := RX3) (T := TX3) (N := 24) hx hb hts hin hown hK hP 0 rfl rfl 14 (by decide) (hts (.fieldLink RX3 47 RX3 "owners" "[I") (by decide +kernel)) (fun _ h9 => h9) rfl dX3_line_101 ?_
                refine lv_aload_n hx hb dX3_line_104 rfl (lv_at hl 1 rfl) ?_
                refine va_get (D := (dC, dI)) (ci := 3) (v := .int (τ 16 0)) (C := RX3) (T := TX3) (N := 24) hx hb hts hin hown hK hP 0 rfl rfl 16 (by decide) (hts (.fieldLink RX3 93 RX3 "all" "I") (by decide +kernel)) (fun _ h9 => h9) rfl dX3_line_105 ?_
                refine lv_iload_n hx hb dX3_line_108 rfl (lv_at hl 2 rfl) ?_
                refine va_iast (D := (dC, dI)) (i := τ 16 0) (x := p0) (f := τ 14) hx hb hK hP hD hS 13 0 rfl rfl (ma_in hI) dX3_line_109 (fun H locs hP hD hS => ?_)
                have hP : va_P (dC, dI) vwCl (mW h adr cI cZ (upd2 τ 14 ((τ 16 0).toNatClampNeg) p0) ++ X) H := by rw [← mput_14]; exact hP
                have hD : va_D (fun q : Nat => z ≤ q) (mW h adr cI cZ (upd2 τ 14 ((τ 16 0).toNatClampNeg) p0) ++ X) := by rw [← mput_14]; exact hD
                refine lv_aload_n hx hb dX3_line_110 rfl (lv_at hl 1 rfl) ?_
                refine va_get (D := (dC, dI)) (ci := 3) (v := .ref (adr 15)) (C := RX3) (T := TX3) (N := 24) hx hb hts hin hown hK hP 0 rfl rfl 15 (by decide) (hts (.fieldLink RX3 50 RX3 "signs" "[I") (by decide +kernel)) (fun _ h9 => h9) rfl dX3_line_111 ?_
                refine lv_aload_n hx hb dX3_line_114 rfl (lv_at hl 1 rfl) ?_
                refine va_get (D := (dC, dI)) (ci := 3) (v := .int (τ 16 0)) (C := RX3) (T := TX3) (N := 24) hx hb hts hin hown hK hP 0 rfl rfl 16 (by decide) (hts (.fieldLink RX3 93 RX3 "all" "I") (by decide +kernel)) (fun _ h9 => h9) rfl dX3_line_115 ?_
                refine lv_iload_n hx hb dX3_line_118 rfl (lv_at hl 3 rfl) ?_
                refine lv_sipush (v := 256) hx hb dX3_line_119 (by decide) ?_
                refine lv_idiv hx hb dX3_line_122 (by decide) ?_
                refine lv_if_le (tgt := 134) hx hb dX3_line_123 (by decide) (fun c9_ => ?_) (fun c9_ => ?_)
                · refine lv_iconst (v := (-1)) hx hb dX3_line_134 (by decide) ?_
                  refine va_iast (D := (dC, dI)) (i := τ 16 0) (x := (-1)) (f := (upd2 τ 14 ((τ 16 0).toNatClampNeg) p0) 15) hx hb hK hP hD hS 14 0 rfl rfl (ma_in hI) dX3_line_135 (fun H locs hP hD hS => ?_)
                  have hP : va_P (dC, dI) vwCl (mW h adr cI cZ (upd2 (upd2 τ 14 ((τ 16 0).toNatClampNeg) p0) 15 ((τ 16 0).toNatClampNeg) (-1)) ++ X) H := by rw [← mput_15]; exact hP
                  have hD : va_D (fun q : Nat => z ≤ q) (mW h adr cI cZ (upd2 (upd2 τ 14 ((τ 16 0).toNatClampNeg) p0) 15 ((τ 16 0).toNatClampNeg) (-1)) ++ X) := by rw [← mput_15]; exact hD
                  refine lv_aload_n hx hb dX3_line_136 rfl (lv_at hl 1 rfl) ?_
                  refine lv_dup hx hb dX3_line_137 rfl ?_
                  refine va_get (D := (dC, dI)) (ci := 3) (v := .int (τ 16 0)) (C := RX3) (T := TX3) (N := 24) hx hb hts hin hown hK hP 0 rfl rfl 16 (by decide) (hts (.fieldLink RX3 93 RX3 "all" "I") (by decide +kernel)) (fun _ h9 => h9) rfl dX3_line_138 ?_
                  refine lv_iconst (v := 1) hx hb dX3_line_141 (by decide) ?_
                  refine lv_iadd hx hb dX3_line_142 ?_
                  refine va_put (D := (dC, dI)) (ci := 3) (v := .int ((τ 16 0) + 1)) (ty := .int) (C := RX3) (T := TX3) (N := 24) hx hb hts hin tyX3 tyX3_ok nmX3 hown hK hP hD hS 0 rfl rfl 16 (by decide) (hts (.fieldLink RX3 93 RX3 "all" "I") (by decide +kernel)) (fun _ h9 => h9) rfl (by decide +kernel) rfl rfl (Nat.le_of_ble_eq_true rfl) dX3_line_143 (fun H locs hP hD hS => ?_)
                  have hP : va_P (dC, dI) vwCl (mW h adr cI cZ (upd2 (upd2 (upd2 τ 14 ((τ 16 0).toNatClampNeg) p0) 15 ((τ 16 0).toNatClampNeg) (-1)) 16 0 ((τ 16 0) + 1)) ++ X) H := by rw [← mput_16]; exact hP
                  have hD : va_D (fun q : Nat => z ≤ q) (mW h adr cI cZ (upd2 (upd2 (upd2 τ 14 ((τ 16 0).toNatClampNeg) p0) 15 ((τ 16 0).toNatClampNeg) (-1)) 16 0 ((τ 16 0) + 1)) ++ X) := by rw [← mput_16]; exact hD
                  refine lv_aload_n hx hb dX3_line_146 rfl (lv_at hl 1 rfl) ?_
                  refine va_get (D := (dC, dI)) (ci := 3) (v := .ref (adr 7)) (C := RX3) (T := TX3) (N := 24) hx hb hts hin hown hK hP 0 rfl rfl 7 (by decide) (hts (.fieldLink RX3 28 RX3 "lines" "[I") (by decide +kernel)) (fun _ h9 => h9) rfl dX3_line_147 ?_
                  refine lv_iload_n hx hb dX3_line_150 rfl (lv_at hl 2 rfl) ?_
                  refine lv_dup2_11 hx hb dX3_line_151 rfl rfl ?_
                  refine va_iald (D := (dC, dI)) (i := p0) (f := (upd2 (upd2 (upd2 τ 14 ((τ 16 0).toNatClampNeg) p0) 15 ((τ 16 0).toNatClampNeg) (-1)) 16 0 ((τ 16 0) + 1)) 7) hx hb hK hP 7 0 rfl rfl (mo_in hI c1_) dX3_line_152 ?_
                  refine W.eq (g2 := F0 m 153 ls [.int (τ 7 p0.toNatClampNeg), .int p0, .ref (adr 7)]) rfl ?_
                  refine lv_iconst (v := 1) hx hb dX3_line_153 (by decide) ?_
                  refine lv_iadd hx hb dX3_line_154 ?_
                  refine va_iast (D := (dC, dI)) (i := p0) (x := (τ 7 p0.toNatClampNeg) + 1) (f := (upd2 (upd2 (upd2 τ 14 ((τ 16 0).toNatClampNeg) p0) 15 ((τ 16 0).toNatClampNeg) (-1)) 16 0 ((τ 16 0) + 1)) 7) hx hb hK hP hD hS 7 0 rfl rfl (mo_in hI c1_) dX3_line_155 (fun H locs hP hD hS => ?_)
                  have hP : va_P (dC, dI) vwCl (mW h adr cI cZ (upd2 (upd2 (upd2 (upd2 τ 14 ((τ 16 0).toNatClampNeg) p0) 15 ((τ 16 0).toNatClampNeg) (-1)) 16 0 ((τ 16 0) + 1)) 7 p0.toNatClampNeg ((τ 7 p0.toNatClampNeg) + 1)) ++ X) H := by rw [← mput_7]; exact hP
                  have hD : va_D (fun q : Nat => z ≤ q) (mW h adr cI cZ (upd2 (upd2 (upd2 (upd2 τ 14 ((τ 16 0).toNatClampNeg) p0) 15 ((τ 16 0).toNatClampNeg) (-1)) 16 0 ((τ 16 0) + 1)) 7 p0.toNatClampNeg ((τ 7 p0.toNatClampNeg) + 1)) ++ X) := by rw [← mput_7]; exact hD
                  refine lv_iload_n hx hb dX3_line_156 rfl (lv_at hl 0 rfl) ?_
                  refine lv_if_eq (tgt := 164) hx hb dX3_line_157 (by decide) (fun _ => ?_) (fun z_ => absurd (by decide) z_)
                  refine lv_iconst (v := 1) hx hb dX3_line_164 (by decide) ?_
                  exact w_iret (v := 1) (u := upd2 (upd2 (upd2 (upd2 τ 14 ((τ 16 0).toNatClampNeg) p0) 15 ((τ 16 0).toNatClampNeg) (-1)) 16 0 ((τ 16 0) + 1)) 7 p0.toNatClampNeg ((τ 7 p0.toNatClampNeg) + 1)) hx hb hr hlocks hP hD hS dX3_line_165 (wpair (by unfold sM_line; rw [if_neg c1_, if_neg c2_, if_pos c3_, if_pos c4_, if_pos c5_, if_pos c6_, if_neg c8_, if_pos c9_] <;> rfl))
                · refine lv_iload_n hx hb dX3_line_126 rfl (lv_at hl 3 rfl) ?_
                  refine lv_sipush (v := 256) hx hb dX3_line_127 (by decide) ?_
                  refine lv_irem hx hb dX3_line_130 (by decide) ?_
                  refine lv_goto (tgt := 135) hx hb dX3_line_131 (by decide) ?_
                  refine va_iast (D := (dC, dI)) (i := τ 16 0) (x := p1 - p1 / 256 * 256) (f := (upd2 τ 14 ((τ 16 0).toNatClampNeg) p0) 15) hx hb hK hP hD hS 14 0 rfl rfl (ma_in hI) dX3_line_135 (fun H locs hP hD hS => ?_)
                  have hP : va_P (dC, dI) vwCl (mW h adr cI cZ (upd2 (upd2 τ 14 ((τ 16 0).toNatClampNeg) p0) 15 ((τ 16 0).toNatClampNeg) (p1 - p1 / 256 * 256)) ++ X) H := by rw [← mput_15]; exact hP
                  have hD : va_D (fun q : Nat => z ≤ q) (mW h adr cI cZ (upd2 (upd2 τ 14 ((τ 16 0).toNatClampNeg) p0) 15 ((τ 16 0).toNatClampNeg) (p1 - p1 / 256 * 256)) ++ X) := by rw [← mput_15]; exact hD
                  refine lv_aload_n hx hb dX3_line_136 rfl (lv_at hl 1 rfl) ?_
                  refine lv_dup hx hb dX3_line_137 rfl ?_
                  refine va_get (D := (dC, dI)) (ci := 3) (v := .int (τ 16 0)) (C := RX3) (T := TX3) (N := 24) hx hb hts hin hown hK hP 0 rfl rfl 16 (by decide) (hts (.fieldLink RX3 93 RX3 "all" "I") (by decide +kernel)) (fun _ h9 => h9) rfl dX3_line_138 ?_
                  refine lv_iconst (v := 1) hx hb dX3_line_141 (by decide) ?_
                  refine lv_iadd hx hb dX3_line_142 ?_
                  refine va_put (D := (dC, dI)) (ci := 3) (v := .int ((τ 16 0) + 1)) (ty := .int) (C := RX3) (T := TX3) (N := 24) hx hb hts hin tyX3 tyX3_ok nmX3 hown hK hP hD hS 0 rfl rfl 16 (by decide) (hts (.fieldLink RX3 93 RX3 "all" "I") (by decide +kernel)) (fun _ h9 => h9) rfl (by decide +kernel) rfl rfl (Nat.le_of_ble_eq_true rfl) dX3_line_143 (fun H locs hP hD hS => ?_)
                  have hP : va_P (dC, dI) vwCl (mW h adr cI cZ (upd2 (upd2 (upd2 τ 14 ((τ 16 0).toNatClampNeg) p0) 15 ((τ 16 0).toNatClampNeg) (p1 - p1 / 256 * 256)) 16 0 ((τ 16 0) + 1)) ++ X) H := by rw [← mput_16]; exact hP
                  have hD : va_D (fun q : Nat => z ≤ q) (mW h adr cI cZ (upd2 (upd2 (upd2 τ 14 ((τ 16 0).toNatClampNeg) p0) 15 ((τ 16 0).toNatClampNeg) (p1 - p1 / 256 * 256)) 16 0 ((τ 16 0) + 1)) ++ X) := by rw [← mput_16]; exact hD
                  refine lv_aload_n hx hb dX3_line_146 rfl (lv_at hl 1 rfl) ?_
                  refine va_get (D := (dC, dI)) (ci := 3) (v := .ref (adr 7)) (C := RX3) (T := TX3) (N := 24) hx hb hts hin hown hK hP 0 rfl rfl 7 (by decide) (hts (.fieldLink RX3 28 RX3 "lines" "[I") (by decide +kernel)) (fun _ h9 => h9) rfl dX3_line_147 ?_
                  refine lv_iload_n hx hb dX3_line_150 rfl (lv_at hl 2 rfl) ?_
                  refine lv_dup2_11 hx hb dX3_line_151 rfl rfl ?_
                  refine va_iald (D := (dC, dI)) (i := p0) (f := (upd2 (upd2 (upd2 τ 14 ((τ 16 0).toNatClampNeg) p0) 15 ((τ 16 0).toNatClampNeg) (p1 - p1 / 256 * 256)) 16 0 ((τ 16 0) + 1)) 7) hx hb hK hP 7 0 rfl rfl (mo_in hI c1_) dX3_line_152 ?_
                  refine W.eq (g2 := F0 m 153 ls [.int (τ 7 p0.toNatClampNeg), .int p0, .ref (adr 7)]) rfl ?_
                  refine lv_iconst (v := 1) hx hb dX3_line_153 (by decide) ?_
                  refine lv_iadd hx hb dX3_line_154 ?_
                  refine va_iast (D := (dC, dI)) (i := p0) (x := (τ 7 p0.toNatClampNeg) + 1) (f := (upd2 (upd2 (upd2 τ 14 ((τ 16 0).toNatClampNeg) p0) 15 ((τ 16 0).toNatClampNeg) (p1 - p1 / 256 * 256)) 16 0 ((τ 16 0) + 1)) 7) hx hb hK hP hD hS 7 0 rfl rfl (mo_in hI c1_) dX3_line_155 (fun H locs hP hD hS => ?_)
                  have hP : va_P (dC, dI) vwCl (mW h adr cI cZ (upd2 (upd2 (upd2 (upd2 τ 14 ((τ 16 0).toNatClampNeg) p0) 15 ((τ 16 0).toNatClampNeg) (p1 - p1 / 256 * 256)) 16 0 ((τ 16 0) + 1)) 7 p0.toNatClampNeg ((τ 7 p0.toNatClampNeg) + 1)) ++ X) H := by rw [← mput_7]; exact hP
                  have hD : va_D (fun q : Nat => z ≤ q) (mW h adr cI cZ (upd2 (upd2 (upd2 (upd2 τ 14 ((τ 16 0).toNatClampNeg) p0) 15 ((τ 16 0).toNatClampNeg) (p1 - p1 / 256 * 256)) 16 0 ((τ 16 0) + 1)) 7 p0.toNatClampNeg ((τ 7 p0.toNatClampNeg) + 1)) ++ X) := by rw [← mput_7]; exact hD
                  refine lv_iload_n hx hb dX3_line_156 rfl (lv_at hl 0 rfl) ?_
                  refine lv_if_eq (tgt := 164) hx hb dX3_line_157 (by decide) (fun _ => ?_) (fun z_ => absurd (by decide) z_)
                  refine lv_iconst (v := 1) hx hb dX3_line_164 (by decide) ?_
                  exact w_iret (v := 1) (u := upd2 (upd2 (upd2 (upd2 τ 14 ((τ 16 0).toNatClampNeg) p0) 15 ((τ 16 0).toNatClampNeg) (p1 - p1 / 256 * 256)) 16 0 ((τ 16 0) + 1)) 7 p0.toNatClampNeg ((τ 7 p0.toNatClampNeg) + 1)) hx hb hr hlocks hP hD hS dX3_line_165 (wpair (by unfold sM_line; rw [if_neg c1_, if_neg c2_, if_pos c3_, if_pos c4_, if_pos c5_, if_pos c6_, if_neg c8_, if_neg c9_] <;> rfl))
              · refine lv_bipush (v := (-3)) hx hb dX3_line_97 (by decide) ?_
                exact w_iret (v := (-3)) (u := τ) hx hb hr hlocks hP hD hS dX3_line_99 (wpair (by unfold sM_line; rw [if_neg c1_, if_neg c2_, if_pos c3_, if_pos c4_, if_pos c5_, if_pos c6_, if_pos c8_] <;> rfl))
          · refine lv_aload_n hx hb dX3_line_42 rfl (lv_at hl 0 rfl) ?_
            refine va_get (D := (dC, dI)) (ci := 3) (v := .ref (adr 7)) (C := RX3) (T := TX3) (N := 24) hx hb hts hin hown hK hP 0 rfl rfl 7 (by decide) (hts (.fieldLink RX3 28 RX3 "lines" "[I") (by decide +kernel)) (fun _ h9 => h9) rfl dX3_line_43 ?_
            refine lv_iload_n hx hb dX3_line_46 rfl (lv_at hl 1 rfl) ?_
            refine va_iald (D := (dC, dI)) (i := p0) (f := τ 7) hx hb hK hP 7 0 rfl rfl (mo_in hI c1_) dX3_line_47 ?_
            refine lv_aload_n hx hb dX3_line_48 rfl (lv_at hl 0 rfl) ?_
            refine va_get (D := (dC, dI)) (ci := 3) (v := .ref (adr 8)) (C := RX3) (T := TX3) (N := 24) hx hb hts hin hown hK hP 0 rfl rfl 8 (by decide) (hts (.fieldLink RX3 31 RX3 "limits" "[I") (by decide +kernel)) (fun _ h9 => h9) rfl dX3_line_49 ?_
            refine lv_iload_n hx hb dX3_line_52 rfl (lv_at hl 1 rfl) ?_
            refine va_iald (D := (dC, dI)) (i := p0) (f := τ 8) hx hb hK hP 8 0 rfl rfl (mo_in hI c1_) dX3_line_53 ?_
            refine lv_icmp_lt (tgt := 61) hx hb dX3_line_54 (by decide) (fun c10_ => ?_) (fun c10_ => ?_)
            · refine lv_iconst (v := 0) hx hb dX3_line_61 (by decide) ?_
              refine lv_istore_n (lv' := [(3, .int 0), (0, .ref h), (1, .int p0), (2, .int p1)]) hx hb dX3_line_62 rfl hl (by decide) rfl (fun ls hl => ?_)
              refine lv_iload_n hx hb dX3_line_63 rfl (lv_at hl 0 rfl) ?_
              refine lv_if_eq (tgt := 78) hx hb dX3_line_64 (by decide) (fun _ => ?_) (fun z_ => absurd (by decide) z_)
              refine lv_aload_n hx hb dX3_line_78 rfl (lv_at hl 1 rfl) ?_
              refine va_get (D := (dC, dI)) (ci := 3) (v := .ref (adr 7)) (C := RX3) (T := TX3) (N := 24) hx hb hts hin hown hK hP 0 rfl rfl 7 (by decide) (hts (.fieldLink RX3 28 RX3 "lines" "[I") (by decide +kernel)) (fun _ h9 => h9) rfl dX3_line_79 ?_
              refine lv_iload_n hx hb dX3_line_82 rfl (lv_at hl 2 rfl) ?_
              refine va_iald (D := (dC, dI)) (i := p0) (f := τ 7) hx hb hK hP 7 0 rfl rfl (mo_in hI c1_) dX3_line_83 ?_
              refine lv_bipush (v := 8) hx hb dX3_line_84 (by decide) ?_
              refine lv_irem hx hb dX3_line_86 (by decide) ?_
              refine lv_if_ne (tgt := 100) hx hb dX3_line_87 (by decide) (fun c11_ => ?_) (fun c11_ => ?_)
              · refine lv_aload_n hx hb dX3_line_100 rfl (lv_at hl 1 rfl) ?_
                refine va_get (D := (dC, dI)) (ci := 3) (v := .ref (adr 14)) (C := RX3) (T := TX3) (N := 24) hx hb hts hin hown hK hP 0 rfl rfl 14 (by decide) (hts (.fieldLink RX3 47 RX3 "owners" "[I") (by decide +kernel)) (fun _ h9 => h9) rfl dX3_line_101 ?_
                refine lv_aload_n hx hb dX3_line_104 rfl (lv_at hl 1 rfl) ?_
                refine va_get (D := (dC, dI)) (ci := 3) (v := .int (τ 16 0)) (C := RX3) (T := TX3) (N := 24) hx hb hts hin hown hK hP 0 rfl rfl 16 (by decide) (hts (.fieldLink RX3 93 RX3 "all" "I") (by decide +kernel)) (fun _ h9 => h9) rfl dX3_line_105 ?_
                refine lv_iload_n hx hb dX3_line_108 rfl (lv_at hl 2 rfl) ?_
                refine va_iast (D := (dC, dI)) (i := τ 16 0) (x := p0) (f := τ 14) hx hb hK hP hD hS 13 0 rfl rfl (ma_in hI) dX3_line_109 (fun H locs hP hD hS => ?_)
                have hP : va_P (dC, dI) vwCl (mW h adr cI cZ (upd2 τ 14 ((τ 16 0).toNatClampNeg) p0) ++ X) H := by rw [← mput_14]; exact hP
                have hD : va_D (fun q : Nat => z ≤ q) (mW h adr cI cZ (upd2 τ 14 ((τ 16 0).toNatClampNeg) p0) ++ X) := by rw [← mput_14]; exact hD
                refine lv_aload_n hx hb dX3_line_110 rfl (lv_at hl 1 rfl) ?_
                refine va_get (D := (dC, dI)) (ci := 3) (v := .ref (adr 15)) (C := RX3) (T := TX3) (N := 24) hx hb hts hin hown hK hP 0 rfl rfl 15 (by decide) (hts (.fieldLink RX3 50 RX3 "signs" "[I") (by decide +kernel)) (fun _ h9 => h9) rfl dX3_line_111 ?_
                refine lv_aload_n hx hb dX3_line_114 rfl (lv_at hl 1 rfl) ?_
                refine va_get (D := (dC, dI)) (ci := 3) (v := .int (τ 16 0)) (C := RX3) (T := TX3) (N := 24) hx hb hts hin hown hK hP 0 rfl rfl 16 (by decide) (hts (.fieldLink RX3 93 RX3 "all" "I") (by decide +kernel)) (fun _ h9 => h9) rfl dX3_line_115 ?_
                refine lv_iload_n hx hb dX3_line_118 rfl (lv_at hl 3 rfl) ?_
                refine lv_sipush (v := 256) hx hb dX3_line_119 (by decide) ?_
                refine lv_idiv hx hb dX3_line_122 (by decide) ?_
                refine lv_if_le (tgt := 134) hx hb dX3_line_123 (by decide) (fun c12_ => ?_) (fun c12_ => ?_)
                · refine lv_iconst (v := (-1)) hx hb dX3_line_134 (by decide) ?_
                  refine va_iast (D := (dC, dI)) (i := τ 16 0) (x := (-1)) (f := (upd2 τ 14 ((τ 16 0).toNatClampNeg) p0) 15) hx hb hK hP hD hS 14 0 rfl rfl (ma_in hI) dX3_line_135 (fun H locs hP hD hS => ?_)
                  have hP : va_P (dC, dI) vwCl (mW h adr cI cZ (upd2 (upd2 τ 14 ((τ 16 0).toNatClampNeg) p0) 15 ((τ 16 0).toNatClampNeg) (-1)) ++ X) H := by rw [← mput_15]; exact hP
                  have hD : va_D (fun q : Nat => z ≤ q) (mW h adr cI cZ (upd2 (upd2 τ 14 ((τ 16 0).toNatClampNeg) p0) 15 ((τ 16 0).toNatClampNeg) (-1)) ++ X) := by rw [← mput_15]; exact hD
                  refine lv_aload_n hx hb dX3_line_136 rfl (lv_at hl 1 rfl) ?_
                  refine lv_dup hx hb dX3_line_137 rfl ?_
                  refine va_get (D := (dC, dI)) (ci := 3) (v := .int (τ 16 0)) (C := RX3) (T := TX3) (N := 24) hx hb hts hin hown hK hP 0 rfl rfl 16 (by decide) (hts (.fieldLink RX3 93 RX3 "all" "I") (by decide +kernel)) (fun _ h9 => h9) rfl dX3_line_138 ?_
                  refine lv_iconst (v := 1) hx hb dX3_line_141 (by decide) ?_
                  refine lv_iadd hx hb dX3_line_142 ?_
                  refine va_put (D := (dC, dI)) (ci := 3) (v := .int ((τ 16 0) + 1)) (ty := .int) (C := RX3) (T := TX3) (N := 24) hx hb hts hin tyX3 tyX3_ok nmX3 hown hK hP hD hS 0 rfl rfl 16 (by decide) (hts (.fieldLink RX3 93 RX3 "all" "I") (by decide +kernel)) (fun _ h9 => h9) rfl (by decide +kernel) rfl rfl (Nat.le_of_ble_eq_true rfl) dX3_line_143 (fun H locs hP hD hS => ?_)
                  have hP : va_P (dC, dI) vwCl (mW h adr cI cZ (upd2 (upd2 (upd2 τ 14 ((τ 16 0).toNatClampNeg) p0) 15 ((τ 16 0).toNatClampNeg) (-1)) 16 0 ((τ 16 0) + 1)) ++ X) H := by rw [← mput_16]; exact hP
                  have hD : va_D (fun q : Nat => z ≤ q) (mW h adr cI cZ (upd2 (upd2 (upd2 τ 14 ((τ 16 0).toNatClampNeg) p0) 15 ((τ 16 0).toNatClampNeg) (-1)) 16 0 ((τ 16 0) + 1)) ++ X) := by rw [← mput_16]; exact hD
                  refine lv_aload_n hx hb dX3_line_146 rfl (lv_at hl 1 rfl) ?_
                  refine va_get (D := (dC, dI)) (ci := 3) (v := .ref (adr 7)) (C := RX3) (T := TX3) (N := 24) hx hb hts hin hown hK hP 0 rfl rfl 7 (by decide) (hts (.fieldLink RX3 28 RX3 "lines" "[I") (by decide +kernel)) (fun _ h9 => h9) rfl dX3_line_147 ?_
                  refine lv_iload_n hx hb dX3_line_150 rfl (lv_at hl 2 rfl) ?_
                  refine lv_dup2_11 hx hb dX3_line_151 rfl rfl ?_
                  refine va_iald (D := (dC, dI)) (i := p0) (f := (upd2 (upd2 (upd2 τ 14 ((τ 16 0).toNatClampNeg) p0) 15 ((τ 16 0).toNatClampNeg) (-1)) 16 0 ((τ 16 0) + 1)) 7) hx hb hK hP 7 0 rfl rfl (mo_in hI c1_) dX3_line_152 ?_
                  refine W.eq (g2 := F0 m 153 ls [.int (τ 7 p0.toNatClampNeg), .int p0, .ref (adr 7)]) rfl ?_
                  refine lv_iconst (v := 1) hx hb dX3_line_153 (by decide) ?_
                  refine lv_iadd hx hb dX3_line_154 ?_
                  refine va_iast (D := (dC, dI)) (i := p0) (x := (τ 7 p0.toNatClampNeg) + 1) (f := (upd2 (upd2 (upd2 τ 14 ((τ 16 0).toNatClampNeg) p0) 15 ((τ 16 0).toNatClampNeg) (-1)) 16 0 ((τ 16 0) + 1)) 7) hx hb hK hP hD hS 7 0 rfl rfl (mo_in hI c1_) dX3_line_155 (fun H locs hP hD hS => ?_)
                  have hP : va_P (dC, dI) vwCl (mW h adr cI cZ (upd2 (upd2 (upd2 (upd2 τ 14 ((τ 16 0).toNatClampNeg) p0) 15 ((τ 16 0).toNatClampNeg) (-1)) 16 0 ((τ 16 0) + 1)) 7 p0.toNatClampNeg ((τ 7 p0.toNatClampNeg) + 1)) ++ X) H := by rw [← mput_7]; exact hP
                  have hD : va_D (fun q : Nat => z ≤ q) (mW h adr cI cZ (upd2 (upd2 (upd2 (upd2 τ 14 ((τ 16 0).toNatClampNeg) p0) 15 ((τ 16 0).toNatClampNeg) (-1)) 16 0 ((τ 16 0) + 1)) 7 p0.toNatClampNeg ((τ 7 p0.toNatClampNeg) + 1)) ++ X) := by rw [← mput_7]; exact hD
                  refine lv_iload_n hx hb dX3_line_156 rfl (lv_at hl 0 rfl) ?_
                  refine lv_if_eq (tgt := 164) hx hb dX3_line_157 (by decide) (fun _ => ?_) (fun z_ => absurd (by decide) z_)
                  refine lv_iconst (v := 1) hx hb dX3_line_164 (by decide) ?_
                  exact w_iret (v := 1) (u := upd2 (upd2 (upd2 (upd2 τ 14 ((τ 16 0).toNatClampNeg) p0) 15 ((τ 16 0).toNatClampNeg) (-1)) 16 0 ((τ 16 0) + 1)) 7 p0.toNatClampNeg ((τ 7 p0.toNatClampNeg) + 1)) hx hb hr hlocks hP hD hS dX3_line_165 (wpair (by unfold sM_line; rw [if_neg c1_, if_neg c2_, if_pos c3_, if_pos c4_, if_neg c5_, if_pos c10_, if_neg c11_, if_pos c12_] <;> rfl))
                · refine lv_iload_n hx hb dX3_line_126 rfl (lv_at hl 3 rfl) ?_
                  refine lv_sipush (v := 256) hx hb dX3_line_127 (by decide) ?_
                  refine lv_irem hx hb dX3_line_130 (by decide) ?_
                  refine lv_goto (tgt := 135) hx hb dX3_line_131 (by decide) ?_
                  refine va_iast (D := (dC, dI)) (i := τ 16 0) (x := p1 - p1 / 256 * 256) (f := (upd2 τ 14 ((τ 16 0).toNatClampNeg) p0) 15) hx hb hK hP hD hS 14 0 rfl rfl (ma_in hI) dX3_line_135 (fun H locs hP hD hS => ?_)
                  have hP : va_P (dC, dI) vwCl (mW h adr cI cZ (upd2 (upd2 τ 14 ((τ 16 0).toNatClampNeg) p0) 15 ((τ 16 0).toNatClampNeg) (p1 - p1 / 256 * 256)) ++ X) H := by rw [← mput_15]; exact hP
                  have hD : va_D (fun q : Nat => z ≤ q) (mW h adr cI cZ (upd2 (upd2 τ 14 ((τ 16 0).toNatClampNeg) p0) 15 ((τ 16 0).toNatClampNeg) (p1 - p1 / 256 * 256)) ++ X) := by rw [← mput_15]; exact hD
                  refine lv_aload_n hx hb dX3_line_136 rfl (lv_at hl 1 rfl) ?_
                  refine lv_dup hx hb dX3_line_137 rfl ?_
                  refine va_get (D := (dC, dI)) (ci := 3) (v := .int (τ 16 0)) (C := RX3) (T := TX3) (N := 24) hx hb hts hin hown hK hP 0 rfl rfl 16 (by decide) (hts (.fieldLink RX3 93 RX3 "all" "I") (by decide +kernel)) (fun _ h9 => h9) rfl dX3_line_138 ?_
                  refine lv_iconst (v := 1) hx hb dX3_line_141 (by decide) ?_
                  refine lv_iadd hx hb dX3_line_142 ?_
                  refine va_put (D := (dC, dI)) (ci := 3) (v := .int ((τ 16 0) + 1)) (ty := .int) (C := RX3) (T := TX3) (N := 24) hx hb hts hin tyX3 tyX3_ok nmX3 hown hK hP hD hS 0 rfl rfl 16 (by decide) (hts (.fieldLink RX3 93 RX3 "all" "I") (by decide +kernel)) (fun _ h9 => h9) rfl (by decide +kernel) rfl rfl (Nat.le_of_ble_eq_true rfl) dX3_line_143 (fun H locs hP hD hS => ?_)
                  have hP : va_P (dC, dI) vwCl (mW h adr cI cZ (upd2 (upd2 (upd2 τ 14 ((τ 16 0).toNatClampNeg) p0) 15 ((τ 16 0).toNatClampNeg) (p1 - p1 / 256 * 256)) 16 0 ((τ 16 0) + 1)) ++ X) H := by rw [← mput_16]; exact hP
                  have hD : va_D (fun q : Nat => z ≤ q) (mW h adr cI cZ (upd2 (upd2 (upd2 τ 14 ((τ 16 0).toNatClampNeg) p0) 15 ((τ 16 0).toNatClampNeg) (p1 - p1 / 256 * 256)) 16 0 ((τ 16 0) + 1)) ++ X) := by rw [← mput_16]; exact hD
                  refine lv_aload_n hx hb dX3_line_146 rfl (lv_at hl 1 rfl) ?_
                  refine va_get (D := (dC, dI)) (ci := 3) (v := .ref (adr 7)) (C := RX3) (T := TX3) (N := 24) hx hb hts hin hown hK hP 0 rfl rfl 7 (by decide) (hts (.fieldLink RX3 28 RX3 "lines" "[I") (by decide +kernel)) (fun _ h9 => h9) rfl dX3_line_147 ?_
                  refine lv_iload_n hx hb dX3_line_150 rfl (lv_at hl 2 rfl) ?_
                  refine lv_dup2_11 hx hb dX3_line_151 rfl rfl ?_
                  refine va_iald (D := (dC, dI)) (i := p0) (f := (upd2 (upd2 (upd2 τ 14 ((τ 16 0).toNatClampNeg) p0) 15 ((τ 16 0).toNatClampNeg) (p1 - p1 / 256 * 256)) 16 0 ((τ 16 0) + 1)) 7) hx hb hK hP 7 0 rfl rfl (mo_in hI c1_) dX3_line_152 ?_
                  refine W.eq (g2 := F0 m 153 ls [.int (τ 7 p0.toNatClampNeg), .int p0, .ref (adr 7)]) rfl ?_
                  refine lv_iconst (v := 1) hx hb dX3_line_153 (by decide) ?_
                  refine lv_iadd hx hb dX3_line_154 ?_
                  refine va_iast (D := (dC, dI)) (i := p0) (x := (τ 7 p0.toNatClampNeg) + 1) (f := (upd2 (upd2 (upd2 τ 14 ((τ 16 0).toNatClampNeg) p0) 15 ((τ 16 0).toNatClampNeg) (p1 - p1 / 256 * 256)) 16 0 ((τ 16 0) + 1)) 7) hx hb hK hP hD hS 7 0 rfl rfl (mo_in hI c1_) dX3_line_155 (fun H locs hP hD hS => ?_)
                  have hP : va_P (dC, dI) vwCl (mW h adr cI cZ (upd2 (upd2 (upd2 (upd2 τ 14 ((τ 16 0).toNatClampNeg) p0) 15 ((τ 16 0).toNatClampNeg) (p1 - p1 / 256 * 256)) 16 0 ((τ 16 0) + 1)) 7 p0.toNatClampNeg ((τ 7 p0.toNatClampNeg) + 1)) ++ X) H := by rw [← mput_7]; exact hP
                  have hD : va_D (fun q : Nat => z ≤ q) (mW h adr cI cZ (upd2 (upd2 (upd2 (upd2 τ 14 ((τ 16 0).toNatClampNeg) p0) 15 ((τ 16 0).toNatClampNeg) (p1 - p1 / 256 * 256)) 16 0 ((τ 16 0) + 1)) 7 p0.toNatClampNeg ((τ 7 p0.toNatClampNeg) + 1)) ++ X) := by rw [← mput_7]; exact hD
                  refine lv_iload_n hx hb dX3_line_156 rfl (lv_at hl 0 rfl) ?_
                  refine lv_if_eq (tgt := 164) hx hb dX3_line_157 (by decide) (fun _ => ?_) (fun z_ => absurd (by decide) z_)
                  refine lv_iconst (v := 1) hx hb dX3_line_164 (by decide) ?_
                  exact w_iret (v := 1) (u := upd2 (upd2 (upd2 (upd2 τ 14 ((τ 16 0).toNatClampNeg) p0) 15 ((τ 16 0).toNatClampNeg) (p1 - p1 / 256 * 256)) 16 0 ((τ 16 0) + 1)) 7 p0.toNatClampNeg ((τ 7 p0.toNatClampNeg) + 1)) hx hb hr hlocks hP hD hS dX3_line_165 (wpair (by unfold sM_line; rw [if_neg c1_, if_neg c2_, if_pos c3_, if_pos c4_, if_neg c5_, if_pos c10_, if_neg c11_, if_neg c12_] <;> rfl))
              · refine lv_aload_n hx hb dX3_line_90 rfl (lv_at hl 1 rfl) ?_
                refine vp_callSi (W.runV (As := []) (rest := []) ⟨hx, hb, hml, hown, hts⟩ (c_M_free l dC dI cI cZ cO cW z X h adr τ hI) (cwV 0 hts gX3_line_X3_free rfl rfl rfl (by decide +kernel) ⟨Nat.le_of_ble_eq_true rfl, Nat.le_of_ble_eq_true rfl⟩) (wPreV (Nat.le_trans hz hS.1) hP hK hD (va_recv hK hP (ci := 3) (q0 := 0) rfl rfl)) rfl rfl hl.1 rfl (lv_room (Nat.le_of_ble_eq_true rfl)) dX3_line_91 ⟨Nat.le_of_ble_eq_true rfl, Nat.le_of_ble_eq_true rfl⟩) (fun r e_ => ?_)
                subst e_
                refine lv_if_ne (tgt := 100) hx hb dX3_line_94 (by decide) (fun c13_ => ?_) (fun c13_ => ?_)
                · refine lv_aload_n hx hb dX3_line_100 rfl (lv_at hl 1 rfl) ?_
                  refine va_get (D := (dC, dI)) (ci := 3) (v := .ref (adr 14)) (C := RX3) (T := TX3) (N := 24) hx hb hts hin hown hK hP 0 rfl rfl 14 (by decide) (hts (.fieldLink RX3 47 RX3 "owners" "[I") (by decide +kernel)) (fun _ h9 => h9) rfl dX3_line_101 ?_
                  refine lv_aload_n hx hb dX3_line_104 rfl (lv_at hl 1 rfl) ?_
                  refine va_get (D := (dC, dI)) (ci := 3) (v := .int (τ 16 0)) (C := RX3) (T := TX3) (N := 24) hx hb hts hin hown hK hP 0 rfl rfl 16 (by decide) (hts (.fieldLink RX3 93 RX3 "all" "I") (by decide +kernel)) (fun _ h9 => h9) rfl dX3_line_105 ?_
                  refine lv_iload_n hx hb dX3_line_108 rfl (lv_at hl 2 rfl) ?_
                  refine va_iast (D := (dC, dI)) (i := τ 16 0) (x := p0) (f := τ 14) hx hb hK hP hD hS 13 0 rfl rfl (ma_in hI) dX3_line_109 (fun H locs hP hD hS => ?_)
                  have hP : va_P (dC, dI) vwCl (mW h adr cI cZ (upd2 τ 14 ((τ 16 0).toNatClampNeg) p0) ++ X) H := by rw [← mput_14]; exact hP
                  have hD : va_D (fun q : Nat => z ≤ q) (mW h adr cI cZ (upd2 τ 14 ((τ 16 0).toNatClampNeg) p0) ++ X) := by rw [← mput_14]; exact hD
                  refine lv_aload_n hx hb dX3_line_110 rfl (lv_at hl 1 rfl) ?_
                  refine va_get (D := (dC, dI)) (ci := 3) (v := .ref (adr 15)) (C := RX3) (T := TX3) (N := 24) hx hb hts hin hown hK hP 0 rfl rfl 15 (by decide) (hts (.fieldLink RX3 50 RX3 "signs" "[I") (by decide +kernel)) (fun _ h9 => h9) rfl dX3_line_111 ?_
                  refine lv_aload_n hx hb dX3_line_114 rfl (lv_at hl 1 rfl) ?_
                  refine va_get (D := (dC, dI)) (ci := 3) (v := .int (τ 16 0)) (C := RX3) (T := TX3) (N := 24) hx hb hts hin hown hK hP 0 rfl rfl 16 (by decide) (hts (.fieldLink RX3 93 RX3 "all" "I") (by decide +kernel)) (fun _ h9 => h9) rfl dX3_line_115 ?_
                  refine lv_iload_n hx hb dX3_line_118 rfl (lv_at hl 3 rfl) ?_
                  refine lv_sipush (v := 256) hx hb dX3_line_119 (by decide) ?_
                  refine lv_idiv hx hb dX3_line_122 (by decide) ?_
                  refine lv_if_le (tgt := 134) hx hb dX3_line_123 (by decide) (fun c14_ => ?_) (fun c14_ => ?_)
                  · refine lv_iconst (v := (-1)) hx hb dX3_line_134 (by decide) ?_
                    refine va_iast (D := (dC, dI)) (i := τ 16 0) (x := (-1)) (f := (upd2 τ 14 ((τ 16 0).toNatClampNeg) p0) 15) hx hb hK hP hD hS 14 0 rfl rfl (ma_in hI) dX3_line_135 (fun H locs hP hD hS => ?_)
                    have hP : va_P (dC, dI) vwCl (mW h adr cI cZ (upd2 (upd2 τ 14 ((τ 16 0).toNatClampNeg) p0) 15 ((τ 16 0).toNatClampNeg) (-1)) ++ X) H := by rw [← mput_15]; exact hP
                    have hD : va_D (fun q : Nat => z ≤ q) (mW h adr cI cZ (upd2 (upd2 τ 14 ((τ 16 0).toNatClampNeg) p0) 15 ((τ 16 0).toNatClampNeg) (-1)) ++ X) := by rw [← mput_15]; exact hD
                    refine lv_aload_n hx hb dX3_line_136 rfl (lv_at hl 1 rfl) ?_
                    refine lv_dup hx hb dX3_line_137 rfl ?_
                    refine va_get (D := (dC, dI)) (ci := 3) (v := .int (τ 16 0)) (C := RX3) (T := TX3) (N := 24) hx hb hts hin hown hK hP 0 rfl rfl 16 (by decide) (hts (.fieldLink RX3 93 RX3 "all" "I") (by decide +kernel)) (fun _ h9 => h9) rfl dX3_line_138 ?_
                    refine lv_iconst (v := 1) hx hb dX3_line_141 (by decide) ?_
                    refine lv_iadd hx hb dX3_line_142 ?_
                    refine va_put (D := (dC, dI)) (ci := 3) (v := .int ((τ 16 0) + 1)) (ty := .int) (C := RX3) (T := TX3) (N := 24) hx hb hts hin tyX3 tyX3_ok nmX3 hown hK hP hD hS 0 rfl rfl 16 (by decide) (hts (.fieldLink RX3 93 RX3 "all" "I") (by decide +kernel)) (fun _ h9 => h9) rfl (by decide +kernel) rfl rfl (Nat.le_of_ble_eq_true rfl) dX3_line_143 (fun H locs hP hD hS => ?_)
                    have hP : va_P (dC, dI) vwCl (mW h adr cI cZ (upd2 (upd2 (upd2 τ 14 ((τ 16 0).toNatClampNeg) p0) 15 ((τ 16 0).toNatClampNeg) (-1)) 16 0 ((τ 16 0) + 1)) ++ X) H := by rw [← mput_16]; exact hP
                    have hD : va_D (fun q : Nat => z ≤ q) (mW h adr cI cZ (upd2 (upd2 (upd2 τ 14 ((τ 16 0).toNatClampNeg) p0) 15 ((τ 16 0).toNatClampNeg) (-1)) 16 0 ((τ 16 0) + 1)) ++ X) := by rw [← mput_16]; exact hD
                    refine lv_aload_n hx hb dX3_line_146 rfl (lv_at hl 1 rfl) ?_
                    refine va_get (D := (dC, dI)) (ci := 3) (v := .ref (adr 7)) (C := RX3) (T := TX3) (N := 24) hx hb hts hin hown hK hP 0 rfl rfl 7 (by decide) (hts (.fieldLink RX3 28 RX3 "lines" "[I") (by decide +kernel)) (fun _ h9 => h9) rfl dX3_line_147 ?_
                    refine lv_iload_n hx hb dX3_line_150 rfl (lv_at hl 2 rfl) ?_
                    refine lv_dup2_11 hx hb dX3_line_151 rfl rfl ?_
                    refine va_iald (D := (dC, dI)) (i := p0) (f := (upd2 (upd2 (upd2 τ 14 ((τ 16 0).toNatClampNeg) p0) 15 ((τ 16 0).toNatClampNeg) (-1)) 16 0 ((τ 16 0) + 1)) 7) hx hb hK hP 7 0 rfl rfl (mo_in hI c1_) dX3_line_152 ?_
                    refine W.eq (g2 := F0 m 153 ls [.int (τ 7 p0.toNatClampNeg), .int p0, .ref (adr 7)]) rfl ?_
                    refine lv_iconst (v := 1) hx hb dX3_line_153 (by decide) ?_
                    refine lv_iadd hx hb dX3_line_154 ?_
                    refine va_iast (D := (dC, dI)) (i := p0) (x := (τ 7 p0.toNatClampNeg) + 1) (f := (upd2 (upd2 (upd2 τ 14 ((τ 16 0).toNatClampNeg) p0) 15 ((τ 16 0).toNatClampNeg) (-1)) 16 0 ((τ 16 0) + 1)) 7) hx hb hK hP hD hS 7 0 rfl rfl (mo_in hI c1_) dX3_line_155 (fun H locs hP hD hS => ?_)
                    have hP : va_P (dC, dI) vwCl (mW h adr cI cZ (upd2 (upd2 (upd2 (upd2 τ 14 ((τ 16 0).toNatClampNeg) p0) 15 ((τ 16 0).toNatClampNeg) (-1)) 16 0 ((τ 16 0) + 1)) 7 p0.toNatClampNeg ((τ 7 p0.toNatClampNeg) + 1)) ++ X) H := by rw [← mput_7]; exact hP
                    have hD : va_D (fun q : Nat => z ≤ q) (mW h adr cI cZ (upd2 (upd2 (upd2 (upd2 τ 14 ((τ 16 0).toNatClampNeg) p0) 15 ((τ 16 0).toNatClampNeg) (-1)) 16 0 ((τ 16 0) + 1)) 7 p0.toNatClampNeg ((τ 7 p0.toNatClampNeg) + 1)) ++ X) := by rw [← mput_7]; exact hD
                    refine lv_iload_n hx hb dX3_line_156 rfl (lv_at hl 0 rfl) ?_
                    refine lv_if_eq (tgt := 164) hx hb dX3_line_157 (by decide) (fun _ => ?_) (fun z_ => absurd (by decide) z_)
                    refine lv_iconst (v := 1) hx hb dX3_line_164 (by decide) ?_
                    exact w_iret (v := 1) (u := upd2 (upd2 (upd2 (upd2 τ 14 ((τ 16 0).toNatClampNeg) p0) 15 ((τ 16 0).toNatClampNeg) (-1)) 16 0 ((τ 16 0) + 1)) 7 p0.toNatClampNeg ((τ 7 p0.toNatClampNeg) + 1)) hx hb hr hlocks hP hD hS dX3_line_165 (wpair (by unfold sM_line; rw [if_neg c1_, if_neg c2_, if_pos c3_, if_pos c4_, if_neg c5_, if_pos c10_, if_pos c11_, if_neg c13_, if_pos c14_] <;> rfl))
                  · refine lv_iload_n hx hb dX3_line_126 rfl (lv_at hl 3 rfl) ?_
                    refine lv_sipush (v := 256) hx hb dX3_line_127 (by decide) ?_
                    refine lv_irem hx hb dX3_line_130 (by decide) ?_
                    refine lv_goto (tgt := 135) hx hb dX3_line_131 (by decide) ?_
                    refine va_iast (D := (dC, dI)) (i := τ 16 0) (x := p1 - p1 / 256 * 256) (f := (upd2 τ 14 ((τ 16 0).toNatClampNeg) p0) 15) hx hb hK hP hD hS 14 0 rfl rfl (ma_in hI) dX3_line_135 (fun H locs hP hD hS => ?_)
                    have hP : va_P (dC, dI) vwCl (mW h adr cI cZ (upd2 (upd2 τ 14 ((τ 16 0).toNatClampNeg) p0) 15 ((τ 16 0).toNatClampNeg) (p1 - p1 / 256 * 256)) ++ X) H := by rw [← mput_15]; exact hP
                    have hD : va_D (fun q : Nat => z ≤ q) (mW h adr cI cZ (upd2 (upd2 τ 14 ((τ 16 0).toNatClampNeg) p0) 15 ((τ 16 0).toNatClampNeg) (p1 - p1 / 256 * 256)) ++ X) := by rw [← mput_15]; exact hD
                    refine lv_aload_n hx hb dX3_line_136 rfl (lv_at hl 1 rfl) ?_
                    refine lv_dup hx hb dX3_line_137 rfl ?_
                    refine va_get (D := (dC, dI)) (ci := 3) (v := .int (τ 16 0)) (C := RX3) (T := TX3) (N := 24) hx hb hts hin hown hK hP 0 rfl rfl 16 (by decide) (hts (.fieldLink RX3 93 RX3 "all" "I") (by decide +kernel)) (fun _ h9 => h9) rfl dX3_line_138 ?_
                    refine lv_iconst (v := 1) hx hb dX3_line_141 (by decide) ?_
                    refine lv_iadd hx hb dX3_line_142 ?_
                    refine va_put (D := (dC, dI)) (ci := 3) (v := .int ((τ 16 0) + 1)) (ty := .int) (C := RX3) (T := TX3) (N := 24) hx hb hts hin tyX3 tyX3_ok nmX3 hown hK hP hD hS 0 rfl rfl 16 (by decide) (hts (.fieldLink RX3 93 RX3 "all" "I") (by decide +kernel)) (fun _ h9 => h9) rfl (by decide +kernel) rfl rfl (Nat.le_of_ble_eq_true rfl) dX3_line_143 (fun H locs hP hD hS => ?_)
                    have hP : va_P (dC, dI) vwCl (mW h adr cI cZ (upd2 (upd2 (upd2 τ 14 ((τ 16 0).toNatClampNeg) p0) 15 ((τ 16 0).toNatClampNeg) (p1 - p1 / 256 * 256)) 16 0 ((τ 16 0) + 1)) ++ X) H := by rw [← mput_16]; exact hP
                    have hD : va_D (fun q : Nat => z ≤ q) (mW h adr cI cZ (upd2 (upd2 (upd2 τ 14 ((τ 16 0).toNatClampNeg) p0) 15 ((τ 16 0).toNatClampNeg) (p1 - p1 / 256 * 256)) 16 0 ((τ 16 0) + 1)) ++ X) := by rw [← mput_16]; exact hD
                    refine lv_aload_n hx hb dX3_line_146 rfl (lv_at hl 1 rfl) ?_
                    refine va_get (D := (dC, dI)) (ci := 3) (v := .ref (adr 7)) (C := RX3) (T := TX3) (N := 24) hx hb hts hin hown hK hP 0 rfl rfl 7 (by decide) (hts (.fieldLink RX3 28 RX3 "lines" "[I") (by decide +kernel)) (fun _ h9 => h9) rfl dX3_line_147 ?_
                    refine lv_iload_n hx hb dX3_line_150 rfl (lv_at hl 2 rfl) ?_
                    refine lv_dup2_11 hx hb dX3_line_151 rfl rfl ?_
                    refine va_iald (D := (dC, dI)) (i := p0) (f := (upd2 (upd2 (upd2 τ 14 ((τ 16 0).toNatClampNeg) p0) 15 ((τ 16 0).toNatClampNeg) (p1 - p1 / 256 * 256)) 16 0 ((τ 16 0) + 1)) 7) hx hb hK hP 7 0 rfl rfl (mo_in hI c1_) dX3_line_152 ?_
                    refine W.eq (g2 := F0 m 153 ls [.int (τ 7 p0.toNatClampNeg), .int p0, .ref (adr 7)]) rfl ?_
                    refine lv_iconst (v := 1) hx hb dX3_line_153 (by decide) ?_
                    refine lv_iadd hx hb dX3_line_154 ?_
                    refine va_iast (D := (dC, dI)) (i := p0) (x := (τ 7 p0.toNatClampNeg) + 1) (f := (upd2 (upd2 (upd2 τ 14 ((τ 16 0).toNatClampNeg) p0) 15 ((τ 16 0).toNatClampNeg) (p1 - p1 / 256 * 256)) 16 0 ((τ 16 0) + 1)) 7) hx hb hK hP hD hS 7 0 rfl rfl (mo_in hI c1_) dX3_line_155 (fun H locs hP hD hS => ?_)
                    have hP : va_P (dC, dI) vwCl (mW h adr cI cZ (upd2 (upd2 (upd2 (upd2 τ 14 ((τ 16 0).toNatClampNeg) p0) 15 ((τ 16 0).toNatClampNeg) (p1 - p1 / 256 * 256)) 16 0 ((τ 16 0) + 1)) 7 p0.toNatClampNeg ((τ 7 p0.toNatClampNeg) + 1)) ++ X) H := by rw [← mput_7]; exact hP
                    have hD : va_D (fun q : Nat => z ≤ q) (mW h adr cI cZ (upd2 (upd2 (upd2 (upd2 τ 14 ((τ 16 0).toNatClampNeg) p0) 15 ((τ 16 0).toNatClampNeg) (p1 - p1 / 256 * 256)) 16 0 ((τ 16 0) + 1)) 7 p0.toNatClampNeg ((τ 7 p0.toNatClampNeg) + 1)) ++ X) := by rw [← mput_7]; exact hD
                    refine lv_iload_n hx hb dX3_line_156 rfl (lv_at hl 0 rfl) ?_
                    refine lv_if_eq (tgt := 164) hx hb dX3_line_157 (by decide) (fun _ => ?_) (fun z_ => absurd (by decide) z_)
                    refine lv_iconst (v := 1) hx hb dX3_line_164 (by decide) ?_
                    exact w_iret (v := 1) (u := upd2 (upd2 (upd2 (upd2 τ 14 ((τ 16 0).toNatClampNeg) p0) 15 ((τ 16 0).toNatClampNeg) (p1 - p1 / 256 * 256)) 16 0 ((τ 16 0) + 1)) 7 p0.toNatClampNeg ((τ 7 p0.toNatClampNeg) + 1)) hx hb hr hlocks hP hD hS dX3_line_165 (wpair (by unfold sM_line; rw [if_neg c1_, if_neg c2_, if_pos c3_, if_pos c4_, if_neg c5_, if_pos c10_, if_pos c11_, if_neg c13_, if_neg c14_] <;> rfl))
                · refine lv_bipush (v := (-3)) hx hb dX3_line_97 (by decide) ?_
                  exact w_iret (v := (-3)) (u := τ) hx hb hr hlocks hP hD hS dX3_line_99 (wpair (by unfold sM_line; rw [if_neg c1_, if_neg c2_, if_pos c3_, if_pos c4_, if_neg c5_, if_pos c10_, if_pos c11_, if_pos c13_] <;> rfl))
            · refine lv_iconst (v := 1) hx hb dX3_line_57 (by decide) ?_
              refine lv_goto (tgt := 62) hx hb dX3_line_58 (by decide) ?_
              refine lv_istore_n (lv' := [(3, .int 1), (0, .ref h), (1, .int p0), (2, .int p1)]) hx hb dX3_line_62 rfl hl (by decide) rfl (fun ls hl => ?_)
              refine lv_iload_n hx hb dX3_line_63 rfl (lv_at hl 0 rfl) ?_
              refine lv_if_eq (tgt := 78) hx hb dX3_line_64 (by decide) (fun z_ => absurd z_ (by decide)) (fun _ => ?_)
              refine lv_aload_n hx hb dX3_line_67 rfl (lv_at hl 1 rfl) ?_
              refine va_get (D := (dC, dI)) (ci := 3) (v := .ref (adr 10)) (C := RX3) (T := TX3) (N := 24) hx hb hts hin hown hK hP 0 rfl rfl 10 (by decide) (hts (.fieldLink RX3 37 RX3 "ends" "[Z") (by decide +kernel)) (fun _ h9 => h9) rfl dX3_line_68 ?_
              refine lv_iload_n hx hb dX3_line_71 rfl (lv_at hl 2 rfl) ?_
              refine va_zald (D := (dC, dI)) (i := p0) (f := τ 10) hx hb hK hP 10 1 rfl rfl (mo_in hI c1_) dX3_line_72 ?_
              refine lv_if_eq (tgt := 78) hx hb dX3_line_73 (by decide) (fun c15_ => ?_) (fun c15_ => ?_)
              · refine lv_aload_n hx hb dX3_line_78 rfl (lv_at hl 1 rfl) ?_
                refine va_get (D := (dC, dI)) (ci := 3) (v := .ref (adr 7)) (C := RX3) (T := TX3) (N := 24) hx hb hts hin hown hK hP 0 rfl rfl 7 (by decide) (hts (.fieldLink RX3 28 RX3 "lines" "[I") (by decide +kernel)) (fun _ h9 => h9) rfl dX3_line_79 ?_
                refine lv_iload_n hx hb dX3_line_82 rfl (lv_at hl 2 rfl) ?_
                refine va_iald (D := (dC, dI)) (i := p0) (f := τ 7) hx hb hK hP 7 0 rfl rfl (mo_in hI c1_) dX3_line_83 ?_
                refine lv_bipush (v := 8) hx hb dX3_line_84 (by decide) ?_
                refine lv_irem hx hb dX3_line_86 (by decide) ?_
                refine lv_if_ne (tgt := 100) hx hb dX3_line_87 (by decide) (fun c16_ => ?_) (fun c16_ => ?_)
                · refine lv_aload_n hx hb dX3_line_100 rfl (lv_at hl 1 rfl) ?_
                  refine va_get (D := (dC, dI)) (ci := 3) (v := .ref (adr 14)) (C := RX3) (T := TX3) (N := 24) hx hb hts hin hown hK hP 0 rfl rfl 14 (by decide) (hts (.fieldLink RX3 47 RX3 "owners" "[I") (by decide +kernel)) (fun _ h9 => h9) rfl dX3_line_101 ?_
                  refine lv_aload_n hx hb dX3_line_104 rfl (lv_at hl 1 rfl) ?_
                  refine va_get (D := (dC, dI)) (ci := 3) (v := .int (τ 16 0)) (C := RX3) (T := TX3) (N := 24) hx hb hts hin hown hK hP 0 rfl rfl 16 (by decide) (hts (.fieldLink RX3 93 RX3 "all" "I") (by decide +kernel)) (fun _ h9 => h9) rfl dX3_line_105 ?_
                  refine lv_iload_n hx hb dX3_line_108 rfl (lv_at hl 2 rfl) ?_
                  refine va_iast (D := (dC, dI)) (i := τ 16 0) (x := p0) (f := τ 14) hx hb hK hP hD hS 13 0 rfl rfl (ma_in hI) dX3_line_109 (fun H locs hP hD hS => ?_)
                  have hP : va_P (dC, dI) vwCl (mW h adr cI cZ (upd2 τ 14 ((τ 16 0).toNatClampNeg) p0) ++ X) H := by rw [← mput_14]; exact hP
                  have hD : va_D (fun q : Nat => z ≤ q) (mW h adr cI cZ (upd2 τ 14 ((τ 16 0).toNatClampNeg) p0) ++ X) := by rw [← mput_14]; exact hD
                  refine lv_aload_n hx hb dX3_line_110 rfl (lv_at hl 1 rfl) ?_
                  refine va_get (D := (dC, dI)) (ci := 3) (v := .ref (adr 15)) (C := RX3) (T := TX3) (N := 24) hx hb hts hin hown hK hP 0 rfl rfl 15 (by decide) (hts (.fieldLink RX3 50 RX3 "signs" "[I") (by decide +kernel)) (fun _ h9 => h9) rfl dX3_line_111 ?_
                  refine lv_aload_n hx hb dX3_line_114 rfl (lv_at hl 1 rfl) ?_
                  refine va_get (D := (dC, dI)) (ci := 3) (v := .int (τ 16 0)) (C := RX3) (T := TX3) (N := 24) hx hb hts hin hown hK hP 0 rfl rfl 16 (by decide) (hts (.fieldLink RX3 93 RX3 "all" "I") (by decide +kernel)) (fun _ h9 => h9) rfl dX3_line_115 ?_
                  refine lv_iload_n hx hb dX3_line_118 rfl (lv_at hl 3 rfl) ?_
                  refine lv_sipush (v := 256) hx hb dX3_line_119 (by decide) ?_
                  refine lv_idiv hx hb dX3_line_122 (by decide) ?_
                  refine lv_if_le (tgt := 134) hx hb dX3_line_123 (by decide) (fun c17_ => ?_) (fun c17_ => ?_)
                  · refine lv_iconst (v := (-1)) hx hb dX3_line_134 (by decide) ?_
                    refine va_iast (D := (dC, dI)) (i := τ 16 0) (x := (-1)) (f := (upd2 τ 14 ((τ 16 0).toNatClampNeg) p0) 15) hx hb hK hP hD hS 14 0 rfl rfl (ma_in hI) dX3_line_135 (fun H locs hP hD hS => ?_)
                    have hP : va_P (dC, dI) vwCl (mW h adr cI cZ (upd2 (upd2 τ 14 ((τ 16 0).toNatClampNeg) p0) 15 ((τ 16 0).toNatClampNeg) (-1)) ++ X) H := by rw [← mput_15]; exact hP
                    have hD : va_D (fun q : Nat => z ≤ q) (mW h adr cI cZ (upd2 (upd2 τ 14 ((τ 16 0).toNatClampNeg) p0) 15 ((τ 16 0).toNatClampNeg) (-1)) ++ X) := by rw [← mput_15]; exact hD
                    refine lv_aload_n hx hb dX3_line_136 rfl (lv_at hl 1 rfl) ?_
                    refine lv_dup hx hb dX3_line_137 rfl ?_
                    refine va_get (D := (dC, dI)) (ci := 3) (v := .int (τ 16 0)) (C := RX3) (T := TX3) (N := 24) hx hb hts hin hown hK hP 0 rfl rfl 16 (by decide) (hts (.fieldLink RX3 93 RX3 "all" "I") (by decide +kernel)) (fun _ h9 => h9) rfl dX3_line_138 ?_
                    refine lv_iconst (v := 1) hx hb dX3_line_141 (by decide) ?_
                    refine lv_iadd hx hb dX3_line_142 ?_
                    refine va_put (D := (dC, dI)) (ci := 3) (v := .int ((τ 16 0) + 1)) (ty := .int) (C := RX3) (T := TX3) (N := 24) hx hb hts hin tyX3 tyX3_ok nmX3 hown hK hP hD hS 0 rfl rfl 16 (by decide) (hts (.fieldLink RX3 93 RX3 "all" "I") (by decide +kernel)) (fun _ h9 => h9) rfl (by decide +kernel) rfl rfl (Nat.le_of_ble_eq_true rfl) dX3_line_143 (fun H locs hP hD hS => ?_)
                    have hP : va_P (dC, dI) vwCl (mW h adr cI cZ (upd2 (upd2 (upd2 τ 14 ((τ 16 0).toNatClampNeg) p0) 15 ((τ 16 0).toNatClampNeg) (-1)) 16 0 ((τ 16 0) + 1)) ++ X) H := by rw [← mput_16]; exact hP
                    have hD : va_D (fun q : Nat => z ≤ q) (mW h adr cI cZ (upd2 (upd2 (upd2 τ 14 ((τ 16 0).toNatClampNeg) p0) 15 ((τ 16 0).toNatClampNeg) (-1)) 16 0 ((τ 16 0) + 1)) ++ X) := by rw [← mput_16]; exact hD
                    refine lv_aload_n hx hb dX3_line_146 rfl (lv_at hl 1 rfl) ?_
                    refine va_get (D := (dC, dI)) (ci := 3) (v := .ref (adr 7)) (C := RX3) (T := TX3) (N := 24) hx hb hts hin hown hK hP 0 rfl rfl 7 (by decide) (hts (.fieldLink RX3 28 RX3 "lines" "[I") (by decide +kernel)) (fun _ h9 => h9) rfl dX3_line_147 ?_
                    refine lv_iload_n hx hb dX3_line_150 rfl (lv_at hl 2 rfl) ?_
                    refine lv_dup2_11 hx hb dX3_line_151 rfl rfl ?_
                    refine va_iald (D := (dC, dI)) (i := p0) (f := (upd2 (upd2 (upd2 τ 14 ((τ 16 0).toNatClampNeg) p0) 15 ((τ 16 0).toNatClampNeg) (-1)) 16 0 ((τ 16 0) + 1)) 7) hx hb hK hP 7 0 rfl rfl (mo_in hI c1_) dX3_line_152 ?_
                    refine W.eq (g2 := F0 m 153 ls [.int (τ 7 p0.toNatClampNeg), .int p0, .ref (adr 7)]) rfl ?_
                    refine lv_iconst (v := 1) hx hb dX3_line_153 (by decide) ?_
                    refine lv_iadd hx hb dX3_line_154 ?_
                    refine va_iast (D := (dC, dI)) (i := p0) (x := (τ 7 p0.toNatClampNeg) + 1) (f := (upd2 (upd2 (upd2 τ 14 ((τ 16 0).toNatClampNeg) p0) 15 ((τ 16 0).toNatClampNeg) (-1)) 16 0 ((τ 16 0) + 1)) 7) hx hb hK hP hD hS 7 0 rfl rfl (mo_in hI c1_) dX3_line_155 (fun H locs hP hD hS => ?_)
                    have hP : va_P (dC, dI) vwCl (mW h adr cI cZ (upd2 (upd2 (upd2 (upd2 τ 14 ((τ 16 0).toNatClampNeg) p0) 15 ((τ 16 0).toNatClampNeg) (-1)) 16 0 ((τ 16 0) + 1)) 7 p0.toNatClampNeg ((τ 7 p0.toNatClampNeg) + 1)) ++ X) H := by rw [← mput_7]; exact hP
                    have hD : va_D (fun q : Nat => z ≤ q) (mW h adr cI cZ (upd2 (upd2 (upd2 (upd2 τ 14 ((τ 16 0).toNatClampNeg) p0) 15 ((τ 16 0).toNatClampNeg) (-1)) 16 0 ((τ 16 0) + 1)) 7 p0.toNatClampNeg ((τ 7 p0.toNatClampNeg) + 1)) ++ X) := by rw [← mput_7]; exact hD
                    refine lv_iload_n hx hb dX3_line_156 rfl (lv_at hl 0 rfl) ?_
                    refine lv_if_eq (tgt := 164) hx hb dX3_line_157 (by decide) (fun z_ => absurd z_ (by decide)) (fun _ => ?_)
                    refine lv_iconst (v := 2) hx hb dX3_line_160 (by decide) ?_
                    refine lv_goto (tgt := 165) hx hb dX3_line_161 (by decide) ?_
                    exact w_iret (v := 2) (u := upd2 (upd2 (upd2 (upd2 τ 14 ((τ 16 0).toNatClampNeg) p0) 15 ((τ 16 0).toNatClampNeg) (-1)) 16 0 ((τ 16 0) + 1)) 7 p0.toNatClampNeg ((τ 7 p0.toNatClampNeg) + 1)) hx hb hr hlocks hP hD hS dX3_line_165 (wpair (by unfold sM_line; rw [if_neg c1_, if_neg c2_, if_pos c3_, if_pos c4_, if_neg c5_, if_neg c10_, if_pos c15_, if_neg c16_, if_pos c17_] <;> rfl))
                  · refine lv_iload_n hx hb dX3_line_126 rfl (lv_at hl 3 rfl) ?_
                    refine lv_sipush (v := 256) hx hb dX3_line_127 (by decide) ?_
                    refine lv_irem hx hb dX3_line_130 (by decide) ?_
                    refine lv_goto (tgt := 135) hx hb dX3_line_131 (by decide) ?_
                    refine va_iast (D := (dC, dI)) (i := τ 16 0) (x := p1 - p1 / 256 * 256) (f := (upd2 τ 14 ((τ 16 0).toNatClampNeg) p0) 15) hx hb hK hP hD hS 14 0 rfl rfl (ma_in hI) dX3_line_135 (fun H locs hP hD hS => ?_)
                    have hP : va_P (dC, dI) vwCl (mW h adr cI cZ (upd2 (upd2 τ 14 ((τ 16 0).toNatClampNeg) p0) 15 ((τ 16 0).toNatClampNeg) (p1 - p1 / 256 * 256)) ++ X) H := by rw [← mput_15]; exact hP
                    have hD : va_D (fun q : Nat => z ≤ q) (mW h adr cI cZ (upd2 (upd2 τ 14 ((τ 16 0).toNatClampNeg) p0) 15 ((τ 16 0).toNatClampNeg) (p1 - p1 / 256 * 256)) ++ X) := by rw [← mput_15]; exact hD
                    refine lv_aload_n hx hb dX3_line_136 rfl (lv_at hl 1 rfl) ?_
                    refine lv_dup hx hb dX3_line_137 rfl ?_
                    refine va_get (D := (dC, dI)) (ci := 3) (v := .int (τ 16 0)) (C := RX3) (T := TX3) (N := 24) hx hb hts hin hown hK hP 0 rfl rfl 16 (by decide) (hts (.fieldLink RX3 93 RX3 "all" "I") (by decide +kernel)) (fun _ h9 => h9) rfl dX3_line_138 ?_
                    refine lv_iconst (v := 1) hx hb dX3_line_141 (by decide) ?_
                    refine lv_iadd hx hb dX3_line_142 ?_
                    refine va_put (D := (dC, dI)) (ci := 3) (v := .int ((τ 16 0) + 1)) (ty := .int) (C := RX3) (T := TX3) (N := 24) hx hb hts hin tyX3 tyX3_ok nmX3 hown hK hP hD hS 0 rfl rfl 16 (by decide) (hts (.fieldLink RX3 93 RX3 "all" "I") (by decide +kernel)) (fun _ h9 => h9) rfl (by decide +kernel) rfl rfl (Nat.le_of_ble_eq_true rfl) dX3_line_143 (fun H locs hP hD hS => ?_)
                    have hP : va_P (dC, dI) vwCl (mW h adr cI cZ (upd2 (upd2 (upd2 τ 14 ((τ 16 0).toNatClampNeg) p0) 15 ((τ 16 0).toNatClampNeg) (p1 - p1 / 256 * 256)) 16 0 ((τ 16 0) + 1)) ++ X) H := by rw [← mput_16]; exact hP
                    have hD : va_D (fun q : Nat => z ≤ q) (mW h adr cI cZ (upd2 (upd2 (upd2 τ 14 ((τ 16 0).toNatClampNeg) p0) 15 ((τ 16 0).toNatClampNeg) (p1 - p1 / 256 * 256)) 16 0 ((τ 16 0) + 1)) ++ X) := by rw [← mput_16]; exact hD
                    refine lv_aload_n hx hb dX3_line_146 rfl (lv_at hl 1 rfl) ?_
                    refine va_get (D := (dC, dI)) (ci := 3) (v := .ref (adr 7)) (C := RX3) (T := TX3) (N := 24) hx hb hts hin hown hK hP 0 rfl rfl 7 (by decide) (hts (.fieldLink RX3 28 RX3 "lines" "[I") (by decide +kernel)) (fun _ h9 => h9) rfl dX3_line_147 ?_
                    refine lv_iload_n hx hb dX3_line_150 rfl (lv_at hl 2 rfl) ?_
                    refine lv_dup2_11 hx hb dX3_line_151 rfl rfl ?_
                    refine va_iald (D := (dC, dI)) (i := p0) (f := (upd2 (upd2 (upd2 τ 14 ((τ 16 0).toNatClampNeg) p0) 15 ((τ 16 0).toNatClampNeg) (p1 - p1 / 256 * 256)) 16 0 ((τ 16 0) + 1)) 7) hx hb hK hP 7 0 rfl rfl (mo_in hI c1_) dX3_line_152 ?_
                    refine W.eq (g2 := F0 m 153 ls [.int (τ 7 p0.toNatClampNeg), .int p0, .ref (adr 7)]) rfl ?_
                    refine lv_iconst (v := 1) hx hb dX3_line_153 (by decide) ?_
                    refine lv_iadd hx hb dX3_line_154 ?_
                    refine va_iast (D := (dC, dI)) (i := p0) (x := (τ 7 p0.toNatClampNeg) + 1) (f := (upd2 (upd2 (upd2 τ 14 ((τ 16 0).toNatClampNeg) p0) 15 ((τ 16 0).toNatClampNeg) (p1 - p1 / 256 * 256)) 16 0 ((τ 16 0) + 1)) 7) hx hb hK hP hD hS 7 0 rfl rfl (mo_in hI c1_) dX3_line_155 (fun H locs hP hD hS => ?_)
                    have hP : va_P (dC, dI) vwCl (mW h adr cI cZ (upd2 (upd2 (upd2 (upd2 τ 14 ((τ 16 0).toNatClampNeg) p0) 15 ((τ 16 0).toNatClampNeg) (p1 - p1 / 256 * 256)) 16 0 ((τ 16 0) + 1)) 7 p0.toNatClampNeg ((τ 7 p0.toNatClampNeg) + 1)) ++ X) H := by rw [← mput_7]; exact hP
                    have hD : va_D (fun q : Nat => z ≤ q) (mW h adr cI cZ (upd2 (upd2 (upd2 (upd2 τ 14 ((τ 16 0).toNatClampNeg) p0) 15 ((τ 16 0).toNatClampNeg) (p1 - p1 / 256 * 256)) 16 0 ((τ 16 0) + 1)) 7 p0.toNatClampNeg ((τ 7 p0.toNatClampNeg) + 1)) ++ X) := by rw [← mput_7]; exact hD
                    refine lv_iload_n hx hb dX3_line_156 rfl (lv_at hl 0 rfl) ?_
                    refine lv_if_eq (tgt := 164) hx hb dX3_line_157 (by decide) (fun z_ => absurd z_ (by decide)) (fun _ => ?_)
                    refine lv_iconst (v := 2) hx hb dX3_line_160 (by decide) ?_
                    refine lv_goto (tgt := 165) hx hb dX3_line_161 (by decide) ?_
                    exact w_iret (v := 2) (u := upd2 (upd2 (upd2 (upd2 τ 14 ((τ 16 0).toNatClampNeg) p0) 15 ((τ 16 0).toNatClampNeg) (p1 - p1 / 256 * 256)) 16 0 ((τ 16 0) + 1)) 7 p0.toNatClampNeg ((τ 7 p0.toNatClampNeg) + 1)) hx hb hr hlocks hP hD hS dX3_line_165 (wpair (by unfold sM_line; rw [if_neg c1_, if_neg c2_, if_pos c3_, if_pos c4_, if_neg c5_, if_neg c10_, if_pos c15_, if_neg c16_, if_neg c17_] <;> rfl))
                · refine lv_aload_n hx hb dX3_line_90 rfl (lv_at hl 1 rfl) ?_
                  refine vp_callSi (W.runV (As := []) (rest := []) ⟨hx, hb, hml, hown, hts⟩ (c_M_free l dC dI cI cZ cO cW z X h adr τ hI) (cwV 0 hts gX3_line_X3_free rfl rfl rfl (by decide +kernel) ⟨Nat.le_of_ble_eq_true rfl, Nat.le_of_ble_eq_true rfl⟩) (wPreV (Nat.le_trans hz hS.1) hP hK hD (va_recv hK hP (ci := 3) (q0 := 0) rfl rfl)) rfl rfl hl.1 rfl (lv_room (Nat.le_of_ble_eq_true rfl)) dX3_line_91 ⟨Nat.le_of_ble_eq_true rfl, Nat.le_of_ble_eq_true rfl⟩) (fun r e_ => ?_)
                  subst e_
                  refine lv_if_ne (tgt := 100) hx hb dX3_line_94 (by decide) (fun c18_ => ?_) (fun c18_ => ?_)
                  · refine lv_aload_n hx hb dX3_line_100 rfl (lv_at hl 1 rfl) ?_
                    refine va_get (D := (dC, dI)) (ci := 3) (v := .ref (adr 14)) (C := RX3) (T := TX3) (N := 24) hx hb hts hin hown hK hP 0 rfl rfl 14 (by decide) (hts (.fieldLink RX3 47 RX3 "owners" "[I") (by decide +kernel)) (fun _ h9 => h9) rfl dX3_line_101 ?_
                    refine lv_aload_n hx hb dX3_line_104 rfl (lv_at hl 1 rfl) ?_
                    refine va_get (D := (dC, dI)) (ci := 3) (v := .int (τ 16 0)) (C := RX3) (T := TX3) (N := 24) hx hb hts hin hown hK hP 0 rfl rfl 16 (by decide) (hts (.fieldLink RX3 93 RX3 "all" "I") (by decide +kernel)) (fun _ h9 => h9) rfl dX3_line_105 ?_
                    refine lv_iload_n hx hb dX3_line_108 rfl (lv_at hl 2 rfl) ?_
                    refine va_iast (D := (dC, dI)) (i := τ 16 0) (x := p0) (f := τ 14) hx hb hK hP hD hS 13 0 rfl rfl (ma_in hI) dX3_line_109 (fun H locs hP hD hS => ?_)
                    have hP : va_P (dC, dI) vwCl (mW h adr cI cZ (upd2 τ 14 ((τ 16 0).toNatClampNeg) p0) ++ X) H := by rw [← mput_14]; exact hP
                    have hD : va_D (fun q : Nat => z ≤ q) (mW h adr cI cZ (upd2 τ 14 ((τ 16 0).toNatClampNeg) p0) ++ X) := by rw [← mput_14]; exact hD
                    refine lv_aload_n hx hb dX3_line_110 rfl (lv_at hl 1 rfl) ?_
                    refine va_get (D := (dC, dI)) (ci := 3) (v := .ref (adr 15)) (C := RX3) (T := TX3) (N := 24) hx hb hts hin hown hK hP 0 rfl rfl 15 (by decide) (hts (.fieldLink RX3 50 RX3 "signs" "[I") (by decide +kernel)) (fun _ h9 => h9) rfl dX3_line_111 ?_
                    refine lv_aload_n hx hb dX3_line_114 rfl (lv_at hl 1 rfl) ?_
                    refine va_get (D := (dC, dI)) (ci := 3) (v := .int (τ 16 0)) (C := RX3) (T := TX3) (N := 24) hx hb hts hin hown hK hP 0 rfl rfl 16 (by decide) (hts (.fieldLink RX3 93 RX3 "all" "I") (by decide +kernel)) (fun _ h9 => h9) rfl dX3_line_115 ?_
                    refine lv_iload_n hx hb dX3_line_118 rfl (lv_at hl 3 rfl) ?_
                    refine lv_sipush (v := 256) hx hb dX3_line_119 (by decide) ?_
                    refine lv_idiv hx hb dX3_line_122 (by decide) ?_
                    refine lv_if_le (tgt := 134) hx hb dX3_line_123 (by decide) (fun c19_ => ?_) (fun c19_ => ?_)
                    · refine lv_iconst (v := (-1)) hx hb dX3_line_134 (by decide) ?_
                      refine va_iast (D := (dC, dI)) (i := τ 16 0) (x := (-1)) (f := (upd2 τ 14 ((τ 16 0).toNatClampNeg) p0) 15) hx hb hK hP hD hS 14 0 rfl rfl (ma_in hI) dX3_line_135 (fun H locs hP hD hS => ?_)
                      have hP : va_P (dC, dI) vwCl (mW h adr cI cZ (upd2 (upd2 τ 14 ((τ 16 0).toNatClampNeg) p0) 15 ((τ 16 0).toNatClampNeg) (-1)) ++ X) H := by rw [← mput_15]; exact hP
                      have hD : va_D (fun q : Nat => z ≤ q) (mW h adr cI cZ (upd2 (upd2 τ 14 ((τ 16 0).toNatClampNeg) p0) 15 ((τ 16 0).toNatClampNeg) (-1)) ++ X) := by rw [← mput_15]; exact hD
                      refine lv_aload_n hx hb dX3_line_136 rfl (lv_at hl 1 rfl) ?_
                      refine lv_dup hx hb dX3_line_137 rfl ?_
                      refine va_get (D := (dC, dI)) (ci := 3) (v := .int (τ 16 0)) (C := RX3) (T := TX3) (N := 24) hx hb hts hin hown hK hP 0 rfl rfl 16 (by decide) (hts (.fieldLink RX3 93 RX3 "all" "I") (by decide +kernel)) (fun _ h9 => h9) rfl dX3_line_138 ?_
                      refine lv_iconst (v := 1) hx hb dX3_line_141 (by decide) ?_
                      refine lv_iadd hx hb dX3_line_142 ?_
                      refine va_put (D := (dC, dI)) (ci := 3) (v := .int ((τ 16 0) + 1)) (ty := .int) (C := RX3) (T := TX3) (N := 24) hx hb hts hin tyX3 tyX3_ok nmX3 hown hK hP hD hS 0 rfl rfl 16 (by decide) (hts (.fieldLink RX3 93 RX3 "all" "I") (by decide +kernel)) (fun _ h9 => h9) rfl (by decide +kernel) rfl rfl (Nat.le_of_ble_eq_true rfl) dX3_line_143 (fun H locs hP hD hS => ?_)
                      have hP : va_P (dC, dI) vwCl (mW h adr cI cZ (upd2 (upd2 (upd2 τ 14 ((τ 16 0).toNatClampNeg) p0) 15 ((τ 16 0).toNatClampNeg) (-1)) 16 0 ((τ 16 0) + 1)) ++ X) H := by rw [← mput_16]; exact hP
                      have hD : va_D (fun q : Nat => z ≤ q) (mW h adr cI cZ (upd2 (upd2 (upd2 τ 14 ((τ 16 0).toNatClampNeg) p0) 15 ((τ 16 0).toNatClampNeg) (-1)) 16 0 ((τ 16 0) + 1)) ++ X) := by rw [← mput_16]; exact hD
                      refine lv_aload_n hx hb dX3_line_146 rfl (lv_at hl 1 rfl) ?_
                      refine va_get (D := (dC, dI)) (ci := 3) (v := .ref (adr 7)) (C := RX3) (T := TX3) (N := 24) hx hb hts hin hown hK hP 0 rfl rfl 7 (by decide) (hts (.fieldLink RX3 28 RX3 "lines" "[I") (by decide +kernel)) (fun _ h9 => h9) rfl dX3_line_147 ?_
                      refine lv_iload_n hx hb dX3_line_150 rfl (lv_at hl 2 rfl) ?_
                      refine lv_dup2_11 hx hb dX3_line_151 rfl rfl ?_
                      refine va_iald (D := (dC, dI)) (i := p0) (f := (upd2 (upd2 (upd2 τ 14 ((τ 16 0).toNatClampNeg) p0) 15 ((τ 16 0).toNatClampNeg) (-1)) 16 0 ((τ 16 0) + 1)) 7) hx hb hK hP 7 0 rfl rfl (mo_in hI c1_) dX3_line_152 ?_
                      refine W.eq (g2 := F0 m 153 ls [.int (τ 7 p0.toNatClampNeg), .int p0, .ref (adr 7)]) rfl ?_
                      refine lv_iconst (v := 1) hx hb dX3_line_153 (by decide) ?_
                      refine lv_iadd hx hb dX3_line_154 ?_
                      refine va_iast (D := (dC, dI)) (i := p0) (x := (τ 7 p0.toNatClampNeg) + 1) (f := (upd2 (upd2 (upd2 τ 14 ((τ 16 0).toNatClampNeg) p0) 15 ((τ 16 0).toNatClampNeg) (-1)) 16 0 ((τ 16 0) + 1)) 7) hx hb hK hP hD hS 7 0 rfl rfl (mo_in hI c1_) dX3_line_155 (fun H locs hP hD hS => ?_)
                      have hP : va_P (dC, dI) vwCl (mW h adr cI cZ (upd2 (upd2 (upd2 (upd2 τ 14 ((τ 16 0).toNatClampNeg) p0) 15 ((τ 16 0).toNatClampNeg) (-1)) 16 0 ((τ 16 0) + 1)) 7 p0.toNatClampNeg ((τ 7 p0.toNatClampNeg) + 1)) ++ X) H := by rw [← mput_7]; exact hP
                      have hD : va_D (fun q : Nat => z ≤ q) (mW h adr cI cZ (upd2 (upd2 (upd2 (upd2 τ 14 ((τ 16 0).toNatClampNeg) p0) 15 ((τ 16 0).toNatClampNeg) (-1)) 16 0 ((τ 16 0) + 1)) 7 p0.toNatClampNeg ((τ 7 p0.toNatClampNeg) + 1)) ++ X) := by rw [← mput_7]; exact hD
                      refine lv_iload_n hx hb dX3_line_156 rfl (lv_at hl 0 rfl) ?_
                      refine lv_if_eq (tgt := 164) hx hb dX3_line_157 (by decide) (fun z_ => absurd z_ (by decide)) (fun _ => ?_)
                      refine lv_iconst (v := 2) hx hb dX3_line_160 (by decide) ?_
                      refine lv_goto (tgt := 165) hx hb dX3_line_161 (by decide) ?_
                      exact w_iret (v := 2) (u := upd2 (upd2 (upd2 (upd2 τ 14 ((τ 16 0).toNatClampNeg) p0) 15 ((τ 16 0).toNatClampNeg) (-1)) 16 0 ((τ 16 0) + 1)) 7 p0.toNatClampNeg ((τ 7 p0.toNatClampNeg) + 1)) hx hb hr hlocks hP hD hS dX3_line_165 (wpair (by unfold sM_line; rw [if_neg c1_, if_neg c2_, if_pos c3_, if_pos c4_, if_neg c5_, if_neg c10_, if_pos c15_, if_pos c16_, if_neg c18_, if_pos c19_] <;> rfl))
                    · refine lv_iload_n hx hb dX3_line_126 rfl (lv_at hl 3 rfl) ?_
                      refine lv_sipush (v := 256) hx hb dX3_line_127 (by decide) ?_
                      refine lv_irem hx hb dX3_line_130 (by decide) ?_
                      refine lv_goto (tgt := 135) hx hb dX3_line_131 (by decide) ?_
                      refine va_iast (D := (dC, dI)) (i := τ 16 0) (x := p1 - p1 / 256 * 256) (f := (upd2 τ 14 ((τ 16 0).toNatClampNeg) p0) 15) hx hb hK hP hD hS 14 0 rfl rfl (ma_in hI) dX3_line_135 (fun H locs hP hD hS => ?_)
                      have hP : va_P (dC, dI) vwCl (mW h adr cI cZ (upd2 (upd2 τ 14 ((τ 16 0).toNatClampNeg) p0) 15 ((τ 16 0).toNatClampNeg) (p1 - p1 / 256 * 256)) ++ X) H := by rw [← mput_15]; exact hP
                      have hD : va_D (fun q : Nat => z ≤ q) (mW h adr cI cZ (upd2 (upd2 τ 14 ((τ 16 0).toNatClampNeg) p0) 15 ((τ 16 0).toNatClampNeg) (p1 - p1 / 256 * 256)) ++ X) := by rw [← mput_15]; exact hD
                      refine lv_aload_n hx hb dX3_line_136 rfl (lv_at hl 1 rfl) ?_
                      refine lv_dup hx hb dX3_line_137 rfl ?_
                      refine va_get (D := (dC, dI)) (ci := 3) (v := .int (τ 16 0)) (C := RX3) (T := TX3) (N := 24) hx hb hts hin hown hK hP 0 rfl rfl 16 (by decide) (hts (.fieldLink RX3 93 RX3 "all" "I") (by decide +kernel)) (fun _ h9 => h9) rfl dX3_line_138 ?_
                      refine lv_iconst (v := 1) hx hb dX3_line_141 (by decide) ?_
                      refine lv_iadd hx hb dX3_line_142 ?_
                      refine va_put (D := (dC, dI)) (ci := 3) (v := .int ((τ 16 0) + 1)) (ty := .int) (C := RX3) (T := TX3) (N := 24) hx hb hts hin tyX3 tyX3_ok nmX3 hown hK hP hD hS 0 rfl rfl 16 (by decide) (hts (.fieldLink RX3 93 RX3 "all" "I") (by decide +kernel)) (fun _ h9 => h9) rfl (by decide +kernel) rfl rfl (Nat.le_of_ble_eq_true rfl) dX3_line_143 (fun H locs hP hD hS => ?_)
                      have hP : va_P (dC, dI) vwCl (mW h adr cI cZ (upd2 (upd2 (upd2 τ 14 ((τ 16 0).toNatClampNeg) p0) 15 ((τ 16 0).toNatClampNeg) (p1 - p1 / 256 * 256)) 16 0 ((τ 16 0) + 1)) ++ X) H := by rw [← mput_16]; exact hP
                      have hD : va_D (fun q : Nat => z ≤ q) (mW h adr cI cZ (upd2 (upd2 (upd2 τ 14 ((τ 16 0).toNatClampNeg) p0) 15 ((τ 16 0).toNatClampNeg) (p1 - p1 / 256 * 256)) 16 0 ((τ 16 0) + 1)) ++ X) := by rw [← mput_16]; exact hD
                      refine lv_aload_n hx hb dX3_line_146 rfl (lv_at hl 1 rfl) ?_
                      refine va_get (D := (dC, dI)) (ci := 3) (v := .ref (adr 7)) (C := RX3) (T := TX3) (N := 24) hx hb hts hin hown hK hP 0 rfl rfl 7 (by decide) (hts (.fieldLink RX3 28 RX3 "lines" "[I") (by decide +kernel)) (fun _ h9 => h9) rfl dX3_line_147 ?_
                      refine lv_iload_n hx hb dX3_line_150 rfl (lv_at hl 2 rfl) ?_
                      refine lv_dup2_11 hx hb dX3_line_151 rfl rfl ?_
                      refine va_iald (D := (dC, dI)) (i := p0) (f := (upd2 (upd2 (upd2 τ 14 ((τ 16 0).toNatClampNeg) p0) 15 ((τ 16 0).toNatClampNeg) (p1 - p1 / 256 * 256)) 16 0 ((τ 16 0) + 1)) 7) hx hb hK hP 7 0 rfl rfl (mo_in hI c1_) dX3_line_152 ?_
                      refine W.eq (g2 := F0 m 153 ls [.int (τ 7 p0.toNatClampNeg), .int p0, .ref (adr 7)]) rfl ?_
                      refine lv_iconst (v := 1) hx hb dX3_line_153 (by decide) ?_
                      refine lv_iadd hx hb dX3_line_154 ?_
                      refine va_iast (D := (dC, dI)) (i := p0) (x := (τ 7 p0.toNatClampNeg) + 1) (f := (upd2 (upd2 (upd2 τ 14 ((τ 16 0).toNatClampNeg) p0) 15 ((τ 16 0).toNatClampNeg) (p1 - p1 / 256 * 256)) 16 0 ((τ 16 0) + 1)) 7) hx hb hK hP hD hS 7 0 rfl rfl (mo_in hI c1_) dX3_line_155 (fun H locs hP hD hS => ?_)
                      have hP : va_P (dC, dI) vwCl (mW h adr cI cZ (upd2 (upd2 (upd2 (upd2 τ 14 ((τ 16 0).toNatClampNeg) p0) 15 ((τ 16 0).toNatClampNeg) (p1 - p1 / 256 * 256)) 16 0 ((τ 16 0) + 1)) 7 p0.toNatClampNeg ((τ 7 p0.toNatClampNeg) + 1)) ++ X) H := by rw [← mput_7]; exact hP
                      have hD : va_D (fun q : Nat => z ≤ q) (mW h adr cI cZ (upd2 (upd2 (upd2 (upd2 τ 14 ((τ 16 0).toNatClampNeg) p0) 15 ((τ 16 0).toNatClampNeg) (p1 - p1 / 256 * 256)) 16 0 ((τ 16 0) + 1)) 7 p0.toNatClampNeg ((τ 7 p0.toNatClampNeg) + 1)) ++ X) := by rw [← mput_7]; exact hD
                      refine lv_iload_n hx hb dX3_line_156 rfl (lv_at hl 0 rfl) ?_
                      refine lv_if_eq (tgt := 164) hx hb dX3_line_157 (by decide) (fun z_ => absurd z_ (by decide)) (fun _ => ?_)
                      refine lv_iconst (v := 2) hx hb dX3_line_160 (by decide) ?_
                      refine lv_goto (tgt := 165) hx hb dX3_line_161 (by decide) ?_
                      exact w_iret (v := 2) (u := upd2 (upd2 (upd2 (upd2 τ 14 ((τ 16 0).toNatClampNeg) p0) 15 ((τ 16 0).toNatClampNeg) (p1 - p1 / 256 * 256)) 16 0 ((τ 16 0) + 1)) 7 p0.toNatClampNeg ((τ 7 p0.toNatClampNeg) + 1)) hx hb hr hlocks hP hD hS dX3_line_165 (wpair (by unfold sM_line; rw [if_neg c1_, if_neg c2_, if_pos c3_, if_pos c4_, if_neg c5_, if_neg c10_, if_pos c15_, if_pos c16_, if_neg c18_, if_neg c19_] <;> rfl))
                  · refine lv_bipush (v := (-3)) hx hb dX3_line_97 (by decide) ?_
                    exact w_iret (v := (-3)) (u := τ) hx hb hr hlocks hP hD hS dX3_line_99 (wpair (by unfold sM_line; rw [if_neg c1_, if_neg c2_, if_pos c3_, if_pos c4_, if_neg c5_, if_neg c10_, if_pos c15_, if_pos c16_, if_pos c18_] <;> rfl))
              · refine lv_iconst (v := 0) hx hb dX3_line_76 (by decide) ?_
                exact w_iret (v := 0) (u := τ) hx hb hr hlocks hP hD hS dX3_line_77 (wpair (by unfold sM_line; rw [if_neg c1_, if_neg c2_, if_pos c3_, if_pos c4_, if_neg c5_, if_neg c10_, if_neg c15_] <;> rfl))
        · refine lv_bipush (v := (-2)) hx hb dX3_line_30 (by decide) ?_
          exact w_iret (v := (-2)) (u := τ) hx hb hr hlocks hP hD hS dX3_line_32 (wpair (by unfold sM_line; rw [if_neg c1_, if_neg c2_, if_pos c3_, if_neg c4_] <;> rfl))
      · refine lv_iconst (v := (-1)) hx hb dX3_line_18 (by decide) ?_
        exact w_iret (v := (-1)) (u := τ) hx hb hr hlocks hP hD hS dX3_line_19 (wpair (by unfold sM_line; rw [if_neg c1_, if_neg c2_, if_neg c3_] <;> rfl))
