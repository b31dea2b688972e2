set_option maxHeartbeats 4000000 in
set_option maxRecDepth 100000 in
theorem c_M_segment (l : Launch) (dC : Nat → ClassId) (dI : Nat → Nat → Nat) (cI cZ cO cW : ClassId) (z : Nat) (X : va_W) (h : Nat) (adr : Nat → Nat) (τ : T2) (p0 : Int32) (hI : mInv τ) : Met l yX3_segment wsX3_segment ({ frames := 1, cells := 0, slots := 0, locals := 25 }) (wPc (dC, dI) (tyL cI cZ cO cW) z [.ref h, .int p0] (mW h adr cI cZ τ ++ X)) (wQi (dC, dI) z (fun u : T2 => mW h adr cI cZ u ++ X) (fun r u => r = (sM_segment τ p0).1 ∧ u = (sM_segment τ p0).2)) 0 0 (fun q => z ≤ q) := by
  refine en_met (cc := cX3_segment) (maxL := 2) (ret := (some .int)) (by decide) rfl (Nat.le_of_ble_eq_true rfl) ?_
  intro p e s m below meth c ls hx hb hml hr hts hown hlocks hnm hv hl
  obtain ⟨hz, hP, hK, hD⟩ := hv
  have hown : s.vm.findClass RX3 = some m.cls := hown
  have hin : ∀ w ∈ wsX30, w ∈ wsX3_segment := by decide +kernel
  have hS : va_S (fun q : Nat => z ≤ q) s.heap s.heap [] := va_S.rf
  have hl : lv_has ls 2 [(0, .ref h), (1, .int p0)] := hl
  refine lv_aload_n hx hb dX3_segment_0 rfl (lv_at hl 0 rfl) ?_
  refine lv_iload_n hx hb dX3_segment_1 rfl (lv_at hl 1 rfl) ?_
  refine vp_callSi (W.runV (As := [.int p0]) (rest := []) ⟨hx, hb, hml, hown, hts⟩ (c_M_isOutput l dC dI cI cZ cO cW z X h adr τ p0) (cwV 1 hts gX3_segment_X3_isOutput rfl rfl rfl (by decide +kernel) ⟨Nat.le_of_ble_eq_true rfl, Nat.le_of_ble_eq_true rfl⟩) (wPreV (Nat.le_trans hz hS.1) hP hK hD (va_recv hK hP (ci := 3) (q0 := 0) rfl rfl)) rfl rfl hl.1 rfl (lv_room (Nat.le_of_ble_eq_true rfl)) dX3_segment_2 ⟨Nat.le_of_ble_eq_true rfl, Nat.le_of_ble_eq_true rfl⟩) (fun r e_ => ?_)
  subst e_
  refine lv_if_ne (tgt := 10) hx hb dX3_segment_5 (by decide) (fun c1_ => ?_) (fun c1_ => ?_)
  · refine lv_aload_n hx hb dX3_segment_10 rfl (lv_at hl 0 rfl) ?_
    refine va_get (D := (dC, dI)) (ci := 3) (v := .ref (adr 6)) (C := RX3) (T := TX3) (N := 24) hx hb hts hin hown hK hP 0 rfl rfl 6 (by decide) (hts (.fieldLink RX3 25 RX3 "states" "[I") (by decide +kernel)) (fun _ h9 => h9) rfl dX3_segment_11 ?_
    refine lv_iload_n hx hb dX3_segment_14 rfl (lv_at hl 1 rfl) ?_
    refine va_iald (D := (dC, dI)) (i := p0) (f := τ 6) hx hb hK hP 6 0 rfl rfl (mo_in hI c1_) dX3_segment_15 ?_
    refine lv_iconst (v := 1) hx hb dX3_segment_16 (by decide) ?_
    refine lv_icmp_ne (tgt := 29) hx hb dX3_segment_17 (by decide) (fun c2_ => ?_) (fun c2_ => ?_)
    · refine lv_bipush (v := (-2)) hx hb dX3_segment_29 (by decide) ?_
      exact w_iret (v := (-2)) (u := τ) hx hb hr hlocks hP hD hS dX3_segment_31 (wpair (by unfold sM_segment; rw [if_neg c1_, if_neg c2_] <;> rfl))
    · refine lv_aload_n hx hb dX3_segment_20 rfl (lv_at hl 0 rfl) ?_
      refine va_get (D := (dC, dI)) (ci := 3) (v := .ref (adr 7)) (C := RX3) (T := TX3) (N := 24) hx hb hts hin hown hK hP 0 rfl rfl 7 (by decide) (hts (.fieldLink RX3 28 RX3 "lines" "[I") (by decide +kernel)) (fun _ h9 => h9) rfl dX3_segment_21 ?_
      refine lv_iload_n hx hb dX3_segment_24 rfl (lv_at hl 1 rfl) ?_
      refine va_iald (D := (dC, dI)) (i := p0) (f := τ 7) hx hb hK hP 7 0 rfl rfl (mo_in hI c1_) dX3_segment_25 ?_
      refine lv_if_ne (tgt := 32) hx hb dX3_segment_26 (by decide) (fun c3_ => ?_) (fun c3_ => ?_)
      · refine lv_aload_n hx hb dX3_segment_32 rfl (lv_at hl 0 rfl) ?_
        refine va_get (D := (dC, dI)) (ci := 3) (v := .int (τ 13 0)) (C := RX3) (T := TX3) (N := 24) hx hb hts hin hown hK hP 0 rfl rfl 13 (by decide) (hts (.fieldLink RX3 67 RX3 "outputs" "I") (by decide +kernel)) (fun _ h9 => h9) rfl dX3_segment_33 ?_
        refine lv_sipush (v := 1000) hx hb dX3_segment_36 (by decide) ?_
        refine lv_icmp_ne (tgt := 44) hx hb dX3_segment_39 (by decide) (fun c4_ => ?_) (fun c4_ => ?_)
        · refine lv_aload_n hx hb dX3_segment_44 rfl (lv_at hl 0 rfl) ?_
          refine va_get (D := (dC, dI)) (ci := 3) (v := .ref (adr 6)) (C := RX3) (T := TX3) (N := 24) hx hb hts hin hown hK hP 0 rfl rfl 6 (by decide) (hts (.fieldLink RX3 25 RX3 "states" "[I") (by decide +kernel)) (fun _ h9 => h9) rfl dX3_segment_45 ?_
          refine lv_iload_n hx hb dX3_segment_48 rfl (lv_at hl 1 rfl) ?_
          refine lv_iconst (v := 2) hx hb dX3_segment_49 (by decide) ?_
          refine va_iast (D := (dC, dI)) (i := p0) (x := 2) (f := τ 6) hx hb hK hP hD hS 6 0 rfl rfl (mo_in hI c1_) dX3_segment_50 (fun H locs hP hD hS => ?_)
          have hP : va_P (dC, dI) vwCl (mW h adr cI cZ (upd2 τ 6 p0.toNatClampNeg 2) ++ X) H := by rw [← mput_6]; exact hP
          have hD : va_D (fun q : Nat => z ≤ q) (mW h adr cI cZ (upd2 τ 6 p0.toNatClampNeg 2) ++ X) := by rw [← mput_6]; exact hD
          refine lv_aload_n hx hb dX3_segment_51 rfl (lv_at hl 0 rfl) ?_
          refine lv_aload_n hx hb dX3_segment_52 rfl (lv_at hl 0 rfl) ?_
          refine va_get (D := (dC, dI)) (ci := 3) (v := .ref (adr 1)) (C := RX3) (T := TX3) (N := 24) hx hb hts hin hown hK hP 0 rfl rfl 1 (by decide) (hts (.fieldLink RX3 7 RX3 "jobs" "[I") (by decide +kernel)) (fun _ h9 => h9) rfl dX3_segment_53 ?_
          refine lv_iload_n hx hb dX3_segment_56 rfl (lv_at hl 1 rfl) ?_
          refine va_iald (D := (dC, dI)) (i := p0) (f := (upd2 τ 6 p0.toNatClampNeg 2) 1) hx hb hK hP 1 0 rfl rfl (mo_in hI c1_) dX3_segment_57 ?_
          refine W.eq (g2 := F0 m 58 ls [.int (τ 1 p0.toNatClampNeg), .ref h]) rfl ?_
          refine lv_aload_n hx hb dX3_segment_58 rfl (lv_at hl 0 rfl) ?_
          refine va_get (D := (dC, dI)) (ci := 3) (v := .ref (adr 2)) (C := RX3) (T := TX3) (N := 24) hx hb hts hin hown hK hP 0 rfl rfl 2 (by decide) (hts (.fieldLink RX3 13 RX3 "classes" "[I") (by decide +kernel)) (fun _ h9 => h9) rfl dX3_segment_59 ?_
          refine lv_iload_n hx hb dX3_segment_62 rfl (lv_at hl 1 rfl) ?_
          refine va_iald (D := (dC, dI)) (i := p0) (f := (upd2 τ 6 p0.toNatClampNeg 2) 2) hx hb hK hP 2 0 rfl rfl (mo_in hI c1_) dX3_segment_63 ?_
          refine W.eq (g2 := F0 m 64 ls [.int (τ 2 p0.toNatClampNeg), .int (τ 1 p0.toNatClampNeg), .ref h]) rfl ?_
          refine lv_aload_n hx hb dX3_segment_64 rfl (lv_at hl 0 rfl) ?_
          refine va_get (D := (dC, dI)) (ci := 3) (v := .ref (adr 3)) (C := RX3) (T := TX3) (N := 24) hx hb hts hin hown hK hP 0 rfl rfl 3 (by decide) (hts (.fieldLink RX3 16 RX3 "copies" "[I") (by decide +kernel)) (fun _ h9 => h9) rfl dX3_segment_65 ?_
          refine lv_iload_n hx hb dX3_segment_68 rfl (lv_at hl 1 rfl) ?_
          refine va_iald (D := (dC, dI)) (i := p0) (f := (upd2 τ 6 p0.toNatClampNeg 2) 3) hx hb hK hP 3 0 rfl rfl (mo_in hI c1_) dX3_segment_69 ?_
          refine W.eq (g2 := F0 m 70 ls [.int (τ 3 p0.toNatClampNeg), .int (τ 2 p0.toNatClampNeg), .int (τ 1 p0.toNatClampNeg), .ref h]) rfl ?_
          refine lv_aload_n hx hb dX3_segment_70 rfl (lv_at hl 0 rfl) ?_
          refine va_get (D := (dC, dI)) (ci := 3) (v := .ref (adr 4)) (C := RX3) (T := TX3) (N := 24) hx hb hts hin hown hK hP 0 rfl rfl 4 (by decide) (hts (.fieldLink RX3 19 RX3 "destinations" "[I") (by decide +kernel)) (fun _ h9 => h9) rfl dX3_segment_71 ?_
          refine lv_iload_n hx hb dX3_segment_74 rfl (lv_at hl 1 rfl) ?_
          refine va_iald (D := (dC, dI)) (i := p0) (f := (upd2 τ 6 p0.toNatClampNeg 2) 4) hx hb hK hP 4 0 rfl rfl (mo_in hI c1_) dX3_segment_75 ?_
          refine W.eq (g2 := F0 m 76 ls [.int (τ 4 p0.toNatClampNeg), .int (τ 3 p0.toNatClampNeg), .int (τ 2 p0.toNatClampNeg), .int (τ 1 p0.toNatClampNeg), .ref h]) rfl ?_
          refine lv_aload_n hx hb dX3_segment_76 rfl (lv_at hl 0 rfl) ?_
          refine va_get (D := (dC, dI)) (ci := 3) (v := .ref (adr 5)) (C := RX3) (T := TX3) (N := 24) hx hb hts hin hown hK hP 0 rfl rfl 5 (by decide) (hts (.fieldLink RX3 22 RX3 "priorities" "[I") (by decide +kernel)) (fun _ h9 => h9) rfl dX3_segment_77 ?_
          refine lv_iload_n hx hb dX3_segment_80 rfl (lv_at hl 1 rfl) ?_
          refine va_iald (D := (dC, dI)) (i := p0) (f := (upd2 τ 6 p0.toNatClampNeg 2) 5) hx hb hK hP 5 0 rfl rfl (mo_in hI c1_) dX3_segment_81 ?_
          refine W.eq (g2 := F0 m 82 ls [.int (τ 5 p0.toNatClampNeg), .int (τ 4 p0.toNatClampNeg), .int (τ 3 p0.toNatClampNeg), .int (τ 2 p0.toNatClampNeg), .int (τ 1 p0.toNatClampNeg), .ref h]) rfl ?_
          refine w_callv (va_runV (As := [.int (τ 1 p0.toNatClampNeg), .int (τ 2 p0.toNatClampNeg), .int (τ 3 p0.toNatClampNeg), .int (τ 4 p0.toNatClampNeg), .int (τ 5 p0.toNatClampNeg)]) (rest := []) ⟨hx, hb, hml, hown, hts⟩ (c_M_create l dC dI cI cZ cO cW z X h adr (upd2 τ 6 p0.toNatClampNeg 2) (τ 1 p0.toNatClampNeg) (τ 2 p0.toNatClampNeg) (τ 3 p0.toNatClampNeg) (τ 4 p0.toNatClampNeg) (τ 5 p0.toNatClampNeg) (mc_in hI c4_)) (cwV 5 hts gX3_segment_X3_create rfl rfl rfl (by decide +kernel) ⟨Nat.le_of_ble_eq_true rfl, Nat.le_of_ble_eq_true rfl⟩) (wPreV (Nat.le_trans hz hS.1) hP hK hD (va_recv hK hP (ci := 3) (q0 := 0) rfl rfl)) rfl rfl hl.1 rfl (lv_room (Nat.le_of_ble_eq_true rfl)) dX3_segment_82 ⟨Nat.le_of_ble_eq_true rfl, Nat.le_of_ble_eq_true rfl⟩) hS (fun t5_ H locs ht5_ hP hD hS => ?_)
          have hP : va_P (dC, dI) vwCl (mW h adr cI cZ t5_ ++ X) H := hP
          have hD : va_D (fun q : Nat => z ≤ q) (mW h adr cI cZ t5_ ++ X) := hD
          refine lv_aload_n hx hb dX3_segment_85 rfl (lv_at hl 0 rfl) ?_
          refine va_get (D := (dC, dI)) (ci := 3) (v := .ref (adr 8)) (C := RX3) (T := TX3) (N := 24) hx hb hts hin hown hK hP 0 rfl rfl 8 (by decide) (hts (.fieldLink RX3 31 RX3 "limits" "[I") (by decide +kernel)) (fun _ h9 => h9) rfl dX3_segment_86 ?_
          refine lv_aload_n hx hb dX3_segment_89 rfl (lv_at hl 0 rfl) ?_
          refine va_get (D := (dC, dI)) (ci := 3) (v := .int (t5_ 13 0)) (C := RX3) (T := TX3) (N := 24) hx hb hts hin hown hK hP 0 rfl rfl 13 (by decide) (hts (.fieldLink RX3 67 RX3 "outputs" "I") (by decide +kernel)) (fun _ h9 => h9) rfl dX3_segment_90 ?_
          refine lv_aload_n hx hb dX3_segment_93 rfl (lv_at hl 0 rfl) ?_
          refine va_get (D := (dC, dI)) (ci := 3) (v := .ref (adr 8)) (C := RX3) (T := TX3) (N := 24) hx hb hts hin hown hK hP 0 rfl rfl 8 (by decide) (hts (.fieldLink RX3 31 RX3 "limits" "[I") (by decide +kernel)) (fun _ h9 => h9) rfl dX3_segment_94 ?_
          refine lv_iload_n hx hb dX3_segment_97 rfl (lv_at hl 1 rfl) ?_
          refine va_iald (D := (dC, dI)) (i := p0) (f := t5_ 8) hx hb hK hP 8 0 rfl rfl (mo_in hI c1_) dX3_segment_98 ?_
          refine va_iast (D := (dC, dI)) (i := t5_ 13 0) (x := t5_ 8 p0.toNatClampNeg) (f := t5_ 8) hx hb hK hP hD hS 8 0 rfl rfl (by rw [ht5_]; exact mc_in hI c4_) dX3_segment_99 (fun H locs hP hD hS => ?_)
          have hP : va_P (dC, dI) vwCl (mW h adr cI cZ (upd2 t5_ 8 ((t5_ 13 0).toNatClampNeg) (t5_ 8 p0.toNatClampNeg)) ++ X) H := by rw [← mput_8]; exact hP
          have hD : va_D (fun q : Nat => z ≤ q) (mW h adr cI cZ (upd2 t5_ 8 ((t5_ 13 0).toNatClampNeg) (t5_ 8 p0.toNatClampNeg)) ++ X) := by rw [← mput_8]; exact hD
          refine lv_aload_n hx hb dX3_segment_100 rfl (lv_at hl 0 rfl) ?_
          refine va_get (D := (dC, dI)) (ci := 3) (v := .ref (adr 10)) (C := RX3) (T := TX3) (N := 24) hx hb hts hin hown hK hP 0 rfl rfl 10 (by decide) (hts (.fieldLink RX3 37 RX3 "ends" "[Z") (by decide +kernel)) (fun _ h9 => h9) rfl dX3_segment_101 ?_
          refine lv_aload_n hx hb dX3_segment_104 rfl (lv_at hl 0 rfl) ?_
          refine va_get (D := (dC, dI)) (ci := 3) (v := .int (t5_ 13 0)) (C := RX3) (T := TX3) (N := 24) hx hb hts hin hown hK hP 0 rfl rfl 13 (by decide) (hts (.fieldLink RX3 67 RX3 "outputs" "I") (by decide +kernel)) (fun _ h9 => h9) rfl dX3_segment_105 ?_
          refine lv_aload_n hx hb dX3_segment_108 rfl (lv_at hl 0 rfl) ?_
          refine va_get (D := (dC, dI)) (ci := 3) (v := .ref (adr 10)) (C := RX3) (T := TX3) (N := 24) hx hb hts hin hown hK hP 0 rfl rfl 10 (by decide) (hts (.fieldLink RX3 37 RX3 "ends" "[Z") (by decide +kernel)) (fun _ h9 => h9) rfl dX3_segment_109 ?_
          refine lv_iload_n hx hb dX3_segment_112 rfl (lv_at hl 1 rfl) ?_
          refine va_zald (D := (dC, dI)) (i := p0) (f := (upd2 t5_ 8 ((t5_ 13 0).toNatClampNeg) (t5_ 8 p0.toNatClampNeg)) 10) hx hb hK hP 10 1 rfl rfl (mo_in hI c1_) dX3_segment_113 ?_
          refine W.eq (g2 := F0 m 114 ls [.int (t5_ 10 p0.toNatClampNeg), .int (t5_ 13 0), .ref (adr 10)]) rfl ?_
          refine va_zast (D := (dC, dI)) (i := t5_ 13 0) (x := t5_ 10 p0.toNatClampNeg) (f := (upd2 t5_ 8 ((t5_ 13 0).toNatClampNeg) (t5_ 8 p0.toNatClampNeg)) 10) hx hb hK hP hD hS 10 1 rfl rfl (by rw [ht5_]; exact mc_in hI c4_) dX3_segment_114 (fun H locs hP hD hS => ?_)
          have hP : va_P (dC, dI) vwCl (mW h adr cI cZ (upd2 (upd2 t5_ 8 ((t5_ 13 0).toNatClampNeg) (t5_ 8 p0.toNatClampNeg)) 10 ((t5_ 13 0).toNatClampNeg) (vp_nar .boolean (t5_ 10 p0.toNatClampNeg))) ++ X) H := by rw [← mput_10]; exact hP
          have hD : va_D (fun q : Nat => z ≤ q) (mW h adr cI cZ (upd2 (upd2 t5_ 8 ((t5_ 13 0).toNatClampNeg) (t5_ 8 p0.toNatClampNeg)) 10 ((t5_ 13 0).toNatClampNeg) (vp_nar .boolean (t5_ 10 p0.toNatClampNeg))) ++ X) := by rw [← mput_10]; exact hD
          refine lv_aload_n hx hb dX3_segment_115 rfl (lv_at hl 0 rfl) ?_
          refine va_get (D := (dC, dI)) (ci := 3) (v := .ref (adr 11)) (C := RX3) (T := TX3) (N := 24) hx hb hts hin hown hK hP 0 rfl rfl 11 (by decide) (hts (.fieldLink RX3 41 RX3 "held" "[Z") (by decide +kernel)) (fun _ h9 => h9) rfl dX3_segment_116 ?_
          refine lv_aload_n hx hb dX3_segment_119 rfl (lv_at hl 0 rfl) ?_
          refine va_get (D := (dC, dI)) (ci := 3) (v := .int (t5_ 13 0)) (C := RX3) (T := TX3) (N := 24) hx hb hts hin hown hK hP 0 rfl rfl 13 (by decide) (hts (.fieldLink RX3 67 RX3 "outputs" "I") (by decide +kernel)) (fun _ h9 => h9) rfl dX3_segment_120 ?_
          refine lv_aload_n hx hb dX3_segment_123 rfl (lv_at hl 0 rfl) ?_
          refine va_get (D := (dC, dI)) (ci := 3) (v := .ref (adr 11)) (C := RX3) (T := TX3) (N := 24) hx hb hts hin hown hK hP 0 rfl rfl 11 (by decide) (hts (.fieldLink RX3 41 RX3 "held" "[Z") (by decide +kernel)) (fun _ h9 => h9) rfl dX3_segment_124 ?_
          refine lv_iload_n hx hb dX3_segment_127 rfl (lv_at hl 1 rfl) ?_
          refine va_zald (D := (dC, dI)) (i := p0) (f := (upd2 (upd2 t5_ 8 ((t5_ 13 0).toNatClampNeg) (t5_ 8 p0.toNatClampNeg)) 10 ((t5_ 13 0).toNatClampNeg) (vp_nar .boolean (t5_ 10 p0.toNatClampNeg))) 11) hx hb hK hP 11 1 rfl rfl (mo_in hI c1_) dX3_segment_128 ?_
          refine W.eq (g2 := F0 m 129 ls [.int (t5_ 11 p0.toNatClampNeg), .int (t5_ 13 0), .ref (adr 11)]) rfl ?_
          refine va_zast (D := (dC, dI)) (i := t5_ 13 0) (x := t5_ 11 p0.toNatClampNeg) (f := (upd2 (upd2 t5_ 8 ((t5_ 13 0).toNatClampNeg) (t5_ 8 p0.toNatClampNeg)) 10 ((t5_ 13 0).toNatClampNeg) (vp_nar .boolean (t5_ 10 p0.toNatClampNeg))) 11) hx hb hK hP hD hS 11 1 rfl rfl (by rw [ht5_]; exact mc_in hI c4_) dX3_segment_129 (fun H locs hP hD hS => ?_)
          have hP : va_P (dC, dI) vwCl (mW h adr cI cZ (upd2 (upd2 (upd2 t5_ 8 ((t5_ 13 0).toNatClampNeg) (t5_ 8 p0.toNatClampNeg)) 10 ((t5_ 13 0).toNatClampNeg) (vp_nar .boolean (t5_ 10 p0.toNatClampNeg))) 11 ((t5_ 13 0).toNatClampNeg) (vp_nar .boolean (t5_ 11 p0.toNatClampNeg))) ++ X) H := by rw [← mput_11]; exact hP
          have hD : va_D (fun q : Nat => z ≤ q) (mW h adr cI cZ (upd2 (upd2 (upd2 t5_ 8 ((t5_ 13 0).toNatClampNeg) (t5_ 8 p0.toNatClampNeg)) 10 ((t5_ 13 0).toNatClampNeg) (vp_nar .boolean (t5_ 10 p0.toNatClampNeg))) 11 ((t5_ 13 0).toNatClampNeg) (vp_nar .boolean (t5_ 11 p0.toNatClampNeg))) ++ X) := by rw [← mput_11]; exact hD
          refine lv_aload_n hx hb dX3_segment_130 rfl (lv_at hl 0 rfl) ?_
          refine va_get (D := (dC, dI)) (ci := 3) (v := .int (t5_ 13 0)) (C := RX3) (T := TX3) (N := 24) hx hb hts hin hown hK hP 0 rfl rfl 13 (by decide) (hts (.fieldLink RX3 67 RX3 "outputs" "I") (by decide +kernel)) (fun _ h9 => h9) rfl dX3_segment_131 ?_
          subst ht5_
          exact w_iret (v := (sM_create (upd2 τ 6 p0.toNatClampNeg 2) (τ 1 p0.toNatClampNeg) (τ 2 p0.toNatClampNeg) (τ 3 p0.toNatClampNeg) (τ 4 p0.toNatClampNeg) (τ 5 p0.toNatClampNeg)) 13 0) (u := upd2 (upd2 (upd2 (sM_create (upd2 τ 6 p0.toNatClampNeg 2) (τ 1 p0.toNatClampNeg) (τ 2 p0.toNatClampNeg) (τ 3 p0.toNatClampNeg) (τ 4 p0.toNatClampNeg) (τ 5 p0.toNatClampNeg)) 8 (((sM_create (upd2 τ 6 p0.toNatClampNeg 2) (τ 1 p0.toNatClampNeg) (τ 2 p0.toNatClampNeg) (τ 3 p0.toNatClampNeg) (τ 4 p0.toNatClampNeg) (τ 5 p0.toNatClampNeg)) 13 0).toNatClampNeg) ((sM_create (upd2 τ 6 p0.toNatClampNeg 2) (τ 1 p0.toNatClampNeg) (τ 2 p0.toNatClampNeg) (τ 3 p0.toNatClampNeg) (τ 4 p0.toNatClampNeg) (τ 5 p0.toNatClampNeg)) 8 p0.toNatClampNeg)) 10 (((sM_create (upd2 τ 6 p0.toNatClampNeg 2) (τ 1 p0.toNatClampNeg) (τ 2 p0.toNatClampNeg) (τ 3 p0.toNatClampNeg) (τ 4 p0.toNatClampNeg) (τ 5 p0.toNatClampNeg)) 13 0).toNatClampNeg) (vp_nar .boolean ((sM_create (upd2 τ 6 p0.toNatClampNeg 2) (τ 1 p0.toNatClampNeg) (τ 2 p0.toNatClampNeg) (τ 3 p0.toNatClampNeg) (τ 4 p0.toNatClampNeg) (τ 5 p0.toNatClampNeg)) 10 p0.toNatClampNeg))) 11 (((sM_create (upd2 τ 6 p0.toNatClampNeg 2) (τ 1 p0.toNatClampNeg) (τ 2 p0.toNatClampNeg) (τ 3 p0.toNatClampNeg) (τ 4 p0.toNatClampNeg) (τ 5 p0.toNatClampNeg)) 13 0).toNatClampNeg) (vp_nar .boolean ((sM_create (upd2 τ 6 p0.toNatClampNeg 2) (τ 1 p0.toNatClampNeg) (τ 2 p0.toNatClampNeg) (τ 3 p0.toNatClampNeg) (τ 4 p0.toNatClampNeg) (τ 5 p0.toNatClampNeg)) 11 p0.toNatClampNeg))) hx hb hr hlocks hP hD hS dX3_segment_134 (wpair (by unfold sM_segment; rw [if_neg c1_, if_pos c2_, if_neg c3_, if_neg c4_] <;> rfl))
        · refine lv_iconst (v := 0) hx hb dX3_segment_42 (by decide) ?_
          exact w_iret (v := 0) (u := τ) hx hb hr hlocks hP hD hS dX3_segment_43 (wpair (by unfold sM_segment; rw [if_neg c1_, if_pos c2_, if_neg c3_, if_pos c4_] <;> rfl))
      · refine lv_bipush (v := (-2)) hx hb dX3_segment_29 (by decide) ?_
        exact w_iret (v := (-2)) (u := τ) hx hb hr hlocks hP hD hS dX3_segment_31 (wpair (by unfold sM_segment; rw [if_neg c1_, if_pos c2_, if_pos c3_] <;> rfl))
  · refine lv_iconst (v := (-1)) hx hb dX3_segment_8 (by decide) ?_
    exact w_iret (v := (-1)) (u := τ) hx hb hr hlocks hP hD hS dX3_segment_9 (wpair (by unfold sM_segment; rw [if_pos c1_] <;> rfl))
