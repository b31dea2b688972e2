set_option maxHeartbeats 4000000 in
set_option maxRecDepth 100000 in
theorem c_M_create (l : Launch) (dC : Nat → ClassId) (dI : Nat → Nat → Nat) (cI cZ cO cW : ClassId) (z : Nat) (X : va_W) (h : Nat) (adr : Nat → Nat) (τ : T2) (p0 : Int32) (p1 : Int32) (p2 : Int32) (p3 : Int32) (p4 : Int32) (hn : vp_in (τ 13 0 + 1) 1001) : Met l yX3_create wsX3_create ({ frames := 0, cells := 0, slots := 0, locals := 0 }) (wPc (dC, dI) (tyL cI cZ cO cW) z [.ref h, .int p0, .int p1, .int p2, .int p3, .int p4] (mW h adr cI cZ τ ++ X)) (wQv (dC, dI) z (fun u : T2 => mW h adr cI cZ u ++ X) (fun u => u = sM_create τ p0 p1 p2 p3 p4)) 0 0 (fun q => z ≤ q) := by
  refine en_met (cc := cX3_create) (maxL := 6) (ret := none) (by decide) rfl (Nat.le_of_ble_eq_true rfl) ?_
  intro p e s m below meth c ls hx hb hml hr hts hown hlocks hnm hv hl
  obtain ⟨hz, hP, hK, hD⟩ := hv
  have hown : s.vm.findClass RX3 = some m.cls := hown
  have hin : ∀ w ∈ wsX30, w ∈ wsX3_create := by decide +kernel
  have hS : va_S (fun q : Nat => z ≤ q) s.heap s.heap [] := va_S.rf
  have hl : lv_has ls 6 [(0, .ref h), (1, .int p0), (2, .int p1), (3, .int p2), (4, .int p3), (5, .int p4)] := hl
  refine lv_aload_n hx hb dX3_create_0 rfl (lv_at hl 0 rfl) ?_
  refine lv_dup hx hb dX3_create_1 rfl ?_
  refine va_get (D := (dC, dI)) (ci := 3) (v := .int (τ 13 0)) (C := RX3) (T := TX3) (N := 24) hx hb hts hin hown hK hP 0 rfl rfl 13 (by decide) (hts (.fieldLink RX3 67 RX3 "outputs" "I") (by decide +kernel)) (fun _ h9 => h9) rfl dX3_create_2 ?_
  refine lv_iconst (v := 1) hx hb dX3_create_5 (by decide) ?_
  refine lv_iadd hx hb dX3_create_6 ?_
  refine va_put (D := (dC, dI)) (ci := 3) (v := .int ((τ 13 0) + 1)) (ty := .int) (C := RX3) (T := TX3) (N := 24) hx hb hts hin tyX3 tyX3_ok nmX3 hown hK hP hD hS 0 rfl rfl 13 (by decide) (hts (.fieldLink RX3 67 RX3 "outputs" "I") (by decide +kernel)) (fun _ h9 => h9) rfl (by decide +kernel) rfl rfl (Nat.le_of_ble_eq_true rfl) dX3_create_7 (fun H locs hP hD hS => ?_)
  have hP : va_P (dC, dI) vwCl (mW h adr cI cZ (upd2 τ 13 0 ((τ 13 0) + 1)) ++ X) H := by rw [← mput_13]; exact hP
  have hD : va_D (fun q : Nat => z ≤ q) (mW h adr cI cZ (upd2 τ 13 0 ((τ 13 0) + 1)) ++ X) := by rw [← mput_13]; exact hD
  refine lv_aload_n hx hb dX3_create_10 rfl (lv_at hl 0 rfl) ?_
  refine va_get (D := (dC, dI)) (ci := 3) (v := .ref (adr 1)) (C := RX3) (T := TX3) (N := 24) hx hb hts hin hown hK hP 0 rfl rfl 1 (by decide) (hts (.fieldLink RX3 7 RX3 "jobs" "[I") (by decide +kernel)) (fun _ h9 => h9) rfl dX3_create_11 ?_
  refine lv_aload_n hx hb dX3_create_14 rfl (lv_at hl 0 rfl) ?_
  refine va_get (D := (dC, dI)) (ci := 3) (v := .int ((τ 13 0) + 1)) (C := RX3) (T := TX3) (N := 24) hx hb hts hin hown hK hP 0 rfl rfl 13 (by decide) (hts (.fieldLink RX3 67 RX3 "outputs" "I") (by decide +kernel)) (fun _ h9 => h9) rfl dX3_create_15 ?_
  refine lv_iload_n hx hb dX3_create_18 rfl (lv_at hl 1 rfl) ?_
  refine va_iast (D := (dC, dI)) (i := (τ 13 0) + 1) (x := p0) (f := (upd2 τ 13 0 ((τ 13 0) + 1)) 1) hx hb hK hP hD hS 1 0 rfl rfl hn dX3_create_19 (fun H locs hP hD hS => ?_)
  have hP : va_P (dC, dI) vwCl (mW h adr cI cZ (upd2 (upd2 τ 13 0 ((τ 13 0) + 1)) 1 (((τ 13 0) + 1).toNatClampNeg) p0) ++ X) H := by rw [← mput_1]; exact hP
  have hD : va_D (fun q : Nat => z ≤ q) (mW h adr cI cZ (upd2 (upd2 τ 13 0 ((τ 13 0) + 1)) 1 (((τ 13 0) + 1).toNatClampNeg) p0) ++ X) := by rw [← mput_1]; exact hD
  refine lv_aload_n hx hb dX3_create_20 rfl (lv_at hl 0 rfl) ?_
  refine va_get (D := (dC, dI)) (ci := 3) (v := .ref (adr 2)) (C := RX3) (T := TX3) (N := 24) hx hb hts hin hown hK hP 0 rfl rfl 2 (by decide) (hts (.fieldLink RX3 13 RX3 "classes" "[I") (by decide +kernel)) (fun _ h9 => h9) rfl dX3_create_21 ?_
  refine lv_aload_n hx hb dX3_create_24 rfl (lv_at hl 0 rfl) ?_
  refine va_get (D := (dC, dI)) (ci := 3) (v := .int ((τ 13 0) + 1)) (C := RX3) (T := TX3) (N := 24) hx hb hts hin hown hK hP 0 rfl rfl 13 (by decide) (hts (.fieldLink RX3 67 RX3 "outputs" "I") (by decide +kernel)) (fun _ h9 => h9) rfl dX3_create_25 ?_
  refine lv_iload_n hx hb dX3_create_28 rfl (lv_at hl 2 rfl) ?_
  refine va_iast (D := (dC, dI)) (i := (τ 13 0) + 1) (x := p1) (f := (upd2 (upd2 τ 13 0 ((τ 13 0) + 1)) 1 (((τ 13 0) + 1).toNatClampNeg) p0) 2) hx hb hK hP hD hS 2 0 rfl rfl hn dX3_create_29 (fun H locs hP hD hS => ?_)
  have hP : va_P (dC, dI) vwCl (mW h adr cI cZ (upd2 (upd2 (upd2 τ 13 0 ((τ 13 0) + 1)) 1 (((τ 13 0) + 1).toNatClampNeg) p0) 2 (((τ 13 0) + 1).toNatClampNeg) p1) ++ X) H := by rw [← mput_2]; exact hP
  have hD : va_D (fun q : Nat => z ≤ q) (mW h adr cI cZ (upd2 (upd2 (upd2 τ 13 0 ((τ 13 0) + 1)) 1 (((τ 13 0) + 1).toNatClampNeg) p0) 2 (((τ 13 0) + 1).toNatClampNeg) p1) ++ X) := by rw [← mput_2]; exact hD
  refine lv_aload_n hx hb dX3_create_30 rfl (lv_at hl 0 rfl) ?_
  refine va_get (D := (dC, dI)) (ci := 3) (v := .ref (adr 3)) (C := RX3) (T := TX3) (N := 24) hx hb hts hin hown hK hP 0 rfl rfl 3 (by decide) (hts (.fieldLink RX3 16 RX3 "copies" "[I") (by decide +kernel)) (fun _ h9 => h9) rfl dX3_create_31 ?_
  refine lv_aload_n hx hb dX3_create_34 rfl (lv_at hl 0 rfl) ?_
  refine va_get (D := (dC, dI)) (ci := 3) (v := .int ((τ 13 0) + 1)) (C := RX3) (T := TX3) (N := 24) hx hb hts hin hown hK hP 0 rfl rfl 13 (by decide) (hts (.fieldLink RX3 67 RX3 "outputs" "I") (by decide +kernel)) (fun _ h9 => h9) rfl dX3_create_35 ?_
  refine lv_iload_n hx hb dX3_create_38 rfl (lv_at hl 3 rfl) ?_
  refine va_iast (D := (dC, dI)) (i := (τ 13 0) + 1) (x := p2) (f := (upd2 (upd2 (upd2 τ 13 0 ((τ 13 0) + 1)) 1 (((τ 13 0) + 1).toNatClampNeg) p0) 2 (((τ 13 0) + 1).toNatClampNeg) p1) 3) hx hb hK hP hD hS 3 0 rfl rfl hn dX3_create_39 (fun H locs hP hD hS => ?_)
  have hP : va_P (dC, dI) vwCl (mW h adr cI cZ (upd2 (upd2 (upd2 (upd2 τ 13 0 ((τ 13 0) + 1)) 1 (((τ 13 0) + 1).toNatClampNeg) p0) 2 (((τ 13 0) + 1).toNatClampNeg) p1) 3 (((τ 13 0) + 1).toNatClampNeg) p2) ++ X) H := by rw [← mput_3]; exact hP
  have hD : va_D (fun q : Nat => z ≤ q) (mW h adr cI cZ (upd2 (upd2 (upd2 (upd2 τ 13 0 ((τ 13 0) + 1)) 1 (((τ 13 0) + 1).toNatClampNeg) p0) 2 (((τ 13 0) + 1).toNatClampNeg) p1) 3 (((τ 13 0) + 1).toNatClampNeg) p2) ++ X) := by rw [← mput_3]; exact hD
  refine lv_aload_n hx hb dX3_create_40 rfl (lv_at hl 0 rfl) ?_
  refine va_get (D := (dC, dI)) (ci := 3) (v := .ref (adr 4)) (C := RX3) (T := TX3) (N := 24) hx hb hts hin hown hK hP 0 rfl rfl 4 (by decide) (hts (.fieldLink RX3 19 RX3 "destinations" "[I") (by decide +kernel)) (fun _ h9 => h9) rfl dX3_create_41 ?_
  refine lv_aload_n hx hb dX3_create_44 rfl (lv_at hl 0 rfl) ?_
  refine va_get (D := (dC, dI)) (ci := 3) (v := .int ((τ 13 0) + 1)) (C := RX3) (T := TX3) (N := 24) hx hb hts hin hown hK hP 0 rfl rfl 13 (by decide) (hts (.fieldLink RX3 67 RX3 "outputs" "I") (by decide +kernel)) (fun _ h9 => h9) rfl dX3_create_45 ?_
  refine lv_iload hx hb dX3_create_48 (lv_at hl 4 rfl) ?_
  refine va_iast (D := (dC, dI)) (i := (τ 13 0) + 1) (x := p3) (f := (upd2 (upd2 (upd2 (upd2 τ 13 0 ((τ 13 0) + 1)) 1 (((τ 13 0) + 1).toNatClampNeg) p0) 2 (((τ 13 0) + 1).toNatClampNeg) p1) 3 (((τ 13 0) + 1).toNatClampNeg) p2) 4) hx hb hK hP hD hS 4 0 rfl rfl hn dX3_create_50 (fun H locs hP hD hS => ?_)
  have hP : va_P (dC, dI) vwCl (mW h adr cI cZ (upd2 (upd2 (upd2 (upd2 (upd2 τ 13 0 ((τ 13 0) + 1)) 1 (((τ 13 0) + 1).toNatClampNeg) p0) 2 (((τ 13 0) + 1).toNatClampNeg) p1) 3 (((τ 13 0) + 1).toNatClampNeg) p2) 4 (((τ 13 0) + 1).toNatClampNeg) p3) ++ X) H := by rw [← mput_4]; exact hP
  have hD : va_D (fun q : Nat => z ≤ q) (mW h adr cI cZ (upd2 (upd2 (upd2 (upd2 (upd2 τ 13 0 ((τ 13 0) + 1)) 1 (((τ 13 0) + 1).toNatClampNeg) p0) 2 (((τ 13 0) + 1).toNatClampNeg) p1) 3 (((τ 13 0) + 1).toNatClampNeg) p2) 4 (((τ 13 0) + 1).toNatClampNeg) p3) ++ X) := by rw [← mput_4]; exact hD
  refine lv_aload_n hx hb dX3_create_51 rfl (lv_at hl 0 rfl) ?_
  refine va_get (D := (dC, dI)) (ci := 3) (v := .ref (adr 5)) (C := RX3) (T := TX3) (N := 24) hx hb hts hin hown hK hP 0 rfl rfl 5 (by decide) (hts (.fieldLink RX3 22 RX3 "priorities" "[I") (by decide +kernel)) (fun _ h9 => h9) rfl dX3_create_52 ?_
  refine lv_aload_n hx hb dX3_create_55 rfl (lv_at hl 0 rfl) ?_
  refine va_get (D := (dC, dI)) (ci := 3) (v := .int ((τ 13 0) + 1)) (C := RX3) (T := TX3) (N := 24) hx hb hts hin hown hK hP 0 rfl rfl 13 (by decide) (hts (.fieldLink RX3 67 RX3 "outputs" "I") (by decide +kernel)) (fun _ h9 => h9) rfl dX3_create_56 ?_
  refine lv_iload hx hb dX3_create_59 (lv_at hl 5 rfl) ?_
  refine va_iast (D := (dC, dI)) (i := (τ 13 0) + 1) (x := p4) (f := (upd2 (upd2 (upd2 (upd2 (upd2 τ 13 0 ((τ 13 0) + 1)) 1 (((τ 13 0) + 1).toNatClampNeg) p0) 2 (((τ 13 0) + 1).toNatClampNeg) p1) 3 (((τ 13 0) + 1).toNatClampNeg) p2) 4 (((τ 13 0) + 1).toNatClampNeg) p3) 5) hx hb hK hP hD hS 5 0 rfl rfl hn dX3_create_61 (fun H locs hP hD hS => ?_)
  have hP : va_P (dC, dI) vwCl (mW h adr cI cZ (upd2 (upd2 (upd2 (upd2 (upd2 (upd2 τ 13 0 ((τ 13 0) + 1)) 1 (((τ 13 0) + 1).toNatClampNeg) p0) 2 (((τ 13 0) + 1).toNatClampNeg) p1) 3 (((τ 13 0) + 1).toNatClampNeg) p2) 4 (((τ 13 0) + 1).toNatClampNeg) p3) 5 (((τ 13 0) + 1).toNatClampNeg) p4) ++ X) H := by rw [← mput_5]; exact hP
  have hD : va_D (fun q : Nat => z ≤ q) (mW h adr cI cZ (upd2 (upd2 (upd2 (upd2 (upd2 (upd2 τ 13 0 ((τ 13 0) + 1)) 1 (((τ 13 0) + 1).toNatClampNeg) p0) 2 (((τ 13 0) + 1).toNatClampNeg) p1) 3 (((τ 13 0) + 1).toNatClampNeg) p2) 4 (((τ 13 0) + 1).toNatClampNeg) p3) 5 (((τ 13 0) + 1).toNatClampNeg) p4) ++ X) := by rw [← mput_5]; exact hD
  refine lv_aload_n hx hb dX3_create_62 rfl (lv_at hl 0 rfl) ?_
  refine va_get (D := (dC, dI)) (ci := 3) (v := .ref (adr 6)) (C := RX3) (T := TX3) (N := 24) hx hb hts hin hown hK hP 0 rfl rfl 6 (by decide) (hts (.fieldLink RX3 25 RX3 "states" "[I") (by decide +kernel)) (fun _ h9 => h9) rfl dX3_create_63 ?_
  refine lv_aload_n hx hb dX3_create_66 rfl (lv_at hl 0 rfl) ?_
  refine va_get (D := (dC, dI)) (ci := 3) (v := .int ((τ 13 0) + 1)) (C := RX3) (T := TX3) (N := 24) hx hb hts hin hown hK hP 0 rfl rfl 13 (by decide) (hts (.fieldLink RX3 67 RX3 "outputs" "I") (by decide +kernel)) (fun _ h9 => h9) rfl dX3_create_67 ?_
  refine lv_iconst (v := 1) hx hb dX3_create_70 (by decide) ?_
  refine va_iast (D := (dC, dI)) (i := (τ 13 0) + 1) (x := 1) (f := (upd2 (upd2 (upd2 (upd2 (upd2 (upd2 τ 13 0 ((τ 13 0) + 1)) 1 (((τ 13 0) + 1).toNatClampNeg) p0) 2 (((τ 13 0) + 1).toNatClampNeg) p1) 3 (((τ 13 0) + 1).toNatClampNeg) p2) 4 (((τ 13 0) + 1).toNatClampNeg) p3) 5 (((τ 13 0) + 1).toNatClampNeg) p4) 6) hx hb hK hP hD hS 6 0 rfl rfl hn dX3_create_71 (fun H locs hP hD hS => ?_)
  have hP : va_P (dC, dI) vwCl (mW h adr cI cZ (upd2 (upd2 (upd2 (upd2 (upd2 (upd2 (upd2 τ 13 0 ((τ 13 0) + 1)) 1 (((τ 13 0) + 1).toNatClampNeg) p0) 2 (((τ 13 0) + 1).toNatClampNeg) p1) 3 (((τ 13 0) + 1).toNatClampNeg) p2) 4 (((τ 13 0) + 1).toNatClampNeg) p3) 5 (((τ 13 0) + 1).toNatClampNeg) p4) 6 (((τ 13 0) + 1).toNatClampNeg) 1) ++ X) H := by rw [← mput_6]; exact hP
  have hD : va_D (fun q : Nat => z ≤ q) (mW h adr cI cZ (upd2 (upd2 (upd2 (upd2 (upd2 (upd2 (upd2 τ 13 0 ((τ 13 0) + 1)) 1 (((τ 13 0) + 1).toNatClampNeg) p0) 2 (((τ 13 0) + 1).toNatClampNeg) p1) 3 (((τ 13 0) + 1).toNatClampNeg) p2) 4 (((τ 13 0) + 1).toNatClampNeg) p3) 5 (((τ 13 0) + 1).toNatClampNeg) p4) 6 (((τ 13 0) + 1).toNatClampNeg) 1) ++ X) := by rw [← mput_6]; exact hD
  exact w_vret (u := upd2 (upd2 (upd2 (upd2 (upd2 (upd2 (upd2 τ 13 0 ((τ 13 0) + 1)) 1 (((τ 13 0) + 1).toNatClampNeg) p0) 2 (((τ 13 0) + 1).toNatClampNeg) p1) 3 (((τ 13 0) + 1).toNatClampNeg) p2) 4 (((τ 13 0) + 1).toNatClampNeg) p3) 5 (((τ 13 0) + 1).toNatClampNeg) p4) 6 (((τ 13 0) + 1).toNatClampNeg) 1) hx hb hr hlocks hP hD hS dX3_create_72 (by unfold sM_create; rfl)
