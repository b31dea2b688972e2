set_option maxHeartbeats 4000000 in
set_option maxRecDepth 100000 in
theorem c_O_init (l : Launch) (dC : Nat → ClassId) (dI : Nat → Nat → Nat) (cI cZ cO cW : ClassId) (z : Nat) (X : va_W) (b : Nat) (p0 : Int32) (p1 : Int32) (p2 : Int32) (p3 : Int32) : Met l yX1_init wsX1_init ({ frames := 1, cells := 0, slots := 0, locals := 12 }) (wPc (dC, dI) (tyL cI cZ cO cW) z [.ref b, .int p0, .int p1, .int p2, .int p3] (((b, .inr (1, [.int 0, .int 0, .int 0, .int 0, .int 0, .int 0, .int 0, .int 0, .int 0, .int 0, .int 0, .int 0, .int 0])) : Nat × va_E) :: X)) (wQv (dC, dI) z (fun _ : Unit => ((b, .inr (1, ouN p0 p1 p2 p3)) : Nat × va_E) :: X) (fun _ => True)) 0 0 (fun q => z ≤ q) := by
  refine en_met (cc := cX1_init) (maxL := 5) (ret := none) (by decide) rfl (Nat.le_of_ble_eq_true rfl) ?_
  intro p e s m below meth c ls hx hb hml hr hts hown hlocks hnm hv hl
  obtain ⟨hz, hP, hK, hD⟩ := hv
  have hown : s.vm.findClass RX1 = some m.cls := hown
  have hS : va_S (fun q : Nat => z ≤ q) s.heap s.heap [] := va_S.rf
  have hA : ∀ q : Nat, s.heap.size ≤ q → (fun q : Nat => z ≤ q) q := fun q h => Nat.le_trans hz h
  have hin1 : ∀ w ∈ wsX10, w ∈ wsX1_init := by decide +kernel
  have hl : lv_has ls 5 [(0, .ref b), (1, .int p0), (2, .int p1), (3, .int p2), (4, .int p3)] := hl
  refine lv_aload_n hx hb dX1_init_0 rfl (lv_at hl 0 rfl) ?_
  refine W.objInit hx hb hown (hts (.methodLink RX1 3 Lib.objectInit) (by decide +kernel)) (hts (.instanceMethod Lib.objectInit) (by decide +kernel)) (hts (.code Lib.objectInit ⟨#[0xb1]⟩ 1 none) (by decide +kernel)) rfl (by rw [hml]; exact hl.1) rfl dX1_init_1 (Nat.le_of_ble_eq_true rfl) (Nat.le_of_ble_eq_true rfl) ?_
  refine W.eq (g2 := F0 m 4 ls []) rfl ?_
  refine lv_aload_n hx hb dX1_init_4 rfl (lv_at hl 0 rfl) ?_
  refine lv_iconst (v := 1) hx hb dX1_init_5 (by decide) ?_
  refine va_put (D := (dC, dI)) (ci := 1) (v := .int 1) (ty := .int) (C := RX1) (T := TX1) (N := 13) hx hb hts hin1 tyX1 tyX1_ok nmX1 hown hK hP hD hS 0 rfl rfl 6 (by decide) (hts (.fieldLink RX1 9 RX1 "state" "I") (by decide +kernel)) (fun _ h9 => h9) rfl (by decide +kernel) rfl rfl (Nat.le_of_ble_eq_true rfl) dX1_init_6 (fun H locs hP hD hS => ?_)
  have hP : va_P (dC, dI) vwCl (((b, .inr (1, [.int 0, .int 0, .int 0, .int 0, .int 0, .int 0, .int 1, .int 0, .int 0, .int 0, .int 0, .int 0, .int 0])) : Nat × va_E) :: X) H := hP
  have hD : va_D (fun q : Nat => z ≤ q) (((b, .inr (1, [.int 0, .int 0, .int 0, .int 0, .int 0, .int 0, .int 1, .int 0, .int 0, .int 0, .int 0, .int 0, .int 0])) : Nat × va_E) :: X) := hD
  refine lv_aload_n hx hb dX1_init_9 rfl (lv_at hl 0 rfl) ?_
  refine lv_iload_n hx hb dX1_init_10 rfl (lv_at hl 1 rfl) ?_
  refine va_putF (D := (dC, dI)) (ci := 1) (v := .int p0) (ty := .int) (C := RX1) (T := TX1) (N := 13) hx hb hts hin1 tyX1 tyX1_ok nmX1 hown hK hP hD hS 0 rfl rfl 0 (by decide) (hts (.fieldLink RX1 15 RX1 "number" "I") (by decide +kernel)) (fun _ h9 => h9) rfl hnm rfl (by decide +kernel) rfl rfl (Nat.le_of_ble_eq_true rfl) dX1_init_11 (fun H locs hP hD hS => ?_)
  have hP : va_P (dC, dI) vwCl (((b, .inr (1, [.int p0, .int 0, .int 0, .int 0, .int 0, .int 0, .int 1, .int 0, .int 0, .int 0, .int 0, .int 0, .int 0])) : Nat × va_E) :: X) H := hP
  have hD : va_D (fun q : Nat => z ≤ q) (((b, .inr (1, [.int p0, .int 0, .int 0, .int 0, .int 0, .int 0, .int 1, .int 0, .int 0, .int 0, .int 0, .int 0, .int 0])) : Nat × va_E) :: X) := hD
  refine lv_aload_n hx hb dX1_init_14 rfl (lv_at hl 0 rfl) ?_
  refine lv_iload_n hx hb dX1_init_15 rfl (lv_at hl 2 rfl) ?_
  refine va_putF (D := (dC, dI)) (ci := 1) (v := .int p1) (ty := .int) (C := RX1) (T := TX1) (N := 13) hx hb hts hin1 tyX1 tyX1_ok nmX1 hown hK hP hD hS 0 rfl rfl 1 (by decide) (hts (.fieldLink RX1 18 RX1 "job" "I") (by decide +kernel)) (fun _ h9 => h9) rfl hnm rfl (by decide +kernel) rfl rfl (Nat.le_of_ble_eq_true rfl) dX1_init_16 (fun H locs hP hD hS => ?_)
  have hP : va_P (dC, dI) vwCl (((b, .inr (1, [.int p0, .int p1, .int 0, .int 0, .int 0, .int 0, .int 1, .int 0, .int 0, .int 0, .int 0, .int 0, .int 0])) : Nat × va_E) :: X) H := hP
  have hD : va_D (fun q : Nat => z ≤ q) (((b, .inr (1, [.int p0, .int p1, .int 0, .int 0, .int 0, .int 0, .int 1, .int 0, .int 0, .int 0, .int 0, .int 0, .int 0])) : Nat × va_E) :: X) := hD
  refine lv_aload_n hx hb dX1_init_19 rfl (lv_at hl 0 rfl) ?_
  refine lv_iload_n hx hb dX1_init_20 rfl (lv_at hl 3 rfl) ?_
  refine va_putF (D := (dC, dI)) (ci := 1) (v := .int p2) (ty := .int) (C := RX1) (T := TX1) (N := 13) hx hb hts hin1 tyX1 tyX1_ok nmX1 hown hK hP hD hS 0 rfl rfl 2 (by decide) (hts (.fieldLink RX1 21 RX1 "kind" "I") (by decide +kernel)) (fun _ h9 => h9) rfl hnm rfl (by decide +kernel) rfl rfl (Nat.le_of_ble_eq_true rfl) dX1_init_21 (fun H locs hP hD hS => ?_)
  have hP : va_P (dC, dI) vwCl (((b, .inr (1, [.int p0, .int p1, .int p2, .int 0, .int 0, .int 0, .int 1, .int 0, .int 0, .int 0, .int 0, .int 0, .int 0])) : Nat × va_E) :: X) H := hP
  have hD : va_D (fun q : Nat => z ≤ q) (((b, .inr (1, [.int p0, .int p1, .int p2, .int 0, .int 0, .int 0, .int 1, .int 0, .int 0, .int 0, .int 0, .int 0, .int 0])) : Nat × va_E) :: X) := hD
  refine lv_aload_n hx hb dX1_init_24 rfl (lv_at hl 0 rfl) ?_
  refine lv_iload hx hb dX1_init_25 (lv_at hl 4 rfl) ?_
  refine va_putF (D := (dC, dI)) (ci := 1) (v := .int p3) (ty := .int) (C := RX1) (T := TX1) (N := 13) hx hb hts hin1 tyX1 tyX1_ok nmX1 hown hK hP hD hS 0 rfl rfl 3 (by decide) (hts (.fieldLink RX1 24 RX1 "copies" "I") (by decide +kernel)) (fun _ h9 => h9) rfl hnm rfl (by decide +kernel) rfl rfl (Nat.le_of_ble_eq_true rfl) dX1_init_27 (fun H locs hP hD hS => ?_)
  have hP : va_P (dC, dI) vwCl (((b, .inr (1, [.int p0, .int p1, .int p2, .int p3, .int 0, .int 0, .int 1, .int 0, .int 0, .int 0, .int 0, .int 0, .int 0])) : Nat × va_E) :: X) H := hP
  have hD : va_D (fun q : Nat => z ≤ q) (((b, .inr (1, [.int p0, .int p1, .int p2, .int p3, .int 0, .int 0, .int 1, .int 0, .int 0, .int 0, .int 0, .int 0, .int 0])) : Nat × va_E) :: X) := hD
  exact w_vret (u := ()) hx hb hr hlocks hP hD hS dX1_init_30 trivial
set_option maxHeartbeats 4000000 in
set_option maxRecDepth 100000 in
theorem c_W_init (l : Launch) (dC : Nat → ClassId) (dI : Nat → Nat → Nat) (cI cZ cO cW : ClassId) (z : Nat) (X : va_W) (b : Nat) (p0 : Int32) (p1 : Int32) : Met l yX2_init wsX2_init ({ frames := 1, cells := 0, slots := 0, locals := 12 }) (wPc (dC, dI) (tyL cI cZ cO cW) z [.ref b, .int p0, .int p1] (((b, .inr (2, [.int 0, .int 0, .null])) : Nat × va_E) :: X)) (wQv (dC, dI) z (fun _ : Unit => ((b, .inr (2, [.int p0, .int p1, .null])) : Nat × va_E) :: X) (fun _ => True)) 0 0 (fun q => z ≤ q) := by
  refine en_met (cc := cX2_init) (maxL := 3) (ret := none) (by decide) rfl (Nat.le_of_ble_eq_true rfl) ?_
  intro p e s m below meth c ls hx hb hml hr hts hown hlocks hnm hv hl
  obtain ⟨hz, hP, hK, hD⟩ := hv
  have hown : s.vm.findClass RX2 = some m.cls := hown
  have hS : va_S (fun q : Nat => z ≤ q) s.heap s.heap [] := va_S.rf
  have hA : ∀ q : Nat, s.heap.size ≤ q → (fun q : Nat => z ≤ q) q := fun q h => Nat.le_trans hz h
  have hin2 : ∀ w ∈ wsX20, w ∈ wsX2_init := by decide +kernel
  have hl : lv_has ls 3 [(0, .ref b), (1, .int p0), (2, .int p1)] := hl
  refine lv_aload_n hx hb dX2_init_0 rfl (lv_at hl 0 rfl) ?_
  refine W.objInit hx hb hown (hts (.methodLink RX2 3 Lib.objectInit) (by decide +kernel)) (hts (.instanceMethod Lib.objectInit) (by decide +kernel)) (hts (.code Lib.objectInit ⟨#[0xb1]⟩ 1 none) (by decide +kernel)) rfl (by rw [hml]; exact hl.1) rfl dX2_init_1 (Nat.le_of_ble_eq_true rfl) (Nat.le_of_ble_eq_true rfl) ?_
  refine W.eq (g2 := F0 m 4 ls []) rfl ?_
  refine lv_aload_n hx hb dX2_init_4 rfl (lv_at hl 0 rfl) ?_
  refine lv_iload_n hx hb dX2_init_5 rfl (lv_at hl 1 rfl) ?_
  refine va_putF (D := (dC, dI)) (ci := 2) (v := .int p0) (ty := .int) (C := RX2) (T := TX2) (N := 3) hx hb hts hin2 tyX2 tyX2_ok nmX2 hown hK hP hD hS 0 rfl rfl 0 (by decide) (hts (.fieldLink RX2 9 RX2 "kind" "I") (by decide +kernel)) (fun _ h9 => h9) rfl hnm rfl (by decide +kernel) rfl rfl (Nat.le_of_ble_eq_true rfl) dX2_init_6 (fun H locs hP hD hS => ?_)
  have hP : va_P (dC, dI) vwCl (((b, .inr (2, [.int p0, .int 0, .null])) : Nat × va_E) :: X) H := hP
  have hD : va_D (fun q : Nat => z ≤ q) (((b, .inr (2, [.int p0, .int 0, .null])) : Nat × va_E) :: X) := hD
  refine lv_aload_n hx hb dX2_init_9 rfl (lv_at hl 0 rfl) ?_
  refine lv_iload_n hx hb dX2_init_10 rfl (lv_at hl 2 rfl) ?_
  refine va_putF (D := (dC, dI)) (ci := 2) (v := .int p1) (ty := .int) (C := RX2) (T := TX2) (N := 3) hx hb hts hin2 tyX2 tyX2_ok nmX2 hown hK hP hD hS 0 rfl rfl 1 (by decide) (hts (.fieldLink RX2 15 RX2 "destination" "I") (by decide +kernel)) (fun _ h9 => h9) rfl hnm rfl (by decide +kernel) rfl rfl (Nat.le_of_ble_eq_true rfl) dX2_init_11 (fun H locs hP hD hS => ?_)
  have hP : va_P (dC, dI) vwCl (((b, .inr (2, [.int p0, .int p1, .null])) : Nat × va_E) :: X) H := hP
  have hD : va_D (fun q : Nat => z ≤ q) (((b, .inr (2, [.int p0, .int p1, .null])) : Nat × va_E) :: X) := hD
  exact w_vret (u := ()) hx hb hr hlocks hP hD hS dX2_init_14 trivial
set_option maxHeartbeats 4000000 in
set_option maxRecDepth 100000 in
theorem c_C_addOutput (l : Launch) (dC : Nat → ClassId) (dI : Nat → Nat → Nat) (cI cZ cO cW : ClassId) (z : Nat) (X : va_W) (h : Nat) (adr ad wd : Nat → Nat) (nO nW : Nat) (σ : T2) (p0 p1 p2 : Int32) (hI : cInv nO nW σ) (hn : σ 3 0 < 1000) : Met l yX0_addOutput wsX0_addOutput ({ frames := 2, cells := 1, slots := 13, locals := 36 }) (wPc (dC, dI) (tyL cI cZ cO cW) z [.ref h, .int p0, .int p1, .int p2] (cWd h adr ad wd nO nW cI cO cW σ ++ X)) (wQr (dC, dI) z (fun q : Nat => cWd h adr (up1 ad nO q) wd (nO + 1) nW cI cO cW (sC_new σ nO p0 p1 p2) ++ X)) 1 13 (fun q => z ≤ q) := by
  refine en_met (cc := cX0_addOutput) (maxL := 5) (ret := (some (.object "SpoolRows$Output"))) (by decide) rfl (Nat.le_of_ble_eq_true rfl) ?_
  intro p e s m below meth c ls hx hb hml hr hts hown hlocks hnm hv hl
  obtain ⟨hz, hP, hK, hD⟩ := hv
  have hown : s.vm.findClass RX0 = some m.cls := hown
  have hS : va_S (fun q : Nat => z ≤ q) s.heap s.heap [] := va_S.rf
  have hA : ∀ q : Nat, s.heap.size ≤ q → (fun q : Nat => z ≤ q) q := fun q h => Nat.le_trans hz h
  have hin0 : ∀ w ∈ wsX00, w ∈ wsX0_addOutput := by decide +kernel
  have hin1 : ∀ w ∈ wsX10, w ∈ wsX0_addOutput := by decide +kernel
  have hl : lv_has ls 5 [(0, .ref h), (1, .int p0), (2, .int p1), (3, .int p2)] := hl
  refine lv_aload_n hx hb dX0_addOutput_0 rfl (lv_at hl 0 rfl) ?_
  refine va_get (v := .int (σ 3 0)) (D := (dC, dI)) (ci := 0) (C := RX0) (T := TX0) (N := 13) hx hb hts hin0 hown hK hP 0 rfl rfl 3 (by decide) (hts (.fieldLink RX0 93 RX0 "outputCount" "I") (by decide +kernel)) (fun _ h9 => h9) rfl dX0_addOutput_1 ?_
  refine lv_sipush (v := 1000) hx hb dX0_addOutput_4 (by decide) ?_
  refine lv_icmp_lt (tgt := 12) hx hb dX0_addOutput_7 (by decide) (fun _ => ?_) (fun z_ => absurd hn z_)
  refine va_new (ci := 1) (fs := ou0) (C := RX1) (T := TX1) (N := 13) hx hb hts hin1 tyX1 tyX1_ok hown (hts (.classLink RX0 9 RX1) (by decide +kernel)) (hts (.instantiable RX1 13) (by decide +kernel)) (hts (.initialized RX1) (by decide +kernel)) hK hP hD hS hA rfl (fun j hj => by rcases (show j = 0 ∨ j = 1 ∨ j = 2 ∨ j = 3 ∨ j = 4 ∨ j = 5 ∨ j = 6 ∨ j = 7 ∨ j = 8 ∨ j = 9 ∨ j = 10 ∨ j = 11 ∨ j = 12 by omega) with rfl | rfl | rfl | rfl | rfl | rfl | rfl | rfl | rfl | rfl | rfl | rfl | rfl <;> rfl) (Nat.le_of_ble_eq_true rfl) (Nat.le_of_ble_eq_true rfl) dX0_addOutput_12 (fun q H hP hD hS => ?_)
  have hP : va_P (dC, dI) vwCl (((q, .inr (1, ou0)) : Nat × va_E) :: (cWd h adr ad wd nO nW cI cO cW σ ++ X)) H := va_P_perm hP pm_rot
  have hD : va_D (fun q : Nat => z ≤ q) (((q, .inr (1, ou0)) : Nat × va_E) :: (cWd h adr ad wd nO nW cI cO cW σ ++ X)) := va_D_perm hD pm_rot
  refine W.widen (k := 1) (n := 13) (by omega) (by omega) ?_
  refine lv_dup hx hb dX0_addOutput_15 rfl ?_
  refine lv_aload_n hx hb dX0_addOutput_16 rfl (lv_at hl 0 rfl) ?_
  refine va_get (v := .int (σ 3 0)) (D := (dC, dI)) (ci := 0) (C := RX0) (T := TX0) (N := 13) hx hb hts hin0 hown hK hP 1 rfl rfl 3 (by decide) (hts (.fieldLink RX0 93 RX0 "outputCount" "I") (by decide +kernel)) (fun _ h9 => h9) rfl dX0_addOutput_17 ?_
  refine lv_iconst (v := 1) hx hb dX0_addOutput_20 (by decide) ?_
  refine lv_iadd hx hb dX0_addOutput_21 ?_
  refine lv_iload_n hx hb dX0_addOutput_22 rfl (lv_at hl 1 rfl) ?_
  refine lv_iload_n hx hb dX0_addOutput_23 rfl (lv_at hl 2 rfl) ?_
  refine lv_iload_n hx hb dX0_addOutput_24 rfl (lv_at hl 3 rfl) ?_
  refine w_callv (va_runI (As := [.int (σ 3 0 + 1), .int p0, .int p1, .int p2]) (rest := [.ref q]) ⟨hx, hb, hml, hown, hts⟩ (c_O_init l dC dI cI cZ cO cW z (cWd h adr ad wd nO nW cI cO cW σ ++ X) q (σ 3 0 + 1) p0 p1 p2) (cwI 4 hts gX0_addOutput_X1_init rfl rfl rfl (hts (.initialized RX1) (by decide +kernel)) (hts (.methodLink RX0 188 yX1_init) (by decide +kernel)) (hts (.instanceMethod yX1_init) (by decide +kernel)) rfl (by decide +kernel) ⟨(Nat.le_of_ble_eq_true rfl), (Nat.le_of_ble_eq_true rfl)⟩) (wPreS (Nat.le_trans hz hS.1) hP hK hD) rfl rfl hl.1 rfl (lv_room (Nat.le_of_ble_eq_true rfl)) dX0_addOutput_25 ⟨(Nat.le_of_ble_eq_true rfl), (Nat.le_of_ble_eq_true rfl)⟩) hS (fun u H locs e_ hP hD hS => ?_)
  have hP : va_P (dC, dI) vwCl (((q, .inr (1, ouN (σ 3 0 + 1) p0 p1 p2)) : Nat × va_E) :: (cWd h adr ad wd nO nW cI cO cW σ ++ X)) H := hP
  have hD : va_D (fun q : Nat => z ≤ q) (((q, .inr (1, ouN (σ 3 0 + 1) p0 p1 p2)) : Nat × va_E) :: (cWd h adr ad wd nO nW cI cO cW σ ++ X)) := hD
  refine W.widen (k := 1) (n := 13) (by omega) (by omega) ?_
  refine lv_astore (lv' := [(4, .ref q), (0, .ref h), (1, .int p0), (2, .int p1), (3, .int p2)]) hx hb dX0_addOutput_28 hl (by decide) rfl (fun ls hl => ?_)
  refine lv_aload_n hx hb dX0_addOutput_30 rfl (lv_at hl 1 rfl) ?_
  refine va_get (v := .ref (adr 2)) (D := (dC, dI)) (ci := 0) (C := RX0) (T := TX0) (N := 13) hx hb hts hin0 hown hK hP 1 rfl rfl 2 (by decide) (hts (.fieldLink RX0 11 RX0 "outputs" "[LSpoolRows$Output;") (by decide +kernel)) (fun _ h9 => h9) rfl dX0_addOutput_31 ?_
  refine lv_aload_n hx hb dX0_addOutput_34 rfl (lv_at hl 1 rfl) ?_
  refine va_get (v := .int (σ 3 0)) (D := (dC, dI)) (ci := 0) (C := RX0) (T := TX0) (N := 13) hx hb hts hin0 hown hK hP 1 rfl rfl 3 (by decide) (hts (.fieldLink RX0 93 RX0 "outputCount" "I") (by decide +kernel)) (fun _ h9 => h9) rfl dX0_addOutput_35 ?_
  refine lv_aload hx hb dX0_addOutput_38 (lv_at hl 0 rfl) ?_
  refine va_astq (D := (dC, dI)) (i := σ 3 0) hx hb hK hP hD hS 2 2 0 1 rfl rfl rfl rfl (oc_in hI hn) dX0_addOutput_40 (fun H locs hP hD hS => ?_)
  refine lv_aload_n hx hb dX0_addOutput_41 rfl (lv_at hl 1 rfl) ?_
  refine lv_dup hx hb dX0_addOutput_42 rfl ?_
  refine va_get (v := .int (σ 3 0)) (D := (dC, dI)) (ci := 0) (C := RX0) (T := TX0) (N := 13) hx hb hts hin0 hown hK hP 1 rfl rfl 3 (by decide) (hts (.fieldLink RX0 93 RX0 "outputCount" "I") (by decide +kernel)) (fun _ h9 => h9) rfl dX0_addOutput_43 ?_
  refine lv_iconst (v := 1) hx hb dX0_addOutput_46 (by decide) ?_
  refine lv_iadd hx hb dX0_addOutput_47 ?_
  refine va_put (D := (dC, dI)) (ci := 0) (v := .int (σ 3 0 + 1)) (ty := .int) (C := RX0) (T := TX0) (N := 13) hx hb hts hin0 tyX0 tyX0_ok nmX0 hown hK hP hD hS 1 rfl rfl 3 (by decide) (hts (.fieldLink RX0 93 RX0 "outputCount" "I") (by decide +kernel)) (fun _ h9 => h9) rfl (by decide +kernel) rfl rfl (Nat.le_of_ble_eq_true rfl) dX0_addOutput_48 (fun H locs hP hD hS => ?_)
  have hP := va_P_perm hP (pm_new (q := q) (p0 := p0) (p1 := p1) (p2 := p2) hI)
  have hD := va_D_perm hD (pm_new (q := q) (p0 := p0) (p1 := p1) (p2 := p2) hI)
  refine lv_aload hx hb dX0_addOutput_51 (lv_at hl 0 rfl) ?_
  exact w_rret hx hb hr (Or.inl ⟨_, rfl⟩) hlocks hP hD hS dX0_addOutput_53
