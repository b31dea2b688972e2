set_option maxHeartbeats 4000000 in
set_option maxRecDepth 100000 in
theorem c_O_isGone (l : Launch) (dC : Nat → ClassId) (dI : Nat → Nat → Nat) (cI cZ cO cW : ClassId) (z : Nat) (X : va_W) (h : Nat) (adr ad wd : Nat → Nat) (nO nW : Nat) (σ : T2) (j : Nat) (h_j : j < nO) : Met l yX1_isGone wsX1_isGone ({ frames := 0, cells := 0, slots := 0, locals := 0 }) (wPc (dC, dI) (tyL cI cZ cO cW) z [.ref (ad j)] (cWd h adr ad wd nO nW cI cO cW σ ++ X)) (vp_Si (fun r => r = sO_isGone σ j)) 0 0 (fun _ => False) := by
  refine en_met (cc := cX1_isGone) (maxL := 1) (ret := (some .boolean)) (by decide) rfl (Nat.le_of_ble_eq_true rfl) ?_
  intro p e s m below meth c ls hx hb hml hr hts hown hlocks hnm hv hl
  obtain ⟨hz, hP, hK, hD⟩ := hv
  have hown : s.vm.findClass RX1 = some m.cls := hown
  have hS : va_S (fun q : Nat => z ≤ q) s.heap s.heap [] := va_S.rf
  have hin1 : ∀ w ∈ wsX10, w ∈ wsX1_isGone := by decide +kernel
  have hl : lv_has ls 1 [(0, .ref (ad j))] := hl
  refine lv_aload_n hx hb dX1_isGone_0 rfl (lv_at hl 0 rfl) ?_
  refine va_get (v := .int (σ 26 j)) (D := (dC, dI)) (ci := 1) (C := RX1) (T := TX1) (N := 13) hx hb hts hin1 hown hK hP (6 + j) (cw_out h_j) rfl 6 (by decide) (hts (.fieldLink RX1 9 RX1 "state" "I") (by decide +kernel)) (fun _ h9 => h9) rfl dX1_isGone_1 ?_
  refine lv_iconst (v := 4) hx hb dX1_isGone_4 (by decide) ?_
  refine lv_icmp_eq (tgt := 16) hx hb dX1_isGone_5 (by decide) (fun c1_ => ?_) (fun c1_ => ?_)
  · refine lv_iconst (v := 1) hx hb dX1_isGone_16 (by decide) ?_
    refine lv_goto (tgt := 21) hx hb dX1_isGone_17 (by decide) ?_
    exact w_rz (v := 1) hx hb hr rfl hlocks dX1_isGone_21 (by unfold sO_isGone; rw [if_pos c1_] <;> rfl)
  · refine lv_aload_n hx hb dX1_isGone_8 rfl (lv_at hl 0 rfl) ?_
    refine va_get (v := .int (σ 26 j)) (D := (dC, dI)) (ci := 1) (C := RX1) (T := TX1) (N := 13) hx hb hts hin1 hown hK hP (6 + j) (cw_out h_j) rfl 6 (by decide) (hts (.fieldLink RX1 9 RX1 "state" "I") (by decide +kernel)) (fun _ h9 => h9) rfl dX1_isGone_9 ?_
    refine lv_iconst (v := 5) hx hb dX1_isGone_12 (by decide) ?_
    refine lv_icmp_ne (tgt := 20) hx hb dX1_isGone_13 (by decide) (fun c2_ => ?_) (fun c2_ => ?_)
    · refine lv_iconst (v := 0) hx hb dX1_isGone_20 (by decide) ?_
      exact w_rz (v := 0) hx hb hr rfl hlocks dX1_isGone_21 (by unfold sO_isGone; rw [if_neg c1_, if_neg c2_] <;> rfl)
    · refine lv_iconst (v := 1) hx hb dX1_isGone_16 (by decide) ?_
      refine lv_goto (tgt := 21) hx hb dX1_isGone_17 (by decide) ?_
      exact w_rz (v := 1) hx hb hr rfl hlocks dX1_isGone_21 (by unfold sO_isGone; rw [if_neg c1_, if_pos c2_] <;> rfl)
set_option maxHeartbeats 4000000 in
set_option maxRecDepth 100000 in
theorem c_O_isOpenOrReleased (l : Launch) (dC : Nat → ClassId) (dI : Nat → Nat → Nat) (cI cZ cO cW : ClassId) (z : Nat) (X : va_W) (h : Nat) (adr ad wd : Nat → Nat) (nO nW : Nat) (σ : T2) (j : Nat) (h_j : j < nO) : Met l yX1_isOpenOrReleased wsX1_isOpenOrReleased ({ frames := 0, cells := 0, slots := 0, locals := 0 }) (wPc (dC, dI) (tyL cI cZ cO cW) z [.ref (ad j)] (cWd h adr ad wd nO nW cI cO cW σ ++ X)) (vp_Si (fun r => r = sO_isOpenOrReleased σ j)) 0 0 (fun _ => False) := by
  refine en_met (cc := cX1_isOpenOrReleased) (maxL := 1) (ret := (some .boolean)) (by decide) rfl (Nat.le_of_ble_eq_true rfl) ?_
  intro p e s m below meth c ls hx hb hml hr hts hown hlocks hnm hv hl
  obtain ⟨hz, hP, hK, hD⟩ := hv
  have hown : s.vm.findClass RX1 = some m.cls := hown
  have hS : va_S (fun q : Nat => z ≤ q) s.heap s.heap [] := va_S.rf
  have hin1 : ∀ w ∈ wsX10, w ∈ wsX1_isOpenOrReleased := by decide +kernel
  have hl : lv_has ls 1 [(0, .ref (ad j))] := hl
  refine lv_aload_n hx hb dX1_isOpenOrReleased_0 rfl (lv_at hl 0 rfl) ?_
  refine va_get (v := .int (σ 26 j)) (D := (dC, dI)) (ci := 1) (C := RX1) (T := TX1) (N := 13) hx hb hts hin1 hown hK hP (6 + j) (cw_out h_j) rfl 6 (by decide) (hts (.fieldLink RX1 9 RX1 "state" "I") (by decide +kernel)) (fun _ h9 => h9) rfl dX1_isOpenOrReleased_1 ?_
  refine lv_iconst (v := 1) hx hb dX1_isOpenOrReleased_4 (by decide) ?_
  refine lv_icmp_eq (tgt := 16) hx hb dX1_isOpenOrReleased_5 (by decide) (fun c1_ => ?_) (fun c1_ => ?_)
  · refine lv_iconst (v := 1) hx hb dX1_isOpenOrReleased_16 (by decide) ?_
    refine lv_goto (tgt := 21) hx hb dX1_isOpenOrReleased_17 (by decide) ?_
    exact w_rz (v := 1) hx hb hr rfl hlocks dX1_isOpenOrReleased_21 (by unfold sO_isOpenOrReleased; rw [if_pos c1_] <;> rfl)
  · refine lv_aload_n hx hb dX1_isOpenOrReleased_8 rfl (lv_at hl 0 rfl) ?_
    refine va_get (v := .int (σ 26 j)) (D := (dC, dI)) (ci := 1) (C := RX1) (T := TX1) (N := 13) hx hb hts hin1 hown hK hP (6 + j) (cw_out h_j) rfl 6 (by decide) (hts (.fieldLink RX1 9 RX1 "state" "I") (by decide +kernel)) (fun _ h9 => h9) rfl dX1_isOpenOrReleased_9 ?_
    refine lv_iconst (v := 2) hx hb dX1_isOpenOrReleased_12 (by decide) ?_
    refine lv_icmp_ne (tgt := 20) hx hb dX1_isOpenOrReleased_13 (by decide) (fun c2_ => ?_) (fun c2_ => ?_)
    · refine lv_iconst (v := 0) hx hb dX1_isOpenOrReleased_20 (by decide) ?_
      exact w_rz (v := 0) hx hb hr rfl hlocks dX1_isOpenOrReleased_21 (by unfold sO_isOpenOrReleased; rw [if_neg c1_, if_neg c2_] <;> rfl)
    · refine lv_iconst (v := 1) hx hb dX1_isOpenOrReleased_16 (by decide) ?_
      refine lv_goto (tgt := 21) hx hb dX1_isOpenOrReleased_17 (by decide) ?_
      exact w_rz (v := 1) hx hb hr rfl hlocks dX1_isOpenOrReleased_21 (by unfold sO_isOpenOrReleased; rw [if_neg c1_, if_pos c2_] <;> rfl)
set_option maxHeartbeats 4000000 in
set_option maxRecDepth 100000 in
theorem c_O_mayBePrinted (l : Launch) (dC : Nat → ClassId) (dI : Nat → Nat → Nat) (cI cZ cO cW : ClassId) (z : Nat) (X : va_W) (h : Nat) (adr ad wd : Nat → Nat) (nO nW : Nat) (σ : T2) (j : Nat) (h_j : j < nO) : Met l yX1_mayBePrinted wsX1_mayBePrinted ({ frames := 0, cells := 0, slots := 0, locals := 0 }) (wPc (dC, dI) (tyL cI cZ cO cW) z [.ref (ad j)] (cWd h adr ad wd nO nW cI cO cW σ ++ X)) (vp_Si (fun r => r = sO_mayBePrinted σ j)) 0 0 (fun _ => False) := by
  refine en_met (cc := cX1_mayBePrinted) (maxL := 1) (ret := (some .boolean)) (by decide) rfl (Nat.le_of_ble_eq_true rfl) ?_
  intro p e s m below meth c ls hx hb hml hr hts hown hlocks hnm hv hl
  obtain ⟨hz, hP, hK, hD⟩ := hv
  have hown : s.vm.findClass RX1 = some m.cls := hown
  have hS : va_S (fun q : Nat => z ≤ q) s.heap s.heap [] := va_S.rf
  have hin1 : ∀ w ∈ wsX10, w ∈ wsX1_mayBePrinted := by decide +kernel
  have hl : lv_has ls 1 [(0, .ref (ad j))] := hl
  refine lv_aload_n hx hb dX1_mayBePrinted_0 rfl (lv_at hl 0 rfl) ?_
  refine va_get (v := .int (σ 26 j)) (D := (dC, dI)) (ci := 1) (C := RX1) (T := TX1) (N := 13) hx hb hts hin1 hown hK hP (6 + j) (cw_out h_j) rfl 6 (by decide) (hts (.fieldLink RX1 9 RX1 "state" "I") (by decide +kernel)) (fun _ h9 => h9) rfl dX1_mayBePrinted_1 ?_
  refine lv_iconst (v := 2) hx hb dX1_mayBePrinted_4 (by decide) ?_
  refine lv_icmp_ne (tgt := 26) hx hb dX1_mayBePrinted_5 (by decide) (fun c1_ => ?_) (fun c1_ => ?_)
  · refine lv_iconst (v := 0) hx hb dX1_mayBePrinted_26 (by decide) ?_
    exact w_rz (v := 0) hx hb hr rfl hlocks dX1_mayBePrinted_27 (by unfold sO_mayBePrinted; rw [if_neg c1_] <;> rfl)
  · refine lv_aload_n hx hb dX1_mayBePrinted_8 rfl (lv_at hl 0 rfl) ?_
    refine va_get (v := .int (σ 27 j)) (D := (dC, dI)) (ci := 1) (C := RX1) (T := TX1) (N := 13) hx hb hts hin1 hown hK hP (6 + j) (cw_out h_j) rfl 7 (by decide) (hts (.fieldLink RX1 40 RX1 "held" "Z") (by decide +kernel)) (fun _ h9 => h9) rfl dX1_mayBePrinted_9 ?_
    refine lv_if_ne (tgt := 26) hx hb dX1_mayBePrinted_12 (by decide) (fun c2_ => ?_) (fun c2_ => ?_)
    · refine lv_iconst (v := 0) hx hb dX1_mayBePrinted_26 (by decide) ?_
      exact w_rz (v := 0) hx hb hr rfl hlocks dX1_mayBePrinted_27 (by unfold sO_mayBePrinted; rw [if_pos c1_, if_neg c2_] <;> rfl)
    · refine lv_aload_n hx hb dX1_mayBePrinted_15 rfl (lv_at hl 0 rfl) ?_
      refine va_get (v := .int (σ 28 j)) (D := (dC, dI)) (ci := 1) (C := RX1) (T := TX1) (N := 13) hx hb hts hin1 hown hK hP (6 + j) (cw_out h_j) rfl 8 (by decide) (hts (.fieldLink RX1 43 RX1 "lines" "I") (by decide +kernel)) (fun _ h9 => h9) rfl dX1_mayBePrinted_16 ?_
      refine lv_if_le (tgt := 26) hx hb dX1_mayBePrinted_19 (by decide) (fun c3_ => ?_) (fun c3_ => ?_)
      · refine lv_iconst (v := 0) hx hb dX1_mayBePrinted_26 (by decide) ?_
        exact w_rz (v := 0) hx hb hr rfl hlocks dX1_mayBePrinted_27 (by unfold sO_mayBePrinted; rw [if_pos c1_, if_pos c2_, if_pos c3_] <;> rfl)
      · refine lv_iconst (v := 1) hx hb dX1_mayBePrinted_22 (by decide) ?_
        refine lv_goto (tgt := 27) hx hb dX1_mayBePrinted_23 (by decide) ?_
        exact w_rz (v := 1) hx hb hr rfl hlocks dX1_mayBePrinted_27 (by unfold sO_mayBePrinted; rw [if_pos c1_, if_pos c2_, if_neg c3_] <;> rfl)
set_option maxHeartbeats 4000000 in
set_option maxRecDepth 100000 in
theorem c_O_isAtLimit (l : Launch) (dC : Nat → ClassId) (dI : Nat → Nat → Nat) (cI cZ cO cW : ClassId) (z : Nat) (X : va_W) (h : Nat) (adr ad wd : Nat → Nat) (nO nW : Nat) (σ : T2) (j : Nat) (h_j : j < nO) : Met l yX1_isAtLimit wsX1_isAtLimit ({ frames := 0, cells := 0, slots := 0, locals := 0 }) (wPc (dC, dI) (tyL cI cZ cO cW) z [.ref (ad j)] (cWd h adr ad wd nO nW cI cO cW σ ++ X)) (vp_Si (fun r => r = sO_isAtLimit σ j)) 0 0 (fun _ => False) := by
  refine en_met (cc := cX1_isAtLimit) (maxL := 1) (ret := (some .boolean)) (by decide) rfl (Nat.le_of_ble_eq_true rfl) ?_
  intro p e s m below meth c ls hx hb hml hr hts hown hlocks hnm hv hl
  obtain ⟨hz, hP, hK, hD⟩ := hv
  have hown : s.vm.findClass RX1 = some m.cls := hown
  have hS : va_S (fun q : Nat => z ≤ q) s.heap s.heap [] := va_S.rf
  have hin1 : ∀ w ∈ wsX10, w ∈ wsX1_isAtLimit := by decide +kernel
  have hl : lv_has ls 1 [(0, .ref (ad j))] := hl
  refine lv_aload_n hx hb dX1_isAtLimit_0 rfl (lv_at hl 0 rfl) ?_
  refine va_get (v := .int (σ 29 j)) (D := (dC, dI)) (ci := 1) (C := RX1) (T := TX1) (N := 13) hx hb hts hin1 hown hK hP (6 + j) (cw_out h_j) rfl 9 (by decide) (hts (.fieldLink RX1 33 RX1 "limit" "I") (by decide +kernel)) (fun _ h9 => h9) rfl dX1_isAtLimit_1 ?_
  refine lv_if_le (tgt := 22) hx hb dX1_isAtLimit_4 (by decide) (fun c1_ => ?_) (fun c1_ => ?_)
  · refine lv_iconst (v := 0) hx hb dX1_isAtLimit_22 (by decide) ?_
    exact w_rz (v := 0) hx hb hr rfl hlocks dX1_isAtLimit_23 (by unfold sO_isAtLimit; rw [if_pos c1_] <;> rfl)
  · refine lv_aload_n hx hb dX1_isAtLimit_7 rfl (lv_at hl 0 rfl) ?_
    refine va_get (v := .int (σ 28 j)) (D := (dC, dI)) (ci := 1) (C := RX1) (T := TX1) (N := 13) hx hb hts hin1 hown hK hP (6 + j) (cw_out h_j) rfl 8 (by decide) (hts (.fieldLink RX1 43 RX1 "lines" "I") (by decide +kernel)) (fun _ h9 => h9) rfl dX1_isAtLimit_8 ?_
    refine lv_aload_n hx hb dX1_isAtLimit_11 rfl (lv_at hl 0 rfl) ?_
    refine va_get (v := .int (σ 29 j)) (D := (dC, dI)) (ci := 1) (C := RX1) (T := TX1) (N := 13) hx hb hts hin1 hown hK hP (6 + j) (cw_out h_j) rfl 9 (by decide) (hts (.fieldLink RX1 33 RX1 "limit" "I") (by decide +kernel)) (fun _ h9 => h9) rfl dX1_isAtLimit_12 ?_
    refine lv_icmp_lt (tgt := 22) hx hb dX1_isAtLimit_15 (by decide) (fun c2_ => ?_) (fun c2_ => ?_)
    · refine lv_iconst (v := 0) hx hb dX1_isAtLimit_22 (by decide) ?_
      exact w_rz (v := 0) hx hb hr rfl hlocks dX1_isAtLimit_23 (by unfold sO_isAtLimit; rw [if_neg c1_, if_pos c2_] <;> rfl)
    · refine lv_iconst (v := 1) hx hb dX1_isAtLimit_18 (by decide) ?_
      refine lv_goto (tgt := 23) hx hb dX1_isAtLimit_19 (by decide) ?_
      exact w_rz (v := 1) hx hb hr rfl hlocks dX1_isAtLimit_23 (by unfold sO_isAtLimit; rw [if_neg c1_, if_neg c2_] <;> rfl)
set_option maxHeartbeats 4000000 in
set_option maxRecDepth 100000 in
theorem c_O_needsPage (l : Launch) (dC : Nat → ClassId) (dI : Nat → Nat → Nat) (cI cZ cO cW : ClassId) (z : Nat) (X : va_W) (h : Nat) (adr ad wd : Nat → Nat) (nO nW : Nat) (σ : T2) (j : Nat) (h_j : j < nO) : Met l yX1_needsPage wsX1_needsPage ({ frames := 0, cells := 0, slots := 0, locals := 0 }) (wPc (dC, dI) (tyL cI cZ cO cW) z [.ref (ad j)] (cWd h adr ad wd nO nW cI cO cW σ ++ X)) (vp_Si (fun r => r = sO_needsPage σ j)) 0 0 (fun _ => False) := by
  refine en_met (cc := cX1_needsPage) (maxL := 1) (ret := (some .boolean)) (by decide) rfl (Nat.le_of_ble_eq_true rfl) ?_
  intro p e s m below meth c ls hx hb hml hr hts hown hlocks hnm hv hl
  obtain ⟨hz, hP, hK, hD⟩ := hv
  have hown : s.vm.findClass RX1 = some m.cls := hown
  have hS : va_S (fun q : Nat => z ≤ q) s.heap s.heap [] := va_S.rf
  have hin1 : ∀ w ∈ wsX10, w ∈ wsX1_needsPage := by decide +kernel
  have hl : lv_has ls 1 [(0, .ref (ad j))] := hl
  refine lv_aload_n hx hb dX1_needsPage_0 rfl (lv_at hl 0 rfl) ?_
  refine va_get (v := .int (σ 28 j)) (D := (dC, dI)) (ci := 1) (C := RX1) (T := TX1) (N := 13) hx hb hts hin1 hown hK hP (6 + j) (cw_out h_j) rfl 8 (by decide) (hts (.fieldLink RX1 43 RX1 "lines" "I") (by decide +kernel)) (fun _ h9 => h9) rfl dX1_needsPage_1 ?_
  refine lv_bipush (v := 8) hx hb dX1_needsPage_4 (by decide) ?_
  refine lv_irem hx hb dX1_needsPage_6 (by decide) ?_
  refine lv_if_ne (tgt := 14) hx hb dX1_needsPage_7 (by decide) (fun c1_ => ?_) (fun c1_ => ?_)
  · refine lv_iconst (v := 0) hx hb dX1_needsPage_14 (by decide) ?_
    exact w_rz (v := 0) hx hb hr rfl hlocks dX1_needsPage_15 (by unfold sO_needsPage; rw [if_neg c1_] <;> rfl)
  · refine lv_iconst (v := 1) hx hb dX1_needsPage_10 (by decide) ?_
    refine lv_goto (tgt := 15) hx hb dX1_needsPage_11 (by decide) ?_
    exact w_rz (v := 1) hx hb hr rfl hlocks dX1_needsPage_15 (by unfold sO_needsPage; rw [if_pos c1_] <;> rfl)
set_option maxHeartbeats 4000000 in
set_option maxRecDepth 100000 in
theorem c_O_pageCount (l : Launch) (dC : Nat → ClassId) (dI : Nat → Nat → Nat) (cI cZ cO cW : ClassId) (z : Nat) (X : va_W) (h : Nat) (adr ad wd : Nat → Nat) (nO nW : Nat) (σ : T2) (j : Nat) (h_j : j < nO) : Met l yX1_pageCount wsX1_pageCount ({ frames := 0, cells := 0, slots := 0, locals := 0 }) (wPc (dC, dI) (tyL cI cZ cO cW) z [.ref (ad j)] (cWd h adr ad wd nO nW cI cO cW σ ++ X)) (vp_Si (fun r => r = sO_pageCount σ j)) 0 0 (fun _ => False) := by
  refine en_met (cc := cX1_pageCount) (maxL := 1) (ret := (some .int)) (by decide) rfl (Nat.le_of_ble_eq_true rfl) ?_
  intro p e s m below meth c ls hx hb hml hr hts hown hlocks hnm hv hl
  obtain ⟨hz, hP, hK, hD⟩ := hv
  have hown : s.vm.findClass RX1 = some m.cls := hown
  have hS : va_S (fun q : Nat => z ≤ q) s.heap s.heap [] := va_S.rf
  have hin1 : ∀ w ∈ wsX10, w ∈ wsX1_pageCount := by decide +kernel
  have hl : lv_has ls 1 [(0, .ref (ad j))] := hl
  refine lv_aload_n hx hb dX1_pageCount_0 rfl (lv_at hl 0 rfl) ?_
  refine va_get (v := .int (σ 28 j)) (D := (dC, dI)) (ci := 1) (C := RX1) (T := TX1) (N := 13) hx hb hts hin1 hown hK hP (6 + j) (cw_out h_j) rfl 8 (by decide) (hts (.fieldLink RX1 43 RX1 "lines" "I") (by decide +kernel)) (fun _ h9 => h9) rfl dX1_pageCount_1 ?_
  refine lv_bipush (v := 8) hx hb dX1_pageCount_4 (by decide) ?_
  refine lv_iadd hx hb dX1_pageCount_6 ?_
  refine lv_iconst (v := 1) hx hb dX1_pageCount_7 (by decide) ?_
  refine lv_isub hx hb dX1_pageCount_8 ?_
  refine lv_bipush (v := 8) hx hb dX1_pageCount_9 (by decide) ?_
  refine lv_idiv hx hb dX1_pageCount_11 (by decide) ?_
  exact w_ri (v := (((σ 28 j) + 8) - 1) / 8) hx hb hr hlocks dX1_pageCount_12 (by unfold sO_pageCount; rfl)
set_option maxHeartbeats 4000000 in
set_option maxRecDepth 100000 in
theorem c_O_pagesToPrint (l : Launch) (dC : Nat → ClassId) (dI : Nat → Nat → Nat) (cI cZ cO cW : ClassId) (z : Nat) (X : va_W) (h : Nat) (adr ad wd : Nat → Nat) (nO nW : Nat) (σ : T2) (j : Nat) (h_j : j < nO) : Met l yX1_pagesToPrint wsX1_pagesToPrint ({ frames := 1, cells := 0, slots := 0, locals := 20 }) (wPc (dC, dI) (tyL cI cZ cO cW) z [.ref (ad j)] (cWd h adr ad wd nO nW cI cO cW σ ++ X)) (vp_Si (fun r => r = sO_pagesToPrint σ j)) 0 0 (fun _ => False) := by
  refine en_met (cc := cX1_pagesToPrint) (maxL := 1) (ret := (some .int)) (by decide) rfl (Nat.le_of_ble_eq_true rfl) ?_
  intro p e s m below meth c ls hx hb hml hr hts hown hlocks hnm hv hl
  obtain ⟨hz, hP, hK, hD⟩ := hv
  have hown : s.vm.findClass RX1 = some m.cls := hown
  have hS : va_S (fun q : Nat => z ≤ q) s.heap s.heap [] := va_S.rf
  have hin1 : ∀ w ∈ wsX10, w ∈ wsX1_pagesToPrint := by decide +kernel
  have hl : lv_has ls 1 [(0, .ref (ad j))] := hl
  refine lv_aload_n hx hb dX1_pagesToPrint_0 rfl (lv_at hl 0 rfl) ?_
  refine vp_callSi (W.runV (As := []) (rest := []) ⟨hx, hb, hml, hown, hts⟩ (c_O_pageCount l dC dI cI cZ cO cW z X h adr ad wd nO nW σ j h_j) (cwV 0 hts gX1_pagesToPrint_X1_pageCount rfl rfl rfl (by decide +kernel) ⟨Nat.le_of_ble_eq_true rfl, Nat.le_of_ble_eq_true rfl⟩) (wPreV (Nat.le_trans hz hS.1) hP hK hD (va_recv hK hP (ci := 1) (q0 := (6 + j)) rfl (cw_out h_j))) rfl rfl hl.1 rfl (lv_room (Nat.le_of_ble_eq_true rfl)) dX1_pagesToPrint_1 ⟨Nat.le_of_ble_eq_true rfl, Nat.le_of_ble_eq_true rfl⟩) (fun r e_ => ?_)
  subst e_
  refine lv_aload_n hx hb dX1_pagesToPrint_4 rfl (lv_at hl 0 rfl) ?_
  refine va_get (v := .int (σ 23 j)) (D := (dC, dI)) (ci := 1) (C := RX1) (T := TX1) (N := 13) hx hb hts hin1 hown hK hP (6 + j) (cw_out h_j) rfl 3 (by decide) (hts (.fieldLink RX1 24 RX1 "copies" "I") (by decide +kernel)) (fun _ h9 => h9) rfl dX1_pagesToPrint_5 ?_
  refine lv_imul hx hb dX1_pagesToPrint_8 ?_
  refine lv_aload_n hx hb dX1_pagesToPrint_9 rfl (lv_at hl 0 rfl) ?_
  refine va_get (v := .int (σ 31 j)) (D := (dC, dI)) (ci := 1) (C := RX1) (T := TX1) (N := 13) hx hb hts hin1 hown hK hP (6 + j) (cw_out h_j) rfl 11 (by decide) (hts (.fieldLink RX1 50 RX1 "printed" "I") (by decide +kernel)) (fun _ h9 => h9) rfl dX1_pagesToPrint_10 ?_
  refine lv_isub hx hb dX1_pagesToPrint_13 ?_
  exact w_ri (v := ((sO_pageCount σ j) * (σ 23 j)) - (σ 31 j)) hx hb hr hlocks dX1_pagesToPrint_14 (by unfold sO_pagesToPrint; rfl)
set_option maxHeartbeats 4000000 in
set_option maxRecDepth 100000 in
theorem c_O_lastCheckpoint (l : Launch) (dC : Nat → ClassId) (dI : Nat → Nat → Nat) (cI cZ cO cW : ClassId) (z : Nat) (X : va_W) (h : Nat) (adr ad wd : Nat → Nat) (nO nW : Nat) (σ : T2) (j : Nat) (h_j : j < nO) : Met l yX1_lastCheckpoint wsX1_lastCheckpoint ({ frames := 0, cells := 0, slots := 0, locals := 0 }) (wPc (dC, dI) (tyL cI cZ cO cW) z [.ref (ad j)] (cWd h adr ad wd nO nW cI cO cW σ ++ X)) (vp_Si (fun r => r = sO_lastCheckpoint σ j)) 0 0 (fun _ => False) := by
  refine en_met (cc := cX1_lastCheckpoint) (maxL := 1) (ret := (some .int)) (by decide) rfl (Nat.le_of_ble_eq_true rfl) ?_
  intro p e s m below meth c ls hx hb hml hr hts hown hlocks hnm hv hl
  obtain ⟨hz, hP, hK, hD⟩ := hv
  have hown : s.vm.findClass RX1 = some m.cls := hown
  have hS : va_S (fun q : Nat => z ≤ q) s.heap s.heap [] := va_S.rf
  have hin1 : ∀ w ∈ wsX10, w ∈ wsX1_lastCheckpoint := by decide +kernel
  have hl : lv_has ls 1 [(0, .ref (ad j))] := hl
  refine lv_aload_n hx hb dX1_lastCheckpoint_0 rfl (lv_at hl 0 rfl) ?_
  refine va_get (v := .int (σ 31 j)) (D := (dC, dI)) (ci := 1) (C := RX1) (T := TX1) (N := 13) hx hb hts hin1 hown hK hP (6 + j) (cw_out h_j) rfl 11 (by decide) (hts (.fieldLink RX1 50 RX1 "printed" "I") (by decide +kernel)) (fun _ h9 => h9) rfl dX1_lastCheckpoint_1 ?_
  refine lv_aload_n hx hb dX1_lastCheckpoint_4 rfl (lv_at hl 0 rfl) ?_
  refine va_get (v := .int (σ 31 j)) (D := (dC, dI)) (ci := 1) (C := RX1) (T := TX1) (N := 13) hx hb hts hin1 hown hK hP (6 + j) (cw_out h_j) rfl 11 (by decide) (hts (.fieldLink RX1 50 RX1 "printed" "I") (by decide +kernel)) (fun _ h9 => h9) rfl dX1_lastCheckpoint_5 ?_
  refine lv_iconst (v := 4) hx hb dX1_lastCheckpoint_8 (by decide) ?_
  refine lv_irem hx hb dX1_lastCheckpoint_9 (by decide) ?_
  refine lv_isub hx hb dX1_lastCheckpoint_10 ?_
  exact w_ri (v := (σ 31 j) - ((σ 31 j) - (σ 31 j) / 4 * 4)) hx hb hr hlocks dX1_lastCheckpoint_11 (by unfold sO_lastCheckpoint; rfl)
set_option maxHeartbeats 4000000 in
set_option maxRecDepth 100000 in
theorem c_O_copiesLeft (l : Launch) (dC : Nat → ClassId) (dI : Nat → Nat → Nat) (cI cZ cO cW : ClassId) (z : Nat) (X : va_W) (h : Nat) (adr ad wd : Nat → Nat) (nO nW : Nat) (σ : T2) (j : Nat) (h_j : j < nO) : Met l yX1_copiesLeft wsX1_copiesLeft ({ frames := 1, cells := 0, slots := 0, locals := 20 }) (wPc (dC, dI) (tyL cI cZ cO cW) z [.ref (ad j)] (cWd h adr ad wd nO nW cI cO cW σ ++ X)) (vp_Si (fun r => r = sO_copiesLeft σ j)) 0 0 (fun _ => False) := by
  refine en_met (cc := cX1_copiesLeft) (maxL := 2) (ret := (some .int)) (by decide) rfl (Nat.le_of_ble_eq_true rfl) ?_
  intro p e s m below meth c ls hx hb hml hr hts hown hlocks hnm hv hl
  obtain ⟨hz, hP, hK, hD⟩ := hv
  have hown : s.vm.findClass RX1 = some m.cls := hown
  have hS : va_S (fun q : Nat => z ≤ q) s.heap s.heap [] := va_S.rf
  have hin1 : ∀ w ∈ wsX10, w ∈ wsX1_copiesLeft := by decide +kernel
  have hl : lv_has ls 2 [(0, .ref (ad j))] := hl
  refine lv_aload_n hx hb dX1_copiesLeft_0 rfl (lv_at hl 0 rfl) ?_
  refine vp_callSi (W.runV (As := []) (rest := []) ⟨hx, hb, hml, hown, hts⟩ (c_O_pageCount l dC dI cI cZ cO cW z X h adr ad wd nO nW σ j h_j) (cwV 0 hts gX1_copiesLeft_X1_pageCount rfl rfl rfl (by decide +kernel) ⟨Nat.le_of_ble_eq_true rfl, Nat.le_of_ble_eq_true rfl⟩) (wPreV (Nat.le_trans hz hS.1) hP hK hD (va_recv hK hP (ci := 1) (q0 := (6 + j)) rfl (cw_out h_j))) rfl rfl hl.1 rfl (lv_room (Nat.le_of_ble_eq_true rfl)) dX1_copiesLeft_1 ⟨Nat.le_of_ble_eq_true rfl, Nat.le_of_ble_eq_true rfl⟩) (fun r e_ => ?_)
  subst e_
  refine lv_istore_n (lv' := [(1, .int (sO_pageCount σ j)), (0, .ref (ad j))]) hx hb dX1_copiesLeft_4 rfl hl (by decide) rfl (fun ls hl => ?_)
  refine lv_iload_n hx hb dX1_copiesLeft_5 rfl (lv_at hl 0 rfl) ?_
  refine lv_if_ne (tgt := 16) hx hb dX1_copiesLeft_6 (by decide) (fun c1_ => ?_) (fun c1_ => ?_)
  · refine lv_aload_n hx hb dX1_copiesLeft_16 rfl (lv_at hl 1 rfl) ?_
    refine va_get (v := .int (σ 23 j)) (D := (dC, dI)) (ci := 1) (C := RX1) (T := TX1) (N := 13) hx hb hts hin1 hown hK hP (6 + j) (cw_out h_j) rfl 3 (by decide) (hts (.fieldLink RX1 24 RX1 "copies" "I") (by decide +kernel)) (fun _ h9 => h9) rfl dX1_copiesLeft_17 ?_
    refine lv_aload_n hx hb dX1_copiesLeft_20 rfl (lv_at hl 1 rfl) ?_
    refine va_get (v := .int (σ 31 j)) (D := (dC, dI)) (ci := 1) (C := RX1) (T := TX1) (N := 13) hx hb hts hin1 hown hK hP (6 + j) (cw_out h_j) rfl 11 (by decide) (hts (.fieldLink RX1 50 RX1 "printed" "I") (by decide +kernel)) (fun _ h9 => h9) rfl dX1_copiesLeft_21 ?_
    refine lv_iload_n hx hb dX1_copiesLeft_24 rfl (lv_at hl 0 rfl) ?_
    refine lv_idiv hx hb dX1_copiesLeft_25 c1_ ?_
    refine lv_isub hx hb dX1_copiesLeft_26 ?_
    exact w_ri (v := (σ 23 j) - ((σ 31 j) / (sO_pageCount σ j))) hx hb hr hlocks dX1_copiesLeft_27 (by unfold sO_copiesLeft; rw [if_neg c1_] <;> rfl)
  · refine lv_aload_n hx hb dX1_copiesLeft_9 rfl (lv_at hl 1 rfl) ?_
    refine va_get (v := .int (σ 23 j)) (D := (dC, dI)) (ci := 1) (C := RX1) (T := TX1) (N := 13) hx hb hts hin1 hown hK hP (6 + j) (cw_out h_j) rfl 3 (by decide) (hts (.fieldLink RX1 24 RX1 "copies" "I") (by decide +kernel)) (fun _ h9 => h9) rfl dX1_copiesLeft_10 ?_
    refine lv_goto (tgt := 27) hx hb dX1_copiesLeft_13 (by decide) ?_
    exact w_ri (v := σ 23 j) hx hb hr hlocks dX1_copiesLeft_27 (by unfold sO_copiesLeft; rw [if_pos c1_] <;> rfl)
set_option maxHeartbeats 4000000 in
set_option maxRecDepth 100000 in
theorem c_O_comesBefore (l : Launch) (dC : Nat → ClassId) (dI : Nat → Nat → Nat) (cI cZ cO cW : ClassId) (z : Nat) (X : va_W) (h : Nat) (adr ad wd : Nat → Nat) (nO nW : Nat) (σ : T2) (j : Nat) (j0 : Nat) (h_j : j < nO) (h_j0 : j0 < nO) : Met l yX1_comesBefore wsX1_comesBefore ({ frames := 0, cells := 0, slots := 0, locals := 0 }) (wPc (dC, dI) (tyL cI cZ cO cW) z [.ref (ad j), .ref (ad j0)] (cWd h adr ad wd nO nW cI cO cW σ ++ X)) (vp_Si (fun r => r = sO_comesBefore σ j j0)) 0 0 (fun _ => False) := by
  refine en_met (cc := cX1_comesBefore) (maxL := 2) (ret := (some .boolean)) (by decide) rfl (Nat.le_of_ble_eq_true rfl) ?_
  intro p e s m below meth c ls hx hb hml hr hts hown hlocks hnm hv hl
  obtain ⟨hz, hP, hK, hD⟩ := hv
  have hown : s.vm.findClass RX1 = some m.cls := hown
  have hS : va_S (fun q : Nat => z ≤ q) s.heap s.heap [] := va_S.rf
  have hin1 : ∀ w ∈ wsX10, w ∈ wsX1_comesBefore := by decide +kernel
  have hl : lv_has ls 2 [(0, .ref (ad j)), (1, .ref (ad j0))] := hl
  refine lv_aload_n hx hb dX1_comesBefore_0 rfl (lv_at hl 0 rfl) ?_
  refine va_get (v := .int (σ 25 j)) (D := (dC, dI)) (ci := 1) (C := RX1) (T := TX1) (N := 13) hx hb hts hin1 hown hK hP (6 + j) (cw_out h_j) rfl 5 (by decide) (hts (.fieldLink RX1 30 RX1 "priority" "I") (by decide +kernel)) (fun _ h9 => h9) rfl dX1_comesBefore_1 ?_
  refine lv_aload_n hx hb dX1_comesBefore_4 rfl (lv_at hl 1 rfl) ?_
  refine va_get (v := .int (σ 25 j0)) (D := (dC, dI)) (ci := 1) (C := RX1) (T := TX1) (N := 13) hx hb hts hin1 hown hK hP (6 + j0) (cw_out h_j0) rfl 5 (by decide) (hts (.fieldLink RX1 30 RX1 "priority" "I") (by decide +kernel)) (fun _ h9 => h9) rfl dX1_comesBefore_5 ?_
  refine lv_icmp_eq (tgt := 28) hx hb dX1_comesBefore_8 (by decide) (fun c1_ => ?_) (fun c1_ => ?_)
  · refine lv_aload_n hx hb dX1_comesBefore_28 rfl (lv_at hl 0 rfl) ?_
    refine va_get (v := .int (σ 21 j)) (D := (dC, dI)) (ci := 1) (C := RX1) (T := TX1) (N := 13) hx hb hts hin1 hown hK hP (6 + j) (cw_out h_j) rfl 1 (by decide) (hts (.fieldLink RX1 18 RX1 "job" "I") (by decide +kernel)) (fun _ h9 => h9) rfl dX1_comesBefore_29 ?_
    refine lv_aload_n hx hb dX1_comesBefore_32 rfl (lv_at hl 1 rfl) ?_
    refine va_get (v := .int (σ 21 j0)) (D := (dC, dI)) (ci := 1) (C := RX1) (T := TX1) (N := 13) hx hb hts hin1 hown hK hP (6 + j0) (cw_out h_j0) rfl 1 (by decide) (hts (.fieldLink RX1 18 RX1 "job" "I") (by decide +kernel)) (fun _ h9 => h9) rfl dX1_comesBefore_33 ?_
    refine lv_icmp_eq (tgt := 56) hx hb dX1_comesBefore_36 (by decide) (fun c2_ => ?_) (fun c2_ => ?_)
    · refine lv_aload_n hx hb dX1_comesBefore_56 rfl (lv_at hl 0 rfl) ?_
      refine va_get (v := .int (σ 20 j)) (D := (dC, dI)) (ci := 1) (C := RX1) (T := TX1) (N := 13) hx hb hts hin1 hown hK hP (6 + j) (cw_out h_j) rfl 0 (by decide) (hts (.fieldLink RX1 15 RX1 "number" "I") (by decide +kernel)) (fun _ h9 => h9) rfl dX1_comesBefore_57 ?_
      refine lv_aload_n hx hb dX1_comesBefore_60 rfl (lv_at hl 1 rfl) ?_
      refine va_get (v := .int (σ 20 j0)) (D := (dC, dI)) (ci := 1) (C := RX1) (T := TX1) (N := 13) hx hb hts hin1 hown hK hP (6 + j0) (cw_out h_j0) rfl 0 (by decide) (hts (.fieldLink RX1 15 RX1 "number" "I") (by decide +kernel)) (fun _ h9 => h9) rfl dX1_comesBefore_61 ?_
      refine lv_icmp_ge (tgt := 71) hx hb dX1_comesBefore_64 (by decide) (fun c3_ => ?_) (fun c3_ => ?_)
      · refine lv_iconst (v := 0) hx hb dX1_comesBefore_71 (by decide) ?_
        exact w_rz (v := 0) hx hb hr rfl hlocks dX1_comesBefore_72 (by unfold sO_comesBefore; rw [if_pos c1_, if_pos c2_, if_pos c3_] <;> rfl)
      · refine lv_iconst (v := 1) hx hb dX1_comesBefore_67 (by decide) ?_
        refine lv_goto (tgt := 72) hx hb dX1_comesBefore_68 (by decide) ?_
        exact w_rz (v := 1) hx hb hr rfl hlocks dX1_comesBefore_72 (by unfold sO_comesBefore; rw [if_pos c1_, if_pos c2_, if_neg c3_] <;> rfl)
    · refine lv_aload_n hx hb dX1_comesBefore_39 rfl (lv_at hl 0 rfl) ?_
      refine va_get (v := .int (σ 21 j)) (D := (dC, dI)) (ci := 1) (C := RX1) (T := TX1) (N := 13) hx hb hts hin1 hown hK hP (6 + j) (cw_out h_j) rfl 1 (by decide) (hts (.fieldLink RX1 18 RX1 "job" "I") (by decide +kernel)) (fun _ h9 => h9) rfl dX1_comesBefore_40 ?_
      refine lv_aload_n hx hb dX1_comesBefore_43 rfl (lv_at hl 1 rfl) ?_
      refine va_get (v := .int (σ 21 j0)) (D := (dC, dI)) (ci := 1) (C := RX1) (T := TX1) (N := 13) hx hb hts hin1 hown hK hP (6 + j0) (cw_out h_j0) rfl 1 (by decide) (hts (.fieldLink RX1 18 RX1 "job" "I") (by decide +kernel)) (fun _ h9 => h9) rfl dX1_comesBefore_44 ?_
      refine lv_icmp_ge (tgt := 54) hx hb dX1_comesBefore_47 (by decide) (fun c4_ => ?_) (fun c4_ => ?_)
      · refine lv_iconst (v := 0) hx hb dX1_comesBefore_54 (by decide) ?_
        exact w_rz (v := 0) hx hb hr rfl hlocks dX1_comesBefore_55 (by unfold sO_comesBefore; rw [if_pos c1_, if_neg c2_, if_pos c4_] <;> rfl)
      · refine lv_iconst (v := 1) hx hb dX1_comesBefore_50 (by decide) ?_
        refine lv_goto (tgt := 55) hx hb dX1_comesBefore_51 (by decide) ?_
        exact w_rz (v := 1) hx hb hr rfl hlocks dX1_comesBefore_55 (by unfold sO_comesBefore; rw [if_pos c1_, if_neg c2_, if_neg c4_] <;> rfl)
  · refine lv_aload_n hx hb dX1_comesBefore_11 rfl (lv_at hl 0 rfl) ?_
    refine va_get (v := .int (σ 25 j)) (D := (dC, dI)) (ci := 1) (C := RX1) (T := TX1) (N := 13) hx hb hts hin1 hown hK hP (6 + j) (cw_out h_j) rfl 5 (by decide) (hts (.fieldLink RX1 30 RX1 "priority" "I") (by decide +kernel)) (fun _ h9 => h9) rfl dX1_comesBefore_12 ?_
    refine lv_aload_n hx hb dX1_comesBefore_15 rfl (lv_at hl 1 rfl) ?_
    refine va_get (v := .int (σ 25 j0)) (D := (dC, dI)) (ci := 1) (C := RX1) (T := TX1) (N := 13) hx hb hts hin1 hown hK hP (6 + j0) (cw_out h_j0) rfl 5 (by decide) (hts (.fieldLink RX1 30 RX1 "priority" "I") (by decide +kernel)) (fun _ h9 => h9) rfl dX1_comesBefore_16 ?_
    refine lv_icmp_le (tgt := 26) hx hb dX1_comesBefore_19 (by decide) (fun c5_ => ?_) (fun c5_ => ?_)
    · refine lv_iconst (v := 0) hx hb dX1_comesBefore_26 (by decide) ?_
      exact w_rz (v := 0) hx hb hr rfl hlocks dX1_comesBefore_27 (by unfold sO_comesBefore; rw [if_neg c1_, if_pos c5_] <;> rfl)
    · refine lv_iconst (v := 1) hx hb dX1_comesBefore_22 (by decide) ?_
      refine lv_goto (tgt := 27) hx hb dX1_comesBefore_23 (by decide) ?_
      exact w_rz (v := 1) hx hb hr rfl hlocks dX1_comesBefore_27 (by unfold sO_comesBefore; rw [if_neg c1_, if_neg c5_] <;> rfl)
set_option maxHeartbeats 4000000 in
set_option maxRecDepth 100000 in
theorem c_W_suits (l : Launch) (dC : Nat → ClassId) (dI : Nat → Nat → Nat) (cI cZ cO cW : ClassId) (z : Nat) (X : va_W) (h : Nat) (adr ad wd : Nat → Nat) (nO nW : Nat) (σ : T2) (w : Nat) (j0 : Nat) (h_w : w < nW) (h_j0 : j0 < nO) : Met l yX2_suits wsX2_suits ({ frames := 0, cells := 0, slots := 0, locals := 0 }) (wPc (dC, dI) (tyL cI cZ cO cW) z [.ref (wd w), .ref (ad j0)] (cWd h adr ad wd nO nW cI cO cW σ ++ X)) (vp_Si (fun r => r = sW_suits σ w j0)) 0 0 (fun _ => False) := by
  refine en_met (cc := cX2_suits) (maxL := 2) (ret := (some .boolean)) (by decide) rfl (Nat.le_of_ble_eq_true rfl) ?_
  intro p e s m below meth c ls hx hb hml hr hts hown hlocks hnm hv hl
  obtain ⟨hz, hP, hK, hD⟩ := hv
  have hown : s.vm.findClass RX2 = some m.cls := hown
  have hS : va_S (fun q : Nat => z ≤ q) s.heap s.heap [] := va_S.rf
  have hin1 : ∀ w ∈ wsX10, w ∈ wsX2_suits := by decide +kernel
  have hin2 : ∀ w ∈ wsX20, w ∈ wsX2_suits := by decide +kernel
  have hl : lv_has ls 2 [(0, .ref (wd w)), (1, .ref (ad j0))] := hl
  refine lv_aload_n hx hb dX2_suits_0 rfl (lv_at hl 0 rfl) ?_
  refine va_get (v := .int (σ 40 w)) (D := (dC, dI)) (ci := 2) (C := RX2) (T := TX2) (N := 3) hx hb hts hin2 hown hK hP (6 + nO + w) (cw_wr h_w) rfl 0 (by decide) (hts (.fieldLink RX2 9 RX2 "kind" "I") (by decide +kernel)) (fun _ h9 => h9) rfl dX2_suits_1 ?_
  refine lv_bipush (v := 8) hx hb dX2_suits_4 (by decide) ?_
  refine lv_icmp_eq (tgt := 20) hx hb dX2_suits_6 (by decide) (fun c1_ => ?_) (fun c1_ => ?_)
  · refine lv_aload_n hx hb dX2_suits_20 rfl (lv_at hl 0 rfl) ?_
    refine va_get (v := .int (σ 41 w)) (D := (dC, dI)) (ci := 2) (C := RX2) (T := TX2) (N := 3) hx hb hts hin2 hown hK hP (6 + nO + w) (cw_wr h_w) rfl 1 (by decide) (hts (.fieldLink RX2 15 RX2 "destination" "I") (by decide +kernel)) (fun _ h9 => h9) rfl dX2_suits_21 ?_
    refine lv_iconst (v := (-1)) hx hb dX2_suits_24 (by decide) ?_
    refine lv_icmp_eq (tgt := 39) hx hb dX2_suits_25 (by decide) (fun c2_ => ?_) (fun c2_ => ?_)
    · refine lv_iconst (v := 1) hx hb dX2_suits_39 (by decide) ?_
      refine lv_goto (tgt := 44) hx hb dX2_suits_40 (by decide) ?_
      exact w_rz (v := 1) hx hb hr rfl hlocks dX2_suits_44 (by unfold sW_suits; rw [if_pos c1_, if_pos c2_] <;> rfl)
    · refine lv_aload_n hx hb dX2_suits_28 rfl (lv_at hl 0 rfl) ?_
      refine va_get (v := .int (σ 41 w)) (D := (dC, dI)) (ci := 2) (C := RX2) (T := TX2) (N := 3) hx hb hts hin2 hown hK hP (6 + nO + w) (cw_wr h_w) rfl 1 (by decide) (hts (.fieldLink RX2 15 RX2 "destination" "I") (by decide +kernel)) (fun _ h9 => h9) rfl dX2_suits_29 ?_
      refine lv_aload_n hx hb dX2_suits_32 rfl (lv_at hl 1 rfl) ?_
      refine va_get (v := .int (σ 24 j0)) (D := (dC, dI)) (ci := 1) (C := RX1) (T := TX1) (N := 13) hx hb hts hin1 hown hK hP (6 + j0) (cw_out h_j0) rfl 4 (by decide) (hts (.fieldLink RX2 21 RX1 "destination" "I") (by decide +kernel)) (fun _ h9 => h9) rfl dX2_suits_33 ?_
      refine lv_icmp_ne (tgt := 43) hx hb dX2_suits_36 (by decide) (fun c3_ => ?_) (fun c3_ => ?_)
      · refine lv_iconst (v := 0) hx hb dX2_suits_43 (by decide) ?_
        exact w_rz (v := 0) hx hb hr rfl hlocks dX2_suits_44 (by unfold sW_suits; rw [if_pos c1_, if_neg c2_, if_neg c3_] <;> rfl)
      · refine lv_iconst (v := 1) hx hb dX2_suits_39 (by decide) ?_
        refine lv_goto (tgt := 44) hx hb dX2_suits_40 (by decide) ?_
        exact w_rz (v := 1) hx hb hr rfl hlocks dX2_suits_44 (by unfold sW_suits; rw [if_pos c1_, if_neg c2_, if_pos c3_] <;> rfl)
  · refine lv_aload_n hx hb dX2_suits_9 rfl (lv_at hl 0 rfl) ?_
    refine va_get (v := .int (σ 40 w)) (D := (dC, dI)) (ci := 2) (C := RX2) (T := TX2) (N := 3) hx hb hts hin2 hown hK hP (6 + nO + w) (cw_wr h_w) rfl 0 (by decide) (hts (.fieldLink RX2 9 RX2 "kind" "I") (by decide +kernel)) (fun _ h9 => h9) rfl dX2_suits_10 ?_
    refine lv_aload_n hx hb dX2_suits_13 rfl (lv_at hl 1 rfl) ?_
    refine va_get (v := .int (σ 22 j0)) (D := (dC, dI)) (ci := 1) (C := RX1) (T := TX1) (N := 13) hx hb hts hin1 hown hK hP (6 + j0) (cw_out h_j0) rfl 2 (by decide) (hts (.fieldLink RX2 18 RX1 "kind" "I") (by decide +kernel)) (fun _ h9 => h9) rfl dX2_suits_14 ?_
    refine lv_icmp_ne (tgt := 43) hx hb dX2_suits_17 (by decide) (fun c4_ => ?_) (fun c4_ => ?_)
    · refine lv_iconst (v := 0) hx hb dX2_suits_43 (by decide) ?_
      exact w_rz (v := 0) hx hb hr rfl hlocks dX2_suits_44 (by unfold sW_suits; rw [if_neg c1_, if_neg c4_] <;> rfl)
    · refine lv_aload_n hx hb dX2_suits_20 rfl (lv_at hl 0 rfl) ?_
      refine va_get (v := .int (σ 41 w)) (D := (dC, dI)) (ci := 2) (C := RX2) (T := TX2) (N := 3) hx hb hts hin2 hown hK hP (6 + nO + w) (cw_wr h_w) rfl 1 (by decide) (hts (.fieldLink RX2 15 RX2 "destination" "I") (by decide +kernel)) (fun _ h9 => h9) rfl dX2_suits_21 ?_
      refine lv_iconst (v := (-1)) hx hb dX2_suits_24 (by decide) ?_
      refine lv_icmp_eq (tgt := 39) hx hb dX2_suits_25 (by decide) (fun c5_ => ?_) (fun c5_ => ?_)
      · refine lv_iconst (v := 1) hx hb dX2_suits_39 (by decide) ?_
        refine lv_goto (tgt := 44) hx hb dX2_suits_40 (by decide) ?_
        exact w_rz (v := 1) hx hb hr rfl hlocks dX2_suits_44 (by unfold sW_suits; rw [if_neg c1_, if_pos c4_, if_pos c5_] <;> rfl)
      · refine lv_aload_n hx hb dX2_suits_28 rfl (lv_at hl 0 rfl) ?_
        refine va_get (v := .int (σ 41 w)) (D := (dC, dI)) (ci := 2) (C := RX2) (T := TX2) (N := 3) hx hb hts hin2 hown hK hP (6 + nO + w) (cw_wr h_w) rfl 1 (by decide) (hts (.fieldLink RX2 15 RX2 "destination" "I") (by decide +kernel)) (fun _ h9 => h9) rfl dX2_suits_29 ?_
        refine lv_aload_n hx hb dX2_suits_32 rfl (lv_at hl 1 rfl) ?_
        refine va_get (v := .int (σ 24 j0)) (D := (dC, dI)) (ci := 1) (C := RX1) (T := TX1) (N := 13) hx hb hts hin1 hown hK hP (6 + j0) (cw_out h_j0) rfl 4 (by decide) (hts (.fieldLink RX2 21 RX1 "destination" "I") (by decide +kernel)) (fun _ h9 => h9) rfl dX2_suits_33 ?_
        refine lv_icmp_ne (tgt := 43) hx hb dX2_suits_36 (by decide) (fun c6_ => ?_) (fun c6_ => ?_)
        · refine lv_iconst (v := 0) hx hb dX2_suits_43 (by decide) ?_
          exact w_rz (v := 0) hx hb hr rfl hlocks dX2_suits_44 (by unfold sW_suits; rw [if_neg c1_, if_pos c4_, if_neg c5_, if_neg c6_] <;> rfl)
        · refine lv_iconst (v := 1) hx hb dX2_suits_39 (by decide) ?_
          refine lv_goto (tgt := 44) hx hb dX2_suits_40 (by decide) ?_
          exact w_rz (v := 1) hx hb hr rfl hlocks dX2_suits_44 (by unfold sW_suits; rw [if_neg c1_, if_pos c4_, if_neg c5_, if_pos c6_] <;> rfl)
set_option maxHeartbeats 4000000 in
set_option maxRecDepth 100000 in
theorem c_O_takeSettingsOf (l : Launch) (dC : Nat → ClassId) (dI : Nat → Nat → Nat) (cI cZ cO cW : ClassId) (z : Nat) (X : va_W) (h : Nat) (adr ad wd : Nat → Nat) (nO nW : Nat) (σ : T2) (j : Nat) (j0 : Nat) (h_j : j < nO) (h_j0 : j0 < nO) (hb30 : σ 30 j0 = 0 ∨ σ 30 j0 = 1) (hb27 : σ 27 j0 = 0 ∨ σ 27 j0 = 1) : Met l yX1_takeSettingsOf wsX1_takeSettingsOf ({ frames := 0, cells := 0, slots := 0, locals := 0 }) (wPc (dC, dI) (tyL cI cZ cO cW) z [.ref (ad j), .ref (ad j0)] (cWd h adr ad wd nO nW cI cO cW σ ++ X)) (wQv (dC, dI) z (fun u : T2 => cWd h adr ad wd nO nW cI cO cW u ++ X) (fun u => u = sO_takeSettingsOf σ j j0)) 0 0 (fun q => z ≤ q) := by
  refine en_met (cc := cX1_takeSettingsOf) (maxL := 2) (ret := none) (by decide) rfl (Nat.le_of_ble_eq_true rfl) ?_
  intro p e s m below meth c ls hx hb hml hr hts hown hlocks hnm hv hl
  obtain ⟨hz, hP, hK, hD⟩ := hv
  have hown : s.vm.findClass RX1 = some m.cls := hown
  have hS : va_S (fun q : Nat => z ≤ q) s.heap s.heap [] := va_S.rf
  have hin1 : ∀ w ∈ wsX10, w ∈ wsX1_takeSettingsOf := by decide +kernel
  have hl : lv_has ls 2 [(0, .ref (ad j)), (1, .ref (ad j0))] := hl
  refine lv_aload_n hx hb dX1_takeSettingsOf_0 rfl (lv_at hl 0 rfl) ?_
  refine lv_aload_n hx hb dX1_takeSettingsOf_1 rfl (lv_at hl 1 rfl) ?_
  refine va_get (v := .int (σ 24 j0)) (D := (dC, dI)) (ci := 1) (C := RX1) (T := TX1) (N := 13) hx hb hts hin1 hown hK hP (6 + j0) (cw_out h_j0) rfl 4 (by decide) (hts (.fieldLink RX1 27 RX1 "destination" "I") (by decide +kernel)) (fun _ h9 => h9) rfl dX1_takeSettingsOf_2 ?_
  refine va_put (D := (dC, dI)) (ci := 1) (v := .int (σ 24 j0)) (ty := .int) (C := RX1) (T := TX1) (N := 13) hx hb hts hin1 tyX1 tyX1_ok nmX1 hown hK hP hD hS (6 + j) (cw_out h_j) rfl 4 (by decide) (hts (.fieldLink RX1 27 RX1 "destination" "I") (by decide +kernel)) (fun _ h9 => h9) rfl (by decide +kernel) rfl rfl (Nat.le_of_ble_eq_true rfl) dX1_takeSettingsOf_5 (fun H locs hP hD hS => ?_)
  have hP : va_P (dC, dI) vwCl (cWd h adr ad wd nO nW cI cO cW (upd2 σ 24 j (σ 24 j0)) ++ X) H := by rw [← cw_set_out (k := 4) rfl (by decide) h_j]; exact hP
  have hD : va_D (fun q : Nat => z ≤ q) (cWd h adr ad wd nO nW cI cO cW (upd2 σ 24 j (σ 24 j0)) ++ X) := by rw [← cw_set_out (k := 4) rfl (by decide) h_j]; exact hD
  refine lv_aload_n hx hb dX1_takeSettingsOf_8 rfl (lv_at hl 0 rfl) ?_
  refine lv_aload_n hx hb dX1_takeSettingsOf_9 rfl (lv_at hl 1 rfl) ?_
  refine va_get (v := .int (σ 25 j0)) (D := (dC, dI)) (ci := 1) (C := RX1) (T := TX1) (N := 13) hx hb hts hin1 hown hK hP (6 + j0) (cw_out h_j0) rfl 5 (by decide) (hts (.fieldLink RX1 30 RX1 "priority" "I") (by decide +kernel)) (fun _ h9 => h9) rfl dX1_takeSettingsOf_10 ?_
  refine va_put (D := (dC, dI)) (ci := 1) (v := .int (σ 25 j0)) (ty := .int) (C := RX1) (T := TX1) (N := 13) hx hb hts hin1 tyX1 tyX1_ok nmX1 hown hK hP hD hS (6 + j) (cw_out h_j) rfl 5 (by decide) (hts (.fieldLink RX1 30 RX1 "priority" "I") (by decide +kernel)) (fun _ h9 => h9) rfl (by decide +kernel) rfl rfl (Nat.le_of_ble_eq_true rfl) dX1_takeSettingsOf_13 (fun H locs hP hD hS => ?_)
  have hP : va_P (dC, dI) vwCl (cWd h adr ad wd nO nW cI cO cW (upd2 (upd2 σ 24 j (σ 24 j0)) 25 j (σ 25 j0)) ++ X) H := by rw [← cw_set_out (k := 5) rfl (by decide) h_j]; exact hP
  have hD : va_D (fun q : Nat => z ≤ q) (cWd h adr ad wd nO nW cI cO cW (upd2 (upd2 σ 24 j (σ 24 j0)) 25 j (σ 25 j0)) ++ X) := by rw [← cw_set_out (k := 5) rfl (by decide) h_j]; exact hD
  refine lv_aload_n hx hb dX1_takeSettingsOf_16 rfl (lv_at hl 0 rfl) ?_
  refine lv_aload_n hx hb dX1_takeSettingsOf_17 rfl (lv_at hl 1 rfl) ?_
  refine va_get (v := .int (σ 29 j0)) (D := (dC, dI)) (ci := 1) (C := RX1) (T := TX1) (N := 13) hx hb hts hin1 hown hK hP (6 + j0) (cw_out h_j0) rfl 9 (by decide) (hts (.fieldLink RX1 33 RX1 "limit" "I") (by decide +kernel)) (fun _ h9 => h9) rfl dX1_takeSettingsOf_18 ?_
  refine va_put (D := (dC, dI)) (ci := 1) (v := .int (σ 29 j0)) (ty := .int) (C := RX1) (T := TX1) (N := 13) hx hb hts hin1 tyX1 tyX1_ok nmX1 hown hK hP hD hS (6 + j) (cw_out h_j) rfl 9 (by decide) (hts (.fieldLink RX1 33 RX1 "limit" "I") (by decide +kernel)) (fun _ h9 => h9) rfl (by decide +kernel) rfl rfl (Nat.le_of_ble_eq_true rfl) dX1_takeSettingsOf_21 (fun H locs hP hD hS => ?_)
  have hP : va_P (dC, dI) vwCl (cWd h adr ad wd nO nW cI cO cW (upd2 (upd2 (upd2 σ 24 j (σ 24 j0)) 25 j (σ 25 j0)) 29 j (σ 29 j0)) ++ X) H := by rw [← cw_set_out (k := 9) rfl (by decide) h_j]; exact hP
  have hD : va_D (fun q : Nat => z ≤ q) (cWd h adr ad wd nO nW cI cO cW (upd2 (upd2 (upd2 σ 24 j (σ 24 j0)) 25 j (σ 25 j0)) 29 j (σ 29 j0)) ++ X) := by rw [← cw_set_out (k := 9) rfl (by decide) h_j]; exact hD
  refine lv_aload_n hx hb dX1_takeSettingsOf_24 rfl (lv_at hl 0 rfl) ?_
  refine lv_aload_n hx hb dX1_takeSettingsOf_25 rfl (lv_at hl 1 rfl) ?_
  refine va_get (v := .int (σ 30 j0)) (D := (dC, dI)) (ci := 1) (C := RX1) (T := TX1) (N := 13) hx hb hts hin1 hown hK hP (6 + j0) (cw_out h_j0) rfl 10 (by decide) (hts (.fieldLink RX1 36 RX1 "limitEnds" "Z") (by decide +kernel)) (fun _ h9 => h9) rfl dX1_takeSettingsOf_26 ?_
  refine va_put (D := (dC, dI)) (ci := 1) (v := .int (σ 30 j0)) (ty := .boolean) (C := RX1) (T := TX1) (N := 13) hx hb hts hin1 tyX1 tyX1_ok nmX1 hown hK hP hD hS (6 + j) (cw_out h_j) rfl 10 (by decide) (hts (.fieldLink RX1 36 RX1 "limitEnds" "Z") (by decide +kernel)) (fun _ h9 => h9) rfl (by decide +kernel) (nb_of hb30) (fb_of hb30) (Nat.le_of_ble_eq_true rfl) dX1_takeSettingsOf_29 (fun H locs hP hD hS => ?_)
  have hP : va_P (dC, dI) vwCl (cWd h adr ad wd nO nW cI cO cW (upd2 (upd2 (upd2 (upd2 σ 24 j (σ 24 j0)) 25 j (σ 25 j0)) 29 j (σ 29 j0)) 30 j (σ 30 j0)) ++ X) H := by rw [← cw_set_out (k := 10) rfl (by decide) h_j]; exact hP
  have hD : va_D (fun q : Nat => z ≤ q) (cWd h adr ad wd nO nW cI cO cW (upd2 (upd2 (upd2 (upd2 σ 24 j (σ 24 j0)) 25 j (σ 25 j0)) 29 j (σ 29 j0)) 30 j (σ 30 j0)) ++ X) := by rw [← cw_set_out (k := 10) rfl (by decide) h_j]; exact hD
  refine lv_aload_n hx hb dX1_takeSettingsOf_32 rfl (lv_at hl 0 rfl) ?_
  refine lv_aload_n hx hb dX1_takeSettingsOf_33 rfl (lv_at hl 1 rfl) ?_
  refine va_get (v := .int (σ 27 j0)) (D := (dC, dI)) (ci := 1) (C := RX1) (T := TX1) (N := 13) hx hb hts hin1 hown hK hP (6 + j0) (cw_out h_j0) rfl 7 (by decide) (hts (.fieldLink RX1 40 RX1 "held" "Z") (by decide +kernel)) (fun _ h9 => h9) rfl dX1_takeSettingsOf_34 ?_
  refine va_put (D := (dC, dI)) (ci := 1) (v := .int (σ 27 j0)) (ty := .boolean) (C := RX1) (T := TX1) (N := 13) hx hb hts hin1 tyX1 tyX1_ok nmX1 hown hK hP hD hS (6 + j) (cw_out h_j) rfl 7 (by decide) (hts (.fieldLink RX1 40 RX1 "held" "Z") (by decide +kernel)) (fun _ h9 => h9) rfl (by decide +kernel) (nb_of hb27) (fb_of hb27) (Nat.le_of_ble_eq_true rfl) dX1_takeSettingsOf_37 (fun H locs hP hD hS => ?_)
  have hP : va_P (dC, dI) vwCl (cWd h adr ad wd nO nW cI cO cW (upd2 (upd2 (upd2 (upd2 (upd2 σ 24 j (σ 24 j0)) 25 j (σ 25 j0)) 29 j (σ 29 j0)) 30 j (σ 30 j0)) 27 j (σ 27 j0)) ++ X) H := by rw [← cw_set_out (k := 7) rfl (by decide) h_j]; exact hP
  have hD : va_D (fun q : Nat => z ≤ q) (cWd h adr ad wd nO nW cI cO cW (upd2 (upd2 (upd2 (upd2 (upd2 σ 24 j (σ 24 j0)) 25 j (σ 25 j0)) 29 j (σ 29 j0)) 30 j (σ 30 j0)) 27 j (σ 27 j0)) ++ X) := by rw [← cw_set_out (k := 7) rfl (by decide) h_j]; exact hD
  exact w_vret (u := upd2 (upd2 (upd2 (upd2 (upd2 σ 24 j (σ 24 j0)) 25 j (σ 25 j0)) 29 j (σ 29 j0)) 30 j (σ 30 j0)) 27 j (σ 27 j0)) hx hb hr hlocks hP hD hS dX1_takeSettingsOf_40 (by unfold sO_takeSettingsOf; rfl)
