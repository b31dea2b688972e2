/-! the calls: equal answers, and the states stay side by side -/
def osN (x : Int32) : Int32 := if x = 1 then 1 else if x = 2 then 1 else 0
theorem sM_still_eq (τ : T2) (p : Int32) : sM_isStill τ p = osN (τ 6 p.toNatClampNeg) := rfl
theorem sO_open_eq (σ : T2) (j : Nat) : sO_isOpenOrReleased σ j = osN (σ 26 j) := rfl
theorem os_gv {x : Int32} (h : ¬ osN x = 0) : gvN x = 0 := by
  unfold osN at h
  by_cases h1 : x = 1
  · subst h1; rfl
  · rw [if_neg h1] at h
    by_cases h2 : x = 2
    · subst h2; rfl
    · rw [if_neg h2] at h; exact absurd rfl h
theorem i_ssub {a b : Int32} : a - (a - b) = b := by rw [Int32.sub_eq_iff_eq_add, Int32.add_comm, Int32.sub_add_cancel]
theorem st_limit {k nO nW : Nat} {σ τ : T2} (h : Sim k nO nW σ τ) (hk : k < 512) (p0 p1 p2 : Int32) (hp2 : p2 = 0 ∨ p2 = 1) : Same (k + 1) nO nW (sC_limit σ p0 p1 p2) (sM_limit τ p0 p1 p2) := by
  unfold sC_limit sM_limit
  rcases h.out (by omega) p0 with ⟨h1, h2⟩ | ⟨j, hj, -, h1, h2, e1, e2⟩
  · rw [if_pos h1, if_pos h2]; exact same_of h.mono
  · rw [if_neg h1, if_neg h2]
    by_cases h3 : 0 ≤ p1
    · rw [if_pos h3, if_pos h3, sM_gone_eq, sO_gone_eq, e1, e2, nar_b hp2, (h.2.1 j hj).2.2.2.2.2.2.1]
      by_cases h4 : gvN (τ 6 (j + 1)) = 0
      · rw [if_pos h4, if_pos h4]
        obtain ⟨hA, hB, hC, hD, hE, hF, hG, hH, hIs, hJ⟩ := h
        have er : ∀ g o, o ≠ j + 1 → (upd2 (upd2 τ 8 (j + 1) p1) 10 (j + 1) p2) g o = τ g o := fun g o ho => by rw [upd2_row ho, upd2_row ho]
        refine same_of ⟨SA_c (by omega) hA rfl rfl rfl rfl, ?_, SC_row hC hj er, SD_row (by omega) hD er (by rw [upd2_at]; exact hp2) (hD _).2.1 (SD7 (by omega) hD _), SE_c hE rfl rfl rfl, SF_c hF rfl rfl rfl, SG_c hG rfl rfl rfl rfl rfl, SH_c (by omega) hH rfl rfl rfl rfl, SI_c hIs rfl rfl rfl rfl, SJ_c (by omega) hJ rfl rfl rfl rfl rfl rfl⟩
        intro i hi
        have b := hB i hi
        by_cases e : i = j
        · subst e; simp [upd2_get, b]
        · simp [upd2_get, e, b]
      · rw [if_neg h4, if_neg h4]; exact same_of h.mono
    · rw [if_neg h3, if_neg h3]; exact same_of h.mono
theorem st_hold {k nO nW : Nat} {σ τ : T2} (h : Sim k nO nW σ τ) (hk : k < 512) (p0 p1 : Int32) (hp1 : p1 = 0 ∨ p1 = 1) : Same (k + 1) nO nW (sC_hold σ p0 p1) (sM_hold τ p0 p1) := by
  unfold sC_hold sM_hold
  rcases h.out (by omega) p0 with ⟨h1, h2⟩ | ⟨j, hj, -, h1, h2, e1, e2⟩
  · rw [if_pos h1, if_pos h2]; exact same_of h.mono
  · rw [if_neg h1, if_neg h2, sM_still_eq, sO_open_eq, e1, e2, nar_b hp1, (h.2.1 j hj).2.2.2.2.2.2.1, (h.2.1 j hj).2.2.2.2.2.2.2.1]
    by_cases h4 : osN (τ 6 (j + 1)) = 0
    · rw [if_pos h4, if_pos h4]; exact same_of h.mono
    · rw [if_neg h4, if_neg h4]
      have hs : Sim (k + 1) nO nW (upd2 σ 27 j p1) (upd2 τ 11 (j + 1) p1) := by
        obtain ⟨hA, hB, hC, hD, hE, hF, hG, hH, hIs, hJ⟩ := h
        have er : ∀ g o, o ≠ j + 1 → (upd2 τ 11 (j + 1) p1) g o = τ g o := fun g o ho => by rw [upd2_row ho]
        refine ⟨SA_c (by omega) hA rfl rfl rfl rfl, ?_, SC_row hC hj er, SD_row (by omega) hD er (hD _).1 (by rw [upd2_at]; exact hp1) (SD7 (by omega) hD _), SE_c hE rfl rfl rfl, SF_c hF rfl rfl rfl, SG_c hG rfl rfl rfl rfl rfl, SH_c (by omega) hH rfl rfl rfl rfl, SI_c hIs rfl rfl rfl rfl, SJ_c (by omega) hJ rfl rfl rfl rfl rfl rfl⟩
        intro i hi
        have b := hB i hi
        by_cases e : i = j
        · subst e; simp [upd2_get, b]
        · simp [upd2_get, e, b]
      by_cases h5 : τ 11 (j + 1) = 0
      · rw [if_pos h5, if_pos h5]; exact same_of hs
      · rw [if_neg h5, if_neg h5]; exact same_of hs
theorem st_route {k nO nW : Nat} {σ τ : T2} (h : Sim k nO nW σ τ) (hk : k < 512) (p0 p1 : Int32) : Same (k + 1) nO nW (sC_route σ p0 p1) (sM_route τ p0 p1) := by
  unfold sC_route sM_route
  rcases h.out (by omega) p0 with ⟨h1, h2⟩ | ⟨j, hj, -, h1, h2, e1, e2⟩
  · rw [if_pos h1, if_pos h2]; exact same_of h.mono
  · rw [if_neg h1, if_neg h2]
    by_cases h3 : p1 < 0
    · rw [if_pos h3, if_pos (iw_lo h3)]; exact same_of h.mono
    · rw [if_neg h3]
      by_cases h6 : p1 ≤ 63
      · rw [if_pos h6, if_neg (by rw [iw_ok h3 (i_nle h6)]; decide), sM_still_eq, sO_open_eq, e1, e2, (h.2.1 j hj).2.2.2.2.2.2.1, (h.2.1 j hj).2.2.2.2.1, (h.2.1 j hj).2.2.2.2.2.1]
        by_cases h4 : osN (τ 6 (j + 1)) = 0
        · rw [if_pos h4, if_pos h4]; exact same_of h.mono
        · rw [if_neg h4, if_neg h4, Int32.mul_comm 8]
          obtain ⟨hA, hB, hC, hD, hE, hF, hG, hH, hIs, hJ⟩ := h
          refine same_of ⟨SA_c (by omega) hA rfl rfl rfl rfl, ?_, SC_c hC rfl rfl rfl rfl rfl rfl, SD_c (by omega) hD rfl rfl rfl, SE_c hE rfl rfl rfl, SF_c hF rfl rfl rfl, SG_c hG rfl rfl rfl rfl rfl, SH_c (by omega) hH rfl rfl rfl rfl, SI_c hIs rfl rfl rfl rfl, SJ_c (by omega) hJ rfl rfl rfl rfl rfl rfl⟩
          intro i hi
          have b := hB i hi
          by_cases e : i = j
          · subst e; simp [upd2_get, b]
          · simp [upd2_get, e, b]
      · rw [if_neg h6, if_pos (iw_hi (i_nlt h6))]; exact same_of h.mono
theorem st_purge {k nO nW : Nat} {σ τ : T2} (h : Sim k nO nW σ τ) (hk : k < 512) (p0 : Int32) : Same (k + 1) nO nW (sC_purge σ p0) (sM_purge τ p0) := by
  unfold sC_purge sM_purge
  rcases h.out (by omega) p0 with ⟨h1, h2⟩ | ⟨j, hj, ep, h1, h2, e1, e2⟩
  · rw [if_pos h1, if_pos h2]; exact same_of h.mono
  · rw [if_neg h1, if_neg h2, sM_gone_eq, sO_gone_eq, e1, e2, (h.2.1 j hj).2.2.2.2.2.2.1]
    by_cases h4 : gvN (τ 6 (j + 1)) = 0
    · rw [if_pos h4, if_pos h4]
      by_cases h5 : τ 6 (j + 1) = 3
      · rw [if_pos h5, if_pos h5, show vp_nar .boolean 1 = 1 from rfl]
        obtain ⟨hA, hB, hC, hD, hE, hF, hG, hH, hIs, hJ⟩ := h
        refine same_of ⟨SA_c (by omega) hA rfl rfl rfl rfl, ?_, SC_row hC hj (fun g o ho => by rw [upd2_row ho]), SD_c (by omega) hD rfl rfl rfl, SE_c hE rfl rfl rfl, SF_c hF rfl rfl rfl, SG_c hG rfl rfl rfl rfl rfl, SH_c (by omega) hH rfl rfl rfl rfl, SI_c hIs rfl rfl rfl rfl, SJ_c (by omega) hJ rfl rfl rfl rfl rfl rfl⟩
        intro i hi
        have b := hB i hi
        by_cases e : i = j
        · subst e; simp [upd2_get, b]
        · simp [upd2_get, e, b]
      · rw [if_neg h5, if_neg h5, ep]
        exact same_of (h.go (by omega) hj gvN_5 h4 (h.free_of (by omega) hj h5)).mono
    · rw [if_neg h4, if_neg h4]; exact same_of h.mono
theorem st_cut {k nO nW : Nat} {σ τ : T2} (h : Sim k nO nW σ τ) (hk : k < 512) (p0 : Int32) : Same (k + 1) nO nW (sC_cut σ p0) (sM_cut τ p0) := by
  unfold sC_cut sM_cut
  rcases h.wr p0 with ⟨h1, h2⟩ | ⟨w, hw, ep, h1, h2, e1, e2⟩
  · rw [if_pos h1, if_pos h2]; exact same_of h.mono
  · rw [if_neg h1, if_neg h2, e1, e2]
    obtain ⟨f0, f1⟩ := h.2.2.2.2.2.1.1 w hw
    have hnO := h.1.2.2.1
    rw [f0]
    rcases f1 with f1 | ⟨j, hj, f1, f3⟩
    · rw [if_pos f1, if_pos f1]; exact same_of h.mono
    · have h18 : ¬ τ 18 (w + 1) = 0 := by rw [f1]; exact nI_ne0 (by omega) (by omega)
      rw [if_neg h18, if_neg h18, f1, nI_back (by omega), nI_clamp (by omega)]
      have b := h.2.1 j hj
      have b31 := b.2.2.2.2.2.2.2.2.2.2.2.1
      have b32 := b.2.2.2.2.2.2.2.2.2.2.2.2
      have hl : sO_lastCheckpoint σ j = τ 9 (j + 1) / 4 * 4 := by
        unfold sO_lastCheckpoint
        rw [b31, i_ssub]
      rw [hl, b31, b32, h.2.2.2.2.2.2.2.2.1.2]
      by_cases h5 : τ 12 (j + 1) = 0
      · rw [if_pos h5, if_pos h5]
        exact same_of (h.ag hj).mono
      · rw [if_neg h5, if_neg h5]
        refine same_of ?_
        have h6 := (h.idle hw).go (x := 5) (by omega) hj gvN_5 (by show gvN (τ 6 (j + 1)) = 0; rw [f3]; rfl) (fun v hv q => ?_)
        · have h7 : upd2 (sM_goes τ (nI (j + 1)) 5) 18 (w + 1) 0 = sM_goes (upd2 τ 18 (w + 1) 0) (nI (j + 1)) 5 := by
            unfold sM_goes
            rw [upd2_comm (f := 11) (g := 18) (by decide), upd2_comm (f := 6) (g := 18) (by decide)]
          rw [h7]
          exact h6.mono
        · by_cases e : v = w
          · rw [e, upd2_at] at q
            exact nI_ne0 (n := j + 1) (by omega) (by omega) q.symm
          · rw [upd2_off (by omega)] at q
            have := h.2.2.2.2.2.1.2.2.2 v w hv hw e (q.trans f1.symm)
            rw [this] at q
            exact nI_ne0 (n := j + 1) (by omega) (by omega) q.symm
theorem ii_le {x y : Int32} : ¬ x < y ↔ y ≤ x := by
  rw [Int32.lt_iff_toInt_lt, Int32.le_iff_toInt_le]
  omega
theorem ii_rfl {x : Int32} : x ≤ x := by
  rw [Int32.le_iff_toInt_le]
  omega
theorem i_sub0 {a b c : Int32} : a * b - (c + (a * b - c)) = 0 := by
  rw [Int32.add_comm, Int32.sub_add_cancel, Int32.sub_self]
theorem i_subn {l c n : Int32} (h : l - (c + n) = 0) : l - c = n := by
  have h2 : l - (c + n) + (c + n) = 0 + (c + n) := by rw [h]
  rw [Int32.sub_add_cancel, Int32.zero_add] at h2
  rw [h2, Int32.add_comm, Int32.add_sub_cancel]
/-- an output is wholly printed -/
theorem Sim.done {k nO nW j w : Nat} {σ τ : T2} (h : Sim k nO nW σ τ) (hk : k < 512) (hj : j < nO) (hw : w < nW) (f1 : τ 18 (w + 1) = nI (j + 1)) (f3 : τ 6 (j + 1) = 3) : Sim (k + 1) nO nW (sC_letGo (sC_noteInOrder (upd2 σ 42 w 0) j) j 4) (upd2 (upd2 (upd2 (sM_goes τ (nI (j + 1)) 4) 20 (τ 21 0).toNatClampNeg (nI (j + 1))) 21 0 (τ 21 0 + 1)) 18 (w + 1) 0) := by
  have hnO := h.1.2.2.1
  have h1 := (h.idle hw).note hk hj
  have h2 := h1.go (x := 4) (by omega) hj gvN_4 (by show gvN (τ 6 (j + 1)) = 0; rw [f3]; rfl) (fun v hv q => ?_)
  · have e : upd2 (upd2 (upd2 (sM_goes τ (nI (j + 1)) 4) 20 (τ 21 0).toNatClampNeg (nI (j + 1))) 21 0 (τ 21 0 + 1)) 18 (w + 1) 0 = sM_goes (upd2 (upd2 (upd2 τ 18 (w + 1) 0) 20 ((upd2 τ 18 (w + 1) 0) 21 0).toNatClampNeg (nI (j + 1))) 21 0 ((upd2 τ 18 (w + 1) 0) 21 0 + 1)) (nI (j + 1)) 4 := by
      show _ = sM_goes (upd2 (upd2 (upd2 τ 18 (w + 1) 0) 20 (τ 21 0).toNatClampNeg (nI (j + 1))) 21 0 (τ 21 0 + 1)) (nI (j + 1)) 4
      unfold sM_goes
      rw [upd2_comm (f := 21) (g := 18) (by decide), upd2_comm (f := 20) (g := 18) (by decide), upd2_comm (f := 11) (g := 18) (by decide), upd2_comm (f := 6) (g := 18) (by decide), upd2_comm (f := 11) (g := 20) (by decide), upd2_comm (f := 6) (g := 20) (by decide), upd2_comm (f := 11) (g := 21) (by decide), upd2_comm (f := 6) (g := 21) (by decide)]
    rw [e]
    exact h2
  · have q : (upd2 τ 18 (w + 1) 0) 18 (v + 1) = nI (j + 1) := q
    by_cases e : v = w
    · rw [e, upd2_at] at q
      exact nI_ne0 (n := j + 1) (by omega) (by omega) q.symm
    · rw [upd2_off (by omega)] at q
      have := h.2.2.2.2.2.1.2.2.2 v w hv hw e (q.trans f1.symm)
      rw [this] at q
      exact nI_ne0 (n := j + 1) (by omega) (by omega) q.symm
theorem st_print {k nO nW : Nat} {σ τ : T2} (h : Sim k nO nW σ τ) (hk : k < 512) (p0 p1 : Int32) : Same (k + 1) nO nW (sC_print σ p0 p1) (sM_print τ p0 p1) := by
  unfold sC_print sM_print
  rcases h.wr p0 with ⟨h1, h2⟩ | ⟨w, hw, ep, h1, h2, e1, e2⟩
  · rw [if_pos h1, if_pos h2]; exact same_of h.mono
  · rw [if_neg h1, if_neg h2, e1, e2]
    by_cases h3 : 0 ≤ p1
    · rw [if_pos h3, if_pos h3]
      obtain ⟨f0, f1⟩ := h.2.2.2.2.2.1.1 w hw
      have hnO := h.1.2.2.1
      rw [f0]
      rcases f1 with f1 | ⟨j, hj, f1, f3⟩
      · rw [if_pos f1, if_pos f1]; exact same_of h.mono
      · have h18 : ¬ τ 18 (w + 1) = 0 := by rw [f1]; exact nI_ne0 (by omega) (by omega)
        rw [if_neg h18, if_neg h18, f1, nI_back (by omega), nI_clamp (by omega)]
        have b := h.2.1 j hj
        have b23 := b.2.2.2.1
        have b28 := b.2.2.2.2.2.2.2.2.1
        have b31 := b.2.2.2.2.2.2.2.2.2.2.2.1
        have hp : sM_pagesOf τ (nI (j + 1)) = (τ 7 (j + 1) + 8 - 1) / 8 := by
          unfold sM_pagesOf
          rw [nI_clamp (by omega)]
        have hl : sO_pagesToPrint σ j = sM_pagesOf τ (nI (j + 1)) * τ 3 (j + 1) - τ 9 (j + 1) := by
          unfold sO_pagesToPrint sO_pageCount
          rw [hp, b23, b28, b31]
        have hl2 : ∀ n y : Int32, sO_pagesToPrint (upd2 (upd2 σ 31 j n) 11 0 y) j = sM_pagesOf τ (nI (j + 1)) * τ 3 (j + 1) - n := by
          intro n y
          show sO_pageCount σ j * σ 23 j - (upd2 σ 31 j n) 31 j = _
          rw [upd2_at]
          unfold sO_pageCount
          rw [hp, b23, b28]
        rw [hl, hl2, b31, h.2.2.2.2.2.2.2.2.1.1]
        generalize hM : sM_pagesOf τ (nI (j + 1)) * τ 3 (j + 1) = M
        by_cases h5 : M - τ 9 (j + 1) ≤ p1
        · rw [if_pos h5, if_pos ii_rfl]
          have h6 : (if M - τ 9 (j + 1) < p1 then M - τ 9 (j + 1) else p1) = M - τ 9 (j + 1) := by
            by_cases h7 : M - τ 9 (j + 1) < p1
            · rw [if_pos h7]
            · rw [if_neg h7]
              rw [Int32.le_iff_toInt_le] at h5
              rw [Int32.lt_iff_toInt_lt] at h7
              exact Int32.toInt_inj.mp (by omega)
          rw [h6, if_pos (by rw [Int32.add_comm, Int32.sub_add_cancel, Int32.sub_self])]
          have h8 := (h.pr (x := τ 9 (j + 1) + (M - τ 9 (j + 1))) (y := τ 22 0 + (M - τ 9 (j + 1))) hj).done hk hj hw f1 f3
          exact same_of h8
        · rw [if_neg h5]
          have h7 : ¬ M - τ 9 (j + 1) < p1 := fun q => h5 (by
            rw [Int32.lt_iff_toInt_lt] at q
            rw [Int32.le_iff_toInt_le]
            omega)
          rw [if_neg h7, if_neg (fun q => h5 (by rw [i_subn q]; exact ii_rfl))]
          exact same_of (h.pr hj).mono
    · rw [if_neg h3, if_neg h3]; exact same_of h.mono
