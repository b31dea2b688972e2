/-! calls that change nothing -/
theorem tc_nat {p : Int32} : p.toNatClampNeg = p.toInt.toNat := rfl
theorem st_order {k nO nW : Nat} {σ τ : T2} (h : Sim k nO nW σ τ) (hk : k ≤ 512) (p : Int32) : sC_order σ p = sM_order τ p := by
  obtain ⟨F, h1, h7, h21, h6⟩ := h.2.2.2.2.2.2.2.1
  unfold sC_order sM_order
  rw [h7, h21]
  have hs : (nI F - 1).toInt = (F : Int) - 1 := by
    rw [show nI F - 1 = nI F - nI 1 from rfl, pk_sub_toInt (by omega) (by omega)]
    rfl
  by_cases h2 : p < 0
  · rw [if_pos h2, if_pos (iw_lo h2)]
  · rw [if_neg h2]
    have h2' := h2
    rw [Int32.lt_iff_toInt_lt, i32_0] at h2'
    by_cases h3 : nI F ≤ p
    · rw [if_pos h3, if_pos (iw_hi ?_)]
      rw [Int32.le_iff_toInt_le, nI_toInt (by omega)] at h3
      rw [Int32.lt_iff_toInt_lt, hs]
      omega
    · rw [if_neg h3, if_neg]
      · rw [Int32.le_iff_toInt_le, nI_toInt (by omega)] at h3
        exact h6 _ (by rw [tc_nat]; omega)
      · rw [Int32.le_iff_toInt_le, nI_toInt (by omega)] at h3
        rw [iw_ok h2 (fun q => by rw [Int32.lt_iff_toInt_lt, hs] at q; omega)]
        decide
theorem st_state {k nO nW : Nat} {σ τ : T2} (h : Sim k nO nW σ τ) (hk : k ≤ 512) (p0 p1 : Int32) : sC_state σ p0 p1 = sM_state τ p0 p1 := by
  unfold sC_state sM_state
  rcases h.out hk p0 with ⟨h1, h2⟩ | ⟨j, hj, ep, h1, h2, e1, e2⟩
  · rw [if_pos h1, if_pos h2]
  · obtain ⟨b0, b1, b2, b3, b4, b5, b6, b7, b8, b9, b10, b11, b12⟩ := h.2.1 j hj
    have hp : sM_pagesOf τ p0 = sO_pageCount σ j := by
      unfold sM_pagesOf sO_pageCount
      rw [e2, b8]
    rw [if_neg h1, if_neg h2, e1, e2, hp]
    unfold sO_copiesLeft
    rw [b1, b3, b6, b7, b8, b11, Int32.add_zero]
theorem th_val {k nO nW j : Nat} {σ τ : T2} (h : Sim k nO nW σ τ) (hk : k ≤ 512) (hj : j < nO) : sC_isThere σ (nI (j + 1)) = if gvN (τ 6 (j + 1)) = 0 then 1 else 0 := by
  have hnO := h.1.2.2.1
  unfold sC_isThere
  rw [if_neg (iw_l h.1.1 (by omega) hj), sO_gone_eq, nI_back (by omega), (h.2.1 j hj).2.2.2.2.2.2.1]
theorem cnt_F {k nO nW : Nat} {σ τ : T2} (h : Sim k nO nW σ τ) (hk : k ≤ 512) (p : Int32) (n : Nat) (hn : n ≤ nO) : sC_outputsThere_F σ n = sM_count_F τ p n := by
  have hnO := h.1.2.2.1
  induction n with
  | zero => rfl
  | succ n ih =>
    show sC_outputsThere_s σ n (sC_outputsThere_F σ n) = sM_count_s τ p n (sM_count_F τ p n)
    rw [ih (by omega)]
    unfold sC_outputsThere_s sM_count_s
    rw [th_val h hk (by omega), sM_gone_eq, nI_clamp (by omega), Int32.add_zero]
    by_cases h1 : gvN (τ 6 (n + 1)) = 0
    · rw [if_pos h1, if_pos h1, if_neg (show ¬ (1 : Int32) = 0 by decide)]
    · rw [if_neg h1, if_neg h1, if_pos rfl]
theorem st_count {k nO nW : Nat} {σ τ : T2} (h : Sim k nO nW σ τ) (hk : k ≤ 512) (p : Int32) : sC_count σ p = sM_count τ p := by
  unfold sC_count sM_count sM_count_x sC_outputsThere sC_outputsThere_x
  have hA := h.1
  have hnO := hA.2.2.1
  rw [h.fr hk, hA.1, hA.2.1, nI_clamp (by omega), cnt_F h hk p nO (Nat.le_refl _), hA.2.2.2.1, hA.2.2.2.2.1, h.2.2.2.2.2.2.2.2.1.1, h.2.2.2.2.2.2.2.2.1.2]
theorem ct_congr {P Q : Int32 → Int32 → Bool} {s s' o o' : Nat → Int32} {n : Nat} (h : ∀ i, i < n → P (s' i) (o' i) = Q (s i) (o i)) : ctN P s' o' n = ctN Q s o n := by
  induction n with
  | zero => rfl
  | succ n ih =>
    show (if P (s' n) (o' n) = true then ctN P s' o' n + 1 else ctN P s' o' n) = if Q (s n) (o n) = true then ctN Q s o n + 1 else ctN Q s o n
    rw [ih (fun i hi => h i (by omega)), h n (by omega)]
theorem sch_C {σ : T2} {p : Int32} {n : Nat} (hn : n ≤ 1000) : sC_search_F σ p n = ctN (fun s o => decide (s = p) && !decide (sC_isThere σ o = 0)) (σ 8) (σ 9) n := by
  induction n with
  | zero => rfl
  | succ n ih =>
    show sC_search_s σ p n (sC_search_F σ p n) = if (decide (σ 8 n = p) && !decide (sC_isThere σ (σ 9 n) = 0)) = true then _ + 1 else _
    rw [ih (by omega)]
    unfold sC_search_s
    rw [nI_clamp (by omega)]
    by_cases h1 : σ 8 n = p <;> by_cases h2 : sC_isThere σ (σ 9 n) = 0 <;> simp [h1, h2]
theorem sch_M {τ : T2} {p : Int32} {n : Nat} (hn : n ≤ 1100) : sM_search_F τ p n = ctN (fun s o => decide (s = p) && decide (sM_isGone τ o = 0)) (τ 15) (τ 14) n := by
  induction n with
  | zero => rfl
  | succ n ih =>
    show sM_search_s τ p n (sM_search_F τ p n) = if (decide (τ 15 n = p) && decide (sM_isGone τ (τ 14 n) = 0)) = true then _ + 1 else _
    rw [ih (by omega)]
    unfold sM_search_s
    rw [nI_clamp (by omega)]
    by_cases h1 : τ 15 n = p <;> by_cases h2 : sM_isGone τ (τ 14 n) = 0 <;> simp [h1, h2]
theorem there_eq {k nO nW j : Nat} {σ τ : T2} (h : Sim k nO nW σ τ) (hk : k ≤ 512) (hj : j < nO) : (!decide (sC_isThere σ (nI (j + 1)) = 0)) = decide (sM_isGone τ (nI (j + 1)) = 0) := by
  have hnO := h.1.2.2.1
  rcases h.out hk (nI (j + 1)) with ⟨h1, h2⟩ | ⟨i, hi, ep, h1, h2, e1, e2⟩
  · exfalso
    unfold sM_isOutput at h2
    rw [h.1.2.1, if_neg (nI_nle (by omega) (by omega)), if_neg (nI_nlt (by omega) (by omega))] at h2
    exact absurd h2 (by decide)
  · rw [nI_back (by omega)] at e1
    subst e1
    unfold sC_isThere
    rw [if_neg h1, sM_gone_eq, sO_gone_eq, nI_back (by omega), nI_clamp (by omega), (h.2.1 j hj).2.2.2.2.2.2.1]
    by_cases h3 : gvN (τ 6 (j + 1)) = 0
    · simp [h3]
    · simp [h3]
theorem st_search {k nO nW : Nat} {σ τ : T2} (h : Sim k nO nW σ τ) (hk : k ≤ 512) (p : Int32) : sC_search σ p = sM_search τ p := by
  obtain ⟨A, K, j1, j2, j3, j4, j5, j6, j7⟩ := h.2.2.2.2.2.2.2.2.2
  have hnO := h.1.2.2.1
  unfold sC_search sM_search
  by_cases h1 : p < 0
  · rw [if_pos h1, if_pos (iw_lo h1)]
  · rw [if_neg h1]
    by_cases h2 : p ≤ 255
    · rw [if_pos h2, if_neg (by rw [iw_ok h1 (i_nle h2)]; decide)]
      unfold sC_search_x sM_search_x
      rw [j3, j4, nI_clamp (by omega), nI_clamp (by omega), sch_C (by omega), sch_M (by omega), ← j7 _ (fun o => ?_)]
      · refine ct_congr (fun i hi => ?_)
        obtain ⟨j, hj, e⟩ := j6 i hi
        show (decide (σ 8 i = p) && !decide (sC_isThere σ (σ 9 i) = 0)) = (decide (σ 8 i = p) && decide (sM_isGone τ (σ 9 i) = 0))
        rw [e, there_eq h hk hj]
      · have : ¬ ((-1 : Int32) = p) := fun q => h1 (by rw [← q]; decide)
        simp [this]
    · rw [if_neg h2, if_pos (iw_hi (i_nlt h2))]
