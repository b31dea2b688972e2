/-! next -/
theorem may_eq {k nO nW j : Nat} {σ τ : T2} (h : Sim k nO nW σ τ) (hk : k ≤ 512) (hj : j < nO) : sO_mayBePrinted σ j = if τ 6 (j + 1) = 2 then (if τ 11 (j + 1) = 0 then (if τ 7 (j + 1) = 0 then 0 else 1) else 0) else 0 := by
  obtain ⟨b0, b1, b2, b3, b4, b5, b6, b7, b8, -⟩ := h.2.1 j hj
  obtain ⟨-, -, L, hL, eL⟩ := h.2.2.2.1 (j + 1)
  unfold sO_mayBePrinted
  rw [b6, b7, b8, eL]
  by_cases h1 : L = 0
  · rw [h1, nI_0, if_pos (by decide : (0 : Int32) ≤ 0), if_pos rfl]
  · rw [if_neg (nI_nle (by omega) (by omega)), if_neg (nI_ne0 (by omega) (by omega))]
theorem fit_eq {k nO nW j w : Nat} {σ τ : T2} (h : Sim k nO nW σ τ) (hk : k ≤ 512) (hj : j < nO) (hw : w < nW) : sW_suits σ w j = sM_fits τ (nI (j + 1)) (τ 17 (w + 1)) := by
  obtain ⟨b0, b1, b2, b3, b4, -⟩ := h.2.1 j hj
  obtain ⟨c, c1, c2, c3, c4⟩ := h.2.2.2.2.1 w hw
  have hnO := h.1.2.2.1
  unfold sW_suits sM_fits
  rw [c2, c3, c4, b2, b4, nI_clamp (by omega), show nI c - nI c / 16 * 16 = nI c - nI c / nI 16 * nI 16 from rfl, show nI c / 16 = nI c / nI 16 from rfl, pk_rem c1 (by decide) (by decide), pk_div c1 (by decide) (by decide)]
  have e : (nI (c / 16) - 1 = -1) = (nI (c / 16) = 0) := by
    refine propext ⟨fun q => ?_, fun q => by rw [q]; rfl⟩
    rw [show (-1 : Int32) = 0 - 1 from rfl, Int32.sub_left_inj] at q
    exact q
  simp only [e]
theorem ff_eq {k nO nW w : Nat} {σ τ : T2} {p : Int32} (h : Sim k nO nW σ τ) (hk : k ≤ 512) (hw : w < nW) (hp : p.toNatClampNeg = w + 1) (n : Nat) (hn : n ≤ nO) : sC_firstFor_F σ w n = sM_next_F τ p n ∧ (sM_next_F τ p n = 0 ∨ ∃ j, j < n ∧ sM_next_F τ p n = nI (j + 1)) := by
  have hnO := h.1.2.2.1
  induction n with
  | zero => exact ⟨rfl, Or.inl rfl⟩
  | succ n ih =>
    obtain ⟨i1, i2⟩ := ih (by omega)
    show sC_firstFor_s σ w n (sC_firstFor_F σ w n) = sM_next_s τ p n (sM_next_F τ p n) ∧ (sM_next_s τ p n (sM_next_F τ p n) = 0 ∨ ∃ j, j < n + 1 ∧ sM_next_s τ p n (sM_next_F τ p n) = nI (j + 1))
    rw [i1]
    generalize sM_next_F τ p n = a at i2 ⊢
    have hj : n < nO := by omega
    have hi2 : a = 0 ∨ ∃ j, j < n + 1 ∧ a = nI (j + 1) := by
      rcases i2 with q | ⟨j, q1, q2⟩
      · exact Or.inl q
      · exact Or.inr ⟨j, by omega, q2⟩
    have hnew : nI (n + 1) = 0 ∨ ∃ j, j < n + 1 ∧ nI (n + 1) = nI (j + 1) := Or.inr ⟨n, by omega, rfl⟩
    unfold sC_firstFor_s sM_next_s
    rw [nI_back (by omega), nI_clamp (by omega), may_eq h hk hj, fit_eq h hk hj hw, hp]
    by_cases h1 : τ 6 (n + 1) = 2
    · rw [if_pos h1, if_pos h1]
      by_cases h2 : τ 11 (n + 1) = 0
      · rw [if_pos h2, if_pos h2]
        by_cases h3 : τ 7 (n + 1) = 0
        · rw [if_pos h3, if_pos h3, if_pos rfl, if_pos rfl, ite_self]
          exact ⟨rfl, hi2⟩
        · rw [if_neg h3, if_neg h3, if_neg (show ¬ (1 : Int32) = 0 by decide), if_neg (show ¬ (1 : Int32) = 0 by decide)]
          by_cases h4 : sM_fits τ (nI (n + 1)) (τ 17 (w + 1)) = 0
          · rw [if_pos h4, if_pos h4, if_pos h4, ite_self]
            exact ⟨rfl, hi2⟩
          · rw [if_neg h4, if_neg h4, if_neg h4]
            by_cases h5 : a = 0
            · rw [if_pos h5, if_pos h5]
              exact ⟨rfl, hnew⟩
            · rw [if_neg h5, if_neg h5]
              rcases i2 with q | ⟨j, q1, q2⟩
              · exact absurd q h5
              · rw [q2, nI_back (by omega), nI_clamp (by omega)]
                have hjO : j < nO := by omega
                obtain ⟨b0, b1, -, -, -, b5, -⟩ := h.2.1 n hj
                obtain ⟨d0, d1, -, -, -, d5, -⟩ := h.2.1 j hjO
                unfold sO_comesBefore
                rw [b0, b1, b5, d0, d1, d5]
                have hq2 : nI (j + 1) = 0 ∨ ∃ i, i < n + 1 ∧ nI (j + 1) = nI (i + 1) := Or.inr ⟨j, by omega, rfl⟩
                by_cases h6 : τ 5 (n + 1) = τ 5 (j + 1)
                · rw [if_pos h6, if_pos h6, if_neg (show ¬ τ 5 (j + 1) < τ 5 (n + 1) by rw [h6]; exact i_nle ii_rfl)]
                  by_cases h7 : τ 1 (n + 1) = τ 1 (j + 1)
                  · rw [if_pos h7, if_pos (nI_le (by omega) (by omega)), if_pos rfl, if_pos (show τ 1 (j + 1) ≤ τ 1 (n + 1) by rw [h7]; exact ii_rfl)]
                    exact ⟨rfl, hq2⟩
                  · rw [if_neg h7]
                    by_cases h8 : τ 1 (j + 1) ≤ τ 1 (n + 1)
                    · rw [if_pos h8, if_pos h8, if_pos rfl]; exact ⟨rfl, hq2⟩
                    · rw [if_neg h8, if_neg h8, if_neg (show ¬ (1 : Int32) = 0 by decide)]; exact ⟨rfl, hnew⟩
                · rw [if_neg h6, if_neg h6]
                  by_cases h8 : τ 5 (n + 1) ≤ τ 5 (j + 1)
                  · rw [if_pos h8, if_pos rfl, if_neg (i_nle h8)]; exact ⟨rfl, hq2⟩
                  · rw [if_neg h8, if_neg (show ¬ (1 : Int32) = 0 by decide), if_pos (i_nlt h8)]; exact ⟨rfl, hnew⟩
      · rw [if_neg h2, if_neg h2, if_pos rfl, if_pos rfl, ite_self]
        exact ⟨rfl, hi2⟩
    · rw [if_neg h1, if_neg h1, if_pos rfl, if_pos rfl, ite_self]
      exact ⟨rfl, hi2⟩
/-- the one that is taken is released -/
theorem ff_rel {τ : T2} {p : Int32} {n : Nat} (hn : n ≤ 1000) : ∀ j, sM_next_F τ p n = nI (j + 1) → j < 1000 → τ 6 (j + 1) = 2 := by
  induction n with
  | zero =>
    intro j hj hb
    exact absurd hj.symm (nI_ne0 (by omega) (by omega))
  | succ n ih =>
    intro j hj hb
    have hj : sM_next_s τ p n (sM_next_F τ p n) = nI (j + 1) := hj
    by_cases h1 : τ 6 (n + 1) = 2
    · have h2 : sM_next_s τ p n (sM_next_F τ p n) = sM_next_F τ p n ∨ sM_next_s τ p n (sM_next_F τ p n) = nI (n + 1) := by
        unfold sM_next_s
        repeat' split
        all_goals first | exact Or.inl rfl | exact Or.inr rfl
      rcases h2 with q | q
      · rw [q] at hj; exact ih (by omega) j hj hb
      · rw [q] at hj
        have : n + 1 = j + 1 := (nI_eq (by omega) (by omega)).mp hj
        rw [← this]; exact h1
    · unfold sM_next_s at hj
      rw [nI_clamp (by omega), if_neg h1] at hj
      exact ih (by omega) j hj hb
theorem st_next {k nO nW : Nat} {σ τ : T2} (h : Sim k nO nW σ τ) (hk : k < 512) (p0 : Int32) : Same (k + 1) nO nW (sC_next σ p0) (sM_next τ p0) := by
  unfold sC_next sM_next
  rcases h.wr p0 with ⟨h1, h2⟩ | ⟨w, hw, ep, h1, h2, e1, e2⟩
  · rw [if_pos h1, if_pos h2]; exact same_of h.mono
  · have hA := h.1
    have hnO := hA.2.2.1
    rw [if_neg h1, if_neg h2, e1, e2, (h.2.2.2.2.2.1.1 w hw).1]
    by_cases h3 : τ 18 (w + 1) = 0
    · rw [if_pos h3, if_pos h3]
      unfold sM_next_x sC_firstFor
      obtain ⟨i1, i2⟩ := ff_eq h (by omega) hw e2 nO (Nat.le_refl _)
      have hr := ff_rel (τ := τ) (p := p0) (n := nO) (by omega)
      rw [hA.1, hA.2.1, nI_clamp (by omega), i1, e2]
      generalize sM_next_F τ p0 nO = a at i2 hr ⊢
      by_cases h4 : a = 0
      · rw [if_pos h4, if_pos h4]; exact same_of h.mono
      · rw [if_neg h4, if_neg h4]
        rcases i2 with q | ⟨j, hj, q⟩
        · exact absurd q h4
        · rw [q, nI_back (by omega), nI_clamp (by omega), (h.2.1 j hj).1]
          have h6 : τ 6 (j + 1) = 2 := hr j q (by omega)
          have hf := h.free_of (by omega) hj (by rw [h6]; decide)
          have hs := h.st (x := 3) hj gvN_3 (by rw [h6]; rfl) (Or.inr rfl)
          refine same_of ?_
          obtain ⟨gA, gB, gC, gD, gE, gF, gG, gH, gI, gJ⟩ := hs
          refine ⟨SA_c (by omega) gA rfl rfl rfl rfl, SB_c gB (fun g _ h2 => upd2_ne (by omega)) (fun g h2 => upd2_ne (by omega)), SC_c gC rfl rfl rfl rfl rfl rfl, SD_c (by omega) gD rfl rfl rfl, SE_c gE rfl rfl rfl, ?_, SG_c gG rfl rfl rfl rfl rfl, SH_c (by omega) gH rfl rfl rfl rfl, SI_c gI rfl rfl rfl rfl, SJ_c (by omega) gJ rfl rfl rfl rfl rfl rfl⟩
          obtain ⟨a1, b1, c1, d1⟩ := gF
          refine ⟨fun v hv => ?_, fun v => ?_, fun v hv => ?_, fun v v' hv hv' hne hq => ?_⟩
          · by_cases e : v = w
            · subst e
              refine ⟨by rw [upd2_at, upd2_at], Or.inr ⟨j, hj, upd2_at, ?_⟩⟩
              show (upd2 τ 6 (j + 1) 3) 6 (j + 1) = 3
              exact upd2_at
            · rw [upd2_off e, upd2_off (by omega)]
              exact a1 v hv
          · by_cases e : v = w + 1
            · rw [e, upd2_at]; exact vp_in_nI (by omega) (by decide)
            · rw [upd2_off e]; exact b1 v
          · rw [upd2_off (by omega)]; exact c1 v hv
          · by_cases e : v = w
            · subst e
              rw [upd2_at, upd2_off (by omega)] at hq
              exact absurd hq.symm (hf v' hv')
            · by_cases e' : v' = w
              · subst e'
                rw [upd2_off (by omega), upd2_at] at hq
                exact absurd hq (hf v hv)
              · rw [upd2_off (by omega)] at hq ⊢
                rw [upd2_off (by omega)] at hq
                exact d1 v v' hv hv' hne hq
    · rw [if_neg h3, if_neg h3]; exact same_of h.mono
/-! writer, output, segment: a new row -/
theorem st_writer {k nO nW : Nat} {σ τ : T2} (h : Sim k nO nW σ τ) (hk : k < 512) (p0 : Int32) : (sC_writer nW σ p0).1 = (sM_writer τ p0).1 ∧ Sim (k + 1) nO (sC_writer nW σ p0).2.1 (sC_writer nW σ p0).2.2 (sM_writer τ p0).2 := by
  unfold sC_writer sM_writer
  by_cases h1 : p0 < 0
  · rw [if_pos h1, if_neg (fun q => i_nle q h1)]; exact ⟨rfl, h.mono⟩
  · rw [if_neg h1, if_pos (ii_le.mp h1)]
    obtain ⟨c, hc, rfl⟩ := nI_of h1
    rw [show nI c - nI c / 16 * 16 = nI c - nI c / nI 16 * nI 16 from rfl, show nI c / 16 = nI c / nI 16 from rfl, pk_rem hc (by decide) (by decide), pk_div hc (by decide) (by decide)]
    by_cases h2 : 8 < nI (c % 16)
    · rw [if_pos h2, if_pos h2]; exact ⟨rfl, h.mono⟩
    · rw [if_neg h2, if_neg h2]
      have hd : (nI (c / 16) - 1).toInt = ((c / 16 : Nat) : Int) - 1 := by
        rw [show nI (c / 16) - 1 = nI (c / 16) - nI 1 from rfl, pk_sub_toInt (by omega) (by omega)]
        rfl
      have h8 : (8 : Int32).toInt = 8 := by decide
      have h3 : (nI (c / 16) - 1 < 8) ↔ (nI (c / 16) ≤ 8) := by
        rw [Int32.lt_iff_toInt_lt, Int32.le_iff_toInt_le, hd, h8, nI_toInt (by omega)]
        omega
      by_cases h4 : nI (c / 16) ≤ 8
      · rw [if_pos (h3.mpr h4), if_pos h4]
        have hA := h.1
        rw [hA.2.2.2.1, hA.2.2.2.2.1]
        have hnW := hA.2.2.2.2.2
        by_cases h5 : nW = 9
        · rw [h5, if_neg (by decide), if_pos (by rfl)]
          subst h5
          exact ⟨rfl, h.mono⟩
        · rw [if_pos (show nI nW < 9 from nI_lt (b := 9) (by omega) (by decide)), if_neg (show ¬ nI nW = 9 from fun q => h5 ((nI_eq (b := 9) (by omega) (by decide)).mp q)), nI_1, nI_clamp (by omega)]
          refine ⟨rfl, ?_⟩
          show Sim (k + 1) nO (nW + 1) (upd2 (upd2 (upd2 (upd2 σ 40 nW (nI (c % 16))) 41 nW (nI (c / 16) - 1)) 42 nW 0) 5 0 (nI (nW + 1))) (upd2 (upd2 τ 19 0 (nI (nW + 1))) 17 (nW + 1) (nI c))
          obtain ⟨gA, gB, gC, gD, gE, gF, gG, gH, gI, gJ⟩ := h
          refine ⟨⟨gA.1, gA.2.1, by have := gA.2.2.1; omega, rfl, rfl, by omega⟩, ?_, SC_c gC rfl rfl rfl rfl rfl rfl, SD_c (by omega) gD rfl rfl rfl, ?_, ?_, SG_c gG rfl rfl rfl rfl rfl, SH_c (by omega) gH rfl rfl rfl rfl, SI_c gI rfl rfl rfl rfl, SJ_c (by omega) gJ rfl rfl rfl rfl rfl rfl⟩
          · exact SB_c gB (fun g g1 g2 => by rw [upd2_ne (by omega), upd2_ne (by omega), upd2_ne (by omega), upd2_ne (by omega)]) (fun g g2 => by rw [upd2_ne (by omega), upd2_ne (by omega)])
          · intro w hw
            by_cases e : w = nW
            · refine ⟨c, hc, ?_, ?_, ?_⟩
              · rw [e]; exact upd2_at
              · rw [e]; simp [upd2_get]
              · rw [e]; simp [upd2_get]
            · obtain ⟨c0, q1, q2, q3, q4⟩ := gE w (by omega)
              refine ⟨c0, q1, ?_, ?_, ?_⟩
              · simp [upd2_get, e, q2]
              · simp [upd2_get, e, q3]
              · simp [upd2_get, e, q4]
          · obtain ⟨a1, b1, c1, d1⟩ := gF
            have h18 : ∀ v, (upd2 (upd2 τ 19 0 (nI (nW + 1))) 17 (nW + 1) (nI c)) 18 v = τ 18 v := fun v => rfl
            have h6 : ∀ v, (upd2 (upd2 τ 19 0 (nI (nW + 1))) 17 (nW + 1) (nI c)) 6 v = τ 6 v := fun v => rfl
            refine ⟨fun v hv => ?_, fun v => by rw [h18]; exact b1 v, fun v hv => by rw [h18]; exact c1 v (by omega), fun v v' hv hv' hne hq => ?_⟩
            · rw [h18]
              by_cases e : v = nW
              · rw [e, c1 (nW + 1) (by omega)]
                exact ⟨by simp [upd2_get], Or.inl rfl⟩
              · obtain ⟨q1, q2⟩ := a1 v (by omega)
                refine ⟨?_, ?_⟩
                · rw [← q1]; simp [upd2_get, e]
                · rcases q2 with q2 | ⟨j, hj, q2, q3⟩
                  · exact Or.inl q2
                  · exact Or.inr ⟨j, hj, q2, q3⟩
            · rw [h18] at hq ⊢
              rw [h18] at hq
              by_cases e : v = nW
              · rw [e]; exact c1 _ (by omega)
              · by_cases e' : v' = nW
                · rw [hq, e']; exact c1 _ (by omega)
                · exact d1 v v' (by omega) (by omega) hne hq
      · rw [if_neg (fun q => h4 (h3.mp q)), if_neg h4]; exact ⟨rfl, h.mono⟩
theorem Sim.grow {k nO nW : Nat} {σ τ σ' τ' : T2} (h : Sim k nO nW σ τ) (hk : k < 512)
    (s3 : σ' 3 0 = nI (nO + 1)) (t13 : τ' 13 0 = nI (nO + 1)) (sr : ∀ g i, 20 ≤ g → g < 33 → i ≠ nO → σ' g i = σ g i) (tr : ∀ g o, g < 13 → o ≠ nO + 1 → τ' g o = τ g o)
    (so : ∀ g, g ≠ 3 → (g < 20 ∨ 33 ≤ g) → σ' g = σ g) (to : ∀ g, 13 < g → τ' g = τ g) (t0 : τ' 0 0 = τ 0 0)
    (row : σ' 20 nO = nI (nO + 1) ∧ σ' 21 nO = τ' 1 (nO + 1) ∧ σ' 22 nO = τ' 2 (nO + 1) ∧ σ' 23 nO = τ' 3 (nO + 1) ∧ σ' 24 nO = τ' 4 (nO + 1) ∧ σ' 25 nO = τ' 5 (nO + 1) ∧ σ' 26 nO = τ' 6 (nO + 1) ∧ σ' 27 nO = τ' 11 (nO + 1) ∧ σ' 28 nO = τ' 7 (nO + 1) ∧ σ' 29 nO = τ' 8 (nO + 1) ∧ σ' 30 nO = τ' 10 (nO + 1) ∧ σ' 31 nO = τ' 9 (nO + 1) ∧ σ' 32 nO = τ' 12 (nO + 1))
    (n7 : τ' 7 (nO + 1) = 0) (n10 : τ' 10 (nO + 1) = 0 ∨ τ' 10 (nO + 1) = 1) (n11 : τ' 11 (nO + 1) = 0 ∨ τ' 11 (nO + 1) = 1) : Sim (k + 1) (nO + 1) nW σ' τ' := by
  obtain ⟨gA, gB, gC, gD, gE, gF, gG, gH, gI, gJ⟩ := h
  refine ⟨⟨s3, t13, by have := gA.2.2.1; omega, by rw [so 5 (by decide) (by decide)]; exact gA.2.2.2.1, by rw [to 19 (by decide)]; exact gA.2.2.2.2.1, gA.2.2.2.2.2⟩, ?_, ?_, ?_, SE_c gE (so 40 (by decide) (by decide)) (so 41 (by decide) (by decide)) (to 17 (by decide)), ?_, ?_, SH_c (by omega) gH (so 6 (by decide) (by decide)) (so 7 (by decide) (by decide)) (to 20 (by decide)) (to 21 (by decide)), SI_c gI (so 11 (by decide) (by decide)) (so 12 (by decide) (by decide)) (to 22 (by decide)) (to 23 (by decide)), ?_⟩
  · intro j hj
    by_cases e : j = nO
    · rw [e]; exact row
    · have s := fun g g1 g2 => sr g j g1 g2 e
      have t := fun g g1 => tr g (j + 1) g1 (by omega)
      rw [s 20 (by decide) (by decide), s 21 (by decide) (by decide), s 22 (by decide) (by decide), s 23 (by decide) (by decide), s 24 (by decide) (by decide), s 25 (by decide) (by decide), s 26 (by decide) (by decide), s 27 (by decide) (by decide), s 28 (by decide) (by decide), s 29 (by decide) (by decide), s 30 (by decide) (by decide), s 31 (by decide) (by decide), s 32 (by decide) (by decide), t 1 (by decide), t 2 (by decide), t 3 (by decide), t 4 (by decide), t 5 (by decide), t 6 (by decide), t 7 (by decide), t 8 (by decide), t 9 (by decide), t 10 (by decide), t 11 (by decide), t 12 (by decide)]
      exact gB j (by omega)
  · intro o ho
    have t := fun g g1 => tr g o g1 (by omega)
    rw [t 7 (by decide), t 8 (by decide), t 9 (by decide), t 10 (by decide), t 11 (by decide), t 12 (by decide)]
    exact gC o (by omega)
  · intro o
    by_cases e : o = nO + 1
    · rw [e]; exact ⟨n10, n11, 0, by omega, by rw [n7]; exact nI_0.symm⟩
    · rw [tr 10 o (by decide) e, tr 11 o (by decide) e, tr 7 o (by decide) e]
      obtain ⟨a, b, L, c, d⟩ := gD o
      exact ⟨a, b, L, by omega, d⟩
  · obtain ⟨a1, b1⟩ := gF
    unfold SF
    rw [so 42 (by decide) (by decide), to 18 (by decide)]
    refine ⟨fun w hw => ?_, b1⟩
    obtain ⟨c, d⟩ := a1 w hw
    refine ⟨c, ?_⟩
    rcases d with d | ⟨j, hj, d, d3⟩
    · exact Or.inl d
    · exact Or.inr ⟨j, by omega, d, by rw [tr 6 (j + 1) (by decide) (by omega)]; exact d3⟩
  · obtain ⟨R, r1, r2, r3, r4, r5⟩ := gG
    have hs : suN τ' nO = suN τ nO := su_congr (fun o ho => alN_row (tr 6 o (by decide) (by omega)) (tr 7 o (by decide) (by omega)))
    have ha : alN τ' (nO + 1) = 0 := by
      unfold alN
      rw [n7]
      split <;> rfl
    have hs2 : suN τ' (nO + 1) = suN τ nO := by
      show suN τ' nO + alN τ' (nO + 1) = _
      rw [hs, ha]
      rfl
    refine ⟨R, r1, by rw [t0]; exact r2, by rw [so 0 (by decide) (by decide)]; exact r3, by omega, by rw [so 1 (by decide) (by decide), hs2]; exact r5⟩
  · obtain ⟨A, K, j1, j2, j3, j4, j5, j6, j7⟩ := gJ
    unfold SJ
    rw [so 8 (by decide) (by decide), so 9 (by decide) (by decide), so 10 (by decide) (by decide), to 14 (by decide), to 15 (by decide), to 16 (by decide)]
    refine ⟨A, K, by omega, j2, j3, j4, fun a ha => ?_, fun a ha => ?_, j7⟩
    · obtain ⟨j, hj, e⟩ := j5 a ha; exact ⟨j, by omega, e⟩
    · obtain ⟨j, hj, e⟩ := j6 a ha; exact ⟨j, by omega, e⟩
theorem has_F {k nO nW : Nat} {σ τ : T2} (h : Sim k nO nW σ τ) (hk : k ≤ 512) (p0 p1 p2 : Int32) (n : Nat) (hn : n ≤ nO) : sC_hasOutputThere_F σ p0 n = sM_output_F τ p0 p1 p2 n ∧ (sM_output_F τ p0 p1 p2 n = 0 ∨ sM_output_F τ p0 p1 p2 n = 1) := by
  have hnO := h.1.2.2.1
  induction n with
  | zero => exact ⟨rfl, Or.inl rfl⟩
  | succ n ih =>
    obtain ⟨i1, i2⟩ := ih (by omega)
    show (if sC_hasOutputThere_F σ p0 n = 0 then sC_hasOutputThere_s σ p0 n else sC_hasOutputThere_F σ p0 n) = sM_output_s τ p0 p1 p2 n (sM_output_F τ p0 p1 p2 n) ∧ (sM_output_s τ p0 p1 p2 n (sM_output_F τ p0 p1 p2 n) = 0 ∨ sM_output_s τ p0 p1 p2 n (sM_output_F τ p0 p1 p2 n) = 1)
    rw [i1]
    generalize sM_output_F τ p0 p1 p2 n = a at i2 ⊢
    unfold sC_hasOutputThere_s sM_output_s
    rw [sO_gone_eq, sM_gone_eq, nI_back (by omega), nI_clamp (by omega), (h.2.1 n (by omega)).2.1, (h.2.1 n (by omega)).2.2.2.2.2.2.1]
    rcases i2 with q | q
    · rw [q, if_pos rfl, if_pos rfl]
      refine ⟨rfl, ?_⟩
      split
      · split
        · exact Or.inr rfl
        · exact Or.inl rfl
      · exact Or.inl rfl
    · rw [q, if_neg (show ¬ (1 : Int32) = 0 by decide)]
      exact ⟨rfl, Or.inr rfl⟩
theorem Sim.new0 {k nO nW : Nat} {σ τ : T2} (h : Sim k nO nW σ τ) (hk : k < 512) (p0 p1 p2 : Int32) : Sim (k + 1) (nO + 1) nW (sC_new σ nO p0 p1 p2) (sM_create τ p0 p1 p2 0 0) := by
  have hA := h.1
  have hnO := hA.2.2.1
  obtain ⟨z7, z8, z9, z10, z11, z12⟩ := h.2.2.1 (nO + 1) (by omega)
  have e : (τ 13 0 + 1).toNatClampNeg = nO + 1 := by rw [hA.2.1, nI_1, nI_clamp (by omega)]
  unfold sC_new sM_create
  rw [e]
  refine h.grow hk ?_ ?_ ?_ ?_ ?_ ?_ ?_ ?_ ?_ ?_ ?_
  · show σ 3 0 + 1 = _
    rw [hA.1, nI_1]
  · show τ 13 0 + 1 = _
    rw [hA.2.1, nI_1]
  · intro g i g1 g2 hi
    rw [upd2_ne (by omega)]
    simp only [upd2_row hi]
  · intro g o g1 ho
    simp only [upd2_row ho]
    rw [upd2_ne (by omega)]
  · intro g g1 g2
    rw [upd2_ne g1, upd2_ne (by omega), upd2_ne (by omega), upd2_ne (by omega), upd2_ne (by omega), upd2_ne (by omega), upd2_ne (by omega), upd2_ne (by omega), upd2_ne (by omega), upd2_ne (by omega), upd2_ne (by omega), upd2_ne (by omega), upd2_ne (by omega), upd2_ne (by omega)]
  · intro g g1
    rw [upd2_ne (by omega), upd2_ne (by omega), upd2_ne (by omega), upd2_ne (by omega), upd2_ne (by omega), upd2_ne (by omega), upd2_ne (by omega)]
  · rfl
  · simp [upd2_get, z7, z8, z9, z10, z11, z12, hA.1, nI_1]
  · exact z7
  · exact Or.inl z10
  · exact Or.inl z11
theorem st_output {k nO nW : Nat} {σ τ : T2} (h : Sim k nO nW σ τ) (hk : k < 512) (p0 p1 p2 : Int32) : (sC_output nO σ p0 p1 p2).1 = (sM_output τ p0 p1 p2).1 ∧ Sim (k + 1) (sC_output nO σ p0 p1 p2).2.1 nW (sC_output nO σ p0 p1 p2).2.2 (sM_output τ p0 p1 p2).2 := by
  have hA := h.1
  have hnO := hA.2.2.1
  obtain ⟨R, r1, r2, r3, r4, r5⟩ := h.2.2.2.2.2.2.1
  unfold sC_output sM_output
  have out : ∀ x : Int32 × Nat × T2, x = ((-1), nO, σ) → x.1 = ((-1 : Int32), τ).1 ∧ Sim (k + 1) x.2.1 nW x.2.2 ((-1 : Int32), τ).2 := fun x q => by rw [q]; exact ⟨rfl, h.mono⟩
  by_cases h1 : p0 < 1
  · rw [if_pos h1]; exact out _ (by rw [if_pos (iw_lo h1)])
  · rw [if_neg h1]
    by_cases h2 : 9999 < p0
    · rw [if_pos h2]; exact out _ (by rw [if_pos (iw_hi h2)])
    · rw [if_neg h2, if_neg (by rw [iw_ok h1 h2]; decide)]
      by_cases h3 : p1 < 0
      · rw [if_pos h3]; exact out _ (by rw [if_pos (iw_lo h3)])
      · rw [if_neg h3]
        by_cases h4 : 7 < p1
        · rw [if_pos h4]; exact out _ (by rw [if_pos (iw_hi h4)])
        · rw [if_neg h4, if_neg (by rw [iw_ok h3 h4]; decide)]
          by_cases h5 : p2 < 1
          · rw [if_pos h5]; exact out _ (by rw [if_pos (iw_lo h5)])
          · rw [if_neg h5]
            by_cases h6 : p2 ≤ 9
            · rw [if_pos h6, if_neg (by rw [iw_ok h5 (i_nle h6)]; decide)]
              obtain ⟨i1, i2⟩ := has_F h (by omega) p0 p1 p2 nO (Nat.le_refl _)
              unfold sM_output_x sC_hasOutputThere
              rw [hA.1, hA.2.1, if_neg (show ¬ nI nO = 1000 from fun q => by have := (nI_eq (b := 1000) (by omega) (by decide)).mp q; omega), nI_clamp (by omega), i1, h.fr (by omega), r2, r3, show nI R / 8 = nI R / nI 8 from rfl, pk_div (by omega) (by decide) (by decide)]
              have hn := h.new0 hk p0 p1 p2
              have ha : nI nO + 1 = (sM_create τ p0 p1 p2 0 0) 13 0 := by
                show nI nO + 1 = τ 13 0 + 1
                rw [hA.2.1]
              generalize sM_output_F τ p0 p1 p2 nO = a at i2 ⊢
              by_cases h7 : nI (R / 8) < σ 1 0
              · rw [if_pos h7, if_pos h7]
                have : (if a = 0 then ((sM_create τ p0 p1 p2 0 0) 13 0, sM_create τ p0 p1 p2 0 0) else ((sM_create τ p0 p1 p2 0 0) 13 0, sM_create τ p0 p1 p2 0 0)) = ((sM_create τ p0 p1 p2 0 0) 13 0, sM_create τ p0 p1 p2 0 0) := ite_self _
                rw [this]
                exact ⟨ha, hn⟩
              · rw [if_neg h7, if_neg h7]
                by_cases h8 : a = 0
                · rw [if_pos h8, if_pos h8]; exact ⟨rfl, h.mono⟩
                · rw [if_neg h8, if_neg h8]; exact ⟨ha, hn⟩
            · rw [if_neg h6]; exact out _ (by rw [if_pos (iw_hi (i_nlt h6))])
theorem st_segment {k nO nW : Nat} {σ τ : T2} (h : Sim k nO nW σ τ) (hk : k < 512) (p0 : Int32) : (sC_segment nO σ p0).1 = (sM_segment τ p0).1 ∧ Sim (k + 1) (sC_segment nO σ p0).2.1 nW (sC_segment nO σ p0).2.2 (sM_segment τ p0).2 := by
  unfold sC_segment sM_segment
  rcases h.out (by omega) p0 with ⟨h1, h2⟩ | ⟨j, hj, ep, h1, h2, e1, e2⟩
  · rw [if_pos h1, if_pos h2]; exact ⟨rfl, h.mono⟩
  · have hA := h.1
    have hnO := hA.2.2.1
    obtain ⟨b0, b1, b2, b3, b4, b5, b6, b7, b8, b9, b10, b11, b12⟩ := h.2.1 j hj
    rw [if_neg h1, if_neg h2, e1, e2, b6, b8]
    by_cases h3 : τ 6 (j + 1) = 1
    · rw [if_pos h3, if_pos h3]
      by_cases h4 : τ 7 (j + 1) = 0
      · rw [if_pos h4, if_pos h4]; exact ⟨rfl, h.mono⟩
      · rw [if_neg h4, if_neg h4, if_neg (show ¬ τ 13 0 = 1000 by rw [hA.2.1]; exact fun q => by have := (nI_eq (b := 1000) (by omega) (by decide)).mp q; omega)]
        have hs := h.st (x := 2) hj gvN_2 (one_ne_gone h3) (Or.inl (h.free_of (by omega) hj (by rw [h3]; decide)))
        have hbo := h.2.2.2.1 (j + 1)
        obtain ⟨z7, z8, z9, z10, z11, z12⟩ := h.2.2.1 (nO + 1) (by omega)
        have e : ((upd2 τ 6 (j + 1) 2) 13 0 + 1).toNatClampNeg = nO + 1 := by
          show (τ 13 0 + 1).toNatClampNeg = _
          rw [hA.2.1, nI_1, nI_clamp (by omega)]
        have e13 : ∀ a b c d f : Int32, (sM_create (upd2 τ 6 (j + 1) 2) a b c d f) 13 0 = nI (nO + 1) := fun a b c d f => by
          show τ 13 0 + 1 = _
          rw [hA.2.1, nI_1]
        have hjn : j ≠ nO := by omega
        refine ⟨by rw [e13, hA.1, nI_1], ?_⟩
        rw [e13, nI_clamp (by omega)]
        unfold sM_create sC_new sO_takeSettingsOf
        rw [e]
        refine hs.grow hk ?_ ?_ ?_ ?_ ?_ ?_ ?_ ?_ ?_ ?_ ?_
        · show σ 3 0 + 1 = _
          rw [hA.1, nI_1]
        · show τ 13 0 + 1 = _
          rw [hA.2.1, nI_1]
        · intro g i g1 g2 hi
          simp only [upd2_get]
          simp [hi]
          grind
        · intro g o g1 ho
          simp only [upd2_row ho]
          rw [upd2_ne (by omega)]
        · intro g g1 g2
          dsimp only
          repeat rw [upd2_ne (by omega)]
        · intro g g1
          dsimp only
          repeat rw [upd2_ne (by omega)]
        · rfl
        · simp [upd2_get, z7, z8, z9, z10, z11, z12, hA.1, nI_1, hjn, Ne.symm hjn, b1, b2, b3, b4, b5, b7, b9, b10]
          grind [nar_b]
        · exact z7
        · grind [upd2_get, nar_b]
        · grind [upd2_get, nar_b]
    · rw [if_neg h3, if_neg h3]; exact ⟨rfl, h.mono⟩
