/-! steps that keep the two states side by side -/
theorem upd2_comm {t : T2} {f g i k : Nat} {x y : Int32} (h : f ≠ g) : upd2 (upd2 t f i x) g k y = upd2 (upd2 t g k y) f i x := by
  funext a b
  simp only [upd2_get]
  by_cases h1 : a = g
  · have h2 : ¬ a = f := fun q => h (q.symm.trans h1)
    simp [h1, h2, Ne.symm h]
  · simp [h1]
theorem SD_row {k k' j : Nat} {τ τ' : T2} (hk : k ≤ k') (h : SD k τ) (e : ∀ g o, o ≠ j + 1 → τ' g o = τ g o) (h10 : τ' 10 (j + 1) = 0 ∨ τ' 10 (j + 1) = 1) (h11 : τ' 11 (j + 1) = 0 ∨ τ' 11 (j + 1) = 1) (h7 : ∃ L, L ≤ k' ∧ τ' 7 (j + 1) = nI L) : SD k' τ' := by
  intro o
  by_cases ho : o = j + 1
  · rw [ho]; exact ⟨h10, h11, h7⟩
  · rw [e 10 o ho, e 11 o ho, e 7 o ho]
    obtain ⟨a, b, L, c, d⟩ := h o
    exact ⟨a, b, L, by omega, d⟩
theorem SD7 {k k' : Nat} {τ : T2} (hk : k ≤ k') (h : SD k τ) (o : Nat) : ∃ L, L ≤ k' ∧ τ 7 o = nI L := by
  obtain ⟨-, -, L, c, d⟩ := h o
  exact ⟨L, by omega, d⟩
/-- a change of a row's fields that the sums don't see -/
theorem alN_row {τ τ' : T2} {o : Nat} (e6 : τ' 6 o = τ 6 o) (e7 : τ' 7 o = τ 7 o) : alN τ' o = alN τ o := by unfold alN; rw [e6, e7]
theorem SG_row {nO j : Nat} {σ τ σ' τ' : T2} (h : SG nO σ τ) (hj : j < nO) (e : ∀ g o, o ≠ j + 1 → τ' g o = τ g o) (ea : alN τ' (j + 1) = alN τ (j + 1)) (e0 : σ' 0 = σ 0) (e1 : σ' 1 = σ 1) (e3 : τ' 0 = τ 0) : SG nO σ' τ' := by
  have e6 : suN τ' nO = suN τ nO := su_congr (fun o _ => by
    by_cases ho : o = j + 1
    · rw [ho]; exact ea
    · exact alN_row (e 6 o ho) (e 7 o ho))
  unfold SG at *
  rw [e0, e1, e3, e6]
  exact h
/-- the state of a row, while it isn't taken and stays there or not: what becomes of the writers -/
theorem SF_row {nO nW j : Nat} {σ τ σ' τ' : T2} (h : SF nO nW σ τ) (e42 : σ' 42 = σ 42) (e18 : τ' 18 = τ 18) (e : ∀ o, o ≠ j + 1 → τ' 6 o = τ 6 o) (hn : ∀ w, w < nW → τ 18 (w + 1) ≠ nI (j + 1) ∨ τ' 6 (j + 1) = 3) : SF nO nW σ' τ' := by
  unfold SF at *
  rw [e42, e18]
  obtain ⟨a, b⟩ := h
  refine ⟨fun w hw => ?_, b⟩
  obtain ⟨c, d⟩ := a w hw
  refine ⟨c, ?_⟩
  rcases d with d | ⟨i, hi, d, d3⟩
  · exact Or.inl d
  · refine Or.inr ⟨i, hi, d, ?_⟩
    by_cases ho : i + 1 = j + 1
    · have : i = j := by omega
      subst this
      rcases hn w hw with q | q
      · exact absurd d q
      · exact q
    · rw [e _ ho]; exact d3
/-- who isn't printing is taken by none -/
theorem Sim.free_of {k nO nW j : Nat} {σ τ : T2} (h : Sim k nO nW σ τ) (hk : k ≤ 512) (hj : j < nO) (h3 : τ 6 (j + 1) ≠ 3) : ∀ w, w < nW → τ 18 (w + 1) ≠ nI (j + 1) := by
  obtain ⟨⟨-, -, a3, -⟩, -, -, -, -, ⟨f1, -⟩, -⟩ := h
  intro w hw q
  obtain ⟨-, d⟩ := f1 w hw
  rcases d with d | ⟨i, hi, d, d3⟩
  · rw [d] at q
    exact nI_ne0 (n := j + 1) (by omega) (by omega) q.symm
  · rw [d] at q
    have : i + 1 = j + 1 := (nI_eq (by omega) (by omega)).mp q
    have : i = j := by omega
    subst this
    exact h3 d3
/-- an output goes: printed or purged -/
theorem Sim.go {k nO nW j : Nat} {σ τ : T2} {x : Int32} (h : Sim k nO nW σ τ) (hk : k ≤ 512) (hj : j < nO) (hx : gvN x = 1) (hal : gvN (τ 6 (j + 1)) = 0) (hf : ∀ w, w < nW → τ 18 (w + 1) ≠ nI (j + 1)) : Sim k nO nW (sC_letGo σ j x) (sM_goes τ (nI (j + 1)) x) := by
  obtain ⟨hA, hB, hC, hD, hE, hF, hG, hH, hIs, hJ⟩ := h
  have hnO := hA.2.2.1
  have e0 : (nI (j + 1)).toNatClampNeg = j + 1 := nI_clamp (by omega)
  have en : vp_nar .boolean 0 = 0 := rfl
  unfold sC_letGo sM_goes
  rw [e0, en]
  have er : ∀ g o, o ≠ j + 1 → (upd2 (upd2 τ 6 (j + 1) x) 11 (j + 1) 0) g o = τ g o := fun g o ho => by rw [upd2_row ho, upd2_row ho]
  refine ⟨SA_c (by omega) hA rfl rfl rfl rfl, ?_, SC_row hC hj er, SD_row (by omega) hD er (hD _).1 (Or.inl upd2_at) (SD7 (by omega) hD _), SE_c hE rfl rfl rfl, SF_row hF rfl rfl (fun o ho => er 6 o ho) (fun w hw => Or.inl (hf w hw)), ?_, SH_c (by omega) hH rfl rfl rfl rfl, SI_c hIs rfl rfl rfl rfl, SJ_c (by omega) hJ rfl rfl rfl rfl rfl rfl⟩
  · intro i hi
    have b := hB i hi
    by_cases e : i = j
    · subst e; simp [upd2_get, b]
    · simp [upd2_get, e, b]
  · obtain ⟨R, r1, r2, r3, r4, r5⟩ := hG
    obtain ⟨-, -, L, hL, eL⟩ := hD (j + 1)
    have b28 : σ 28 j = nI L := by rw [← eL]; exact (hB j hj).2.2.2.2.2.2.2.2.1
    have ha : alN τ (j + 1) = pgN L := by unfold alN; rw [if_pos hal, eL, nI_clamp (by omega)]
    have ha' : alN (upd2 (upd2 τ 6 (j + 1) x) 11 (j + 1) 0) (j + 1) = 0 := by
      unfold alN
      rw [show (upd2 (upd2 τ 6 (j + 1) x) 11 (j + 1) 0) 6 (j + 1) = x by rw [upd2_ne (by decide), upd2_at], hx]
      rfl
    have hs := su_put (τ := τ) (τ' := upd2 (upd2 τ 6 (j + 1) x) 11 (j + 1) 0) hj (fun o ho => alN_row (er 6 o ho) (er 7 o ho))
    rw [ha, ha'] at hs
    refine ⟨R, r1, r2, r3, by omega, ?_⟩
    show σ 1 0 + (σ 28 j + 8 - 1) / 8 = _
    rw [r5, b28, pg_nI (by omega), nI_add]
    congr 1
    omega
/-- a row's state becomes another that is there too -/
theorem Sim.st {k nO nW j : Nat} {σ τ : T2} {x : Int32} (h : Sim k nO nW σ τ) (hj : j < nO) (hx : gvN x = 0) (hal : gvN (τ 6 (j + 1)) = 0) (hf : (∀ w, w < nW → τ 18 (w + 1) ≠ nI (j + 1)) ∨ x = 3) : Sim k nO nW (upd2 σ 26 j x) (upd2 τ 6 (j + 1) x) := by
  obtain ⟨hA, hB, hC, hD, hE, hF, hG, hH, hIs, hJ⟩ := h
  have er : ∀ g o, o ≠ j + 1 → (upd2 τ 6 (j + 1) x) g o = τ g o := fun g o ho => by rw [upd2_row ho]
  refine ⟨SA_c (by omega) hA rfl rfl rfl rfl, ?_, SC_row hC hj er, SD_c (by omega) hD rfl rfl rfl, SE_c hE rfl rfl rfl, SF_row hF rfl rfl (fun o ho => er 6 o ho) (fun w hw => ?_), SG_row hG hj er ?_ rfl rfl rfl, SH_c (by omega) hH rfl rfl rfl rfl, SI_c hIs rfl rfl rfl rfl, SJ_c (by omega) hJ rfl rfl rfl rfl rfl rfl⟩
  · intro i hi
    have b := hB i hi
    by_cases e : i = j
    · subst e; simp [upd2_get, b]
    · simp [upd2_get, e, b]
  · rcases hf with q | q
    · exact Or.inl (q w hw)
    · exact Or.inr (by rw [upd2_at]; exact q)
  · unfold alN
    rw [upd2_at, hx, hal]
    rfl
/-- a writer is idle -/
theorem Sim.idle {k nO nW w : Nat} {σ τ : T2} (h : Sim k nO nW σ τ) (hw : w < nW) : Sim k nO nW (upd2 σ 42 w 0) (upd2 τ 18 (w + 1) 0) := by
  obtain ⟨hA, hB, hC, hD, hE, hF, hG, hH, hIs, hJ⟩ := h
  refine ⟨SA_c (by omega) hA rfl rfl rfl rfl, SB_c hB (fun g _ h2 => upd2_ne (by omega)) (fun g h2 => upd2_ne (by omega)), SC_c hC rfl rfl rfl rfl rfl rfl, SD_c (by omega) hD rfl rfl rfl, SE_c hE rfl rfl rfl, ?_, SG_c hG rfl rfl rfl rfl rfl, SH_c (by omega) hH rfl rfl rfl rfl, SI_c hIs rfl rfl rfl rfl, SJ_c (by omega) hJ rfl rfl rfl rfl rfl rfl⟩
  obtain ⟨a, b, c, d⟩ := hF
  refine ⟨fun v hv => ?_, fun v => ?_, fun v hv => ?_, fun v v' hv hv' hne hq => ?_⟩
  · by_cases e : v = w
    · subst e
      exact ⟨by rw [upd2_at, upd2_at], Or.inl upd2_at⟩
    · rw [upd2_off e, upd2_off (by omega)]
      exact a v hv
  · by_cases e : v = w + 1
    · rw [e, upd2_at]; exact in_0
    · rw [upd2_off e]; exact b v
  · by_cases e : v = w + 1
    · omega
    · rw [upd2_off e]; exact c v hv
  · by_cases e : v = w
    · subst e; exact upd2_at
    · by_cases e' : v' = w
      · subst e'
        rw [upd2_at] at hq
        exact hq
      · rw [upd2_off (by omega)] at hq ⊢
        rw [upd2_off (by omega)] at hq
        exact d v v' hv hv' hne hq
/-- pages are printed -/
theorem Sim.pr {k nO nW j : Nat} {σ τ : T2} {x y : Int32} (h : Sim k nO nW σ τ) (hj : j < nO) : Sim k nO nW (upd2 (upd2 σ 31 j x) 11 0 y) (upd2 (upd2 τ 9 (j + 1) x) 22 0 y) := by
  obtain ⟨hA, hB, hC, hD, hE, hF, hG, hH, hIs, hJ⟩ := h
  refine ⟨SA_c (by omega) hA rfl rfl rfl rfl, ?_, ?_, SD_c (by omega) hD rfl rfl rfl, SE_c hE rfl rfl rfl, SF_c hF rfl rfl rfl, SG_c hG rfl rfl rfl rfl rfl, SH_c (by omega) hH rfl rfl rfl rfl, ⟨rfl, hIs.2⟩, SJ_c (by omega) hJ rfl rfl rfl rfl rfl rfl⟩
  · intro i hi
    have b := hB i hi
    by_cases e : i = j
    · subst e; simp [upd2_get, b]
    · simp [upd2_get, e, b]
  · have := SC_row (τ' := upd2 τ 9 (j + 1) x) hC hj (fun g o ho => by rw [upd2_row ho])
    exact SC_c this rfl rfl rfl rfl rfl rfl
/-- pages are taken back -/
theorem Sim.ag {k nO nW j : Nat} {σ τ : T2} {x y : Int32} (h : Sim k nO nW σ τ) (hj : j < nO) : Sim k nO nW (upd2 (upd2 σ 12 0 y) 31 j x) (upd2 (upd2 τ 23 0 y) 9 (j + 1) x) := by
  obtain ⟨hA, hB, hC, hD, hE, hF, hG, hH, hIs, hJ⟩ := h
  refine ⟨SA_c (by omega) hA rfl rfl rfl rfl, ?_, ?_, SD_c (by omega) hD rfl rfl rfl, SE_c hE rfl rfl rfl, SF_c hF rfl rfl rfl, SG_c hG rfl rfl rfl rfl rfl, SH_c (by omega) hH rfl rfl rfl rfl, ⟨hIs.1, rfl⟩, SJ_c (by omega) hJ rfl rfl rfl rfl rfl rfl⟩
  · intro i hi
    have b := hB i hi
    by_cases e : i = j
    · subst e; simp [upd2_get, b]
    · simp [upd2_get, e, b]
  · have := SC_c (τ' := upd2 τ 23 0 y) hC rfl rfl rfl rfl rfl rfl
    exact SC_row this hj (fun g o ho => by rw [upd2_row ho])
/-- one more in the order -/
theorem Sim.note {k nO nW j : Nat} {σ τ : T2} (h : Sim k nO nW σ τ) (hk : k < 512) (hj : j < nO) : Sim (k + 1) nO nW (sC_noteInOrder σ j) (upd2 (upd2 τ 20 (τ 21 0).toNatClampNeg (nI (j + 1))) 21 0 (τ 21 0 + 1)) := by
  obtain ⟨hA, hB, hC, hD, hE, hF, hG, ⟨F, hF1, h7, h21, h6⟩, hIs, hJ⟩ := h
  have h20 := (hB j hj).1
  unfold sC_noteInOrder
  rw [h7, h21, h20, if_neg (show ¬ (1000 : Int32) ≤ nI F from nI_ge (a := F) (b := 1000) (by omega) (by decide)), nI_clamp (by omega), nI_1]
  refine ⟨SA_c (by omega) hA rfl rfl rfl rfl, SB_c hB (fun g _ h2 => by rw [upd2_ne (by omega), upd2_ne (by omega)]) (fun g h2 => by rw [upd2_ne (by omega), upd2_ne (by omega)]), SC_c hC rfl rfl rfl rfl rfl rfl, SD_c (by omega) hD rfl rfl rfl, SE_c hE rfl rfl rfl, SF_c hF rfl rfl rfl, SG_c hG rfl rfl rfl rfl rfl, ?_, SI_c hIs rfl rfl rfl rfl, SJ_c (by omega) hJ rfl rfl rfl rfl rfl rfl⟩
  refine ⟨F + 1, by omega, rfl, rfl, fun i hi => ?_⟩
  show (upd2 σ 6 F (nI (j + 1))) 6 i = (upd2 τ 20 F (nI (j + 1))) 20 i
  by_cases e : i = F
  · subst e; rw [upd2_at, upd2_at]
  · rw [upd2_off e, upd2_off e]; exact h6 i (by omega)
/-- the reference's free pages are the class's -/
theorem free_F {τ : T2} {R n : Nat} (hD : ∀ o, ∃ L, L ≤ 512 ∧ τ 7 o = nI L) (hn : n ≤ 1000) (hR : R ≤ 65536) (h0 : τ 0 0 = nI R) (hs : suN τ n ≤ R) : sM_free_F τ n = nI (R - suN τ n) := by
  induction n with
  | zero => exact h0
  | succ n ih =>
    have hs' : suN τ n + alN τ (n + 1) ≤ R := hs
    have ih := ih (by omega) (by omega)
    obtain ⟨L, hL, eL⟩ := hD (n + 1)
    show sM_free_s τ n (sM_free_F τ n) = nI (R - (suN τ n + alN τ (n + 1)))
    rw [ih]
    unfold sM_free_s
    rw [sM_gone_eq, nI_clamp (by omega)]
    unfold alN at hs' ⊢
    by_cases hg : gvN (τ 6 (n + 1)) = 0
    · rw [if_pos hg] at hs' ⊢
      rw [if_pos hg]
      show nI (R - suN τ n) - (τ 7 (nI (n + 1)).toNatClampNeg + 8 - 1) / 8 = _
      rw [eL, nI_clamp (by omega)] at hs'
      rw [nI_clamp (by omega), eL, pg_nI (by omega), nI_clamp (by omega), pk_sub (by omega)]
      congr 1
      omega
    · rw [if_neg hg] at hs' ⊢
      rw [if_neg hg]
      show nI (R - suN τ n) - nI 0 = _
      rw [pk_sub (by omega)]
      rfl
theorem Sim.fr {k nO nW : Nat} {σ τ : T2} (h : Sim k nO nW σ τ) (hk : k ≤ 512) : sM_free τ = σ 1 0 := by
  obtain ⟨⟨-, a1, a2, -⟩, -, -, hD, -, -, ⟨R, r1, r2, r3, r4, r5⟩, -⟩ := h
  show sM_free_F τ (τ 13 0).toNatClampNeg = _
  rw [a1, nI_clamp (by omega), r5]
  exact free_F (fun o => by obtain ⟨-, -, L, c, d⟩ := hD o; exact ⟨L, by omega, d⟩) (by omega) r1 r2 r4
