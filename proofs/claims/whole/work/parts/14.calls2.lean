/-! line -/
theorem SJ_skip {k nO : Nat} {σ τ σ' τ' : T2} {o : Int32} (h : SJ k nO σ τ) (hk : k ≤ 512) (ho : ∃ j, j < nO ∧ o = nI (j + 1)) (e8 : σ' 8 = σ 8) (e9 : σ' 9 = σ 9) (e10 : σ' 10 = σ 10) (e14 : τ' 14 = upd (τ 14) (τ 16 0).toNatClampNeg o) (e15 : τ' 15 = upd (τ 15) (τ 16 0).toNatClampNeg (-1)) (e16 : τ' 16 0 = τ 16 0 + 1) : SJ (k + 1) nO σ' τ' := by
  obtain ⟨A, K, j1, j2, j3, j4, j5, j6, j7⟩ := h
  rw [j3, nI_clamp (by omega)] at e14 e15
  refine ⟨A + 1, K, by omega, by omega, by rw [e16, j3, nI_1], by rw [e10]; exact j4, fun a ha => ?_, by rw [e9]; exact j6, fun P hP => ?_⟩
  · rw [e14]
    by_cases e : a = A
    · subst e; rw [pk_us]; exact ho
    · rw [pk_un e]; exact j5 a (by omega)
  · rw [e8, e9, e14, e15, j7 P hP]
    show _ = if P (upd (τ 15) A (-1) A) (upd (τ 14) A o A) = true then _ + 1 else _
    rw [pk_us, hP, if_neg (by decide)]
    refine (ct_congr (fun i hi => ?_)).symm
    rw [pk_un (by omega), pk_un (by omega)]
theorem SJ_keep {k nO : Nat} {σ τ σ' τ' : T2} {o s : Int32} (h : SJ k nO σ τ) (hk : k ≤ 512) (ho : ∃ j, j < nO ∧ o = nI (j + 1)) (e8 : σ' 8 = upd (σ 8) (σ 10 0).toNatClampNeg s) (e9 : σ' 9 = upd (σ 9) (σ 10 0).toNatClampNeg o) (e10 : σ' 10 0 = σ 10 0 + 1) (e14 : τ' 14 = upd (τ 14) (τ 16 0).toNatClampNeg o) (e15 : τ' 15 = upd (τ 15) (τ 16 0).toNatClampNeg s) (e16 : τ' 16 0 = τ 16 0 + 1) : SJ (k + 1) nO σ' τ' := by
  obtain ⟨A, K, j1, j2, j3, j4, j5, j6, j7⟩ := h
  rw [j3, nI_clamp (by omega)] at e14 e15
  rw [j4, nI_clamp (by omega)] at e8 e9
  refine ⟨A + 1, K + 1, by omega, by omega, by rw [e16, j3, nI_1], by rw [e10, j4, nI_1], fun a ha => ?_, fun a ha => ?_, fun P hP => ?_⟩
  · rw [e14]
    by_cases e : a = A
    · subst e; rw [pk_us]; exact ho
    · rw [pk_un e]; exact j5 a (by omega)
  · rw [e9]
    by_cases e : a = K
    · subst e; rw [pk_us]; exact ho
    · rw [pk_un e]; exact j6 a (by omega)
  · rw [e8, e9, e14, e15]
    show (if P (upd (σ 8) K s K) (upd (σ 9) K o K) = true then _ + 1 else _) = if P (upd (τ 15) A s A) (upd (τ 14) A o A) = true then _ + 1 else _
    rw [pk_us, pk_us, pk_us, pk_us]
    have q1 : ctN P (upd (σ 8) K s) (upd (σ 9) K o) K = ctN P (σ 8) (σ 9) K := ct_congr (fun i hi => by rw [pk_un (by omega), pk_un (by omega)])
    have q2 : ctN P (upd (τ 15) A s) (upd (τ 14) A o) A = ctN P (τ 15) (τ 14) A := ct_congr (fun i hi => by rw [pk_un (by omega), pk_un (by omega)])
    rw [q1, q2, j7 P hP]
theorem np_eq {σ : T2} {j L : Nat} (h : σ 28 j = nI L) (hL : L < 100000) : sO_needsPage σ j = if L % 8 = 0 then 1 else 0 := by
  unfold sO_needsPage
  rw [h, show nI L - nI L / 8 * 8 = nI L - nI L / nI 8 * nI 8 from rfl, pk_rem (by omega) (by decide) (by decide)]
  by_cases e : L % 8 = 0
  · rw [if_pos e, e, if_pos nI_0]
  · rw [if_neg e, if_neg (nI_ne0 (by omega) (by omega))]
theorem Sim.ln {k nO nW j : Nat} {σ τ σ' τ' : T2} (h : Sim k nO nW σ τ) (hk : k < 512) (hj : j < nO) (hop : gvN (τ 6 (j + 1)) = 0) (hJ' : SJ (k + 1) nO σ' τ')
    (e28 : σ' 28 = upd (σ 28) j (σ 28 j + 1)) (e7 : τ' 7 = upd (τ 7) (j + 1) (τ 7 (j + 1) + 1)) (es : ∀ g, g ≠ 1 → g ≠ 28 → g ≠ 8 → g ≠ 9 → g ≠ 10 → σ' g = σ g) (et : ∀ g, g ≠ 7 → g ≠ 14 → g ≠ 15 → g ≠ 16 → τ' g = τ g)
    (e1 : (¬ sO_needsPage σ j = 0 ∧ 0 < σ 1 0 ∧ σ' 1 0 = σ 1 0 - 1) ∨ (sO_needsPage σ j = 0 ∧ σ' 1 0 = σ 1 0)) : Sim (k + 1) nO nW σ' τ' := by
  obtain ⟨hA, hB, hC, hD, hE, hF, hG, hH, hIs, hJ⟩ := h
  obtain ⟨-, -, L, hL, eL⟩ := hD (j + 1)
  have b28 : σ 28 j = nI L := by rw [← eL]; exact (hB j hj).2.2.2.2.2.2.2.2.1
  have e7' : ∀ o, o ≠ j + 1 → τ' 7 o = τ 7 o := fun o ho => by rw [e7, pk_un ho]
  have e7j : τ' 7 (j + 1) = nI (L + 1) := by rw [e7, pk_us, eL, nI_1]
  have er : ∀ g o, g < 13 → o ≠ j + 1 → τ' g o = τ g o := fun g o hg ho => by
    by_cases e : g = 7
    · subst e; exact e7' o ho
    · rw [et g e (by omega) (by omega) (by omega)]
  refine ⟨SA_c (by omega) hA (es 3 (by decide) (by decide) (by decide) (by decide) (by decide)) (et 13 (by decide) (by decide) (by decide) (by decide)) (es 5 (by decide) (by decide) (by decide) (by decide) (by decide)) (et 19 (by decide) (by decide) (by decide) (by decide)), ?_, ?_, ?_, SE_c hE (es 40 (by decide) (by decide) (by decide) (by decide) (by decide)) (es 41 (by decide) (by decide) (by decide) (by decide) (by decide)) (et 17 (by decide) (by decide) (by decide) (by decide)), SF_c hF (es 42 (by decide) (by decide) (by decide) (by decide) (by decide)) (et 18 (by decide) (by decide) (by decide) (by decide)) (et 6 (by decide) (by decide) (by decide) (by decide)), ?_, SH_c (by omega) hH (es 6 (by decide) (by decide) (by decide) (by decide) (by decide)) (es 7 (by decide) (by decide) (by decide) (by decide) (by decide)) (et 20 (by decide) (by decide) (by decide) (by decide)) (et 21 (by decide) (by decide) (by decide) (by decide)), SI_c hIs (es 11 (by decide) (by decide) (by decide) (by decide) (by decide)) (es 12 (by decide) (by decide) (by decide) (by decide) (by decide)) (et 22 (by decide) (by decide) (by decide) (by decide)) (et 23 (by decide) (by decide) (by decide) (by decide)), hJ'⟩
  · intro i hi
    obtain ⟨b0, b1, b2, b3, b4, b5, b6, b7, b8, b9, b10, b11, b12⟩ := hB i hi
    have f : ∀ g, g ≠ 28 → 20 ≤ g → σ' g = σ g := fun g h1 h2 => es g (by omega) h1 (by omega) (by omega) (by omega)
    have f2 : ∀ g, g ≠ 7 → g < 13 → τ' g = τ g := fun g h1 h2 => et g h1 (by omega) (by omega) (by omega)
    rw [f 20 (by decide) (by decide), f 21 (by decide) (by decide), f 22 (by decide) (by decide), f 23 (by decide) (by decide), f 24 (by decide) (by decide), f 25 (by decide) (by decide), f 26 (by decide) (by decide), f 27 (by decide) (by decide), f 29 (by decide) (by decide), f 30 (by decide) (by decide), f 31 (by decide) (by decide), f 32 (by decide) (by decide), f2 1 (by decide) (by decide), f2 2 (by decide) (by decide), f2 3 (by decide) (by decide), f2 4 (by decide) (by decide), f2 5 (by decide) (by decide), f2 6 (by decide) (by decide), f2 8 (by decide) (by decide), f2 9 (by decide) (by decide), f2 10 (by decide) (by decide), f2 11 (by decide) (by decide), f2 12 (by decide) (by decide)]
    refine ⟨b0, b1, b2, b3, b4, b5, b6, b7, ?_, b9, b10, b11, b12⟩
    by_cases e : i = j
    · subst e
      rw [e7j, e28, pk_us, b28, nI_1]
    · rw [e7' (i + 1) (by omega), e28, pk_un e]
      exact b8
  · intro o ho
    have hne : o ≠ j + 1 := by omega
    rw [er 7 o (by decide) hne, er 8 o (by decide) hne, er 9 o (by decide) hne, er 10 o (by decide) hne, er 11 o (by decide) hne, er 12 o (by decide) hne]
    exact hC o ho
  · intro o
    obtain ⟨a, b, M, c, d⟩ := hD o
    rw [et 10 (by decide) (by decide) (by decide) (by decide), et 11 (by decide) (by decide) (by decide) (by decide)]
    refine ⟨a, b, ?_⟩
    by_cases e : o = j + 1
    · rw [e]; exact ⟨L + 1, by omega, e7j⟩
    · rw [e7' o e]; exact ⟨M, by omega, d⟩
  · obtain ⟨R, r1, r2, r3, r4, r5⟩ := hG
    have e6 : τ' 6 = τ 6 := et 6 (by decide) (by decide) (by decide) (by decide)
    have ha : alN τ (j + 1) = pgN L := by unfold alN; rw [if_pos hop, eL, nI_clamp (by omega)]
    have ha' : alN τ' (j + 1) = pgN (L + 1) := by unfold alN; rw [e6, if_pos hop, e7j, nI_clamp (by omega)]
    have hs := su_put (τ := τ) (τ' := τ') hj (fun o ho => alN_row (by rw [e6]) (e7' o ho))
    rw [ha, ha'] at hs
    rw [np_eq b28 (by omega), r5] at e1
    unfold pgN at hs
    have hT0 : τ' 0 = τ 0 := et 0 (by decide) (by decide) (by decide) (by decide)
    have hS0 : σ' 0 = σ 0 := es 0 (by decide) (by decide) (by decide) (by decide) (by decide)
    rcases e1 with ⟨q1, q2, q3⟩ | ⟨q1, q3⟩
    · have hL8 : L % 8 = 0 := by
        by_cases e : L % 8 = 0
        · exact e
        · rw [if_neg e] at q1; exact absurd rfl q1
      rw [Int32.lt_iff_toInt_lt, i32_0, nI_toInt (by omega)] at q2
      refine ⟨R, r1, by rw [hT0]; exact r2, by rw [hS0]; exact r3, by omega, ?_⟩
      rw [q3, show R - suN τ nO = (R - suN τ' nO) + 1 by omega, nI_pred]
    · have hL8 : ¬ L % 8 = 0 := fun e => by rw [if_pos e] at q1; exact absurd q1 (by decide)
      refine ⟨R, r1, by rw [hT0]; exact r2, by rw [hS0]; exact r3, by omega, ?_⟩
      rw [q3, show suN τ' nO = suN τ nO by omega]
theorem one_ne_gone {x : Int32} (h : x = 1) : gvN x = 0 := by subst h; rfl
/-- the reference behind a line that is taken, the sign as it is kept -/
def mLn (τ : T2) (o : Nat) (num s : Int32) : T2 := upd2 (upd2 (upd2 (upd2 τ 14 (τ 16 0).toNatClampNeg num) 15 (τ 16 0).toNatClampNeg s) 16 0 (τ 16 0 + 1)) 7 o (τ 7 o + 1)
theorem Sim.take {k nO nW j : Nat} {σ τ : T2} {n : Int32} (h : Sim k nO nW σ τ) (hk : k < 512) (hj : j < nO) (hop : gvN (τ 6 (j + 1)) = 0) (hr : sO_needsPage σ j = 0 ∨ 0 < σ 1 0) : Sim (k + 1) nO nW (sC_takeLine σ j n) (mLn τ (j + 1) (nI (j + 1)) (if n / 256 ≤ 0 then -1 else n - n / 256 * 256)) := by
  have ho : ∃ i, i < nO ∧ nI (j + 1) = nI (i + 1) := ⟨j, hj, rfl⟩
  have h20 := (h.2.1 j hj).1
  have hJ := h.2.2.2.2.2.2.2.2.2
  have hall : ∀ s : Int32, ∀ g, g ≠ 7 → g ≠ 14 → g ≠ 15 → g ≠ 16 → mLn τ (j + 1) (nI (j + 1)) s g = τ g := fun s g g1 g2 g3 g4 => by
    unfold mLn
    rw [upd2_ne g1, upd2_ne g4, upd2_ne g3, upd2_ne g2]
  have h10 : ¬ (512 : Int32) ≤ σ 10 0 := by
    obtain ⟨A, K, j1, j2, -, j4, -⟩ := hJ
    rw [j4]
    exact nI_ge (a := K) (b := 512) (by omega) (by decide)
  have hks : ∀ (t : T2) (s o : Int32), t 10 0 = σ 10 0 → sC_keepSign t s o = upd2 (upd2 (upd2 t 8 (σ 10 0).toNatClampNeg s) 9 (σ 10 0).toNatClampNeg o) 10 0 (σ 10 0 + 1) := fun t s o e => by
    unfold sC_keepSign
    rw [e, if_neg h10]
  unfold sC_takeLine
  rw [h20]
  by_cases h1 : sO_needsPage σ j = 0
  · rw [if_pos h1]
    by_cases h2 : n / 256 ≤ 0
    · rw [if_pos h2, if_pos h2]
      exact h.ln hk hj hop (SJ_skip hJ (by omega) ho rfl rfl rfl rfl rfl rfl) rfl rfl (fun g g1 g2 g3 g4 g5 => by rw [upd2_ne g2]) (hall _) (Or.inr ⟨h1, rfl⟩)
    · rw [if_neg h2, if_neg h2, hks (upd2 σ 28 j (σ 28 j + 1)) _ _ rfl]
      exact h.ln hk hj hop (SJ_keep hJ (by omega) ho rfl rfl rfl rfl rfl rfl) rfl rfl (fun g g1 g2 g3 g4 g5 => by rw [upd2_ne g5, upd2_ne g4, upd2_ne g3, upd2_ne g2]) (hall _) (Or.inr ⟨h1, rfl⟩)
  · rw [if_neg h1]
    have h3 : 0 < σ 1 0 := by rcases hr with q | q; exact absurd q h1; exact q
    by_cases h2 : n / 256 ≤ 0
    · rw [if_pos h2, if_pos h2]
      exact h.ln hk hj hop (SJ_skip hJ (by omega) ho rfl rfl rfl rfl rfl rfl) rfl rfl (fun g g1 g2 g3 g4 g5 => by rw [upd2_ne g2, upd2_ne g1]) (hall _) (Or.inl ⟨h1, h3, rfl⟩)
    · rw [if_neg h2, if_neg h2, hks (upd2 (upd2 σ 1 0 (σ 1 0 - 1)) 28 j (σ 28 j + 1)) _ _ rfl]
      exact h.ln hk hj hop (SJ_keep hJ (by omega) ho rfl rfl rfl rfl rfl rfl) rfl rfl (fun g g1 g2 g3 g4 g5 => by rw [upd2_ne g5, upd2_ne g4, upd2_ne g3, upd2_ne g2, upd2_ne g1]) (hall _) (Or.inl ⟨h1, h3, rfl⟩)
/-- the reference's own line, behind the checks of state and limit: the same in all its branches -/
def mTk (τ : T2) (o : Nat) (num n r : Int32) : Int32 × T2 := if (τ 7 o - τ 7 o / 8 * 8) = 0 then (if sM_free τ = 0 then ((-3), τ) else (r, mLn τ o num (if n / 256 ≤ 0 then -1 else n - n / 256 * 256))) else (r, mLn τ o num (if n / 256 ≤ 0 then -1 else n - n / 256 * 256))
def cTk (σ : T2) (j : Nat) (n r : Int32) : Int32 × T2 := if sC_hasRoomForLine σ j = 0 then ((-3), σ) else (r, sC_takeLine σ j n)
theorem st_take {k nO nW j : Nat} {σ τ : T2} {n r : Int32} (h : Sim k nO nW σ τ) (hk : k < 512) (hj : j < nO) (hop : τ 6 (j + 1) = 1) : Same (k + 1) nO nW (cTk σ j n r) (mTk τ (j + 1) (nI (j + 1)) n r) := by
  have hf := h.fr (by omega)
  obtain ⟨A, K, j1, j2, j3, j4, -⟩ := h.2.2.2.2.2.2.2.2.2
  obtain ⟨R, r1, r2, r3, r4, r5⟩ := h.2.2.2.2.2.2.1
  have b28 := (h.2.1 j hj).2.2.2.2.2.2.2.2.1
  have hn : sO_needsPage σ j = if (τ 7 (j + 1) - τ 7 (j + 1) / 8 * 8) = 0 then 1 else 0 := by unfold sO_needsPage; rw [b28]
  unfold cTk mTk sC_hasRoomForLine
  rw [hf]
  by_cases h1 : (τ 7 (j + 1) - τ 7 (j + 1) / 8 * 8) = 0
  · rw [if_pos h1] at hn ⊢
    rw [hn]
    by_cases h2 : σ 1 0 = 0
    · have q : (if (0 : Int32) < σ 1 0 then (1 : Int32) else if (1 : Int32) = 0 then 1 else 0) = 0 := by rw [h2]; decide
      rw [if_pos h2, if_pos q]
      exact same_of h.mono
    · have h3 : 0 < σ 1 0 := by
        rw [r5] at h2 ⊢
        rw [Int32.lt_iff_toInt_lt, i32_0, nI_toInt (by omega)]
        have : R - suN τ nO ≠ 0 := fun q => h2 (by rw [q]; exact nI_0)
        omega
      have q : ¬ (if (0 : Int32) < σ 1 0 then (1 : Int32) else if (1 : Int32) = 0 then 1 else 0) = 0 := by rw [if_pos h3]; decide
      rw [if_neg h2, if_neg q]
      exact same_of (h.take hk hj (one_ne_gone hop) (Or.inr h3))
  · rw [if_neg h1] at hn ⊢
    rw [hn, if_pos (rfl : (0 : Int32) = 0)]
    have h4 : ¬ (if 0 < σ 1 0 then (1 : Int32) else 1) = 0 := by split <;> decide
    rw [if_neg h4]
    exact same_of (h.take hk hj (one_ne_gone hop) (Or.inl hn))
theorem st_line {k nO nW : Nat} {σ τ : T2} (h : Sim k nO nW σ τ) (hk : k < 512) (p0 p1 : Int32) : Same (k + 1) nO nW (sC_line σ p0 p1) (sM_line τ p0 p1) := by
  unfold sC_line sM_line
  rcases h.out (by omega) p0 with ⟨h1, h2⟩ | ⟨j, hj, ep, h1, h2, e1, e2⟩
  · rw [if_pos h1, if_pos h2]; exact same_of h.mono
  · rw [if_neg h1, if_neg h2]
    by_cases h3 : p1 < 0
    · rw [if_pos h3, if_pos (iw_lo h3)]; exact same_of h.mono
    · rw [if_neg h3]
      by_cases h6 : p1 ≤ 34047
      · rw [if_pos h6, if_neg (by rw [iw_ok h3 (i_nle h6)]; decide), e1, e2, (h.2.1 j hj).2.2.2.2.2.2.1]
        by_cases h4 : τ 6 (j + 1) = 1
        · rw [if_pos h4, if_pos h4, (h.2.1 j hj).2.2.2.2.2.2.2.2.2.2.1]
          have key : ∀ r : Int32, (if (τ 7 (j + 1) - τ 7 (j + 1) / 8 * 8) = 0 then (if sM_free τ = 0 then ((-3), τ) else if p1 / 256 ≤ 0 then (r, mLn τ (j + 1) p0 (-1)) else (r, mLn τ (j + 1) p0 (p1 - p1 / 256 * 256))) else if p1 / 256 ≤ 0 then (r, mLn τ (j + 1) p0 (-1)) else (r, mLn τ (j + 1) p0 (p1 - p1 / 256 * 256))) = mTk τ (j + 1) (nI (j + 1)) p1 r := by
            intro r
            unfold mTk
            rw [← ep]
            by_cases q : p1 / 256 ≤ 0
            · rw [if_pos q, if_pos q]
            · rw [if_neg q, if_neg q]
          have hl : sO_isAtLimit σ j = if τ 8 (j + 1) ≤ 0 then 0 else if τ 7 (j + 1) < τ 8 (j + 1) then 0 else 1 := by
            unfold sO_isAtLimit
            rw [(h.2.1 j hj).2.2.2.2.2.2.2.2.1, (h.2.1 j hj).2.2.2.2.2.2.2.2.2.1]
          rw [hl]
          have k1 := key 1
          have k2 := key 2
          unfold mLn at k1 k2
          by_cases h7 : τ 8 (j + 1) ≤ 0
          · rw [if_pos h7, if_pos h7, if_pos rfl]
            have := st_take (n := p1) (r := 1) h hk hj h4
            rw [← k1] at this
            exact this
          · rw [if_neg h7, if_neg h7]
            by_cases h8 : τ 7 (j + 1) < τ 8 (j + 1)
            · rw [if_pos h8, if_pos h8, if_pos rfl]
              have := st_take (n := p1) (r := 1) h hk hj h4
              rw [← k1] at this
              exact this
            · rw [if_neg h8, if_neg h8, if_neg (by decide)]
              by_cases h9 : τ 10 (j + 1) = 0
              · rw [if_pos h9, if_pos h9]
                have := st_take (n := p1) (r := 2) h hk hj h4
                rw [← k2] at this
                exact this
              · rw [if_neg h9, if_neg h9]; exact same_of h.mono
        · rw [if_neg h4, if_neg h4]; exact same_of h.mono
      · rw [if_neg h6, if_pos (iw_hi (i_nlt h6))]; exact same_of h.mono
/-! end -/
theorem end_F {k nO nW : Nat} {σ τ : T2} (h : Sim k nO nW σ τ) (hk : k ≤ 512) (p : Int32) (n : Nat) (hn : n ≤ nO) : (sC_end_F σ p n).1 = (sM_end_F τ p n).1 ∧ Sim k nO nW (sC_end_F σ p n).2 (sM_end_F τ p n).2 := by
  have hnO := h.1.2.2.1
  induction n with
  | zero => exact ⟨rfl, h⟩
  | succ n ih =>
    obtain ⟨i1, i2⟩ := ih (by omega)
    show (sC_end_s σ p n (sC_end_F σ p n).1 (sC_end_F σ p n).2).1 = (sM_end_s τ p n (sM_end_F τ p n).1 (sM_end_F τ p n).2).1 ∧ Sim k nO nW (sC_end_s σ p n (sC_end_F σ p n).1 (sC_end_F σ p n).2).2 (sM_end_s τ p n (sM_end_F τ p n).1 (sM_end_F τ p n).2).2
    rw [i1]
    generalize (sM_end_F τ p n).1 = a
    generalize (sC_end_F σ p n).2 = s1 at i2 ⊢
    generalize (sM_end_F τ p n).2 = t1 at i2 ⊢
    have hj : n < nO := by omega
    obtain ⟨b0, b1, b2, b3, b4, b5, b6, b7, b8, -⟩ := i2.2.1 n hj
    unfold sC_end_s sM_end_s
    rw [nI_back (by omega), nI_clamp (by omega), b1, b6]
    by_cases h1 : t1 1 (n + 1) = p
    · rw [if_pos h1, if_pos h1]
      by_cases h2 : t1 6 (n + 1) = 1
      · rw [if_pos h2, if_pos h2]
        unfold sC_releaseOrPurge
        rw [b8]
        have hf := i2.free_of hk hj (by rw [h2]; decide)
        by_cases h3 : t1 7 (n + 1) = 0
        · rw [if_pos h3, if_pos h3]
          exact ⟨rfl, i2.go hk hj gvN_5 (one_ne_gone h2) hf⟩
        · rw [if_neg h3, if_neg h3]
          exact ⟨rfl, i2.st hj gvN_2 (one_ne_gone h2) (Or.inl hf)⟩
      · rw [if_neg h2, if_neg h2]; exact ⟨rfl, i2⟩
    · rw [if_neg h1, if_neg h1]; exact ⟨rfl, i2⟩
theorem st_end {k nO nW : Nat} {σ τ : T2} (h : Sim k nO nW σ τ) (hk : k < 512) (p : Int32) : Same (k + 1) nO nW (sC_end σ p) (sM_end τ p) := by
  have hA := h.1
  have hnO := hA.2.2.1
  unfold sC_end sM_end sC_end_x sM_end_x
  rw [hA.1, hA.2.1, nI_clamp (by omega)]
  obtain ⟨a, b⟩ := end_F h (by omega) p nO (Nat.le_refl _)
  exact ⟨a, b.mono⟩
