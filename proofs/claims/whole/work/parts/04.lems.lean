/-! side conditions of the walks -/
theorem lg_out {x : Int32} {N B i : Nat} (hx : x = nI N) (hN : N ≤ B) (hB : B < 2000000) (hi : i ≤ N) (h : x < nI (i + 1)) : i = N := by
  rw [hx] at h
  rcases Nat.lt_or_ge i N with q | q
  · exact absurd h (nI_nlt (by omega) (by omega))
  · omega
theorem lg_in {x : Int32} {N B i : Nat} (hx : x = nI N) (hN : N ≤ B) (hB : B < 2000000) (hi : i ≤ N) (h : ¬ x < nI (i + 1)) : i < N := by
  rw [hx] at h
  rcases Nat.lt_or_ge i N with q | q
  · exact q
  · exact absurd (nI_lt (by omega) (by omega)) h
theorem lc_out {x : Int32} {N B i : Nat} (hx : x = nI N) (hN : N ≤ B) (hB : B < 2000000) (hi : i ≤ N) (h : x ≤ nI i) : i = N := by
  rw [hx] at h
  rcases Nat.lt_or_ge i N with q | q
  · exact absurd h (nI_ge q (by omega))
  · omega
theorem lc_in {x : Int32} {N B i : Nat} (hx : x = nI N) (hN : N ≤ B) (hB : B < 2000000) (hi : i ≤ N) (h : ¬ x ≤ nI i) : i < N := by
  rw [hx] at h
  rcases Nat.lt_or_ge i N with q | q
  · exact q
  · exact absurd (nI_le q (by omega)) h
theorem in_g {N i : Nat} (h : i < N) (hN : N ≤ 1000) : vp_in (nI (i + 1)) 1001 := vp_in_nI (by omega) (by decide)
theorem in_c {N B i : Nat} (h : i < N) (hN : N ≤ B) (hB : B < 2 ^ 31) : vp_in (nI i) B := vp_in_nI (by omega) hB
theorem in_0 : vp_in 0 1001 := by
  have h : vp_in (nI 0) 1001 := vp_in_nI (by decide) (by decide)
  rw [nI_0] at h
  exact h
theorem find_stay {F S : Nat → Int32} (hS : ∀ i, F (i + 1) = if F i = 0 then S i else F i) {i N : Nat} (h0 : F i = 0) (h1 : S i = 1) (hlt : i < N) : F N = 1 := by
  have h2 : F (i + 1) = 1 := by rw [hS, if_pos h0, h1]
  have h3 : ∀ k, F (i + 1 + k) = 1 := by
    intro k
    induction k with
    | zero => exact h2
    | succ k ih =>
      show F (i + 1 + k + 1) = 1
      rw [hS, ih, if_neg (by decide)]
  have h4 := h3 (N - (i + 1))
  rw [show i + 1 + (N - (i + 1)) = N by omega] at h4
  exact h4
theorem i32_0 : (0 : Int32).toInt = 0 := by decide
theorem i32_1 : (1 : Int32).toInt = 1 := by decide
theorem ix1 {p : Int32} {n : Nat} (hn : n < 2 ^ 31) (h1 : 0 < p.toInt) (h2 : p.toInt ≤ n) : ∃ j : Nat, j < n ∧ p = nI (j + 1) := by
  refine ⟨p.toInt.toNat - 1, by omega, Int32.toInt_inj.mp ?_⟩
  rw [nI_toInt (by omega)]
  omega
theorem nI_back {j : Nat} (h : j + 1 < 2 ^ 31) : (nI (j + 1) - 1).toNatClampNeg = j := by rw [nI_pred, nI_clamp (by omega)]
/-- the reference's -/
def mInv (τ : T2) : Prop := ∃ (nO nW nA nF : Nat), τ 13 0 = nI nO ∧ nO ≤ 1000 ∧ τ 19 0 = nI nW ∧ nW ≤ 9 ∧ τ 16 0 = nI nA ∧ nA < 1100 ∧ τ 21 0 = nI nF ∧ nF ≤ 1000 ∧ (∀ a, a < nA → vp_in (τ 14 a) 1001) ∧ ∀ w, vp_in (τ 18 w) 1001
theorem mN_out {τ : T2} (hI : mInv τ) : τ 13 0 = nI (τ 13 0).toNatClampNeg ∧ (τ 13 0).toNatClampNeg ≤ 1000 := by
  obtain ⟨nO, nW, nA, nF, h1, h2, -⟩ := hI
  rw [h1, nI_clamp (by omega)]
  exact ⟨rfl, h2⟩
theorem mN_all {τ : T2} (hI : mInv τ) : τ 16 0 = nI (τ 16 0).toNatClampNeg ∧ (τ 16 0).toNatClampNeg ≤ 1100 := by
  obtain ⟨nO, nW, nA, nF, -, -, -, -, h1, h2, -⟩ := hI
  rw [h1, nI_clamp (by omega)]
  exact ⟨rfl, by omega⟩
theorem mo_ix {τ : T2} {p : Int32} {n : Nat} (hn : τ 13 0 = nI n) (hb : n ≤ 1000) (h : ¬ sM_isOutput τ p = 0) : ∃ j : Nat, j < n ∧ p = nI (j + 1) := by
  unfold sM_isOutput at h
  by_cases h1 : p ≤ 0
  · rw [if_pos h1] at h; exact absurd rfl h
  · rw [if_neg h1] at h
    by_cases h2 : τ 13 0 < p
    · rw [if_pos h2] at h; exact absurd rfl h
    · rw [hn, Int32.lt_iff_toInt_lt, nI_toInt (by omega)] at h2
      rw [Int32.le_iff_toInt_le, i32_0] at h1
      exact ix1 (by omega) (by omega) (by omega)
theorem mw_ix {τ : T2} {p : Int32} {n : Nat} (hn : τ 19 0 = nI n) (hb : n ≤ 9) (h : ¬ sM_isWriter τ p = 0) : ∃ j : Nat, j < n ∧ p = nI (j + 1) := by
  unfold sM_isWriter at h
  by_cases h1 : p ≤ 0
  · rw [if_pos h1] at h; exact absurd rfl h
  · rw [if_neg h1] at h
    by_cases h2 : τ 19 0 < p
    · rw [if_pos h2] at h; exact absurd rfl h
    · rw [hn, Int32.lt_iff_toInt_lt, nI_toInt (by omega)] at h2
      rw [Int32.le_iff_toInt_le, i32_0] at h1
      exact ix1 (by omega) (by omega) (by omega)
theorem mo_in {τ : T2} {p : Int32} (hI : mInv τ) (h : ¬ sM_isOutput τ p = 0) : vp_in p 1001 := by
  obtain ⟨nO, nW, nA, nF, h1, h2, -⟩ := hI
  obtain ⟨j, hj, rfl⟩ := mo_ix h1 h2 h
  exact vp_in_nI (by omega) (by decide)
theorem mw_in {τ : T2} {p : Int32} (hI : mInv τ) (h : ¬ sM_isWriter τ p = 0) : vp_in p 10 := by
  obtain ⟨nO, nW, nA, nF, -, -, h1, h2, -⟩ := hI
  obtain ⟨j, hj, rfl⟩ := mw_ix h1 h2 h
  exact vp_in_nI (by omega) (by decide)
theorem mh_in {τ : T2} (hI : mInv τ) (w : Nat) : vp_in (τ 18 w) 1001 := by
  obtain ⟨nO, nW, nA, nF, -, -, -, -, -, -, -, -, -, h⟩ := hI
  exact h w
theorem ma_in {τ : T2} (hI : mInv τ) : vp_in (τ 16 0) 1100 := by
  obtain ⟨nO, nW, nA, nF, -, -, -, -, h1, h2, -⟩ := hI
  rw [h1]; exact vp_in_nI h2 (by decide)
theorem mf_in {τ : T2} (hI : mInv τ) : vp_in (τ 21 0) 1001 := by
  obtain ⟨nO, nW, nA, nF, -, -, -, -, -, -, h1, h2, -⟩ := hI
  rw [h1]; exact vp_in_nI (by omega) (by decide)
theorem mc_in {τ : T2} (hI : mInv τ) (h : ¬ τ 13 0 = 1000) : vp_in (τ 13 0 + 1) 1001 := by
  obtain ⟨nO, nW, nA, nF, h1, h2, -⟩ := hI
  rw [h1] at h ⊢
  have h3 : nO ≠ 1000 := fun q => h (by rw [q]; rfl)
  rw [nI_1]; exact vp_in_nI (by omega) (by decide)
theorem mw1_in {τ : T2} (hI : mInv τ) (h : ¬ τ 19 0 = 9) : vp_in (τ 19 0 + 1) 10 := by
  obtain ⟨nO, nW, nA, nF, -, -, h1, h2, -⟩ := hI
  rw [h1] at h ⊢
  have h3 : nW ≠ 9 := fun q => h (by rw [q]; rfl)
  rw [nI_1]; exact vp_in_nI (by omega) (by decide)
theorem mown_in {τ : T2} {N i : Nat} (hI : mInv τ) (hNc : N = (τ 16 0).toNatClampNeg) (hlt : i < N) : vp_in (τ 14 (nI i).toNatClampNeg) 1001 := by
  obtain ⟨nO, nW, nA, nF, -, -, -, -, h1, h2, -, -, h3, -⟩ := hI
  rw [h1, nI_clamp (by omega)] at hNc
  rw [nI_clamp (by omega)]
  exact h3 i (by omega)
theorem mord_in {τ : T2} {p : Int32} (hI : mInv τ) (h0 : ¬ p < 0) (h : ¬ τ 21 0 ≤ p) : vp_in p 1001 := by
  obtain ⟨nO, nW, nA, nF, -, -, -, -, -, -, h1, h2, -⟩ := hI
  rw [h1, Int32.le_iff_toInt_le, nI_toInt (by omega)] at h
  rw [Int32.lt_iff_toInt_lt, i32_0] at h0
  exact vp_in_iff.mpr ⟨by omega, by omega⟩
/-- the class's -/
def cInv (nO nW : Nat) (σ : T2) : Prop := σ 3 0 = nI nO ∧ nO ≤ 1000 ∧ σ 5 0 = nI nW ∧ nW ≤ 9 ∧ (∃ K, σ 10 0 = nI K ∧ K ≤ 512) ∧ (∃ F, σ 7 0 = nI F ∧ F ≤ 1000) ∧ (∀ w, w < nW → σ 42 w = 0 ∨ ∃ j, j < nO ∧ σ 42 w = nI (j + 1)) ∧ ∀ j, j < nO → (σ 27 j = 0 ∨ σ 27 j = 1) ∧ (σ 30 j = 0 ∨ σ 30 j = 1)
theorem cN_out {nO nW : Nat} {σ : T2} (hI : cInv nO nW σ) : σ 3 0 = nI (σ 3 0).toNatClampNeg ∧ (σ 3 0).toNatClampNeg ≤ 1000 := by
  obtain ⟨h1, h2, -⟩ := hI
  rw [h1, nI_clamp (by omega)]
  exact ⟨rfl, h2⟩
theorem cN_kept {nO nW : Nat} {σ : T2} (hI : cInv nO nW σ) : σ 10 0 = nI (σ 10 0).toNatClampNeg ∧ (σ 10 0).toNatClampNeg ≤ 512 := by
  obtain ⟨-, -, -, -, ⟨K, h1, h2⟩, -⟩ := hI
  rw [h1, nI_clamp (by omega)]
  exact ⟨rfl, h2⟩
theorem wi_ix {p : Int32} {n : Nat} (hb : n ≤ 1000) (h : ¬ sC_isWithin p 1 (nI n) = 0) : ∃ j : Nat, j < n ∧ p = nI (j + 1) := by
  unfold sC_isWithin at h
  by_cases h1 : p < 1
  · rw [if_pos h1] at h; exact absurd rfl h
  · rw [if_neg h1] at h
    by_cases h2 : nI n < p
    · rw [if_pos h2] at h; exact absurd rfl h
    · rw [Int32.lt_iff_toInt_lt, nI_toInt (by omega)] at h2
      rw [Int32.lt_iff_toInt_lt, i32_1] at h1
      exact ix1 (by omega) (by omega) (by omega)
/-- what outputOf wants -/
def oInv (nO : Nat) (σ : T2) : Prop := σ 3 0 = nI nO ∧ nO ≤ 1000
theorem oi {nO nW : Nat} {σ : T2} (hI : cInv nO nW σ) : oInv nO σ := ⟨hI.1, hI.2.1⟩
theorem oi_l {nO nW N : Nat} {σ σ1 : T2} (hI : cInv nO nW σ) (hNc : N = (σ 3 0).toNatClampNeg) (hN1 : σ1 3 0 = nI N) : oInv nO σ1 := by
  obtain ⟨h1, h2, -⟩ := hI
  rw [h1, nI_clamp (by omega)] at hNc
  exact ⟨by rw [hN1, hNc], h2⟩
theorem iw_l {x : Int32} {N i : Nat} (hx : x = nI N) (hN : N ≤ 1000) (h : i < N) : ¬ sC_isWithin (nI (i + 1)) 1 x = 0 := by
  unfold sC_isWithin
  rw [hx, if_neg (fun q => by rw [Int32.lt_iff_toInt_lt, i32_1, nI_toInt (by omega)] at q; omega), if_neg (nI_nlt (by omega) (by omega))]
  decide
theorem oo_lt {nO : Nat} {σ : T2} {p : Int32} (hI : oInv nO σ) (h : ¬ sC_isWithin p 1 (σ 3 0) = 0) : (p - 1).toNatClampNeg < nO := by
  obtain ⟨h1, h2⟩ := hI
  rw [h1] at h
  obtain ⟨j, hj, rfl⟩ := wi_ix h2 h
  rw [nI_back (by omega)]; exact hj
theorem oo_in {nO : Nat} {σ : T2} {p : Int32} (hI : oInv nO σ) (h : ¬ sC_isWithin p 1 (σ 3 0) = 0) : vp_in (p - 1) 1000 := by
  obtain ⟨h1, h2⟩ := hI
  rw [h1] at h
  obtain ⟨j, hj, rfl⟩ := wi_ix h2 h
  rw [nI_pred]; exact vp_in_nI (by omega) (by decide)
theorem qq_lt {nO nW : Nat} {σ : T2} {p : Int32} (hI : cInv nO nW σ) (h : ¬ sC_isWithin p 1 (σ 5 0) = 0) : (p - 1).toNatClampNeg < nW := by
  obtain ⟨-, -, h1, h2, -⟩ := hI
  rw [h1] at h
  obtain ⟨j, hj, rfl⟩ := wi_ix (by omega) h
  rw [nI_back (by omega)]; exact hj
theorem qq_in {nO nW : Nat} {σ : T2} {p : Int32} (hI : cInv nO nW σ) (h : ¬ sC_isWithin p 1 (σ 5 0) = 0) : vp_in (p - 1) 9 := by
  obtain ⟨-, -, h1, h2, -⟩ := hI
  rw [h1] at h
  obtain ⟨j, hj, rfl⟩ := wi_ix (by omega) h
  rw [nI_pred]; exact vp_in_nI (by omega) (by decide)
theorem oo_none {ad : Nat → Nat} {σ : T2} {p : Int32} (h : sC_isWithin p 1 (σ 3 0) = 0) : sC_outputOf ad σ p = none := if_pos h
theorem oo_some {ad : Nat → Nat} {σ : T2} {p : Int32} (h : ¬ sC_isWithin p 1 (σ 3 0) = 0) : sC_outputOf ad σ p = some (ad (p - 1).toNatClampNeg) := if_neg h
theorem qq_none {wd : Nat → Nat} {σ : T2} {p : Int32} (h : sC_isWithin p 1 (σ 5 0) = 0) : sC_writerOf wd σ p = none := if_pos h
theorem qq_some {wd : Nat → Nat} {σ : T2} {p : Int32} (h : ¬ sC_isWithin p 1 (σ 5 0) = 0) : sC_writerOf wd σ p = some (wd (p - 1).toNatClampNeg) := if_neg h
theorem tk_none {ad : Nat → Nat} {v : Int32} (h : v = 0) : tk ad v = none := if_pos h
theorem tk_some {ad : Nat → Nat} {v : Int32} (h : ¬ v = 0) : tk ad v = some (ad (v - 1).toNatClampNeg) := if_neg h
theorem tk_put {ad : Nat → Nat} {nO nW j : Nat} {σ : T2} (hj : j < nO) (hI : cInv nO nW σ) : tk ad (nI (j + 1)) = some (ad j) := by
  have h2 := hI.2.1
  rw [tk_some (nI_ne0 (by omega) (by omega)), nI_back (by omega)]
theorem ct_lt {nO nW w : Nat} {σ : T2} (hI : cInv nO nW σ) (h : ¬ σ 42 w = 0) (hw : w < nW) : (σ 42 w - 1).toNatClampNeg < nO := by
  obtain ⟨-, h2, -, -, -, -, h3, -⟩ := hI
  rcases h3 w hw with q | ⟨j, hj, e⟩
  · exact absurd q h
  · rw [e, nI_back (by omega)]; exact hj
theorem fa_lt {nO nW : Nat} {σ : T2} {a : Int32} (hI : cInv nO nW σ) (hA : a = 0 ∨ ∃ j, j < nO ∧ a = nI (j + 1)) (h : ¬ a = 0) : (a - 1).toNatClampNeg < nO := by
  have h2 := hI.2.1
  rcases hA with q | ⟨j, hj, e⟩
  · exact absurd q h
  · rw [e, nI_back (by omega)]; exact hj
theorem ff_rng {nO nW w : Nat} {σ : T2} (hI : cInv nO nW σ) : ∀ i, i ≤ nO → sC_firstFor_F σ w i = 0 ∨ ∃ j, j < nO ∧ sC_firstFor_F σ w i = nI (j + 1) := by
  have h2 := hI.2.1
  intro i
  induction i with
  | zero => intro _; exact Or.inl rfl
  | succ i ih =>
    intro hi
    have h3 : (nI (i + 1) - 1).toNatClampNeg < nO := by rw [nI_back (by omega)]; omega
    have ih := ih (by omega)
    show sC_firstFor_s σ w i (sC_firstFor_F σ w i) = 0 ∨ ∃ j, j < nO ∧ sC_firstFor_s σ w i (sC_firstFor_F σ w i) = nI (j + 1)
    generalize sC_firstFor_F σ w i = a at ih ⊢
    have h4 : sC_firstFor_s σ w i a = a ∨ sC_firstFor_s σ w i a = nI ((nI (i + 1) - 1).toNatClampNeg + 1) := by
      unfold sC_firstFor_s
      repeat' split
      all_goals first | exact Or.inl rfl | exact Or.inr rfl
    rcases h4 with q | q
    · rw [q]; exact ih
    · rw [q]; exact Or.inr ⟨_, h3, rfl⟩
theorem ff_lt {nO nW w : Nat} {σ : T2} (hI : cInv nO nW σ) (h : ¬ sC_firstFor σ w = 0) : (sC_firstFor σ w - 1).toNatClampNeg < nO := by
  have h1 : sC_firstFor σ w = sC_firstFor_F σ w nO := by
    unfold sC_firstFor
    rw [hI.1, nI_clamp (by have := hI.2.1; omega)]
  rw [h1] at h ⊢
  exact fa_lt hI (ff_rng hI nO (Nat.le_refl _)) h
theorem lt_g {nO nW N i : Nat} {σ : T2} (hI : cInv nO nW σ) (hNc : N = (σ 3 0).toNatClampNeg) (hlt : i < N) : (nI (i + 1) - 1).toNatClampNeg < nO := by
  obtain ⟨h1, h2, -⟩ := hI
  rw [h1, nI_clamp (by omega)] at hNc
  rw [nI_back (by omega)]
  omega
theorem f10_nn {nO nW : Nat} {σ : T2} (hI : cInv nO nW σ) : 0 ≤ σ 10 0 := by
  obtain ⟨-, -, -, -, ⟨K, h1, h2⟩, -⟩ := hI
  rw [h1]; exact nI_pos' (by omega)
theorem ks_in {x : Int32} (hk : 0 ≤ x) (h : ¬ 512 ≤ x) : vp_in x 512 := by
  rw [Int32.le_iff_toInt_le] at h hk
  rw [show (512 : Int32).toInt = 512 by decide] at h
  rw [i32_0] at hk
  exact vp_in_iff.mpr ⟨by omega, by omega⟩
theorem f7_nn {nO nW : Nat} {σ : T2} (hI : cInv nO nW σ) : 0 ≤ σ 7 0 := by
  obtain ⟨-, -, -, -, -, ⟨F, h1, h2⟩, -⟩ := hI
  rw [h1]; exact nI_pos' (by omega)
theorem nio_in {x : Int32} (hk : 0 ≤ x) (h : ¬ 1000 ≤ x) : vp_in x 1000 := by
  rw [Int32.le_iff_toInt_le] at h hk
  rw [show (1000 : Int32).toInt = 1000 by decide] at h
  rw [i32_0] at hk
  exact vp_in_iff.mpr ⟨by omega, by omega⟩
theorem cord_in {nO nW : Nat} {σ : T2} {p : Int32} (hI : cInv nO nW σ) (h : ¬ sC_isWithin p 0 (σ 7 0 - 1) = 0) : vp_in p 1000 := by
  obtain ⟨-, -, -, -, -, ⟨F, h3, h4⟩, -⟩ := hI
  rw [h3] at h
  unfold sC_isWithin at h
  by_cases h1 : p < 0
  · rw [if_pos h1] at h; exact absurd rfl h
  · rw [if_neg h1] at h
    by_cases h2 : nI F - 1 < p
    · rw [if_pos h2] at h; exact absurd rfl h
    · rw [Int32.lt_iff_toInt_lt, show nI F - 1 = nI F - nI 1 from rfl, pk_sub_toInt (by omega) (by omega)] at h2
      rw [Int32.lt_iff_toInt_lt, i32_0] at h1
      exact vp_in_iff.mpr ⟨by omega, by omega⟩
theorem rp_3 {σ : T2} {j : Nat} : sC_releaseOrPurge σ j 3 0 = σ 3 0 := by
  unfold sC_releaseOrPurge
  split <;> rfl
theorem nb_of {x : Int32} (h : x = 0 ∨ x = 1) : narrow .boolean (.int x) = .int x := by rcases h with rfl | rfl <;> rfl
theorem fb_of {x : Int32} (h : x = 0 ∨ x = 1) : fits .boolean (.int x) = true := by rcases h with rfl | rfl <;> rfl
theorem oc_in {nO nW : Nat} {σ : T2} (hI : cInv nO nW σ) (h : σ 3 0 < 1000) : vp_in (σ 3 0) 1000 := by
  obtain ⟨h1, h2, -⟩ := hI
  rw [h1] at h ⊢
  rw [Int32.lt_iff_toInt_lt, nI_toInt (by omega), show (1000 : Int32).toInt = 1000 by decide] at h
  exact vp_in_nI (by omega) (by decide)
theorem ow_in {nO nW : Nat} {σ : T2} (hI : cInv nO nW σ) (h : σ 5 0 < 9) : vp_in (σ 5 0) 9 := by
  obtain ⟨-, -, h1, h2, -⟩ := hI
  rw [h1] at h ⊢
  rw [Int32.lt_iff_toInt_lt, nI_toInt (by omega), show (9 : Int32).toInt = 9 by decide] at h
  exact vp_in_nI (by omega) (by decide)
theorem new_20 {σ : T2} {n : Nat} {p0 p1 p2 : Int32} : sC_new σ n p0 p1 p2 20 n = σ 3 0 + 1 := by
  unfold sC_new
  simp [upd2, upd]
theorem new_30 {σ : T2} {n j : Nat} {p0 p1 p2 : Int32} (h : j ≠ n) : sC_new σ n p0 p1 p2 30 j = σ 30 j := by
  unfold sC_new
  simp [upd2, upd, h]
theorem new_27 {σ : T2} {n j : Nat} {p0 p1 p2 : Int32} (h : j ≠ n) : sC_new σ n p0 p1 p2 27 j = σ 27 j := by
  unfold sC_new
  simp [upd2, upd, h]
theorem seg_20 {σ : T2} {n j : Nat} {p0 p1 p2 x : Int32} : (upd2 (sO_takeSettingsOf (sC_new σ n p0 p1 p2) n j) 26 j x) 20 n = σ 3 0 + 1 := by
  show sC_new σ n p0 p1 p2 20 n = _
  exact new_20
theorem i_nlt {x y : Int32} (h : ¬ x ≤ y) : y < x := by
  rw [Int32.le_iff_toInt_le] at h
  rw [Int32.lt_iff_toInt_lt]
  omega
theorem i_nle {x y : Int32} (h : x ≤ y) : ¬ y < x := by
  rw [Int32.le_iff_toInt_le] at h
  rw [Int32.lt_iff_toInt_lt]
  omega
