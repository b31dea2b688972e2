/-! THE TWO STATES SIDE BY SIDE (no machine here) -/
theorem upd2_get (t : T2) (f i : Nat) (x : Int32) (g k : Nat) : upd2 t f i x g k = if g = f then (if k = i then x else t g k) else t g k := by
  unfold upd2 upd
  by_cases h : g = f
  · subst h; simp
  · simp [h]
theorem nar_b {x : Int32} (h : x = 0 ∨ x = 1) : vp_nar .boolean x = x := by rcases h with rfl | rfl <;> rfl
def pgN (n : Nat) : Nat := (n + 7) / 8
def gvN (x : Int32) : Int32 := if x = 4 then 1 else if x = 5 then 1 else 0
theorem gvN_4 : gvN 4 = 1 := rfl
theorem gvN_5 : gvN 5 = 1 := rfl
theorem gvN_1 : gvN 1 = 0 := rfl
theorem gvN_2 : gvN 2 = 0 := rfl
theorem gvN_3 : gvN 3 = 0 := rfl
theorem sM_gone_eq (τ : T2) (p : Int32) : sM_isGone τ p = gvN (τ 6 p.toNatClampNeg) := rfl
theorem sO_gone_eq (σ : T2) (j : Nat) : sO_isGone σ j = gvN (σ 26 j) := rfl
def alN (τ : T2) (o : Nat) : Nat := if gvN (τ 6 o) = 0 then pgN (τ 7 o).toNatClampNeg else 0
def suN (τ : T2) : Nat → Nat
  | 0 => 0
  | n + 1 => suN τ n + alN τ (n + 1)
theorem su_congr {τ τ' : T2} {n : Nat} (h : ∀ o, o ≤ n → alN τ' o = alN τ o) : suN τ' n = suN τ n := by
  induction n with
  | zero => rfl
  | succ n ih =>
    show suN τ' n + alN τ' (n + 1) = suN τ n + alN τ (n + 1)
    rw [ih (fun o ho => h o (by omega)), h (n + 1) (Nat.le_refl _)]
theorem su_put {τ τ' : T2} {n j : Nat} (hj : j < n) (h : ∀ o, o ≠ j + 1 → alN τ' o = alN τ o) : suN τ' n + alN τ (j + 1) = suN τ n + alN τ' (j + 1) := by
  induction n with
  | zero => omega
  | succ n ih =>
    show suN τ' n + alN τ' (n + 1) + alN τ (j + 1) = suN τ n + alN τ (n + 1) + alN τ' (j + 1)
    by_cases e : j = n
    · subst e
      rw [su_congr (τ := τ) (τ' := τ') (fun o ho => h o (by omega))]
      omega
    · have := ih (by omega)
      rw [h (n + 1) (by omega)]
      omega
theorem pg_nI {L : Nat} (h : L ≤ 100000) : (nI L + 8 - 1) / 8 = nI (pgN L) := by
  show (nI L + nI 8 - 1) / nI 8 = _
  rw [nI_add, show L + 8 = (L + 7) + 1 by omega, nI_pred, pk_div (by omega) (by decide) (by decide)]
  rfl
/-- rows -/
def SA (k nO nW : Nat) (σ τ : T2) : Prop := σ 3 0 = nI nO ∧ τ 13 0 = nI nO ∧ nO ≤ k ∧ σ 5 0 = nI nW ∧ τ 19 0 = nI nW ∧ nW ≤ 9
def SB (nO : Nat) (σ τ : T2) : Prop := ∀ j, j < nO → σ 20 j = nI (j + 1) ∧ σ 21 j = τ 1 (j + 1) ∧ σ 22 j = τ 2 (j + 1) ∧ σ 23 j = τ 3 (j + 1) ∧ σ 24 j = τ 4 (j + 1) ∧ σ 25 j = τ 5 (j + 1) ∧ σ 26 j = τ 6 (j + 1) ∧ σ 27 j = τ 11 (j + 1) ∧ σ 28 j = τ 7 (j + 1) ∧ σ 29 j = τ 8 (j + 1) ∧ σ 30 j = τ 10 (j + 1) ∧ σ 31 j = τ 9 (j + 1) ∧ σ 32 j = τ 12 (j + 1)
def SC (nO : Nat) (τ : T2) : Prop := ∀ o, nO < o → τ 7 o = 0 ∧ τ 8 o = 0 ∧ τ 9 o = 0 ∧ τ 10 o = 0 ∧ τ 11 o = 0 ∧ τ 12 o = 0
def SD (k : Nat) (τ : T2) : Prop := ∀ o, (τ 10 o = 0 ∨ τ 10 o = 1) ∧ (τ 11 o = 0 ∨ τ 11 o = 1) ∧ ∃ L, L ≤ k ∧ τ 7 o = nI L
def SE (nW : Nat) (σ τ : T2) : Prop := ∀ w, w < nW → ∃ c : Nat, c < 2 ^ 31 ∧ τ 17 (w + 1) = nI c ∧ σ 40 w = nI (c % 16) ∧ σ 41 w = nI (c / 16) - 1
def SF (nO nW : Nat) (σ τ : T2) : Prop := (∀ w, w < nW → σ 42 w = τ 18 (w + 1) ∧ (τ 18 (w + 1) = 0 ∨ ∃ j, j < nO ∧ τ 18 (w + 1) = nI (j + 1) ∧ τ 6 (j + 1) = 3)) ∧ (∀ w, vp_in (τ 18 w) 1001) ∧ (∀ w, nW < w → τ 18 w = 0) ∧ ∀ w w', w < nW → w' < nW → w ≠ w' → τ 18 (w + 1) = τ 18 (w' + 1) → τ 18 (w + 1) = 0
def SG (nO : Nat) (σ τ : T2) : Prop := ∃ R, R ≤ 65536 ∧ τ 0 0 = nI R ∧ σ 0 0 = nI (R / 8) ∧ suN τ nO ≤ R ∧ σ 1 0 = nI (R - suN τ nO)
def SH (k : Nat) (σ τ : T2) : Prop := ∃ F, F ≤ k ∧ σ 7 0 = nI F ∧ τ 21 0 = nI F ∧ ∀ i, i < F → σ 6 i = τ 20 i
def SI (σ τ : T2) : Prop := σ 11 0 = τ 22 0 ∧ σ 12 0 = τ 23 0
def ctN (P : Int32 → Int32 → Bool) (s o : Nat → Int32) : Nat → Int32
  | 0 => 0
  | n + 1 => if P (s n) (o n) = true then ctN P s o n + 1 else ctN P s o n
def SJ (k nO : Nat) (σ τ : T2) : Prop := ∃ A K, A ≤ k ∧ K ≤ A ∧ τ 16 0 = nI A ∧ σ 10 0 = nI K ∧ (∀ a, a < A → ∃ j, j < nO ∧ τ 14 a = nI (j + 1)) ∧ (∀ i, i < K → ∃ j, j < nO ∧ σ 9 i = nI (j + 1)) ∧ ∀ P : Int32 → Int32 → Bool, (∀ o, P (-1) o = false) → ctN P (σ 8) (σ 9) K = ctN P (τ 15) (τ 14) A
def Sim (k nO nW : Nat) (σ τ : T2) : Prop := SA k nO nW σ τ ∧ SB nO σ τ ∧ SC nO τ ∧ SD k τ ∧ SE nW σ τ ∧ SF nO nW σ τ ∧ SG nO σ τ ∧ SH k σ τ ∧ SI σ τ ∧ SJ k nO σ τ
theorem SA_c {k k' nO nW : Nat} {σ τ σ' τ' : T2} (hk : k ≤ k') (h : SA k nO nW σ τ) (e1 : σ' 3 = σ 3) (e2 : τ' 13 = τ 13) (e3 : σ' 5 = σ 5) (e4 : τ' 19 = τ 19) : SA k' nO nW σ' τ' := by
  unfold SA at *
  rw [e1, e2, e3, e4]
  obtain ⟨a, b, c, d⟩ := h
  exact ⟨a, b, by omega, d⟩
theorem SB_c {nO : Nat} {σ τ σ' τ' : T2} (h : SB nO σ τ) (e : ∀ g, 20 ≤ g → g < 33 → σ' g = σ g) (f : ∀ g, g < 13 → τ' g = τ g) : SB nO σ' τ' := by
  unfold SB at *
  rw [e 20 (by decide) (by decide), e 21 (by decide) (by decide), e 22 (by decide) (by decide), e 23 (by decide) (by decide), e 24 (by decide) (by decide), e 25 (by decide) (by decide), e 26 (by decide) (by decide), e 27 (by decide) (by decide), e 28 (by decide) (by decide), e 29 (by decide) (by decide), e 30 (by decide) (by decide), e 31 (by decide) (by decide), e 32 (by decide) (by decide), f 1 (by decide), f 2 (by decide), f 3 (by decide), f 4 (by decide), f 5 (by decide), f 6 (by decide), f 7 (by decide), f 8 (by decide), f 9 (by decide), f 10 (by decide), f 11 (by decide), f 12 (by decide)]
  exact h
theorem SC_c {nO : Nat} {τ τ' : T2} (h : SC nO τ) (e7 : τ' 7 = τ 7) (e8 : τ' 8 = τ 8) (e9 : τ' 9 = τ 9) (e10 : τ' 10 = τ 10) (e11 : τ' 11 = τ 11) (e12 : τ' 12 = τ 12) : SC nO τ' := by
  unfold SC at *
  rw [e7, e8, e9, e10, e11, e12]
  exact h
theorem SC_row {nO : Nat} {τ τ' : T2} (h : SC nO τ) {j : Nat} (hj : j < nO) (e : ∀ g o, o ≠ j + 1 → τ' g o = τ g o) : SC nO τ' := by
  intro o ho
  have hne : o ≠ j + 1 := by omega
  rw [e 7 o hne, e 8 o hne, e 9 o hne, e 10 o hne, e 11 o hne, e 12 o hne]
  exact h o ho
theorem SD_c {k k' : Nat} {τ τ' : T2} (hk : k ≤ k') (h : SD k τ) (e7 : τ' 7 = τ 7) (e10 : τ' 10 = τ 10) (e11 : τ' 11 = τ 11) : SD k' τ' := by
  unfold SD at *
  rw [e7, e10, e11]
  intro o
  obtain ⟨a, b, L, c, d⟩ := h o
  exact ⟨a, b, L, by omega, d⟩
theorem SE_c {nW : Nat} {σ τ σ' τ' : T2} (h : SE nW σ τ) (e1 : σ' 40 = σ 40) (e2 : σ' 41 = σ 41) (e3 : τ' 17 = τ 17) : SE nW σ' τ' := by
  unfold SE at *
  rw [e1, e2, e3]
  exact h
theorem SF_c {nO nW : Nat} {σ τ σ' τ' : T2} (h : SF nO nW σ τ) (e1 : σ' 42 = σ 42) (e2 : τ' 18 = τ 18) (e3 : τ' 6 = τ 6) : SF nO nW σ' τ' := by
  unfold SF at *
  rw [e1, e2, e3]
  exact h
theorem SG_c {nO : Nat} {σ τ σ' τ' : T2} (h : SG nO σ τ) (e1 : σ' 0 = σ 0) (e2 : σ' 1 = σ 1) (e3 : τ' 0 = τ 0) (e4 : τ' 6 = τ 6) (e5 : τ' 7 = τ 7) : SG nO σ' τ' := by
  have e6 : suN τ' nO = suN τ nO := su_congr (fun o _ => by unfold alN; rw [e4, e5])
  unfold SG at *
  rw [e1, e2, e3, e6]
  exact h
theorem SH_c {k k' : Nat} {σ τ σ' τ' : T2} (hk : k ≤ k') (h : SH k σ τ) (e1 : σ' 6 = σ 6) (e2 : σ' 7 = σ 7) (e3 : τ' 20 = τ 20) (e4 : τ' 21 = τ 21) : SH k' σ' τ' := by
  unfold SH at *
  rw [e1, e2, e3, e4]
  obtain ⟨F, a, b⟩ := h
  exact ⟨F, by omega, b⟩
theorem SI_c {σ τ σ' τ' : T2} (h : SI σ τ) (e1 : σ' 11 = σ 11) (e2 : σ' 12 = σ 12) (e3 : τ' 22 = τ 22) (e4 : τ' 23 = τ 23) : SI σ' τ' := by
  unfold SI at *
  rw [e1, e2, e3, e4]
  exact h
theorem SJ_c {k k' nO : Nat} {σ τ σ' τ' : T2} (hk : k ≤ k') (h : SJ k nO σ τ) (e1 : σ' 8 = σ 8) (e2 : σ' 9 = σ 9) (e3 : σ' 10 = σ 10) (e4 : τ' 14 = τ 14) (e5 : τ' 15 = τ 15) (e6 : τ' 16 = τ 16) : SJ k' nO σ' τ' := by
  unfold SJ at *
  rw [e1, e2, e3, e4, e5, e6]
  obtain ⟨A, K, a, b⟩ := h
  exact ⟨A, K, by omega, b⟩
theorem Sim.mono {k nO nW : Nat} {σ τ : T2} (h : Sim k nO nW σ τ) : Sim (k + 1) nO nW σ τ := by
  obtain ⟨hA, hB, hC, hD, hE, hF, hG, hH, hIs, hJ⟩ := h
  exact ⟨SA_c (by omega) hA rfl rfl rfl rfl, hB, hC, SD_c (by omega) hD rfl rfl rfl, hE, hF, hG, SH_c (by omega) hH rfl rfl rfl rfl, hIs, SJ_c (by omega) hJ rfl rfl rfl rfl rfl rfl⟩
/-- what the walks want -/
theorem Sim.mi {k nO nW : Nat} {σ τ : T2} (h : Sim k nO nW σ τ) (hk : k ≤ 512) : mInv τ := by
  obtain ⟨⟨-, a1, a2, -, a3, a4⟩, -, -, -, -, ⟨-, f2, -⟩, -, ⟨F, h1, -, h2, -⟩, -, A, K, j1, -, j2, -, j3, -⟩ := h
  refine ⟨nO, nW, A, F, a1, by omega, a3, a4, j2, by omega, h2, by omega, fun a ha => ?_, f2⟩
  obtain ⟨j, hj, e⟩ := j3 a ha
  rw [e]
  exact vp_in_nI (by omega) (by decide)
theorem Sim.ci {k nO nW : Nat} {σ τ : T2} (h : Sim k nO nW σ τ) (hk : k ≤ 512) : cInv nO nW σ := by
  obtain ⟨⟨a1, -, a2, a3, -, a4⟩, hB, -, hD, -, ⟨f1, -⟩, -, ⟨F, h1, h2, -⟩, -, A, K, j1, j2, -, j3, -⟩ := h
  refine ⟨a1, by omega, a3, a4, ⟨K, j3, by omega⟩, ⟨F, h2, by omega⟩, fun w hw => ?_, fun j hj => ?_⟩
  · obtain ⟨e, q⟩ := f1 w hw
    rw [e]
    rcases q with q | ⟨j, hj, q, -⟩
    · exact Or.inl q
    · exact Or.inr ⟨j, hj, q⟩
  · obtain ⟨-, -, -, -, -, -, -, b7, -, -, b10, -⟩ := hB j hj
    obtain ⟨d1, d2, -⟩ := hD (j + 1)
    rw [b7, b10]
    exact ⟨d2, d1⟩
/-- an argument is the number of an output, or of none, on both sides -/
theorem Sim.out {k nO nW : Nat} {σ τ : T2} (h : Sim k nO nW σ τ) (hk : k ≤ 512) (p : Int32) : (sC_isWithin p 1 (σ 3 0) = 0 ∧ sM_isOutput τ p = 0) ∨ ∃ j, j < nO ∧ p = nI (j + 1) ∧ ¬ sC_isWithin p 1 (σ 3 0) = 0 ∧ ¬ sM_isOutput τ p = 0 ∧ (p - 1).toNatClampNeg = j ∧ p.toNatClampNeg = j + 1 := by
  obtain ⟨⟨a1, a2, a3, -⟩, -⟩ := h
  by_cases hp : 0 < p.toInt ∧ p.toInt ≤ nO
  · obtain ⟨j, hj, rfl⟩ := ix1 (n := nO) (by omega) hp.1 hp.2
    refine Or.inr ⟨j, hj, rfl, ?_, ?_, nI_back (by omega), nI_clamp (by omega)⟩
    · unfold sC_isWithin
      rw [a1, if_neg (fun q => by rw [Int32.lt_iff_toInt_lt, i32_1, nI_toInt (by omega)] at q; omega), if_neg (nI_nlt (by omega) (by omega))]
      decide
    · unfold sM_isOutput
      rw [a2, if_neg (nI_nle (by omega) (by omega)), if_neg (nI_nlt (by omega) (by omega))]
      decide
  · refine Or.inl ⟨?_, ?_⟩
    · unfold sC_isWithin
      by_cases h1 : p < 1
      · rw [if_pos h1]
      · rw [if_neg h1, if_pos]
        rw [a1, Int32.lt_iff_toInt_lt, nI_toInt (by omega)]
        rw [Int32.lt_iff_toInt_lt, i32_1] at h1
        omega
    · unfold sM_isOutput
      by_cases h1 : p ≤ 0
      · rw [if_pos h1]
      · rw [if_neg h1, if_pos]
        rw [a2, Int32.lt_iff_toInt_lt, nI_toInt (by omega)]
        rw [Int32.le_iff_toInt_le, i32_0] at h1
        omega
theorem Sim.wr {k nO nW : Nat} {σ τ : T2} (h : Sim k nO nW σ τ) (p : Int32) : (sC_isWithin p 1 (σ 5 0) = 0 ∧ sM_isWriter τ p = 0) ∨ ∃ j, j < nW ∧ p = nI (j + 1) ∧ ¬ sC_isWithin p 1 (σ 5 0) = 0 ∧ ¬ sM_isWriter τ p = 0 ∧ (p - 1).toNatClampNeg = j ∧ p.toNatClampNeg = j + 1 := by
  obtain ⟨⟨-, -, -, a1, a2, a3⟩, -⟩ := h
  by_cases hp : 0 < p.toInt ∧ p.toInt ≤ nW
  · obtain ⟨j, hj, rfl⟩ := ix1 (n := nW) (by omega) hp.1 hp.2
    refine Or.inr ⟨j, hj, rfl, ?_, ?_, nI_back (by omega), nI_clamp (by omega)⟩
    · unfold sC_isWithin
      rw [a1, if_neg (fun q => by rw [Int32.lt_iff_toInt_lt, i32_1, nI_toInt (by omega)] at q; omega), if_neg (nI_nlt (by omega) (by omega))]
      decide
    · unfold sM_isWriter
      rw [a2, if_neg (nI_nle (by omega) (by omega)), if_neg (nI_nlt (by omega) (by omega))]
      decide
  · refine Or.inl ⟨?_, ?_⟩
    · unfold sC_isWithin
      by_cases h1 : p < 1
      · rw [if_pos h1]
      · rw [if_neg h1, if_pos]
        rw [a1, Int32.lt_iff_toInt_lt, nI_toInt (by omega)]
        rw [Int32.lt_iff_toInt_lt, i32_1] at h1
        omega
    · unfold sM_isWriter
      by_cases h1 : p ≤ 0
      · rw [if_pos h1]
      · rw [if_neg h1, if_pos]
        rw [a2, Int32.lt_iff_toInt_lt, nI_toInt (by omega)]
        rw [Int32.le_iff_toInt_le, i32_0] at h1
        omega
/-- both states, an answer's pair -/
def Same (k nO nW : Nat) (x y : Int32 × T2) : Prop := x.1 = y.1 ∧ Sim k nO nW x.2 y.2
theorem same_of {k nO nW : Nat} {a : Int32} {σ τ : T2} (h : Sim k nO nW σ τ) : Same k nO nW (a, σ) (a, τ) := ⟨rfl, h⟩
theorem iw_ok {x a b : Int32} (h1 : ¬ x < a) (h2 : ¬ b < x) : sC_isWithin x a b = 1 := by unfold sC_isWithin; rw [if_neg h1, if_neg h2]
theorem iw_lo {x a b : Int32} (h1 : x < a) : sC_isWithin x a b = 0 := by unfold sC_isWithin; rw [if_pos h1]
theorem iw_hi {x a b : Int32} (h2 : b < x) : sC_isWithin x a b = 0 := by
  unfold sC_isWithin
  by_cases h1 : x < a
  · rw [if_pos h1]
  · rw [if_neg h1, if_pos h2]
