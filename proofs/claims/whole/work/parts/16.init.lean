theorem oc_lt {k nO nW : Nat} {σ τ : T2} (h : Sim k nO nW σ τ) (hk : k < 512) : σ 3 0 < 1000 := by
  have hn := h.1.2.2.1
  rw [h.1.1]
  exact nI_lt (b := 1000) (by omega) (by decide)
/-! the start -/
theorem room_eq (p : Int32) : cRoom p = mRoom p := by
  unfold cRoom mRoom
  by_cases h1 : p < 0
  · have h2 : ¬ (65536 : Int32) < p := fun q => by
      rw [Int32.lt_iff_toInt_lt, show (65536 : Int32).toInt = 65536 by decide] at q
      rw [Int32.lt_iff_toInt_lt, i32_0] at h1
      omega
    have h3 : ¬ (0 : Int32) < p := fun q => by
      rw [Int32.lt_iff_toInt_lt, i32_0] at q h1
      omega
    rw [if_pos h1, if_neg h2, if_neg h3]
  · rw [if_neg h1]
    by_cases h2 : (65536 : Int32) < p
    · rw [if_pos h2, if_pos (by decide)]
    · rw [if_neg h2]
      by_cases h3 : (0 : Int32) < p
      · rw [if_pos h3]
      · rw [if_neg h3]
        rw [Int32.lt_iff_toInt_lt, i32_0] at h1 h3
        exact Int32.toInt_inj.mp (by rw [i32_0]; omega)
theorem room_nI (p : Int32) : ∃ R, R ≤ 65536 ∧ mRoom p = nI R := by
  unfold mRoom
  by_cases h1 : p < 0
  · rw [if_pos h1]; exact ⟨0, by omega, nI_0.symm⟩
  · rw [if_neg h1]
    by_cases h2 : (65536 : Int32) < p
    · rw [if_pos h2]; exact ⟨65536, by omega, rfl⟩
    · rw [if_neg h2]
      obtain ⟨j, hj, e⟩ := nI_of h1
      refine ⟨j, ?_, e⟩
      rw [e, Int32.lt_iff_toInt_lt, show (65536 : Int32).toInt = 65536 by decide, nI_toInt hj] at h2
      omega
theorem Sim.init (p : Int32) : Sim 0 0 0 (c0 (cRoom p)) (m0 (mRoom p)) := by
  rw [room_eq]
  obtain ⟨R, hR, e⟩ := room_nI p
  rw [e]
  have zt : ∀ g o, g ≠ 0 → m0 (nI R) g o = 0 := fun g o hg => by unfold m0; rw [upd2_ne hg]
  have zs : ∀ g o, g ≠ 0 → g ≠ 1 → c0 (nI R) g o = 0 := fun g o h0 h1 => by unfold c0; rw [upd2_ne h0, upd2_ne h1]
  refine ⟨⟨?_, ?_, by omega, ?_, ?_, by omega⟩, fun j hj => by omega, fun o _ => ?_, fun o => ?_, fun w hw => by omega, ⟨fun w hw => by omega, fun w => ?_, fun w _ => zt 18 w (by decide), fun w w' hw => by omega⟩, ⟨R, hR, rfl, ?_, by show 0 ≤ R; omega, rfl⟩, ⟨0, by omega, ?_, ?_, fun i hi => by omega⟩, ⟨?_, ?_⟩, ⟨0, 0, by omega, by omega, ?_, ?_, fun a ha => by omega, fun a ha => by omega, fun P hP => rfl⟩⟩
  · rw [zs 3 0 (by decide) (by decide)]; exact nI_0.symm
  · rw [zt 13 0 (by decide)]; exact nI_0.symm
  · rw [zs 5 0 (by decide) (by decide)]; exact nI_0.symm
  · rw [zt 19 0 (by decide)]; exact nI_0.symm
  · exact ⟨zt 7 o (by decide), zt 8 o (by decide), zt 9 o (by decide), zt 10 o (by decide), zt 11 o (by decide), zt 12 o (by decide)⟩
  · exact ⟨Or.inl (zt 10 o (by decide)), Or.inl (zt 11 o (by decide)), 0, by omega, by rw [zt 7 o (by decide)]; exact nI_0.symm⟩
  · rw [zt 18 w (by decide)]; exact in_0
  · show nI R / 8 = nI (R / 8)
    rw [show nI R / 8 = nI R / nI 8 from rfl, pk_div (by omega) (by decide) (by decide)]
  · rw [zs 7 0 (by decide) (by decide)]; exact nI_0.symm
  · rw [zt 21 0 (by decide)]; exact nI_0.symm
  · rw [zs 11 0 (by decide) (by decide), zt 22 0 (by decide)]
  · rw [zs 12 0 (by decide) (by decide), zt 23 0 (by decide)]
  · rw [zt 16 0 (by decide)]; exact nI_0.symm
  · rw [zs 10 0 (by decide) (by decide)]; exact nI_0.symm
