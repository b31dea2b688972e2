theorem sl_0 {i L : Nat} (h : i + 3 < L) (hL : L ≤ 2049) : vp_in (nI i) L := vp_in_nI (by omega) (by omega)
theorem sl_1 {i L : Nat} (h : i + 3 < L) (hL : L ≤ 2049) : vp_in (nI i + 1) L := by rw [show nI i + 1 = nI (i + 1) from nI_add i 1]; exact vp_in_nI (by omega) (by omega)
theorem sl_2 {i L : Nat} (h : i + 3 < L) (hL : L ≤ 2049) : vp_in (nI i + 2) L := by rw [show nI i + 2 = nI (i + 2) from nI_add i 2]; exact vp_in_nI (by omega) (by omega)
theorem sl_3 {i L : Nat} (h : i + 3 < L) (hL : L ≤ 2049) : vp_in (nI i + 3) L := by rw [show nI i + 3 = nI (i + 3) from nI_add i 3]; exact vp_in_nI (by omega) (by omega)
theorem le_go {i L : Nat} (hL : L ≤ 2049) (h : i + 3 < L) : ¬ Int32.ofNat L - 4 < nI i := by
  show ¬ nI L - nI 4 < nI i
  rw [pk_sub (by omega)]
  exact nI_nlt (by omega) (by omega)
theorem le_stop {i L : Nat} (hL : L ≤ 2049) (hi : i ≤ 2057) (h : ¬ i + 3 < L) : Int32.ofNat L - 4 < nI i := by
  show nI L - nI 4 < nI i
  rw [Int32.lt_iff_toInt_lt, pk_sub_toInt (by omega) (by omega), nI_toInt (by omega)]
  omega
set_option maxHeartbeats 16000000 in
set_option maxRecDepth 100000 in
theorem law_loop {p : Program} {e : Env} {s : State} {m : MethodId} {below : List Frame} {meth : Method} {c : Code} {l : Launch} {b L : Nat} {xs : Nat → Int32} {dC : Nat → ClassId} {dI : Nat → Nat → Nat} {cI cZ cO cW : ClassId} {h hm : Nat} {adr am : Nat → Nat} (hL : L ≤ 2049) (C0 : lw_At p s m meth c b L xs) (hK : va_K (dC, dI) vwCl (tyL cI cZ cO cW) s) :
    ∀ (n k i nO nW : Nat) (ad wd : Nat → Nat) (σ τ : T2) (H : Heap) (locs : List Loc) (ls : Array Slot), i = 4 * k + 1 → k ≤ 512 → L < i + n → Sim k nO nW σ τ → va_P (dC, dI) vwCl (cWd h adr ad wd nO nW cI cO cW σ ++ mW hm am cI cZ τ) H → va_D (fun q : Nat => s.heap.size ≤ q) (cWd h adr ad wd nO nW cI cO cW σ ++ mW hm am cI cZ τ) → va_S (fun q : Nat => s.heap.size ≤ q) s.heap H locs → lv_has ls 4 [(0, .ref b), (1, .ref h), (2, .ref hm), (3, .int (nI i))] →
      W p l e room_1 s m #[Value.ref b] below meth c H locs (24 + k) (18303 + 13 * k) (lw_Z below #[Value.ref b] s) (F0 m 28 ls []) := by
  obtain ⟨hx, hb, hr, hml, hown, hts, hX, hbl, hlocks, hgv⟩ := id C0
  have hown : s.vm.findClass RL = some m.cls := hown
  have hA : ∀ q : Nat, s.heap.size ≤ q → (fun q : Nat => s.heap.size ≤ q) q := fun _ h => h
  have hbA : ¬ (fun q : Nat => s.heap.size ≤ q) b := Nat.not_le.mpr hbl
  intro n
  induction n with
  | zero =>
    intro k i nO nW ad wd σ τ H locs ls hi hk0 hn hSim hP hD hS hl
    have hlt : ¬ i + 3 < L := by omega
    refine lv_iload_n hx hb dL_law_28 rfl (lv_at hl 3 rfl) ?_
    refine lv_aload_n hx hb dL_law_29 rfl (lv_at hl 0 rfl) ?_
    refine va_slen hx hb hX hbl hbA hS dL_law_30 ?_
    refine lv_iconst (v := 4) hx hb dL_law_31 (by decide) ?_
    refine lv_isub hx hb dL_law_32 ?_
    refine lv_icmp_gt (tgt := 616) hx hb dL_law_33 (by decide) (fun c1_ => ?_) (fun c1_ => absurd (le_stop hL (by omega) hlt) c1_)
    refine lv_iconst (v := 1) hx hb dL_law_616 (by decide) ?_
    refine va_forget hS.2.2 ?_
    refine W.widen (k := 600000) (n := 7302250) (by omega) (by omega) ?_
    exact lw_ret hx hb hr hlocks dL_law_617
  | succ n ih =>
    intro k i nO nW ad wd σ τ H locs ls hi hk0 hn hSim hP hD hS hl
    refine lv_iload_n hx hb dL_law_28 rfl (lv_at hl 3 rfl) ?_
    refine lv_aload_n hx hb dL_law_29 rfl (lv_at hl 0 rfl) ?_
    refine va_slen hx hb hX hbl hbA hS dL_law_30 ?_
    refine lv_iconst (v := 4) hx hb dL_law_31 (by decide) ?_
    refine lv_isub hx hb dL_law_32 ?_
    by_cases hlt : i + 3 < L
    · refine lv_icmp_gt (tgt := 616) hx hb dL_law_33 (by decide) (fun c1_ => absurd c1_ (le_go hL hlt)) (fun c1_ => ?_)
      have hk : k < 512 := by omega
      have hCi := hSim.ci (by omega)
      have hMi := hSim.mi (by omega)
      refine lv_aload_n hx hb dL_law_36 rfl (lv_at hl 0 rfl) ?_
      refine lv_iload_n hx hb dL_law_37 rfl (lv_at hl 3 rfl) ?_
      refine va_sld hx hb hX hbl hbA hS (sl_0 hlt hL) dL_law_38 ?_
      refine lv_bipush (v := 15) hx hb dL_law_39 (by decide) ?_
      refine lv_iand hx hb dL_law_41 ?_
      by_cases c1_ : ((xs (nI i).toNatClampNeg) &&& 15) = 0
      · refine lv_tableIn (tgt := 120) hx hb dL_law_42 (by rw [c1_]; decide) (by rw [c1_]; decide) (by rw [c1_]; rfl) (by decide) ?_
        refine lv_aload_n hx hb dL_law_120 rfl (lv_at hl 1 rfl) ?_
        refine lv_aload_n hx hb dL_law_121 rfl (lv_at hl 0 rfl) ?_
        refine lv_iload_n hx hb dL_law_122 rfl (lv_at hl 3 rfl) ?_
        refine lv_iconst (v := 1) hx hb dL_law_123 (by decide) ?_
        refine lv_iadd hx hb dL_law_124 ?_
        refine va_sld hx hb hX hbl hbA hS (sl_1 hlt hL) dL_law_125 ?_
        refine lv_aload_n hx hb dL_law_126 rfl (lv_at hl 0 rfl) ?_
        refine lv_iload_n hx hb dL_law_127 rfl (lv_at hl 3 rfl) ?_
        refine lv_iconst (v := 2) hx hb dL_law_128 (by decide) ?_
        refine lv_iadd hx hb dL_law_129 ?_
        refine va_sld hx hb hX hbl hbA hS (sl_2 hlt hL) dL_law_130 ?_
        refine lv_aload_n hx hb dL_law_131 rfl (lv_at hl 0 rfl) ?_
        refine lv_iload_n hx hb dL_law_132 rfl (lv_at hl 3 rfl) ?_
        refine lv_iconst (v := 3) hx hb dL_law_133 (by decide) ?_
        refine lv_iadd hx hb dL_law_134 ?_
        refine va_sld hx hb hX hbl hbA hS (sl_3 hlt hL) dL_law_135 ?_
        refine w_calli (va_runV (As := [.int (xs ((nI i) + 1).toNatClampNeg), .int (xs ((nI i) + 2).toNatClampNeg), .int (xs ((nI i) + 3).toNatClampNeg)]) (rest := []) ⟨hx, hb, hml, hown, hts⟩ (c_C_output l dC dI cI cZ cO cW s.heap.size (mW hm am cI cZ τ) h adr ad wd nO nW σ (xs ((nI i) + 1).toNatClampNeg) (xs ((nI i) + 2).toNatClampNeg) (xs ((nI i) + 3).toNatClampNeg) hCi (oc_lt hSim hk)) (cwV 3 hts gL_law_X0_output rfl rfl rfl (by decide +kernel) ⟨(Nat.le_of_ble_eq_true rfl), (Nat.le_of_ble_eq_true rfl)⟩) (wPreV hS.1 hP hK hD (va_recv hK hP (ci := 0) (q0 := 0) rfl rfl)) rfl rfl hl.1 rfl (lv_room (Nat.le_of_ble_eq_true rfl)) dL_law_136 ⟨by show _ ≤ 600000; omega, by show _ ≤ 7302250; omega⟩) hS (fun r u H locs e_ hP hD hS => ?_)
        obtain ⟨e1_, e2_⟩ := e_
        subst e1_
        have hP : va_P (dC, dI) vwCl (cWd h adr u.1 wd u.2.1 nW cI cO cW u.2.2 ++ mW hm am cI cZ τ) H := hP
        have hD : va_D (fun q : Nat => s.heap.size ≤ q) (cWd h adr u.1 wd u.2.1 nW cI cO cW u.2.2 ++ mW hm am cI cZ τ) := hD
        rw [e2_] at hP hD
        refine W.widen (k := 24 + k + 1) (n := 18303 + 13 * k + 13) (by omega) (by omega) ?_
        have hP : va_P (dC, dI) vwCl (cWd h adr u.1 wd ((sC_output nO σ (xs ((nI i) + 1).toNatClampNeg) (xs ((nI i) + 2).toNatClampNeg) (xs ((nI i) + 3).toNatClampNeg)).2.1) nW cI cO cW ((sC_output nO σ (xs ((nI i) + 1).toNatClampNeg) (xs ((nI i) + 2).toNatClampNeg) (xs ((nI i) + 3).toNatClampNeg)).2.2) ++ mW hm am cI cZ τ) H := hP
        have hD : va_D (fun q : Nat => s.heap.size ≤ q) (cWd h adr u.1 wd ((sC_output nO σ (xs ((nI i) + 1).toNatClampNeg) (xs ((nI i) + 2).toNatClampNeg) (xs ((nI i) + 3).toNatClampNeg)).2.1) nW cI cO cW ((sC_output nO σ (xs ((nI i) + 1).toNatClampNeg) (xs ((nI i) + 2).toNatClampNeg) (xs ((nI i) + 3).toNatClampNeg)).2.2) ++ mW hm am cI cZ τ) := hD
        refine lv_aload_n hx hb dL_law_139 rfl (lv_at hl 2 rfl) ?_
        refine lv_aload_n hx hb dL_law_140 rfl (lv_at hl 0 rfl) ?_
        refine lv_iload_n hx hb dL_law_141 rfl (lv_at hl 3 rfl) ?_
        refine lv_iconst (v := 1) hx hb dL_law_142 (by decide) ?_
        refine lv_iadd hx hb dL_law_143 ?_
        refine va_sld hx hb hX hbl hbA hS (sl_1 hlt hL) dL_law_144 ?_
        refine lv_aload_n hx hb dL_law_145 rfl (lv_at hl 0 rfl) ?_
        refine lv_iload_n hx hb dL_law_146 rfl (lv_at hl 3 rfl) ?_
        refine lv_iconst (v := 2) hx hb dL_law_147 (by decide) ?_
        refine lv_iadd hx hb dL_law_148 ?_
        refine va_sld hx hb hX hbl hbA hS (sl_2 hlt hL) dL_law_149 ?_
        refine lv_aload_n hx hb dL_law_150 rfl (lv_at hl 0 rfl) ?_
        refine lv_iload_n hx hb dL_law_151 rfl (lv_at hl 3 rfl) ?_
        refine lv_iconst (v := 3) hx hb dL_law_152 (by decide) ?_
        refine lv_iadd hx hb dL_law_153 ?_
        refine va_sld hx hb hX hbl hbA hS (sl_3 hlt hL) dL_law_154 ?_
        have hP : va_P (dC, dI) vwCl (mW hm am cI cZ τ ++ cWd h adr u.1 wd ((sC_output nO σ (xs ((nI i) + 1).toNatClampNeg) (xs ((nI i) + 2).toNatClampNeg) (xs ((nI i) + 3).toNatClampNeg)).2.1) nW cI cO cW ((sC_output nO σ (xs ((nI i) + 1).toNatClampNeg) (xs ((nI i) + 2).toNatClampNeg) (xs ((nI i) + 3).toNatClampNeg)).2.2)) H := va_P_perm hP List.perm_append_comm
        have hD : va_D (fun q : Nat => s.heap.size ≤ q) (mW hm am cI cZ τ ++ cWd h adr u.1 wd ((sC_output nO σ (xs ((nI i) + 1).toNatClampNeg) (xs ((nI i) + 2).toNatClampNeg) (xs ((nI i) + 3).toNatClampNeg)).2.1) nW cI cO cW ((sC_output nO σ (xs ((nI i) + 1).toNatClampNeg) (xs ((nI i) + 2).toNatClampNeg) (xs ((nI i) + 3).toNatClampNeg)).2.2)) := va_D_perm hD List.perm_append_comm
        refine w_calli (va_runV (As := [.int (xs ((nI i) + 1).toNatClampNeg), .int (xs ((nI i) + 2).toNatClampNeg), .int (xs ((nI i) + 3).toNatClampNeg)]) (rest := [.int ((sC_output nO σ (xs ((nI i) + 1).toNatClampNeg) (xs ((nI i) + 2).toNatClampNeg) (xs ((nI i) + 3).toNatClampNeg)).1)]) ⟨hx, hb, hml, hown, hts⟩ (c_M_output l dC dI cI cZ cO cW s.heap.size (cWd h adr u.1 wd ((sC_output nO σ (xs ((nI i) + 1).toNatClampNeg) (xs ((nI i) + 2).toNatClampNeg) (xs ((nI i) + 3).toNatClampNeg)).2.1) nW cI cO cW ((sC_output nO σ (xs ((nI i) + 1).toNatClampNeg) (xs ((nI i) + 2).toNatClampNeg) (xs ((nI i) + 3).toNatClampNeg)).2.2)) hm am τ (xs ((nI i) + 1).toNatClampNeg) (xs ((nI i) + 2).toNatClampNeg) (xs ((nI i) + 3).toNatClampNeg) hMi) (cwV 3 hts gL_law_X3_output rfl rfl rfl (by decide +kernel) ⟨(Nat.le_of_ble_eq_true rfl), (Nat.le_of_ble_eq_true rfl)⟩) (wPreV hS.1 hP hK hD (va_recv hK hP (ci := 3) (q0 := 0) rfl rfl)) rfl rfl hl.1 rfl (lv_room (Nat.le_of_ble_eq_true rfl)) dL_law_155 ⟨by show _ ≤ 600000; omega, by show _ ≤ 7302250; omega⟩) hS (fun r u H locs e_ hP hD hS => ?_)
        obtain ⟨rfl, rfl⟩ := e_
        have hP : va_P (dC, dI) vwCl (cWd h adr u.1 wd ((sC_output nO σ (xs ((nI i) + 1).toNatClampNeg) (xs ((nI i) + 2).toNatClampNeg) (xs ((nI i) + 3).toNatClampNeg)).2.1) nW cI cO cW ((sC_output nO σ (xs ((nI i) + 1).toNatClampNeg) (xs ((nI i) + 2).toNatClampNeg) (xs ((nI i) + 3).toNatClampNeg)).2.2) ++ mW hm am cI cZ ((sM_output τ (xs ((nI i) + 1).toNatClampNeg) (xs ((nI i) + 2).toNatClampNeg) (xs ((nI i) + 3).toNatClampNeg)).2)) H := va_P_perm hP List.perm_append_comm
        have hD : va_D (fun q : Nat => s.heap.size ≤ q) (cWd h adr u.1 wd ((sC_output nO σ (xs ((nI i) + 1).toNatClampNeg) (xs ((nI i) + 2).toNatClampNeg) (xs ((nI i) + 3).toNatClampNeg)).2.1) nW cI cO cW ((sC_output nO σ (xs ((nI i) + 1).toNatClampNeg) (xs ((nI i) + 2).toNatClampNeg) (xs ((nI i) + 3).toNatClampNeg)).2.2) ++ mW hm am cI cZ ((sM_output τ (xs ((nI i) + 1).toNatClampNeg) (xs ((nI i) + 2).toNatClampNeg) (xs ((nI i) + 3).toNatClampNeg)).2)) := va_D_perm hD List.perm_append_comm
        refine lv_icmp_eq (tgt := 610) hx hb dL_law_158 (by decide) (fun c17_ => ?_) (fun c17_ => ?_)
        · refine lv_iinc (v := nI (i + 4)) (lv' := [(3, .int (nI (i + 4))), (0, .ref b), (1, .ref h), (2, .ref hm)]) hx hb dL_law_610 hl (k := 3) rfl (nI_add i 4) (by decide) rfl (fun ls hl => ?_)
          refine lv_goto (tgt := 28) hx hb dL_law_613 (by decide) ?_
          refine W.widen (k := 24 + (k + 1)) (n := 18303 + 13 * (k + 1)) (by omega) (by omega) ?_
          exact ih (k + 1) (i + 4) ((sC_output nO σ (xs ((nI i) + 1).toNatClampNeg) (xs ((nI i) + 2).toNatClampNeg) (xs ((nI i) + 3).toNatClampNeg)).2.1) nW u.1 wd ((sC_output nO σ (xs ((nI i) + 1).toNatClampNeg) (xs ((nI i) + 2).toNatClampNeg) (xs ((nI i) + 3).toNatClampNeg)).2.2) ((sM_output τ (xs ((nI i) + 1).toNatClampNeg) (xs ((nI i) + 2).toNatClampNeg) (xs ((nI i) + 3).toNatClampNeg)).2) _ _ ls (by omega) (by omega) (by omega) (st_output hSim hk (xs ((nI i) + 1).toNatClampNeg) (xs ((nI i) + 2).toNatClampNeg) (xs ((nI i) + 3).toNatClampNeg)).2 hP hD hS (lv_sub hl [1, 2, 3, 0] rfl)
        · refine lv_iconst (v := 0) hx hb dL_law_161 (by decide) ?_
          exact absurd (st_output hSim hk (xs ((nI i) + 1).toNatClampNeg) (xs ((nI i) + 2).toNatClampNeg) (xs ((nI i) + 3).toNatClampNeg)).1 c17_
      · by_cases c2_ : ((xs (nI i).toNatClampNeg) &&& 15) = 1
        · refine lv_tableIn (tgt := 163) hx hb dL_law_42 (by rw [c2_]; decide) (by rw [c2_]; decide) (by rw [c2_]; rfl) (by decide) ?_
          refine lv_aload_n hx hb dL_law_163 rfl (lv_at hl 1 rfl) ?_
          refine lv_aload_n hx hb dL_law_164 rfl (lv_at hl 0 rfl) ?_
          refine lv_iload_n hx hb dL_law_165 rfl (lv_at hl 3 rfl) ?_
          refine lv_iconst (v := 1) hx hb dL_law_166 (by decide) ?_
          refine lv_iadd hx hb dL_law_167 ?_
          refine va_sld hx hb hX hbl hbA hS (sl_1 hlt hL) dL_law_168 ?_
          refine lv_aload_n hx hb dL_law_169 rfl (lv_at hl 0 rfl) ?_
          refine lv_iload_n hx hb dL_law_170 rfl (lv_at hl 3 rfl) ?_
          refine lv_iconst (v := 2) hx hb dL_law_171 (by decide) ?_
          refine lv_iadd hx hb dL_law_172 ?_
          refine va_sld hx hb hX hbl hbA hS (sl_2 hlt hL) dL_law_173 ?_
          refine w_calli (va_runV (As := [.int (xs ((nI i) + 1).toNatClampNeg), .int (xs ((nI i) + 2).toNatClampNeg)]) (rest := []) ⟨hx, hb, hml, hown, hts⟩ (c_C_line l dC dI cI cZ cO cW s.heap.size (mW hm am cI cZ τ) h adr ad wd nO nW σ (xs ((nI i) + 1).toNatClampNeg) (xs ((nI i) + 2).toNatClampNeg) hCi) (cwV 2 hts gL_law_X0_line rfl rfl rfl (by decide +kernel) ⟨(Nat.le_of_ble_eq_true rfl), (Nat.le_of_ble_eq_true rfl)⟩) (wPreV hS.1 hP hK hD (va_recv hK hP (ci := 0) (q0 := 0) rfl rfl)) rfl rfl hl.1 rfl (lv_room (Nat.le_of_ble_eq_true rfl)) dL_law_174 ⟨by show _ ≤ 600000; omega, by show _ ≤ 7302250; omega⟩) hS (fun r u H locs e_ hP hD hS => ?_)
          obtain ⟨rfl, rfl⟩ := e_
          have hP : va_P (dC, dI) vwCl (cWd h adr ad wd nO nW cI cO cW ((sC_line σ (xs ((nI i) + 1).toNatClampNeg) (xs ((nI i) + 2).toNatClampNeg)).2) ++ mW hm am cI cZ τ) H := hP
          have hD : va_D (fun q : Nat => s.heap.size ≤ q) (cWd h adr ad wd nO nW cI cO cW ((sC_line σ (xs ((nI i) + 1).toNatClampNeg) (xs ((nI i) + 2).toNatClampNeg)).2) ++ mW hm am cI cZ τ) := hD
          refine lv_aload_n hx hb dL_law_177 rfl (lv_at hl 2 rfl) ?_
          refine lv_aload_n hx hb dL_law_178 rfl (lv_at hl 0 rfl) ?_
          refine lv_iload_n hx hb dL_law_179 rfl (lv_at hl 3 rfl) ?_
          refine lv_iconst (v := 1) hx hb dL_law_180 (by decide) ?_
          refine lv_iadd hx hb dL_law_181 ?_
          refine va_sld hx hb hX hbl hbA hS (sl_1 hlt hL) dL_law_182 ?_
          refine lv_aload_n hx hb dL_law_183 rfl (lv_at hl 0 rfl) ?_
          refine lv_iload_n hx hb dL_law_184 rfl (lv_at hl 3 rfl) ?_
          refine lv_iconst (v := 2) hx hb dL_law_185 (by decide) ?_
          refine lv_iadd hx hb dL_law_186 ?_
          refine va_sld hx hb hX hbl hbA hS (sl_2 hlt hL) dL_law_187 ?_
          have hP : va_P (dC, dI) vwCl (mW hm am cI cZ τ ++ cWd h adr ad wd nO nW cI cO cW ((sC_line σ (xs ((nI i) + 1).toNatClampNeg) (xs ((nI i) + 2).toNatClampNeg)).2)) H := va_P_perm hP List.perm_append_comm
          have hD : va_D (fun q : Nat => s.heap.size ≤ q) (mW hm am cI cZ τ ++ cWd h adr ad wd nO nW cI cO cW ((sC_line σ (xs ((nI i) + 1).toNatClampNeg) (xs ((nI i) + 2).toNatClampNeg)).2)) := va_D_perm hD List.perm_append_comm
          refine w_calli (va_runV (As := [.int (xs ((nI i) + 1).toNatClampNeg), .int (xs ((nI i) + 2).toNatClampNeg)]) (rest := [.int ((sC_line σ (xs ((nI i) + 1).toNatClampNeg) (xs ((nI i) + 2).toNatClampNeg)).1)]) ⟨hx, hb, hml, hown, hts⟩ (c_M_line l dC dI cI cZ cO cW s.heap.size (cWd h adr ad wd nO nW cI cO cW ((sC_line σ (xs ((nI i) + 1).toNatClampNeg) (xs ((nI i) + 2).toNatClampNeg)).2)) hm am τ (xs ((nI i) + 1).toNatClampNeg) (xs ((nI i) + 2).toNatClampNeg) hMi) (cwV 2 hts gL_law_X3_line rfl rfl rfl (by decide +kernel) ⟨(Nat.le_of_ble_eq_true rfl), (Nat.le_of_ble_eq_true rfl)⟩) (wPreV hS.1 hP hK hD (va_recv hK hP (ci := 3) (q0 := 0) rfl rfl)) rfl rfl hl.1 rfl (lv_room (Nat.le_of_ble_eq_true rfl)) dL_law_188 ⟨by show _ ≤ 600000; omega, by show _ ≤ 7302250; omega⟩) hS (fun r u H locs e_ hP hD hS => ?_)
          obtain ⟨rfl, rfl⟩ := e_
          have hP : va_P (dC, dI) vwCl (cWd h adr ad wd nO nW cI cO cW ((sC_line σ (xs ((nI i) + 1).toNatClampNeg) (xs ((nI i) + 2).toNatClampNeg)).2) ++ mW hm am cI cZ ((sM_line τ (xs ((nI i) + 1).toNatClampNeg) (xs ((nI i) + 2).toNatClampNeg)).2)) H := va_P_perm hP List.perm_append_comm
          have hD : va_D (fun q : Nat => s.heap.size ≤ q) (cWd h adr ad wd nO nW cI cO cW ((sC_line σ (xs ((nI i) + 1).toNatClampNeg) (xs ((nI i) + 2).toNatClampNeg)).2) ++ mW hm am cI cZ ((sM_line τ (xs ((nI i) + 1).toNatClampNeg) (xs ((nI i) + 2).toNatClampNeg)).2)) := va_D_perm hD List.perm_append_comm
          refine lv_icmp_eq (tgt := 610) hx hb dL_law_191 (by decide) (fun c18_ => ?_) (fun c18_ => ?_)
          · refine lv_iinc (v := nI (i + 4)) (lv' := [(3, .int (nI (i + 4))), (0, .ref b), (1, .ref h), (2, .ref hm)]) hx hb dL_law_610 hl (k := 3) rfl (nI_add i 4) (by decide) rfl (fun ls hl => ?_)
            refine lv_goto (tgt := 28) hx hb dL_law_613 (by decide) ?_
            refine W.widen (k := 24 + (k + 1)) (n := 18303 + 13 * (k + 1)) (by omega) (by omega) ?_
            exact ih (k + 1) (i + 4) nO nW ad wd ((sC_line σ (xs ((nI i) + 1).toNatClampNeg) (xs ((nI i) + 2).toNatClampNeg)).2) ((sM_line τ (xs ((nI i) + 1).toNatClampNeg) (xs ((nI i) + 2).toNatClampNeg)).2) _ _ ls (by omega) (by omega) (by omega) (st_line hSim hk (xs ((nI i) + 1).toNatClampNeg) (xs ((nI i) + 2).toNatClampNeg)).2 hP hD hS (lv_sub hl [1, 2, 3, 0] rfl)
          · refine lv_iconst (v := 0) hx hb dL_law_194 (by decide) ?_
            exact absurd (st_line hSim hk (xs ((nI i) + 1).toNatClampNeg) (xs ((nI i) + 2).toNatClampNeg)).1 c18_
        · by_cases c3_ : ((xs (nI i).toNatClampNeg) &&& 15) = 2
          · refine lv_tableIn (tgt := 196) hx hb dL_law_42 (by rw [c3_]; decide) (by rw [c3_]; decide) (by rw [c3_]; rfl) (by decide) ?_
            refine lv_aload_n hx hb dL_law_196 rfl (lv_at hl 1 rfl) ?_
            refine lv_aload_n hx hb dL_law_197 rfl (lv_at hl 0 rfl) ?_
            refine lv_iload_n hx hb dL_law_198 rfl (lv_at hl 3 rfl) ?_
            refine lv_iconst (v := 1) hx hb dL_law_199 (by decide) ?_
            refine lv_iadd hx hb dL_law_200 ?_
            refine va_sld hx hb hX hbl hbA hS (sl_1 hlt hL) dL_law_201 ?_
            refine lv_aload_n hx hb dL_law_202 rfl (lv_at hl 0 rfl) ?_
            refine lv_iload_n hx hb dL_law_203 rfl (lv_at hl 3 rfl) ?_
            refine lv_iconst (v := 2) hx hb dL_law_204 (by decide) ?_
            refine lv_iadd hx hb dL_law_205 ?_
            refine va_sld hx hb hX hbl hbA hS (sl_2 hlt hL) dL_law_206 ?_
            refine lv_aload_n hx hb dL_law_207 rfl (lv_at hl 0 rfl) ?_
            refine lv_iload_n hx hb dL_law_208 rfl (lv_at hl 3 rfl) ?_
            refine lv_iconst (v := 3) hx hb dL_law_209 (by decide) ?_
            refine lv_iadd hx hb dL_law_210 ?_
            refine va_sld hx hb hX hbl hbA hS (sl_3 hlt hL) dL_law_211 ?_
            refine lv_if_eq (tgt := 219) hx hb dL_law_212 (by decide) (fun c19_ => ?_) (fun c19_ => ?_)
            · refine lv_iconst (v := 0) hx hb dL_law_219 (by decide) ?_
              refine w_calli (va_runV (As := [.int (xs ((nI i) + 1).toNatClampNeg), .int (xs ((nI i) + 2).toNatClampNeg), .int 0]) (rest := []) ⟨hx, hb, hml, hown, hts⟩ (c_C_limit l dC dI cI cZ cO cW s.heap.size (mW hm am cI cZ τ) h adr ad wd nO nW σ (xs ((nI i) + 1).toNatClampNeg) (xs ((nI i) + 2).toNatClampNeg) 0 hCi (by decide)) (cwV 3 hts gL_law_X0_limit rfl rfl rfl (by decide +kernel) ⟨(Nat.le_of_ble_eq_true rfl), (Nat.le_of_ble_eq_true rfl)⟩) (wPreV hS.1 hP hK hD (va_recv hK hP (ci := 0) (q0 := 0) rfl rfl)) rfl rfl hl.1 rfl (lv_room (Nat.le_of_ble_eq_true rfl)) dL_law_220 ⟨by show _ ≤ 600000; omega, by show _ ≤ 7302250; omega⟩) hS (fun r u H locs e_ hP hD hS => ?_)
              obtain ⟨rfl, rfl⟩ := e_
              have hP : va_P (dC, dI) vwCl (cWd h adr ad wd nO nW cI cO cW ((sC_limit σ (xs ((nI i) + 1).toNatClampNeg) (xs ((nI i) + 2).toNatClampNeg) 0).2) ++ mW hm am cI cZ τ) H := hP
              have hD : va_D (fun q : Nat => s.heap.size ≤ q) (cWd h adr ad wd nO nW cI cO cW ((sC_limit σ (xs ((nI i) + 1).toNatClampNeg) (xs ((nI i) + 2).toNatClampNeg) 0).2) ++ mW hm am cI cZ τ) := hD
              refine lv_aload_n hx hb dL_law_223 rfl (lv_at hl 2 rfl) ?_
              refine lv_aload_n hx hb dL_law_224 rfl (lv_at hl 0 rfl) ?_
              refine lv_iload_n hx hb dL_law_225 rfl (lv_at hl 3 rfl) ?_
              refine lv_iconst (v := 1) hx hb dL_law_226 (by decide) ?_
              refine lv_iadd hx hb dL_law_227 ?_
              refine va_sld hx hb hX hbl hbA hS (sl_1 hlt hL) dL_law_228 ?_
              refine lv_aload_n hx hb dL_law_229 rfl (lv_at hl 0 rfl) ?_
              refine lv_iload_n hx hb dL_law_230 rfl (lv_at hl 3 rfl) ?_
              refine lv_iconst (v := 2) hx hb dL_law_231 (by decide) ?_
              refine lv_iadd hx hb dL_law_232 ?_
              refine va_sld hx hb hX hbl hbA hS (sl_2 hlt hL) dL_law_233 ?_
              refine lv_aload_n hx hb dL_law_234 rfl (lv_at hl 0 rfl) ?_
              refine lv_iload_n hx hb dL_law_235 rfl (lv_at hl 3 rfl) ?_
              refine lv_iconst (v := 3) hx hb dL_law_236 (by decide) ?_
              refine lv_iadd hx hb dL_law_237 ?_
              refine va_sld hx hb hX hbl hbA hS (sl_3 hlt hL) dL_law_238 ?_
              refine lv_if_eq (tgt := 246) hx hb dL_law_239 (by decide) (fun _ => ?_) (fun z_ => absurd c19_ z_)
              refine lv_iconst (v := 0) hx hb dL_law_246 (by decide) ?_
              have hP : va_P (dC, dI) vwCl (mW hm am cI cZ τ ++ cWd h adr ad wd nO nW cI cO cW ((sC_limit σ (xs ((nI i) + 1).toNatClampNeg) (xs ((nI i) + 2).toNatClampNeg) 0).2)) H := va_P_perm hP List.perm_append_comm
              have hD : va_D (fun q : Nat => s.heap.size ≤ q) (mW hm am cI cZ τ ++ cWd h adr ad wd nO nW cI cO cW ((sC_limit σ (xs ((nI i) + 1).toNatClampNeg) (xs ((nI i) + 2).toNatClampNeg) 0).2)) := va_D_perm hD List.perm_append_comm
              refine w_calli (va_runV (As := [.int (xs ((nI i) + 1).toNatClampNeg), .int (xs ((nI i) + 2).toNatClampNeg), .int 0]) (rest := [.int ((sC_limit σ (xs ((nI i) + 1).toNatClampNeg) (xs ((nI i) + 2).toNatClampNeg) 0).1)]) ⟨hx, hb, hml, hown, hts⟩ (c_M_limit l dC dI cI cZ cO cW s.heap.size (cWd h adr ad wd nO nW cI cO cW ((sC_limit σ (xs ((nI i) + 1).toNatClampNeg) (xs ((nI i) + 2).toNatClampNeg) 0).2)) hm am τ (xs ((nI i) + 1).toNatClampNeg) (xs ((nI i) + 2).toNatClampNeg) 0 hMi) (cwV 3 hts gL_law_X3_limit rfl rfl rfl (by decide +kernel) ⟨(Nat.le_of_ble_eq_true rfl), (Nat.le_of_ble_eq_true rfl)⟩) (wPreV hS.1 hP hK hD (va_recv hK hP (ci := 3) (q0 := 0) rfl rfl)) rfl rfl hl.1 rfl (lv_room (Nat.le_of_ble_eq_true rfl)) dL_law_247 ⟨by show _ ≤ 600000; omega, by show _ ≤ 7302250; omega⟩) hS (fun r u H locs e_ hP hD hS => ?_)
              obtain ⟨rfl, rfl⟩ := e_
              have hP : va_P (dC, dI) vwCl (cWd h adr ad wd nO nW cI cO cW ((sC_limit σ (xs ((nI i) + 1).toNatClampNeg) (xs ((nI i) + 2).toNatClampNeg) 0).2) ++ mW hm am cI cZ ((sM_limit τ (xs ((nI i) + 1).toNatClampNeg) (xs ((nI i) + 2).toNatClampNeg) 0).2)) H := va_P_perm hP List.perm_append_comm
              have hD : va_D (fun q : Nat => s.heap.size ≤ q) (cWd h adr ad wd nO nW cI cO cW ((sC_limit σ (xs ((nI i) + 1).toNatClampNeg) (xs ((nI i) + 2).toNatClampNeg) 0).2) ++ mW hm am cI cZ ((sM_limit τ (xs ((nI i) + 1).toNatClampNeg) (xs ((nI i) + 2).toNatClampNeg) 0).2)) := va_D_perm hD List.perm_append_comm
              refine lv_icmp_eq (tgt := 610) hx hb dL_law_250 (by decide) (fun c20_ => ?_) (fun c20_ => ?_)
              · refine lv_iinc (v := nI (i + 4)) (lv' := [(3, .int (nI (i + 4))), (0, .ref b), (1, .ref h), (2, .ref hm)]) hx hb dL_law_610 hl (k := 3) rfl (nI_add i 4) (by decide) rfl (fun ls hl => ?_)
                refine lv_goto (tgt := 28) hx hb dL_law_613 (by decide) ?_
                refine W.widen (k := 24 + (k + 1)) (n := 18303 + 13 * (k + 1)) (by omega) (by omega) ?_
                exact ih (k + 1) (i + 4) nO nW ad wd ((sC_limit σ (xs ((nI i) + 1).toNatClampNeg) (xs ((nI i) + 2).toNatClampNeg) 0).2) ((sM_limit τ (xs ((nI i) + 1).toNatClampNeg) (xs ((nI i) + 2).toNatClampNeg) 0).2) _ _ ls (by omega) (by omega) (by omega) (st_limit hSim hk (xs ((nI i) + 1).toNatClampNeg) (xs ((nI i) + 2).toNatClampNeg) 0 (by decide)).2 hP hD hS (lv_sub hl [1, 2, 3, 0] rfl)
              · refine lv_iconst (v := 0) hx hb dL_law_253 (by decide) ?_
                exact absurd (st_limit hSim hk (xs ((nI i) + 1).toNatClampNeg) (xs ((nI i) + 2).toNatClampNeg) 0 (by decide)).1 c20_
            · refine lv_iconst (v := 1) hx hb dL_law_215 (by decide) ?_
              refine lv_goto (tgt := 220) hx hb dL_law_216 (by decide) ?_
              refine w_calli (va_runV (As := [.int (xs ((nI i) + 1).toNatClampNeg), .int (xs ((nI i) + 2).toNatClampNeg), .int 1]) (rest := []) ⟨hx, hb, hml, hown, hts⟩ (c_C_limit l dC dI cI cZ cO cW s.heap.size (mW hm am cI cZ τ) h adr ad wd nO nW σ (xs ((nI i) + 1).toNatClampNeg) (xs ((nI i) + 2).toNatClampNeg) 1 hCi (by decide)) (cwV 3 hts gL_law_X0_limit rfl rfl rfl (by decide +kernel) ⟨(Nat.le_of_ble_eq_true rfl), (Nat.le_of_ble_eq_true rfl)⟩) (wPreV hS.1 hP hK hD (va_recv hK hP (ci := 0) (q0 := 0) rfl rfl)) rfl rfl hl.1 rfl (lv_room (Nat.le_of_ble_eq_true rfl)) dL_law_220 ⟨by show _ ≤ 600000; omega, by show _ ≤ 7302250; omega⟩) hS (fun r u H locs e_ hP hD hS => ?_)
              obtain ⟨rfl, rfl⟩ := e_
              have hP : va_P (dC, dI) vwCl (cWd h adr ad wd nO nW cI cO cW ((sC_limit σ (xs ((nI i) + 1).toNatClampNeg) (xs ((nI i) + 2).toNatClampNeg) 1).2) ++ mW hm am cI cZ τ) H := hP
              have hD : va_D (fun q : Nat => s.heap.size ≤ q) (cWd h adr ad wd nO nW cI cO cW ((sC_limit σ (xs ((nI i) + 1).toNatClampNeg) (xs ((nI i) + 2).toNatClampNeg) 1).2) ++ mW hm am cI cZ τ) := hD
              refine lv_aload_n hx hb dL_law_223 rfl (lv_at hl 2 rfl) ?_
              refine lv_aload_n hx hb dL_law_224 rfl (lv_at hl 0 rfl) ?_
              refine lv_iload_n hx hb dL_law_225 rfl (lv_at hl 3 rfl) ?_
              refine lv_iconst (v := 1) hx hb dL_law_226 (by decide) ?_
              refine lv_iadd hx hb dL_law_227 ?_
              refine va_sld hx hb hX hbl hbA hS (sl_1 hlt hL) dL_law_228 ?_
              refine lv_aload_n hx hb dL_law_229 rfl (lv_at hl 0 rfl) ?_
              refine lv_iload_n hx hb dL_law_230 rfl (lv_at hl 3 rfl) ?_
              refine lv_iconst (v := 2) hx hb dL_law_231 (by decide) ?_
              refine lv_iadd hx hb dL_law_232 ?_
              refine va_sld hx hb hX hbl hbA hS (sl_2 hlt hL) dL_law_233 ?_
              refine lv_aload_n hx hb dL_law_234 rfl (lv_at hl 0 rfl) ?_
              refine lv_iload_n hx hb dL_law_235 rfl (lv_at hl 3 rfl) ?_
              refine lv_iconst (v := 3) hx hb dL_law_236 (by decide) ?_
              refine lv_iadd hx hb dL_law_237 ?_
              refine va_sld hx hb hX hbl hbA hS (sl_3 hlt hL) dL_law_238 ?_
              refine lv_if_eq (tgt := 246) hx hb dL_law_239 (by decide) (fun z_ => absurd z_ c19_) (fun _ => ?_)
              refine lv_iconst (v := 1) hx hb dL_law_242 (by decide) ?_
              refine lv_goto (tgt := 247) hx hb dL_law_243 (by decide) ?_
              have hP : va_P (dC, dI) vwCl (mW hm am cI cZ τ ++ cWd h adr ad wd nO nW cI cO cW ((sC_limit σ (xs ((nI i) + 1).toNatClampNeg) (xs ((nI i) + 2).toNatClampNeg) 1).2)) H := va_P_perm hP List.perm_append_comm
              have hD : va_D (fun q : Nat => s.heap.size ≤ q) (mW hm am cI cZ τ ++ cWd h adr ad wd nO nW cI cO cW ((sC_limit σ (xs ((nI i) + 1).toNatClampNeg) (xs ((nI i) + 2).toNatClampNeg) 1).2)) := va_D_perm hD List.perm_append_comm
              refine w_calli (va_runV (As := [.int (xs ((nI i) + 1).toNatClampNeg), .int (xs ((nI i) + 2).toNatClampNeg), .int 1]) (rest := [.int ((sC_limit σ (xs ((nI i) + 1).toNatClampNeg) (xs ((nI i) + 2).toNatClampNeg) 1).1)]) ⟨hx, hb, hml, hown, hts⟩ (c_M_limit l dC dI cI cZ cO cW s.heap.size (cWd h adr ad wd nO nW cI cO cW ((sC_limit σ (xs ((nI i) + 1).toNatClampNeg) (xs ((nI i) + 2).toNatClampNeg) 1).2)) hm am τ (xs ((nI i) + 1).toNatClampNeg) (xs ((nI i) + 2).toNatClampNeg) 1 hMi) (cwV 3 hts gL_law_X3_limit rfl rfl rfl (by decide +kernel) ⟨(Nat.le_of_ble_eq_true rfl), (Nat.le_of_ble_eq_true rfl)⟩) (wPreV hS.1 hP hK hD (va_recv hK hP (ci := 3) (q0 := 0) rfl rfl)) rfl rfl hl.1 rfl (lv_room (Nat.le_of_ble_eq_true rfl)) dL_law_247 ⟨by show _ ≤ 600000; omega, by show _ ≤ 7302250; omega⟩) hS (fun r u H locs e_ hP hD hS => ?_)
              obtain ⟨rfl, rfl⟩ := e_
              have hP : va_P (dC, dI) vwCl (cWd h adr ad wd nO nW cI cO cW ((sC_limit σ (xs ((nI i) + 1).toNatClampNeg) (xs ((nI i) + 2).toNatClampNeg) 1).2) ++ mW hm am cI cZ ((sM_limit τ (xs ((nI i) + 1).toNatClampNeg) (xs ((nI i) + 2).toNatClampNeg) 1).2)) H := va_P_perm hP List.perm_append_comm
              have hD : va_D (fun q : Nat => s.heap.size ≤ q) (cWd h adr ad wd nO nW cI cO cW ((sC_limit σ (xs ((nI i) + 1).toNatClampNeg) (xs ((nI i) + 2).toNatClampNeg) 1).2) ++ mW hm am cI cZ ((sM_limit τ (xs ((nI i) + 1).toNatClampNeg) (xs ((nI i) + 2).toNatClampNeg) 1).2)) := va_D_perm hD List.perm_append_comm
              refine lv_icmp_eq (tgt := 610) hx hb dL_law_250 (by decide) (fun c21_ => ?_) (fun c21_ => ?_)
              · refine lv_iinc (v := nI (i + 4)) (lv' := [(3, .int (nI (i + 4))), (0, .ref b), (1, .ref h), (2, .ref hm)]) hx hb dL_law_610 hl (k := 3) rfl (nI_add i 4) (by decide) rfl (fun ls hl => ?_)
                refine lv_goto (tgt := 28) hx hb dL_law_613 (by decide) ?_
                refine W.widen (k := 24 + (k + 1)) (n := 18303 + 13 * (k + 1)) (by omega) (by omega) ?_
                exact ih (k + 1) (i + 4) nO nW ad wd ((sC_limit σ (xs ((nI i) + 1).toNatClampNeg) (xs ((nI i) + 2).toNatClampNeg) 1).2) ((sM_limit τ (xs ((nI i) + 1).toNatClampNeg) (xs ((nI i) + 2).toNatClampNeg) 1).2) _ _ ls (by omega) (by omega) (by omega) (st_limit hSim hk (xs ((nI i) + 1).toNatClampNeg) (xs ((nI i) + 2).toNatClampNeg) 1 (by decide)).2 hP hD hS (lv_sub hl [1, 2, 3, 0] rfl)
              · refine lv_iconst (v := 0) hx hb dL_law_253 (by decide) ?_
                exact absurd (st_limit hSim hk (xs ((nI i) + 1).toNatClampNeg) (xs ((nI i) + 2).toNatClampNeg) 1 (by decide)).1 c21_
          · by_cases c4_ : ((xs (nI i).toNatClampNeg) &&& 15) = 3
            · refine lv_tableIn (tgt := 255) hx hb dL_law_42 (by rw [c4_]; decide) (by rw [c4_]; decide) (by rw [c4_]; rfl) (by decide) ?_
              refine lv_aload_n hx hb dL_law_255 rfl (lv_at hl 1 rfl) ?_
              refine lv_aload_n hx hb dL_law_256 rfl (lv_at hl 0 rfl) ?_
              refine lv_iload_n hx hb dL_law_257 rfl (lv_at hl 3 rfl) ?_
              refine lv_iconst (v := 1) hx hb dL_law_258 (by decide) ?_
              refine lv_iadd hx hb dL_law_259 ?_
              refine va_sld hx hb hX hbl hbA hS (sl_1 hlt hL) dL_law_260 ?_
              refine w_calli (va_runV (As := [.int (xs ((nI i) + 1).toNatClampNeg)]) (rest := []) ⟨hx, hb, hml, hown, hts⟩ (c_C_end l dC dI cI cZ cO cW s.heap.size (mW hm am cI cZ τ) h adr ad wd nO nW σ (xs ((nI i) + 1).toNatClampNeg) hCi) (cwV 1 hts gL_law_X0_end rfl rfl rfl (by decide +kernel) ⟨(Nat.le_of_ble_eq_true rfl), (Nat.le_of_ble_eq_true rfl)⟩) (wPreV hS.1 hP hK hD (va_recv hK hP (ci := 0) (q0 := 0) rfl rfl)) rfl rfl hl.1 rfl (lv_room (Nat.le_of_ble_eq_true rfl)) dL_law_261 ⟨by show _ ≤ 600000; omega, by show _ ≤ 7302250; omega⟩) hS (fun r u H locs e_ hP hD hS => ?_)
              obtain ⟨rfl, rfl⟩ := e_
              have hP : va_P (dC, dI) vwCl (cWd h adr ad wd nO nW cI cO cW ((sC_end σ (xs ((nI i) + 1).toNatClampNeg)).2) ++ mW hm am cI cZ τ) H := hP
              have hD : va_D (fun q : Nat => s.heap.size ≤ q) (cWd h adr ad wd nO nW cI cO cW ((sC_end σ (xs ((nI i) + 1).toNatClampNeg)).2) ++ mW hm am cI cZ τ) := hD
              refine lv_aload_n hx hb dL_law_264 rfl (lv_at hl 2 rfl) ?_
              refine lv_aload_n hx hb dL_law_265 rfl (lv_at hl 0 rfl) ?_
              refine lv_iload_n hx hb dL_law_266 rfl (lv_at hl 3 rfl) ?_
              refine lv_iconst (v := 1) hx hb dL_law_267 (by decide) ?_
              refine lv_iadd hx hb dL_law_268 ?_
              refine va_sld hx hb hX hbl hbA hS (sl_1 hlt hL) dL_law_269 ?_
              have hP : va_P (dC, dI) vwCl (mW hm am cI cZ τ ++ cWd h adr ad wd nO nW cI cO cW ((sC_end σ (xs ((nI i) + 1).toNatClampNeg)).2)) H := va_P_perm hP List.perm_append_comm
              have hD : va_D (fun q : Nat => s.heap.size ≤ q) (mW hm am cI cZ τ ++ cWd h adr ad wd nO nW cI cO cW ((sC_end σ (xs ((nI i) + 1).toNatClampNeg)).2)) := va_D_perm hD List.perm_append_comm
              refine w_calli (va_runV (As := [.int (xs ((nI i) + 1).toNatClampNeg)]) (rest := [.int ((sC_end σ (xs ((nI i) + 1).toNatClampNeg)).1)]) ⟨hx, hb, hml, hown, hts⟩ (c_M_end l dC dI cI cZ cO cW s.heap.size (cWd h adr ad wd nO nW cI cO cW ((sC_end σ (xs ((nI i) + 1).toNatClampNeg)).2)) hm am τ (xs ((nI i) + 1).toNatClampNeg) hMi) (cwV 1 hts gL_law_X3_end rfl rfl rfl (by decide +kernel) ⟨(Nat.le_of_ble_eq_true rfl), (Nat.le_of_ble_eq_true rfl)⟩) (wPreV hS.1 hP hK hD (va_recv hK hP (ci := 3) (q0 := 0) rfl rfl)) rfl rfl hl.1 rfl (lv_room (Nat.le_of_ble_eq_true rfl)) dL_law_270 ⟨by show _ ≤ 600000; omega, by show _ ≤ 7302250; omega⟩) hS (fun r u H locs e_ hP hD hS => ?_)
              obtain ⟨rfl, rfl⟩ := e_
              have hP : va_P (dC, dI) vwCl (cWd h adr ad wd nO nW cI cO cW ((sC_end σ (xs ((nI i) + 1).toNatClampNeg)).2) ++ mW hm am cI cZ ((sM_end τ (xs ((nI i) + 1).toNatClampNeg)).2)) H := va_P_perm hP List.perm_append_comm
              have hD : va_D (fun q : Nat => s.heap.size ≤ q) (cWd h adr ad wd nO nW cI cO cW ((sC_end σ (xs ((nI i) + 1).toNatClampNeg)).2) ++ mW hm am cI cZ ((sM_end τ (xs ((nI i) + 1).toNatClampNeg)).2)) := va_D_perm hD List.perm_append_comm
              refine lv_icmp_eq (tgt := 610) hx hb dL_law_273 (by decide) (fun c22_ => ?_) (fun c22_ => ?_)
              · refine lv_iinc (v := nI (i + 4)) (lv' := [(3, .int (nI (i + 4))), (0, .ref b), (1, .ref h), (2, .ref hm)]) hx hb dL_law_610 hl (k := 3) rfl (nI_add i 4) (by decide) rfl (fun ls hl => ?_)
                refine lv_goto (tgt := 28) hx hb dL_law_613 (by decide) ?_
                refine W.widen (k := 24 + (k + 1)) (n := 18303 + 13 * (k + 1)) (by omega) (by omega) ?_
                exact ih (k + 1) (i + 4) nO nW ad wd ((sC_end σ (xs ((nI i) + 1).toNatClampNeg)).2) ((sM_end τ (xs ((nI i) + 1).toNatClampNeg)).2) _ _ ls (by omega) (by omega) (by omega) (st_end hSim hk (xs ((nI i) + 1).toNatClampNeg)).2 hP hD hS (lv_sub hl [1, 2, 3, 0] rfl)
              · refine lv_iconst (v := 0) hx hb dL_law_276 (by decide) ?_
                exact absurd (st_end hSim hk (xs ((nI i) + 1).toNatClampNeg)).1 c22_
            · by_cases c5_ : ((xs (nI i).toNatClampNeg) &&& 15) = 4
              · refine lv_tableIn (tgt := 278) hx hb dL_law_42 (by rw [c5_]; decide) (by rw [c5_]; decide) (by rw [c5_]; rfl) (by decide) ?_
                refine lv_aload_n hx hb dL_law_278 rfl (lv_at hl 1 rfl) ?_
                refine lv_aload_n hx hb dL_law_279 rfl (lv_at hl 0 rfl) ?_
                refine lv_iload_n hx hb dL_law_280 rfl (lv_at hl 3 rfl) ?_
                refine lv_iconst (v := 1) hx hb dL_law_281 (by decide) ?_
                refine lv_iadd hx hb dL_law_282 ?_
                refine va_sld hx hb hX hbl hbA hS (sl_1 hlt hL) dL_law_283 ?_
                refine w_calli (va_runV (As := [.int (xs ((nI i) + 1).toNatClampNeg)]) (rest := []) ⟨hx, hb, hml, hown, hts⟩ (c_C_segment l dC dI cI cZ cO cW s.heap.size (mW hm am cI cZ τ) h adr ad wd nO nW σ (xs ((nI i) + 1).toNatClampNeg) hCi (oc_lt hSim hk)) (cwV 1 hts gL_law_X0_segment rfl rfl rfl (by decide +kernel) ⟨(Nat.le_of_ble_eq_true rfl), (Nat.le_of_ble_eq_true rfl)⟩) (wPreV hS.1 hP hK hD (va_recv hK hP (ci := 0) (q0 := 0) rfl rfl)) rfl rfl hl.1 rfl (lv_room (Nat.le_of_ble_eq_true rfl)) dL_law_284 ⟨by show _ ≤ 600000; omega, by show _ ≤ 7302250; omega⟩) hS (fun r u H locs e_ hP hD hS => ?_)
                obtain ⟨e1_, e2_⟩ := e_
                subst e1_
                have hP : va_P (dC, dI) vwCl (cWd h adr u.1 wd u.2.1 nW cI cO cW u.2.2 ++ mW hm am cI cZ τ) H := hP
                have hD : va_D (fun q : Nat => s.heap.size ≤ q) (cWd h adr u.1 wd u.2.1 nW cI cO cW u.2.2 ++ mW hm am cI cZ τ) := hD
                rw [e2_] at hP hD
                refine W.widen (k := 24 + k + 1) (n := 18303 + 13 * k + 13) (by omega) (by omega) ?_
                have hP : va_P (dC, dI) vwCl (cWd h adr u.1 wd ((sC_segment nO σ (xs ((nI i) + 1).toNatClampNeg)).2.1) nW cI cO cW ((sC_segment nO σ (xs ((nI i) + 1).toNatClampNeg)).2.2) ++ mW hm am cI cZ τ) H := hP
                have hD : va_D (fun q : Nat => s.heap.size ≤ q) (cWd h adr u.1 wd ((sC_segment nO σ (xs ((nI i) + 1).toNatClampNeg)).2.1) nW cI cO cW ((sC_segment nO σ (xs ((nI i) + 1).toNatClampNeg)).2.2) ++ mW hm am cI cZ τ) := hD
                refine lv_aload_n hx hb dL_law_287 rfl (lv_at hl 2 rfl) ?_
                refine lv_aload_n hx hb dL_law_288 rfl (lv_at hl 0 rfl) ?_
                refine lv_iload_n hx hb dL_law_289 rfl (lv_at hl 3 rfl) ?_
                refine lv_iconst (v := 1) hx hb dL_law_290 (by decide) ?_
                refine lv_iadd hx hb dL_law_291 ?_
                refine va_sld hx hb hX hbl hbA hS (sl_1 hlt hL) dL_law_292 ?_
                have hP : va_P (dC, dI) vwCl (mW hm am cI cZ τ ++ cWd h adr u.1 wd ((sC_segment nO σ (xs ((nI i) + 1).toNatClampNeg)).2.1) nW cI cO cW ((sC_segment nO σ (xs ((nI i) + 1).toNatClampNeg)).2.2)) H := va_P_perm hP List.perm_append_comm
                have hD : va_D (fun q : Nat => s.heap.size ≤ q) (mW hm am cI cZ τ ++ cWd h adr u.1 wd ((sC_segment nO σ (xs ((nI i) + 1).toNatClampNeg)).2.1) nW cI cO cW ((sC_segment nO σ (xs ((nI i) + 1).toNatClampNeg)).2.2)) := va_D_perm hD List.perm_append_comm
                refine w_calli (va_runV (As := [.int (xs ((nI i) + 1).toNatClampNeg)]) (rest := [.int ((sC_segment nO σ (xs ((nI i) + 1).toNatClampNeg)).1)]) ⟨hx, hb, hml, hown, hts⟩ (c_M_segment l dC dI cI cZ cO cW s.heap.size (cWd h adr u.1 wd ((sC_segment nO σ (xs ((nI i) + 1).toNatClampNeg)).2.1) nW cI cO cW ((sC_segment nO σ (xs ((nI i) + 1).toNatClampNeg)).2.2)) hm am τ (xs ((nI i) + 1).toNatClampNeg) hMi) (cwV 1 hts gL_law_X3_segment rfl rfl rfl (by decide +kernel) ⟨(Nat.le_of_ble_eq_true rfl), (Nat.le_of_ble_eq_true rfl)⟩) (wPreV hS.1 hP hK hD (va_recv hK hP (ci := 3) (q0 := 0) rfl rfl)) rfl rfl hl.1 rfl (lv_room (Nat.le_of_ble_eq_true rfl)) dL_law_293 ⟨by show _ ≤ 600000; omega, by show _ ≤ 7302250; omega⟩) hS (fun r u H locs e_ hP hD hS => ?_)
                obtain ⟨rfl, rfl⟩ := e_
                have hP : va_P (dC, dI) vwCl (cWd h adr u.1 wd ((sC_segment nO σ (xs ((nI i) + 1).toNatClampNeg)).2.1) nW cI cO cW ((sC_segment nO σ (xs ((nI i) + 1).toNatClampNeg)).2.2) ++ mW hm am cI cZ ((sM_segment τ (xs ((nI i) + 1).toNatClampNeg)).2)) H := va_P_perm hP List.perm_append_comm
                have hD : va_D (fun q : Nat => s.heap.size ≤ q) (cWd h adr u.1 wd ((sC_segment nO σ (xs ((nI i) + 1).toNatClampNeg)).2.1) nW cI cO cW ((sC_segment nO σ (xs ((nI i) + 1).toNatClampNeg)).2.2) ++ mW hm am cI cZ ((sM_segment τ (xs ((nI i) + 1).toNatClampNeg)).2)) := va_D_perm hD List.perm_append_comm
                refine lv_icmp_eq (tgt := 610) hx hb dL_law_296 (by decide) (fun c23_ => ?_) (fun c23_ => ?_)
                · refine lv_iinc (v := nI (i + 4)) (lv' := [(3, .int (nI (i + 4))), (0, .ref b), (1, .ref h), (2, .ref hm)]) hx hb dL_law_610 hl (k := 3) rfl (nI_add i 4) (by decide) rfl (fun ls hl => ?_)
                  refine lv_goto (tgt := 28) hx hb dL_law_613 (by decide) ?_
                  refine W.widen (k := 24 + (k + 1)) (n := 18303 + 13 * (k + 1)) (by omega) (by omega) ?_
                  exact ih (k + 1) (i + 4) ((sC_segment nO σ (xs ((nI i) + 1).toNatClampNeg)).2.1) nW u.1 wd ((sC_segment nO σ (xs ((nI i) + 1).toNatClampNeg)).2.2) ((sM_segment τ (xs ((nI i) + 1).toNatClampNeg)).2) _ _ ls (by omega) (by omega) (by omega) (st_segment hSim hk (xs ((nI i) + 1).toNatClampNeg)).2 hP hD hS (lv_sub hl [1, 2, 3, 0] rfl)
                · refine lv_iconst (v := 0) hx hb dL_law_299 (by decide) ?_
                  exact absurd (st_segment hSim hk (xs ((nI i) + 1).toNatClampNeg)).1 c23_
              · by_cases c6_ : ((xs (nI i).toNatClampNeg) &&& 15) = 5
                · refine lv_tableIn (tgt := 301) hx hb dL_law_42 (by rw [c6_]; decide) (by rw [c6_]; decide) (by rw [c6_]; rfl) (by decide) ?_
                  refine lv_aload_n hx hb dL_law_301 rfl (lv_at hl 1 rfl) ?_
                  refine lv_aload_n hx hb dL_law_302 rfl (lv_at hl 0 rfl) ?_
                  refine lv_iload_n hx hb dL_law_303 rfl (lv_at hl 3 rfl) ?_
                  refine lv_iconst (v := 1) hx hb dL_law_304 (by decide) ?_
                  refine lv_iadd hx hb dL_law_305 ?_
                  refine va_sld hx hb hX hbl hbA hS (sl_1 hlt hL) dL_law_306 ?_
                  refine w_calli (va_runV (As := [.int (xs ((nI i) + 1).toNatClampNeg)]) (rest := []) ⟨hx, hb, hml, hown, hts⟩ (c_C_writer l dC dI cI cZ cO cW s.heap.size (mW hm am cI cZ τ) h adr ad wd nO nW σ (xs ((nI i) + 1).toNatClampNeg) hCi) (cwV 1 hts gL_law_X0_writer rfl rfl rfl (by decide +kernel) ⟨(Nat.le_of_ble_eq_true rfl), (Nat.le_of_ble_eq_true rfl)⟩) (wPreV hS.1 hP hK hD (va_recv hK hP (ci := 0) (q0 := 0) rfl rfl)) rfl rfl hl.1 rfl (lv_room (Nat.le_of_ble_eq_true rfl)) dL_law_307 ⟨by show _ ≤ 600000; omega, by show _ ≤ 7302250; omega⟩) hS (fun r u H locs e_ hP hD hS => ?_)
                  obtain ⟨e1_, e2_⟩ := e_
                  subst e1_
                  have hP : va_P (dC, dI) vwCl (cWd h adr ad u.1 nO u.2.1 cI cO cW u.2.2 ++ mW hm am cI cZ τ) H := hP
                  have hD : va_D (fun q : Nat => s.heap.size ≤ q) (cWd h adr ad u.1 nO u.2.1 cI cO cW u.2.2 ++ mW hm am cI cZ τ) := hD
                  rw [e2_] at hP hD
                  refine W.widen (k := 24 + k + 1) (n := 18303 + 13 * k + 13) (by omega) (by omega) ?_
                  have hP : va_P (dC, dI) vwCl (cWd h adr ad u.1 nO ((sC_writer nW σ (xs ((nI i) + 1).toNatClampNeg)).2.1) cI cO cW ((sC_writer nW σ (xs ((nI i) + 1).toNatClampNeg)).2.2) ++ mW hm am cI cZ τ) H := hP
                  have hD : va_D (fun q : Nat => s.heap.size ≤ q) (cWd h adr ad u.1 nO ((sC_writer nW σ (xs ((nI i) + 1).toNatClampNeg)).2.1) cI cO cW ((sC_writer nW σ (xs ((nI i) + 1).toNatClampNeg)).2.2) ++ mW hm am cI cZ τ) := hD
                  refine lv_aload_n hx hb dL_law_310 rfl (lv_at hl 2 rfl) ?_
                  refine lv_aload_n hx hb dL_law_311 rfl (lv_at hl 0 rfl) ?_
                  refine lv_iload_n hx hb dL_law_312 rfl (lv_at hl 3 rfl) ?_
                  refine lv_iconst (v := 1) hx hb dL_law_313 (by decide) ?_
                  refine lv_iadd hx hb dL_law_314 ?_
                  refine va_sld hx hb hX hbl hbA hS (sl_1 hlt hL) dL_law_315 ?_
                  have hP : va_P (dC, dI) vwCl (mW hm am cI cZ τ ++ cWd h adr ad u.1 nO ((sC_writer nW σ (xs ((nI i) + 1).toNatClampNeg)).2.1) cI cO cW ((sC_writer nW σ (xs ((nI i) + 1).toNatClampNeg)).2.2)) H := va_P_perm hP List.perm_append_comm
                  have hD : va_D (fun q : Nat => s.heap.size ≤ q) (mW hm am cI cZ τ ++ cWd h adr ad u.1 nO ((sC_writer nW σ (xs ((nI i) + 1).toNatClampNeg)).2.1) cI cO cW ((sC_writer nW σ (xs ((nI i) + 1).toNatClampNeg)).2.2)) := va_D_perm hD List.perm_append_comm
                  refine w_calli (va_runV (As := [.int (xs ((nI i) + 1).toNatClampNeg)]) (rest := [.int ((sC_writer nW σ (xs ((nI i) + 1).toNatClampNeg)).1)]) ⟨hx, hb, hml, hown, hts⟩ (c_M_writer l dC dI cI cZ cO cW s.heap.size (cWd h adr ad u.1 nO ((sC_writer nW σ (xs ((nI i) + 1).toNatClampNeg)).2.1) cI cO cW ((sC_writer nW σ (xs ((nI i) + 1).toNatClampNeg)).2.2)) hm am τ (xs ((nI i) + 1).toNatClampNeg) hMi) (cwV 1 hts gL_law_X3_writer rfl rfl rfl (by decide +kernel) ⟨(Nat.le_of_ble_eq_true rfl), (Nat.le_of_ble_eq_true rfl)⟩) (wPreV hS.1 hP hK hD (va_recv hK hP (ci := 3) (q0 := 0) rfl rfl)) rfl rfl hl.1 rfl (lv_room (Nat.le_of_ble_eq_true rfl)) dL_law_316 ⟨by show _ ≤ 600000; omega, by show _ ≤ 7302250; omega⟩) hS (fun r u H locs e_ hP hD hS => ?_)
                  obtain ⟨rfl, rfl⟩ := e_
                  have hP : va_P (dC, dI) vwCl (cWd h adr ad u.1 nO ((sC_writer nW σ (xs ((nI i) + 1).toNatClampNeg)).2.1) cI cO cW ((sC_writer nW σ (xs ((nI i) + 1).toNatClampNeg)).2.2) ++ mW hm am cI cZ ((sM_writer τ (xs ((nI i) + 1).toNatClampNeg)).2)) H := va_P_perm hP List.perm_append_comm
                  have hD : va_D (fun q : Nat => s.heap.size ≤ q) (cWd h adr ad u.1 nO ((sC_writer nW σ (xs ((nI i) + 1).toNatClampNeg)).2.1) cI cO cW ((sC_writer nW σ (xs ((nI i) + 1).toNatClampNeg)).2.2) ++ mW hm am cI cZ ((sM_writer τ (xs ((nI i) + 1).toNatClampNeg)).2)) := va_D_perm hD List.perm_append_comm
                  refine lv_icmp_eq (tgt := 610) hx hb dL_law_319 (by decide) (fun c24_ => ?_) (fun c24_ => ?_)
                  · refine lv_iinc (v := nI (i + 4)) (lv' := [(3, .int (nI (i + 4))), (0, .ref b), (1, .ref h), (2, .ref hm)]) hx hb dL_law_610 hl (k := 3) rfl (nI_add i 4) (by decide) rfl (fun ls hl => ?_)
                    refine lv_goto (tgt := 28) hx hb dL_law_613 (by decide) ?_
                    refine W.widen (k := 24 + (k + 1)) (n := 18303 + 13 * (k + 1)) (by omega) (by omega) ?_
                    exact ih (k + 1) (i + 4) nO ((sC_writer nW σ (xs ((nI i) + 1).toNatClampNeg)).2.1) ad u.1 ((sC_writer nW σ (xs ((nI i) + 1).toNatClampNeg)).2.2) ((sM_writer τ (xs ((nI i) + 1).toNatClampNeg)).2) _ _ ls (by omega) (by omega) (by omega) (st_writer hSim hk (xs ((nI i) + 1).toNatClampNeg)).2 hP hD hS (lv_sub hl [1, 2, 3, 0] rfl)
                  · refine lv_iconst (v := 0) hx hb dL_law_322 (by decide) ?_
                    exact absurd (st_writer hSim hk (xs ((nI i) + 1).toNatClampNeg)).1 c24_
                · by_cases c7_ : ((xs (nI i).toNatClampNeg) &&& 15) = 6
                  · refine lv_tableIn (tgt := 324) hx hb dL_law_42 (by rw [c7_]; decide) (by rw [c7_]; decide) (by rw [c7_]; rfl) (by decide) ?_
                    refine lv_aload_n hx hb dL_law_324 rfl (lv_at hl 1 rfl) ?_
                    refine lv_aload_n hx hb dL_law_325 rfl (lv_at hl 0 rfl) ?_
                    refine lv_iload_n hx hb dL_law_326 rfl (lv_at hl 3 rfl) ?_
                    refine lv_iconst (v := 1) hx hb dL_law_327 (by decide) ?_
                    refine lv_iadd hx hb dL_law_328 ?_
                    refine va_sld hx hb hX hbl hbA hS (sl_1 hlt hL) dL_law_329 ?_
                    refine w_calli (va_runV (As := [.int (xs ((nI i) + 1).toNatClampNeg)]) (rest := []) ⟨hx, hb, hml, hown, hts⟩ (c_C_next l dC dI cI cZ cO cW s.heap.size (mW hm am cI cZ τ) h adr ad wd nO nW σ (xs ((nI i) + 1).toNatClampNeg) hCi) (cwV 1 hts gL_law_X0_next rfl rfl rfl (by decide +kernel) ⟨(Nat.le_of_ble_eq_true rfl), (Nat.le_of_ble_eq_true rfl)⟩) (wPreV hS.1 hP hK hD (va_recv hK hP (ci := 0) (q0 := 0) rfl rfl)) rfl rfl hl.1 rfl (lv_room (Nat.le_of_ble_eq_true rfl)) dL_law_330 ⟨by show _ ≤ 600000; omega, by show _ ≤ 7302250; omega⟩) hS (fun r u H locs e_ hP hD hS => ?_)
                    obtain ⟨rfl, rfl⟩ := e_
                    have hP : va_P (dC, dI) vwCl (cWd h adr ad wd nO nW cI cO cW ((sC_next σ (xs ((nI i) + 1).toNatClampNeg)).2) ++ mW hm am cI cZ τ) H := hP
                    have hD : va_D (fun q : Nat => s.heap.size ≤ q) (cWd h adr ad wd nO nW cI cO cW ((sC_next σ (xs ((nI i) + 1).toNatClampNeg)).2) ++ mW hm am cI cZ τ) := hD
                    refine lv_aload_n hx hb dL_law_333 rfl (lv_at hl 2 rfl) ?_
                    refine lv_aload_n hx hb dL_law_334 rfl (lv_at hl 0 rfl) ?_
                    refine lv_iload_n hx hb dL_law_335 rfl (lv_at hl 3 rfl) ?_
                    refine lv_iconst (v := 1) hx hb dL_law_336 (by decide) ?_
                    refine lv_iadd hx hb dL_law_337 ?_
                    refine va_sld hx hb hX hbl hbA hS (sl_1 hlt hL) dL_law_338 ?_
                    have hP : va_P (dC, dI) vwCl (mW hm am cI cZ τ ++ cWd h adr ad wd nO nW cI cO cW ((sC_next σ (xs ((nI i) + 1).toNatClampNeg)).2)) H := va_P_perm hP List.perm_append_comm
                    have hD : va_D (fun q : Nat => s.heap.size ≤ q) (mW hm am cI cZ τ ++ cWd h adr ad wd nO nW cI cO cW ((sC_next σ (xs ((nI i) + 1).toNatClampNeg)).2)) := va_D_perm hD List.perm_append_comm
                    refine w_calli (va_runV (As := [.int (xs ((nI i) + 1).toNatClampNeg)]) (rest := [.int ((sC_next σ (xs ((nI i) + 1).toNatClampNeg)).1)]) ⟨hx, hb, hml, hown, hts⟩ (c_M_next l dC dI cI cZ cO cW s.heap.size (cWd h adr ad wd nO nW cI cO cW ((sC_next σ (xs ((nI i) + 1).toNatClampNeg)).2)) hm am τ (xs ((nI i) + 1).toNatClampNeg) hMi) (cwV 1 hts gL_law_X3_next rfl rfl rfl (by decide +kernel) ⟨(Nat.le_of_ble_eq_true rfl), (Nat.le_of_ble_eq_true rfl)⟩) (wPreV hS.1 hP hK hD (va_recv hK hP (ci := 3) (q0 := 0) rfl rfl)) rfl rfl hl.1 rfl (lv_room (Nat.le_of_ble_eq_true rfl)) dL_law_339 ⟨by show _ ≤ 600000; omega, by show _ ≤ 7302250; omega⟩) hS (fun r u H locs e_ hP hD hS => ?_)
                    obtain ⟨rfl, rfl⟩ := e_
                    have hP : va_P (dC, dI) vwCl (cWd h adr ad wd nO nW cI cO cW ((sC_next σ (xs ((nI i) + 1).toNatClampNeg)).2) ++ mW hm am cI cZ ((sM_next τ (xs ((nI i) + 1).toNatClampNeg)).2)) H := va_P_perm hP List.perm_append_comm
                    have hD : va_D (fun q : Nat => s.heap.size ≤ q) (cWd h adr ad wd nO nW cI cO cW ((sC_next σ (xs ((nI i) + 1).toNatClampNeg)).2) ++ mW hm am cI cZ ((sM_next τ (xs ((nI i) + 1).toNatClampNeg)).2)) := va_D_perm hD List.perm_append_comm
                    refine lv_icmp_eq (tgt := 610) hx hb dL_law_342 (by decide) (fun c25_ => ?_) (fun c25_ => ?_)
                    · refine lv_iinc (v := nI (i + 4)) (lv' := [(3, .int (nI (i + 4))), (0, .ref b), (1, .ref h), (2, .ref hm)]) hx hb dL_law_610 hl (k := 3) rfl (nI_add i 4) (by decide) rfl (fun ls hl => ?_)
                      refine lv_goto (tgt := 28) hx hb dL_law_613 (by decide) ?_
                      refine W.widen (k := 24 + (k + 1)) (n := 18303 + 13 * (k + 1)) (by omega) (by omega) ?_
                      exact ih (k + 1) (i + 4) nO nW ad wd ((sC_next σ (xs ((nI i) + 1).toNatClampNeg)).2) ((sM_next τ (xs ((nI i) + 1).toNatClampNeg)).2) _ _ ls (by omega) (by omega) (by omega) (st_next hSim hk (xs ((nI i) + 1).toNatClampNeg)).2 hP hD hS (lv_sub hl [1, 2, 3, 0] rfl)
                    · refine lv_iconst (v := 0) hx hb dL_law_345 (by decide) ?_
                      exact absurd (st_next hSim hk (xs ((nI i) + 1).toNatClampNeg)).1 c25_
                  · by_cases c8_ : ((xs (nI i).toNatClampNeg) &&& 15) = 7
                    · refine lv_tableIn (tgt := 347) hx hb dL_law_42 (by rw [c8_]; decide) (by rw [c8_]; decide) (by rw [c8_]; rfl) (by decide) ?_
                      refine lv_aload_n hx hb dL_law_347 rfl (lv_at hl 1 rfl) ?_
                      refine lv_aload_n hx hb dL_law_348 rfl (lv_at hl 0 rfl) ?_
                      refine lv_iload_n hx hb dL_law_349 rfl (lv_at hl 3 rfl) ?_
                      refine lv_iconst (v := 1) hx hb dL_law_350 (by decide) ?_
                      refine lv_iadd hx hb dL_law_351 ?_
                      refine va_sld hx hb hX hbl hbA hS (sl_1 hlt hL) dL_law_352 ?_
                      refine lv_aload_n hx hb dL_law_353 rfl (lv_at hl 0 rfl) ?_
                      refine lv_iload_n hx hb dL_law_354 rfl (lv_at hl 3 rfl) ?_
                      refine lv_iconst (v := 2) hx hb dL_law_355 (by decide) ?_
                      refine lv_iadd hx hb dL_law_356 ?_
                      refine va_sld hx hb hX hbl hbA hS (sl_2 hlt hL) dL_law_357 ?_
                      refine w_calli (va_runV (As := [.int (xs ((nI i) + 1).toNatClampNeg), .int (xs ((nI i) + 2).toNatClampNeg)]) (rest := []) ⟨hx, hb, hml, hown, hts⟩ (c_C_print l dC dI cI cZ cO cW s.heap.size (mW hm am cI cZ τ) h adr ad wd nO nW σ (xs ((nI i) + 1).toNatClampNeg) (xs ((nI i) + 2).toNatClampNeg) hCi) (cwV 2 hts gL_law_X0_print rfl rfl rfl (by decide +kernel) ⟨(Nat.le_of_ble_eq_true rfl), (Nat.le_of_ble_eq_true rfl)⟩) (wPreV hS.1 hP hK hD (va_recv hK hP (ci := 0) (q0 := 0) rfl rfl)) rfl rfl hl.1 rfl (lv_room (Nat.le_of_ble_eq_true rfl)) dL_law_358 ⟨by show _ ≤ 600000; omega, by show _ ≤ 7302250; omega⟩) hS (fun r u H locs e_ hP hD hS => ?_)
                      obtain ⟨rfl, rfl⟩ := e_
                      have hP : va_P (dC, dI) vwCl (cWd h adr ad wd nO nW cI cO cW ((sC_print σ (xs ((nI i) + 1).toNatClampNeg) (xs ((nI i) + 2).toNatClampNeg)).2) ++ mW hm am cI cZ τ) H := hP
                      have hD : va_D (fun q : Nat => s.heap.size ≤ q) (cWd h adr ad wd nO nW cI cO cW ((sC_print σ (xs ((nI i) + 1).toNatClampNeg) (xs ((nI i) + 2).toNatClampNeg)).2) ++ mW hm am cI cZ τ) := hD
                      refine lv_aload_n hx hb dL_law_361 rfl (lv_at hl 2 rfl) ?_
                      refine lv_aload_n hx hb dL_law_362 rfl (lv_at hl 0 rfl) ?_
                      refine lv_iload_n hx hb dL_law_363 rfl (lv_at hl 3 rfl) ?_
                      refine lv_iconst (v := 1) hx hb dL_law_364 (by decide) ?_
                      refine lv_iadd hx hb dL_law_365 ?_
                      refine va_sld hx hb hX hbl hbA hS (sl_1 hlt hL) dL_law_366 ?_
                      refine lv_aload_n hx hb dL_law_367 rfl (lv_at hl 0 rfl) ?_
                      refine lv_iload_n hx hb dL_law_368 rfl (lv_at hl 3 rfl) ?_
                      refine lv_iconst (v := 2) hx hb dL_law_369 (by decide) ?_
                      refine lv_iadd hx hb dL_law_370 ?_
                      refine va_sld hx hb hX hbl hbA hS (sl_2 hlt hL) dL_law_371 ?_
                      have hP : va_P (dC, dI) vwCl (mW hm am cI cZ τ ++ cWd h adr ad wd nO nW cI cO cW ((sC_print σ (xs ((nI i) + 1).toNatClampNeg) (xs ((nI i) + 2).toNatClampNeg)).2)) H := va_P_perm hP List.perm_append_comm
                      have hD : va_D (fun q : Nat => s.heap.size ≤ q) (mW hm am cI cZ τ ++ cWd h adr ad wd nO nW cI cO cW ((sC_print σ (xs ((nI i) + 1).toNatClampNeg) (xs ((nI i) + 2).toNatClampNeg)).2)) := va_D_perm hD List.perm_append_comm
                      refine w_calli (va_runV (As := [.int (xs ((nI i) + 1).toNatClampNeg), .int (xs ((nI i) + 2).toNatClampNeg)]) (rest := [.int ((sC_print σ (xs ((nI i) + 1).toNatClampNeg) (xs ((nI i) + 2).toNatClampNeg)).1)]) ⟨hx, hb, hml, hown, hts⟩ (c_M_print l dC dI cI cZ cO cW s.heap.size (cWd h adr ad wd nO nW cI cO cW ((sC_print σ (xs ((nI i) + 1).toNatClampNeg) (xs ((nI i) + 2).toNatClampNeg)).2)) hm am τ (xs ((nI i) + 1).toNatClampNeg) (xs ((nI i) + 2).toNatClampNeg) hMi) (cwV 2 hts gL_law_X3_print rfl rfl rfl (by decide +kernel) ⟨(Nat.le_of_ble_eq_true rfl), (Nat.le_of_ble_eq_true rfl)⟩) (wPreV hS.1 hP hK hD (va_recv hK hP (ci := 3) (q0 := 0) rfl rfl)) rfl rfl hl.1 rfl (lv_room (Nat.le_of_ble_eq_true rfl)) dL_law_372 ⟨by show _ ≤ 600000; omega, by show _ ≤ 7302250; omega⟩) hS (fun r u H locs e_ hP hD hS => ?_)
                      obtain ⟨rfl, rfl⟩ := e_
                      have hP : va_P (dC, dI) vwCl (cWd h adr ad wd nO nW cI cO cW ((sC_print σ (xs ((nI i) + 1).toNatClampNeg) (xs ((nI i) + 2).toNatClampNeg)).2) ++ mW hm am cI cZ ((sM_print τ (xs ((nI i) + 1).toNatClampNeg) (xs ((nI i) + 2).toNatClampNeg)).2)) H := va_P_perm hP List.perm_append_comm
                      have hD : va_D (fun q : Nat => s.heap.size ≤ q) (cWd h adr ad wd nO nW cI cO cW ((sC_print σ (xs ((nI i) + 1).toNatClampNeg) (xs ((nI i) + 2).toNatClampNeg)).2) ++ mW hm am cI cZ ((sM_print τ (xs ((nI i) + 1).toNatClampNeg) (xs ((nI i) + 2).toNatClampNeg)).2)) := va_D_perm hD List.perm_append_comm
                      refine lv_icmp_eq (tgt := 610) hx hb dL_law_375 (by decide) (fun c26_ => ?_) (fun c26_ => ?_)
                      · refine lv_iinc (v := nI (i + 4)) (lv' := [(3, .int (nI (i + 4))), (0, .ref b), (1, .ref h), (2, .ref hm)]) hx hb dL_law_610 hl (k := 3) rfl (nI_add i 4) (by decide) rfl (fun ls hl => ?_)
                        refine lv_goto (tgt := 28) hx hb dL_law_613 (by decide) ?_
                        refine W.widen (k := 24 + (k + 1)) (n := 18303 + 13 * (k + 1)) (by omega) (by omega) ?_
                        exact ih (k + 1) (i + 4) nO nW ad wd ((sC_print σ (xs ((nI i) + 1).toNatClampNeg) (xs ((nI i) + 2).toNatClampNeg)).2) ((sM_print τ (xs ((nI i) + 1).toNatClampNeg) (xs ((nI i) + 2).toNatClampNeg)).2) _ _ ls (by omega) (by omega) (by omega) (st_print hSim hk (xs ((nI i) + 1).toNatClampNeg) (xs ((nI i) + 2).toNatClampNeg)).2 hP hD hS (lv_sub hl [1, 2, 3, 0] rfl)
                      · refine lv_iconst (v := 0) hx hb dL_law_378 (by decide) ?_
                        exact absurd (st_print hSim hk (xs ((nI i) + 1).toNatClampNeg) (xs ((nI i) + 2).toNatClampNeg)).1 c26_
                    · by_cases c9_ : ((xs (nI i).toNatClampNeg) &&& 15) = 8
                      · refine lv_tableIn (tgt := 380) hx hb dL_law_42 (by rw [c9_]; decide) (by rw [c9_]; decide) (by rw [c9_]; rfl) (by decide) ?_
                        refine lv_aload_n hx hb dL_law_380 rfl (lv_at hl 1 rfl) ?_
                        refine lv_aload_n hx hb dL_law_381 rfl (lv_at hl 0 rfl) ?_
                        refine lv_iload_n hx hb dL_law_382 rfl (lv_at hl 3 rfl) ?_
                        refine lv_iconst (v := 1) hx hb dL_law_383 (by decide) ?_
                        refine lv_iadd hx hb dL_law_384 ?_
                        refine va_sld hx hb hX hbl hbA hS (sl_1 hlt hL) dL_law_385 ?_
                        refine w_calli (va_runV (As := [.int (xs ((nI i) + 1).toNatClampNeg)]) (rest := []) ⟨hx, hb, hml, hown, hts⟩ (c_C_cut l dC dI cI cZ cO cW s.heap.size (mW hm am cI cZ τ) h adr ad wd nO nW σ (xs ((nI i) + 1).toNatClampNeg) hCi) (cwV 1 hts gL_law_X0_cut rfl rfl rfl (by decide +kernel) ⟨(Nat.le_of_ble_eq_true rfl), (Nat.le_of_ble_eq_true rfl)⟩) (wPreV hS.1 hP hK hD (va_recv hK hP (ci := 0) (q0 := 0) rfl rfl)) rfl rfl hl.1 rfl (lv_room (Nat.le_of_ble_eq_true rfl)) dL_law_386 ⟨by show _ ≤ 600000; omega, by show _ ≤ 7302250; omega⟩) hS (fun r u H locs e_ hP hD hS => ?_)
                        obtain ⟨rfl, rfl⟩ := e_
                        have hP : va_P (dC, dI) vwCl (cWd h adr ad wd nO nW cI cO cW ((sC_cut σ (xs ((nI i) + 1).toNatClampNeg)).2) ++ mW hm am cI cZ τ) H := hP
                        have hD : va_D (fun q : Nat => s.heap.size ≤ q) (cWd h adr ad wd nO nW cI cO cW ((sC_cut σ (xs ((nI i) + 1).toNatClampNeg)).2) ++ mW hm am cI cZ τ) := hD
                        refine lv_aload_n hx hb dL_law_389 rfl (lv_at hl 2 rfl) ?_
                        refine lv_aload_n hx hb dL_law_390 rfl (lv_at hl 0 rfl) ?_
                        refine lv_iload_n hx hb dL_law_391 rfl (lv_at hl 3 rfl) ?_
                        refine lv_iconst (v := 1) hx hb dL_law_392 (by decide) ?_
                        refine lv_iadd hx hb dL_law_393 ?_
                        refine va_sld hx hb hX hbl hbA hS (sl_1 hlt hL) dL_law_394 ?_
                        have hP : va_P (dC, dI) vwCl (mW hm am cI cZ τ ++ cWd h adr ad wd nO nW cI cO cW ((sC_cut σ (xs ((nI i) + 1).toNatClampNeg)).2)) H := va_P_perm hP List.perm_append_comm
                        have hD : va_D (fun q : Nat => s.heap.size ≤ q) (mW hm am cI cZ τ ++ cWd h adr ad wd nO nW cI cO cW ((sC_cut σ (xs ((nI i) + 1).toNatClampNeg)).2)) := va_D_perm hD List.perm_append_comm
                        refine w_calli (va_runV (As := [.int (xs ((nI i) + 1).toNatClampNeg)]) (rest := [.int ((sC_cut σ (xs ((nI i) + 1).toNatClampNeg)).1)]) ⟨hx, hb, hml, hown, hts⟩ (c_M_cut l dC dI cI cZ cO cW s.heap.size (cWd h adr ad wd nO nW cI cO cW ((sC_cut σ (xs ((nI i) + 1).toNatClampNeg)).2)) hm am τ (xs ((nI i) + 1).toNatClampNeg) hMi) (cwV 1 hts gL_law_X3_cut rfl rfl rfl (by decide +kernel) ⟨(Nat.le_of_ble_eq_true rfl), (Nat.le_of_ble_eq_true rfl)⟩) (wPreV hS.1 hP hK hD (va_recv hK hP (ci := 3) (q0 := 0) rfl rfl)) rfl rfl hl.1 rfl (lv_room (Nat.le_of_ble_eq_true rfl)) dL_law_395 ⟨by show _ ≤ 600000; omega, by show _ ≤ 7302250; omega⟩) hS (fun r u H locs e_ hP hD hS => ?_)
                        obtain ⟨rfl, rfl⟩ := e_
                        have hP : va_P (dC, dI) vwCl (cWd h adr ad wd nO nW cI cO cW ((sC_cut σ (xs ((nI i) + 1).toNatClampNeg)).2) ++ mW hm am cI cZ ((sM_cut τ (xs ((nI i) + 1).toNatClampNeg)).2)) H := va_P_perm hP List.perm_append_comm
                        have hD : va_D (fun q : Nat => s.heap.size ≤ q) (cWd h adr ad wd nO nW cI cO cW ((sC_cut σ (xs ((nI i) + 1).toNatClampNeg)).2) ++ mW hm am cI cZ ((sM_cut τ (xs ((nI i) + 1).toNatClampNeg)).2)) := va_D_perm hD List.perm_append_comm
                        refine lv_icmp_eq (tgt := 610) hx hb dL_law_398 (by decide) (fun c27_ => ?_) (fun c27_ => ?_)
                        · refine lv_iinc (v := nI (i + 4)) (lv' := [(3, .int (nI (i + 4))), (0, .ref b), (1, .ref h), (2, .ref hm)]) hx hb dL_law_610 hl (k := 3) rfl (nI_add i 4) (by decide) rfl (fun ls hl => ?_)
                          refine lv_goto (tgt := 28) hx hb dL_law_613 (by decide) ?_
                          refine W.widen (k := 24 + (k + 1)) (n := 18303 + 13 * (k + 1)) (by omega) (by omega) ?_
                          exact ih (k + 1) (i + 4) nO nW ad wd ((sC_cut σ (xs ((nI i) + 1).toNatClampNeg)).2) ((sM_cut τ (xs ((nI i) + 1).toNatClampNeg)).2) _ _ ls (by omega) (by omega) (by omega) (st_cut hSim hk (xs ((nI i) + 1).toNatClampNeg)).2 hP hD hS (lv_sub hl [1, 2, 3, 0] rfl)
                        · refine lv_iconst (v := 0) hx hb dL_law_401 (by decide) ?_
                          exact absurd (st_cut hSim hk (xs ((nI i) + 1).toNatClampNeg)).1 c27_
                      · by_cases c10_ : ((xs (nI i).toNatClampNeg) &&& 15) = 9
                        · refine lv_tableIn (tgt := 403) hx hb dL_law_42 (by rw [c10_]; decide) (by rw [c10_]; decide) (by rw [c10_]; rfl) (by decide) ?_
                          refine lv_aload_n hx hb dL_law_403 rfl (lv_at hl 1 rfl) ?_
                          refine lv_aload_n hx hb dL_law_404 rfl (lv_at hl 0 rfl) ?_
                          refine lv_iload_n hx hb dL_law_405 rfl (lv_at hl 3 rfl) ?_
                          refine lv_iconst (v := 1) hx hb dL_law_406 (by decide) ?_
                          refine lv_iadd hx hb dL_law_407 ?_
                          refine va_sld hx hb hX hbl hbA hS (sl_1 hlt hL) dL_law_408 ?_
                          refine w_calli (va_runV (As := [.int (xs ((nI i) + 1).toNatClampNeg)]) (rest := []) ⟨hx, hb, hml, hown, hts⟩ (c_C_purge l dC dI cI cZ cO cW s.heap.size (mW hm am cI cZ τ) h adr ad wd nO nW σ (xs ((nI i) + 1).toNatClampNeg) hCi) (cwV 1 hts gL_law_X0_purge rfl rfl rfl (by decide +kernel) ⟨(Nat.le_of_ble_eq_true rfl), (Nat.le_of_ble_eq_true rfl)⟩) (wPreV hS.1 hP hK hD (va_recv hK hP (ci := 0) (q0 := 0) rfl rfl)) rfl rfl hl.1 rfl (lv_room (Nat.le_of_ble_eq_true rfl)) dL_law_409 ⟨by show _ ≤ 600000; omega, by show _ ≤ 7302250; omega⟩) hS (fun r u H locs e_ hP hD hS => ?_)
                          obtain ⟨rfl, rfl⟩ := e_
                          have hP : va_P (dC, dI) vwCl (cWd h adr ad wd nO nW cI cO cW ((sC_purge σ (xs ((nI i) + 1).toNatClampNeg)).2) ++ mW hm am cI cZ τ) H := hP
                          have hD : va_D (fun q : Nat => s.heap.size ≤ q) (cWd h adr ad wd nO nW cI cO cW ((sC_purge σ (xs ((nI i) + 1).toNatClampNeg)).2) ++ mW hm am cI cZ τ) := hD
                          refine lv_aload_n hx hb dL_law_412 rfl (lv_at hl 2 rfl) ?_
                          refine lv_aload_n hx hb dL_law_413 rfl (lv_at hl 0 rfl) ?_
                          refine lv_iload_n hx hb dL_law_414 rfl (lv_at hl 3 rfl) ?_
                          refine lv_iconst (v := 1) hx hb dL_law_415 (by decide) ?_
                          refine lv_iadd hx hb dL_law_416 ?_
                          refine va_sld hx hb hX hbl hbA hS (sl_1 hlt hL) dL_law_417 ?_
                          have hP : va_P (dC, dI) vwCl (mW hm am cI cZ τ ++ cWd h adr ad wd nO nW cI cO cW ((sC_purge σ (xs ((nI i) + 1).toNatClampNeg)).2)) H := va_P_perm hP List.perm_append_comm
                          have hD : va_D (fun q : Nat => s.heap.size ≤ q) (mW hm am cI cZ τ ++ cWd h adr ad wd nO nW cI cO cW ((sC_purge σ (xs ((nI i) + 1).toNatClampNeg)).2)) := va_D_perm hD List.perm_append_comm
                          refine w_calli (va_runV (As := [.int (xs ((nI i) + 1).toNatClampNeg)]) (rest := [.int ((sC_purge σ (xs ((nI i) + 1).toNatClampNeg)).1)]) ⟨hx, hb, hml, hown, hts⟩ (c_M_purge l dC dI cI cZ cO cW s.heap.size (cWd h adr ad wd nO nW cI cO cW ((sC_purge σ (xs ((nI i) + 1).toNatClampNeg)).2)) hm am τ (xs ((nI i) + 1).toNatClampNeg) hMi) (cwV 1 hts gL_law_X3_purge rfl rfl rfl (by decide +kernel) ⟨(Nat.le_of_ble_eq_true rfl), (Nat.le_of_ble_eq_true rfl)⟩) (wPreV hS.1 hP hK hD (va_recv hK hP (ci := 3) (q0 := 0) rfl rfl)) rfl rfl hl.1 rfl (lv_room (Nat.le_of_ble_eq_true rfl)) dL_law_418 ⟨by show _ ≤ 600000; omega, by show _ ≤ 7302250; omega⟩) hS (fun r u H locs e_ hP hD hS => ?_)
                          obtain ⟨rfl, rfl⟩ := e_
                          have hP : va_P (dC, dI) vwCl (cWd h adr ad wd nO nW cI cO cW ((sC_purge σ (xs ((nI i) + 1).toNatClampNeg)).2) ++ mW hm am cI cZ ((sM_purge τ (xs ((nI i) + 1).toNatClampNeg)).2)) H := va_P_perm hP List.perm_append_comm
                          have hD : va_D (fun q : Nat => s.heap.size ≤ q) (cWd h adr ad wd nO nW cI cO cW ((sC_purge σ (xs ((nI i) + 1).toNatClampNeg)).2) ++ mW hm am cI cZ ((sM_purge τ (xs ((nI i) + 1).toNatClampNeg)).2)) := va_D_perm hD List.perm_append_comm
                          refine lv_icmp_eq (tgt := 610) hx hb dL_law_421 (by decide) (fun c28_ => ?_) (fun c28_ => ?_)
                          · refine lv_iinc (v := nI (i + 4)) (lv' := [(3, .int (nI (i + 4))), (0, .ref b), (1, .ref h), (2, .ref hm)]) hx hb dL_law_610 hl (k := 3) rfl (nI_add i 4) (by decide) rfl (fun ls hl => ?_)
                            refine lv_goto (tgt := 28) hx hb dL_law_613 (by decide) ?_
                            refine W.widen (k := 24 + (k + 1)) (n := 18303 + 13 * (k + 1)) (by omega) (by omega) ?_
                            exact ih (k + 1) (i + 4) nO nW ad wd ((sC_purge σ (xs ((nI i) + 1).toNatClampNeg)).2) ((sM_purge τ (xs ((nI i) + 1).toNatClampNeg)).2) _ _ ls (by omega) (by omega) (by omega) (st_purge hSim hk (xs ((nI i) + 1).toNatClampNeg)).2 hP hD hS (lv_sub hl [1, 2, 3, 0] rfl)
                          · refine lv_iconst (v := 0) hx hb dL_law_424 (by decide) ?_
                            exact absurd (st_purge hSim hk (xs ((nI i) + 1).toNatClampNeg)).1 c28_
                        · by_cases c11_ : ((xs (nI i).toNatClampNeg) &&& 15) = 10
                          · refine lv_tableIn (tgt := 426) hx hb dL_law_42 (by rw [c11_]; decide) (by rw [c11_]; decide) (by rw [c11_]; rfl) (by decide) ?_
                            refine lv_aload_n hx hb dL_law_426 rfl (lv_at hl 1 rfl) ?_
                            refine lv_aload_n hx hb dL_law_427 rfl (lv_at hl 0 rfl) ?_
                            refine lv_iload_n hx hb dL_law_428 rfl (lv_at hl 3 rfl) ?_
                            refine lv_iconst (v := 1) hx hb dL_law_429 (by decide) ?_
                            refine lv_iadd hx hb dL_law_430 ?_
                            refine va_sld hx hb hX hbl hbA hS (sl_1 hlt hL) dL_law_431 ?_
                            refine lv_aload_n hx hb dL_law_432 rfl (lv_at hl 0 rfl) ?_
                            refine lv_iload_n hx hb dL_law_433 rfl (lv_at hl 3 rfl) ?_
                            refine lv_iconst (v := 2) hx hb dL_law_434 (by decide) ?_
                            refine lv_iadd hx hb dL_law_435 ?_
                            refine va_sld hx hb hX hbl hbA hS (sl_2 hlt hL) dL_law_436 ?_
                            refine lv_if_eq (tgt := 444) hx hb dL_law_437 (by decide) (fun c29_ => ?_) (fun c29_ => ?_)
                            · refine lv_iconst (v := 0) hx hb dL_law_444 (by decide) ?_
                              refine w_calli (va_runV (As := [.int (xs ((nI i) + 1).toNatClampNeg), .int 0]) (rest := []) ⟨hx, hb, hml, hown, hts⟩ (c_C_hold l dC dI cI cZ cO cW s.heap.size (mW hm am cI cZ τ) h adr ad wd nO nW σ (xs ((nI i) + 1).toNatClampNeg) 0 hCi (by decide)) (cwV 2 hts gL_law_X0_hold rfl rfl rfl (by decide +kernel) ⟨(Nat.le_of_ble_eq_true rfl), (Nat.le_of_ble_eq_true rfl)⟩) (wPreV hS.1 hP hK hD (va_recv hK hP (ci := 0) (q0 := 0) rfl rfl)) rfl rfl hl.1 rfl (lv_room (Nat.le_of_ble_eq_true rfl)) dL_law_445 ⟨by show _ ≤ 600000; omega, by show _ ≤ 7302250; omega⟩) hS (fun r u H locs e_ hP hD hS => ?_)
                              obtain ⟨rfl, rfl⟩ := e_
                              have hP : va_P (dC, dI) vwCl (cWd h adr ad wd nO nW cI cO cW ((sC_hold σ (xs ((nI i) + 1).toNatClampNeg) 0).2) ++ mW hm am cI cZ τ) H := hP
                              have hD : va_D (fun q : Nat => s.heap.size ≤ q) (cWd h adr ad wd nO nW cI cO cW ((sC_hold σ (xs ((nI i) + 1).toNatClampNeg) 0).2) ++ mW hm am cI cZ τ) := hD
                              refine lv_aload_n hx hb dL_law_448 rfl (lv_at hl 2 rfl) ?_
                              refine lv_aload_n hx hb dL_law_449 rfl (lv_at hl 0 rfl) ?_
                              refine lv_iload_n hx hb dL_law_450 rfl (lv_at hl 3 rfl) ?_
                              refine lv_iconst (v := 1) hx hb dL_law_451 (by decide) ?_
                              refine lv_iadd hx hb dL_law_452 ?_
                              refine va_sld hx hb hX hbl hbA hS (sl_1 hlt hL) dL_law_453 ?_
                              refine lv_aload_n hx hb dL_law_454 rfl (lv_at hl 0 rfl) ?_
                              refine lv_iload_n hx hb dL_law_455 rfl (lv_at hl 3 rfl) ?_
                              refine lv_iconst (v := 2) hx hb dL_law_456 (by decide) ?_
                              refine lv_iadd hx hb dL_law_457 ?_
                              refine va_sld hx hb hX hbl hbA hS (sl_2 hlt hL) dL_law_458 ?_
                              refine lv_if_eq (tgt := 466) hx hb dL_law_459 (by decide) (fun _ => ?_) (fun z_ => absurd c29_ z_)
                              refine lv_iconst (v := 0) hx hb dL_law_466 (by decide) ?_
                              have hP : va_P (dC, dI) vwCl (mW hm am cI cZ τ ++ cWd h adr ad wd nO nW cI cO cW ((sC_hold σ (xs ((nI i) + 1).toNatClampNeg) 0).2)) H := va_P_perm hP List.perm_append_comm
                              have hD : va_D (fun q : Nat => s.heap.size ≤ q) (mW hm am cI cZ τ ++ cWd h adr ad wd nO nW cI cO cW ((sC_hold σ (xs ((nI i) + 1).toNatClampNeg) 0).2)) := va_D_perm hD List.perm_append_comm
                              refine w_calli (va_runV (As := [.int (xs ((nI i) + 1).toNatClampNeg), .int 0]) (rest := [.int ((sC_hold σ (xs ((nI i) + 1).toNatClampNeg) 0).1)]) ⟨hx, hb, hml, hown, hts⟩ (c_M_hold l dC dI cI cZ cO cW s.heap.size (cWd h adr ad wd nO nW cI cO cW ((sC_hold σ (xs ((nI i) + 1).toNatClampNeg) 0).2)) hm am τ (xs ((nI i) + 1).toNatClampNeg) 0 hMi) (cwV 2 hts gL_law_X3_hold rfl rfl rfl (by decide +kernel) ⟨(Nat.le_of_ble_eq_true rfl), (Nat.le_of_ble_eq_true rfl)⟩) (wPreV hS.1 hP hK hD (va_recv hK hP (ci := 3) (q0 := 0) rfl rfl)) rfl rfl hl.1 rfl (lv_room (Nat.le_of_ble_eq_true rfl)) dL_law_467 ⟨by show _ ≤ 600000; omega, by show _ ≤ 7302250; omega⟩) hS (fun r u H locs e_ hP hD hS => ?_)
                              obtain ⟨rfl, rfl⟩ := e_
                              have hP : va_P (dC, dI) vwCl (cWd h adr ad wd nO nW cI cO cW ((sC_hold σ (xs ((nI i) + 1).toNatClampNeg) 0).2) ++ mW hm am cI cZ ((sM_hold τ (xs ((nI i) + 1).toNatClampNeg) 0).2)) H := va_P_perm hP List.perm_append_comm
                              have hD : va_D (fun q : Nat => s.heap.size ≤ q) (cWd h adr ad wd nO nW cI cO cW ((sC_hold σ (xs ((nI i) + 1).toNatClampNeg) 0).2) ++ mW hm am cI cZ ((sM_hold τ (xs ((nI i) + 1).toNatClampNeg) 0).2)) := va_D_perm hD List.perm_append_comm
                              refine lv_icmp_eq (tgt := 610) hx hb dL_law_470 (by decide) (fun c30_ => ?_) (fun c30_ => ?_)
                              · refine lv_iinc (v := nI (i + 4)) (lv' := [(3, .int (nI (i + 4))), (0, .ref b), (1, .ref h), (2, .ref hm)]) hx hb dL_law_610 hl (k := 3) rfl (nI_add i 4) (by decide) rfl (fun ls hl => ?_)
                                refine lv_goto (tgt := 28) hx hb dL_law_613 (by decide) ?_
                                refine W.widen (k := 24 + (k + 1)) (n := 18303 + 13 * (k + 1)) (by omega) (by omega) ?_
                                exact ih (k + 1) (i + 4) nO nW ad wd ((sC_hold σ (xs ((nI i) + 1).toNatClampNeg) 0).2) ((sM_hold τ (xs ((nI i) + 1).toNatClampNeg) 0).2) _ _ ls (by omega) (by omega) (by omega) (st_hold hSim hk (xs ((nI i) + 1).toNatClampNeg) 0 (by decide)).2 hP hD hS (lv_sub hl [1, 2, 3, 0] rfl)
                              · refine lv_iconst (v := 0) hx hb dL_law_473 (by decide) ?_
                                exact absurd (st_hold hSim hk (xs ((nI i) + 1).toNatClampNeg) 0 (by decide)).1 c30_
                            · refine lv_iconst (v := 1) hx hb dL_law_440 (by decide) ?_
                              refine lv_goto (tgt := 445) hx hb dL_law_441 (by decide) ?_
                              refine w_calli (va_runV (As := [.int (xs ((nI i) + 1).toNatClampNeg), .int 1]) (rest := []) ⟨hx, hb, hml, hown, hts⟩ (c_C_hold l dC dI cI cZ cO cW s.heap.size (mW hm am cI cZ τ) h adr ad wd nO nW σ (xs ((nI i) + 1).toNatClampNeg) 1 hCi (by decide)) (cwV 2 hts gL_law_X0_hold rfl rfl rfl (by decide +kernel) ⟨(Nat.le_of_ble_eq_true rfl), (Nat.le_of_ble_eq_true rfl)⟩) (wPreV hS.1 hP hK hD (va_recv hK hP (ci := 0) (q0 := 0) rfl rfl)) rfl rfl hl.1 rfl (lv_room (Nat.le_of_ble_eq_true rfl)) dL_law_445 ⟨by show _ ≤ 600000; omega, by show _ ≤ 7302250; omega⟩) hS (fun r u H locs e_ hP hD hS => ?_)
                              obtain ⟨rfl, rfl⟩ := e_
                              have hP : va_P (dC, dI) vwCl (cWd h adr ad wd nO nW cI cO cW ((sC_hold σ (xs ((nI i) + 1).toNatClampNeg) 1).2) ++ mW hm am cI cZ τ) H := hP
                              have hD : va_D (fun q : Nat => s.heap.size ≤ q) (cWd h adr ad wd nO nW cI cO cW ((sC_hold σ (xs ((nI i) + 1).toNatClampNeg) 1).2) ++ mW hm am cI cZ τ) := hD
                              refine lv_aload_n hx hb dL_law_448 rfl (lv_at hl 2 rfl) ?_
                              refine lv_aload_n hx hb dL_law_449 rfl (lv_at hl 0 rfl) ?_
                              refine lv_iload_n hx hb dL_law_450 rfl (lv_at hl 3 rfl) ?_
                              refine lv_iconst (v := 1) hx hb dL_law_451 (by decide) ?_
                              refine lv_iadd hx hb dL_law_452 ?_
                              refine va_sld hx hb hX hbl hbA hS (sl_1 hlt hL) dL_law_453 ?_
                              refine lv_aload_n hx hb dL_law_454 rfl (lv_at hl 0 rfl) ?_
                              refine lv_iload_n hx hb dL_law_455 rfl (lv_at hl 3 rfl) ?_
                              refine lv_iconst (v := 2) hx hb dL_law_456 (by decide) ?_
                              refine lv_iadd hx hb dL_law_457 ?_
                              refine va_sld hx hb hX hbl hbA hS (sl_2 hlt hL) dL_law_458 ?_
                              refine lv_if_eq (tgt := 466) hx hb dL_law_459 (by decide) (fun z_ => absurd z_ c29_) (fun _ => ?_)
                              refine lv_iconst (v := 1) hx hb dL_law_462 (by decide) ?_
                              refine lv_goto (tgt := 467) hx hb dL_law_463 (by decide) ?_
                              have hP : va_P (dC, dI) vwCl (mW hm am cI cZ τ ++ cWd h adr ad wd nO nW cI cO cW ((sC_hold σ (xs ((nI i) + 1).toNatClampNeg) 1).2)) H := va_P_perm hP List.perm_append_comm
                              have hD : va_D (fun q : Nat => s.heap.size ≤ q) (mW hm am cI cZ τ ++ cWd h adr ad wd nO nW cI cO cW ((sC_hold σ (xs ((nI i) + 1).toNatClampNeg) 1).2)) := va_D_perm hD List.perm_append_comm
                              refine w_calli (va_runV (As := [.int (xs ((nI i) + 1).toNatClampNeg), .int 1]) (rest := [.int ((sC_hold σ (xs ((nI i) + 1).toNatClampNeg) 1).1)]) ⟨hx, hb, hml, hown, hts⟩ (c_M_hold l dC dI cI cZ cO cW s.heap.size (cWd h adr ad wd nO nW cI cO cW ((sC_hold σ (xs ((nI i) + 1).toNatClampNeg) 1).2)) hm am τ (xs ((nI i) + 1).toNatClampNeg) 1 hMi) (cwV 2 hts gL_law_X3_hold rfl rfl rfl (by decide +kernel) ⟨(Nat.le_of_ble_eq_true rfl), (Nat.le_of_ble_eq_true rfl)⟩) (wPreV hS.1 hP hK hD (va_recv hK hP (ci := 3) (q0 := 0) rfl rfl)) rfl rfl hl.1 rfl (lv_room (Nat.le_of_ble_eq_true rfl)) dL_law_467 ⟨by show _ ≤ 600000; omega, by show _ ≤ 7302250; omega⟩) hS (fun r u H locs e_ hP hD hS => ?_)
                              obtain ⟨rfl, rfl⟩ := e_
                              have hP : va_P (dC, dI) vwCl (cWd h adr ad wd nO nW cI cO cW ((sC_hold σ (xs ((nI i) + 1).toNatClampNeg) 1).2) ++ mW hm am cI cZ ((sM_hold τ (xs ((nI i) + 1).toNatClampNeg) 1).2)) H := va_P_perm hP List.perm_append_comm
                              have hD : va_D (fun q : Nat => s.heap.size ≤ q) (cWd h adr ad wd nO nW cI cO cW ((sC_hold σ (xs ((nI i) + 1).toNatClampNeg) 1).2) ++ mW hm am cI cZ ((sM_hold τ (xs ((nI i) + 1).toNatClampNeg) 1).2)) := va_D_perm hD List.perm_append_comm
                              refine lv_icmp_eq (tgt := 610) hx hb dL_law_470 (by decide) (fun c31_ => ?_) (fun c31_ => ?_)
                              · refine lv_iinc (v := nI (i + 4)) (lv' := [(3, .int (nI (i + 4))), (0, .ref b), (1, .ref h), (2, .ref hm)]) hx hb dL_law_610 hl (k := 3) rfl (nI_add i 4) (by decide) rfl (fun ls hl => ?_)
                                refine lv_goto (tgt := 28) hx hb dL_law_613 (by decide) ?_
                                refine W.widen (k := 24 + (k + 1)) (n := 18303 + 13 * (k + 1)) (by omega) (by omega) ?_
                                exact ih (k + 1) (i + 4) nO nW ad wd ((sC_hold σ (xs ((nI i) + 1).toNatClampNeg) 1).2) ((sM_hold τ (xs ((nI i) + 1).toNatClampNeg) 1).2) _ _ ls (by omega) (by omega) (by omega) (st_hold hSim hk (xs ((nI i) + 1).toNatClampNeg) 1 (by decide)).2 hP hD hS (lv_sub hl [1, 2, 3, 0] rfl)
                              · refine lv_iconst (v := 0) hx hb dL_law_473 (by decide) ?_
                                exact absurd (st_hold hSim hk (xs ((nI i) + 1).toNatClampNeg) 1 (by decide)).1 c31_
                          · by_cases c12_ : ((xs (nI i).toNatClampNeg) &&& 15) = 11
                            · refine lv_tableIn (tgt := 475) hx hb dL_law_42 (by rw [c12_]; decide) (by rw [c12_]; decide) (by rw [c12_]; rfl) (by decide) ?_
                              refine lv_aload_n hx hb dL_law_475 rfl (lv_at hl 1 rfl) ?_
                              refine lv_aload_n hx hb dL_law_476 rfl (lv_at hl 0 rfl) ?_
                              refine lv_iload_n hx hb dL_law_477 rfl (lv_at hl 3 rfl) ?_
                              refine lv_iconst (v := 1) hx hb dL_law_478 (by decide) ?_
                              refine lv_iadd hx hb dL_law_479 ?_
                              refine va_sld hx hb hX hbl hbA hS (sl_1 hlt hL) dL_law_480 ?_
                              refine lv_aload_n hx hb dL_law_481 rfl (lv_at hl 0 rfl) ?_
                              refine lv_iload_n hx hb dL_law_482 rfl (lv_at hl 3 rfl) ?_
                              refine lv_iconst (v := 2) hx hb dL_law_483 (by decide) ?_
                              refine lv_iadd hx hb dL_law_484 ?_
                              refine va_sld hx hb hX hbl hbA hS (sl_2 hlt hL) dL_law_485 ?_
                              refine w_calli (va_runV (As := [.int (xs ((nI i) + 1).toNatClampNeg), .int (xs ((nI i) + 2).toNatClampNeg)]) (rest := []) ⟨hx, hb, hml, hown, hts⟩ (c_C_route l dC dI cI cZ cO cW s.heap.size (mW hm am cI cZ τ) h adr ad wd nO nW σ (xs ((nI i) + 1).toNatClampNeg) (xs ((nI i) + 2).toNatClampNeg) hCi) (cwV 2 hts gL_law_X0_route rfl rfl rfl (by decide +kernel) ⟨(Nat.le_of_ble_eq_true rfl), (Nat.le_of_ble_eq_true rfl)⟩) (wPreV hS.1 hP hK hD (va_recv hK hP (ci := 0) (q0 := 0) rfl rfl)) rfl rfl hl.1 rfl (lv_room (Nat.le_of_ble_eq_true rfl)) dL_law_486 ⟨by show _ ≤ 600000; omega, by show _ ≤ 7302250; omega⟩) hS (fun r u H locs e_ hP hD hS => ?_)
                              obtain ⟨rfl, rfl⟩ := e_
                              have hP : va_P (dC, dI) vwCl (cWd h adr ad wd nO nW cI cO cW ((sC_route σ (xs ((nI i) + 1).toNatClampNeg) (xs ((nI i) + 2).toNatClampNeg)).2) ++ mW hm am cI cZ τ) H := hP
                              have hD : va_D (fun q : Nat => s.heap.size ≤ q) (cWd h adr ad wd nO nW cI cO cW ((sC_route σ (xs ((nI i) + 1).toNatClampNeg) (xs ((nI i) + 2).toNatClampNeg)).2) ++ mW hm am cI cZ τ) := hD
                              refine lv_aload_n hx hb dL_law_489 rfl (lv_at hl 2 rfl) ?_
                              refine lv_aload_n hx hb dL_law_490 rfl (lv_at hl 0 rfl) ?_
                              refine lv_iload_n hx hb dL_law_491 rfl (lv_at hl 3 rfl) ?_
                              refine lv_iconst (v := 1) hx hb dL_law_492 (by decide) ?_
                              refine lv_iadd hx hb dL_law_493 ?_
                              refine va_sld hx hb hX hbl hbA hS (sl_1 hlt hL) dL_law_494 ?_
                              refine lv_aload_n hx hb dL_law_495 rfl (lv_at hl 0 rfl) ?_
                              refine lv_iload_n hx hb dL_law_496 rfl (lv_at hl 3 rfl) ?_
                              refine lv_iconst (v := 2) hx hb dL_law_497 (by decide) ?_
                              refine lv_iadd hx hb dL_law_498 ?_
                              refine va_sld hx hb hX hbl hbA hS (sl_2 hlt hL) dL_law_499 ?_
                              have hP : va_P (dC, dI) vwCl (mW hm am cI cZ τ ++ cWd h adr ad wd nO nW cI cO cW ((sC_route σ (xs ((nI i) + 1).toNatClampNeg) (xs ((nI i) + 2).toNatClampNeg)).2)) H := va_P_perm hP List.perm_append_comm
                              have hD : va_D (fun q : Nat => s.heap.size ≤ q) (mW hm am cI cZ τ ++ cWd h adr ad wd nO nW cI cO cW ((sC_route σ (xs ((nI i) + 1).toNatClampNeg) (xs ((nI i) + 2).toNatClampNeg)).2)) := va_D_perm hD List.perm_append_comm
                              refine w_calli (va_runV (As := [.int (xs ((nI i) + 1).toNatClampNeg), .int (xs ((nI i) + 2).toNatClampNeg)]) (rest := [.int ((sC_route σ (xs ((nI i) + 1).toNatClampNeg) (xs ((nI i) + 2).toNatClampNeg)).1)]) ⟨hx, hb, hml, hown, hts⟩ (c_M_route l dC dI cI cZ cO cW s.heap.size (cWd h adr ad wd nO nW cI cO cW ((sC_route σ (xs ((nI i) + 1).toNatClampNeg) (xs ((nI i) + 2).toNatClampNeg)).2)) hm am τ (xs ((nI i) + 1).toNatClampNeg) (xs ((nI i) + 2).toNatClampNeg) hMi) (cwV 2 hts gL_law_X3_route rfl rfl rfl (by decide +kernel) ⟨(Nat.le_of_ble_eq_true rfl), (Nat.le_of_ble_eq_true rfl)⟩) (wPreV hS.1 hP hK hD (va_recv hK hP (ci := 3) (q0 := 0) rfl rfl)) rfl rfl hl.1 rfl (lv_room (Nat.le_of_ble_eq_true rfl)) dL_law_500 ⟨by show _ ≤ 600000; omega, by show _ ≤ 7302250; omega⟩) hS (fun r u H locs e_ hP hD hS => ?_)
                              obtain ⟨rfl, rfl⟩ := e_
                              have hP : va_P (dC, dI) vwCl (cWd h adr ad wd nO nW cI cO cW ((sC_route σ (xs ((nI i) + 1).toNatClampNeg) (xs ((nI i) + 2).toNatClampNeg)).2) ++ mW hm am cI cZ ((sM_route τ (xs ((nI i) + 1).toNatClampNeg) (xs ((nI i) + 2).toNatClampNeg)).2)) H := va_P_perm hP List.perm_append_comm
                              have hD : va_D (fun q : Nat => s.heap.size ≤ q) (cWd h adr ad wd nO nW cI cO cW ((sC_route σ (xs ((nI i) + 1).toNatClampNeg) (xs ((nI i) + 2).toNatClampNeg)).2) ++ mW hm am cI cZ ((sM_route τ (xs ((nI i) + 1).toNatClampNeg) (xs ((nI i) + 2).toNatClampNeg)).2)) := va_D_perm hD List.perm_append_comm
                              refine lv_icmp_eq (tgt := 610) hx hb dL_law_503 (by decide) (fun c32_ => ?_) (fun c32_ => ?_)
                              · refine lv_iinc (v := nI (i + 4)) (lv' := [(3, .int (nI (i + 4))), (0, .ref b), (1, .ref h), (2, .ref hm)]) hx hb dL_law_610 hl (k := 3) rfl (nI_add i 4) (by decide) rfl (fun ls hl => ?_)
                                refine lv_goto (tgt := 28) hx hb dL_law_613 (by decide) ?_
                                refine W.widen (k := 24 + (k + 1)) (n := 18303 + 13 * (k + 1)) (by omega) (by omega) ?_
                                exact ih (k + 1) (i + 4) nO nW ad wd ((sC_route σ (xs ((nI i) + 1).toNatClampNeg) (xs ((nI i) + 2).toNatClampNeg)).2) ((sM_route τ (xs ((nI i) + 1).toNatClampNeg) (xs ((nI i) + 2).toNatClampNeg)).2) _ _ ls (by omega) (by omega) (by omega) (st_route hSim hk (xs ((nI i) + 1).toNatClampNeg) (xs ((nI i) + 2).toNatClampNeg)).2 hP hD hS (lv_sub hl [1, 2, 3, 0] rfl)
                              · refine lv_iconst (v := 0) hx hb dL_law_506 (by decide) ?_
                                exact absurd (st_route hSim hk (xs ((nI i) + 1).toNatClampNeg) (xs ((nI i) + 2).toNatClampNeg)).1 c32_
                            · by_cases c13_ : ((xs (nI i).toNatClampNeg) &&& 15) = 12
                              · refine lv_tableIn (tgt := 508) hx hb dL_law_42 (by rw [c13_]; decide) (by rw [c13_]; decide) (by rw [c13_]; rfl) (by decide) ?_
                                refine lv_aload_n hx hb dL_law_508 rfl (lv_at hl 1 rfl) ?_
                                refine lv_aload_n hx hb dL_law_509 rfl (lv_at hl 0 rfl) ?_
                                refine lv_iload_n hx hb dL_law_510 rfl (lv_at hl 3 rfl) ?_
                                refine lv_iconst (v := 1) hx hb dL_law_511 (by decide) ?_
                                refine lv_iadd hx hb dL_law_512 ?_
                                refine va_sld hx hb hX hbl hbA hS (sl_1 hlt hL) dL_law_513 ?_
                                refine vp_callSi (W.runV (As := [.int (xs ((nI i) + 1).toNatClampNeg)]) (rest := []) ⟨hx, hb, hml, hown, hts⟩ (c_C_search l dC dI cI cZ cO cW s.heap.size (mW hm am cI cZ τ) h adr ad wd nO nW σ (xs ((nI i) + 1).toNatClampNeg) hCi) (cwV 1 hts gL_law_X0_search rfl rfl rfl (by decide +kernel) ⟨(Nat.le_of_ble_eq_true rfl), (Nat.le_of_ble_eq_true rfl)⟩) (wPreV hS.1 hP hK hD (va_recv hK hP (ci := 0) (q0 := 0) rfl rfl)) rfl rfl hl.1 rfl (lv_room (Nat.le_of_ble_eq_true rfl)) dL_law_514 ⟨by show _ ≤ 600000; omega, by show _ ≤ 7302250; omega⟩) (fun r e_ => ?_)
                                subst e_
                                refine lv_aload_n hx hb dL_law_517 rfl (lv_at hl 2 rfl) ?_
                                refine lv_aload_n hx hb dL_law_518 rfl (lv_at hl 0 rfl) ?_
                                refine lv_iload_n hx hb dL_law_519 rfl (lv_at hl 3 rfl) ?_
                                refine lv_iconst (v := 1) hx hb dL_law_520 (by decide) ?_
                                refine lv_iadd hx hb dL_law_521 ?_
                                refine va_sld hx hb hX hbl hbA hS (sl_1 hlt hL) dL_law_522 ?_
                                have hP : va_P (dC, dI) vwCl (mW hm am cI cZ τ ++ cWd h adr ad wd nO nW cI cO cW σ) H := va_P_perm hP List.perm_append_comm
                                have hD : va_D (fun q : Nat => s.heap.size ≤ q) (mW hm am cI cZ τ ++ cWd h adr ad wd nO nW cI cO cW σ) := va_D_perm hD List.perm_append_comm
                                refine vp_callSi (W.runV (As := [.int (xs ((nI i) + 1).toNatClampNeg)]) (rest := [.int (sC_search σ (xs ((nI i) + 1).toNatClampNeg))]) ⟨hx, hb, hml, hown, hts⟩ (c_M_search l dC dI cI cZ cO cW s.heap.size (cWd h adr ad wd nO nW cI cO cW σ) hm am τ (xs ((nI i) + 1).toNatClampNeg) hMi) (cwV 1 hts gL_law_X3_search rfl rfl rfl (by decide +kernel) ⟨(Nat.le_of_ble_eq_true rfl), (Nat.le_of_ble_eq_true rfl)⟩) (wPreV hS.1 hP hK hD (va_recv hK hP (ci := 3) (q0 := 0) rfl rfl)) rfl rfl hl.1 rfl (lv_room (Nat.le_of_ble_eq_true rfl)) dL_law_523 ⟨by show _ ≤ 600000; omega, by show _ ≤ 7302250; omega⟩) (fun r e_ => ?_)
                                subst e_
                                have hP : va_P (dC, dI) vwCl (cWd h adr ad wd nO nW cI cO cW σ ++ mW hm am cI cZ τ) H := va_P_perm hP List.perm_append_comm
                                have hD : va_D (fun q : Nat => s.heap.size ≤ q) (cWd h adr ad wd nO nW cI cO cW σ ++ mW hm am cI cZ τ) := va_D_perm hD List.perm_append_comm
                                refine lv_icmp_eq (tgt := 610) hx hb dL_law_526 (by decide) (fun c33_ => ?_) (fun c33_ => ?_)
                                · refine lv_iinc (v := nI (i + 4)) (lv' := [(3, .int (nI (i + 4))), (0, .ref b), (1, .ref h), (2, .ref hm)]) hx hb dL_law_610 hl (k := 3) rfl (nI_add i 4) (by decide) rfl (fun ls hl => ?_)
                                  refine lv_goto (tgt := 28) hx hb dL_law_613 (by decide) ?_
                                  refine W.widen (k := 24 + (k + 1)) (n := 18303 + 13 * (k + 1)) (by omega) (by omega) ?_
                                  exact ih (k + 1) (i + 4) nO nW ad wd σ τ _ _ ls (by omega) (by omega) (by omega) hSim.mono hP hD hS (lv_sub hl [1, 2, 3, 0] rfl)
                                · refine lv_iconst (v := 0) hx hb dL_law_529 (by decide) ?_
                                  exact absurd (st_search hSim (by omega) (xs ((nI i) + 1).toNatClampNeg)) c33_
                              · by_cases c14_ : ((xs (nI i).toNatClampNeg) &&& 15) = 13
                                · refine lv_tableIn (tgt := 531) hx hb dL_law_42 (by rw [c14_]; decide) (by rw [c14_]; decide) (by rw [c14_]; rfl) (by decide) ?_
                                  refine lv_aload_n hx hb dL_law_531 rfl (lv_at hl 1 rfl) ?_
                                  refine lv_aload_n hx hb dL_law_532 rfl (lv_at hl 0 rfl) ?_
                                  refine lv_iload_n hx hb dL_law_533 rfl (lv_at hl 3 rfl) ?_
                                  refine lv_iconst (v := 1) hx hb dL_law_534 (by decide) ?_
                                  refine lv_iadd hx hb dL_law_535 ?_
                                  refine va_sld hx hb hX hbl hbA hS (sl_1 hlt hL) dL_law_536 ?_
                                  refine vp_callSi (W.runV (As := [.int (xs ((nI i) + 1).toNatClampNeg)]) (rest := []) ⟨hx, hb, hml, hown, hts⟩ (c_C_order l dC dI cI cZ cO cW s.heap.size (mW hm am cI cZ τ) h adr ad wd nO nW σ (xs ((nI i) + 1).toNatClampNeg) hCi) (cwV 1 hts gL_law_X0_order rfl rfl rfl (by decide +kernel) ⟨(Nat.le_of_ble_eq_true rfl), (Nat.le_of_ble_eq_true rfl)⟩) (wPreV hS.1 hP hK hD (va_recv hK hP (ci := 0) (q0 := 0) rfl rfl)) rfl rfl hl.1 rfl (lv_room (Nat.le_of_ble_eq_true rfl)) dL_law_537 ⟨by show _ ≤ 600000; omega, by show _ ≤ 7302250; omega⟩) (fun r e_ => ?_)
                                  subst e_
                                  refine lv_aload_n hx hb dL_law_540 rfl (lv_at hl 2 rfl) ?_
                                  refine lv_aload_n hx hb dL_law_541 rfl (lv_at hl 0 rfl) ?_
                                  refine lv_iload_n hx hb dL_law_542 rfl (lv_at hl 3 rfl) ?_
                                  refine lv_iconst (v := 1) hx hb dL_law_543 (by decide) ?_
                                  refine lv_iadd hx hb dL_law_544 ?_
                                  refine va_sld hx hb hX hbl hbA hS (sl_1 hlt hL) dL_law_545 ?_
                                  have hP : va_P (dC, dI) vwCl (mW hm am cI cZ τ ++ cWd h adr ad wd nO nW cI cO cW σ) H := va_P_perm hP List.perm_append_comm
                                  have hD : va_D (fun q : Nat => s.heap.size ≤ q) (mW hm am cI cZ τ ++ cWd h adr ad wd nO nW cI cO cW σ) := va_D_perm hD List.perm_append_comm
                                  refine vp_callSi (W.runV (As := [.int (xs ((nI i) + 1).toNatClampNeg)]) (rest := [.int (sC_order σ (xs ((nI i) + 1).toNatClampNeg))]) ⟨hx, hb, hml, hown, hts⟩ (c_M_order l dC dI cI cZ cO cW s.heap.size (cWd h adr ad wd nO nW cI cO cW σ) hm am τ (xs ((nI i) + 1).toNatClampNeg) hMi) (cwV 1 hts gL_law_X3_order rfl rfl rfl (by decide +kernel) ⟨(Nat.le_of_ble_eq_true rfl), (Nat.le_of_ble_eq_true rfl)⟩) (wPreV hS.1 hP hK hD (va_recv hK hP (ci := 3) (q0 := 0) rfl rfl)) rfl rfl hl.1 rfl (lv_room (Nat.le_of_ble_eq_true rfl)) dL_law_546 ⟨by show _ ≤ 600000; omega, by show _ ≤ 7302250; omega⟩) (fun r e_ => ?_)
                                  subst e_
                                  have hP : va_P (dC, dI) vwCl (cWd h adr ad wd nO nW cI cO cW σ ++ mW hm am cI cZ τ) H := va_P_perm hP List.perm_append_comm
                                  have hD : va_D (fun q : Nat => s.heap.size ≤ q) (cWd h adr ad wd nO nW cI cO cW σ ++ mW hm am cI cZ τ) := va_D_perm hD List.perm_append_comm
                                  refine lv_icmp_eq (tgt := 610) hx hb dL_law_549 (by decide) (fun c34_ => ?_) (fun c34_ => ?_)
                                  · refine lv_iinc (v := nI (i + 4)) (lv' := [(3, .int (nI (i + 4))), (0, .ref b), (1, .ref h), (2, .ref hm)]) hx hb dL_law_610 hl (k := 3) rfl (nI_add i 4) (by decide) rfl (fun ls hl => ?_)
                                    refine lv_goto (tgt := 28) hx hb dL_law_613 (by decide) ?_
                                    refine W.widen (k := 24 + (k + 1)) (n := 18303 + 13 * (k + 1)) (by omega) (by omega) ?_
                                    exact ih (k + 1) (i + 4) nO nW ad wd σ τ _ _ ls (by omega) (by omega) (by omega) hSim.mono hP hD hS (lv_sub hl [1, 2, 3, 0] rfl)
                                  · refine lv_iconst (v := 0) hx hb dL_law_552 (by decide) ?_
                                    exact absurd (st_order hSim (by omega) (xs ((nI i) + 1).toNatClampNeg)) c34_
                                · by_cases c15_ : ((xs (nI i).toNatClampNeg) &&& 15) = 14
                                  · refine lv_tableIn (tgt := 554) hx hb dL_law_42 (by rw [c15_]; decide) (by rw [c15_]; decide) (by rw [c15_]; rfl) (by decide) ?_
                                    refine lv_aload_n hx hb dL_law_554 rfl (lv_at hl 1 rfl) ?_
                                    refine lv_aload_n hx hb dL_law_555 rfl (lv_at hl 0 rfl) ?_
                                    refine lv_iload_n hx hb dL_law_556 rfl (lv_at hl 3 rfl) ?_
                                    refine lv_iconst (v := 1) hx hb dL_law_557 (by decide) ?_
                                    refine lv_iadd hx hb dL_law_558 ?_
                                    refine va_sld hx hb hX hbl hbA hS (sl_1 hlt hL) dL_law_559 ?_
                                    refine lv_aload_n hx hb dL_law_560 rfl (lv_at hl 0 rfl) ?_
                                    refine lv_iload_n hx hb dL_law_561 rfl (lv_at hl 3 rfl) ?_
                                    refine lv_iconst (v := 2) hx hb dL_law_562 (by decide) ?_
                                    refine lv_iadd hx hb dL_law_563 ?_
                                    refine va_sld hx hb hX hbl hbA hS (sl_2 hlt hL) dL_law_564 ?_
                                    refine vp_callSi (W.runV (As := [.int (xs ((nI i) + 1).toNatClampNeg), .int (xs ((nI i) + 2).toNatClampNeg)]) (rest := []) ⟨hx, hb, hml, hown, hts⟩ (c_C_state l dC dI cI cZ cO cW s.heap.size (mW hm am cI cZ τ) h adr ad wd nO nW σ (xs ((nI i) + 1).toNatClampNeg) (xs ((nI i) + 2).toNatClampNeg) hCi) (cwV 2 hts gL_law_X0_state rfl rfl rfl (by decide +kernel) ⟨(Nat.le_of_ble_eq_true rfl), (Nat.le_of_ble_eq_true rfl)⟩) (wPreV hS.1 hP hK hD (va_recv hK hP (ci := 0) (q0 := 0) rfl rfl)) rfl rfl hl.1 rfl (lv_room (Nat.le_of_ble_eq_true rfl)) dL_law_565 ⟨by show _ ≤ 600000; omega, by show _ ≤ 7302250; omega⟩) (fun r e_ => ?_)
                                    subst e_
                                    refine lv_aload_n hx hb dL_law_568 rfl (lv_at hl 2 rfl) ?_
                                    refine lv_aload_n hx hb dL_law_569 rfl (lv_at hl 0 rfl) ?_
                                    refine lv_iload_n hx hb dL_law_570 rfl (lv_at hl 3 rfl) ?_
                                    refine lv_iconst (v := 1) hx hb dL_law_571 (by decide) ?_
                                    refine lv_iadd hx hb dL_law_572 ?_
                                    refine va_sld hx hb hX hbl hbA hS (sl_1 hlt hL) dL_law_573 ?_
                                    refine lv_aload_n hx hb dL_law_574 rfl (lv_at hl 0 rfl) ?_
                                    refine lv_iload_n hx hb dL_law_575 rfl (lv_at hl 3 rfl) ?_
                                    refine lv_iconst (v := 2) hx hb dL_law_576 (by decide) ?_
                                    refine lv_iadd hx hb dL_law_577 ?_
                                    refine va_sld hx hb hX hbl hbA hS (sl_2 hlt hL) dL_law_578 ?_
                                    have hP : va_P (dC, dI) vwCl (mW hm am cI cZ τ ++ cWd h adr ad wd nO nW cI cO cW σ) H := va_P_perm hP List.perm_append_comm
                                    have hD : va_D (fun q : Nat => s.heap.size ≤ q) (mW hm am cI cZ τ ++ cWd h adr ad wd nO nW cI cO cW σ) := va_D_perm hD List.perm_append_comm
                                    refine vp_callSi (W.runV (As := [.int (xs ((nI i) + 1).toNatClampNeg), .int (xs ((nI i) + 2).toNatClampNeg)]) (rest := [.int (sC_state σ (xs ((nI i) + 1).toNatClampNeg) (xs ((nI i) + 2).toNatClampNeg))]) ⟨hx, hb, hml, hown, hts⟩ (c_M_state l dC dI cI cZ cO cW s.heap.size (cWd h adr ad wd nO nW cI cO cW σ) hm am τ (xs ((nI i) + 1).toNatClampNeg) (xs ((nI i) + 2).toNatClampNeg) hMi) (cwV 2 hts gL_law_X3_state rfl rfl rfl (by decide +kernel) ⟨(Nat.le_of_ble_eq_true rfl), (Nat.le_of_ble_eq_true rfl)⟩) (wPreV hS.1 hP hK hD (va_recv hK hP (ci := 3) (q0 := 0) rfl rfl)) rfl rfl hl.1 rfl (lv_room (Nat.le_of_ble_eq_true rfl)) dL_law_579 ⟨by show _ ≤ 600000; omega, by show _ ≤ 7302250; omega⟩) (fun r e_ => ?_)
                                    subst e_
                                    have hP : va_P (dC, dI) vwCl (cWd h adr ad wd nO nW cI cO cW σ ++ mW hm am cI cZ τ) H := va_P_perm hP List.perm_append_comm
                                    have hD : va_D (fun q : Nat => s.heap.size ≤ q) (cWd h adr ad wd nO nW cI cO cW σ ++ mW hm am cI cZ τ) := va_D_perm hD List.perm_append_comm
                                    refine lv_icmp_eq (tgt := 610) hx hb dL_law_582 (by decide) (fun c35_ => ?_) (fun c35_ => ?_)
                                    · refine lv_iinc (v := nI (i + 4)) (lv' := [(3, .int (nI (i + 4))), (0, .ref b), (1, .ref h), (2, .ref hm)]) hx hb dL_law_610 hl (k := 3) rfl (nI_add i 4) (by decide) rfl (fun ls hl => ?_)
                                      refine lv_goto (tgt := 28) hx hb dL_law_613 (by decide) ?_
                                      refine W.widen (k := 24 + (k + 1)) (n := 18303 + 13 * (k + 1)) (by omega) (by omega) ?_
                                      exact ih (k + 1) (i + 4) nO nW ad wd σ τ _ _ ls (by omega) (by omega) (by omega) hSim.mono hP hD hS (lv_sub hl [1, 2, 3, 0] rfl)
                                    · refine lv_iconst (v := 0) hx hb dL_law_585 (by decide) ?_
                                      exact absurd (st_state hSim (by omega) (xs ((nI i) + 1).toNatClampNeg) (xs ((nI i) + 2).toNatClampNeg)) c35_
                                  · by_cases c16_ : ((xs (nI i).toNatClampNeg) &&& 15) = 15
                                    · refine lv_tableIn (tgt := 587) hx hb dL_law_42 (by rw [c16_]; decide) (by rw [c16_]; decide) (by rw [c16_]; rfl) (by decide) ?_
                                      refine lv_aload_n hx hb dL_law_587 rfl (lv_at hl 1 rfl) ?_
                                      refine lv_aload_n hx hb dL_law_588 rfl (lv_at hl 0 rfl) ?_
                                      refine lv_iload_n hx hb dL_law_589 rfl (lv_at hl 3 rfl) ?_
                                      refine lv_iconst (v := 1) hx hb dL_law_590 (by decide) ?_
                                      refine lv_iadd hx hb dL_law_591 ?_
                                      refine va_sld hx hb hX hbl hbA hS (sl_1 hlt hL) dL_law_592 ?_
                                      refine vp_callSi (W.runV (As := [.int (xs ((nI i) + 1).toNatClampNeg)]) (rest := []) ⟨hx, hb, hml, hown, hts⟩ (c_C_count l dC dI cI cZ cO cW s.heap.size (mW hm am cI cZ τ) h adr ad wd nO nW σ (xs ((nI i) + 1).toNatClampNeg) hCi) (cwV 1 hts gL_law_X0_count rfl rfl rfl (by decide +kernel) ⟨(Nat.le_of_ble_eq_true rfl), (Nat.le_of_ble_eq_true rfl)⟩) (wPreV hS.1 hP hK hD (va_recv hK hP (ci := 0) (q0 := 0) rfl rfl)) rfl rfl hl.1 rfl (lv_room (Nat.le_of_ble_eq_true rfl)) dL_law_593 ⟨by show _ ≤ 600000; omega, by show _ ≤ 7302250; omega⟩) (fun r e_ => ?_)
                                      subst e_
                                      refine lv_aload_n hx hb dL_law_596 rfl (lv_at hl 2 rfl) ?_
                                      refine lv_aload_n hx hb dL_law_597 rfl (lv_at hl 0 rfl) ?_
                                      refine lv_iload_n hx hb dL_law_598 rfl (lv_at hl 3 rfl) ?_
                                      refine lv_iconst (v := 1) hx hb dL_law_599 (by decide) ?_
                                      refine lv_iadd hx hb dL_law_600 ?_
                                      refine va_sld hx hb hX hbl hbA hS (sl_1 hlt hL) dL_law_601 ?_
                                      have hP : va_P (dC, dI) vwCl (mW hm am cI cZ τ ++ cWd h adr ad wd nO nW cI cO cW σ) H := va_P_perm hP List.perm_append_comm
                                      have hD : va_D (fun q : Nat => s.heap.size ≤ q) (mW hm am cI cZ τ ++ cWd h adr ad wd nO nW cI cO cW σ) := va_D_perm hD List.perm_append_comm
                                      refine vp_callSi (W.runV (As := [.int (xs ((nI i) + 1).toNatClampNeg)]) (rest := [.int (sC_count σ (xs ((nI i) + 1).toNatClampNeg))]) ⟨hx, hb, hml, hown, hts⟩ (c_M_count l dC dI cI cZ cO cW s.heap.size (cWd h adr ad wd nO nW cI cO cW σ) hm am τ (xs ((nI i) + 1).toNatClampNeg) hMi) (cwV 1 hts gL_law_X3_count rfl rfl rfl (by decide +kernel) ⟨(Nat.le_of_ble_eq_true rfl), (Nat.le_of_ble_eq_true rfl)⟩) (wPreV hS.1 hP hK hD (va_recv hK hP (ci := 3) (q0 := 0) rfl rfl)) rfl rfl hl.1 rfl (lv_room (Nat.le_of_ble_eq_true rfl)) dL_law_602 ⟨by show _ ≤ 600000; omega, by show _ ≤ 7302250; omega⟩) (fun r e_ => ?_)
                                      subst e_
                                      have hP : va_P (dC, dI) vwCl (cWd h adr ad wd nO nW cI cO cW σ ++ mW hm am cI cZ τ) H := va_P_perm hP List.perm_append_comm
                                      have hD : va_D (fun q : Nat => s.heap.size ≤ q) (cWd h adr ad wd nO nW cI cO cW σ ++ mW hm am cI cZ τ) := va_D_perm hD List.perm_append_comm
                                      refine lv_icmp_eq (tgt := 610) hx hb dL_law_605 (by decide) (fun c36_ => ?_) (fun c36_ => ?_)
                                      · refine lv_iinc (v := nI (i + 4)) (lv' := [(3, .int (nI (i + 4))), (0, .ref b), (1, .ref h), (2, .ref hm)]) hx hb dL_law_610 hl (k := 3) rfl (nI_add i 4) (by decide) rfl (fun ls hl => ?_)
                                        refine lv_goto (tgt := 28) hx hb dL_law_613 (by decide) ?_
                                        refine W.widen (k := 24 + (k + 1)) (n := 18303 + 13 * (k + 1)) (by omega) (by omega) ?_
                                        exact ih (k + 1) (i + 4) nO nW ad wd σ τ _ _ ls (by omega) (by omega) (by omega) hSim.mono hP hD hS (lv_sub hl [1, 2, 3, 0] rfl)
                                      · refine lv_iconst (v := 0) hx hb dL_law_608 (by decide) ?_
                                        exact absurd (st_count hSim (by omega) (xs ((nI i) + 1).toNatClampNeg)) c36_
                                    · refine lv_tableOut (tgt := 610) hx hb dL_law_42 (by have q0 := lv_neT c1_ (show (0 : Int32).toInt = 0 from rfl); have q1 := lv_neT c2_ (show (1 : Int32).toInt = 1 from rfl); have q2 := lv_neT c3_ (show (2 : Int32).toInt = 2 from rfl); have q3 := lv_neT c4_ (show (3 : Int32).toInt = 3 from rfl); have q4 := lv_neT c5_ (show (4 : Int32).toInt = 4 from rfl); have q5 := lv_neT c6_ (show (5 : Int32).toInt = 5 from rfl); have q6 := lv_neT c7_ (show (6 : Int32).toInt = 6 from rfl); have q7 := lv_neT c8_ (show (7 : Int32).toInt = 7 from rfl); have q8 := lv_neT c9_ (show (8 : Int32).toInt = 8 from rfl); have q9 := lv_neT c10_ (show (9 : Int32).toInt = 9 from rfl); have q10 := lv_neT c11_ (show (10 : Int32).toInt = 10 from rfl); have q11 := lv_neT c12_ (show (11 : Int32).toInt = 11 from rfl); have q12 := lv_neT c13_ (show (12 : Int32).toInt = 12 from rfl); have q13 := lv_neT c14_ (show (13 : Int32).toInt = 13 from rfl); have q14 := lv_neT c15_ (show (14 : Int32).toInt = 14 from rfl); have q15 := lv_neT c16_ (show (15 : Int32).toInt = 15 from rfl); omega) (by decide) ?_
                                      refine lv_iinc (v := nI (i + 4)) (lv' := [(3, .int (nI (i + 4))), (0, .ref b), (1, .ref h), (2, .ref hm)]) hx hb dL_law_610 hl (k := 3) rfl (nI_add i 4) (by decide) rfl (fun ls hl => ?_)
                                      refine lv_goto (tgt := 28) hx hb dL_law_613 (by decide) ?_
                                      refine W.widen (k := 24 + (k + 1)) (n := 18303 + 13 * (k + 1)) (by omega) (by omega) ?_
                                      exact ih (k + 1) (i + 4) nO nW ad wd σ τ _ _ ls (by omega) (by omega) (by omega) hSim.mono hP hD hS (lv_sub hl [1, 2, 3, 0] rfl)
    · refine lv_icmp_gt (tgt := 616) hx hb dL_law_33 (by decide) (fun c1_ => ?_) (fun c1_ => absurd (le_stop hL (by omega) hlt) c1_)
      refine lv_iconst (v := 1) hx hb dL_law_616 (by decide) ?_
      refine va_forget hS.2.2 ?_
      refine W.widen (k := 600000) (n := 7302250) (by omega) (by omega) ?_
      exact lw_ret hx hb hr hlocks dL_law_617
