/-! worlds in another order; new rows -/
theorem va_P_perm {D : va_G} {cl : List vw_C} {ws ws' : va_W} {H : Heap} (h : va_P D cl ws H) (p : ws'.Perm ws) : va_P D cl ws' H := by
  intro k q hk
  obtain ⟨i, hi⟩ := List.mem_iff_getElem?.mp (p.mem_iff.mp (List.mem_of_getElem? hk))
  exact h i q hi
theorem va_D_pw {A : Nat → Prop} {ws : va_W} : va_D A ws ↔ ws.Pairwise (fun a b => a.1 ≠ b.1) ∧ ∀ q ∈ ws, A q.1 := by
  constructor
  · intro h
    refine ⟨List.pairwise_iff_getElem.mpr (fun i j hi hj hij e => ?_), fun q hq => ?_⟩
    · have := h.1 i j ws[i] ws[j] (List.getElem?_eq_getElem hi) (List.getElem?_eq_getElem hj) e
      omega
    · obtain ⟨i, hi⟩ := List.mem_iff_getElem?.mp hq
      exact h.2 i q hi
  · intro h
    refine ⟨fun i j p q hp hq e => ?_, fun k q hk => h.2 q (List.mem_of_getElem? hk)⟩
    obtain ⟨hi, ei⟩ := List.getElem?_eq_some_iff.mp hp
    obtain ⟨hj, ej⟩ := List.getElem?_eq_some_iff.mp hq
    have pw := List.pairwise_iff_getElem.mp h.1
    rcases Nat.lt_trichotomy i j with q1 | q1 | q1
    · exact absurd (by rw [ei, ej]; exact e) (pw i j hi hj q1)
    · exact q1
    · exact absurd (by rw [ei, ej]; exact e.symm) (pw j i hj hi q1)
theorem va_D_perm {A : Nat → Prop} {ws ws' : va_W} (h : va_D A ws) (p : ws'.Perm ws) : va_D A ws' := by
  obtain ⟨h1, h2⟩ := va_D_pw.mp h
  exact va_D_pw.mpr ⟨(p.pairwise_iff (fun {x y} q => Ne.symm q)).mpr h1, fun q hq => h2 q (p.mem_iff.mp hq)⟩
theorem pm_rot {α : Type} {ws : List α} {c : α} : (c :: ws).Perm (ws ++ [c]) := (List.perm_append_singleton c ws).symm
theorem pm_ins {α : Type} {F O R X : List α} {c : α} : ((F ++ ((O ++ [c]) ++ R)) ++ X).Perm (c :: ((F ++ (O ++ R)) ++ X)) := by
  have e1 : (F ++ ((O ++ [c]) ++ R)) ++ X = (F ++ O) ++ c :: (R ++ X) := by simp
  have e2 : (F ++ (O ++ R)) ++ X = (F ++ O) ++ (R ++ X) := by simp
  rw [e1, e2]
  exact List.perm_middle
theorem pm_ins2 {α : Type} {F O R X : List α} {c : α} : ((F ++ (O ++ (R ++ [c]))) ++ X).Perm (c :: ((F ++ (O ++ R)) ++ X)) := by
  have e1 : (F ++ (O ++ (R ++ [c]))) ++ X = (F ++ (O ++ R)) ++ c :: X := by simp
  rw [e1]
  exact List.perm_middle
def up1 (ad : Nat → Nat) (n q : Nat) : Nat → Nat := fun j => if j = n then q else ad j
theorem up1_at {ad : Nat → Nat} {n q : Nat} : up1 ad n q n = q := if_pos rfl
theorem up1_ne {ad : Nat → Nat} {n q j : Nat} (h : j ≠ n) : up1 ad n q j = ad j := if_neg h
theorem tk_up {ad : Nat → Nat} {nO q : Nat} {v : Int32} (hn : nO ≤ 1000) (h : v = 0 ∨ ∃ j, j < nO ∧ v = nI (j + 1)) : tk (up1 ad nO q) v = tk ad v := by
  rcases h with rfl | ⟨j, hj, rfl⟩
  · rfl
  · unfold tk
    rw [if_neg (nI_ne0 (by omega) (by omega)), if_neg (nI_ne0 (by omega) (by omega)), nI_back (by omega), up1_ne (by omega)]
theorem cOu_new {ad : Nat → Nat} {nO q : Nat} {σ σ' : T2} (h : ∀ j, j < nO → ouF σ' j = ouF σ j) : cOu (up1 ad nO q) (nO + 1) σ' = cOu ad nO σ ++ [(q, .inr (1, ouF σ' nO))] := by
  unfold cOu
  rw [List.range_succ, List.map_append]
  congr 1
  · refine List.map_congr_left (fun j hj => ?_)
    have hj : j < nO := List.mem_range.mp hj
    rw [h j hj, up1_ne (by omega)]
  · simp [up1_at]
theorem cWr_new {ad wd : Nat → Nat} {nW q : Nat} {σ σ' : T2} (h : ∀ w, w < nW → wrF ad σ' w = wrF ad σ w) : cWr ad (up1 wd nW q) (nW + 1) σ' = cWr ad wd nW σ ++ [(q, .inr (2, wrF ad σ' nW))] := by
  unfold cWr
  rw [List.range_succ, List.map_append]
  congr 1
  · refine List.map_congr_left (fun j hj => ?_)
    have hj : j < nW := List.mem_range.mp hj
    rw [h j hj, up1_ne (by omega)]
  · simp [up1_at]
theorem cWr_up {ad wd : Nat → Nat} {nO nW q : Nat} {σ σ' : T2} (hn : nO ≤ 1000) (h : ∀ w, w < nW → σ 42 w = 0 ∨ ∃ j, j < nO ∧ σ 42 w = nI (j + 1)) (e0 : σ' 40 = σ 40) (e1 : σ' 41 = σ 41) (e2 : σ' 42 = σ 42) : cWr (up1 ad nO q) wd nW σ' = cWr ad wd nW σ := by
  unfold cWr
  refine List.map_congr_left (fun w hw => ?_)
  have hw : w < nW := List.mem_range.mp hw
  unfold wrF
  rw [e0, e1, e2, tk_up hn (h w hw)]
theorem up_arr {ad : Nat → Nat} {nO q : Nat} : va_up (fun j => if j < nO then some (ad j) else none) nO (some q) = fun j => if j < nO + 1 then some (up1 ad nO q j) else none := by
  funext j
  unfold va_up up1
  by_cases e : j = nO
  · subst e; simp
  · by_cases h : j < nO
    · simp [e, h, Nat.lt_succ_of_lt h]
    · have : ¬ j < nO + 1 := by omega
      simp [e, h, this]
abbrev ou0 : List Value := [.int 0, .int 0, .int 0, .int 0, .int 0, .int 0, .int 0, .int 0, .int 0, .int 0, .int 0, .int 0, .int 0]
abbrev ouN (p0 p1 p2 p3 : Int32) : List Value := [.int p0, .int p1, .int p2, .int p3, .int 0, .int 0, .int 1, .int 0, .int 0, .int 0, .int 0, .int 0, .int 0]
theorem ouF_new {σ : T2} {n : Nat} {p0 p1 p2 : Int32} : ouF (sC_new σ n p0 p1 p2) n = ouN (σ 3 0 + 1) p0 p1 p2 := by
  unfold sC_new ouF
  simp [upd2, upd]
theorem ouF_old {σ : T2} {n j : Nat} {p0 p1 p2 : Int32} (h : j ≠ n) : ouF (sC_new σ n p0 p1 p2) j = ouF σ j := by
  unfold sC_new ouF
  simp [upd2, upd, h]
/-- the world behind addOutput -/
theorem pm_new {h : Nat} {adr ad wd : Nat → Nat} {nO nW q : Nat} {cI cO cW : ClassId} {σ : T2} {X : va_W} {p0 p1 p2 : Int32} (hI : cInv nO nW σ) : (cWd h adr (up1 ad nO q) wd (nO + 1) nW cI cO cW (sC_new σ nO p0 p1 p2) ++ X).Perm (((((q, .inr (1, ouN (σ 3 0 + 1) p0 p1 p2)) : Nat × va_E) :: (cWd h adr ad wd nO nW cI cO cW σ ++ X)).set 2 (adr 2, .inl (cO, 1000, .inr (.inr (.inr (.inr (va_up (fun j => if j < nO then some (ad j) else none) (σ 3 0).toNatClampNeg (some q)))))))).set 1 (h, .inr (0, (obF adr σ).set 3 (.int (σ 3 0 + 1))))) := by
  have hn := hI.2.1
  have e0 : (σ 3 0).toNatClampNeg = nO := by rw [hI.1, nI_clamp (by omega)]
  have e1 : cWd h adr (up1 ad nO q) wd (nO + 1) nW cI cO cW (sC_new σ nO p0 p1 p2) = cFx h adr (up1 ad nO q) wd (nO + 1) nW cI cO cW (sC_new σ nO p0 p1 p2) ++ ((cOu ad nO σ ++ [(q, .inr (1, ouN (σ 3 0 + 1) p0 p1 p2))]) ++ cWr ad wd nW σ) := by
    unfold cWd
    rw [cOu_new (σ := σ) (fun j hj => ouF_old (by omega)), ouF_new, cWr_up (σ := σ) (σ' := sC_new σ nO p0 p1 p2) hn hI.2.2.2.2.2.2.1 rfl rfl rfl]
  rw [e1, e0, up_arr]
  have e2 : (((((q, .inr (1, ouN (σ 3 0 + 1) p0 p1 p2)) : Nat × va_E) :: (cWd h adr ad wd nO nW cI cO cW σ ++ X)).set 2 (adr 2, .inl (cO, 1000, .inr (.inr (.inr (.inr (fun j => if j < nO + 1 then some (up1 ad nO q j) else none))))))).set 1 (h, .inr (0, (obF adr σ).set 3 (.int (σ 3 0 + 1))))) = (q, .inr (1, ouN (σ 3 0 + 1) p0 p1 p2)) :: ((cFx h adr (up1 ad nO q) wd (nO + 1) nW cI cO cW (sC_new σ nO p0 p1 p2) ++ (cOu ad nO σ ++ cWr ad wd nW σ)) ++ X) := rfl
  rw [e2]
  exact pm_ins
/-- the world behind a new writer -/
theorem pm_newW {h : Nat} {adr ad wd : Nat → Nat} {nO nW q : Nat} {cI cO cW : ClassId} {σ : T2} {X : va_W} {p0 p1 : Int32} (hI : cInv nO nW σ) : (cWd h adr ad (up1 wd nW q) nO (nW + 1) cI cO cW (upd2 (upd2 (upd2 (upd2 σ 40 nW p0) 41 nW p1) 42 nW 0) 5 0 (σ 5 0 + 1)) ++ X).Perm (((((q, .inr (2, [.int p0, .int p1, .null])) : Nat × va_E) :: (cWd h adr ad wd nO nW cI cO cW σ ++ X)).set 3 (adr 4, .inl (cW, 9, .inr (.inr (.inr (.inr (va_up (fun j => if j < nW then some (wd j) else none) (σ 5 0).toNatClampNeg (some q)))))))).set 1 (h, .inr (0, (obF adr σ).set 5 (.int (σ 5 0 + 1))))) := by
  have hn := hI.2.2.2.1
  have e0 : (σ 5 0).toNatClampNeg = nW := by rw [hI.2.2.1, nI_clamp (by omega)]
  have e1 : cWd h adr ad (up1 wd nW q) nO (nW + 1) cI cO cW (upd2 (upd2 (upd2 (upd2 σ 40 nW p0) 41 nW p1) 42 nW 0) 5 0 (σ 5 0 + 1)) = cFx h adr ad (up1 wd nW q) nO (nW + 1) cI cO cW (upd2 (upd2 (upd2 (upd2 σ 40 nW p0) 41 nW p1) 42 nW 0) 5 0 (σ 5 0 + 1)) ++ (cOu ad nO σ ++ (cWr ad wd nW σ ++ [(q, .inr (2, [.int p0, .int p1, .null]))])) := by
    unfold cWd
    rw [cWr_new (σ := σ) (fun w hw => by unfold wrF; simp [upd2, upd, Nat.ne_of_lt hw])]
    congr 2
    · exact congrArg (fun x => cWr ad wd nW σ ++ [x]) (by unfold wrF; simp [upd2, upd, tk, va_rf])
  rw [e1, e0, up_arr]
  have e2 : (((((q, .inr (2, [.int p0, .int p1, .null])) : Nat × va_E) :: (cWd h adr ad wd nO nW cI cO cW σ ++ X)).set 3 (adr 4, .inl (cW, 9, .inr (.inr (.inr (.inr (fun j => if j < nW + 1 then some (up1 wd nW q j) else none))))))).set 1 (h, .inr (0, (obF adr σ).set 5 (.int (σ 5 0 + 1))))) = (q, .inr (2, [.int p0, .int p1, .null])) :: ((cFx h adr ad (up1 wd nW q) nO (nW + 1) cI cO cW (upd2 (upd2 (upd2 (upd2 σ 40 nW p0) 41 nW p1) 42 nW 0) 5 0 (σ 5 0 + 1)) ++ (cOu ad nO σ ++ cWr ad wd nW σ)) ++ X) := rfl
  rw [e2]
  exact pm_ins2
theorem ty_int {D : va_G} {cI cZ cO cW cA : ClassId} {s : State} (hK : va_K D vwCl (tyL cI cZ cO cW ++ [(cA, .int)]) s) : cA = cI := by
  have h1 : s.vm.findClass ("[" ++ FieldType.int.toString) = some cI := (hK.2 0 (cI, .int) rfl).2
  have h2 : s.vm.findClass ("[" ++ FieldType.int.toString) = some cA := (hK.2 4 (cA, .int) rfl).2
  exact Option.some.inj (h2.symm.trans h1)
theorem ty_boo {D : va_G} {cI cZ cO cW cA : ClassId} {s : State} (hK : va_K D vwCl (tyL cI cZ cO cW ++ [(cA, .boolean)]) s) : cA = cZ := by
  have h1 : s.vm.findClass ("[" ++ FieldType.boolean.toString) = some cZ := (hK.2 1 (cZ, .boolean) rfl).2
  have h2 : s.vm.findClass ("[" ++ FieldType.boolean.toString) = some cA := (hK.2 4 (cA, .boolean) rfl).2
  exact Option.some.inj (h2.symm.trans h1)
theorem ty_out {D : va_G} {cI cZ cO cW cA : ClassId} {s : State} (hK : va_K D vwCl (tyL cI cZ cO cW ++ [(cA, .object "SpoolRows$Output")]) s) : cA = cO := by
  obtain ⟨k1, c1, -, -, -, h1⟩ := (hK.2 2 (cO, .object "SpoolRows$Output") rfl).2
  obtain ⟨k2, c2, -, -, -, h2⟩ := (hK.2 4 (cA, .object "SpoolRows$Output") rfl).2
  exact Option.some.inj (h2.symm.trans h1)
theorem ty_wri {D : va_G} {cI cZ cO cW cA : ClassId} {s : State} (hK : va_K D vwCl (tyL cI cZ cO cW ++ [(cA, .object "SpoolRows$Writer")]) s) : cA = cW := by
  obtain ⟨k1, c1, -, -, -, h1⟩ := (hK.2 3 (cW, .object "SpoolRows$Writer") rfl).2
  obtain ⟨k2, c2, -, -, -, h2⟩ := (hK.2 4 (cA, .object "SpoolRows$Writer") rfl).2
  exact Option.some.inj (h2.symm.trans h1)
theorem ty_int0 {s : State} {args : Array Value} (h : (Cond.arrayClass .int).before args s = true) : ∃ cA, ArrOfT s cA .int ∧ va_RA s cA .int := by
  obtain ⟨c, k, comp, h1, h2, h3⟩ := Cond.arrayClass_spec h
  exact ⟨c, fun n z => ⟨fun k h => (by cases h), k, h2, comp, h3⟩, h1⟩
theorem ty_boo0 {s : State} {args : Array Value} (h : (Cond.arrayClass .boolean).before args s = true) : ∃ cA, ArrOfT s cA .boolean ∧ va_RA s cA .boolean := by
  obtain ⟨c, k, comp, h1, h2, h3⟩ := Cond.arrayClass_spec h
  exact ⟨c, fun n z => ⟨fun k h => (by cases h), k, h2, comp, h3⟩, h1⟩
theorem ty_obj0 {s : State} {args : Array Value} {C : String} (h : (Cond.arrayOver (.object C)).before args s = true) : ∃ cA, ArrOfT s cA (.object C) ∧ va_RA s cA (.object C) := by
  obtain ⟨comp, c, k, h1, -, h3, h4, h5⟩ := Cond.arrayOver_spec h
  exact ⟨c, fun n z => ⟨fun k h => (by cases h), k, h3, comp, h4⟩, k, comp, h3, h4, h1, h5⟩
def wQr (D : va_G) (z : Nat) (Wf : Nat → va_W) : Array Value → State → Outcome → State → Prop := va_Qr (S := Nat) (fun _ => True) (fun u a t => a = u ∧ va_P D vwCl (Wf u) t.heap ∧ va_D (fun q => z ≤ q) (Wf u)) (fun q => z ≤ q)
section WRef
variable {p : Program} {l : Launch} {e : Env} {R : Room} {s : State} {m : MethodId} {args : Array Value} {below : List Frame} {meth : Method} {c : Code} {H : Heap} {locs : List Loc} {cells slots : Nat} {Q : State → Prop}
variable {cc : ByteArray} {pc : Nat} {ls : Array Slot} {rest st0 : List Value} {D : va_G} {z : Nat} {a : Array Value} {H0 : Heap} {mc ms : Nat}
theorem w_rret {Wf : Nat → va_W} {q : Nat} {rt : FieldType} (hx : p.tables.exec = Jvm.exec) (hb : c.code = cc) (hr : meth.sig.returnType = some rt) (hrt : (∃ n, rt = .object n) ∨ ∃ t, rt = .array t) (hlocks : meth.locks = false) (hP : va_P D vwCl (Wf q) H) (hD : va_D (fun q => z ≤ q) (Wf q)) (hS : va_S (fun q => z ≤ q) s.heap H locs) (hdg : decode cc pc = .ok (.areturn, 1)) : W p l e R s m args below meth c H locs cells slots (MQ below (wQr D z Wf) args s cells slots (fun q => z ≤ q)) (F0 m pc ls [.ref q]) :=
  W.aret hx hb hr hrt (Or.inr ⟨q, rfl⟩) (fun t ht _ => ⟨⟨q, q, rfl, trivial, rfl, by rw [ht]; exact hP, hD⟩, hS.F ht⟩) hS.2.2 hdg hlocks
theorem w_callr {Wf : Nat → va_W} (hr : va_Run p l e R s m args below meth c H locs cells slots mc ms (F0 m pc ls st0) rest (wQr D z Wf a) (fun q => z ≤ q)) (hS : va_S (fun q => z ≤ q) H0 H locs)
    (kk : ∀ (q : Nat) (H1 : Heap) (locs1 : List Loc), va_P D vwCl (Wf q) H1 → va_D (fun q => z ≤ q) (Wf q) → va_S (fun q => z ≤ q) H0 H1 locs1 → W p l e R s m args below meth c H1 locs1 (cells + mc) (slots + ms) Q (F0 m (pc + 3) ls (.ref q :: rest))) : W p l e R s m args below meth c H locs cells slots Q (F0 m pc ls st0) :=
  va_callr hr hS (fun _ _ h => h) (fun _ h => h) (fun u ra t H1 locs1 ht _ _ hB _ _ hS1 => by
    obtain ⟨e1, e2, e3⟩ := hB
    subst e1
    exact kk ra H1 locs1 (by rw [← ht]; exact e2) e3 hS1)
end WRef
theorem cw_outA {h : Nat} {adr ad wd : Nat → Nat} {nO nW : Nat} {cI cO cW : ClassId} {σ : T2} {X : va_W} {j a : Nat} (hj : j < nO) (ha : ad j = a) : (cWd h adr ad wd nO nW cI cO cW σ ++ X)[6 + j]? = some (a, .inr (1, ouF σ j)) := by rw [← ha]; exact cw_out hj
theorem wtrip {α β γ : Type} {a : α} {b : β} {c : γ} {p : α × β × γ} (h : (a, b, c) = p) : a = p.1 ∧ (b, c) = p.2 := by subst h; exact ⟨rfl, rfl⟩
