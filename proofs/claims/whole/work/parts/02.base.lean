/-! worlds of one law: contracts over the whole world, one lower bound z for all that may change -/
abbrev T2 : Type := Nat → Nat → Int32
def upd2 (t : T2) (f i : Nat) (x : Int32) : T2 := fun g => if g = f then upd (t f) i x else t g
theorem upd2_ne {t : T2} {f g i : Nat} {x : Int32} (h : g ≠ f) : upd2 t f i x g = t g := by simp [upd2, h]
theorem upd2_at {t : T2} {f i : Nat} {x : Int32} : upd2 t f i x f i = x := by simp [upd2, upd]
theorem upd2_off {t : T2} {f i k : Nat} {x : Int32} (h : k ≠ i) : upd2 t f i x f k = t f k := by simp [upd2, upd, h]
abbrev tyL (cI cZ cO cW : ClassId) : List (ClassId × FieldType) := [(cI, .int), (cZ, .boolean), (cO, .object "SpoolRows$Output"), (cW, .object "SpoolRows$Writer")]
def wPc (D : va_G) (tys : List (ClassId × FieldType)) (z : Nat) (vs : List Value) (w : va_W) : Array Value → State → Prop := va_Pc vs (fun U => z ≤ U.heap.size ∧ va_P D vwCl w U.heap ∧ va_K D vwCl tys U ∧ va_D (fun q => z ≤ q) w)
def wQi {S : Type} (D : va_G) (z : Nat) (Wf : S → va_W) (post : Int32 → S → Prop) : Array Value → State → Outcome → State → Prop := va_Qi post (fun u t => va_P D vwCl (Wf u) t.heap ∧ va_D (fun q => z ≤ q) (Wf u)) (fun q => z ≤ q)
def wQv {S : Type} (D : va_G) (z : Nat) (Wf : S → va_W) (post : S → Prop) : Array Value → State → Outcome → State → Prop := va_Qv post (fun u t => va_P D vwCl (Wf u) t.heap ∧ va_D (fun q => z ≤ q) (Wf u)) (fun q => z ≤ q)
theorem wPc_blind {D : va_G} {tys : List (ClassId × FieldType)} {z : Nat} {vs : List Value} {w : va_W} : FrameBlind (wPc D tys z vs w) := by
  intro a U g mk q
  obtain ⟨q0, q1, qP, qK, qD⟩ := q
  exact ⟨q0, q1, qP, va_K.moved (u := U) (U := U.calling g mk a) (Vm.Alike.refl U.vm) qK, qD⟩
theorem wPreS {s : State} {H : Heap} {D : va_G} {tys : List (ClassId × FieldType)} {z : Nat} {vs : List Value} {w : va_W} (hz : z ≤ H.size) (hP : va_P D vwCl w H) (hK : va_K D vwCl tys s) (hD : va_D (fun q => z ≤ q) w) : PreS s H (wPc D tys z vs w) vs :=
  ⟨wPc_blind, fun U hU hW => ⟨rfl, by rw [hU]; exact hz, by rw [hU]; exact hP, va_K.moved hW.alike hK, hD⟩⟩
theorem wPreV {s : State} {H : Heap} {D : va_G} {tys : List (ClassId × FieldType)} {z b : Nat} {As : List Value} {w : va_W} {C : String} (hz : z ≤ H.size) (hP : va_P D vwCl w H) (hK : va_K D vwCl tys s) (hD : va_D (fun q => z ≤ q) w) (hr : ∃ cell : Cell, H[b]? = some cell ∧ cell.vm.isStatics = false ∧ s.vm.findClass C = some cell.cls) : PreV s H C b (wPc D tys z (.ref b :: As) w) As :=
  ⟨wPc_blind, hr, fun U hU hW => ⟨rfl, by rw [hU]; exact hz, by rw [hU]; exact hP, va_K.moved hW.alike hK, hD⟩⟩
theorem wpair {α β : Type} {a : α} {b : β} {p : α × β} (h : (a, b) = p) : a = p.1 ∧ b = p.2 := by subst h; exact ⟨rfl, rfl⟩
section WBase
variable {p : Program} {l : Launch} {e : Env} {R : Room} {s : State} {m : MethodId} {args : Array Value} {below : List Frame} {meth : Method} {c : Code} {H : Heap} {locs : List Loc} {cells slots : Nat} {Q : State → Prop}
variable {cc : ByteArray} {pc : Nat} {ls : Array Slot} {rest st0 : List Value} {D : va_G} {z : Nat} {a : Array Value} {H0 : Heap} {mc ms : Nat}
theorem en_met {y : MethodName} {ws ws' : List Cond} {rm : Room} {vs : List Value} {Bd : State → Prop} {Qc : Array Value → State → Outcome → State → Prop} {free : Addr → Prop} {maxL : Nat} {ret : Option FieldType}
    (hy : plainName y.cls = true) (hw : ws = Cond.code y cc maxL ret :: ws') (hle : (lg_sl vs).length ≤ maxL)
    (body : ∀ (p : Program) (e : Env) (s : State) (m : MethodId) (below : List Frame) (meth : Method) (c : Code) (ls : Array Slot), p.tables.exec = Jvm.exec → c.code = cc → c.maxLocals = maxL → meth.sig.returnType = ret → (∀ w ∈ ws, w.before vs.toArray s = true) → s.vm.findClass y.cls = some m.cls → meth.locks = false → meth.name = y.name → Bd s → lv_has ls maxL (lv_args 0 vs) →
      W p l e rm s m vs.toArray below meth c s.heap [] 0 0 (MQ below Qc vs.toArray s mc ms free) (F0 m 0 ls [])) : Met l y ws rm (va_Pc vs Bd) Qc mc ms free := by
  refine Met.ofW (cc := cc) (maxL := maxL) (ret := ret) hy hw ?_
  intro p e s m args below meth c s₁ B hml hv
  obtain ⟨rfl, hv⟩ := hv
  have hl := lv_entry vs (n := maxL) hle
  rw [lg_entry_eq]
  exact body p e s m below meth c _ B.exec B.bytes hml B.returns (atoms_spec (ws := ws) B.pre) (findClass_of_methodNamed B.named) B.notSynchronized (name_of_methodNamed B.named B.method).1 hv hl
theorem w_ri {post : Int32 → Prop} {v : Int32} (hx : p.tables.exec = Jvm.exec) (hb : c.code = cc) (hr : meth.sig.returnType = some .int) (hlocks : meth.locks = false) (hdg : decode cc pc = .ok (.ireturn, 1)) (hp : post v) : W p l e R s m args below meth c s.heap [] 0 0 (MQ below (vp_Si post) args s 0 0 (fun _ => False)) (F0 m pc ls [.int v]) :=
  W.iret hx hb hr (fun t ht _ => ⟨v, rfl, hp, ht⟩) (fun q h => by cases h) hdg hlocks
theorem w_rz {post : Int32 → Prop} {v : Int32} (hx : p.tables.exec = Jvm.exec) (hb : c.code = cc) (hr : meth.sig.returnType = some .boolean) (hn : narrow .boolean (.int v) = .int v) (hlocks : meth.locks = false) (hdg : decode cc pc = .ok (.ireturn, 1)) (hp : post v) : W p l e R s m args below meth c s.heap [] 0 0 (MQ below (vp_Si post) args s 0 0 (fun _ => False)) (F0 m pc ls [.int v]) :=
  W.zret hx hb hr hn (fun t ht _ => ⟨v, rfl, hp, ht⟩) (fun q h => by cases h) hdg hlocks
theorem w_rq {post : Option Nat → Prop} {r : Option Nat} {rt : FieldType} (hx : p.tables.exec = Jvm.exec) (hb : c.code = cc) (hr : meth.sig.returnType = some rt) (hrt : (∃ n, rt = .object n) ∨ ∃ t, rt = .array t) (hlocks : meth.locks = false) (hdg : decode cc pc = .ok (.areturn, 1)) (hp : post r) : W p l e R s m args below meth c s.heap [] 0 0 (MQ below (va_Sq post) args s 0 0 (fun _ => False)) (F0 m pc ls [va_rf r]) :=
  W.aret hx hb hr hrt (va_rf_or r) (fun t ht _ => ⟨r, rfl, hp, ht⟩) (fun q h => by cases h) hdg hlocks
theorem w_iret {S : Type} {Wf : S → va_W} {post : Int32 → S → Prop} {u : S} {v : Int32} (hx : p.tables.exec = Jvm.exec) (hb : c.code = cc) (hr : meth.sig.returnType = some .int) (hlocks : meth.locks = false) (hP : va_P D vwCl (Wf u) H) (hD : va_D (fun q => z ≤ q) (Wf u)) (hS : va_S (fun q => z ≤ q) s.heap H locs) (hdg : decode cc pc = .ok (.ireturn, 1)) (hp : post v u) : W p l e R s m args below meth c H locs cells slots (MQ below (wQi D z Wf post) args s cells slots (fun q => z ≤ q)) (F0 m pc ls [.int v]) :=
  W.iret hx hb hr (fun t ht _ => ⟨⟨v, u, rfl, hp, by rw [ht]; exact hP, hD⟩, hS.F ht⟩) hS.2.2 hdg hlocks
theorem w_vret {S : Type} {Wf : S → va_W} {post : S → Prop} {u : S} (hx : p.tables.exec = Jvm.exec) (hb : c.code = cc) (hr : meth.sig.returnType = none) (hlocks : meth.locks = false) (hP : va_P D vwCl (Wf u) H) (hD : va_D (fun q => z ≤ q) (Wf u)) (hS : va_S (fun q => z ≤ q) s.heap H locs) (hdg : decode cc pc = .ok (.return_, 1)) (hp : post u) : W p l e R s m args below meth c H locs cells slots (MQ below (wQv D z Wf post) args s cells slots (fun q => z ≤ q)) (F0 m pc ls []) :=
  W.vret hx hb hr (fun t ht _ => ⟨⟨u, rfl, hp, by rw [ht]; exact hP, hD⟩, hS.F ht⟩) hS.2.2 hdg hlocks
theorem w_calli {S : Type} {Wf : S → va_W} {post : Int32 → S → Prop} (hr : va_Run p l e R s m args below meth c H locs cells slots mc ms (F0 m pc ls st0) rest (wQi D z Wf post a) (fun q => z ≤ q)) (hS : va_S (fun q => z ≤ q) H0 H locs)
    (kk : ∀ (r : Int32) (u : S) (H1 : Heap) (locs1 : List Loc), post r u → va_P D vwCl (Wf u) H1 → va_D (fun q => z ≤ q) (Wf u) → va_S (fun q => z ≤ q) H0 H1 locs1 → W p l e R s m args below meth c H1 locs1 (cells + mc) (slots + ms) Q (F0 m (pc + 3) ls (.int r :: rest))) : W p l e R s m args below meth c H locs cells slots Q (F0 m pc ls st0) :=
  va_calli hr hS (fun _ _ h => h) (fun _ h => h) (fun r u t H1 locs1 ht _ hp hB _ _ hS1 => kk r u H1 locs1 hp (by rw [← ht]; exact hB.1) hB.2 hS1)
theorem w_callv {S : Type} {Wf : S → va_W} {post : S → Prop} (hr : va_Run p l e R s m args below meth c H locs cells slots mc ms (F0 m pc ls st0) rest (wQv D z Wf post a) (fun q => z ≤ q)) (hS : va_S (fun q => z ≤ q) H0 H locs)
    (kk : ∀ (u : S) (H1 : Heap) (locs1 : List Loc), post u → va_P D vwCl (Wf u) H1 → va_D (fun q => z ≤ q) (Wf u) → va_S (fun q => z ≤ q) H0 H1 locs1 → W p l e R s m args below meth c H1 locs1 (cells + mc) (slots + ms) Q (F0 m (pc + 3) ls rest)) : W p l e R s m args below meth c H locs cells slots Q (F0 m pc ls st0) :=
  va_callv hr hS (fun _ _ h => h) (fun _ h => h) (fun u t H1 locs1 ht _ hp hB _ _ hS1 => kk u H1 locs1 hp (by rw [← ht]; exact hB.1) hB.2 hS1)
end WBase
/-! the reference's world -/
def mdF (adr : Nat → Nat) (τ : T2) : List Value := [.int (τ 0 0), .ref (adr 1), .ref (adr 2), .ref (adr 3), .ref (adr 4), .ref (adr 5), .ref (adr 6), .ref (adr 7), .ref (adr 8), .ref (adr 9), .ref (adr 10), .ref (adr 11), .ref (adr 12), .int (τ 13 0), .ref (adr 14), .ref (adr 15), .int (τ 16 0), .ref (adr 17), .ref (adr 18), .int (τ 19 0), .ref (adr 20), .int (τ 21 0), .int (τ 22 0), .int (τ 23 0)]
def mW (h : Nat) (adr : Nat → Nat) (cI cZ : ClassId) (τ : T2) : va_W := [(h, .inr (3, mdF adr τ)), (adr 1, .inl (cI, 1001, .inl (τ 1))), (adr 2, .inl (cI, 1001, .inl (τ 2))), (adr 3, .inl (cI, 1001, .inl (τ 3))), (adr 4, .inl (cI, 1001, .inl (τ 4))), (adr 5, .inl (cI, 1001, .inl (τ 5))), (adr 6, .inl (cI, 1001, .inl (τ 6))), (adr 7, .inl (cI, 1001, .inl (τ 7))), (adr 8, .inl (cI, 1001, .inl (τ 8))), (adr 9, .inl (cI, 1001, .inl (τ 9))), (adr 10, .inl (cZ, 1001, .inl (τ 10))), (adr 11, .inl (cZ, 1001, .inl (τ 11))), (adr 12, .inl (cZ, 1001, .inl (τ 12))), (adr 14, .inl (cI, 1100, .inl (τ 14))), (adr 15, .inl (cI, 1100, .inl (τ 15))), (adr 17, .inl (cI, 10, .inl (τ 17))), (adr 18, .inl (cI, 10, .inl (τ 18))), (adr 20, .inl (cI, 1001, .inl (τ 20)))]
/-! the class's world -/
def ouF (σ : T2) (j : Nat) : List Value := [.int (σ 20 j), .int (σ 21 j), .int (σ 22 j), .int (σ 23 j), .int (σ 24 j), .int (σ 25 j), .int (σ 26 j), .int (σ 27 j), .int (σ 28 j), .int (σ 29 j), .int (σ 30 j), .int (σ 31 j), .int (σ 32 j)]
def tk (ad : Nat → Nat) (v : Int32) : Option Nat := if v = 0 then none else some (ad (v - 1).toNatClampNeg)
def wrF (ad : Nat → Nat) (σ : T2) (w : Nat) : List Value := [.int (σ 40 w), .int (σ 41 w), va_rf (tk ad (σ 42 w))]
def obF (adr : Nat → Nat) (σ : T2) : List Value := [.int (σ 0 0), .int (σ 1 0), .ref (adr 2), .int (σ 3 0), .ref (adr 4), .int (σ 5 0), .ref (adr 6), .int (σ 7 0), .ref (adr 8), .ref (adr 9), .int (σ 10 0), .int (σ 11 0), .int (σ 12 0)]
def cFx (h : Nat) (adr ad wd : Nat → Nat) (nO nW : Nat) (cI cO cW : ClassId) (σ : T2) : va_W := [(h, .inr (0, obF adr σ)), (adr 2, .inl (cO, 1000, .inr (.inr (.inr (.inr (fun j => if j < nO then some (ad j) else none)))))), (adr 4, .inl (cW, 9, .inr (.inr (.inr (.inr (fun j => if j < nW then some (wd j) else none)))))), (adr 6, .inl (cI, 1000, .inl (σ 6))), (adr 8, .inl (cI, 512, .inl (σ 8))), (adr 9, .inl (cI, 512, .inl (σ 9)))]
def cOu (ad : Nat → Nat) (nO : Nat) (σ : T2) : va_W := (List.range nO).map (fun j => (ad j, .inr (1, ouF σ j)))
def cWr (ad wd : Nat → Nat) (nW : Nat) (σ : T2) : va_W := (List.range nW).map (fun w => (wd w, .inr (2, wrF ad σ w)))
def cWd (h : Nat) (adr ad wd : Nat → Nat) (nO nW : Nat) (cI cO cW : ClassId) (σ : T2) : va_W := cFx h adr ad wd nO nW cI cO cW σ ++ (cOu ad nO σ ++ cWr ad wd nW σ)
theorem mput_0 {h : Nat} {adr : Nat → Nat} {cI cZ : ClassId} {τ : T2} {X : va_W} {v : Int32} : (mW h adr cI cZ τ ++ X).set 0 (h, .inr (3, (mdF adr τ).set 0 (.int v))) = mW h adr cI cZ (upd2 τ 0 0 v) ++ X := rfl
theorem mput_1 {h : Nat} {adr : Nat → Nat} {cI cZ : ClassId} {τ : T2} {X : va_W} {i : Nat} {v : Int32} : (mW h adr cI cZ τ ++ X).set 1 (adr 1, .inl (cI, 1001, .inl (upd (τ 1) i v))) = mW h adr cI cZ (upd2 τ 1 i v) ++ X := rfl
theorem mput_2 {h : Nat} {adr : Nat → Nat} {cI cZ : ClassId} {τ : T2} {X : va_W} {i : Nat} {v : Int32} : (mW h adr cI cZ τ ++ X).set 2 (adr 2, .inl (cI, 1001, .inl (upd (τ 2) i v))) = mW h adr cI cZ (upd2 τ 2 i v) ++ X := rfl
theorem mput_3 {h : Nat} {adr : Nat → Nat} {cI cZ : ClassId} {τ : T2} {X : va_W} {i : Nat} {v : Int32} : (mW h adr cI cZ τ ++ X).set 3 (adr 3, .inl (cI, 1001, .inl (upd (τ 3) i v))) = mW h adr cI cZ (upd2 τ 3 i v) ++ X := rfl
theorem mput_4 {h : Nat} {adr : Nat → Nat} {cI cZ : ClassId} {τ : T2} {X : va_W} {i : Nat} {v : Int32} : (mW h adr cI cZ τ ++ X).set 4 (adr 4, .inl (cI, 1001, .inl (upd (τ 4) i v))) = mW h adr cI cZ (upd2 τ 4 i v) ++ X := rfl
theorem mput_5 {h : Nat} {adr : Nat → Nat} {cI cZ : ClassId} {τ : T2} {X : va_W} {i : Nat} {v : Int32} : (mW h adr cI cZ τ ++ X).set 5 (adr 5, .inl (cI, 1001, .inl (upd (τ 5) i v))) = mW h adr cI cZ (upd2 τ 5 i v) ++ X := rfl
theorem mput_6 {h : Nat} {adr : Nat → Nat} {cI cZ : ClassId} {τ : T2} {X : va_W} {i : Nat} {v : Int32} : (mW h adr cI cZ τ ++ X).set 6 (adr 6, .inl (cI, 1001, .inl (upd (τ 6) i v))) = mW h adr cI cZ (upd2 τ 6 i v) ++ X := rfl
theorem mput_7 {h : Nat} {adr : Nat → Nat} {cI cZ : ClassId} {τ : T2} {X : va_W} {i : Nat} {v : Int32} : (mW h adr cI cZ τ ++ X).set 7 (adr 7, .inl (cI, 1001, .inl (upd (τ 7) i v))) = mW h adr cI cZ (upd2 τ 7 i v) ++ X := rfl
theorem mput_8 {h : Nat} {adr : Nat → Nat} {cI cZ : ClassId} {τ : T2} {X : va_W} {i : Nat} {v : Int32} : (mW h adr cI cZ τ ++ X).set 8 (adr 8, .inl (cI, 1001, .inl (upd (τ 8) i v))) = mW h adr cI cZ (upd2 τ 8 i v) ++ X := rfl
theorem mput_9 {h : Nat} {adr : Nat → Nat} {cI cZ : ClassId} {τ : T2} {X : va_W} {i : Nat} {v : Int32} : (mW h adr cI cZ τ ++ X).set 9 (adr 9, .inl (cI, 1001, .inl (upd (τ 9) i v))) = mW h adr cI cZ (upd2 τ 9 i v) ++ X := rfl
theorem mput_10 {h : Nat} {adr : Nat → Nat} {cI cZ : ClassId} {τ : T2} {X : va_W} {i : Nat} {v : Int32} : (mW h adr cI cZ τ ++ X).set 10 (adr 10, .inl (cZ, 1001, .inl (upd (τ 10) i v))) = mW h adr cI cZ (upd2 τ 10 i v) ++ X := rfl
theorem mput_11 {h : Nat} {adr : Nat → Nat} {cI cZ : ClassId} {τ : T2} {X : va_W} {i : Nat} {v : Int32} : (mW h adr cI cZ τ ++ X).set 11 (adr 11, .inl (cZ, 1001, .inl (upd (τ 11) i v))) = mW h adr cI cZ (upd2 τ 11 i v) ++ X := rfl
theorem mput_12 {h : Nat} {adr : Nat → Nat} {cI cZ : ClassId} {τ : T2} {X : va_W} {i : Nat} {v : Int32} : (mW h adr cI cZ τ ++ X).set 12 (adr 12, .inl (cZ, 1001, .inl (upd (τ 12) i v))) = mW h adr cI cZ (upd2 τ 12 i v) ++ X := rfl
theorem mput_13 {h : Nat} {adr : Nat → Nat} {cI cZ : ClassId} {τ : T2} {X : va_W} {v : Int32} : (mW h adr cI cZ τ ++ X).set 0 (h, .inr (3, (mdF adr τ).set 13 (.int v))) = mW h adr cI cZ (upd2 τ 13 0 v) ++ X := rfl
theorem mput_14 {h : Nat} {adr : Nat → Nat} {cI cZ : ClassId} {τ : T2} {X : va_W} {i : Nat} {v : Int32} : (mW h adr cI cZ τ ++ X).set 13 (adr 14, .inl (cI, 1100, .inl (upd (τ 14) i v))) = mW h adr cI cZ (upd2 τ 14 i v) ++ X := rfl
theorem mput_15 {h : Nat} {adr : Nat → Nat} {cI cZ : ClassId} {τ : T2} {X : va_W} {i : Nat} {v : Int32} : (mW h adr cI cZ τ ++ X).set 14 (adr 15, .inl (cI, 1100, .inl (upd (τ 15) i v))) = mW h adr cI cZ (upd2 τ 15 i v) ++ X := rfl
theorem mput_16 {h : Nat} {adr : Nat → Nat} {cI cZ : ClassId} {τ : T2} {X : va_W} {v : Int32} : (mW h adr cI cZ τ ++ X).set 0 (h, .inr (3, (mdF adr τ).set 16 (.int v))) = mW h adr cI cZ (upd2 τ 16 0 v) ++ X := rfl
theorem mput_17 {h : Nat} {adr : Nat → Nat} {cI cZ : ClassId} {τ : T2} {X : va_W} {i : Nat} {v : Int32} : (mW h adr cI cZ τ ++ X).set 15 (adr 17, .inl (cI, 10, .inl (upd (τ 17) i v))) = mW h adr cI cZ (upd2 τ 17 i v) ++ X := rfl
theorem mput_18 {h : Nat} {adr : Nat → Nat} {cI cZ : ClassId} {τ : T2} {X : va_W} {i : Nat} {v : Int32} : (mW h adr cI cZ τ ++ X).set 16 (adr 18, .inl (cI, 10, .inl (upd (τ 18) i v))) = mW h adr cI cZ (upd2 τ 18 i v) ++ X := rfl
theorem mput_19 {h : Nat} {adr : Nat → Nat} {cI cZ : ClassId} {τ : T2} {X : va_W} {v : Int32} : (mW h adr cI cZ τ ++ X).set 0 (h, .inr (3, (mdF adr τ).set 19 (.int v))) = mW h adr cI cZ (upd2 τ 19 0 v) ++ X := rfl
theorem mput_20 {h : Nat} {adr : Nat → Nat} {cI cZ : ClassId} {τ : T2} {X : va_W} {i : Nat} {v : Int32} : (mW h adr cI cZ τ ++ X).set 17 (adr 20, .inl (cI, 1001, .inl (upd (τ 20) i v))) = mW h adr cI cZ (upd2 τ 20 i v) ++ X := rfl
theorem mput_21 {h : Nat} {adr : Nat → Nat} {cI cZ : ClassId} {τ : T2} {X : va_W} {v : Int32} : (mW h adr cI cZ τ ++ X).set 0 (h, .inr (3, (mdF adr τ).set 21 (.int v))) = mW h adr cI cZ (upd2 τ 21 0 v) ++ X := rfl
theorem mput_22 {h : Nat} {adr : Nat → Nat} {cI cZ : ClassId} {τ : T2} {X : va_W} {v : Int32} : (mW h adr cI cZ τ ++ X).set 0 (h, .inr (3, (mdF adr τ).set 22 (.int v))) = mW h adr cI cZ (upd2 τ 22 0 v) ++ X := rfl
theorem mput_23 {h : Nat} {adr : Nat → Nat} {cI cZ : ClassId} {τ : T2} {X : va_W} {v : Int32} : (mW h adr cI cZ τ ++ X).set 0 (h, .inr (3, (mdF adr τ).set 23 (.int v))) = mW h adr cI cZ (upd2 τ 23 0 v) ++ X := rfl
theorem cput_0 {h : Nat} {adr ad wd : Nat → Nat} {nO nW : Nat} {cI cO cW : ClassId} {σ : T2} {X : va_W} {v : Int32} : (cWd h adr ad wd nO nW cI cO cW σ ++ X).set 0 (h, .inr (0, (obF adr σ).set 0 (.int v))) = cWd h adr ad wd nO nW cI cO cW (upd2 σ 0 0 v) ++ X := rfl
theorem cput_1 {h : Nat} {adr ad wd : Nat → Nat} {nO nW : Nat} {cI cO cW : ClassId} {σ : T2} {X : va_W} {v : Int32} : (cWd h adr ad wd nO nW cI cO cW σ ++ X).set 0 (h, .inr (0, (obF adr σ).set 1 (.int v))) = cWd h adr ad wd nO nW cI cO cW (upd2 σ 1 0 v) ++ X := rfl
theorem cput_3 {h : Nat} {adr ad wd : Nat → Nat} {nO nW : Nat} {cI cO cW : ClassId} {σ : T2} {X : va_W} {v : Int32} : (cWd h adr ad wd nO nW cI cO cW σ ++ X).set 0 (h, .inr (0, (obF adr σ).set 3 (.int v))) = cWd h adr ad wd nO nW cI cO cW (upd2 σ 3 0 v) ++ X := rfl
theorem cput_5 {h : Nat} {adr ad wd : Nat → Nat} {nO nW : Nat} {cI cO cW : ClassId} {σ : T2} {X : va_W} {v : Int32} : (cWd h adr ad wd nO nW cI cO cW σ ++ X).set 0 (h, .inr (0, (obF adr σ).set 5 (.int v))) = cWd h adr ad wd nO nW cI cO cW (upd2 σ 5 0 v) ++ X := rfl
theorem cput_7 {h : Nat} {adr ad wd : Nat → Nat} {nO nW : Nat} {cI cO cW : ClassId} {σ : T2} {X : va_W} {v : Int32} : (cWd h adr ad wd nO nW cI cO cW σ ++ X).set 0 (h, .inr (0, (obF adr σ).set 7 (.int v))) = cWd h adr ad wd nO nW cI cO cW (upd2 σ 7 0 v) ++ X := rfl
theorem cput_10 {h : Nat} {adr ad wd : Nat → Nat} {nO nW : Nat} {cI cO cW : ClassId} {σ : T2} {X : va_W} {v : Int32} : (cWd h adr ad wd nO nW cI cO cW σ ++ X).set 0 (h, .inr (0, (obF adr σ).set 10 (.int v))) = cWd h adr ad wd nO nW cI cO cW (upd2 σ 10 0 v) ++ X := rfl
theorem cput_11 {h : Nat} {adr ad wd : Nat → Nat} {nO nW : Nat} {cI cO cW : ClassId} {σ : T2} {X : va_W} {v : Int32} : (cWd h adr ad wd nO nW cI cO cW σ ++ X).set 0 (h, .inr (0, (obF adr σ).set 11 (.int v))) = cWd h adr ad wd nO nW cI cO cW (upd2 σ 11 0 v) ++ X := rfl
theorem cput_12 {h : Nat} {adr ad wd : Nat → Nat} {nO nW : Nat} {cI cO cW : ClassId} {σ : T2} {X : va_W} {v : Int32} : (cWd h adr ad wd nO nW cI cO cW σ ++ X).set 0 (h, .inr (0, (obF adr σ).set 12 (.int v))) = cWd h adr ad wd nO nW cI cO cW (upd2 σ 12 0 v) ++ X := rfl
theorem cput_6 {h : Nat} {adr ad wd : Nat → Nat} {nO nW : Nat} {cI cO cW : ClassId} {σ : T2} {X : va_W} {i : Nat} {v : Int32} : (cWd h adr ad wd nO nW cI cO cW σ ++ X).set 3 (adr 6, .inl (cI, 1000, .inl (upd (σ 6) i v))) = cWd h adr ad wd nO nW cI cO cW (upd2 σ 6 i v) ++ X := rfl
theorem cput_8 {h : Nat} {adr ad wd : Nat → Nat} {nO nW : Nat} {cI cO cW : ClassId} {σ : T2} {X : va_W} {i : Nat} {v : Int32} : (cWd h adr ad wd nO nW cI cO cW σ ++ X).set 4 (adr 8, .inl (cI, 512, .inl (upd (σ 8) i v))) = cWd h adr ad wd nO nW cI cO cW (upd2 σ 8 i v) ++ X := rfl
theorem cput_9 {h : Nat} {adr ad wd : Nat → Nat} {nO nW : Nat} {cI cO cW : ClassId} {σ : T2} {X : va_W} {i : Nat} {v : Int32} : (cWd h adr ad wd nO nW cI cO cW σ ++ X).set 5 (adr 9, .inl (cI, 512, .inl (upd (σ 9) i v))) = cWd h adr ad wd nO nW cI cO cW (upd2 σ 9 i v) ++ X := rfl
theorem map_set {α : Type} (n j : Nat) (f g : Nat → α) (h : ∀ i, i ≠ j → g i = f i) : ((List.range n).map f).set j (g j) = (List.range n).map g := by
  apply List.ext_getElem?
  intro i
  rw [List.getElem?_set]
  by_cases e : j = i
  · subst e
    by_cases hn : j < n <;> simp [hn]
  · rw [if_neg e]
    by_cases hn : i < n <;> simp [hn, h i (Ne.symm e)]
theorem cFx_len {h : Nat} {adr ad wd : Nat → Nat} {nO nW : Nat} {cI cO cW : ClassId} {σ : T2} {X : va_W} : (cFx h adr ad wd nO nW cI cO cW σ).length = 6 := rfl
theorem cOu_len {ad : Nat → Nat} {nO : Nat} {σ : T2} : (cOu ad nO σ).length = nO := by simp [cOu]
theorem cWr_len {ad wd : Nat → Nat} {nW : Nat} {σ : T2} : (cWr ad wd nW σ).length = nW := by simp [cWr]
theorem cw_out {h : Nat} {adr ad wd : Nat → Nat} {nO nW : Nat} {cI cO cW : ClassId} {σ : T2} {X : va_W} {j : Nat} (hj : j < nO) : (cWd h adr ad wd nO nW cI cO cW σ ++ X)[6 + j]? = some (ad j, .inr (1, ouF σ j)) := by
  have h1 := cFx_len (h := h) (adr := adr) (ad := ad) (wd := wd) (nO := nO) (nW := nW) (cI := cI) (cO := cO) (cW := cW) (σ := σ) (X := X)
  have h2 := cOu_len (ad := ad) (nO := nO) (σ := σ)
  unfold cWd
  rw [List.append_assoc, List.getElem?_append_right (by omega), h1, Nat.add_sub_cancel_left, List.append_assoc, List.getElem?_append_left (by omega)]
  simp [cOu, hj]
theorem cw_wr {h : Nat} {adr ad wd : Nat → Nat} {nO nW : Nat} {cI cO cW : ClassId} {σ : T2} {X : va_W} {w : Nat} (hw : w < nW) : (cWd h adr ad wd nO nW cI cO cW σ ++ X)[6 + nO + w]? = some (wd w, .inr (2, wrF ad σ w)) := by
  have h1 := cFx_len (h := h) (adr := adr) (ad := ad) (wd := wd) (nO := nO) (nW := nW) (cI := cI) (cO := cO) (cW := cW) (σ := σ) (X := X)
  have h2 := cOu_len (ad := ad) (nO := nO) (σ := σ)
  have h3 := cWr_len (ad := ad) (wd := wd) (nW := nW) (σ := σ)
  unfold cWd
  rw [List.append_assoc, List.getElem?_append_right (by omega), h1, List.append_assoc, List.getElem?_append_right (by omega), h2, show 6 + nO + w - 6 - nO = w by omega, List.getElem?_append_left (by omega)]
  simp [cWr, hw]
theorem upd2_lo {σ : T2} {f j : Nat} {v : Int32} (g : Nat) (h : g ≠ f) : upd2 σ f j v g = σ g := upd2_ne h
theorem upd2_row {σ : T2} {f j i : Nat} {v : Int32} (h : i ≠ j) (g : Nat) : upd2 σ f j v g i = σ g i := by
  by_cases e : g = f
  · subst e; exact upd2_off h
  · rw [upd2_ne e]
theorem cFx_hi {h : Nat} {adr ad wd : Nat → Nat} {nO nW : Nat} {cI cO cW : ClassId} {σ : T2} {X : va_W} {f j : Nat} {v : Int32} (hf : 20 ≤ f) : cFx h adr ad wd nO nW cI cO cW (upd2 σ f j v) = cFx h adr ad wd nO nW cI cO cW σ := by
  have q : ∀ g, g < 20 → upd2 σ f j v g = σ g := fun g hg => upd2_ne (by omega)
  simp only [cFx, obF, q 0 (by decide), q 1 (by decide), q 3 (by decide), q 5 (by decide), q 6 (by decide), q 7 (by decide), q 8 (by decide), q 9 (by decide), q 10 (by decide), q 11 (by decide), q 12 (by decide)]
theorem cWr_ne {ad wd : Nat → Nat} {nW : Nat} {σ : T2} {f j : Nat} {v : Int32} (hf : f < 40) : cWr ad wd nW (upd2 σ f j v) = cWr ad wd nW σ := by
  have q : ∀ g, 40 ≤ g → upd2 σ f j v g = σ g := fun g hg => upd2_ne (by omega)
  simp only [cWr, wrF, q 40 (by decide), q 41 (by decide), q 42 (by decide)]
theorem cOu_ne {ad : Nat → Nat} {nO : Nat} {σ : T2} {f j : Nat} {v : Int32} (hf : 33 ≤ f) : cOu ad nO (upd2 σ f j v) = cOu ad nO σ := by
  have q : ∀ g, g < 33 → upd2 σ f j v g = σ g := fun g hg => upd2_ne (by omega)
  simp only [cOu, ouF, q 20 (by decide), q 21 (by decide), q 22 (by decide), q 23 (by decide), q 24 (by decide), q 25 (by decide), q 26 (by decide), q 27 (by decide), q 28 (by decide), q 29 (by decide), q 30 (by decide), q 31 (by decide), q 32 (by decide)]
theorem ouF_set {σ : T2} {j k : Nat} {v : Int32} (hk : k < 13) : ouF (upd2 σ (20 + k) j v) j = (ouF σ j).set k (.int v) := by
  rcases (show k = 0 ∨ k = 1 ∨ k = 2 ∨ k = 3 ∨ k = 4 ∨ k = 5 ∨ k = 6 ∨ k = 7 ∨ k = 8 ∨ k = 9 ∨ k = 10 ∨ k = 11 ∨ k = 12 by omega) with rfl | rfl | rfl | rfl | rfl | rfl | rfl | rfl | rfl | rfl | rfl | rfl | rfl <;> simp [ouF, upd2, upd]
theorem set_mid {α : Type} {a b c x : List α} {n j : Nat} {e : α} (h : a.length = n) (hj : j < b.length) : ((a ++ (b ++ c)) ++ x).set (n + j) e = (a ++ (b.set j e ++ c)) ++ x := by
  rw [List.append_assoc, List.set_append_right _ _ (by omega), h, Nat.add_sub_cancel_left, List.append_assoc, List.set_append_left _ _ hj]
  simp
theorem set_mid2 {α : Type} {a b c x : List α} {n m j : Nat} {e : α} (h : a.length = n) (h2 : b.length = m) (hj : j < c.length) : ((a ++ (b ++ c)) ++ x).set (n + m + j) e = (a ++ (b ++ c.set j e)) ++ x := by
  rw [List.append_assoc, List.set_append_right _ _ (by omega), h, List.append_assoc, List.set_append_right _ _ (by omega), h2, show n + m + j - n - m = j by omega, List.set_append_left _ _ hj]
  simp
theorem cw_set_out {h : Nat} {adr ad wd : Nat → Nat} {nO nW : Nat} {cI cO cW : ClassId} {σ : T2} {X : va_W} {j k f : Nat} {v : Int32} (hf : 20 + k = f) (hk : k < 13) (hj : j < nO) : (cWd h adr ad wd nO nW cI cO cW σ ++ X).set (6 + j) (ad j, .inr (1, (ouF σ j).set k (.int v))) = cWd h adr ad wd nO nW cI cO cW (upd2 σ f j v) ++ X := by
  subst hf
  have e3 : (cOu ad nO σ).set j (ad j, .inr (1, (ouF σ j).set k (.int v))) = cOu ad nO (upd2 σ (20 + k) j v) := by
    rw [← ouF_set hk]
    exact map_set nO j (fun i => ((ad i, .inr (1, ouF σ i)) : Nat × va_E)) (fun i => ((ad i, .inr (1, ouF (upd2 σ (20 + k) j v) i)) : Nat × va_E)) (fun i hi => by simp only [ouF, upd2_row hi])
  unfold cWd
  rw [set_mid (cFx_len (X := X)) (by rw [cOu_len]; exact hj), e3, cFx_hi (X := X) (by omega), cWr_ne (by omega)]
theorem cw_setT {h : Nat} {adr ad wd : Nat → Nat} {nO nW : Nat} {cI cO cW : ClassId} {σ : T2} {X : va_W} {w : Nat} {x : Int32} {v : Option Nat} (hw : w < nW) (hv : tk ad x = v) : (cWd h adr ad wd nO nW cI cO cW σ ++ X).set (6 + nO + w) (wd w, .inr (2, (wrF ad σ w).set 2 (va_rf v))) = cWd h adr ad wd nO nW cI cO cW (upd2 σ 42 w x) ++ X := by
  subst hv
  have e3 : (cWr ad wd nW σ).set w (wd w, .inr (2, (wrF ad σ w).set 2 (va_rf (tk ad x)))) = cWr ad wd nW (upd2 σ 42 w x) := by
    have e4 : (wrF ad σ w).set 2 (va_rf (tk ad x)) = wrF ad (upd2 σ 42 w x) w := by simp [wrF, upd2, upd]
    rw [e4]
    exact map_set nW w (fun i => ((wd i, .inr (2, wrF ad σ i)) : Nat × va_E)) (fun i => ((wd i, .inr (2, wrF ad (upd2 σ 42 w x) i)) : Nat × va_E)) (fun i hi => by simp only [wrF, upd2_row hi])
  unfold cWd
  rw [set_mid2 (cFx_len (X := X)) cOu_len (by rw [cWr_len]; exact hw), e3, cFx_hi (X := X) (by omega), cOu_ne (by omega)]
