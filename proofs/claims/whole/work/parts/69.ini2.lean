/-! a constructor: it makes nc cells of ns slots; sz is the heap's size before it -/
abbrev rMn (fr lo nc ns : Nat) : Room := { frames := fr, cells := nc, slots := ns, locals := lo }
def qN {X : Type} (D : va_G) (w : va_W) (w' : X → va_W) : Array Value → State → Outcome → State → Prop := fun _ st oc t => oc = .returned none ∧ (∃ x : X, va_P D vwCl (w' x) t.heap ∧ va_D (va_A w st.heap.size) (w' x)) ∧ va_F (va_A w st.heap.size) st t
def MN {X : Type} (sz : Nat) (l : Launch) (y : MethodName) (cc : ByteArray) (nL : Nat) (fr lo nc ns : Nat) (D : va_G) (k : Nat → ClassId) (As : List Value) (w : va_W) (w' : X → va_W) : Prop :=
  Met l y (.code y cc nL none :: TB) (rMn fr lo nc ns) (va_Pc As (fun U => U.heap.size = sz ∧ va_P D vwCl w U.heap ∧ EV D k U ∧ va_D (fun _ => True) w)) (qN D w w') nc ns (va_A w sz)
theorem MN.mk {X : Type} {sz : Nat} {l : Launch} {y : MethodName} {cc : ByteArray} {nL : Nat} {fr lo nc ns : Nat} {D : va_G} {k : Nat → ClassId} {As : List Value} {w : va_W} {w' : X → va_W} (own : String) (ho : y.cls = own) (hy : plainName own = true) (hn : (lg_sl As).length ≤ nL)
    (body : ∀ (p : Program) (e : Env) (s : State) (m : MethodId) (below : List Frame) (meth : Method) (c : Code) (ls : Array Slot), Cx p s m As.toArray meth c cc nL own none D k → meth.name = y.name → va_P D vwCl w s.heap → va_D (va_A w s.heap.size) w → va_S (va_A w s.heap.size) s.heap s.heap [] → (∀ q, s.heap.size ≤ q → va_A w s.heap.size q) → lv_has ls nL (lv_args 0 As) → W p l e (rMn fr lo nc ns) s m As.toArray below meth c s.heap [] 0 0 (MQ below (qN D w w') As.toArray s nc ns (va_A w s.heap.size)) (F0 m 0 ls [])) : MN sz l y cc nL fr lo nc ns D k As w w' := by
  subst ho
  refine Met.ofW (cc := cc) (maxL := nL) (ret := none) hy rfl ?_
  intro p e s m args below meth c s₁ B hml hv
  obtain ⟨rfl, hsz, hP, hE, hD⟩ := hv
  subst hsz
  have hts := atoms_spec (ws := Cond.code y cc nL none :: TB) B.pre
  have hl := lv_entry As hn
  rw [lg_entry_eq]
  exact body p e s m below meth c _ ⟨⟨B.exec, B.bytes, hml, findClass_of_methodNamed B.named, fun w h => hts w (List.mem_cons_of_mem _ h)⟩, hE, B.returns, B.notSynchronized⟩ (name_of_methodNamed B.named B.method).1 hP hD.self va_S.rf (fun q h => Or.inr h) hl
section MAKE2
variable {p : Program} {l : Launch} {e : Env} {R : Room} {s : State} {m : MethodId} {args : Array Value} {below : List Frame} {meth : Method} {c : Code} {H : Heap} {locs : List Loc} {cells slots : Nat} {Q : State → Prop}
variable {cc : ByteArray} {nL : Nat} {own : String} {rt : Option FieldType} {D : va_G} {k : Nat → ClassId} {pc : Nat} {ls : Array Slot} {rest : List Value} {w : va_W} {A : Nat → Prop} {H0 : Heap}
theorem r_vretN (C : Cx p s m args meth c cc nL own none D k) {X : Type} {w0 : va_W} {w' : X → va_W} {nc ns : Nat} (hP : va_P D vwCl w H) (hD : va_D (va_A w0 s.heap.size) w) (hS : va_S (va_A w0 s.heap.size) s.heap H locs) (z : X) (hw : w = w' z) (hd : decode cc pc = .ok (.return_, 1)) : W p l e R s m args below meth c H locs nc ns (MQ below (qN D w0 w') args s nc ns (va_A w0 s.heap.size)) (F0 m pc ls []) := by
  subst hw
  exact W.vret C.1.1 C.1.2.1 C.2.2.1 (fun t ht _ => ⟨rfl, ⟨z, by rw [ht]; exact hP, hD⟩, hS.F ht⟩) hS.2.2 hd C.2.2.2
end MAKE2
