/-! making cells -/
section MAKE
variable {p : Program} {l : Launch} {e : Env} {R : Room} {s : State} {m : MethodId} {args : Array Value} {below : List Frame} {meth : Method} {c : Code} {H : Heap} {locs : List Loc} {cells slots : Nat} {Q : State → Prop}
variable {cc : ByteArray} {nL : Nat} {own : String} {rt : Option FieldType} {D : va_G} {k : Nat → ClassId} {pc : Nat} {ls : Array Slot} {rest : List Value} {w : va_W} {A : Nat → Prop} {H0 : Heap}
theorem ac_I : Cond.arrayClass .int ∈ TB := tb_all (ws := [.arrayClass .int]) (by decide +kernel) _ List.mem_cons_self
theorem ac_J : Cond.arrayClass .long ∈ TB := tb_all (ws := [.arrayClass .long]) (by decide +kernel) _ List.mem_cons_self
theorem r_newI (C : Cx p s m args meth c cc nL own rt D k) (hP : va_P D vwCl w H) (hD : va_D A w) (hS : va_S A H0 H locs) (hA : ∀ q, H0.size ≤ q → A q) {z : Int} (n : Nat) (hz : z = (n : Int)) (hn : n < 100000) (hcells : cells + 1 ≤ R.cells) (hslots : slots + n ≤ R.slots) (hd : decode cc pc = .ok (.newarray .int, 2))
    (kk : ∀ (q : Nat) (H1 : Heap), va_P D vwCl (w ++ [(q, .inl (k 0, n, .inl (arr (fun _ => 0))))]) H1 → va_D A (w ++ [(q, .inl (k 0, n, .inl (arr (fun _ => 0))))]) → va_S A H0 H1 locs → W p l e R s m args below meth c H1 locs (cells + 1) (slots + n) Q (F0 m (pc + 2) ls (.ref q :: rest))) : W p l e R s m args below meth c H locs cells slots Q (F0 m pc ls (.int (iI z) :: rest)) := by
  subst hz
  refine va_newa (atype := .int) (ty := .int) C.1.1 C.1.2.1 (C.1.2.2.2.2 _ ac_I) rfl C.2.1.1 hP hD hS hA (N' := n) (a0 := (n, .inl (arr (fun _ => 0)))) (fun cA => rfl) (fun q => by have := (iI_lt (a := (n : Int)) (b := 0) ⟨by omega, by omega⟩ ⟨by decide, by decide⟩).mp q; omega) (by rw [iI_clamp (by omega) (by omega)]; omega) (by show n * 4 ≤ _; omega) hcells hslots hd (fun q cA H1 hK h1 h2 h3 => ?_)
  have e0 : s.vm.findClass ("[" ++ (FieldType.int).toString) = some (k 0) := (C.2.1.1.2 0 (k 0, .int) rfl).2
  have e1 : s.vm.findClass ("[" ++ (FieldType.int).toString) = some cA := (hK.2 3 (cA, .int) rfl).2
  have e2 : cA = k 0 := Option.some.inj (e1.symm.trans e0)
  subst e2
  exact kk q H1 h1 h2 h3
theorem r_newJ (C : Cx p s m args meth c cc nL own rt D k) (hP : va_P D vwCl w H) (hD : va_D A w) (hS : va_S A H0 H locs) (hA : ∀ q, H0.size ≤ q → A q) {z : Int} (n : Nat) (hz : z = (n : Int)) (hn : n < 100000) (hcells : cells + 1 ≤ R.cells) (hslots : slots + n ≤ R.slots) (hd : decode cc pc = .ok (.newarray .long, 2))
    (kk : ∀ (q : Nat) (H1 : Heap), va_P D vwCl (w ++ [(q, .inl (k 1, n, .inr (.inl (arL (fun _ => 0)))))]) H1 → va_D A (w ++ [(q, .inl (k 1, n, .inr (.inl (arL (fun _ => 0)))))]) → va_S A H0 H1 locs → W p l e R s m args below meth c H1 locs (cells + 1) (slots + n) Q (F0 m (pc + 2) ls (.ref q :: rest))) : W p l e R s m args below meth c H locs cells slots Q (F0 m pc ls (.int (iI z) :: rest)) := by
  subst hz
  refine va_newa (atype := .long) (ty := .long) C.1.1 C.1.2.1 (C.1.2.2.2.2 _ ac_J) rfl C.2.1.1 hP hD hS hA (N' := n) (a0 := (n, .inr (.inl (arL (fun _ => 0))))) (fun cA => rfl) (fun q => by have := (iI_lt (a := (n : Int)) (b := 0) ⟨by omega, by omega⟩ ⟨by decide, by decide⟩).mp q; omega) (by rw [iI_clamp (by omega) (by omega)]; omega) (by show n * 8 ≤ _; omega) hcells hslots hd (fun q cA H1 hK h1 h2 h3 => ?_)
  have e0 : s.vm.findClass ("[" ++ (FieldType.long).toString) = some (k 1) := (C.2.1.1.2 1 (k 1, .long) rfl).2
  have e1 : s.vm.findClass ("[" ++ (FieldType.long).toString) = some cA := (hK.2 3 (cA, .long) rfl).2
  have e2 : cA = k 1 := Option.some.inj (e1.symm.trans e0)
  subst e2
  exact kk q H1 h1 h2 h3
end MAKE
