/-! rows of constructors -/
section MAKE3
variable {p : Program} {l : Launch} {e : Env} {R : Room} {s : State} {m : MethodId} {args : Array Value} {below : List Frame} {meth : Method} {c : Code} {H : Heap} {locs : List Loc} {cells slots : Nat} {Q : State → Prop}
variable {cc : ByteArray} {nL : Nat} {own : String} {rt : Option FieldType} {D : va_G} {k : Nat → ClassId} {pc : Nat} {ls : Array Slot} {rest : List Value} {w : va_W} {A : Nat → Prop} {H0 : Heap}
theorem r_putF (C : Cx p s m args meth c cc nL own rt D k) (hnm2 : meth.name = "<init>") (hP : va_P D vwCl w H) (hD : va_D A w) (hS : va_S A H0 H locs) (q0 : Nat) {a ci N i : Nat} {Cn : String} {T : u_T} {ty0 : Nat → FieldType} {fs : List Value} {v : Value} {ty : FieldType} (j : Nat) (w1 : va_W) (hc : vwCl[ci]? = some (Cn, T, N)) (hin : ∀ x ∈ u_ws Cn T N, x ∈ TB) (hty : ∀ j, j < N → parseFieldDescriptor (T j).2.2.1 = some (ty0 j)) (hnm : ∀ a, a < N → ∀ b, b < N → a ≠ b → (T a).2.1 ≠ (T b).2.1) (hj : j < N) (hlk : Cond.fieldLink own i own (T j).2.1 (T j).2.2.1 ∈ TB) (href : (T j).1 = own) (hfin : (T j).2.2.2 = true) (hpd : parseFieldDescriptor (T j).2.2.1 = some ty) (he : w[q0]? = some (a, .inr (ci, fs))) (hn : narrow ty v = v) (hfit : fits ty v = true) (hl : j < fs.length) (hw : w.set q0 (a, .inr (ci, fs.set j v)) = w1) (hd : decode cc pc = .ok (.putfield i, 3)) (kk : ∀ (H1 : Heap) (locs1 : List Loc), va_P D vwCl w1 H1 → va_D A w1 → va_S A H0 H1 locs1 → W p l e R s m args below meth c H1 locs1 cells slots Q (F0 m (pc + 3) ls rest)) : W p l e R s m args below meth c H locs cells slots Q (F0 m (pc) ls (v :: .ref a :: rest)) := by
  subst hw
  exact va_putF C.1.1 C.1.2.1 C.1.2.2.2.2 hin ty0 hty hnm C.1.2.2.2.1 C.2.1.1 hP hD hS q0 he hc j hj (C.1.2.2.2.2 _ hlk) (fun _ h => by rw [← href]; exact h) hfin hnm2 href hpd hn hfit hl hd kk
end MAKE3
theorem oi_I : Cond.instanceMethod objectInit ∈ TB := tb_all (ws := [.instanceMethod objectInit]) (by decide +kernel) _ List.mem_cons_self
theorem oi_C : Cond.code objectInit ⟨#[0xb1]⟩ 1 none ∈ TB := tb_all (ws := [.code objectInit ⟨#[0xb1]⟩ 1 none]) (by decide +kernel) _ List.mem_cons_self
theorem oi_X0 : Cond.methodLink RX0 3 objectInit ∈ TB := tb_all (ws := [.methodLink RX0 3 objectInit]) (by decide +kernel) _ List.mem_cons_self
theorem oi_X1 : Cond.methodLink RX1 3 objectInit ∈ TB := tb_all (ws := [.methodLink RX1 3 objectInit]) (by decide +kernel) _ List.mem_cons_self
theorem oi_X2 : Cond.methodLink RX2 3 objectInit ∈ TB := tb_all (ws := [.methodLink RX2 3 objectInit]) (by decide +kernel) _ List.mem_cons_self
theorem oi_X3 : Cond.methodLink RX3 1 objectInit ∈ TB := tb_all (ws := [.methodLink RX3 1 objectInit]) (by decide +kernel) _ List.mem_cons_self
theorem oi_X4 : Cond.methodLink RX4 1 objectInit ∈ TB := tb_all (ws := [.methodLink RX4 1 objectInit]) (by decide +kernel) _ List.mem_cons_self
