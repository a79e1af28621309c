/-! the constructor of TrueMaps: what it wants besides; calls of public constructors; an array of references -/
def NW2 : List Cond := [.methodLinkNest RX3 9 yX2_init "TrueMaps", .methodLinkNest RX3 24 yX1_init "TrueMaps", .methodLinkNest RX3 39 yX0_init "TrueMaps"]
def ex_S (U : State) : Prop := (∀ w ∈ NW2, va_Nw w U) ∧ va_AO RX0 U
theorem ex_S.warm {s U : State} (hW : s.WarmedH U.vm) (h : ex_S s) : ex_S U := by
  refine ⟨List.forall_mem_cons.mpr ⟨va_Nw.warmM hW (h.1 _ (List.mem_of_getElem? (i := 0) rfl)), List.forall_mem_cons.mpr ⟨va_Nw.warmM hW (h.1 _ (List.mem_of_getElem? (i := 1) rfl)), List.forall_mem_cons.mpr ⟨va_Nw.warmM hW (h.1 _ (List.mem_of_getElem? (i := 2) rfl)), fun _ q => absurd q List.not_mem_nil⟩⟩⟩, va_AO.moved hW.alike h.2⟩
theorem ex_S.call {U : State} {g : JFrame} {mk : MethodId} {a : Array Value} (h : ex_S U) : ex_S (U.calling g mk a) := by
  refine ⟨List.forall_mem_cons.mpr ⟨va_Nw.same (u := U) rfl rfl (h.1 _ (List.mem_of_getElem? (i := 0) rfl)), List.forall_mem_cons.mpr ⟨va_Nw.same (u := U) rfl rfl (h.1 _ (List.mem_of_getElem? (i := 1) rfl)), List.forall_mem_cons.mpr ⟨va_Nw.same (u := U) rfl rfl (h.1 _ (List.mem_of_getElem? (i := 2) rfl)), fun _ q => absurd q List.not_mem_nil⟩⟩⟩, va_AO.moved (u := U) (Vm.Alike.refl U.vm) h.2⟩
def MN2 {X : Type} (sz : Nat) (l : Launch) (y : MethodName) (cc : ByteArray) (nL : Nat) (fr lo nc ns : Nat) (D : va_G) (k : Nat → ClassId) (As : List Value) (w : va_W) (w' : X → va_W) : Prop :=
  Met l y (.code y cc nL none :: TB) (rMn fr lo nc ns) (va_Pc As (fun U => U.heap.size = sz ∧ va_P D vwCl w U.heap ∧ EV D k U ∧ va_D (fun _ => True) w ∧ ex_S U)) (qN D w w') nc ns (va_A w sz)
theorem MN2.mk {X : Type} {sz : Nat} {l : Launch} {y : MethodName} {cc : ByteArray} {nL : Nat} {fr lo nc ns : Nat} {D : va_G} {k : Nat → ClassId} {As : List Value} {w : va_W} {w' : X → va_W} (own : String) (ho : y.cls = own) (hy : plainName own = true) (hn : (lg_sl As).length ≤ nL)
    (body : ∀ (p : Program) (e : Env) (s : State) (m : MethodId) (below : List Frame) (meth : Method) (c : Code) (ls : Array Slot), Cx p s m As.toArray meth c cc nL own none D k → ex_S s → meth.name = y.name → va_P D vwCl w s.heap → va_D (va_A w s.heap.size) w → va_S (va_A w s.heap.size) s.heap s.heap [] → (∀ q, s.heap.size ≤ q → va_A w s.heap.size q) → lv_has ls nL (lv_args 0 As) → W p l e (rMn fr lo nc ns) s m As.toArray below meth c s.heap [] 0 0 (MQ below (qN D w w') As.toArray s nc ns (va_A w s.heap.size)) (F0 m 0 ls [])) : MN2 sz l y cc nL fr lo nc ns D k As w w' := by
  subst ho
  refine Met.ofW (cc := cc) (maxL := nL) (ret := none) hy rfl ?_
  intro p e s m args below meth c s₁ B hml hv
  obtain ⟨rfl, hsz, hP, hE, hD, hX⟩ := hv
  subst hsz
  have hts := atoms_spec (ws := Cond.code y cc nL none :: TB) B.pre
  have hl := lv_entry As hn
  rw [lg_entry_eq]
  exact body p e s m below meth c _ ⟨⟨B.exec, B.bytes, hml, findClass_of_methodNamed B.named, fun w h => hts w (List.mem_cons_of_mem _ h)⟩, hE, B.returns, B.notSynchronized⟩ hX (name_of_methodNamed B.named B.method).1 hP hD.self va_S.rf (fun q h => Or.inr h) hl
theorem pre_N2 {s : State} {H : Heap} {D : va_G} {k : Nat → ClassId} {w : va_W} {As' : List Value} (hE : EV D k s) (hX : ex_S s) (hPc : va_P D vwCl w H) (hDc : va_D (fun _ => True) w) : PreS s H (va_Pc As' (fun U => U.heap.size = H.size ∧ va_P D vwCl w U.heap ∧ EV D k U ∧ va_D (fun _ => True) w ∧ ex_S U)) As' :=
  ⟨fun a U g mk q => ⟨q.1, q.2.1, q.2.2.1, EV.call q.2.2.2.1, q.2.2.2.2.1, ex_S.call q.2.2.2.2.2⟩, fun U hU hW => ⟨rfl, by rw [hU], by rw [hU]; exact hPc, hE.warm hW, hDc, hX.warm hW⟩⟩
theorem sub_P {D : va_G} {w wc : va_W} {H : Heap} (hP : va_P D vwCl w H) (isC : List Nat) (hC : isC.map (fun i => w[i]?) = wc.map some) : va_P D vwCl wc H := by
  intro j q hq
  have h1 : (isC.map (fun i => w[i]?))[j]? = some (some q) := by rw [hC, List.getElem?_map, hq]; rfl
  rw [List.getElem?_map] at h1
  cases hi : isC[j]? with
  | none => rw [hi] at h1; cases h1
  | some i => rw [hi] at h1; exact hP i q (Option.some.inj h1)
theorem arrV_ext {cI : ClassId} {N : Nat} {f g : Nat → Value} (h : ∀ j, j < N → f j = g j) : arrV cI N f = arrV cI N g := by
  have e : (fun j : Fin N => f j.val) = (fun j : Fin N => g j.val) := funext (fun j => h j.val j.isLt)
  unfold arrV
  rw [e]
section MAKE6
variable {p : Program} {l : Launch} {e : Env} {R : Room} {s : State} {m : MethodId} {args : Array Value} {below : List Frame} {meth : Method} {c : Code} {H : Heap} {locs : List Loc} {cells slots : Nat} {Q : State → Prop}
variable {cc : ByteArray} {nL : Nat} {own : String} {rt : Option FieldType} {D : va_G} {k : Nat → ClassId} {pc : Nat} {ls : Array Slot} {rest : List Value} {w : va_W} {A : Nat → Prop} {H0 : Heap}
theorem r_cIP {X : Type} {w' : X → va_W} {wr wc : va_W} {nc ns i nM fr lo b : Nat} {y : MethodName} {cb : ByteArray} {Pc : Array Value → State → Prop} (C : Cx p s m args meth c cc nL own rt D k) (hl : Cond.methodLink own i y ∈ TB) (h1 : Cond.instanceMethod y ∈ TB) (h2 : Cond.initialized y.cls ∈ TB) (h3 : Cond.code y cb nM none ∈ TB) (hy : y.name = "<init>") (hdd : y.cls ≠ "java/lang/invoke/MethodHandle" ∧ y.cls ≠ "java/lang/invoke/VarHandle" ∧ (parseMethodDescriptor y.desc).map (fun d => d.parameters.length) = some 0) (hM : Met l y (.code y cb nM none :: TB) (rMn fr lo nc ns) Pc (qN D wc w') nc ns (va_A wc H.size)) (hp : PreS s H Pc [.ref b]) (hRR : fr + 1 ≤ R.frames ∧ 8 + (nM + 11) + lo ≤ R.locals) (hP : va_P D vwCl w H) (hD : va_D A w) (hS : va_S A H0 H locs) (hA : ∀ q, H0.size ≤ q → A q) (isC isR : List Nat) (hC : isC.map (fun i => w[i]?) = wc.map some) (hR : isR.map (fun i => w[i]?) = wr.map some) (hn : va_nd isR = true) (hdis : ∀ i ∈ isR, i ∉ isC) (hls : ls.size = nL) (hrm : (rest.map fun v => v.category).sum ≤ 8) (hd : decode cc pc = .ok (.invokespecial i, 3)) (hcs : cells + nc ≤ R.cells ∧ slots + ns ≤ R.slots)
    (kk : ∀ (x : X) (H1 : Heap) (locs1 : List Loc), va_P D vwCl (wr ++ w' x) H1 → va_D A (wr ++ w' x) → va_S A H0 H1 locs1 → W p l e R s m args below meth c H1 locs1 (cells + nc) (slots + ns) Q (F0 m (pc + 3) ls rest)) : W p l e R s m args below meth c H locs cells slots Q (F0 m pc ls (.ref b :: rest)) := by
  have hts := C.1.2.2.2.2
  exact r_afterI isC isR (va_runI (As := []) (rest := rest) C.1 hM (cwI 0 hts (tb_good (fun _ h => h) h3) rfl rfl rfl (hts _ h2) (hts _ hl) (hts _ h1) hy hdd hRR) hp rfl rfl hls rfl (lv_room hrm) hd hcs) hP hD hS hA hC hR hn hdis kk
theorem r_new {ci N i : Nat} {Cn : String} {T : u_T} {ty0 : Nat → FieldType} {fs : List Value} (C : Cx p s m args meth c cc nL own rt D k) (hP : va_P D vwCl w H) (hD : va_D A w) (hS : va_S A H0 H locs) (hA : ∀ q, H0.size ≤ q → A q) (hc : vwCl[ci]? = some (Cn, T, N)) (hin : ∀ x ∈ u_ws Cn T N, x ∈ TB) (hty : ∀ j, j < N → parseFieldDescriptor (T j).2.2.1 = some (ty0 j)) (h1 : Cond.classLink own i Cn ∈ TB) (h2 : Cond.instantiable Cn N ∈ TB) (h3 : Cond.initialized Cn ∈ TB) (hfs : ∀ j, j < N → defaultValue (ty0 j) = vp_V fs j) (hcells : cells + 1 ≤ R.cells) (hslots : slots + N ≤ R.slots) (hd : decode cc pc = .ok (.new i, 3))
    (kk : ∀ (q : Nat) (H1 : Heap), va_P D vwCl (w ++ [(q, .inr (ci, fs))]) H1 → va_D A (w ++ [(q, .inr (ci, fs))]) → va_S A H0 H1 locs → W p l e R s m args below meth c H1 locs (cells + 1) (slots + N) Q (F0 m (pc + 3) ls (.ref q :: rest))) : W p l e R s m args below meth c H locs cells slots Q (F0 m pc ls rest) :=
  va_new C.1.1 C.1.2.1 C.1.2.2.2.2 hin ty0 hty C.1.2.2.2.1 (C.1.2.2.2.2 _ h1) (C.1.2.2.2.2 _ h2) (C.1.2.2.2.2 _ h3) C.2.1.1 hP hD hS hA hc hfs hcells hslots hd kk
theorem r_newq (C : Cx p s m args meth c cc nL own rt D k) (hX : va_AO RX0 s) (hP : va_P D vwCl w H) (hD : va_D A w) (hS : va_S A H0 H locs) (hA : ∀ q, H0.size ≤ q → A q) {z : Int} {i : Nat} (n : Nat) (hz : z = (n : Int)) (hn : n < 100000) (h1 : Cond.classLink own i RX0 ∈ TB) (hcells : cells + 1 ≤ R.cells) (hslots : slots + n ≤ R.slots) (hd : decode cc pc = .ok (.anewarray i, 3))
    (kk : ∀ (q : Nat) (H1 : Heap), va_P D vwCl (w ++ [(q, .inl (k 2, n, .inr (.inr (.inr (.inr (fun _ => none))))))]) H1 → va_D A (w ++ [(q, .inl (k 2, n, .inr (.inr (.inr (.inr (fun _ => none))))))]) → va_S A H0 H1 locs → W p l e R s m args below meth c H1 locs (cells + 1) (slots + n) Q (F0 m (pc + 3) ls (.ref q :: rest))) : W p l e R s m args below meth c H locs cells slots Q (F0 m pc ls (.int (iI z) :: rest)) := by
  subst hz
  refine va_newq C.1.1 C.1.2.1 C.1.2.2.2.1 (C.1.2.2.2.2 _ h1) hX C.2.1.1 hP hD hS hA (N' := n) (fun q => by have := (iI_lt (a := (n : Int)) (b := 0) ⟨by omega, by omega⟩ ⟨by decide, by decide⟩).mp q; omega) (by rw [iI_clamp (by omega) (by omega)]; omega) (by omega) hcells hslots hd (fun q cA H1 hK h1 h2 h3 => ?_)
  obtain ⟨_, _, _, _, _, e0⟩ := (C.2.1.1.2 2 (k 2, .object RX0) rfl).2
  obtain ⟨_, _, _, _, _, e1⟩ := (hK.2 3 (cA, .object RX0) rfl).2
  have e2 : cA = k 2 := Option.some.inj (e1.symm.trans e0)
  subst e2
  exact kk q H1 h1 h2 h3
theorem r_astq (C : Cx p s m args meth c cc nL own rt D k) (hP : va_P D vwCl w H) (hD : va_D A w) (hS : va_S A H0 H locs) (q0 qk : Nat) {a v n : Nat} {z : Int} {vs : List Value} {f : Nat → Option Nat} (j : Nat) (w1 : va_W) (hz : z = (j : Int)) (hj : j < n) (hn : n < 100000) (ha : w[q0]? = some (a, .inl (k 2, n, .inr (.inr (.inr (.inr f)))))) (hv : w[qk]? = some (v, .inr (0, vs))) (hw : w.set q0 (a, .inl (k 2, n, .inr (.inr (.inr (.inr (va_up f j (some v))))))) = w1) (hd : decode cc pc = .ok (.aastore, 1))
    (kk : ∀ (H1 : Heap) (locs1 : List Loc), va_P D vwCl w1 H1 → va_D A w1 → va_S A H0 H1 locs1 → W p l e R s m args below meth c H1 locs1 cells slots Q (F0 m (pc + 1) ls rest)) : W p l e R s m args below meth c H locs cells slots Q (F0 m pc ls (.ref v :: .int (iI z) :: .ref a :: rest)) := by
  subst hz; subst hw
  have e : (iI (j : Int)).toNatClampNeg = j := by rw [iI_clamp (by omega) (by omega)]; omega
  refine va_astq C.1.1 C.1.2.1 C.2.1.1 hP hD hS q0 2 qk 0 (r := (RX0, TX0, 3)) ha rfl hv rfl (iI_ix (by omega) (by omega) (by omega)) hd (fun H1 locs1 h1 h2 h3 => ?_)
  rw [e] at h1 h2
  exact kk H1 locs1 h1 h2 h3
end MAKE6
theorem df_X0 : ∀ j, j < 3 → defaultValue (tyX0 j) = vp_V [.null, .int 0, .int 0] j := fun j hj => by
  rcases (show j = 0 ∨ j = 1 ∨ j = 2 by omega) with rfl | rfl | rfl <;> rfl
theorem df_X1 : ∀ j, j < 6 → defaultValue (tyX1 j) = vp_V [.null, .int 0, .int 0, .int 0, .int 0, .int 0] j := fun j hj => by
  rcases (show j = 0 ∨ j = 1 ∨ j = 2 ∨ j = 3 ∨ j = 4 ∨ j = 5 by omega) with rfl | rfl | rfl | rfl | rfl | rfl <;> rfl
theorem df_X2 : ∀ j, j < 10 → defaultValue (tyX2 j) = vp_V [.null, .null, .null, .null, .null, .null, .int 0, .int 0, .int 0, .long 0] j := fun j hj => by
  rcases (show j = 0 ∨ j = 1 ∨ j = 2 ∨ j = 3 ∨ j = 4 ∨ j = 5 ∨ j = 6 ∨ j = 7 ∨ j = 8 ∨ j = 9 by omega) with rfl | rfl | rfl | rfl | rfl | rfl | rfl | rfl | rfl | rfl <;> rfl
theorem df_X3 : ∀ j, j < 7 → defaultValue (tyX3 j) = vp_V [.null, .null, .null, .null, .null, .null, .int 0] j := fun j hj => by
  rcases (show j = 0 ∨ j = 1 ∨ j = 2 ∨ j = 3 ∨ j = 4 ∨ j = 5 ∨ j = 6 by omega) with rfl | rfl | rfl | rfl | rfl | rfl | rfl <;> rfl
theorem df_X4 : ∀ j, j < 19 → defaultValue (tyX4 j) = vp_V [.null, .null, .null, .null, .null, .int 0, .int 0, .int 0, .null, .null, .int 0, .int 0, .int 0, .int 0, .int 0, .null, .null, .null, .null] j := fun j hj => by
  rcases (show j = 0 ∨ j = 1 ∨ j = 2 ∨ j = 3 ∨ j = 4 ∨ j = 5 ∨ j = 6 ∨ j = 7 ∨ j = 8 ∨ j = 9 ∨ j = 10 ∨ j = 11 ∨ j = 12 ∨ j = 13 ∨ j = 14 ∨ j = 15 ∨ j = 16 ∨ j = 17 ∨ j = 18 by omega) with rfl | rfl | rfl | rfl | rfl | rfl | rfl | rfl | rfl | rfl | rfl | rfl | rfl | rfl | rfl | rfl | rfl | rfl | rfl <;> rfl
