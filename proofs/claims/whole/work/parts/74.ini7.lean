/-! calls of constructors, public and private -/
theorem pre_N {s : State} {H : Heap} {D : va_G} {k : Nat → ClassId} {w : va_W} {As' : List Value} (hE : EV D k s) (hPc : va_P D vwCl w H) (hDc : va_D (fun _ => True) w) : PreS s H (va_Pc As' (fun U => U.heap.size = H.size ∧ va_P D vwCl w U.heap ∧ EV D k U ∧ va_D (fun _ => True) w)) As' :=
  ⟨fun a U g mk q => ⟨q.1, q.2.1, q.2.2.1, EV.call q.2.2.2.1, q.2.2.2.2⟩, fun U hU hW => ⟨rfl, by rw [hU], by rw [hU]; exact hPc, hE.warm hW, hDc⟩⟩
section MAKE5
variable {p : Program} {l : Launch} {e : Env} {R : Room} {s : State} {m : MethodId} {args : Array Value} {below : List Frame} {meth : Method} {c : Code} {H : Heap} {locs : List Loc} {cells slots : Nat} {Q : State → Prop}
variable {cc : ByteArray} {nL : Nat} {own : String} {rt : Option FieldType} {D : va_G} {k : Nat → ClassId} {pc : Nat} {ls : Array Slot} {rest : List Value} {w : va_W} {A : Nat → Prop} {H0 : Heap}
theorem r_cIN {X : Type} {w' : X → va_W} {wr wc : va_W} {nc ns i nM fr lo b : Nat} {y : MethodName} {host : String} {cb : ByteArray} (C : Cx p s m args meth c cc nL own rt D k) (hl : va_Nw (.methodLinkNest own i y host) s) (h1 : Cond.instanceMethod y ∈ TB) (h2 : Cond.initialized y.cls ∈ TB) (h3 : Cond.code y cb nM none ∈ TB) (hy : y.name = "<init>") (hdd : y.cls ≠ "java/lang/invoke/MethodHandle" ∧ y.cls ≠ "java/lang/invoke/VarHandle" ∧ (parseMethodDescriptor y.desc).map (fun d => d.parameters.length) = some 0) (hM : MN H.size l y cb nM fr lo nc ns D k [.ref b] wc w') (hRR : fr + 1 ≤ R.frames ∧ 8 + (nM + 11) + lo ≤ R.locals) (hP : va_P D vwCl w H) (hD : va_D A w) (hS : va_S A H0 H locs) (hA : ∀ q, H0.size ≤ q → A q) (isC isR : List Nat) (hnc : va_nd isC = true) (hC : isC.map (fun i => w[i]?) = wc.map some) (hR : isR.map (fun i => w[i]?) = wr.map some) (hn : va_nd isR = true) (hdis : ∀ i ∈ isR, i ∉ isC) (hls : ls.size = nL) (hrm : (rest.map fun v => v.category).sum ≤ 8) (hd : decode cc pc = .ok (.invokespecial i, 3)) (hcs : cells + nc ≤ R.cells ∧ slots + ns ≤ R.slots)
    (kk : ∀ (x : X) (H1 : Heap) (locs1 : List Loc), va_P D vwCl (wr ++ w' x) H1 → va_D A (wr ++ w' x) → va_S A H0 H1 locs1 → W p l e R s m args below meth c H1 locs1 (cells + nc) (slots + ns) Q (F0 m (pc + 3) ls rest)) : W p l e R s m args below meth c H locs cells slots Q (F0 m pc ls (.ref b :: rest)) := by
  have hts := C.1.2.2.2.2
  have hPc : va_P D vwCl wc H := by
    intro j q hq
    have h1 : (isC.map (fun i => w[i]?))[j]? = some (some q) := by rw [hC, List.getElem?_map, hq]; rfl
    rw [List.getElem?_map] at h1
    cases hi : isC[j]? with
    | none => rw [hi] at h1; cases h1
    | some i => rw [hi] at h1; exact hP i q (Option.some.inj h1)
  have hDc : va_D (fun _ => True) wc := (hD.sub isC hnc hC).weaken (fun _ _ _ _ => trivial)
  exact r_afterI isC isR (va_runIN (As := []) (rest := rest) C.1 hM ⟨va_cnB 0 hts (tb_good (fun _ h => h) h3) rfl rfl rfl hl (hts _ h2) hdd hRR, hy, hts _ h1⟩ (pre_N C.2.1 hPc hDc) rfl rfl hls rfl (lv_room hrm) hd hcs) hP hD hS hA hC hR hn hdis kk
end MAKE5
