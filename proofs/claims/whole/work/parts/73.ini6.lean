/-! calls of constructors: the new object is the world's last cell -/
section MAKE4
variable {p : Program} {l : Launch} {e : Env} {R : Room} {s : State} {m : MethodId} {args : Array Value} {below : List Frame} {meth : Method} {c : Code} {H : Heap} {locs : List Loc} {cells slots : Nat} {Q : State → Prop}
variable {cc : ByteArray} {nL : Nat} {own : String} {rt : Option FieldType} {D : va_G} {k : Nat → ClassId} {pc : Nat} {ls : Array Slot} {rest : List Value} {w : va_W} {A : Nat → Prop} {H0 : Heap}
theorem r_afterI {X : Type} {w' : X → va_W} {wr wc : va_W} {nc ns : Nat} {st0 : List Value} {a : Array Value} (isC isR : List Nat) (hr : va_Run p l e R s m args below meth c H locs cells slots nc ns (F0 m pc ls st0) rest (qN D wc w' a) (va_A wc H.size)) (hP : va_P D vwCl w H) (hD : va_D A w) (hS : va_S A H0 H locs) (hA : ∀ q, H0.size ≤ q → A q) (hC : isC.map (fun i => w[i]?) = wc.map some) (hR : isR.map (fun i => w[i]?) = wr.map some) (hn : va_nd isR = true) (hdis : ∀ i ∈ isR, i ∉ isC)
    (kk : ∀ (x : X) (H1 : Heap) (locs1 : List Loc), va_P D vwCl (wr ++ w' x) H1 → va_D A (wr ++ w' x) → va_S A H0 H1 locs1 → W p l e R s m args below meth c H1 locs1 (cells + nc) (slots + ns) Q (F0 m (pc + 3) ls rest)) : W p l e R s m args below meth c H locs cells slots Q (F0 m pc ls st0) := by
  have hF := va_free (wc := wc) hD hS hA isC hC
  have hr2 : va_Run p l e R s m args below meth c H locs cells slots nc ns (F0 m pc ls st0) rest (va_Qv (fun _ : X => True) (fun x t => va_P D vwCl (w' x) t.heap ∧ va_D (va_A wc H.size) (w' x)) (va_A wc H.size) a) (va_A wc H.size) := by
    intro T hT X
    obtain ⟨v, st₀, t, T', L, h0, X', hL, e1, e2, ⟨hv, ⟨x, hp, hd⟩, hz⟩, st⟩ := hr T hT X
    rw [h0] at hd hz
    exact ⟨v, st₀, t, T', L, h0, X', hL, e1, e2, ⟨⟨x, hv, trivial, hp, hd⟩, hz⟩, st⟩
  refine va_callv hr2 hS (fun q _ h => hF q h) hF (fun x t H1 locs1 ht _ _ hB _ hk hS1 => ?_)
  obtain ⟨hP1, hD1⟩ := hB
  rw [ht] at hP1
  obtain ⟨h1, h2⟩ := va_join hP hD isC isR hC hR hn hdis hk hF hP1 hD1
  exact kk x H1 locs1 h1 h2 hS1
end MAKE4
