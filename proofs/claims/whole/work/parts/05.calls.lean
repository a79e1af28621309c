/-! calls -/
def CV (own : String) (i : Nat) (Cn : String) (y : MethodName) (cc : ByteArray) (nL : Nat) (rt : Option FieldType) (n : Nat) : Prop :=
  (Cond.methodLink own i y ∈ TB ∧ Cond.instanceMethod y ∈ TB ∧ Cond.selects Cn y y ∈ TB ∧ Cond.initialized Cn ∈ TB ∧ Cond.code y cc nL rt ∈ TB) ∧ y.cls = Cn ∧ y.cls ≠ "java/lang/invoke/MethodHandle" ∧ y.cls ≠ "java/lang/invoke/VarHandle" ∧ (parseMethodDescriptor y.desc).map (fun d => d.parameters.length) = some n
def CS (own : String) (i : Nat) (y : MethodName) (cc : ByteArray) (nL : Nat) (rt : Option FieldType) (n : Nat) : Prop :=
  (Cond.methodLink own i y ∈ TB ∧ Cond.static y ∈ TB ∧ Cond.initialized y.cls ∈ TB ∧ Cond.code y cc nL rt ∈ TB) ∧ y.cls ≠ "java/lang/invoke/MethodHandle" ∧ y.cls ≠ "java/lang/invoke/VarHandle" ∧ (parseMethodDescriptor y.desc).map (fun d => d.parameters.length) = some n
def CN (own : String) (i : Nat) (y : MethodName) (host : String) (cc : ByteArray) (nL : Nat) (rt : Option FieldType) (n : Nat) : Prop :=
  (Cond.methodLinkNest own i y host ∈ NW ∧ Cond.static y ∈ TB ∧ Cond.initialized y.cls ∈ TB ∧ Cond.code y cc nL rt ∈ TB) ∧ y.cls ≠ "java/lang/invoke/MethodHandle" ∧ y.cls ≠ "java/lang/invoke/VarHandle" ∧ (parseMethodDescriptor y.desc).map (fun d => d.parameters.length) = some n
def putW : va_W → List Nat → va_W → va_W
  | W, i :: is, x :: xs => putW (W.set i x) is xs
  | W, _, _ => W
theorem putW_mem : ∀ (is : List Nat) (xs W : va_W), is.length = xs.length → ∀ (j : Nat) (q : Nat × va_E), (putW W is xs)[j]? = some q → (∃ i : Nat, xs[i]? = some q) ∨ (W[j]? = some q ∧ j ∉ is)
  | [], xs, W, h, j, q, hq => by
    cases xs with
    | nil => exact Or.inr ⟨hq, List.not_mem_nil⟩
    | cons => cases h
  | i :: is, [], W, h, j, q, hq => by cases h
  | i :: is, x :: xs, W, h, j, q, hq => by
    rcases putW_mem is xs (W.set i x) (Nat.succ.inj h) j q hq with ⟨n, hn⟩ | ⟨h1, h2⟩
    · exact Or.inl ⟨n + 1, hn⟩
    · by_cases e : i = j
      · subst e
        rw [List.getElem?_set] at h1
        rw [if_pos rfl] at h1
        split at h1
        · cases h1; exact Or.inl ⟨0, rfl⟩
        · cases h1
      · rw [List.getElem?_set_ne e] at h1
        exact Or.inr ⟨h1, fun hm => by
          rcases List.mem_cons.mp hm with rfl | hm
          · exact e rfl
          · exact h2 hm⟩
theorem va_D.same {A : Nat → Prop} {w w1 : va_W} (hD : va_D A w) (ha : w1.map (·.1) = w.map (·.1)) : va_D A w1 := by
  have key : ∀ (i : Nat) (q : Nat × va_E), w1[i]? = some q → ∃ q', w[i]? = some q' ∧ q'.1 = q.1 := by
    intro i q hq
    have h1 : (w1.map (·.1))[i]? = some q.1 := by rw [List.getElem?_map, hq]; rfl
    rw [ha, List.getElem?_map] at h1
    cases h : w[i]? with
    | none => rw [h] at h1; cases h1
    | some q' => rw [h] at h1; exact ⟨q', rfl, Option.some.inj h1⟩
  refine ⟨fun i j a b hi hj hab => ?_, fun i q hq => ?_⟩
  · obtain ⟨a', h1, h2⟩ := key i a hi
    obtain ⟨b', h3, h4⟩ := key j b hj
    exact hD.1 i j a' b' h1 h3 (by rw [h2, h4, hab])
  · obtain ⟨q', h1, h2⟩ := key i q hq
    rw [← h2]; exact hD.2 i q' h1
section CALLS
variable {p : Program} {l : Launch} {e : Env} {R : Room} {s : State} {m : MethodId} {args : Array Value} {below : List Frame} {meth : Method} {c : Code} {H : Heap} {locs : List Loc} {cells slots : Nat} {Q : State → Prop}
variable {cc : ByteArray} {nL : Nat} {own : String} {rt : Option FieldType} {D : va_G} {k : Nat → ClassId} {pc : Nat} {ls : Array Slot} {rest : List Value} {w w' : va_W} {A : Nat → Prop} {H0 : Heap}
variable {y : MethodName} {cb : ByteArray} {nM : Nat} {rc : Option FieldType} {fr lo i n : Nat} {As : List Value} {v : Value} {ov : Option Value} {b ci N : Nat} {Cn host : String} {T : u_T} {fs : List Value}
theorem W.callQR {g : JFrame} {a : Array Value} (hr : CallRun p l e R s m args below meth c H locs cells slots 0 0 g rest (qR v a) (fun _ => False)) (kk : W p l e R s m args below meth c H locs cells slots Q { g with pc := g.pc + 3, stack := v :: rest }) : W p l e R s m args below meth c H locs cells slots Q g := by
  intro U hU X
  obtain ⟨v', st₀, t, T', L, h0, X', hL, e1, ⟨hv, hh⟩, st⟩ := hr U hU X
  cases hv
  obtain ⟨t2, a1, b1⟩ := kk T' (by rw [e1, hh, h0]) (Stand.forget X' (fun q h => (hL q h).elim))
  exact ⟨t2, st t2 a1, b1⟩
theorem W.callQW {g : JFrame} {a : Array Value} {W0 : va_W} (hr : CallRun p l e R s m args below meth c H locs cells slots 0 0 g rest (qW D w w' ov a) (Ad w)) (hP : va_P D vwCl W0 H) (hD : va_D A W0) (hS : va_S A H0 H locs) (isC : List Nat) (W1 : va_W) (hC : isC.map (fun i => W0[i]?) = w.map some) (hlen : isC.length = w'.length) (hW : putW W0 isC w' = W1) (ha : W1.map (·.1) = W0.map (·.1))
    (kk : ∀ (H1 : Heap) (locs1 : List Loc), va_P D vwCl W1 H1 → va_D A W1 → va_S A H0 H1 locs1 → W p l e R s m args below meth c H1 locs1 cells slots Q { g with pc := g.pc + 3, stack := ov.toList ++ rest }) : W p l e R s m args below meth c H locs cells slots Q g := by
  intro U hU X
  obtain ⟨v', st₀, t, T', L, h0, X', hL, e1, ⟨hv, hp, hz, hk⟩, st⟩ := hr U hU X
  cases hv
  rw [h0] at hz hk
  have at' : ∀ (j : Nat) (q : Nat × va_E), w[j]? = some q → ∃ i, isC[j]? = some i ∧ W0[i]? = some q := by
    intro j q hq
    have h1 : (isC.map (fun i => W0[i]?))[j]? = some (some q) := by rw [hC, List.getElem?_map, hq]; rfl
    rw [List.getElem?_map] at h1
    cases hi : isC[j]? with
    | none => rw [hi] at h1; cases h1
    | some i => rw [hi] at h1; exact ⟨i, rfl, Option.some.inj h1⟩
  have hAd : ∀ q, Ad w q → A q := by
    rintro q ⟨j, x, hj⟩
    obtain ⟨i, -, h2⟩ := at' j _ hj
    exact hD.2 i _ h2
  have hP1 : va_P D vwCl W1 t.heap := by
    intro j q hq
    rw [← hW] at hq
    rcases putW_mem isC w' W0 hlen j q hq with ⟨i, hi⟩ | ⟨h1, h2⟩
    · exact hp i q hi
    · refine (hP j q h1).kept (hk q.1 (hP j q h1).lt (fun hq' => ?_))
      obtain ⟨i, x, hx⟩ := hq'
      obtain ⟨i', h3, h4⟩ := at' i _ hx
      have := hD.1 j i' q _ h1 h4 rfl
      subst this
      exact h2 (List.mem_of_getElem? h3)
  obtain ⟨t2, a1, b1⟩ := kk t.heap (locs ++ L) hP1 (hD.same ha)
    ⟨Nat.le_trans hS.1 hz, fun q h1 h2 => by rw [hk q (Nat.lt_of_lt_of_le h1 hS.1) (fun z => h2 (hAd q z))]; exact hS.2.1 q h1 h2, fun q hq => by
      rcases List.mem_append.mp hq with h | h
      · exact hS.2.2 q h
      · exact hAd _ (hL q h)⟩ T' e1 X'
  exact ⟨t2, st t2 a1, b1⟩
theorem c_cw (C : Cx p s m args meth c cc nL own rt D k) (hq : CV own i Cn y cb nM rc n) (hR : fr + 1 ≤ R.frames ∧ 8 + (nM + 11) + lo ≤ R.locals) : CallW R s args own Cn i y cb nM rc (.code y cb nM rc :: TB) (rM fr lo) 0 0 n := by
  obtain ⟨⟨q1, q2, q3, q4, q5⟩, d0, d⟩ := hq
  have hts := C.1.2.2.2.2
  exact ⟨callB_of n hts (tb_good (fun _ h => h) q5) rfl rfl rfl (by rw [d0]; exact hts _ q4) (hts _ q1) d hR, hts _ q2, hts _ q3⟩
theorem c_cs (C : Cx p s m args meth c cc nL own rt D k) (hq : CS own i y cb nM rc n) (hR : fr + 1 ≤ R.frames ∧ 8 + (nM + 11) + lo ≤ R.locals) : CallB R s args own i y cb nM rc (.code y cb nM rc :: TB) (rM fr lo) 0 0 n ∧ (Cond.static y).before args s = true := by
  obtain ⟨⟨q1, q2, q3, q4⟩, d⟩ := hq
  have hts := C.1.2.2.2.2
  exact ⟨callB_of n hts (tb_good (fun _ h => h) q4) rfl rfl rfl (hts _ q3) (hts _ q1) d hR, hts _ q2⟩
theorem c_cn (C : Cx p s m args meth c cc nL own rt D k) (hq : CN own i y host cb nM rc n) (hR : fr + 1 ≤ R.frames ∧ 8 + (nM + 11) + lo ≤ R.locals) : va_CN R s args own i y host cb nM rc (.code y cb nM rc :: TB) (rM fr lo) 0 0 n ∧ (Cond.static y).before args s = true ∧ True := by
  obtain ⟨⟨q1, q2, q3, q4⟩, d⟩ := hq
  have hts := C.1.2.2.2.2
  exact ⟨va_cnB n hts (tb_good (fun _ h => h) q4) rfl rfl rfl (C.2.1.2 _ q1) (hts _ q3) d hR, hts _ q2, trivial⟩
theorem pre_R {As' : List Value} (hE : EV D k s) (hPc : va_P D vwCl w H) : PreS s H (va_Pc As' (fun U => va_P D vwCl w U.heap ∧ EV D k U)) As' :=
  ⟨fun a U g mk q => ⟨q.1, q.2.1, EV.call q.2.2⟩, fun U hU hW => ⟨rfl, by rw [hU]; exact hPc, hE.warm hW⟩⟩
theorem pre_W {As' : List Value} (hE : EV D k s) (hPc : va_P D vwCl w H) (hDc : va_D (fun _ => True) w) : PreS s H (va_Pc As' (fun U => va_P D vwCl w U.heap ∧ EV D k U ∧ va_D (fun _ => True) w)) As' :=
  ⟨fun a U g mk q => ⟨q.1, q.2.1, EV.call q.2.2.1, q.2.2.2⟩, fun U hU hW => ⟨rfl, by rw [hU]; exact hPc, hE.warm hW, hDc⟩⟩
theorem r_cVR (C : Cx p s m args meth c cc nL own rt D k) (hq : CV own i Cn y cb nM rc n) (hM : MR l y cb nM rc fr lo D k (.ref b :: As) w v) (hR : fr + 1 ≤ R.frames ∧ 8 + (nM + 11) + lo ≤ R.locals) (hn : As.length = n) (hPc : va_P D vwCl w H) (hc : vwCl[ci]? = some (Cn, T, N)) (he : w[0]? = some (b, .inr (ci, fs))) (hls : ls.size = nL) (hrm : (rest.map fun v => v.category).sum ≤ 8) (hd : decode cc pc = .ok (.invokevirtual i, 3))
    (kk : W p l e R s m args below meth c H locs cells slots Q (F0 m (pc + 3) ls (v :: rest))) (hcs : cells ≤ R.cells ∧ slots ≤ R.slots) : W p l e R s m args below meth c H locs cells slots Q (F0 m pc ls (As.reverse ++ .ref b :: rest)) :=
  W.callQR (W.runV (As := As) (rest := rest) C.1 hM (c_cw C hq hR) ⟨(pre_R (As' := .ref b :: As) C.2.1 hPc).1, va_recv C.2.1.1 hPc hc he, (pre_R (As' := .ref b :: As) C.2.1 hPc).2⟩ rfl hn hls rfl (lv_room hrm) hd hcs) kk
theorem r_cSR (C : Cx p s m args meth c cc nL own rt D k) (hq : CS own i y cb nM rc n) (hM : MR l y cb nM rc fr lo D k As w v) (hR : fr + 1 ≤ R.frames ∧ 8 + (nM + 11) + lo ≤ R.locals) (hn : As.length = n) (hPc : va_P D vwCl w H) (hls : ls.size = nL) (hrm : (rest.map fun v => v.category).sum ≤ 8) (hd : decode cc pc = .ok (.invokestatic i, 3))
    (kk : W p l e R s m args below meth c H locs cells slots Q (F0 m (pc + 3) ls (v :: rest))) (hcs : cells ≤ R.cells ∧ slots ≤ R.slots) : W p l e R s m args below meth c H locs cells slots Q (F0 m pc ls (As.reverse ++ rest)) :=
  W.callQR (W.runS (As := As) (rest := rest) C.1 hM (c_cs C hq hR) (pre_R C.2.1 hPc) rfl hn hls rfl (lv_room hrm) hd hcs) kk
theorem r_cNR (C : Cx p s m args meth c cc nL own rt D k) (hq : CN own i y host cb nM rc n) (hM : MR l y cb nM rc fr lo D k As w v) (hR : fr + 1 ≤ R.frames ∧ 8 + (nM + 11) + lo ≤ R.locals) (hn : As.length = n) (hPc : va_P D vwCl w H) (hls : ls.size = nL) (hrm : (rest.map fun v => v.category).sum ≤ 8) (hd : decode cc pc = .ok (.invokestatic i, 3))
    (kk : W p l e R s m args below meth c H locs cells slots Q (F0 m (pc + 3) ls (v :: rest))) (hcs : cells ≤ R.cells ∧ slots ≤ R.slots) : W p l e R s m args below meth c H locs cells slots Q (F0 m pc ls (As.reverse ++ rest)) :=
  W.callQR (va_Run.run (va_runSN (As := As) (rest := rest) C.1 hM (c_cn C hq hR) (pre_R C.2.1 hPc) rfl hn hls rfl (lv_room hrm) hd hcs)) kk
theorem r_cVW {W0 : va_W} (C : Cx p s m args meth c cc nL own rt D k) (hq : CV own i Cn y cb nM rc n) (hM : MW l y cb nM rc fr lo D k (.ref b :: As) w w' ov) (hR : fr + 1 ≤ R.frames ∧ 8 + (nM + 11) + lo ≤ R.locals) (hn : As.length = n) (hP : va_P D vwCl W0 H) (hD : va_D A W0) (hS : va_S A H0 H locs) (isC : List Nat) (W1 : va_W) (hnd : va_nd isC = true) (hC : isC.map (fun i => W0[i]?) = w.map some) (hlen : isC.length = w'.length) (hW : putW W0 isC w' = W1) (ha : W1.map (·.1) = W0.map (·.1)) (hc : vwCl[ci]? = some (Cn, T, N)) (he : w[0]? = some (b, .inr (ci, fs))) (hls : ls.size = nL) (hrm : (rest.map fun v => v.category).sum ≤ 8) (hd : decode cc pc = .ok (.invokevirtual i, 3))
    (kk : ∀ (H1 : Heap) (locs1 : List Loc), va_P D vwCl W1 H1 → va_D A W1 → va_S A H0 H1 locs1 → W p l e R s m args below meth c H1 locs1 cells slots Q (F0 m (pc + 3) ls (ov.toList ++ rest))) (hcs : cells ≤ R.cells ∧ slots ≤ R.slots) : W p l e R s m args below meth c H locs cells slots Q (F0 m pc ls (As.reverse ++ .ref b :: rest)) := by
  have hDc : va_D (fun _ => True) w := (hD.sub isC hnd hC).weaken (fun _ _ _ _ => trivial)
  have hPc : va_P D vwCl w H := by
    intro j q hq
    have h1 : (isC.map (fun i => W0[i]?))[j]? = some (some q) := by rw [hC, List.getElem?_map, hq]; rfl
    rw [List.getElem?_map] at h1
    cases hi : isC[j]? with
    | none => rw [hi] at h1; cases h1
    | some i => rw [hi] at h1; exact hP i q (Option.some.inj h1)
  exact W.callQW (W.runV (As := As) (rest := rest) C.1 hM (c_cw C hq hR) ⟨(pre_W (As' := .ref b :: As) C.2.1 hPc hDc).1, va_recv C.2.1.1 hPc hc he, (pre_W (As' := .ref b :: As) C.2.1 hPc hDc).2⟩ rfl hn hls rfl (lv_room hrm) hd hcs) hP hD hS isC W1 hC hlen hW ha kk
theorem r_cVR0  (C : Cx p s m args meth c cc nL own rt D k) (hq : CV own i Cn y cb nM rc 0) (hM : MR l y cb nM rc fr lo D k (.ref b :: []) w v) (hPc : va_P D vwCl w H) (hc : vwCl[ci]? = some (Cn, T, N)) (he : w[0]? = some (b, .inr (ci, fs))) (hls : ls.size = nL) (hd : decode cc pc = .ok (.invokevirtual i, 3))
    (kk : W p l e R s m args below meth c H locs cells slots Q (F0 m (pc + 3) ls (v :: rest))) (hR : fr + 1 ≤ R.frames ∧ 8 + (nM + 11) + lo ≤ R.locals := by exact ⟨Nat.le_of_ble_eq_true rfl, Nat.le_of_ble_eq_true rfl⟩) (hrm : (rest.map fun v => v.category).sum ≤ 8 := by exact Nat.le_of_ble_eq_true rfl) (hcs : cells ≤ R.cells ∧ slots ≤ R.slots := by exact ⟨Nat.zero_le _, Nat.zero_le _⟩) : W p l e R s m args below meth c H locs cells slots Q (F0 m pc ls (.ref b :: rest)) := r_cVR (As := []) C hq hM hR rfl hPc hc he hls hrm hd kk hcs
theorem r_cVW0  {W0 : va_W} (C : Cx p s m args meth c cc nL own rt D k) (hq : CV own i Cn y cb nM rc 0) (hM : MW l y cb nM rc fr lo D k (.ref b :: []) w w' ov) (hP : va_P D vwCl W0 H) (hD : va_D A W0) (hS : va_S A H0 H locs) (isC : List Nat) (W1 : va_W) (hnd : va_nd isC = true) (hC : isC.map (fun i => W0[i]?) = w.map some) (hlen : isC.length = w'.length) (hW : putW W0 isC w' = W1) (ha : W1.map (·.1) = W0.map (·.1)) (hc : vwCl[ci]? = some (Cn, T, N)) (he : w[0]? = some (b, .inr (ci, fs))) (hls : ls.size = nL) (hd : decode cc pc = .ok (.invokevirtual i, 3))
    (kk : ∀ (H1 : Heap) (locs1 : List Loc), va_P D vwCl W1 H1 → va_D A W1 → va_S A H0 H1 locs1 → W p l e R s m args below meth c H1 locs1 cells slots Q (F0 m (pc + 3) ls (ov.toList ++ rest))) (hR : fr + 1 ≤ R.frames ∧ 8 + (nM + 11) + lo ≤ R.locals := by exact ⟨Nat.le_of_ble_eq_true rfl, Nat.le_of_ble_eq_true rfl⟩) (hrm : (rest.map fun v => v.category).sum ≤ 8 := by exact Nat.le_of_ble_eq_true rfl) (hcs : cells ≤ R.cells ∧ slots ≤ R.slots := by exact ⟨Nat.zero_le _, Nat.zero_le _⟩) : W p l e R s m args below meth c H locs cells slots Q (F0 m pc ls (.ref b :: rest)) := r_cVW (As := []) C hq hM hR rfl hP hD hS isC W1 hnd hC hlen hW ha hc he hls hrm hd kk hcs
theorem r_cVR1 {x1 : Value} (C : Cx p s m args meth c cc nL own rt D k) (hq : CV own i Cn y cb nM rc 1) (hM : MR l y cb nM rc fr lo D k (.ref b :: [x1]) w v) (hPc : va_P D vwCl w H) (hc : vwCl[ci]? = some (Cn, T, N)) (he : w[0]? = some (b, .inr (ci, fs))) (hls : ls.size = nL) (hd : decode cc pc = .ok (.invokevirtual i, 3))
    (kk : W p l e R s m args below meth c H locs cells slots Q (F0 m (pc + 3) ls (v :: rest))) (hR : fr + 1 ≤ R.frames ∧ 8 + (nM + 11) + lo ≤ R.locals := by exact ⟨Nat.le_of_ble_eq_true rfl, Nat.le_of_ble_eq_true rfl⟩) (hrm : (rest.map fun v => v.category).sum ≤ 8 := by exact Nat.le_of_ble_eq_true rfl) (hcs : cells ≤ R.cells ∧ slots ≤ R.slots := by exact ⟨Nat.zero_le _, Nat.zero_le _⟩) : W p l e R s m args below meth c H locs cells slots Q (F0 m pc ls (x1 :: .ref b :: rest)) := r_cVR (As := [x1]) C hq hM hR rfl hPc hc he hls hrm hd kk hcs
theorem r_cSR1 {x1 : Value} (C : Cx p s m args meth c cc nL own rt D k) (hq : CS own i y cb nM rc 1) (hM : MR l y cb nM rc fr lo D k [x1] w v) (hPc : va_P D vwCl w H) (hls : ls.size = nL) (hd : decode cc pc = .ok (.invokestatic i, 3))
    (kk : W p l e R s m args below meth c H locs cells slots Q (F0 m (pc + 3) ls (v :: rest))) (hR : fr + 1 ≤ R.frames ∧ 8 + (nM + 11) + lo ≤ R.locals := by exact ⟨Nat.le_of_ble_eq_true rfl, Nat.le_of_ble_eq_true rfl⟩) (hrm : (rest.map fun v => v.category).sum ≤ 8 := by exact Nat.le_of_ble_eq_true rfl) (hcs : cells ≤ R.cells ∧ slots ≤ R.slots := by exact ⟨Nat.zero_le _, Nat.zero_le _⟩) : W p l e R s m args below meth c H locs cells slots Q (F0 m pc ls (x1 :: rest)) := r_cSR (As := [x1]) C hq hM hR rfl hPc hls hrm hd kk hcs
theorem r_cNR1 {x1 : Value} (C : Cx p s m args meth c cc nL own rt D k) (hq : CN own i y host cb nM rc 1) (hM : MR l y cb nM rc fr lo D k [x1] w v) (hPc : va_P D vwCl w H) (hls : ls.size = nL) (hd : decode cc pc = .ok (.invokestatic i, 3))
    (kk : W p l e R s m args below meth c H locs cells slots Q (F0 m (pc + 3) ls (v :: rest))) (hR : fr + 1 ≤ R.frames ∧ 8 + (nM + 11) + lo ≤ R.locals := by exact ⟨Nat.le_of_ble_eq_true rfl, Nat.le_of_ble_eq_true rfl⟩) (hrm : (rest.map fun v => v.category).sum ≤ 8 := by exact Nat.le_of_ble_eq_true rfl) (hcs : cells ≤ R.cells ∧ slots ≤ R.slots := by exact ⟨Nat.zero_le _, Nat.zero_le _⟩) : W p l e R s m args below meth c H locs cells slots Q (F0 m pc ls (x1 :: rest)) := r_cNR (As := [x1]) C hq hM hR rfl hPc hls hrm hd kk hcs
theorem r_cVW1 {x1 : Value} {W0 : va_W} (C : Cx p s m args meth c cc nL own rt D k) (hq : CV own i Cn y cb nM rc 1) (hM : MW l y cb nM rc fr lo D k (.ref b :: [x1]) w w' ov) (hP : va_P D vwCl W0 H) (hD : va_D A W0) (hS : va_S A H0 H locs) (isC : List Nat) (W1 : va_W) (hnd : va_nd isC = true) (hC : isC.map (fun i => W0[i]?) = w.map some) (hlen : isC.length = w'.length) (hW : putW W0 isC w' = W1) (ha : W1.map (·.1) = W0.map (·.1)) (hc : vwCl[ci]? = some (Cn, T, N)) (he : w[0]? = some (b, .inr (ci, fs))) (hls : ls.size = nL) (hd : decode cc pc = .ok (.invokevirtual i, 3))
    (kk : ∀ (H1 : Heap) (locs1 : List Loc), va_P D vwCl W1 H1 → va_D A W1 → va_S A H0 H1 locs1 → W p l e R s m args below meth c H1 locs1 cells slots Q (F0 m (pc + 3) ls (ov.toList ++ rest))) (hR : fr + 1 ≤ R.frames ∧ 8 + (nM + 11) + lo ≤ R.locals := by exact ⟨Nat.le_of_ble_eq_true rfl, Nat.le_of_ble_eq_true rfl⟩) (hrm : (rest.map fun v => v.category).sum ≤ 8 := by exact Nat.le_of_ble_eq_true rfl) (hcs : cells ≤ R.cells ∧ slots ≤ R.slots := by exact ⟨Nat.zero_le _, Nat.zero_le _⟩) : W p l e R s m args below meth c H locs cells slots Q (F0 m pc ls (x1 :: .ref b :: rest)) := r_cVW (As := [x1]) C hq hM hR rfl hP hD hS isC W1 hnd hC hlen hW ha hc he hls hrm hd kk hcs
theorem r_cVR2 {x1 x2 : Value} (C : Cx p s m args meth c cc nL own rt D k) (hq : CV own i Cn y cb nM rc 2) (hM : MR l y cb nM rc fr lo D k (.ref b :: [x1, x2]) w v) (hPc : va_P D vwCl w H) (hc : vwCl[ci]? = some (Cn, T, N)) (he : w[0]? = some (b, .inr (ci, fs))) (hls : ls.size = nL) (hd : decode cc pc = .ok (.invokevirtual i, 3))
    (kk : W p l e R s m args below meth c H locs cells slots Q (F0 m (pc + 3) ls (v :: rest))) (hR : fr + 1 ≤ R.frames ∧ 8 + (nM + 11) + lo ≤ R.locals := by exact ⟨Nat.le_of_ble_eq_true rfl, Nat.le_of_ble_eq_true rfl⟩) (hrm : (rest.map fun v => v.category).sum ≤ 8 := by exact Nat.le_of_ble_eq_true rfl) (hcs : cells ≤ R.cells ∧ slots ≤ R.slots := by exact ⟨Nat.zero_le _, Nat.zero_le _⟩) : W p l e R s m args below meth c H locs cells slots Q (F0 m pc ls (x2 :: x1 :: .ref b :: rest)) := r_cVR (As := [x1, x2]) C hq hM hR rfl hPc hc he hls hrm hd kk hcs
theorem r_cSR2 {x1 x2 : Value} (C : Cx p s m args meth c cc nL own rt D k) (hq : CS own i y cb nM rc 2) (hM : MR l y cb nM rc fr lo D k [x1, x2] w v) (hPc : va_P D vwCl w H) (hls : ls.size = nL) (hd : decode cc pc = .ok (.invokestatic i, 3))
    (kk : W p l e R s m args below meth c H locs cells slots Q (F0 m (pc + 3) ls (v :: rest))) (hR : fr + 1 ≤ R.frames ∧ 8 + (nM + 11) + lo ≤ R.locals := by exact ⟨Nat.le_of_ble_eq_true rfl, Nat.le_of_ble_eq_true rfl⟩) (hrm : (rest.map fun v => v.category).sum ≤ 8 := by exact Nat.le_of_ble_eq_true rfl) (hcs : cells ≤ R.cells ∧ slots ≤ R.slots := by exact ⟨Nat.zero_le _, Nat.zero_le _⟩) : W p l e R s m args below meth c H locs cells slots Q (F0 m pc ls (x2 :: x1 :: rest)) := r_cSR (As := [x1, x2]) C hq hM hR rfl hPc hls hrm hd kk hcs
theorem r_cNR2 {x1 x2 : Value} (C : Cx p s m args meth c cc nL own rt D k) (hq : CN own i y host cb nM rc 2) (hM : MR l y cb nM rc fr lo D k [x1, x2] w v) (hPc : va_P D vwCl w H) (hls : ls.size = nL) (hd : decode cc pc = .ok (.invokestatic i, 3))
    (kk : W p l e R s m args below meth c H locs cells slots Q (F0 m (pc + 3) ls (v :: rest))) (hR : fr + 1 ≤ R.frames ∧ 8 + (nM + 11) + lo ≤ R.locals := by exact ⟨Nat.le_of_ble_eq_true rfl, Nat.le_of_ble_eq_true rfl⟩) (hrm : (rest.map fun v => v.category).sum ≤ 8 := by exact Nat.le_of_ble_eq_true rfl) (hcs : cells ≤ R.cells ∧ slots ≤ R.slots := by exact ⟨Nat.zero_le _, Nat.zero_le _⟩) : W p l e R s m args below meth c H locs cells slots Q (F0 m pc ls (x2 :: x1 :: rest)) := r_cNR (As := [x1, x2]) C hq hM hR rfl hPc hls hrm hd kk hcs
theorem r_cVW2 {x1 x2 : Value} {W0 : va_W} (C : Cx p s m args meth c cc nL own rt D k) (hq : CV own i Cn y cb nM rc 2) (hM : MW l y cb nM rc fr lo D k (.ref b :: [x1, x2]) w w' ov) (hP : va_P D vwCl W0 H) (hD : va_D A W0) (hS : va_S A H0 H locs) (isC : List Nat) (W1 : va_W) (hnd : va_nd isC = true) (hC : isC.map (fun i => W0[i]?) = w.map some) (hlen : isC.length = w'.length) (hW : putW W0 isC w' = W1) (ha : W1.map (·.1) = W0.map (·.1)) (hc : vwCl[ci]? = some (Cn, T, N)) (he : w[0]? = some (b, .inr (ci, fs))) (hls : ls.size = nL) (hd : decode cc pc = .ok (.invokevirtual i, 3))
    (kk : ∀ (H1 : Heap) (locs1 : List Loc), va_P D vwCl W1 H1 → va_D A W1 → va_S A H0 H1 locs1 → W p l e R s m args below meth c H1 locs1 cells slots Q (F0 m (pc + 3) ls (ov.toList ++ rest))) (hR : fr + 1 ≤ R.frames ∧ 8 + (nM + 11) + lo ≤ R.locals := by exact ⟨Nat.le_of_ble_eq_true rfl, Nat.le_of_ble_eq_true rfl⟩) (hrm : (rest.map fun v => v.category).sum ≤ 8 := by exact Nat.le_of_ble_eq_true rfl) (hcs : cells ≤ R.cells ∧ slots ≤ R.slots := by exact ⟨Nat.zero_le _, Nat.zero_le _⟩) : W p l e R s m args below meth c H locs cells slots Q (F0 m pc ls (x2 :: x1 :: .ref b :: rest)) := r_cVW (As := [x1, x2]) C hq hM hR rfl hP hD hS isC W1 hnd hC hlen hW ha hc he hls hrm hd kk hcs
theorem r_cVR3 {x1 x2 x3 : Value} (C : Cx p s m args meth c cc nL own rt D k) (hq : CV own i Cn y cb nM rc 3) (hM : MR l y cb nM rc fr lo D k (.ref b :: [x1, x2, x3]) w v) (hPc : va_P D vwCl w H) (hc : vwCl[ci]? = some (Cn, T, N)) (he : w[0]? = some (b, .inr (ci, fs))) (hls : ls.size = nL) (hd : decode cc pc = .ok (.invokevirtual i, 3))
    (kk : W p l e R s m args below meth c H locs cells slots Q (F0 m (pc + 3) ls (v :: rest))) (hR : fr + 1 ≤ R.frames ∧ 8 + (nM + 11) + lo ≤ R.locals := by exact ⟨Nat.le_of_ble_eq_true rfl, Nat.le_of_ble_eq_true rfl⟩) (hrm : (rest.map fun v => v.category).sum ≤ 8 := by exact Nat.le_of_ble_eq_true rfl) (hcs : cells ≤ R.cells ∧ slots ≤ R.slots := by exact ⟨Nat.zero_le _, Nat.zero_le _⟩) : W p l e R s m args below meth c H locs cells slots Q (F0 m pc ls (x3 :: x2 :: x1 :: .ref b :: rest)) := r_cVR (As := [x1, x2, x3]) C hq hM hR rfl hPc hc he hls hrm hd kk hcs
theorem r_cSR3 {x1 x2 x3 : Value} (C : Cx p s m args meth c cc nL own rt D k) (hq : CS own i y cb nM rc 3) (hM : MR l y cb nM rc fr lo D k [x1, x2, x3] w v) (hPc : va_P D vwCl w H) (hls : ls.size = nL) (hd : decode cc pc = .ok (.invokestatic i, 3))
    (kk : W p l e R s m args below meth c H locs cells slots Q (F0 m (pc + 3) ls (v :: rest))) (hR : fr + 1 ≤ R.frames ∧ 8 + (nM + 11) + lo ≤ R.locals := by exact ⟨Nat.le_of_ble_eq_true rfl, Nat.le_of_ble_eq_true rfl⟩) (hrm : (rest.map fun v => v.category).sum ≤ 8 := by exact Nat.le_of_ble_eq_true rfl) (hcs : cells ≤ R.cells ∧ slots ≤ R.slots := by exact ⟨Nat.zero_le _, Nat.zero_le _⟩) : W p l e R s m args below meth c H locs cells slots Q (F0 m pc ls (x3 :: x2 :: x1 :: rest)) := r_cSR (As := [x1, x2, x3]) C hq hM hR rfl hPc hls hrm hd kk hcs
theorem r_cNR3 {x1 x2 x3 : Value} (C : Cx p s m args meth c cc nL own rt D k) (hq : CN own i y host cb nM rc 3) (hM : MR l y cb nM rc fr lo D k [x1, x2, x3] w v) (hPc : va_P D vwCl w H) (hls : ls.size = nL) (hd : decode cc pc = .ok (.invokestatic i, 3))
    (kk : W p l e R s m args below meth c H locs cells slots Q (F0 m (pc + 3) ls (v :: rest))) (hR : fr + 1 ≤ R.frames ∧ 8 + (nM + 11) + lo ≤ R.locals := by exact ⟨Nat.le_of_ble_eq_true rfl, Nat.le_of_ble_eq_true rfl⟩) (hrm : (rest.map fun v => v.category).sum ≤ 8 := by exact Nat.le_of_ble_eq_true rfl) (hcs : cells ≤ R.cells ∧ slots ≤ R.slots := by exact ⟨Nat.zero_le _, Nat.zero_le _⟩) : W p l e R s m args below meth c H locs cells slots Q (F0 m pc ls (x3 :: x2 :: x1 :: rest)) := r_cNR (As := [x1, x2, x3]) C hq hM hR rfl hPc hls hrm hd kk hcs
theorem r_cVW3 {x1 x2 x3 : Value} {W0 : va_W} (C : Cx p s m args meth c cc nL own rt D k) (hq : CV own i Cn y cb nM rc 3) (hM : MW l y cb nM rc fr lo D k (.ref b :: [x1, x2, x3]) w w' ov) (hP : va_P D vwCl W0 H) (hD : va_D A W0) (hS : va_S A H0 H locs) (isC : List Nat) (W1 : va_W) (hnd : va_nd isC = true) (hC : isC.map (fun i => W0[i]?) = w.map some) (hlen : isC.length = w'.length) (hW : putW W0 isC w' = W1) (ha : W1.map (·.1) = W0.map (·.1)) (hc : vwCl[ci]? = some (Cn, T, N)) (he : w[0]? = some (b, .inr (ci, fs))) (hls : ls.size = nL) (hd : decode cc pc = .ok (.invokevirtual i, 3))
    (kk : ∀ (H1 : Heap) (locs1 : List Loc), va_P D vwCl W1 H1 → va_D A W1 → va_S A H0 H1 locs1 → W p l e R s m args below meth c H1 locs1 cells slots Q (F0 m (pc + 3) ls (ov.toList ++ rest))) (hR : fr + 1 ≤ R.frames ∧ 8 + (nM + 11) + lo ≤ R.locals := by exact ⟨Nat.le_of_ble_eq_true rfl, Nat.le_of_ble_eq_true rfl⟩) (hrm : (rest.map fun v => v.category).sum ≤ 8 := by exact Nat.le_of_ble_eq_true rfl) (hcs : cells ≤ R.cells ∧ slots ≤ R.slots := by exact ⟨Nat.zero_le _, Nat.zero_le _⟩) : W p l e R s m args below meth c H locs cells slots Q (F0 m pc ls (x3 :: x2 :: x1 :: .ref b :: rest)) := r_cVW (As := [x1, x2, x3]) C hq hM hR rfl hP hD hS isC W1 hnd hC hlen hW ha hc he hls hrm hd kk hcs
theorem r_cVR4 {x1 x2 x3 x4 : Value} (C : Cx p s m args meth c cc nL own rt D k) (hq : CV own i Cn y cb nM rc 4) (hM : MR l y cb nM rc fr lo D k (.ref b :: [x1, x2, x3, x4]) w v) (hPc : va_P D vwCl w H) (hc : vwCl[ci]? = some (Cn, T, N)) (he : w[0]? = some (b, .inr (ci, fs))) (hls : ls.size = nL) (hd : decode cc pc = .ok (.invokevirtual i, 3))
    (kk : W p l e R s m args below meth c H locs cells slots Q (F0 m (pc + 3) ls (v :: rest))) (hR : fr + 1 ≤ R.frames ∧ 8 + (nM + 11) + lo ≤ R.locals := by exact ⟨Nat.le_of_ble_eq_true rfl, Nat.le_of_ble_eq_true rfl⟩) (hrm : (rest.map fun v => v.category).sum ≤ 8 := by exact Nat.le_of_ble_eq_true rfl) (hcs : cells ≤ R.cells ∧ slots ≤ R.slots := by exact ⟨Nat.zero_le _, Nat.zero_le _⟩) : W p l e R s m args below meth c H locs cells slots Q (F0 m pc ls (x4 :: x3 :: x2 :: x1 :: .ref b :: rest)) := r_cVR (As := [x1, x2, x3, x4]) C hq hM hR rfl hPc hc he hls hrm hd kk hcs
theorem r_cSR4 {x1 x2 x3 x4 : Value} (C : Cx p s m args meth c cc nL own rt D k) (hq : CS own i y cb nM rc 4) (hM : MR l y cb nM rc fr lo D k [x1, x2, x3, x4] w v) (hPc : va_P D vwCl w H) (hls : ls.size = nL) (hd : decode cc pc = .ok (.invokestatic i, 3))
    (kk : W p l e R s m args below meth c H locs cells slots Q (F0 m (pc + 3) ls (v :: rest))) (hR : fr + 1 ≤ R.frames ∧ 8 + (nM + 11) + lo ≤ R.locals := by exact ⟨Nat.le_of_ble_eq_true rfl, Nat.le_of_ble_eq_true rfl⟩) (hrm : (rest.map fun v => v.category).sum ≤ 8 := by exact Nat.le_of_ble_eq_true rfl) (hcs : cells ≤ R.cells ∧ slots ≤ R.slots := by exact ⟨Nat.zero_le _, Nat.zero_le _⟩) : W p l e R s m args below meth c H locs cells slots Q (F0 m pc ls (x4 :: x3 :: x2 :: x1 :: rest)) := r_cSR (As := [x1, x2, x3, x4]) C hq hM hR rfl hPc hls hrm hd kk hcs
theorem r_cNR4 {x1 x2 x3 x4 : Value} (C : Cx p s m args meth c cc nL own rt D k) (hq : CN own i y host cb nM rc 4) (hM : MR l y cb nM rc fr lo D k [x1, x2, x3, x4] w v) (hPc : va_P D vwCl w H) (hls : ls.size = nL) (hd : decode cc pc = .ok (.invokestatic i, 3))
    (kk : W p l e R s m args below meth c H locs cells slots Q (F0 m (pc + 3) ls (v :: rest))) (hR : fr + 1 ≤ R.frames ∧ 8 + (nM + 11) + lo ≤ R.locals := by exact ⟨Nat.le_of_ble_eq_true rfl, Nat.le_of_ble_eq_true rfl⟩) (hrm : (rest.map fun v => v.category).sum ≤ 8 := by exact Nat.le_of_ble_eq_true rfl) (hcs : cells ≤ R.cells ∧ slots ≤ R.slots := by exact ⟨Nat.zero_le _, Nat.zero_le _⟩) : W p l e R s m args below meth c H locs cells slots Q (F0 m pc ls (x4 :: x3 :: x2 :: x1 :: rest)) := r_cNR (As := [x1, x2, x3, x4]) C hq hM hR rfl hPc hls hrm hd kk hcs
theorem r_cVW4 {x1 x2 x3 x4 : Value} {W0 : va_W} (C : Cx p s m args meth c cc nL own rt D k) (hq : CV own i Cn y cb nM rc 4) (hM : MW l y cb nM rc fr lo D k (.ref b :: [x1, x2, x3, x4]) w w' ov) (hP : va_P D vwCl W0 H) (hD : va_D A W0) (hS : va_S A H0 H locs) (isC : List Nat) (W1 : va_W) (hnd : va_nd isC = true) (hC : isC.map (fun i => W0[i]?) = w.map some) (hlen : isC.length = w'.length) (hW : putW W0 isC w' = W1) (ha : W1.map (·.1) = W0.map (·.1)) (hc : vwCl[ci]? = some (Cn, T, N)) (he : w[0]? = some (b, .inr (ci, fs))) (hls : ls.size = nL) (hd : decode cc pc = .ok (.invokevirtual i, 3))
    (kk : ∀ (H1 : Heap) (locs1 : List Loc), va_P D vwCl W1 H1 → va_D A W1 → va_S A H0 H1 locs1 → W p l e R s m args below meth c H1 locs1 cells slots Q (F0 m (pc + 3) ls (ov.toList ++ rest))) (hR : fr + 1 ≤ R.frames ∧ 8 + (nM + 11) + lo ≤ R.locals := by exact ⟨Nat.le_of_ble_eq_true rfl, Nat.le_of_ble_eq_true rfl⟩) (hrm : (rest.map fun v => v.category).sum ≤ 8 := by exact Nat.le_of_ble_eq_true rfl) (hcs : cells ≤ R.cells ∧ slots ≤ R.slots := by exact ⟨Nat.zero_le _, Nat.zero_le _⟩) : W p l e R s m args below meth c H locs cells slots Q (F0 m pc ls (x4 :: x3 :: x2 :: x1 :: .ref b :: rest)) := r_cVW (As := [x1, x2, x3, x4]) C hq hM hR rfl hP hD hS isC W1 hnd hC hlen hW ha hc he hls hrm hd kk hcs
theorem r_cVR5 {x1 x2 x3 x4 x5 : Value} (C : Cx p s m args meth c cc nL own rt D k) (hq : CV own i Cn y cb nM rc 5) (hM : MR l y cb nM rc fr lo D k (.ref b :: [x1, x2, x3, x4, x5]) w v) (hPc : va_P D vwCl w H) (hc : vwCl[ci]? = some (Cn, T, N)) (he : w[0]? = some (b, .inr (ci, fs))) (hls : ls.size = nL) (hd : decode cc pc = .ok (.invokevirtual i, 3))
    (kk : W p l e R s m args below meth c H locs cells slots Q (F0 m (pc + 3) ls (v :: rest))) (hR : fr + 1 ≤ R.frames ∧ 8 + (nM + 11) + lo ≤ R.locals := by exact ⟨Nat.le_of_ble_eq_true rfl, Nat.le_of_ble_eq_true rfl⟩) (hrm : (rest.map fun v => v.category).sum ≤ 8 := by exact Nat.le_of_ble_eq_true rfl) (hcs : cells ≤ R.cells ∧ slots ≤ R.slots := by exact ⟨Nat.zero_le _, Nat.zero_le _⟩) : W p l e R s m args below meth c H locs cells slots Q (F0 m pc ls (x5 :: x4 :: x3 :: x2 :: x1 :: .ref b :: rest)) := r_cVR (As := [x1, x2, x3, x4, x5]) C hq hM hR rfl hPc hc he hls hrm hd kk hcs
theorem r_cSR5 {x1 x2 x3 x4 x5 : Value} (C : Cx p s m args meth c cc nL own rt D k) (hq : CS own i y cb nM rc 5) (hM : MR l y cb nM rc fr lo D k [x1, x2, x3, x4, x5] w v) (hPc : va_P D vwCl w H) (hls : ls.size = nL) (hd : decode cc pc = .ok (.invokestatic i, 3))
    (kk : W p l e R s m args below meth c H locs cells slots Q (F0 m (pc + 3) ls (v :: rest))) (hR : fr + 1 ≤ R.frames ∧ 8 + (nM + 11) + lo ≤ R.locals := by exact ⟨Nat.le_of_ble_eq_true rfl, Nat.le_of_ble_eq_true rfl⟩) (hrm : (rest.map fun v => v.category).sum ≤ 8 := by exact Nat.le_of_ble_eq_true rfl) (hcs : cells ≤ R.cells ∧ slots ≤ R.slots := by exact ⟨Nat.zero_le _, Nat.zero_le _⟩) : W p l e R s m args below meth c H locs cells slots Q (F0 m pc ls (x5 :: x4 :: x3 :: x2 :: x1 :: rest)) := r_cSR (As := [x1, x2, x3, x4, x5]) C hq hM hR rfl hPc hls hrm hd kk hcs
theorem r_cNR5 {x1 x2 x3 x4 x5 : Value} (C : Cx p s m args meth c cc nL own rt D k) (hq : CN own i y host cb nM rc 5) (hM : MR l y cb nM rc fr lo D k [x1, x2, x3, x4, x5] w v) (hPc : va_P D vwCl w H) (hls : ls.size = nL) (hd : decode cc pc = .ok (.invokestatic i, 3))
    (kk : W p l e R s m args below meth c H locs cells slots Q (F0 m (pc + 3) ls (v :: rest))) (hR : fr + 1 ≤ R.frames ∧ 8 + (nM + 11) + lo ≤ R.locals := by exact ⟨Nat.le_of_ble_eq_true rfl, Nat.le_of_ble_eq_true rfl⟩) (hrm : (rest.map fun v => v.category).sum ≤ 8 := by exact Nat.le_of_ble_eq_true rfl) (hcs : cells ≤ R.cells ∧ slots ≤ R.slots := by exact ⟨Nat.zero_le _, Nat.zero_le _⟩) : W p l e R s m args below meth c H locs cells slots Q (F0 m pc ls (x5 :: x4 :: x3 :: x2 :: x1 :: rest)) := r_cNR (As := [x1, x2, x3, x4, x5]) C hq hM hR rfl hPc hls hrm hd kk hcs
theorem r_cVW5 {x1 x2 x3 x4 x5 : Value} {W0 : va_W} (C : Cx p s m args meth c cc nL own rt D k) (hq : CV own i Cn y cb nM rc 5) (hM : MW l y cb nM rc fr lo D k (.ref b :: [x1, x2, x3, x4, x5]) w w' ov) (hP : va_P D vwCl W0 H) (hD : va_D A W0) (hS : va_S A H0 H locs) (isC : List Nat) (W1 : va_W) (hnd : va_nd isC = true) (hC : isC.map (fun i => W0[i]?) = w.map some) (hlen : isC.length = w'.length) (hW : putW W0 isC w' = W1) (ha : W1.map (·.1) = W0.map (·.1)) (hc : vwCl[ci]? = some (Cn, T, N)) (he : w[0]? = some (b, .inr (ci, fs))) (hls : ls.size = nL) (hd : decode cc pc = .ok (.invokevirtual i, 3))
    (kk : ∀ (H1 : Heap) (locs1 : List Loc), va_P D vwCl W1 H1 → va_D A W1 → va_S A H0 H1 locs1 → W p l e R s m args below meth c H1 locs1 cells slots Q (F0 m (pc + 3) ls (ov.toList ++ rest))) (hR : fr + 1 ≤ R.frames ∧ 8 + (nM + 11) + lo ≤ R.locals := by exact ⟨Nat.le_of_ble_eq_true rfl, Nat.le_of_ble_eq_true rfl⟩) (hrm : (rest.map fun v => v.category).sum ≤ 8 := by exact Nat.le_of_ble_eq_true rfl) (hcs : cells ≤ R.cells ∧ slots ≤ R.slots := by exact ⟨Nat.zero_le _, Nat.zero_le _⟩) : W p l e R s m args below meth c H locs cells slots Q (F0 m pc ls (x5 :: x4 :: x3 :: x2 :: x1 :: .ref b :: rest)) := r_cVW (As := [x1, x2, x3, x4, x5]) C hq hM hR rfl hP hD hS isC W1 hnd hC hlen hW ha hc he hls hrm hd kk hcs
end CALLS
