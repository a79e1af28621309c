section LOOPX
variable {p : Program} {l : Launch} {e : Env} {R : Room} {s : State} {m : MethodId} {args : Array Value} {below : List Frame} {meth : Method} {c : Code} {H : Heap} {locs : List Loc} {cells slots : Nat} {Q : State → Prop}
variable {nL : Nat} {D : va_G} {pc : Nat} {ls : Array Slot} {A : Nat → Prop} {H0 : Heap}
theorem r_loopWX {X : Type} (I : Nat → List (Nat × Value)) (Wd : Nat → X → va_W) (N : Nat) (J : Nat → Prop) (j0 : J 0) (x0 : X) (h0 : lv_has ls nL (I 0)) (hP : va_P D vwCl (Wd 0 x0) H) (hD : va_D A (Wd 0 x0)) (hS : va_S A H0 H locs)
    (step : ∀ n : Nat, n < N → (J (n + 1) → ∀ (x : X) (ls : Array Slot) (H : Heap) (locs : List Loc), lv_has ls nL (I (n + 1)) → va_P D vwCl (Wd (n + 1) x) H → va_D A (Wd (n + 1) x) → va_S A H0 H locs → W p l e R s m args below meth c H locs cells slots Q (F0 m pc ls [])) → J n → ∀ (x : X) (ls : Array Slot) (H : Heap) (locs : List Loc), lv_has ls nL (I n) → va_P D vwCl (Wd n x) H → va_D A (Wd n x) → va_S A H0 H locs → W p l e R s m args below meth c H locs cells slots Q (F0 m pc ls []))
    (out : J N → ∀ (x : X) (ls : Array Slot) (H : Heap) (locs : List Loc), lv_has ls nL (I N) → va_P D vwCl (Wd N x) H → va_D A (Wd N x) → va_S A H0 H locs → W p l e R s m args below meth c H locs cells slots Q (F0 m pc ls [])) : W p l e R s m args below meth c H locs cells slots Q (F0 m pc ls []) := by
  have key : ∀ j n : Nat, n + j = N → J n → ∀ (x : X) (ls : Array Slot) (H : Heap) (locs : List Loc), lv_has ls nL (I n) → va_P D vwCl (Wd n x) H → va_D A (Wd n x) → va_S A H0 H locs → W p l e R s m args below meth c H locs cells slots Q (F0 m pc ls []) := by
    intro j
    induction j with
    | zero => intro n hn hj x ls H locs hl hP hD hS; rw [Nat.add_zero] at hn; subst hn; exact out hj x ls H locs hl hP hD hS
    | succ j ih => intro n hn hj x ls H locs hl hP hD hS; exact step n (by omega) (fun hj x ls H locs hl hP hD hS => ih (n + 1) (by omega) hj x ls H locs hl hP hD hS) hj x ls H locs hl hP hD hS
  exact key N 0 (Nat.zero_add N) j0 x0 ls H locs h0 hP hD hS
end LOOPX
section CALLE
variable {p : Program} {l : Launch} {e : Env} {R : Room} {s : State} {m : MethodId} {args : Array Value} {below : List Frame} {meth : Method} {c : Code} {H : Heap} {locs : List Loc} {cells slots : Nat} {Q : State → Prop}
variable {cc : ByteArray} {nL : Nat} {own : String} {rt : Option FieldType} {D : va_G} {k : Nat → ClassId} {pc : Nat} {ls : Array Slot} {rest : List Value} {w : va_W} {A : Nat → Prop} {H0 : Heap} {X : Type} {w' : X → va_W}
variable {y : MethodName} {cb : ByteArray} {nM : Nat} {rc : Option FieldType} {fr lo i n : Nat} {As : List Value} {ov : Option Value} {b ci N : Nat} {Cn : String} {T : u_T} {fs : List Value}
theorem W.callQE {g : JFrame} {a : Array Value} {W0 : va_W} (hr : CallRun p l e R s m args below meth c H locs cells slots 0 0 g rest (qE D w w' ov a) (Ad w)) (hP : va_P D vwCl W0 H) (hD : va_D A W0) (hS : va_S A H0 H locs) (isC : List Nat) (W1 : X → va_W) (hC : isC.map (fun i => W0[i]?) = w.map some) (hlen : ∀ x, isC.length = (w' x).length) (hW : ∀ x, putW W0 isC (w' x) = W1 x) (ha : ∀ x, (W1 x).map (·.1) = W0.map (·.1))
    (kk : ∀ (x : X) (H1 : Heap) (locs1 : List Loc), va_P D vwCl (W1 x) H1 → va_D A (W1 x) → va_S A H0 H1 locs1 → W p l e R s m args below meth c H1 locs1 cells slots Q { g with pc := g.pc + 3, stack := ov.toList ++ rest }) : W p l e R s m args below meth c H locs cells slots Q g := by
  intro U hU X9
  obtain ⟨v', st₀, t, T', L, h0, X', hL, e1, ⟨hv, ⟨x, hp⟩, hz, hk⟩, st⟩ := hr U hU X9
  cases hv
  rw [h0] at hz hk
  have at' : ∀ (j : Nat) (q : Nat × va_E), w[j]? = some q → ∃ i, isC[j]? = some i ∧ W0[i]? = some q := by
    intro j q hq
    have h1 : (isC.map (fun i => W0[i]?))[j]? = some (some q) := by rw [hC, List.getElem?_map, hq]; rfl
    rw [List.getElem?_map] at h1
    cases hi : isC[j]? with
    | none => rw [hi] at h1; cases h1
    | some i => rw [hi] at h1; exact ⟨i, rfl, Option.some.inj h1⟩
  have hAd : ∀ q, Ad w q → A q := by
    rintro q ⟨j, x, hj⟩
    obtain ⟨i, -, h2⟩ := at' j _ hj
    exact hD.2 i _ h2
  have hP1 : va_P D vwCl (W1 x) t.heap := by
    intro j q hq
    rw [← hW x] at hq
    rcases putW_mem isC (w' x) W0 (hlen x) j q hq with ⟨i, hi⟩ | ⟨h1, h2⟩
    · exact hp i q hi
    · refine (hP j q h1).kept (hk q.1 (hP j q h1).lt (fun hq' => ?_))
      obtain ⟨i, x, hx⟩ := hq'
      obtain ⟨i', h3, h4⟩ := at' i _ hx
      have := hD.1 j i' q _ h1 h4 rfl
      subst this
      exact h2 (List.mem_of_getElem? h3)
  obtain ⟨t2, a1, b1⟩ := kk x t.heap (locs ++ L) hP1 (hD.same (ha x))
    ⟨Nat.le_trans hS.1 hz, fun q h1 h2 => by rw [hk q (Nat.lt_of_lt_of_le h1 hS.1) (fun z => h2 (hAd q z))]; exact hS.2.1 q h1 h2, fun q hq => by
      rcases List.mem_append.mp hq with h | h
      · exact hS.2.2 q h
      · exact hAd _ (hL q h)⟩ T' e1 X'
  exact ⟨t2, st t2 a1, b1⟩
theorem r_cVE {W0 : va_W} (C : Cx p s m args meth c cc nL own rt D k) (hq : CV own i Cn y cb nM rc n) (hM : ME l y cb nM rc fr lo D k (.ref b :: As) w w' ov) (hR : fr + 1 ≤ R.frames ∧ 8 + (nM + 11) + lo ≤ R.locals) (hn : As.length = n) (hP : va_P D vwCl W0 H) (hD : va_D A W0) (hS : va_S A H0 H locs) (isC : List Nat) (W1 : X → va_W) (hnd : va_nd isC = true) (hC : isC.map (fun i => W0[i]?) = w.map some) (hlen : ∀ x, isC.length = (w' x).length) (hW : ∀ x, putW W0 isC (w' x) = W1 x) (ha : ∀ x, (W1 x).map (·.1) = W0.map (·.1)) (hc : vwCl[ci]? = some (Cn, T, N)) (he : w[0]? = some (b, .inr (ci, fs))) (hls : ls.size = nL) (hrm : (rest.map fun v => v.category).sum ≤ 8) (hd : decode cc pc = .ok (.invokevirtual i, 3))
    (kk : ∀ (x : X) (H1 : Heap) (locs1 : List Loc), va_P D vwCl (W1 x) H1 → va_D A (W1 x) → va_S A H0 H1 locs1 → W p l e R s m args below meth c H1 locs1 cells slots Q (F0 m (pc + 3) ls (ov.toList ++ rest))) (hcs : cells ≤ R.cells ∧ slots ≤ R.slots) : W p l e R s m args below meth c H locs cells slots Q (F0 m pc ls (As.reverse ++ .ref b :: rest)) := by
  have hDc : va_D (fun _ => True) w := (hD.sub isC hnd hC).weaken (fun _ _ _ _ => trivial)
  have hPc : va_P D vwCl w H := by
    intro j q hq
    have h1 : (isC.map (fun i => W0[i]?))[j]? = some (some q) := by rw [hC, List.getElem?_map, hq]; rfl
    rw [List.getElem?_map] at h1
    cases hi : isC[j]? with
    | none => rw [hi] at h1; cases h1
    | some i => rw [hi] at h1; exact hP i q (Option.some.inj h1)
  exact W.callQE (W.runV (As := As) (rest := rest) C.1 hM (c_cw C hq hR) ⟨(pre_W (As' := .ref b :: As) C.2.1 hPc hDc).1, va_recv C.2.1.1 hPc hc he, (pre_W (As' := .ref b :: As) C.2.1 hPc hDc).2⟩ rfl hn hls rfl (lv_room hrm) hd hcs) hP hD hS isC W1 hC hlen hW ha kk
theorem r_cVE0  {W0 : va_W} (C : Cx p s m args meth c cc nL own rt D k) (hq : CV own i Cn y cb nM rc 0) (hM : ME l y cb nM rc fr lo D k (.ref b :: []) w w' ov) (hP : va_P D vwCl W0 H) (hD : va_D A W0) (hS : va_S A H0 H locs) (isC : List Nat) (W1 : X → va_W) (hnd : va_nd isC = true) (hC : isC.map (fun i => W0[i]?) = w.map some) (hlen : ∀ x, isC.length = (w' x).length) (hW : ∀ x, putW W0 isC (w' x) = W1 x) (ha : ∀ x, (W1 x).map (·.1) = W0.map (·.1)) (hc : vwCl[ci]? = some (Cn, T, N)) (he : w[0]? = some (b, .inr (ci, fs))) (hls : ls.size = nL) (hd : decode cc pc = .ok (.invokevirtual i, 3))
    (kk : ∀ (x : X) (H1 : Heap) (locs1 : List Loc), va_P D vwCl (W1 x) H1 → va_D A (W1 x) → va_S A H0 H1 locs1 → W p l e R s m args below meth c H1 locs1 cells slots Q (F0 m (pc + 3) ls (ov.toList ++ rest))) (hR : fr + 1 ≤ R.frames ∧ 8 + (nM + 11) + lo ≤ R.locals := by exact ⟨Nat.le_of_ble_eq_true rfl, Nat.le_of_ble_eq_true rfl⟩) (hrm : (rest.map fun v => v.category).sum ≤ 8 := by exact Nat.le_of_ble_eq_true rfl) (hcs : cells ≤ R.cells ∧ slots ≤ R.slots := by exact ⟨Nat.zero_le _, Nat.zero_le _⟩) : W p l e R s m args below meth c H locs cells slots Q (F0 m pc ls (.ref b :: rest)) := r_cVE (As := []) C hq hM hR rfl hP hD hS isC W1 hnd hC hlen hW ha hc he hls hrm hd kk hcs
theorem r_cVE1 {x1 : Value} {W0 : va_W} (C : Cx p s m args meth c cc nL own rt D k) (hq : CV own i Cn y cb nM rc 1) (hM : ME l y cb nM rc fr lo D k (.ref b :: [x1]) w w' ov) (hP : va_P D vwCl W0 H) (hD : va_D A W0) (hS : va_S A H0 H locs) (isC : List Nat) (W1 : X → va_W) (hnd : va_nd isC = true) (hC : isC.map (fun i => W0[i]?) = w.map some) (hlen : ∀ x, isC.length = (w' x).length) (hW : ∀ x, putW W0 isC (w' x) = W1 x) (ha : ∀ x, (W1 x).map (·.1) = W0.map (·.1)) (hc : vwCl[ci]? = some (Cn, T, N)) (he : w[0]? = some (b, .inr (ci, fs))) (hls : ls.size = nL) (hd : decode cc pc = .ok (.invokevirtual i, 3))
    (kk : ∀ (x : X) (H1 : Heap) (locs1 : List Loc), va_P D vwCl (W1 x) H1 → va_D A (W1 x) → va_S A H0 H1 locs1 → W p l e R s m args below meth c H1 locs1 cells slots Q (F0 m (pc + 3) ls (ov.toList ++ rest))) (hR : fr + 1 ≤ R.frames ∧ 8 + (nM + 11) + lo ≤ R.locals := by exact ⟨Nat.le_of_ble_eq_true rfl, Nat.le_of_ble_eq_true rfl⟩) (hrm : (rest.map fun v => v.category).sum ≤ 8 := by exact Nat.le_of_ble_eq_true rfl) (hcs : cells ≤ R.cells ∧ slots ≤ R.slots := by exact ⟨Nat.zero_le _, Nat.zero_le _⟩) : W p l e R s m args below meth c H locs cells slots Q (F0 m pc ls (x1 :: .ref b :: rest)) := r_cVE (As := [x1]) C hq hM hR rfl hP hD hS isC W1 hnd hC hlen hW ha hc he hls hrm hd kk hcs
theorem r_cVE2 {x1 x2 : Value} {W0 : va_W} (C : Cx p s m args meth c cc nL own rt D k) (hq : CV own i Cn y cb nM rc 2) (hM : ME l y cb nM rc fr lo D k (.ref b :: [x1, x2]) w w' ov) (hP : va_P D vwCl W0 H) (hD : va_D A W0) (hS : va_S A H0 H locs) (isC : List Nat) (W1 : X → va_W) (hnd : va_nd isC = true) (hC : isC.map (fun i => W0[i]?) = w.map some) (hlen : ∀ x, isC.length = (w' x).length) (hW : ∀ x, putW W0 isC (w' x) = W1 x) (ha : ∀ x, (W1 x).map (·.1) = W0.map (·.1)) (hc : vwCl[ci]? = some (Cn, T, N)) (he : w[0]? = some (b, .inr (ci, fs))) (hls : ls.size = nL) (hd : decode cc pc = .ok (.invokevirtual i, 3))
    (kk : ∀ (x : X) (H1 : Heap) (locs1 : List Loc), va_P D vwCl (W1 x) H1 → va_D A (W1 x) → va_S A H0 H1 locs1 → W p l e R s m args below meth c H1 locs1 cells slots Q (F0 m (pc + 3) ls (ov.toList ++ rest))) (hR : fr + 1 ≤ R.frames ∧ 8 + (nM + 11) + lo ≤ R.locals := by exact ⟨Nat.le_of_ble_eq_true rfl, Nat.le_of_ble_eq_true rfl⟩) (hrm : (rest.map fun v => v.category).sum ≤ 8 := by exact Nat.le_of_ble_eq_true rfl) (hcs : cells ≤ R.cells ∧ slots ≤ R.slots := by exact ⟨Nat.zero_le _, Nat.zero_le _⟩) : W p l e R s m args below meth c H locs cells slots Q (F0 m pc ls (x2 :: x1 :: .ref b :: rest)) := r_cVE (As := [x1, x2]) C hq hM hR rfl hP hD hS isC W1 hnd hC hlen hW ha hc he hls hrm hd kk hcs
theorem r_cVE3 {x1 x2 x3 : Value} {W0 : va_W} (C : Cx p s m args meth c cc nL own rt D k) (hq : CV own i Cn y cb nM rc 3) (hM : ME l y cb nM rc fr lo D k (.ref b :: [x1, x2, x3]) w w' ov) (hP : va_P D vwCl W0 H) (hD : va_D A W0) (hS : va_S A H0 H locs) (isC : List Nat) (W1 : X → va_W) (hnd : va_nd isC = true) (hC : isC.map (fun i => W0[i]?) = w.map some) (hlen : ∀ x, isC.length = (w' x).length) (hW : ∀ x, putW W0 isC (w' x) = W1 x) (ha : ∀ x, (W1 x).map (·.1) = W0.map (·.1)) (hc : vwCl[ci]? = some (Cn, T, N)) (he : w[0]? = some (b, .inr (ci, fs))) (hls : ls.size = nL) (hd : decode cc pc = .ok (.invokevirtual i, 3))
    (kk : ∀ (x : X) (H1 : Heap) (locs1 : List Loc), va_P D vwCl (W1 x) H1 → va_D A (W1 x) → va_S A H0 H1 locs1 → W p l e R s m args below meth c H1 locs1 cells slots Q (F0 m (pc + 3) ls (ov.toList ++ rest))) (hR : fr + 1 ≤ R.frames ∧ 8 + (nM + 11) + lo ≤ R.locals := by exact ⟨Nat.le_of_ble_eq_true rfl, Nat.le_of_ble_eq_true rfl⟩) (hrm : (rest.map fun v => v.category).sum ≤ 8 := by exact Nat.le_of_ble_eq_true rfl) (hcs : cells ≤ R.cells ∧ slots ≤ R.slots := by exact ⟨Nat.zero_le _, Nat.zero_le _⟩) : W p l e R s m args below meth c H locs cells slots Q (F0 m pc ls (x3 :: x2 :: x1 :: .ref b :: rest)) := r_cVE (As := [x1, x2, x3]) C hq hM hR rfl hP hD hS isC W1 hnd hC hlen hW ha hc he hls hrm hd kk hcs
theorem r_cVE4 {x1 x2 x3 x4 : Value} {W0 : va_W} (C : Cx p s m args meth c cc nL own rt D k) (hq : CV own i Cn y cb nM rc 4) (hM : ME l y cb nM rc fr lo D k (.ref b :: [x1, x2, x3, x4]) w w' ov) (hP : va_P D vwCl W0 H) (hD : va_D A W0) (hS : va_S A H0 H locs) (isC : List Nat) (W1 : X → va_W) (hnd : va_nd isC = true) (hC : isC.map (fun i => W0[i]?) = w.map some) (hlen : ∀ x, isC.length = (w' x).length) (hW : ∀ x, putW W0 isC (w' x) = W1 x) (ha : ∀ x, (W1 x).map (·.1) = W0.map (·.1)) (hc : vwCl[ci]? = some (Cn, T, N)) (he : w[0]? = some (b, .inr (ci, fs))) (hls : ls.size = nL) (hd : decode cc pc = .ok (.invokevirtual i, 3))
    (kk : ∀ (x : X) (H1 : Heap) (locs1 : List Loc), va_P D vwCl (W1 x) H1 → va_D A (W1 x) → va_S A H0 H1 locs1 → W p l e R s m args below meth c H1 locs1 cells slots Q (F0 m (pc + 3) ls (ov.toList ++ rest))) (hR : fr + 1 ≤ R.frames ∧ 8 + (nM + 11) + lo ≤ R.locals := by exact ⟨Nat.le_of_ble_eq_true rfl, Nat.le_of_ble_eq_true rfl⟩) (hrm : (rest.map fun v => v.category).sum ≤ 8 := by exact Nat.le_of_ble_eq_true rfl) (hcs : cells ≤ R.cells ∧ slots ≤ R.slots := by exact ⟨Nat.zero_le _, Nat.zero_le _⟩) : W p l e R s m args below meth c H locs cells slots Q (F0 m pc ls (x4 :: x3 :: x2 :: x1 :: .ref b :: rest)) := r_cVE (As := [x1, x2, x3, x4]) C hq hM hR rfl hP hD hS isC W1 hnd hC hlen hW ha hc he hls hrm hd kk hcs
theorem r_cVE5 {x1 x2 x3 x4 x5 : Value} {W0 : va_W} (C : Cx p s m args meth c cc nL own rt D k) (hq : CV own i Cn y cb nM rc 5) (hM : ME l y cb nM rc fr lo D k (.ref b :: [x1, x2, x3, x4, x5]) w w' ov) (hP : va_P D vwCl W0 H) (hD : va_D A W0) (hS : va_S A H0 H locs) (isC : List Nat) (W1 : X → va_W) (hnd : va_nd isC = true) (hC : isC.map (fun i => W0[i]?) = w.map some) (hlen : ∀ x, isC.length = (w' x).length) (hW : ∀ x, putW W0 isC (w' x) = W1 x) (ha : ∀ x, (W1 x).map (·.1) = W0.map (·.1)) (hc : vwCl[ci]? = some (Cn, T, N)) (he : w[0]? = some (b, .inr (ci, fs))) (hls : ls.size = nL) (hd : decode cc pc = .ok (.invokevirtual i, 3))
    (kk : ∀ (x : X) (H1 : Heap) (locs1 : List Loc), va_P D vwCl (W1 x) H1 → va_D A (W1 x) → va_S A H0 H1 locs1 → W p l e R s m args below meth c H1 locs1 cells slots Q (F0 m (pc + 3) ls (ov.toList ++ rest))) (hR : fr + 1 ≤ R.frames ∧ 8 + (nM + 11) + lo ≤ R.locals := by exact ⟨Nat.le_of_ble_eq_true rfl, Nat.le_of_ble_eq_true rfl⟩) (hrm : (rest.map fun v => v.category).sum ≤ 8 := by exact Nat.le_of_ble_eq_true rfl) (hcs : cells ≤ R.cells ∧ slots ≤ R.slots := by exact ⟨Nat.zero_le _, Nat.zero_le _⟩) : W p l e R s m args below meth c H locs cells slots Q (F0 m pc ls (x5 :: x4 :: x3 :: x2 :: x1 :: .ref b :: rest)) := r_cVE (As := [x1, x2, x3, x4, x5]) C hq hM hR rfl hP hD hS isC W1 hnd hC hlen hW ha hc he hls hrm hd kk hcs
end CALLE
def ft2 (t : Int → Int) (m a : Int) (b0 : Int × Int) : Nat → Int × Int
  | 0 => b0
  | n + 1 => if untrue t n then (if wrongMany (mends t m n) < (ft2 t m a b0 n).2 then (100 * a + n, wrongMany (mends t m n)) else ft2 t m a b0 n) else ft2 t m a b0 n
def ft1 (s : Int → Int) (m : Int) : Nat → Int × Int
  | 0 => (-1, 49)
  | n + 1 => if untrue s n then ft2 (mends s m n) m n (ft1 s m n) 48 else ft1 s m n
theorem ft2_rg (t : Int → Int) (m a : Int) (b0 : Int × Int) (h : 0 ≤ b0.2 ∧ b0.2 ≤ 49) (h1 : -1 ≤ b0.1 ∧ b0.1 < 4800) (ha : 0 ≤ a ∧ a < 48) : ∀ n : Nat, n ≤ 48 → (0 ≤ (ft2 t m a b0 n).2 ∧ (ft2 t m a b0 n).2 ≤ 49) ∧ -1 ≤ (ft2 t m a b0 n).1 ∧ (ft2 t m a b0 n).1 < 4800
  | 0, _ => ⟨h, h1⟩
  | n + 1, hn => by
    have ih := ft2_rg t m a b0 h h1 ha n (by omega)
    have h2 := wrongMany_rg (mends t m n)
    rw [ft2]
    split
    · split
      · exact ⟨⟨by dsimp only; omega, by dsimp only; omega⟩, by dsimp only; omega, by dsimp only; omega⟩
      · exact ih
    · exact ih
theorem ft1_rg (s : Int → Int) (m : Int) : ∀ n : Nat, n ≤ 48 → (0 ≤ (ft1 s m n).2 ∧ (ft1 s m n).2 ≤ 49) ∧ -1 ≤ (ft1 s m n).1 ∧ (ft1 s m n).1 < 4800
  | 0, _ => by rw [ft1]; exact ⟨⟨by decide, by decide⟩, by decide, by decide⟩
  | n + 1, hn => by
    have ih := ft1_rg s m n (by omega)
    rw [ft1]
    split
    · exact ft2_rg _ _ _ _ ih.1 ih.2 ⟨by omega, by omega⟩ 48 (Nat.le_refl 48)
    · exact ih
def fTwo (s st : Int → Int) (m : Int) : Tr := if 0 ≤ m ∧ m ≤ s 0 - 1 then (if (ft1 s m 48).1 < 0 then fD s st (-1000000004) else fV s st (ft1 s m 48).1) else fD s st (-1000000001)
def fLeft (s st : Int → Int) (m : Int) : Tr := if 0 ≤ m ∧ m ≤ s 0 - 1 then (if (ft1 s m 48).1 < 0 then fD s st (-1000000004) else fV s st (ft1 s m 48).2) else fD s st (-1000000001)
theorem upup {α : Type} (s : Int → α) (z : Int) (a b : α) : up (up s z a) z b = up s z b := by
  funext i
  unfold up
  split <;> rfl
theorem up_self {α : Type} (s : Int → α) (z : Int) : up s z (s z) = s := by
  funext i
  unfold up
  split
  · next h => rw [h]
  · rfl
def kdV (v : Int) : Nat → Int
  | 0 => v
  | n + 1 => n
def kdN (s : Int → Int) (m y : Int) : Nat → Int × Int
  | 0 => (0, 49)
  | n + 1 => if wrongMany (ysN (up s (99 + 4 * m + 0) n) (-1) y.toNat) < (kdN s m y n).2 then ((n : Int), wrongMany (ysN (up s (99 + 4 * m + 0) n) (-1) y.toNat)) else kdN s m y n
theorem kdN_rg (s : Int → Int) (m y : Int) : ∀ n : Nat, n ≤ 6 → (0 ≤ (kdN s m y n).1 ∧ (kdN s m y n).1 < 6) ∧ 0 ≤ (kdN s m y n).2 ∧ (kdN s m y n).2 ≤ 49
  | 0, _ => by rw [kdN]; exact ⟨⟨by decide, by decide⟩, by decide, by decide⟩
  | n + 1, h => by
    have ih := kdN_rg s m y n (by omega)
    have h1 := wrongMany_rg (ysN (up s (99 + 4 * m + 0) n) (-1) y.toNat)
    rw [kdN]
    split
    · exact ⟨⟨by dsimp only; omega, by dsimp only; omega⟩, h1.1, by dsimp only; omega⟩
    · exact ih
def fKind (s st : Int → Int) (m y : Int) : Tr := if 0 ≤ m ∧ m ≤ s 0 - 1 then (if 0 ≤ y ∧ y ≤ 60 then fV s st (kdN s m y 6).1 else fD s st (-1000000001)) else fD s st (-1000000001)
abbrev puW (s : Int → Int) (m y : Int) (v : Int) : Int := wrongMany (ysN (up s (99 + 4 * m + 2) v) (-1) y.toNat)
def fPurse (s st : Int → Int) (m y : Int) : Tr := if 0 ≤ m ∧ m ≤ s 0 - 1 then (if 0 ≤ y ∧ y ≤ 20 then fV s st (fst0 (fun v => puW s m y v ≤ puW s m y 255) 255) else fD s st (-1000000001)) else fD s st (-1000000001)
def ndN (s : Int → Int) (y : Int) : Nat → Int × Int
  | 0 => (-1, -1)
  | n + 1 => if wrongMany (ysN s n y.toNat) ≤ (ndN s y n).2 then ndN s y n else ((n : Int), wrongMany (ysN s n y.toNat))
theorem ndN_rg (s : Int → Int) (y : Int) : ∀ n : Nat, n ≤ 6 → (-1 ≤ (ndN s y n).1 ∧ (ndN s y n).1 < 6) ∧ -1 ≤ (ndN s y n).2 ∧ (ndN s y n).2 ≤ 48
  | 0, _ => by rw [ndN]; exact ⟨⟨by decide, by decide⟩, by decide, by decide⟩
  | n + 1, h => by
    have ih := ndN_rg s y n (by omega)
    have h1 := wrongMany_rg (ysN s n y.toNat)
    rw [ndN]
    split
    · exact ih
    · exact ⟨⟨by dsimp only; omega, by dsimp only; omega⟩, by dsimp only; omega, h1.2⟩
def fNeed (s st : Int → Int) (y : Int) : Tr := if 0 ≤ y ∧ y ≤ 60 then (if (ndN s y (s 0).toNat).1 < 0 then fD s st (-1000000004) else fV s st (ndN s y (s 0).toNat).1) else fD s st (-1000000001)
