/-! the law: two worlds side by side -/
theorem Ad_same {w w1 : va_W} (h : w1.map (·.1) = w.map (·.1)) {q : Nat} (hq : Ad w1 q) : Ad w q := by
  obtain ⟨i, e, hi⟩ := hq
  have h1 : (w1.map (·.1))[i]? = some q := by rw [List.getElem?_map, hi]; rfl
  rw [h, List.getElem?_map] at h1
  cases h2 : w[i]? with
  | none => rw [h2] at h1; cases h1
  | some x =>
    rw [h2] at h1
    have h3 : x.1 = q := Option.some.inj h1
    subst h3
    exact ⟨i, x.2, h2⟩
def ap_W (w w2 : va_W) : Prop := ∀ q, Ad w q → Ad w2 q → False
theorem ap_W.sy {w w2 : va_W} (h : ap_W w w2) : ap_W w2 w := fun q h1 h2 => h q h2 h1
section LAWR
variable {p : Program} {l : Launch} {e : Env} {R : Room} {s : State} {m : MethodId} {args : Array Value} {below : List Frame} {meth : Method} {c : Code} {H : Heap} {locs : List Loc} {cells slots : Nat} {Q : State → Prop}
variable {cc : ByteArray} {nL : Nat} {own : String} {rt : Option FieldType} {D : va_G} {k : Nat → ClassId} {pc : Nat} {ls : Array Slot} {rest : List Value} {w w2 : va_W} {A : Nat → Prop} {H0 : Heap} {Z : SZ}
variable {y : MethodName} {cb : ByteArray} {nM : Nat} {rc : Option FieldType} {fr lo i n : Nat} {As : List Value} {v : Value} {ov : Option Value} {b ci N : Nat} {Cn : String} {T : u_T} {fs : List Value} {X : Type} {w1 : X → va_W}
theorem W.callQEL {g : JFrame} {a : Array Value} (hr : CallRun p l e R s m args below meth c H locs cells slots 0 0 g rest (qE D w w1 ov a) (Ad w)) (hP2 : va_P D vwCl w2 H) (hD : va_D A w) (hap : ap_W w w2) (hS : va_S A H0 H locs) (ha : ∀ x, (w1 x).map (·.1) = w.map (·.1))
    (kk : ∀ (x : X) (H1 : Heap) (locs1 : List Loc), va_P D vwCl (w1 x) H1 → va_P D vwCl w2 H1 → va_D A (w1 x) → ap_W (w1 x) w2 → va_S A H0 H1 locs1 → W p l e R s m args below meth c H1 locs1 cells slots Q { g with pc := g.pc + 3, stack := ov.toList ++ rest }) : W p l e R s m args below meth c H locs cells slots Q g := by
  intro U hU X9
  obtain ⟨v', st₀, t, T', L, h0, X', hL, e1, ⟨hv, ⟨x, hp⟩, hz, hk⟩, st⟩ := hr U hU X9
  cases hv
  rw [h0] at hz hk
  have hAd : ∀ q, Ad w q → A q := by
    rintro q ⟨j, x, hj⟩
    exact hD.2 j _ hj
  have hP3 : va_P D vwCl w2 t.heap := fun j q hq => (hP2 j q hq).kept (hk q.1 (hP2 j q hq).lt (fun z => hap q.1 z ⟨j, q.2, hq⟩))
  obtain ⟨t2, a1, b1⟩ := kk x t.heap (locs ++ L) hp hP3 (hD.same (ha x)) (fun q h1 h2 => hap q (Ad_same (ha x) h1) h2)
    ⟨Nat.le_trans hS.1 hz, fun q h1 h2 => by rw [hk q (Nat.lt_of_lt_of_le h1 hS.1) (fun z => h2 (hAd q z))]; exact hS.2.1 q h1 h2, fun q hq => by
      rcases List.mem_append.mp hq with h | h
      · exact hS.2.2 q h
      · exact hAd _ (hL q h)⟩ T' e1 X'
  exact ⟨t2, st t2 a1, b1⟩
theorem r_lc (C : Cx p s m args meth c cc nL own rt D k) (hq : CV own i Cn y cb nM rc n) (hM : ME l y cb nM rc fr lo D k (.ref b :: As) w w1 (some v)) (hn : As.length = n) (hP : va_P D vwCl w H) (hP2 : va_P D vwCl w2 H) (hD : va_D A w) (hap : ap_W w w2) (hS : va_S A H0 H locs) (ha : ∀ x, (w1 x).map (·.1) = w.map (·.1)) (hc : vwCl[ci]? = some (Cn, T, N)) (he : w[0]? = some (b, .inr (ci, fs))) (hls : ls.size = nL) (hd : decode cc pc = .ok (.invokevirtual i, 3))
    (kk : ∀ (x : X) (H1 : Heap) (locs1 : List Loc), va_P D vwCl (w1 x) H1 → va_P D vwCl w2 H1 → va_D A (w1 x) → ap_W (w1 x) w2 → va_S A H0 H1 locs1 → W p l e R s m args below meth c H1 locs1 cells slots Q (F0 m (pc + 3) ls (v :: rest))) (hR : fr + 1 ≤ R.frames ∧ 8 + (nM + 11) + lo ≤ R.locals) (hrm : (rest.map fun v => v.category).sum ≤ 8) (hcs : cells ≤ R.cells ∧ slots ≤ R.slots) : W p l e R s m args below meth c H locs cells slots Q (F0 m pc ls (As.reverse ++ .ref b :: rest)) := by
  have hDc : va_D (fun _ => True) w := hD.weaken (fun _ _ _ _ => trivial)
  exact W.callQEL (W.runV (As := As) (rest := rest) C.1 hM (c_cw C hq hR) ⟨(pre_W (As' := .ref b :: As) C.2.1 hP hDc).1, va_recv C.2.1.1 hP hc he, (pre_W (As' := .ref b :: As) C.2.1 hP hDc).2⟩ rfl hn hls rfl (lv_room hrm) hd hcs) hP2 hD hap hS ha kk
theorem r_lcX (C : Cx p s m args meth c cc nL own rt D k) (hq : CV own i Cn y cb nM rc 0) (hM : MEX Z l y cb nM rc fr lo D k [.ref b] w w1 (some v)) (hX : SV Z s H) (hP : va_P D vwCl w H) (hP2 : va_P D vwCl w2 H) (hD : va_D (fun q => Z.1 ≤ q) w) (hap : ap_W w w2) (hS : va_S (fun q => Z.1 ≤ q) H0 H locs) (ha : ∀ x, (w1 x).map (·.1) = w.map (·.1)) (hc : vwCl[ci]? = some (Cn, T, N)) (he : w[0]? = some (b, .inr (ci, fs))) (hls : ls.size = nL) (hd : decode cc pc = .ok (.invokevirtual i, 3))
    (kk : ∀ (x : X) (H1 : Heap) (locs1 : List Loc), va_P D vwCl (w1 x) H1 → va_P D vwCl w2 H1 → va_D (fun q => Z.1 ≤ q) (w1 x) → ap_W (w1 x) w2 → va_S (fun q => Z.1 ≤ q) H0 H1 locs1 → W p l e R s m args below meth c H1 locs1 cells slots Q (F0 m (pc + 3) ls (v :: rest))) (hR : fr + 1 ≤ R.frames ∧ 8 + (nM + 11) + lo ≤ R.locals) (hrm : (rest.map fun v => v.category).sum ≤ 8) (hcs : cells ≤ R.cells ∧ slots ≤ R.slots) : W p l e R s m args below meth c H locs cells slots Q (F0 m pc ls (.ref b :: rest)) :=
  W.callQEL (W.runV (As := []) (rest := rest) C.1 hM (c_cw C hq hR) ⟨(pre_WX (As' := [.ref b]) C.2.1 hP hD hX).1, va_recv C.2.1.1 hP hc he, (pre_WX (As' := [.ref b]) C.2.1 hP hD hX).2⟩ rfl rfl hls rfl (lv_room hrm) hd hcs) hP2 hD hap hS ha kk
theorem r_lc0 (C : Cx p s m args meth c cc nL own rt D k) (hq : CV own i Cn y cb nM rc 0) (hM : ME l y cb nM rc fr lo D k [.ref b] w w1 (some v)) (hP : va_P D vwCl w H) (hP2 : va_P D vwCl w2 H) (hD : va_D A w) (hap : ap_W w w2) (hS : va_S A H0 H locs) (ha : ∀ x, (w1 x).map (·.1) = w.map (·.1)) (hc : vwCl[ci]? = some (Cn, T, N)) (he : w[0]? = some (b, .inr (ci, fs))) (hls : ls.size = nL) (hd : decode cc pc = .ok (.invokevirtual i, 3))
    (kk : ∀ (x : X) (H1 : Heap) (locs1 : List Loc), va_P D vwCl (w1 x) H1 → va_P D vwCl w2 H1 → va_D A (w1 x) → ap_W (w1 x) w2 → va_S A H0 H1 locs1 → W p l e R s m args below meth c H1 locs1 cells slots Q (F0 m (pc + 3) ls (v :: rest))) (hR : fr + 1 ≤ R.frames ∧ 8 + (nM + 11) + lo ≤ R.locals) (hrm : (rest.map fun v => v.category).sum ≤ 8) (hcs : cells ≤ R.cells ∧ slots ≤ R.slots) : W p l e R s m args below meth c H locs cells slots Q (F0 m pc ls (.ref b :: rest)) := r_lc (As := []) C hq hM rfl hP hP2 hD hap hS ha hc he hls hd kk hR hrm hcs
theorem r_lc1 {x1 : Value} (C : Cx p s m args meth c cc nL own rt D k) (hq : CV own i Cn y cb nM rc 1) (hM : ME l y cb nM rc fr lo D k [.ref b, x1] w w1 (some v)) (hP : va_P D vwCl w H) (hP2 : va_P D vwCl w2 H) (hD : va_D A w) (hap : ap_W w w2) (hS : va_S A H0 H locs) (ha : ∀ x, (w1 x).map (·.1) = w.map (·.1)) (hc : vwCl[ci]? = some (Cn, T, N)) (he : w[0]? = some (b, .inr (ci, fs))) (hls : ls.size = nL) (hd : decode cc pc = .ok (.invokevirtual i, 3))
    (kk : ∀ (x : X) (H1 : Heap) (locs1 : List Loc), va_P D vwCl (w1 x) H1 → va_P D vwCl w2 H1 → va_D A (w1 x) → ap_W (w1 x) w2 → va_S A H0 H1 locs1 → W p l e R s m args below meth c H1 locs1 cells slots Q (F0 m (pc + 3) ls (v :: rest))) (hR : fr + 1 ≤ R.frames ∧ 8 + (nM + 11) + lo ≤ R.locals) (hrm : (rest.map fun v => v.category).sum ≤ 8) (hcs : cells ≤ R.cells ∧ slots ≤ R.slots) : W p l e R s m args below meth c H locs cells slots Q (F0 m pc ls (x1 :: .ref b :: rest)) := r_lc (As := [x1]) C hq hM rfl hP hP2 hD hap hS ha hc he hls hd kk hR hrm hcs
theorem r_lc2 {x1 x2 : Value} (C : Cx p s m args meth c cc nL own rt D k) (hq : CV own i Cn y cb nM rc 2) (hM : ME l y cb nM rc fr lo D k [.ref b, x1, x2] w w1 (some v)) (hP : va_P D vwCl w H) (hP2 : va_P D vwCl w2 H) (hD : va_D A w) (hap : ap_W w w2) (hS : va_S A H0 H locs) (ha : ∀ x, (w1 x).map (·.1) = w.map (·.1)) (hc : vwCl[ci]? = some (Cn, T, N)) (he : w[0]? = some (b, .inr (ci, fs))) (hls : ls.size = nL) (hd : decode cc pc = .ok (.invokevirtual i, 3))
    (kk : ∀ (x : X) (H1 : Heap) (locs1 : List Loc), va_P D vwCl (w1 x) H1 → va_P D vwCl w2 H1 → va_D A (w1 x) → ap_W (w1 x) w2 → va_S A H0 H1 locs1 → W p l e R s m args below meth c H1 locs1 cells slots Q (F0 m (pc + 3) ls (v :: rest))) (hR : fr + 1 ≤ R.frames ∧ 8 + (nM + 11) + lo ≤ R.locals) (hrm : (rest.map fun v => v.category).sum ≤ 8) (hcs : cells ≤ R.cells ∧ slots ≤ R.slots) : W p l e R s m args below meth c H locs cells slots Q (F0 m pc ls (x2 :: x1 :: .ref b :: rest)) := r_lc (As := [x1, x2]) C hq hM rfl hP hP2 hD hap hS ha hc he hls hd kk hR hrm hcs
theorem r_lc3 {x1 x2 x3 : Value} (C : Cx p s m args meth c cc nL own rt D k) (hq : CV own i Cn y cb nM rc 3) (hM : ME l y cb nM rc fr lo D k [.ref b, x1, x2, x3] w w1 (some v)) (hP : va_P D vwCl w H) (hP2 : va_P D vwCl w2 H) (hD : va_D A w) (hap : ap_W w w2) (hS : va_S A H0 H locs) (ha : ∀ x, (w1 x).map (·.1) = w.map (·.1)) (hc : vwCl[ci]? = some (Cn, T, N)) (he : w[0]? = some (b, .inr (ci, fs))) (hls : ls.size = nL) (hd : decode cc pc = .ok (.invokevirtual i, 3))
    (kk : ∀ (x : X) (H1 : Heap) (locs1 : List Loc), va_P D vwCl (w1 x) H1 → va_P D vwCl w2 H1 → va_D A (w1 x) → ap_W (w1 x) w2 → va_S A H0 H1 locs1 → W p l e R s m args below meth c H1 locs1 cells slots Q (F0 m (pc + 3) ls (v :: rest))) (hR : fr + 1 ≤ R.frames ∧ 8 + (nM + 11) + lo ≤ R.locals) (hrm : (rest.map fun v => v.category).sum ≤ 8) (hcs : cells ≤ R.cells ∧ slots ≤ R.slots) : W p l e R s m args below meth c H locs cells slots Q (F0 m pc ls (x3 :: x2 :: x1 :: .ref b :: rest)) := r_lc (As := [x1, x2, x3]) C hq hM rfl hP hP2 hD hap hS ha hc he hls hd kk hR hrm hcs
theorem r_lc4 {x1 x2 x3 x4 : Value} (C : Cx p s m args meth c cc nL own rt D k) (hq : CV own i Cn y cb nM rc 4) (hM : ME l y cb nM rc fr lo D k [.ref b, x1, x2, x3, x4] w w1 (some v)) (hP : va_P D vwCl w H) (hP2 : va_P D vwCl w2 H) (hD : va_D A w) (hap : ap_W w w2) (hS : va_S A H0 H locs) (ha : ∀ x, (w1 x).map (·.1) = w.map (·.1)) (hc : vwCl[ci]? = some (Cn, T, N)) (he : w[0]? = some (b, .inr (ci, fs))) (hls : ls.size = nL) (hd : decode cc pc = .ok (.invokevirtual i, 3))
    (kk : ∀ (x : X) (H1 : Heap) (locs1 : List Loc), va_P D vwCl (w1 x) H1 → va_P D vwCl w2 H1 → va_D A (w1 x) → ap_W (w1 x) w2 → va_S A H0 H1 locs1 → W p l e R s m args below meth c H1 locs1 cells slots Q (F0 m (pc + 3) ls (v :: rest))) (hR : fr + 1 ≤ R.frames ∧ 8 + (nM + 11) + lo ≤ R.locals) (hrm : (rest.map fun v => v.category).sum ≤ 8) (hcs : cells ≤ R.cells ∧ slots ≤ R.slots) : W p l e R s m args below meth c H locs cells slots Q (F0 m pc ls (x4 :: x3 :: x2 :: x1 :: .ref b :: rest)) := r_lc (As := [x1, x2, x3, x4]) C hq hM rfl hP hP2 hD hap hS ha hc he hls hd kk hR hrm hcs
theorem r_lc5 {x1 x2 x3 x4 x5 : Value} (C : Cx p s m args meth c cc nL own rt D k) (hq : CV own i Cn y cb nM rc 5) (hM : ME l y cb nM rc fr lo D k [.ref b, x1, x2, x3, x4, x5] w w1 (some v)) (hP : va_P D vwCl w H) (hP2 : va_P D vwCl w2 H) (hD : va_D A w) (hap : ap_W w w2) (hS : va_S A H0 H locs) (ha : ∀ x, (w1 x).map (·.1) = w.map (·.1)) (hc : vwCl[ci]? = some (Cn, T, N)) (he : w[0]? = some (b, .inr (ci, fs))) (hls : ls.size = nL) (hd : decode cc pc = .ok (.invokevirtual i, 3))
    (kk : ∀ (x : X) (H1 : Heap) (locs1 : List Loc), va_P D vwCl (w1 x) H1 → va_P D vwCl w2 H1 → va_D A (w1 x) → ap_W (w1 x) w2 → va_S A H0 H1 locs1 → W p l e R s m args below meth c H1 locs1 cells slots Q (F0 m (pc + 3) ls (v :: rest))) (hR : fr + 1 ≤ R.frames ∧ 8 + (nM + 11) + lo ≤ R.locals) (hrm : (rest.map fun v => v.category).sum ≤ 8) (hcs : cells ≤ R.cells ∧ slots ≤ R.slots) : W p l e R s m args below meth c H locs cells slots Q (F0 m pc ls (x5 :: x4 :: x3 :: x2 :: x1 :: .ref b :: rest)) := r_lc (As := [x1, x2, x3, x4, x5]) C hq hM rfl hP hP2 hD hap hS ha hc he hls hd kk hR hrm hcs
theorem r_arg (C : Cx p s m args meth c cc nL own rt D k) {L i : Nat} {xs : Nat → Int32} (hX : va_X b L xs s H0) (hbl : b < H0.size) (hbA : ¬ A b) (hS : va_S A H0 H locs) (h0 : ls[0]? = some (.val (.ref b))) (h3 : ls[3]? = some (.val (.int (iI (i : Int))))) (j : Nat) {jz : Int} (hjz : jz = (j : Int)) (hi : i + j < L) (hL : L ≤ 3072) (d0 : decode cc pc = .ok (.aload_n 0, 1)) (d1 : decode cc (pc + 1) = .ok (.iload_n 3, 1)) (d2 : decode cc (pc + 1 + 1) = .ok (.iconst jz, 1)) (d3 : decode cc (pc + 1 + 1 + 1) = .ok (.iadd, 1)) (d4 : decode cc (pc + 1 + 1 + 1 + 1) = .ok (.iaload, 1))
    (kk : W p l e R s m args below meth c H locs cells slots Q (F0 m (pc + 1 + 1 + 1 + 1 + 1) ls (.int (iI (xs (i + j)).toInt) :: rest))) : W p l e R s m args below meth c H locs cells slots Q (F0 m pc ls rest) := by
  subst hjz
  refine r_aload_n C d0 rfl h0 ?_
  refine r_iload_n C d1 rfl h3 ?_
  refine r_iconst C d2 ?_
  refine r_iadd C d3 ?_
  have e : (iI ((i : Int) + (j : Int))).toNatClampNeg = i + j := by rw [iI_clamp (by omega) (by omega)]; omega
  refine va_sld C.1.1 C.1.2.1 hX hbl hbA hS (iI_ix (z := (i : Int) + (j : Int)) (n := L) (by omega) (by omega) (by omega)) d4 ?_
  rw [e]
  rw [iI_of] at kk
  exact kk
theorem r_same (C : Cx p s m args meth c cc nL own rt D k) {x : Int32} {off : Int} {tgt : Nat} (hd : decode cc pc = .ok (.if_icmp .eq off, 3)) (ht : (pc : Int) + off = (tgt : Int)) (kk : W p l e R s m args below meth c H locs cells slots Q (F0 m tgt ls rest)) : W p l e R s m args below meth c H locs cells slots Q (F0 m pc ls (.int x :: .int x :: rest)) :=
  lv_icmp_eq C.1.1 C.1.2.1 hd ht (fun _ => kk) (fun h => absurd rfl h)
theorem lg_cmp_rf (x : Int64) : lg_cmp x x = 0 := by
  have h := lg_cmpI (in64_of x) (in64_of x)
  rw [lI_of, if_neg (Int.lt_irrefl _), if_pos rfl] at h
  exact h
theorem r_sameL (C : Cx p s m args meth c cc nL own rt D k) {x : Int64} {off : Int} {tgt : Nat} (hc : decode cc pc = .ok (.lcmp, 1)) (hd : decode cc (pc + 1) = .ok (.ifCond .eq off, 3)) (ht : ((pc + 1 : Nat) : Int) + off = (tgt : Int)) (kk : W p l e R s m args below meth c H locs cells slots Q (F0 m tgt ls rest)) : W p l e R s m args below meth c H locs cells slots Q (F0 m pc ls (.long x :: .long x :: rest)) := by
  refine W.lcmp C.1.1 C.1.2.1 hc ?_
  rw [lg_cmp_rf]
  exact lv_if_eq C.1.1 C.1.2.1 hd ht (fun _ => kk) (fun h => absurd rfl h)
theorem r_toL {x : Int64} (kk : W p l e R s m args below meth c H locs cells slots Q (F0 m pc ls (.long (lI x.toInt) :: rest))) : W p l e R s m args below meth c H locs cells slots Q (F0 m pc ls (.long x :: rest)) := by
  rw [lI_of] at kk
  exact kk
theorem r_and63 (C : Cx p s m args meth c cc nL own rt D k) {x : Int32} (hd : decode cc pc = .ok (.iand, 1)) (kk : ∀ z : Int, 0 ≤ z → z < 64 → W p l e R s m args below meth c H locs cells slots Q (F0 m (pc + 1) ls (.int (iI z) :: rest))) : W p l e R s m args below meth c H locs cells slots Q (F0 m pc ls (.int (iI 63) :: .int x :: rest)) := by
  refine lv_iand C.1.1 C.1.2.1 hd ?_
  obtain ⟨j, hj, e⟩ := pk_andE x (m := iI 63) 6 rfl
  rw [e, ← iI_nat]
  exact kk (j : Int) (by omega) (by have : j < 64 := hj; omega)
end LAWR
/-! what reading leaves -/
theorem t2_ite {P : Prop} [Decidable P] {x y : Tr} {s : Int → Int} (h1 : x.2.1 = s) (h2 : y.2.1 = s) : (if P then x else y).2.1 = s := by
  split
  · exact h1
  · exact h2
theorem inv_eq {s s' : Int → Int} (h : Inv s) (e : s' = s) : Inv s' ∧ s' 1 = s 1 := by
  subst e
  exact inv_rf h
section READS
variable (s st : Int → Int)
theorem rd_cell (c w : Int) : (fCell s st c w).2.1 = s := by unfold fCell; exact t2_ite (t2_ite rfl rfl) rfl
theorem rd_of (m w : Int) : (fOf s st m w).2.1 = s := by unfold fOf; exact t2_ite (t2_ite rfl rfl) rfl
theorem rd_as (m kd : Int) : (fAs s st m kd).2.1 = s := by unfold fAs; exact t2_ite (t2_ite (t2_ite rfl rfl) rfl) rfl
theorem rd_cost (m c : Int) : (fCost s st m c).2.1 = s := by unfold fCost; exact t2_ite (t2_ite (t2_ite rfl rfl) rfl) rfl
theorem rd_now (w : Int) : (fNow s st w).2.1 = s := by unfold fNow; exact t2_ite rfl (t2_ite rfl (t2_ite rfl (t2_ite rfl (t2_ite rfl rfl))))
theorem rd_on (m n w : Int) : (fOn s st m n w).2.1 = s := by unfold fOn; exact t2_ite (t2_ite (t2_ite rfl rfl) rfl) rfl
theorem rd_wrong (n : Int) : (fWrong s st n).2.1 = s := by unfold fWrong; exact t2_ite rfl rfl
theorem rd_done : (fDone s st).2.1 = s := by unfold fDone; exact t2_ite rfl rfl
theorem rd_when (c : Int) : (fWhen s st c).2.1 = s := by unfold fWhen; exact t2_ite (t2_ite rfl rfl) rfl
theorem rd_cheapest (m : Int) : (fCheap s st m).2.1 = s := by unfold fCheap; exact t2_ite (t2_ite rfl rfl) rfl
theorem rd_best (m : Int) : (fBest s st m).2.1 = s := by unfold fBest; exact t2_ite (t2_ite rfl rfl) rfl
theorem rd_two (m : Int) : (fTwo s st m).2.1 = s := by unfold fTwo; exact t2_ite (t2_ite rfl rfl) rfl
theorem rd_left (m : Int) : (fLeft s st m).2.1 = s := by unfold fLeft; exact t2_ite (t2_ite rfl rfl) rfl
theorem rd_kind (m y : Int) : (fKind s st m y).2.1 = s := by unfold fKind; exact t2_ite (t2_ite rfl rfl) rfl
theorem rd_purse (m y : Int) : (fPurse s st m y).2.1 = s := by unfold fPurse; exact t2_ite (t2_ite rfl rfl) rfl
theorem rd_needed (y : Int) : (fNeed s st y).2.1 = s := by unfold fNeed; exact t2_ite (t2_ite rfl rfl) rfl
theorem rd_way (b e w : Int) : (fWay s st b e w).2.1 = s := by unfold fWay; exact t2_ite (t2_ite (t2_ite (t2_ite rfl rfl) rfl) rfl) rfl
theorem rd_cells (w : Int) : (fCells s st w).2.1 = s := by unfold fCells; exact t2_ite rfl rfl
theorem rd_read (bi si : Int → Int) (nu : Int → Int64) (sh m : Int) : (fRead s st bi si nu sh m).2.1 = s := by unfold fRead; exact t2_ite (t2_ite rfl rfl) rfl
theorem rd_count (ta w : Int) : (fCount s st ta w).2.1 = s := by unfold fCount; exact t2_ite rfl (t2_ite rfl (t2_ite rfl (t2_ite rfl rfl)))
theorem rd_status (w : Int) : (fStatus s st w).2.1 = s := by unfold fStatus; exact t2_ite rfl rfl
end READS
/-- what the law's loop keeps: y the class's year, ky the kept one's -/
def lw_I (s kq kp tp bi si : Int → Int) (y ky ta nm ik va : Int) : Prop := y = s 1 ∧ Inv s ∧ Inv kq ∧ Ok kp ∧ (0 ≤ ik ∧ ik ≤ 1) ∧ (ik = 0 ∨ (kp = kq ∧ ky = kq 1)) ∧ (∀ i, 0 ≤ tp i ∧ tp i ≤ 255) ∧ (0 ≤ ta ∧ ta ≤ 120) ∧ (∀ i, 0 ≤ bi i ∧ bi i ≤ 64) ∧ (∀ i, 0 ≤ si i ∧ si i ≤ 40) ∧ (0 ≤ nm ∧ nm ≤ 10000) ∧ (-2147483648 ≤ va ∧ va < 2147483647)
theorem lw_I.st {s s' kq kp tp bi si : Int → Int} {y ky ta nm ik va : Int} (h : lw_I s kq kp tp bi si y ky ta nm ik va) (hv : Inv s' ∧ s' 1 = s 1) : lw_I s' kq kp tp bi si y ky ta nm ik va := ⟨h.1.trans hv.2.symm, hv.1, h.2.2⟩
/-- the two worlds, side by side, somewhere above n0 -/
def lw_W (n0 : Nat) (D : va_G) (w w2 : va_W) (H0 H : Heap) (locs : List Loc) : Prop := va_P D vwCl w H ∧ va_P D vwCl w2 H ∧ va_D (fun q => n0 ≤ q) w ∧ va_D (fun q => n0 ≤ q) w2 ∧ ap_W w w2 ∧ va_S (fun q => n0 ≤ q) H0 H locs
/-- the law's fixed things -/
def lw_E (p : Program) (s : State) (m : MethodId) (meth : Method) (c : Code) (b L : Nat) (xs : Nat → Int32) (Z : SZ) (D : va_G) (k : Nat → ClassId) : Prop := Cx p s m #[Value.ref b] meth c cL_law 4 RL ret D k ∧ va_X b L xs s s.heap ∧ b < s.heap.size ∧ Z.1 = s.heap.size ∧ SV Z s s.heap ∧ L ≤ 3072
/-- what follows a call of the law -/
def lw_K (pcK : Nat) (p : Program) (l : Launch) (e : Env) (s : State) (m : MethodId) (b : Nat) (below : List Frame) (meth : Method) (c : Code) (Z : SZ) (D : va_G) (k : Nat → ClassId) (a d : Nat → Nat) (ls : Array Slot) (Q : State → Prop) : Prop :=
  ∀ (r t kq kp ot sd st sp tp bi si : Int → Int) (nu mo : Int → Int64) (tw : Int64) (y ty ky ta tk sa en nm ik tl fr to va iw : Int) (H : Heap) (locs : List Loc), lw_W Z.1 D (wT a k r (lB (wrF r)) y t tw ty kq (lB (wrF kq)) ky tp ta tk sa en nm bi si nu st ik) (wM d k r kp ot sd st sp tp bi si nu mo ik (-1) tl ta fr to va iw) s.heap H locs → lw_I r kq kp tp bi si y ky ta nm ik va → W p l e room_1 s m #[Value.ref b] below meth c H locs 600000 7302250 Q (F0 m pcK ls [])
