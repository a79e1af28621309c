/-! sheets, bytes -/
theorem zr_sh (nu : Int → Int64) (sh : Int) : ∀ n : Nat, n ≤ 40 → shF (zr40 nu sh n) sh = zrN (shF nu sh) n
  | 0, _ => rfl
  | n + 1, h => by rw [zr40, zrN, sh_up (by omega) (by omega), zr_sh nu sh n (by omega)]
theorem zr_o (nu : Int → Int64) {sh j : Int} (hj : j ≠ sh) : ∀ n : Nat, n ≤ 40 → shF (zr40 nu sh n) j = shF nu j
  | 0, _ => rfl
  | n + 1, h => by rw [zr40, sh_uo (by omega) (by omega) hj, zr_o nu hj n (by omega)]
theorem cpB_at (nu : Int → Int64) (d b : Int) (i : Int) : ∀ n : Nat, cpB nu d b n i = if d ≤ i ∧ i < d + n then nu (b + (i - d)) else nu i
  | 0 => by rw [cpB, if_neg (by omega)]
  | n + 1 => by
    rw [cpB]
    by_cases e : i = d + n
    · subst e
      rw [up_s, if_pos (by omega), show b + (d + (n : Int) - d) = b + n by omega]
    · rw [up_n e, cpB_at nu d b i n]
      by_cases q : d ≤ i ∧ i < d + n
      · rw [if_pos q, if_pos (by omega)]
      · rw [if_neg q, if_neg (by omega)]
theorem cpB_o (nu : Int → Int64) {sh th f g : Int} {n : Nat} (hg : 0 ≤ g) (hn : g + n ≤ 40) {j : Int} (hj : j ≠ th) : shF (cpB nu (40 * th + g) (40 * sh + f) n) j = shF nu j := by
  funext i
  unfold shF
  by_cases q : 0 ≤ i ∧ i < 40
  · rw [if_pos q, if_pos q, cpB_at, if_neg (by omega)]
  · rw [if_neg q, if_neg q]
theorem cpB_sh (nu : Int → Int64) {sh th f g : Int} {n : Nat} (hg : 0 ≤ g) (hn : g + n ≤ 40) (hf : 0 ≤ f) (hn2 : f + n ≤ 40) : arL (shF (cpB nu (40 * th + g) (40 * sh + f) n) th) = va_cpy (arL (shF nu sh)) (arL (shF nu th)) f.toNat g.toNat n := by
  funext i
  unfold va_cpy arL
  by_cases q : g.toNat ≤ i ∧ i < g.toNat + n
  · rw [if_pos q, sh_at (by omega) (by omega), cpB_at, if_pos (by omega), sh_at (by omega) (by omega)]
    congr 1
    omega
  · rw [if_neg q]
    unfold shF
    by_cases r : 0 ≤ (i : Int) ∧ (i : Int) < 40
    · rw [if_pos r, if_pos r, cpB_at, if_neg (by omega)]
    · rw [if_neg r, if_neg r]
section STN
variable {a : Nat → Nat} {k : Nat → ClassId} {s t kq tp bi si st : Int → Int} {wr tw kw : Int64} {y ty ky ta tk sa en nm ik : Int} {nu : Int → Int64}
theorem st_T_nu {sh : Int} (h0 : 0 ≤ sh) (h : sh ≤ 3) {fa : Nat → Int64} {nu' : Int → Int64} (e1 : arL (shF nu' sh) = fa) (ho : ∀ j, 0 ≤ j → j ≤ 3 → j ≠ sh → shF nu' j = shF nu j) : (wT a k s wr y t tw ty kq kw ky tp ta tk sa en nm bi si nu st ik).set (26 + 2 * sh.toNat) (a (26 + 2 * sh.toNat), .inl (k 1, 40, .inr (.inl fa))) = wT a k s wr y t tw ty kq kw ky tp ta tk sa en nm bi si nu' st ik := by
  subst e1
  unfold wT
  rcases sh4 h0 h with rfl | rfl | rfl | rfl
  · rw [ho 1 (by decide) (by decide) (by decide), ho 2 (by decide) (by decide) (by decide), ho 3 (by decide) (by decide) (by decide)]; rfl
  · rw [ho 0 (by decide) (by decide) (by decide), ho 2 (by decide) (by decide) (by decide), ho 3 (by decide) (by decide) (by decide)]; rfl
  · rw [ho 0 (by decide) (by decide) (by decide), ho 1 (by decide) (by decide) (by decide), ho 3 (by decide) (by decide) (by decide)]; rfl
  · rw [ho 0 (by decide) (by decide) (by decide), ho 1 (by decide) (by decide) (by decide), ho 2 (by decide) (by decide) (by decide)]; rfl
end STN
section LCPY
variable {p : Program} {l : Launch} {e : Env} {R : Room} {s : State} {m : MethodId} {args : Array Value} {below : List Frame} {meth : Method} {c : Code} {H : Heap} {locs : List Loc} {cells slots : Nat} {Q : State → Prop}
variable {cc : ByteArray} {nL : Nat} {own : String} {rt : Option FieldType} {D : va_G} {k : Nat → ClassId} {pc : Nat} {ls : Array Slot} {rest : List Value} {w : va_W} {A : Nat → Prop} {H0 : Heap} {i : Nat}
theorem r_acpyL (C : Cx p s m args meth c cc nL own rt D k) (hP : va_P D vwCl w H) (hD : va_D A w) (hS : va_S A H0 H locs) (q0 q1 : Nat) {a0 a1 n0 n1 : Nat} {f g : Nat → Int64} (w1 : va_W) {sp dp z : Int} (ha0 : w[q0]? = some (a0, .inl (k 1, n0, .inr (.inl f)))) (ha1 : w[q1]? = some (a1, .inl (k 1, n1, .inr (.inl g)))) (h1 : 0 ≤ sp) (h2 : 0 ≤ dp) (h3 : 0 ≤ z) (h4 : sp + z ≤ n0) (h5 : dp + z ≤ n1) (hn0 : n0 < 1000000) (hn1 : n1 < 1000000) (hw : w.set q1 (a1, .inl (k 1, n1, .inr (.inl (va_cpy f g sp.toNat dp.toNat z.toNat)))) = w1) (hq : Cond.methodLink own i arraycopyName ∈ TB) (hls : ls.size = nL) (hd : decode cc pc = .ok (.invokestatic i, 3))
    (kk : ∀ (H1 : Heap) (locs1 : List Loc), va_P D vwCl w1 H1 → va_D A w1 → va_S A H0 H1 locs1 → W p l e R s m args below meth c H1 locs1 cells slots Q (F0 m (pc + 3) ls rest)) (hR : 1 ≤ R.frames ∧ (rest.map fun v => v.category).sum + (nativeFrameWords "java/lang/System" "arraycopy" 5 + 11) ≤ R.locals := by exact ⟨Nat.le_of_ble_eq_true rfl, Nat.le_of_ble_eq_true rfl⟩) : W p l e R s m args below meth c H locs cells slots Q (F0 m pc ls (.int (iI z) :: .int (iI dp) :: .ref a1 :: .int (iI sp) :: .ref a0 :: rest)) := by
  subst hw
  have nn : ∀ q : Int, 0 ≤ q → q < 1000000 → ¬ iI q < 0 := fun q a b r => by
    have := (iI_lt (a := q) (b := 0) ⟨by omega, by omega⟩ ⟨by decide, by decide⟩).mp r
    omega
  have e1 := iI_clamp h1 (by omega)
  have e2 := iI_clamp h2 (by omega)
  have e3 := iI_clamp h3 (by omega)
  refine va_copyl C.1.1 C.1.2.1 (C.1.2.2.1.trans hls.symm) C.1.2.2.2.1 (C.1.2.2.2.2 _ hq) (C.1.2.2.2.2 _ ac_na) (C.1.2.2.2.2 _ ac_st) (C.1.2.2.2.2 _ ac_in) C.2.1.1 hP hD hS q0 q1 1 1 ha0 ha1 rfl rfl rfl (nn sp h1 (by omega)) (nn dp h2 (by omega)) (nn z h3 (by omega)) (by rw [e1, e3]; omega) (by rw [e2, e3]; omega) (fun _ _ => rfl) hR.1 hR.2 hd (fun H1 locs1 h1 h2 h3 => ?_)
  rw [e1, e2, e3] at h1 h2
  exact kk H1 locs1 h1 h2 h3
end LCPY
theorem stN_at (st : Int → Int) {w : Int} (h0 : 0 ≤ w) (h : w ≤ 6) : stN st w 7 = st w := by
  have hw : w = 0 ∨ w = 1 ∨ w = 2 ∨ w = 3 ∨ w = 4 ∨ w = 5 ∨ w = 6 := by omega
  rcases hw with rfl | rfl | rfl | rfl | rfl | rfl | rfl <;> simp [stN]
theorem byt_bv (x : BitVec 32) {n : Nat} (hn : n ≤ 24) : (x >>> n) &&& 255#32 = (x.sshiftRight n) &&& 255#32 := by
  apply BitVec.eq_of_getLsbD_eq
  intro i hi
  rw [BitVec.getLsbD_and, BitVec.getLsbD_and]
  by_cases q : i < 8
  · rw [BitVec.getLsbD_ushiftRight, BitVec.getLsbD_sshiftRight]
    have h1 : ¬ 32 ≤ i := by omega
    have h2 : n + i < 32 := by omega
    simp [h1, h2]
  · have e : ∀ i : Nat, i < 32 → ¬ i < 8 → (255#32).getLsbD i = false := by decide +kernel
    rw [e i hi q, Bool.and_false, Bool.and_false]
theorem iI_bytU {b : Int} (hb : In32 b) {k : Int} (h0 : 0 ≤ k) (h1 : k < 4) : ((iI b).toUInt32 >>> ((iI (8 * k)).toUInt32 &&& Int32.toUInt32 31)).toInt32 &&& iI 255 = iI (byt b k) := by
  rw [← iI_byt hb h0 h1]
  apply Int32.toBitVec.inj
  have hk : k = 0 ∨ k = 1 ∨ k = 2 ∨ k = 3 := by omega
  have key : ∀ n : Nat, n ≤ 24 → ((iI (n : Int)).toUInt32 &&& Int32.toUInt32 31).toBitVec % 32#32 = BitVec.ofNat 32 n ∧ (iI (n : Int) &&& 31).toBitVec.smod 32#32 = BitVec.ofNat 32 n := by decide +kernel
  have fin : ∀ n : Nat, n ≤ 24 → (((iI b).toUInt32 >>> ((iI (n : Int)).toUInt32 &&& Int32.toUInt32 31)).toInt32 &&& iI 255).toBitVec = ((iI b >>> (iI (n : Int) &&& 31)) &&& iI 255).toBitVec := by
    intro n hn
    show ((iI b).toBitVec >>> (((iI (n : Int)).toUInt32 &&& Int32.toUInt32 31).toBitVec % 32#32)) &&& (iI 255).toBitVec = ((iI b).toBitVec.sshiftRight' ((iI (n : Int) &&& 31).toBitVec.smod 32#32)) &&& (iI 255).toBitVec
    rw [(key n hn).1, (key n hn).2, BitVec.ushiftRight_eq', BitVec.sshiftRight', BitVec.toNat_ofNat, Nat.mod_eq_of_lt (show n < 2 ^ 32 by omega)]
    exact byt_bv _ hn
  rcases hk with rfl | rfl | rfl | rfl
  · exact fin 0 (by decide)
  · exact fin 8 (by decide)
  · exact fin 16 (by decide)
  · exact fin 24 (by decide)
section BYTU
variable {p : Program} {l : Launch} {e : Env} {R : Room} {s : State} {m : MethodId} {args : Array Value} {below : List Frame} {meth : Method} {c : Code} {H : Heap} {locs : List Loc} {cells slots : Nat} {Q : State → Prop}
variable {cc : ByteArray} {nL : Nat} {own : String} {rt : Option FieldType} {D : va_G} {k : Nat → ClassId} {pc : Nat} {ls : Array Slot} {rest : List Value}
theorem r_bytU (C : Cx p s m args meth c cc nL own rt D k) {b z : Int} (hb : In32 b) (h0 : 0 ≤ z) (h1 : z < 4) (hd : decode cc pc = .ok (.iushr, 1)) (hd2 : decode cc (pc + 1) = .ok (.sipush 255, 3)) (hd3 : decode cc (pc + 1 + 3) = .ok (.iand, 1)) (kk : W p l e R s m args below meth c H locs cells slots Q (F0 m (pc + 1 + 3 + 1) ls (.int (iI (byt b z)) :: rest))) : W p l e R s m args below meth c H locs cells slots Q (F0 m pc ls (.int (iI (8 * z)) :: .int (iI b) :: rest)) := by
  refine lv_iushr C.1.1 C.1.2.1 hd rfl ?_
  refine r_sipush C hd2 (by decide) ?_
  refine lv_iand C.1.1 C.1.2.1 hd3 ?_
  rw [iI_bytU hb h0 h1]
  exact kk
end BYTU
theorem rdS_nj {s : Int → Int} {m : Int} {n j : Nat} (hj : j < 48) : up (up s (99 + 4 * m + 0) n) (99 + 4 * m + 1) j = rdS s m ((48 * n + j : Nat) : Int) := by
  unfold rdS
  rw [show (((48 * n + j : Nat) : Int) / 48) = n by omega, show (((48 * n + j : Nat) : Int) % 48) = j by omega]
