/-! the whole of a TrueMaps: its cells -/
def wTo (a : Nat → Nat) (ik : Int) : Nat × va_E := (a 0, .inr (3, [.ref (a 1), .ref (a 8), .ref (a 15), .ref (a 22), .ref (a 24), .ref (a 33), .int (iI ik)]))
def wP (c : Nat → Nat) (k : Nat → ClassId) (tp : Int → Int) (ta tk sa en nm : Int) : va_W :=
  [(c 0, .inr (1, [.ref (c 1), .int (iI ta), .int (iI tk), .int (iI sa), .int (iI en), .int (iI nm)])), (c 1, .inl (k 0, 120, .inl (arr tp)))]
def wS (c : Nat → Nat) (k : Nat → ClassId) (nf : Int → Int64) (bt sz : Int) : va_W :=
  [(c 0, .inr (0, [.ref (c 1), .int (iI bt), .int (iI sz)])), (c 1, .inl (k 1, 40, .inr (.inl (arL nf))))]
def shF (nu : Int → Int64) (j : Int) : Int → Int64 := fun i => if 0 ≤ i ∧ i < 40 then nu (40 * j + i) else 0
def wT (a : Nat → Nat) (k : Nat → ClassId) (s : Int → Int) (wr : Int64) (y : Int) (t : Int → Int) (tw : Int64) (ty : Int) (kq : Int → Int) (kw : Int64) (ky : Int) (tp : Int → Int) (ta tk sa en nm : Int) (bi si : Int → Int) (nu : Int → Int64) (st : Int → Int) (ik : Int) : va_W :=
  wTo a ik :: (wW (fun i => a (1 + i)) k s wr y ++ (wW (fun i => a (8 + i)) k t tw ty ++ (wW (fun i => a (15 + i)) k kq kw ky ++ (wP (fun i => a (22 + i)) k tp ta tk sa en nm ++ ((a 24, .inl (k 2, 4, .inr (.inr (.inr (.inr (fun j => some (a (25 + 2 * j)))))))) ::
    (wS (fun i => a (25 + i)) k (shF nu 0) (bi 0) (si 0) ++ (wS (fun i => a (27 + i)) k (shF nu 1) (bi 1) (si 1) ++ (wS (fun i => a (29 + i)) k (shF nu 2) (bi 2) (si 2) ++ (wS (fun i => a (31 + i)) k (shF nu 3) (bi 3) (si 3) ++ [(a 33, .inl (k 0, 7, .inl (arr st)))])))))))))
section LAYT
variable {D : va_G} {H : Heap} {a : Nat → Nat} {k : Nat → ClassId} {s t kq tp bi si st : Int → Int} {wr tw kw : Int64} {y ty ky ta tk sa en nm ik : Int} {nu : Int → Int64}
theorem wT_ad : (wT a k s wr y t tw ty kq kw ky tp ta tk sa en nm bi si nu st ik).map (·.1) = [a 0, a 1, a 2, a 3, a 4, a 5, a 6, a 7, a 8, a 9, a 10, a 11, a 12, a 13, a 14, a 15, a 16, a 17, a 18, a 19, a 20, a 21, a 22, a 23, a 24, a 25, a 26, a 27, a 28, a 29, a 30, a 31, a 32, a 33] := rfl
theorem set_app {α : Type} {A B A' : List α} {j : Nat} {x : α} (hj : j < A.length) (h : A.set j x = A') : (A ++ B).set j x = A' ++ B := by
  rw [List.set_append_left j x hj, h]
theorem set_app2 {α : Type} {A B B' : List α} {j n : Nat} {x : α} (hn : A.length = n) (h : B.set j x = B') : (A ++ B).set (j + n) x = A ++ B' := by
  subst hn
  rw [List.set_append_right _ _ (Nat.le_add_left _ _), Nat.add_sub_cancel, h]
theorem lf_T_s {j : Nat} {x : Nat × va_E} {s' : Int → Int} {wr' : Int64} {y' : Int} (h : (wW (fun i => a (1 + i)) k s wr y).set j x = wW (fun i => a (1 + i)) k s' wr' y') (hj : j < 7 := by exact Nat.le_of_ble_eq_true rfl) : (wT a k s wr y t tw ty kq kw ky tp ta tk sa en nm bi si nu st ik).set (j + 1) x = wT a k s' wr' y' t tw ty kq kw ky tp ta tk sa en nm bi si nu st ik := by
  unfold wT
  rw [List.set_cons_succ, set_app (by exact hj) h]
theorem lf_T_t {j : Nat} {x : Nat × va_E} {t' : Int → Int} {tw' : Int64} {ty' : Int} (h : (wW (fun i => a (8 + i)) k t tw ty).set j x = wW (fun i => a (8 + i)) k t' tw' ty') (hj : j < 7 := by exact Nat.le_of_ble_eq_true rfl) : (wT a k s wr y t tw ty kq kw ky tp ta tk sa en nm bi si nu st ik).set (j + 8) x = wT a k s wr y t' tw' ty' kq kw ky tp ta tk sa en nm bi si nu st ik := by
  unfold wT
  rw [show j + 8 = (j + 7) + 1 from rfl, List.set_cons_succ, set_app2 (n := 7) rfl (set_app (by exact hj) h)]
theorem hp_T_s (hP : va_P D vwCl (wT a k s wr y t tw ty kq kw ky tp ta tk sa en nm bi si nu st ik) H) : va_P D vwCl (wW (fun i => a (1 + i)) k s wr y) H := hP.sub [1, 2, 3, 4, 5, 6, 7] rfl
theorem lc_T_s : [1, 2, 3, 4, 5, 6, 7].map (fun i => (wT a k s wr y t tw ty kq kw ky tp ta tk sa en nm bi si nu st ik)[i]?) = (wW (fun i => a (1 + i)) k s wr y).map some := rfl
theorem lp_T_s {s' : Int → Int} {wr' : Int64} {y' : Int} : putW (wT a k s wr y t tw ty kq kw ky tp ta tk sa en nm bi si nu st ik) [1, 2, 3, 4, 5, 6, 7] (wW (fun i => a (1 + i)) k s' wr' y') = wT a k s' wr' y' t tw ty kq kw ky tp ta tk sa en nm bi si nu st ik := rfl
theorem hp_T_t (hP : va_P D vwCl (wT a k s wr y t tw ty kq kw ky tp ta tk sa en nm bi si nu st ik) H) : va_P D vwCl (wW (fun i => a (8 + i)) k t tw ty) H := hP.sub [8, 9, 10, 11, 12, 13, 14] rfl
theorem lc_T_t : [8, 9, 10, 11, 12, 13, 14].map (fun i => (wT a k s wr y t tw ty kq kw ky tp ta tk sa en nm bi si nu st ik)[i]?) = (wW (fun i => a (8 + i)) k t tw ty).map some := rfl
theorem lp_T_t {t' : Int → Int} {tw' : Int64} {ty' : Int} : putW (wT a k s wr y t tw ty kq kw ky tp ta tk sa en nm bi si nu st ik) [8, 9, 10, 11, 12, 13, 14] (wW (fun i => a (8 + i)) k t' tw' ty') = wT a k s wr y t' tw' ty' kq kw ky tp ta tk sa en nm bi si nu st ik := rfl
theorem hp_T_kq (hP : va_P D vwCl (wT a k s wr y t tw ty kq kw ky tp ta tk sa en nm bi si nu st ik) H) : va_P D vwCl (wW (fun i => a (15 + i)) k kq kw ky) H := hP.sub [15, 16, 17, 18, 19, 20, 21] rfl
theorem lc_T_kq : [15, 16, 17, 18, 19, 20, 21].map (fun i => (wT a k s wr y t tw ty kq kw ky tp ta tk sa en nm bi si nu st ik)[i]?) = (wW (fun i => a (15 + i)) k kq kw ky).map some := rfl
theorem lp_T_kq {kq' : Int → Int} {kw' : Int64} {ky' : Int} : putW (wT a k s wr y t tw ty kq kw ky tp ta tk sa en nm bi si nu st ik) [15, 16, 17, 18, 19, 20, 21] (wW (fun i => a (15 + i)) k kq' kw' ky') = wT a k s wr y t tw ty kq' kw' ky' tp ta tk sa en nm bi si nu st ik := rfl
theorem lc_T_t_s : [8, 9, 10, 11, 12, 13, 14, 1, 2, 3, 4, 5, 6, 7].map (fun i => (wT a k s wr y t tw ty kq kw ky tp ta tk sa en nm bi si nu st ik)[i]?) = (wW (fun i => a (8 + i)) k t tw ty ++ wW (fun i => a (1 + i)) k s wr y).map some := rfl
theorem lp_T_t_s : putW (wT a k s wr y t tw ty kq kw ky tp ta tk sa en nm bi si nu st ik) [8, 9, 10, 11, 12, 13, 14, 1, 2, 3, 4, 5, 6, 7] (wW (fun i => a (8 + i)) k s wr y ++ wW (fun i => a (1 + i)) k s wr y) = wT a k s wr y s wr y kq kw ky tp ta tk sa en nm bi si nu st ik := rfl
theorem lc_T_s_kq : [1, 2, 3, 4, 5, 6, 7, 15, 16, 17, 18, 19, 20, 21].map (fun i => (wT a k s wr y t tw ty kq kw ky tp ta tk sa en nm bi si nu st ik)[i]?) = (wW (fun i => a (1 + i)) k s wr y ++ wW (fun i => a (15 + i)) k kq kw ky).map some := rfl
theorem lp_T_s_kq : putW (wT a k s wr y t tw ty kq kw ky tp ta tk sa en nm bi si nu st ik) [1, 2, 3, 4, 5, 6, 7, 15, 16, 17, 18, 19, 20, 21] (wW (fun i => a (1 + i)) k kq kw ky ++ wW (fun i => a (15 + i)) k kq kw ky) = wT a k kq kw ky t tw ty kq kw ky tp ta tk sa en nm bi si nu st ik := rfl
theorem lc_T_kq_s : [15, 16, 17, 18, 19, 20, 21, 1, 2, 3, 4, 5, 6, 7].map (fun i => (wT a k s wr y t tw ty kq kw ky tp ta tk sa en nm bi si nu st ik)[i]?) = (wW (fun i => a (15 + i)) k kq kw ky ++ wW (fun i => a (1 + i)) k s wr y).map some := rfl
theorem lp_T_kq_s : putW (wT a k s wr y t tw ty kq kw ky tp ta tk sa en nm bi si nu st ik) [15, 16, 17, 18, 19, 20, 21, 1, 2, 3, 4, 5, 6, 7] (wW (fun i => a (15 + i)) k s wr y ++ wW (fun i => a (1 + i)) k s wr y) = wT a k s wr y t tw ty s wr y tp ta tk sa en nm bi si nu st ik := rfl
theorem lc_T_s_t : [1, 2, 3, 4, 5, 6, 7, 8, 9, 10, 11, 12, 13, 14].map (fun i => (wT a k s wr y t tw ty kq kw ky tp ta tk sa en nm bi si nu st ik)[i]?) = (wW (fun i => a (1 + i)) k s wr y ++ wW (fun i => a (8 + i)) k t tw ty).map some := rfl
theorem lp_T_s_t : putW (wT a k s wr y t tw ty kq kw ky tp ta tk sa en nm bi si nu st ik) [1, 2, 3, 4, 5, 6, 7, 8, 9, 10, 11, 12, 13, 14] (wW (fun i => a (1 + i)) k t tw ty ++ wW (fun i => a (8 + i)) k t tw ty) = wT a k t tw ty t tw ty kq kw ky tp ta tk sa en nm bi si nu st ik := rfl
theorem hp_T_tp (hP : va_P D vwCl (wT a k s wr y t tw ty kq kw ky tp ta tk sa en nm bi si nu st ik) H) : va_P D vwCl (wP (fun i => a (22 + i)) k tp ta tk sa en nm) H := hP.sub [22, 23] rfl
theorem hp_T_tp_t (hP : va_P D vwCl (wT a k s wr y t tw ty kq kw ky tp ta tk sa en nm bi si nu st ik) H) : va_P D vwCl (wP (fun i => a (22 + i)) k tp ta tk sa en nm ++ wW (fun i => a (8 + i)) k t tw ty) H := hP.sub [22, 23, 8, 9, 10, 11, 12, 13, 14] rfl
theorem lc_T_tp_t : [22, 23, 8, 9, 10, 11, 12, 13, 14].map (fun i => (wT a k s wr y t tw ty kq kw ky tp ta tk sa en nm bi si nu st ik)[i]?) = (wP (fun i => a (22 + i)) k tp ta tk sa en nm ++ wW (fun i => a (8 + i)) k t tw ty).map some := rfl
theorem lp_T_tp_t {tp' t' : Int → Int} {ta' tk' sa' en' nm' ty' : Int} {tw' : Int64} : putW (wT a k s wr y t tw ty kq kw ky tp ta tk sa en nm bi si nu st ik) [22, 23, 8, 9, 10, 11, 12, 13, 14] (wP (fun i => a (22 + i)) k tp' ta' tk' sa' en' nm' ++ wW (fun i => a (8 + i)) k t' tw' ty') = wT a k s wr y t' tw' ty' kq kw ky tp' ta' tk' sa' en' nm' bi si nu st ik := rfl
theorem sh4 {sh : Int} (h0 : 0 ≤ sh) (h : sh ≤ 3) : sh = 0 ∨ sh = 1 ∨ sh = 2 ∨ sh = 3 := by omega
theorem wT_sh {sh : Int} (h0 : 0 ≤ sh) (h : sh ≤ 3) : (wT a k s wr y t tw ty kq kw ky tp ta tk sa en nm bi si nu st ik)[25 + 2 * sh.toNat]? = some (a (25 + 2 * sh.toNat), .inr (0, [.ref (a (26 + 2 * sh.toNat)), .int (iI (bi sh)), .int (iI (si sh))])) := by
  rcases sh4 h0 h with rfl | rfl | rfl | rfl <;> rfl
theorem wT_nu {sh : Int} (h0 : 0 ≤ sh) (h : sh ≤ 3) : (wT a k s wr y t tw ty kq kw ky tp ta tk sa en nm bi si nu st ik)[26 + 2 * sh.toNat]? = some (a (26 + 2 * sh.toNat), .inl (k 1, 40, .inr (.inl (arL (shF nu sh))))) := by
  rcases sh4 h0 h with rfl | rfl | rfl | rfl <;> rfl
theorem sh_at {nu : Int → Int64} {j i : Int} (h0 : 0 ≤ i) (h : i < 40) : shF nu j i = nu (40 * j + i) := if_pos ⟨h0, h⟩
theorem lc_T_nu {sh : Int} (h0 : 0 ≤ sh) (h : sh ≤ 3) : [25 + 2 * sh.toNat, 26 + 2 * sh.toNat].map (fun i => (wT a k s wr y t tw ty kq kw ky tp ta tk sa en nm bi si nu st ik)[i]?) = (wS (fun i => a (25 + 2 * sh.toNat + i)) k (shF nu sh) (bi sh) (si sh)).map some := by
  rcases sh4 h0 h with rfl | rfl | rfl | rfl <;> rfl
theorem hp_T_nu {sh : Int} (h0 : 0 ≤ sh) (h : sh ≤ 3) (hP : va_P D vwCl (wT a k s wr y t tw ty kq kw ky tp ta tk sa en nm bi si nu st ik) H) : va_P D vwCl (wS (fun i => a (25 + 2 * sh.toNat + i)) k (shF nu sh) (bi sh) (si sh)) H := by
  refine hP.sub [25 + 2 * sh.toNat, 26 + 2 * sh.toNat] ?_
  rcases sh4 h0 h with rfl | rfl | rfl | rfl <;> rfl
theorem lp_T_nu {sh : Int} (h0 : 0 ≤ sh) (h : sh ≤ 3) {nf : Int → Int64} {bt sz : Int} {bi' si' : Int → Int} {nu' : Int → Int64} (e1 : shF nu' sh = nf) (e2 : bi' sh = bt) (e3 : si' sh = sz) (ho : ∀ j, 0 ≤ j → j ≤ 3 → j ≠ sh → shF nu' j = shF nu j ∧ bi' j = bi j ∧ si' j = si j) : putW (wT a k s wr y t tw ty kq kw ky tp ta tk sa en nm bi si nu st ik) [25 + 2 * sh.toNat, 26 + 2 * sh.toNat] (wS (fun i => a (25 + 2 * sh.toNat + i)) k nf bt sz) = wT a k s wr y t tw ty kq kw ky tp ta tk sa en nm bi' si' nu' st ik := by
  subst e1; subst e2; subst e3
  unfold wT
  rcases sh4 h0 h with rfl | rfl | rfl | rfl
  · rw [(ho 1 (by decide) (by decide) (by decide)).1, (ho 1 (by decide) (by decide) (by decide)).2.1, (ho 1 (by decide) (by decide) (by decide)).2.2, (ho 2 (by decide) (by decide) (by decide)).1, (ho 2 (by decide) (by decide) (by decide)).2.1, (ho 2 (by decide) (by decide) (by decide)).2.2, (ho 3 (by decide) (by decide) (by decide)).1, (ho 3 (by decide) (by decide) (by decide)).2.1, (ho 3 (by decide) (by decide) (by decide)).2.2]; rfl
  · rw [(ho 0 (by decide) (by decide) (by decide)).1, (ho 0 (by decide) (by decide) (by decide)).2.1, (ho 0 (by decide) (by decide) (by decide)).2.2, (ho 2 (by decide) (by decide) (by decide)).1, (ho 2 (by decide) (by decide) (by decide)).2.1, (ho 2 (by decide) (by decide) (by decide)).2.2, (ho 3 (by decide) (by decide) (by decide)).1, (ho 3 (by decide) (by decide) (by decide)).2.1, (ho 3 (by decide) (by decide) (by decide)).2.2]; rfl
  · rw [(ho 0 (by decide) (by decide) (by decide)).1, (ho 0 (by decide) (by decide) (by decide)).2.1, (ho 0 (by decide) (by decide) (by decide)).2.2, (ho 1 (by decide) (by decide) (by decide)).1, (ho 1 (by decide) (by decide) (by decide)).2.1, (ho 1 (by decide) (by decide) (by decide)).2.2, (ho 3 (by decide) (by decide) (by decide)).1, (ho 3 (by decide) (by decide) (by decide)).2.1, (ho 3 (by decide) (by decide) (by decide)).2.2]; rfl
  · rw [(ho 0 (by decide) (by decide) (by decide)).1, (ho 0 (by decide) (by decide) (by decide)).2.1, (ho 0 (by decide) (by decide) (by decide)).2.2, (ho 1 (by decide) (by decide) (by decide)).1, (ho 1 (by decide) (by decide) (by decide)).2.1, (ho 1 (by decide) (by decide) (by decide)).2.2, (ho 2 (by decide) (by decide) (by decide)).1, (ho 2 (by decide) (by decide) (by decide)).2.1, (ho 2 (by decide) (by decide) (by decide)).2.2]; rfl
theorem sh_up {nu : Int → Int64} {j i : Int} {x : Int64} (h0 : 0 ≤ i) (h : i < 40) : shF (up nu (40 * j + i) x) j = up (shF nu j) i x := by
  funext q
  unfold shF up
  by_cases e : q = i
  · subst e; rw [if_pos ⟨h0, h⟩, if_pos rfl, if_pos rfl]
  · rw [if_neg e]
    show _ = (if 0 ≤ q ∧ q < 40 then nu (40 * j + q) else 0)
    by_cases r : 0 ≤ q ∧ q < 40
    · rw [if_pos r, if_pos r, if_neg (by omega)]
    · rw [if_neg r, if_neg r]
theorem sh_uo {nu : Int → Int64} {j j' i : Int} {x : Int64} (h0 : 0 ≤ i) (h : i < 40) (hj : j' ≠ j) : shF (up nu (40 * j + i) x) j' = shF nu j' := by
  funext q
  unfold shF up
  by_cases r : 0 ≤ q ∧ q < 40
  · rw [if_pos r, if_pos r, if_neg (by omega)]
  · rw [if_neg r, if_neg r]
end LAYT
section TROWS
variable {p : Program} {l : Launch} {e : Env} {R : Room} {s : State} {m : MethodId} {args : Array Value} {below : List Frame} {meth : Method} {c : Code} {H : Heap} {locs : List Loc} {cells slots : Nat} {Q : State → Prop}
variable {cc : ByteArray} {nL : Nat} {own : String} {rt : Option FieldType} {D : va_G} {k : Nat → ClassId} {pc : Nat} {ls : Array Slot} {rest : List Value} {w : va_W}
theorem r_aaldS (C : Cx p s m args meth c cc nL own rt D k) (hP : va_P D vwCl w H) (q0 : Nat) {a : Nat → Nat} {b : Nat} {z : Int} (ha : w[q0]? = some (b, .inl (k 2, 4, .inr (.inr (.inr (.inr (fun j => some (a (25 + 2 * j))))))))) (hd : decode cc pc = .ok (.aaload, 1)) (h0 : 0 ≤ z) (h : z ≤ 3) (kk : W p l e R s m args below meth c H locs cells slots Q (F0 m (pc + 1) ls (.ref (a (25 + 2 * z.toNat)) :: rest))) : W p l e R s m args below meth c H locs cells slots Q (F0 m pc ls (.int (iI z) :: .ref b :: rest)) := by
  refine va_aldq C.1.1 C.1.2.1 C.2.1.1 hP q0 2 ha rfl (iI_ix h0 (by omega) (by decide)) hd ?_
  rw [iI_clamp h0 (by omega)]
  exact kk
theorem r_lookupIn (C : Cx p s m args meth c cc nL own rt D k) {z : Int} (j : Int) (hz : z = j) {dflt off : Int} {ps : Array (Int × Int)} {len tgt : Nat} (hd : decode cc pc = .ok (.lookupswitch dflt ps, len)) (hp : (ps.toList.zip (ps.toList.drop 1)).all (fun (a, next) => a.1 < next.1) = true) (ho : Op.lookupswitch.offset ps.toList dflt (iI j).toInt = off) (ht : (pc : Int) + off = (tgt : Int)) (kk : W p l e R s m args below meth c H locs cells slots Q (F0 m tgt ls rest)) : W p l e R s m args below meth c H locs cells slots Q (F0 m pc ls (.int (iI z) :: rest)) := by
  subst hz
  exact lv_lookup C.1.1 C.1.2.1 hd hp ho ht kk
theorem r_pop2 (C : Cx p s m args meth c cc nL own rt D k) {x : Int64} (hd : decode cc pc = .ok (.pop2, 1)) (kk : W p l e R s m args below meth c H locs cells slots Q (F0 m (pc + 1) ls rest)) : W p l e R s m args below meth c H locs cells slots Q (F0 m pc ls (.long x :: rest)) := lv_pop2_2 C.1.1 C.1.2.1 hd rfl kk
end TROWS
