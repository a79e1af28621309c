/-! the reader's items, one behind the other -/
theorem mst_fr {tp : Int → Int} {ta b : Int} {q : PS} (h : PI tp ta q) : q.1 ≤ (mstP tp ta b q).1 := by
  have h1 := h.1
  unfold mstP
  split
  · split
    · exact Int.le_refl _
    · have := tkF_rg (tp := tp) (ta := ta) (p := q.2.1) (by omega) (by omega)
      show q.1 ≤ tkF tp ta q.2.1
      omega
  · exact Int.le_refl _
theorem num_fr {tp : Int → Int} {ta lo hi : Int} {q : PS} (h : PI tp ta q) : q.1 ≤ (numP tp ta lo hi q).1 := by
  have hv := nmV_rg h
  unfold numP
  split
  · exact mst_fr (q := (q.1, q.2.1, nmV tp ta q, q.2.2.2)) ⟨h.1, h.2.1, h.2.2.1, h.2.2.2.1, ⟨by dsimp only; omega, by dsimp only; omega⟩⟩
  · exact Int.le_refl _
theorem mdI_fr {tp : Int → Int} {ta kd : Int} {s : Int → Int} {q : PS} (h : PI tp ta q) : q.1 ≤ (mdI tp ta kd s q).2.1 := by
  have h1 := pi_mst h (if s 0 < 6 then 1 else 0)
  have f1 := mst_fr (b := if s 0 < 6 then 1 else 0) h
  unfold mdI
  generalize mstP tp ta (if s 0 < 6 then 1 else 0) q = q1 at h1 f1 ⊢
  have h2 := pi_mst h1 (if wrd tp ta q1 = 52 then 1 else 0)
  have f2 := mst_fr (b := if wrd tp ta q1 = 52 then 1 else 0) h1
  generalize mstP tp ta (if wrd tp ta q1 = 52 then 1 else 0) q1 = q2 at h2 f2 ⊢
  have h3 := pi_num h2 0 47
  have f3 := num_fr (lo := 0) (hi := 47) h2
  generalize numP tp ta 0 47 q2 = q3 at h3 f3 ⊢
  have h4 := pi_mst h3 1
  have f4 := mst_fr (b := 1) h3
  have f5 := num_fr (lo := 0) (hi := 9999) h4
  unfold mdT
  split
  · split
    · show q.1 ≤ (numP tp ta 0 9999 (mstP tp ta 1 q3)).1
      omega
    · show q.1 ≤ q3.1
      omega
  · show q.1 ≤ q3.1
    omega
theorem clI_fr {tp : Int → Int} {ta b : Int} {s : Int → Int} {q : PS} (h : PI tp ta q) : q.1 ≤ (clI tp ta b s q).2.1 := by
  have h1 := pi_mst h 1
  have f1 := mst_fr (b := 1) h
  unfold clI
  have h2 := pi_num h1 0 47
  have f2 := num_fr (lo := 0) (hi := 47) h1
  generalize numP tp ta 0 47 (mstP tp ta 1 q) = q2 at h2 f2 ⊢
  have h3 := pi_mst h2 (if srH (wrd tp ta q2) < 0 then 0 else 1)
  have f3 := mst_fr (b := if srH (wrd tp ta q2) < 0 then 0 else 1) h2
  generalize mstP tp ta (if srH (wrd tp ta q2) < 0 then 0 else 1) q2 = q3 at h3 f3 ⊢
  have h4 := pi_mst h3 1
  have f4 := mst_fr (b := 1) h3
  have f5 := num_fr (lo := q2.2.2.1) (hi := 47) h4
  unfold clE
  split
  · show q.1 ≤ (numP tp ta q2.2.2.1 47 (mstP tp ta 1 q3)).1
    omega
  · show q.1 ≤ q3.1
    omega
theorem itI_fr {tp : Int → Int} {ta : Int} {s : Int → Int} {q : PS} (h : PI tp ta q) : q.1 ≤ (itI tp ta s q).2.1 := by
  unfold itI
  split
  · split
    · exact clI_fr h
    · split
      · exact clI_fr h
      · have f1 := mst_fr (b := if wrd tp ta q = 316784037 then 1 else 0) h
        have f2 := num_fr (lo := 0) (hi := 20) (pi_mst h (if wrd tp ta q = 316784037 then 1 else 0))
        show q.1 ≤ (numP tp ta 0 20 (mstP tp ta (if wrd tp ta q = 316784037 then 1 else 0) q)).1
        omega
  · exact mdI_fr h
def mpN (tp : Int → Int) (ta : Int) (s : Int → Int) (q : PS) : Nat → SQ
  | 0 => itI tp ta s q
  | n + 1 => itI tp ta (mpN tp ta s q n).1 (mstP tp ta 1 (mpN tp ta s q n).2)
theorem pi_mpN {tp : Int → Int} {ta : Int} (s : Int → Int) {q : PS} (h : PI tp ta q) : ∀ n : Nat, PI tp ta (mpN tp ta s q n).2
  | 0 => pi_itI h
  | n + 1 => pi_itI (pi_mst (pi_mpN s h n) 1)
theorem ok_mpN {tp : Int → Int} {ta : Int} {s : Int → Int} (hs : Ok s) {q : PS} (h : PI tp ta q) : ∀ n : Nat, Ok (mpN tp ta s q n).1
  | 0 => ok_itI h hs
  | n + 1 => ok_itI (pi_mst (pi_mpN s h n) 1) (ok_mpN hs h n)
theorem mp_step {tp : Int → Int} {ta : Int} (s : Int → Int) {q : PS} (h : PI tp ta q) (h0 : q.2.2.2 = 0) (h1 : q.1 < ta) : q.1 + 1 ≤ (itI tp ta s (mstP tp ta 1 q)).2.1 := by
  have f := itI_fr (s := s) (pi_mst h 1)
  have e : (mstP tp ta 1 q).1 = tkF tp ta q.2.1 := by
    unfold mstP
    rw [if_pos h0, if_neg (by decide)]
  have g := h.1
  have r := tkF_rg (tp := tp) (ta := ta) (p := q.2.1) (by omega) (by omega)
  have := g.2.2.2.2 h1
  omega
abbrev mpP (tp : Int → Int) (ta : Int) (s : Int → Int) (q : PS) : Nat → Prop := fun n => ¬ ((mpN tp ta s q n).2.2.2.2 = 0 ∧ bAt tp ta (mpN tp ta s q n).2.1 = 59)
abbrev q0P (tp : Int → Int) (ta va : Int) : PS := (tkF tp ta 0, tkT tp ta (tkF tp ta 0), va, 0)
def mpF (tp : Int → Int) (ta : Int) (s : Int → Int) (q : PS) : Nat := fst0 (mpP tp ta s q) 121
def mpR (tp : Int → Int) (ta : Int) (s : Int → Int) (q : PS) : SQ := mpN tp ta s q (mpF tp ta s q)
/-- (answer, s) of map() -/
def fMap (s tp : Int → Int) (ta va : Int) : Int × (Int → Int) :=
  if (mpR tp ta s (q0P tp ta va)).2.2.2.2 = 0 then (if (mpR tp ta s (q0P tp ta va)).2.1 < ta then (-1 - (mpR tp ta s (q0P tp ta va)).2.1, s) else (1 + (mpF tp ta s (q0P tp ta va) : Int), (mpR tp ta s (q0P tp ta va)).1)) else (-1 - (mpR tp ta s (q0P tp ta va)).2.1, s)
theorem bAt_lt {tp : Int → Int} {ta i : Int} (h : bAt tp ta i = 59) : i < ta := by
  unfold bAt at h
  split at h
  · next q => exact q
  · omega
theorem wM_ad {a : Nat → Nat} {k : Nat → ClassId} {s kp ot sd st sp tp bi si : Int → Int} {nu mo : Int → Int64} {ik dl tl ta fr to va iw : Int} : (wM a k s kp ot sd st sp tp bi si nu mo ik dl tl ta fr to va iw).map (·.1) = [a 0, a 1, a 2, a 3, a 4, a 5, a 6, a 7, a 8, a 9, a 10, a 11] := rfl
