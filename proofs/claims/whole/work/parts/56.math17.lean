/-! items -/
abbrev R3 : Type := Int × (Int → Int) × CP
def cMd (tp : Int → Int) (ta kd : Int) (s : Int → Int) (p : CP) : R3 :=
  if s 0 < 6 then (if wdC tp ta (adC tp ta p) atL then (if nbC tp ta 0 47 (adC tp ta (adC tp ta p)) then
    (if wdC tp ta (adC tp ta (adC tp ta (adC tp ta p))) puL then (if nbC tp ta 0 9999 (adC tp ta (adC tp ta (adC tp ta (adC tp ta p)))) then (1, addS s kd (adC tp ta (adC tp ta p)).2.2 (adC tp ta (adC tp ta (adC tp ta (adC tp ta p)))).2.2, adC tp ta (adC tp ta (adC tp ta (adC tp ta (adC tp ta p))))) else (0, s, adC tp ta (adC tp ta (adC tp ta (adC tp ta p)))))
      else (1, addS s kd (adC tp ta (adC tp ta p)).2.2 50, adC tp ta (adC tp ta (adC tp ta p))))
    else (0, s, adC tp ta (adC tp ta p))) else (0, s, adC tp ta p)) else (0, s, p)
def cCl (tp : Int → Int) (ta b : Int) (s : Int → Int) (p : CP) : R3 :=
  if nbC tp ta 0 47 (adC tp ta p) then (if srC tp ta (adC tp ta (adC tp ta p)) < 0 then (0, s, adC tp ta (adC tp ta p)) else
    (if wdC tp ta (adC tp ta (adC tp ta (adC tp ta p))) toL then (if nbC tp ta (adC tp ta p).2.2 47 (adC tp ta (adC tp ta (adC tp ta (adC tp ta p)))) then (1, clN s b (adC tp ta p).2.2 (srC tp ta (adC tp ta (adC tp ta p))) ((adC tp ta (adC tp ta (adC tp ta (adC tp ta p)))).2.2 + 1 - (adC tp ta p).2.2).toNat, adC tp ta (adC tp ta (adC tp ta (adC tp ta (adC tp ta p))))) else (0, s, adC tp ta (adC tp ta (adC tp ta (adC tp ta p)))))
      else (1, clN s b (adC tp ta p).2.2 (srC tp ta (adC tp ta (adC tp ta p))) 1, adC tp ta (adC tp ta (adC tp ta p))))) else (0, s, adC tp ta p)
def cIn (tp : Int → Int) (ta : Int) (s : Int → Int) (p : CP) : R3 := if nbC tp ta 0 20 (adC tp ta p) then (1, up s 2 (adC tp ta p).2.2, adC tp ta (adC tp ta p)) else (0, s, adC tp ta p)
def cIt (tp : Int → Int) (ta : Int) (s : Int → Int) (p : CP) : R3 :=
  if kdC tp ta p < 0 then (if wdC tp ta p laL then cCl tp ta 3 s p else if wdC tp ta p maL then cCl tp ta 51 s p else if wdC tp ta p inL then cIn tp ta s p else (0, s, p)) else cMd tp ta (kdC tp ta p) s p
def EqI (tp : Int → Int) (ta : Int) (s : Int → Int) (r : R3) (z : SQ) : Prop := (r.1 = 1 ∧ r.2.1 = z.1 ∧ RQ tp ta r.2.2 z.2) ∨ (r.1 = 0 ∧ r.2.1 = s ∧ z.2.2.2.2 = 1 ∧ z.2.1 = r.2.2.1)
theorem addS_pu {s : Int → Int} (h0 : 0 ≤ s 0) {kd c a b : Int} : up (addS s kd c a) (99 + 4 * s 0 + 2) b = addS s kd c b := by
  funext i
  unfold addS
  by_cases e0 : i = 0
  · subst e0
    rw [up_n (by omega), up_s, up_s, up_n (by omega), up_n (by omega), up_n (by omega), up_n (by omega), up_n (by omega), up_n (by omega), up_n (by omega), up_n (by omega)]
  · by_cases e2 : i = 99 + 4 * s 0 + 2
    · subst e2
      rw [up_s, up_n (by omega), up_n (by omega), up_s]
    · rw [up_n e2, up_n e0, up_n e0]
      by_cases e3 : i = 99 + 4 * s 0 + 3
      · subst e3; rw [up_s, up_s]
      · rw [up_n e3, up_n e3, up_n e2, up_n e2]
section ITEMS
variable {tp : Int → Int} {ta : Int} {s : Int → Int} {p : CP} {q : PS}
theorem md_bad {kd : Int} {Q : PS} (h : Q.2.2.2 = 1) : mdT tp ta kd s Q = (s, Q) := by
  unfold mdT
  rw [if_neg (by rw [h]; decide)]
theorem md_eq (h : RQ tp ta p q) (h0 : 0 ≤ s 0) {kd : Int} : EqI tp ta s (cMd tp ta kd s p) (mdI tp ta kd s q) := by
  unfold cMd mdI
  by_cases a0 : s 0 < 6
  · rw [if_pos a0, if_pos a0]
    have r1 := rq_ad h (b := 1) (by decide)
    have w1 := at_eq r1
    by_cases a1 : wdC tp ta (adC tp ta p) atL
    · rw [if_pos a1, if_pos (w1.mp a1)]
      have r2 := rq_ad r1 (b := 1) (by decide)
      by_cases a2 : nbC tp ta 0 47 (adC tp ta (adC tp ta p))
      · rw [if_pos a2]
        obtain ⟨r3, v3⟩ := rq_num r2 (by decide) a2
        have w3 := pu_eq r3
        unfold mdT
        rw [if_pos r3.2.2.1]
        by_cases a3 : wdC tp ta (adC tp ta (adC tp ta (adC tp ta p))) puL
        · rw [if_pos a3, if_pos (w3.mp a3)]
          have r4 := rq_ad r3 (b := 1) (by decide)
          by_cases a4 : nbC tp ta 0 9999 (adC tp ta (adC tp ta (adC tp ta (adC tp ta p))))
          · rw [if_pos a4]
            obtain ⟨r5, v5⟩ := rq_num r4 (by decide) a4
            exact Or.inl ⟨rfl, by dsimp only; rw [v3, v5, addS_pu h0], r5⟩
          · rw [if_neg a4]
            have := rq_nnum r4 (by decide) a4
            exact Or.inr ⟨rfl, rfl, this.1, this.2⟩
        · rw [if_neg a3, if_neg (fun z => a3 (w3.mpr z))]
          exact Or.inl ⟨rfl, by dsimp only; rw [v3], r3⟩
      · rw [if_neg a2]
        have := rq_nnum r2 (by decide) a2
        rw [md_bad this.1]
        exact Or.inr ⟨rfl, rfl, this.1, this.2⟩
    · rw [if_neg a1, if_neg (fun z => a1 (w1.mpr z))]
      have := rq_no r1
      rw [num_bad this.1, md_bad this.1]
      exact Or.inr ⟨rfl, rfl, this.1, this.2⟩
  · rw [if_neg a0, if_neg a0]
    have z := rq_no h
    have w : wrd tp ta (mstP tp ta 0 q) = 0 := wrd_bad z.1
    rw [w, if_neg (show ¬ (0 : Int) = 52 by decide)]
    have z2 := mst_bad (tp := tp) (ta := ta) (b := 0) z.1
    rw [num_bad z2.1, md_bad z2.1]
    exact Or.inr ⟨rfl, rfl, z2.1, z2.2.trans z.2⟩
theorem cl_bad {b f v : Int} {Q : PS} (h : Q.2.2.2 = 1) : clE tp ta b s f v Q = (s, Q) := by
  unfold clE
  rw [wrd_bad h, if_neg (show ¬ (0 : Int) = 655 by decide), if_neg (by rw [h]; decide)]
theorem cl_eq (h : RQ tp ta p q) {b : Int} : EqI tp ta s (cCl tp ta b s p) (clI tp ta b s q) := by
  unfold cCl clI
  have r1 := rq_ad h (b := 1) (by decide)
  by_cases a1 : nbC tp ta 0 47 (adC tp ta p)
  · rw [if_pos a1]
    obtain ⟨r2, v2⟩ := rq_num r1 (by decide) a1
    have e2 := sr_eq r2
    rw [← e2, v2]
    by_cases a2 : srC tp ta (adC tp ta (adC tp ta p)) < 0
    · rw [if_pos a2, if_pos a2]
      have z := rq_no r2
      rw [cl_bad z.1]
      exact Or.inr ⟨rfl, rfl, z.1, z.2⟩
    · rw [if_neg a2, if_neg a2]
      have r3 := rq_ad r2 (b := 1) (by decide)
      have w3 := to_eq r3
      unfold clE
      by_cases a3 : wdC tp ta (adC tp ta (adC tp ta (adC tp ta p))) toL
      · rw [if_pos a3, if_pos (w3.mp a3)]
        have r4 := rq_ad r3 (b := 1) (by decide)
        by_cases a4 : nbC tp ta (adC tp ta p).2.2 47 (adC tp ta (adC tp ta (adC tp ta (adC tp ta p))))
        · rw [if_pos a4]
          obtain ⟨r5, v5⟩ := rq_num r4 (by decide) a4
          rw [if_pos r5.2.2.1, v5]
          exact Or.inl ⟨rfl, rfl, r5⟩
        · rw [if_neg a4]
          have z := rq_nnum r4 (by decide) a4
          exact Or.inr ⟨rfl, rfl, z.1, z.2⟩
      · rw [if_neg a3, if_neg (fun z => a3 (w3.mpr z)), if_pos r3.2.2.1]
        exact Or.inl ⟨rfl, rfl, r3⟩
  · rw [if_neg a1]
    have z := rq_nnum r1 (by decide) a1
    have w : wrd tp ta (numP tp ta 0 47 (mstP tp ta 1 q)) = 0 := wrd_bad z.1
    rw [w]
    have z2 := mst_bad (tp := tp) (ta := ta) (b := if srH 0 < 0 then 0 else 1) z.1
    rw [cl_bad z2.1]
    exact Or.inr ⟨rfl, rfl, z2.1, z2.2.trans z.2⟩
theorem in_yes (h : RQ tp ta p q) (hw : wrd tp ta q = 316784037) : EqI tp ta s (cIn tp ta s p) (inI tp ta s q) := by
  unfold cIn inI
  rw [if_pos hw]
  have r1 := rq_ad h (b := 1) (by decide)
  by_cases a1 : nbC tp ta 0 20 (adC tp ta p)
  · rw [if_pos a1]
    obtain ⟨r2, v2⟩ := rq_num r1 (by decide) a1
    rw [if_pos r2.2.2.1, v2]
    exact Or.inl ⟨rfl, rfl, r2⟩
  · rw [if_neg a1]
    have z := rq_nnum r1 (by decide) a1
    exact Or.inr ⟨rfl, rfl, z.1, z.2⟩
theorem in_no (h : RQ tp ta p q) (hw : ¬ wrd tp ta q = 316784037) : EqI tp ta s (0, s, p) (inI tp ta s q) := by
  unfold inI
  rw [if_neg hw]
  have z := rq_no h
  rw [num_bad z.1]
  exact Or.inr ⟨rfl, rfl, z.1, z.2⟩
theorem it_eq (h : RQ tp ta p q) (h0 : 0 ≤ s 0) : EqI tp ta s (cIt tp ta s p) (itI tp ta s q) := by
  unfold cIt itI
  rw [← kd_eq h]
  by_cases a : kdC tp ta p < 0
  · rw [if_pos a, if_pos a]
    by_cases b : wdC tp ta p laL
    · rw [if_pos b, if_pos ((la_eq h).mp b)]; exact cl_eq h
    · rw [if_neg b, if_neg (fun z => b ((la_eq h).mpr z))]
      by_cases c : wdC tp ta p maL
      · rw [if_pos c, if_pos ((mp_eq h).mp c)]; exact cl_eq h
      · rw [if_neg c, if_neg (fun z => c ((mp_eq h).mpr z))]
        by_cases d : wdC tp ta p inL
        · rw [if_pos d]; exact in_yes h ((in_eq h).mp d)
        · rw [if_neg d]; exact in_no h (fun z => d ((in_eq h).mpr z))
  · rw [if_neg a, if_neg a]; exact md_eq h h0
end ITEMS
/-! the whole text -/
def cpR (tp : Int → Int) (ta : Int) (s : Int → Int) (p : CP) : Nat → (Int → Int) × CP
  | 0 => (s, p)
  | n + 1 => ((cIt tp ta (cpR tp ta s p n).1 (cpR tp ta s p n).2).2.1, adC tp ta (cIt tp ta (cpR tp ta s p n).1 (cpR tp ta s p n).2).2.2)
abbrev cIr (tp : Int → Int) (ta : Int) (s : Int → Int) (p : CP) (n : Nat) : R3 := cIt tp ta (cpR tp ta s p n).1 (cpR tp ta s p n).2
abbrev crT (tp : Int → Int) (ta : Int) (s : Int → Int) (p : CP) : Nat → Prop := fun n => ¬ ((cIr tp ta s p n).1 = 1 ∧ tkC tp ta (cIr tp ta s p n).2.2.1 = 3)
def crF (tp : Int → Int) (ta : Int) (s : Int → Int) (p : CP) : Nat := fst0 (crT tp ta s p) 120
def crO (tp : Int → Int) (ta : Int) (s : Int → Int) (p : CP) : R3 := if crF tp ta s p < 120 then cIr tp ta s p (crF tp ta s p) else (0, (cpR tp ta s p 120).1, (cpR tp ta s p 120).2)
def crA (tp : Int → Int) (ta : Int) (s : Int → Int) (p : CP) : Int := if (crO tp ta s p).1 = 1 then (if tkC tp ta (crO tp ta s p).2.2.1 = 0 then 1 + (crF tp ta s p : Int) else -1 - (crO tp ta s p).2.2.1) else -1 - (crO tp ta s p).2.2.1
theorem cIt_end {tp : Int → Int} {ta : Int} {s : Int → Int} {p : CP} (h : ¬ p.1 < ta) : cIt tp ta s p = (0, s, p) := by
  have hk : ∀ l, ¬ wdC tp ta p l := fun l z => by
    have := z.1
    rw [tkC_0.mpr h] at this
    exact absurd this (by decide)
  have e : kdC tp ta p = -1 := by
    unfold kdC
    rw [fstK_eq, if_neg (hk _), if_neg (hk _), if_neg (hk _), if_neg (hk _), if_neg (hk _), if_neg (hk _)]
  unfold cIt
  rw [e, if_pos (by decide), if_neg (hk _), if_neg (hk _), if_neg (hk _)]
section WHOLE
variable {tp : Int → Int} {ta : Int} {s : Int → Int} {p : CP} {q : PS}
/-- how class and reference stand before item n -/
def BfI (tp : Int → Int) (ta : Int) (s : Int → Int) (p : CP) (q : PS) (n : Nat) : Prop := ∃ S Q, RQ tp ta (cpR tp ta s p n).2 Q ∧ (cpR tp ta s p n).1 = S ∧ Ok S ∧ mpN tp ta s q n = itI tp ta S Q
theorem bf_0 (h : RQ tp ta p q) (hs : Ok s) : BfI tp ta s p q 0 := ⟨s, q, h, rfl, hs, rfl⟩
theorem bf_eq {n : Nat} (h : BfI tp ta s p q n) : EqI tp ta (cpR tp ta s p n).1 (cIr tp ta s p n) (mpN tp ta s q n) := by
  obtain ⟨S, Q, h1, h2, h3, h4⟩ := h
  rw [h4, ← h2]
  exact it_eq h1 (by rw [h2]; exact (h3.1 0 (by decide)).1)
theorem bf_s {n : Nat} (h : BfI tp ta s p q n) (hc : ¬ crT tp ta s p n) : BfI tp ta s p q (n + 1) := by
  have e := bf_eq h
  have hc2 := Classical.not_not.mp hc
  obtain ⟨S, Q, h1, h2, h3, h4⟩ := h
  rcases e with e | e
  · refine ⟨(mpN tp ta s q n).1, mstP tp ta 1 (mpN tp ta s q n).2, rq_ad e.2.2 (by decide), e.2.1, ?_, rfl⟩
    rw [h4]
    exact ok_itI h1.2.2.2.2 h3
  · have := hc2.1; rw [e.1] at this; exact absurd this (by decide)
theorem bf_all (h : RQ tp ta p q) (hs : Ok s) : ∀ n : Nat, (∀ j, j < n → ¬ crT tp ta s p j) → BfI tp ta s p q n
  | 0, _ => bf_0 h hs
  | n + 1, hj => bf_s (bf_all h hs n (fun j z => hj j (by omega))) (hj n (by omega))
theorem st_iff {n : Nat} (h : BfI tp ta s p q n) : crT tp ta s p n ↔ mpP tp ta s q n := by
  have e := bf_eq h
  unfold crT mpP
  refine not_congr ?_
  rcases e with e | e
  · have r := e.2.2
    rw [tkC_3, ← r.1]
    exact ⟨fun z => ⟨r.2.2.1, z.2⟩, fun z => ⟨e.1, z.2⟩⟩
  · constructor
    · intro z; have := z.1; rw [e.1] at this; exact absurd this (by decide)
    · intro z; have := z.1; rw [e.2.2.1] at this; exact absurd this (by decide)
theorem cr_map (h : RQ tp ta p q) (hs : Ok s) (hta : ta ≤ 120) {va : Int} (hq : q = q0P tp ta va) : crA tp ta s p = (fMap s tp ta va).1 ∧ (0 < crA tp ta s p → (crO tp ta s p).2.1 = (fMap s tp ta va).2) ∧ (¬ 0 < crA tp ta s p → (fMap s tp ta va).2 = s) := by
  have hmp : ∀ n, mpP tp ta s q n → (∀ j, j < n → ¬ mpP tp ta s q j) → n < 121 → mpF tp ta s q = n := fun n a b c => fst0_yes (p := mpP tp ta s q) a b c
  by_cases c : crF tp ta s p < 120
  · have hat : crT tp ta s p (crF tp ta s p) := fst0_at (p := crT tp ta s p) c
    have hlt : ∀ j, j < crF tp ta s p → ¬ crT tp ta s p j := fun j hj => fst0_lt (p := crT tp ta s p) (n := 120) hj
    have hb := bf_all h hs (crF tp ta s p) hlt
    have hF : mpF tp ta s q = crF tp ta s p := hmp _ ((st_iff hb).mp hat) (fun j hj z => hlt j hj ((st_iff (bf_all h hs j (fun i hi => hlt i (by omega)))).mpr z)) (by omega)
    have eO : crO tp ta s p = cIr tp ta s p (crF tp ta s p) := by unfold crO; rw [if_pos c]
    have e := bf_eq hb
    unfold fMap crA mpR
    rw [← hq, hF, eO]
    generalize crF tp ta s p = N at *
    rcases e with e | e
    · have r := e.2.2
      rw [if_pos r.2.2.1, if_pos e.1]
      by_cases z : (mpN tp ta s q N).2.1 < ta
      · rw [if_pos z, if_neg (fun w => tkC_0.mp w (by rw [← r.1]; exact z))]
        have := r.2.2.2.2.1
        refine ⟨by rw [r.1], fun w => ?_, fun _ => rfl⟩
        rw [← r.1] at w; omega
      · rw [if_neg z, if_pos (tkC_0.mpr (by rw [← r.1]; exact z))]
        exact ⟨rfl, fun _ => e.2.1, fun w => absurd (show (0 : Int) < 1 + (N : Int) by omega) w⟩
    · have i1 : ¬ (cIr tp ta s p N).1 = 1 := by rw [e.1]; decide
      have i2 : ¬ (mpN tp ta s q N).2.2.2.2 = 0 := by rw [e.2.2.1]; decide
      rw [if_neg i1, if_neg i2, e.2.2.2]
      have hp : 0 ≤ (mpN tp ta s q N).2.1 := by
        obtain ⟨S, Q, h1, h2, h3, h4⟩ := hb
        rw [h4]
        exact (pi_itI h1.2.2.2.2).1.1
      rw [e.2.2.2] at hp
      exact ⟨rfl, fun w => by omega, fun _ => rfl⟩
  · have hlt : ∀ j, j < 120 → ¬ crT tp ta s p j := fun j hj => fst0_lt (p := crT tp ta s p) (n := 120) (by have := fst0_le (crT tp ta s p) 120; unfold crF at c; omega)
    have hb := bf_all h hs 120 hlt
    have hlo : ∀ n : Nat, n < 120 → (n : Int) ≤ (mpN tp ta s q n).2.1 := by
      intro n
      induction n with
      | zero =>
        intro _
        have := pi_mpN s h.2.2.2.2 0
        exact this.1.1
      | succ n ih =>
        intro hn
        have i1 := ih (by omega)
        have z := Classical.not_not.mp (fun w => hlt n (by omega) ((st_iff (bf_all h hs n (fun j hj => hlt j (by omega)))).mpr w))
        have st := mp_step (mpN tp ta s q n).1 (pi_mpN s h.2.2.2.2 n) z.1 (bAt_lt z.2)
        show _ ≤ (itI tp ta (mpN tp ta s q n).1 (mstP tp ta 1 (mpN tp ta s q n).2)).2.1
        omega
    have z119 := Classical.not_not.mp (fun w => hlt 119 (by omega) ((st_iff (bf_all h hs 119 (fun j hj => hlt j (by omega)))).mpr w))
    have l119 := hlo 119 (by omega)
    have p119 := pi_mpN s h.2.2.2.2 119
    have lt119 := bAt_lt z119.2
    obtain ⟨S, Q, h1, h2, h3, h4⟩ := hb
    have e119 := bf_eq (bf_all h hs 119 (fun j hj => hlt j (by omega)))
    have hst : ¬ (cpR tp ta s p 120).2.1 < ta := by
      show ¬ (adC tp ta (cIr tp ta s p 119).2.2).1 < ta
      rcases e119 with e | e
      · have r := e.2.2
        unfold adC
        dsimp only
        have g := p119.1
        have := tkF_rg (tp := tp) (ta := ta) (p := (mpN tp ta s q 119).2.2.1) (by omega) (by omega)
        rw [← r.2.1]
        have := g.2.2.2.2 lt119
        omega
      · rw [e.2.2.1] at z119; exact absurd z119.1 (by decide)
    have e120 := bf_eq ⟨S, Q, h1, h2, h3, h4⟩
    have eE : cIr tp ta s p 120 = (0, (cpR tp ta s p 120).1, (cpR tp ta s p 120).2) := cIt_end hst
    have eO : crO tp ta s p = (0, (cpR tp ta s p 120).1, (cpR tp ta s p 120).2) := by unfold crO; rw [if_neg c]
    have ht120 : crT tp ta s p 120 := fun w => by
      have := w.1
      rw [eE] at this
      exact absurd this (show ¬ (0 : Int) = 1 by decide)
    have hF : mpF tp ta s q = 120 := hmp 120 ((st_iff ⟨S, Q, h1, h2, h3, h4⟩).mp ht120) (fun j hj z => hlt j hj ((st_iff (bf_all h hs j (fun i hi => hlt i (by omega)))).mpr z)) (by omega)
    rw [eE] at e120
    rcases e120 with e | e
    · exact absurd e.1 (show ¬ (0 : Int) = 1 by decide)
    · have hp : 0 ≤ (mpN tp ta s q 120).2.1 := by
        rw [h4]
        exact (pi_itI h1.2.2.2.2).1.1
      unfold fMap crA mpR
      have i1 : ¬ ((0 : Int), (cpR tp ta s p 120).1, (cpR tp ta s p 120).2).1 = 1 := show ¬ (0 : Int) = 1 by decide
      have i2 : ¬ (mpN tp ta s q 120).2.2.2.2 = 0 := by rw [e.2.2.1]; decide
      rw [← hq, hF, eO, if_neg i1, if_neg i2, e.2.2.2]
      rw [e.2.2.2] at hp
      dsimp only at hp ⊢
      exact ⟨rfl, fun w => by omega, fun _ => rfl⟩
end WHOLE
