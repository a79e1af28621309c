/-! the class's reader and the reference's -/
def RQ (tp : Int → Int) (ta : Int) (p : CP) (q : PS) : Prop := q.1 = p.1 ∧ q.2.1 = p.2.1 ∧ q.2.2.2 = 0 ∧ (isD (bAt tp ta p.1) → p.2.2 = mnN tp p.1 (p.2.1 - p.1).toNat) ∧ PI tp ta q
abbrev nbC (tp : Int → Int) (ta lo hi : Int) (p : CP) : Prop := tkC tp ta p.1 = 2 ∧ lo ≤ p.2.2 ∧ p.2.2 ≤ hi
abbrev wdC (tp : Int → Int) (ta : Int) (p : CP) (l : List Int) : Prop := tkC tp ta p.1 = 1 ∧ mtL tp p.1 p.2.1 l
theorem pi_ad {tp : Int → Int} {ta : Int} {q : PS} (h : PI tp ta q) {v : Int} (hv : -2147483648 ≤ v ∧ v < 2147483647) : PI tp ta (tkF tp ta q.2.1, tkT tp ta (tkF tp ta q.2.1), v, 0) := pi_tok (by have := h.1; omega) h.1.2.2.1 h.1.2.2.2.1 hv
section RQS
variable {tp : Int → Int} {ta : Int} {p : CP} {q : PS}
theorem rq_ad (h : RQ tp ta p q) {b : Int} (hb : ¬ b = 0) : RQ tp ta (adC tp ta p) (mstP tp ta b q) := by
  obtain ⟨h1, h2, h3, h4, h5⟩ := h
  have hp := pi_mst h5 b
  unfold mstP at hp ⊢
  rw [if_pos h3, if_neg hb] at hp ⊢
  refine ⟨by unfold adC; rw [h2], by unfold adC; rw [h2], rfl, fun hd => ?_, hp⟩
  unfold adC at hd ⊢
  dsimp only at hd ⊢
  rw [if_pos hd]
theorem rq_no (h : RQ tp ta p q) : (mstP tp ta 0 q).2.2.2 = 1 ∧ (mstP tp ta 0 q).1 = p.1 := by
  obtain ⟨h1, h2, h3, h4, h5⟩ := h
  unfold mstP
  rw [if_pos h3, if_pos rfl]
  exact ⟨rfl, h1⟩
theorem mst_bad {b : Int} (h : q.2.2.2 = 1) : (mstP tp ta b q).2.2.2 = 1 ∧ (mstP tp ta b q).1 = q.1 := by
  unfold mstP
  rw [if_neg (by rw [h]; decide)]
  exact ⟨rfl, rfl⟩
theorem num_bad {lo hi : Int} (h : q.2.2.2 = 1) : numP tp ta lo hi q = q := by
  unfold numP
  rw [if_neg (by rw [h]; decide)]
theorem wrd_bad (h : q.2.2.2 = 1) : wrd tp ta q = 0 := by
  unfold wrd
  rw [if_neg (by rw [h]; decide)]
theorem rq_num (h : RQ tp ta p q) {lo hi : Int} (hhi : hi ≤ 9999) (hn : nbC tp ta lo hi p) : RQ tp ta (adC tp ta p) (numP tp ta lo hi q) ∧ (numP tp ta lo hi q).2.2.1 = p.2.2 := by
  obtain ⟨h1, h2, h3, h4, h5⟩ := h
  have hd := tkC_2.mp hn.1
  have hq : isD (bAt tp ta q.1) := by rw [h1]; exact hd
  have hdig : ∀ j : Nat, j < (p.2.1 - p.1).toNat → isD (tp (p.1 + j)) := fun j hj => h5.2.1 hq (p.1 + j) (by omega) (by omega)
  have hm := mn_nm hdig
  have e4 := h4 hd
  have hv : nmV tp ta q = p.2.2 := by
    unfold nmV
    rw [if_pos hq, h1, h2, e4, hm.1]
    have := hn.2.2
    rw [e4, hm.1] at this
    by_cases z : nmN tp p.1 (p.2.1 - p.1).toNat ≤ 9999
    · rw [if_pos z]
    · rw [if_neg z] at this; omega
  have hin : lo ≤ nmV tp ta q ∧ nmV tp ta q ≤ hi := by rw [hv]; exact hn.2
  have e : numP tp ta lo hi q = mstP tp ta 1 (q.1, q.2.1, nmV tp ta q, q.2.2.2) := by
    unfold numP
    rw [if_pos h3, if_pos hq, if_pos hin]
  rw [e]
  have hvr := nmV_rg h5
  have hr : RQ tp ta p (q.1, q.2.1, nmV tp ta q, q.2.2.2) := ⟨h1, h2, h3, h4, ⟨h5.1, h5.2.1, h5.2.2.1, h5.2.2.2.1, ⟨by dsimp only; omega, by dsimp only; omega⟩⟩⟩
  exact ⟨rq_ad hr (by decide), by rw [mst_va]; exact hv⟩
theorem rq_nnum (h : RQ tp ta p q) {lo hi : Int} (hhi : hi ≤ 9999) (hn : ¬ nbC tp ta lo hi p) : (numP tp ta lo hi q).2.2.2 = 1 ∧ (numP tp ta lo hi q).1 = p.1 := by
  obtain ⟨h1, h2, h3, h4, h5⟩ := h
  have e : numP tp ta lo hi q = mstP tp ta 0 (q.1, q.2.1, nmV tp ta q, q.2.2.2) := by
    unfold numP
    rw [if_pos h3]
    by_cases hq : isD (bAt tp ta q.1)
    · rw [if_pos hq, if_neg]
      intro hin
      apply hn
      have hd : isD (bAt tp ta p.1) := by rw [← h1]; exact hq
      have hdig : ∀ j : Nat, j < (p.2.1 - p.1).toNat → isD (tp (p.1 + j)) := fun j hj => h5.2.1 hq (p.1 + j) (by omega) (by omega)
      have hm := mn_nm hdig
      have e4 := h4 hd
      have hv : nmV tp ta q = nmN tp p.1 (p.2.1 - p.1).toNat := by
        unfold nmV
        rw [if_pos hq, h1, h2]
      rw [hv] at hin
      refine ⟨tkC_2.mpr hd, ?_, ?_⟩ <;> rw [e4, hm.1, if_pos (by omega)] <;> omega
    · rw [if_neg hq]
  rw [e]
  unfold mstP
  rw [if_pos h3, if_pos rfl]
  exact ⟨rfl, h1⟩
theorem wd_eq (h : RQ tp ta p q) {l : List Int} {K : Int} (hK : encR l.reverse = K) (hl : ∀ c ∈ l.reverse, isL c) (hM : K ≤ 36028797018963967) (h0 : ¬ K = 0) : wdC tp ta p l ↔ wrd tp ta q = K := by
  obtain ⟨h1, h2, h3, h4, h5⟩ := h
  unfold wrd
  rw [if_pos h3]
  by_cases hq : isL (bAt tp ta q.1)
  · rw [if_pos hq]
    have hlet : ∀ j : Nat, j < (q.2.1 - q.1).toNat → isL (tp (q.1 + j)) := fun j hj => h5.2.2.1 hq (q.1 + j) (by omega) (by omega)
    have hw := wd_iff (tp := tp) (f := q.1) l.reverse (q.2.1 - q.1).toNat hl (by rw [hK]; exact hM) hlet
    rw [hK, mt_iff, List.length_reverse, List.reverse_reverse] at hw
    rw [hw]
    have hr := h5.1
    constructor
    · rintro ⟨_, b, d⟩
      rw [← h1, ← h2] at b
      rw [← h1] at d
      exact ⟨by omega, fun i hi => d i (by omega)⟩
    · rintro ⟨b, d⟩
      refine ⟨tkC_1.mpr (by rw [← h1]; exact hq), by rw [← h1, ← h2]; omega, fun i hi => ?_⟩
      rw [← h1]; exact d i (by omega)
  · rw [if_neg hq]
    constructor
    · intro z; exact absurd (by rw [h1]; exact tkC_1.mp z.1) hq
    · intro z; exact absurd z.symm h0
end RQS
/-! the words -/
def kdL : Nat → List Int
  | 0 => [109, 101, 110, 100, 101, 114]
  | 1 => [100, 105, 103, 103, 101, 114]
  | 2 => [99, 108, 101, 114, 107]
  | 3 => [98, 114, 105, 98, 101, 114]
  | 4 => [109, 111, 118, 101, 114]
  | _ => [105, 110, 115, 117, 114, 101, 114]
def srL : Nat → List Int
  | 0 => [112, 108, 97, 105, 110]
  | 1 => [119, 97, 116, 101, 114]
  | 2 => [119, 111, 111, 100]
  | 3 => [118, 105, 108, 108, 97, 103, 101]
  | 4 => [104, 105, 108, 108]
  | _ => [114, 111, 97, 100]
def laL : List Int := [108, 97, 110, 100]
def maL : List Int := [109, 97, 112]
def inL : List Int := [105, 110, 99, 111, 109, 101]
def atL : List Int := [97, 116]
def puL : List Int := [112, 117, 114, 115, 101]
def toL : List Int := [116, 111]
def fstK (P : Nat → Prop) [DecidablePred P] : Int := if fst0 P 6 < 6 then (fst0 P 6 : Nat) else -1
theorem fstK_eq (P : Nat → Prop) [DecidablePred P] : fstK P = if P 0 then 0 else if P 1 then 1 else if P 2 then 2 else if P 3 then 3 else if P 4 then 4 else if P 5 then 5 else -1 := by
  unfold fstK
  have key : ∀ i : Nat, i < 6 → P i → (∀ j, j < i → ¬ P j) → (if fst0 P 6 < 6 then ((fst0 P 6 : Nat) : Int) else -1) = (i : Int) := fun i hi hp hj => by rw [fst0_yes hp hj hi, if_pos hi]
  have lt : ∀ {n : Nat}, (∀ j, j < n → ¬ P j) → ¬ P n → ∀ j, j < n + 1 → ¬ P j := fun h1 h2 j hj => by
    rcases Nat.lt_or_ge j _ with q | q
    · exact h1 j q
    · have e := Nat.le_antisymm (Nat.le_of_lt_succ hj) q
      rw [e]; exact h2
  have j0 : ∀ j, j < 0 → ¬ P j := fun j hj => absurd hj (Nat.not_lt_zero j)
  by_cases h0 : P 0
  · rw [if_pos h0]; exact key 0 (by decide) h0 j0
  rw [if_neg h0]
  by_cases h1 : P 1
  · rw [if_pos h1]; exact key 1 (by decide) h1 (lt j0 h0)
  rw [if_neg h1]
  by_cases h2 : P 2
  · rw [if_pos h2]; exact key 2 (by decide) h2 (lt (lt j0 h0) h1)
  rw [if_neg h2]
  by_cases h3 : P 3
  · rw [if_pos h3]; exact key 3 (by decide) h3 (lt (lt (lt j0 h0) h1) h2)
  rw [if_neg h3]
  by_cases h4 : P 4
  · rw [if_pos h4]; exact key 4 (by decide) h4 (lt (lt (lt (lt j0 h0) h1) h2) h3)
  rw [if_neg h4]
  by_cases h5 : P 5
  · rw [if_pos h5]; exact key 5 (by decide) h5 (lt (lt (lt (lt (lt j0 h0) h1) h2) h3) h4)
  rw [if_neg h5, fst0_no (lt (lt (lt (lt (lt (lt j0 h0) h1) h2) h3) h4) h5), if_neg (by decide)]
def kdC (tp : Int → Int) (ta : Int) (p : CP) : Int := fstK (fun k => wdC tp ta p (kdL k))
def srC (tp : Int → Int) (ta : Int) (p : CP) : Int := fstK (fun k => wdC tp ta p (srL k))
theorem fstK_rg (P : Nat → Prop) [DecidablePred P] : -1 ≤ fstK P ∧ fstK P ≤ 5 := by
  unfold fstK
  split <;> omega
theorem ite_iff {P Q : Prop} [Decidable P] [Decidable Q] (h : P ↔ Q) {a b : Int} : (if P then a else b) = if Q then a else b := by
  by_cases p : P
  · rw [if_pos p, if_pos (h.mp p)]
  · rw [if_neg p, if_neg (fun q => p (h.mpr q))]
section WORDS
variable {tp : Int → Int} {ta : Int} {p : CP} {q : PS}
theorem kd_eq (h : RQ tp ta p q) : kdC tp ta p = kdH (wrd tp ta q) := by
  unfold kdC kdH
  rw [fstK_eq]
  have w0 := wd_eq h (l := kdL 0) (K := 441913522) (by decide) (by decide) (by decide) (by decide)
  have w1 := wd_eq h (l := kdL 1) (K := 143891634) (by decide) (by decide) (by decide) (by decide)
  have w2 := wd_eq h (l := kdL 2) (K := 3544651) (by decide) (by decide) (by decide) (by decide)
  have w3 := wd_eq h (l := kdL 3) (K := 86280370) (by decide) (by decide) (by decide) (by decide)
  have w4 := wd_eq h (l := kdL 4) (K := 14145714) (by decide) (by decide) (by decide) (by decide)
  have w5 := wd_eq h (l := kdL 5) (K := 10154068146) (by decide) (by decide) (by decide) (by decide)
  rw [ite_iff w0, ite_iff w1, ite_iff w2, ite_iff w3, ite_iff w4, ite_iff w5]
theorem sr_eq (h : RQ tp ta p q) : srC tp ta p = srH (wrd tp ta q) := by
  unfold srC srH
  rw [fstK_eq]
  have w0 := wd_eq h (l := srL 0) (K := 17171758) (by decide) (by decide) (by decide) (by decide)
  have w1 := wd_eq h (l := srL 1) (K := 24170674) (by decide) (by decide) (by decide) (by decide)
  have w2 := wd_eq h (l := srL 2) (K := 769508) (by decide) (by decide) (by decide) (by decide)
  have w3 := wd_eq h (l := srL 3) (K := 23937287397) (by decide) (by decide) (by decide) (by decide)
  have w4 := wd_eq h (l := srL 4) (K := 271756) (by decide) (by decide) (by decide) (by decide)
  have w5 := wd_eq h (l := srL 5) (K := 605220) (by decide) (by decide) (by decide) (by decide)
  rw [ite_iff w0, ite_iff w1, ite_iff w2, ite_iff w3, ite_iff w4, ite_iff w5]
theorem la_eq (h : RQ tp ta p q) : wdC tp ta p laL ↔ wrd tp ta q = 394692 := wd_eq h (by decide) (by decide) (by decide) (by decide)
theorem mp_eq (h : RQ tp ta p q) : wdC tp ta p maL ↔ wrd tp ta q = 13360 := wd_eq h (by decide) (by decide) (by decide) (by decide)
theorem in_eq (h : RQ tp ta p q) : wdC tp ta p inL ↔ wrd tp ta q = 316784037 := wd_eq h (by decide) (by decide) (by decide) (by decide)
theorem at_eq (h : RQ tp ta p q) : wdC tp ta p atL ↔ wrd tp ta q = 52 := wd_eq h (by decide) (by decide) (by decide) (by decide)
theorem pu_eq (h : RQ tp ta p q) : wdC tp ta p puL ↔ wrd tp ta q = 17484389 := wd_eq h (by decide) (by decide) (by decide) (by decide)
theorem to_eq (h : RQ tp ta p q) : wdC tp ta p toL ↔ wrd tp ta q = 655 := wd_eq h (by decide) (by decide) (by decide) (by decide)
end WORDS
