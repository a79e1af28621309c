/-! the class's reader: (start, end, number) -/
abbrev CP : Type := Int × Int × Int
def mnN (tp : Int → Int) (f : Int) : Nat → Int
  | 0 => 0
  | n + 1 => if 10 * mnN tp f n + tp (f + n) - 48 < 10000 then 10 * mnN tp f n + tp (f + n) - 48 else 10000
abbrev dgP (tp : Int → Int) (ta e : Int) : Nat → Prop := fun j => ¬ isD (bAt tp ta (e + j))
abbrev lgP (tp : Int → Int) (ta e : Int) : Nat → Prop := fun j => ¬ isL (bAt tp ta (e + j))
def dgE (tp : Int → Int) (ta e : Int) : Nat := fst0 (dgP tp ta e) 121
def adC (tp : Int → Int) (ta : Int) (p : CP) : CP := (tkF tp ta p.2.1, tkT tp ta (tkF tp ta p.2.1), if isD (bAt tp ta (tkF tp ta p.2.1)) then mnN tp (tkF tp ta p.2.1) (tkT tp ta (tkF tp ta p.2.1) - tkF tp ta p.2.1).toNat else p.2.2)
def tkC (tp : Int → Int) (ta sa : Int) : Int := if sa < ta then (if isL (tp sa) then 1 else if isD (tp sa) then 2 else if tp sa = 59 then 3 else 4) else 0
theorem tkC_rg (tp : Int → Int) (ta sa : Int) : 0 ≤ tkC tp ta sa ∧ tkC tp ta sa ≤ 4 := by
  unfold tkC
  repeat' split
  all_goals omega
theorem bAt_in {tp : Int → Int} {ta i : Int} (h : i < ta) : bAt tp ta i = tp i := if_pos h
theorem tkC_1 {tp : Int → Int} {ta sa : Int} : tkC tp ta sa = 1 ↔ isL (bAt tp ta sa) := by
  unfold tkC bAt
  by_cases h : sa < ta
  · rw [if_pos h, if_pos h]
    by_cases q : isL (tp sa)
    · rw [if_pos q]; exact ⟨fun _ => q, fun _ => rfl⟩
    · rw [if_neg q]
      constructor
      · intro z; exfalso; revert z; repeat' split
        all_goals decide
      · intro z; exact absurd z q
  · rw [if_neg h, if_neg h]
    exact ⟨fun z => absurd z (by decide), fun z => absurd z.1 (by decide)⟩
theorem tkC_2 {tp : Int → Int} {ta sa : Int} : tkC tp ta sa = 2 ↔ isD (bAt tp ta sa) := by
  unfold tkC bAt
  by_cases h : sa < ta
  · rw [if_pos h, if_pos h]
    by_cases q : isL (tp sa)
    · rw [if_pos q]
      unfold isL at q
      exact ⟨fun z => absurd z (by decide), fun z => by unfold isD at z; omega⟩
    · rw [if_neg q]
      by_cases r : isD (tp sa)
      · rw [if_pos r]; exact ⟨fun _ => r, fun _ => rfl⟩
      · rw [if_neg r]
        constructor
        · intro z; exfalso; revert z; split
          all_goals decide
        · intro z; exact absurd z r
  · rw [if_neg h, if_neg h]
    exact ⟨fun z => absurd z (by decide), fun z => absurd z.1 (by decide)⟩
theorem tkC_3 {tp : Int → Int} {ta sa : Int} : tkC tp ta sa = 3 ↔ bAt tp ta sa = 59 := by
  unfold tkC bAt
  by_cases h : sa < ta
  · rw [if_pos h, if_pos h]
    by_cases q : isL (tp sa)
    · rw [if_pos q]
      unfold isL at q
      exact ⟨fun z => absurd z (by decide), fun z => by omega⟩
    · rw [if_neg q]
      by_cases r : isD (tp sa)
      · rw [if_pos r]
        unfold isD at r
        exact ⟨fun z => absurd z (by decide), fun z => by omega⟩
      · rw [if_neg r]
        by_cases v : tp sa = 59
        · rw [if_pos v]; exact ⟨fun _ => v, fun _ => rfl⟩
        · rw [if_neg v]; exact ⟨fun z => absurd z (by decide), fun z => absurd z v⟩
  · rw [if_neg h, if_neg h]
    exact ⟨fun z => absurd z (by decide), fun z => absurd z (by decide)⟩
theorem tkC_0 {tp : Int → Int} {ta sa : Int} : tkC tp ta sa = 0 ↔ ¬ sa < ta := by
  unfold tkC
  by_cases h : sa < ta
  · rw [if_pos h]
    constructor
    · intro z; exfalso; revert z; repeat' split
      all_goals decide
    · intro z; exact absurd h z
  · rw [if_neg h]; exact ⟨fun _ => h, fun _ => rfl⟩
theorem tkT_end {tp : Int → Int} {ta f : Int} (h : ¬ f < ta) : tkT tp ta f = f := by
  have e1 : tk1 ta f = f := if_neg h
  have e2 : fst0 (tkP tp ta f) 121 = 0 := fst0_yes (p := tkP tp ta f) (by
    show ¬ ((isL (bAt tp ta f) ∧ _) ∨ (isD (bAt tp ta f) ∧ _))
    rw [bAt_hi (show ta ≤ f by omega)]
    unfold isL isD
    omega) (fun j hj => absurd hj (Nat.not_lt_zero j)) (by decide)
  unfold tkT
  rw [e2, e1]
  omega
theorem tkT_o {tp : Int → Int} {ta f : Int} (h : f < ta) (h1 : ¬ isL (tp f)) (h2 : ¬ isD (tp f)) : tkT tp ta f = f + 1 := by
  have e1 : tk1 ta f = f + 1 := if_pos h
  have e2 : fst0 (tkP tp ta f) 121 = 0 := fst0_yes (p := tkP tp ta f) (by
    show ¬ ((isL (bAt tp ta f) ∧ _) ∨ (isD (bAt tp ta f) ∧ _))
    rw [bAt_in h]
    rintro (q | q)
    · exact h1 q.1
    · exact h2 q.1) (fun j hj => absurd hj (Nat.not_lt_zero j)) (by decide)
  unfold tkT
  rw [e2, e1]
  omega
theorem tkT_w {tp : Int → Int} {ta f : Int} {m : Nat} (h : f < ta) (hl : isL (tp f)) (hJ : ∀ j : Nat, j < m → ¬ lgP tp ta f j) (hm : lgP tp ta f m) (hm2 : m < 121) : tkT tp ta f = f + m := by
  have e1 : tk1 ta f = f + 1 := if_pos h
  have hf : isL (bAt tp ta f) := by rw [bAt_in h]; exact hl
  have m1 : 1 ≤ m := by
    rcases Nat.lt_or_ge 0 m with q | q
    · exact q
    · exfalso
      have e : m = 0 := by omega
      subst e
      exact hm (by rw [show f + ((0 : Nat) : Int) = f by omega]; exact hf)
  have e2 : fst0 (tkP tp ta f) 121 = m - 1 := fst0_yes (p := tkP tp ta f) (by
    rintro (q | q)
    · apply hm
      have := q.2
      rw [e1, show f + 1 + ((m - 1 : Nat) : Int) = f + m by omega] at this
      exact this
    · have a := q.1; unfold isD at a; unfold isL at hf; omega) (fun j hj => by
    intro z
    apply z
    left
    refine ⟨hf, ?_⟩
    have := Classical.not_not.mp (hJ (j + 1) (by omega))
    rw [e1, show f + 1 + (j : Int) = f + ((j + 1 : Nat) : Int) by omega]
    exact this) (by omega)
  unfold tkT
  rw [e2, e1]
  omega
theorem tkT_d {tp : Int → Int} {ta f : Int} {m : Nat} (h : f < ta) (hl : isD (tp f)) (hJ : ∀ j : Nat, j < m → ¬ dgP tp ta f j) (hm : dgP tp ta f m) (hm2 : m < 121) : tkT tp ta f = f + m := by
  have e1 : tk1 ta f = f + 1 := if_pos h
  have hf : isD (bAt tp ta f) := by rw [bAt_in h]; exact hl
  have m1 : 1 ≤ m := by
    rcases Nat.lt_or_ge 0 m with q | q
    · exact q
    · exfalso
      have e : m = 0 := by omega
      subst e
      exact hm (by rw [show f + ((0 : Nat) : Int) = f by omega]; exact hf)
  have e2 : fst0 (tkP tp ta f) 121 = m - 1 := fst0_yes (p := tkP tp ta f) (by
    rintro (q | q)
    · have a := q.1; unfold isL at a; unfold isD at hf; omega
    · apply hm
      have := q.2
      rw [e1, show f + 1 + ((m - 1 : Nat) : Int) = f + m by omega] at this
      exact this) (fun j hj => by
    intro z
    apply z
    right
    refine ⟨hf, ?_⟩
    have := Classical.not_not.mp (hJ (j + 1) (by omega))
    rw [e1, show f + 1 + (j : Int) = f + ((j + 1 : Nat) : Int) by omega]
    exact this) (by omega)
  unfold tkT
  rw [e2, e1]
  omega
theorem dg_end {tp : Int → Int} {ta e : Int} (h0 : 0 ≤ e) (h1 : e ≤ ta) : dgP tp ta e (ta - e).toNat := by
  show ¬ isD (bAt tp ta (e + ((ta - e).toNat : Nat)))
  rw [bAt_hi (by omega)]; unfold isD; omega
theorem lg_end {tp : Int → Int} {ta e : Int} (h0 : 0 ≤ e) (h1 : e ≤ ta) : lgP tp ta e (ta - e).toNat := by
  show ¬ isL (bAt tp ta (e + ((ta - e).toNat : Nat)))
  rw [bAt_hi (by omega)]; unfold isL; omega
theorem dgE_sp {tp : Int → Int} {ta e : Int} (h0 : 0 ≤ e) (h1 : e ≤ ta) (h2 : ta ≤ 120) : dgE tp ta e ≤ (ta - e).toNat ∧ dgP tp ta e (dgE tp ta e) ∧ ∀ j : Nat, j < dgE tp ta e → ¬ dgP tp ta e j := by
  have a : dgE tp ta e ≤ (ta - e).toNat := fst0_ub (p := dgP tp ta e) (dg_end h0 h1)
  exact ⟨a, fst0_at (p := dgP tp ta e) (n := 121) (by unfold dgE at a; omega), fun j hj => fst0_lt (p := dgP tp ta e) (n := 121) hj⟩
theorem mnN_rg {tp : Int → Int} (h : ∀ i, 0 ≤ tp i ∧ tp i ≤ 255) {f : Int} : ∀ {n : Nat}, (∀ j : Nat, j < n → isD (tp (f + j))) → 0 ≤ mnN tp f n ∧ mnN tp f n ≤ 10000
  | 0, _ => by rw [mnN]; decide
  | n + 1, hd => by
    have ih := mnN_rg h (f := f) (n := n) (fun j hj => hd j (by omega))
    have h1 := hd n (by omega)
    unfold isD at h1
    rw [mnN]
    split <;> omega
theorem mn_nm {tp : Int → Int} {f : Int} : ∀ {n : Nat}, (∀ j : Nat, j < n → isD (tp (f + j))) → mnN tp f n = (if nmN tp f n ≤ 9999 then nmN tp f n else 10000) ∧ 0 ≤ nmN tp f n
  | 0, _ => by rw [mnN, nmN]; decide
  | n + 1, hd => by
    have ih := mn_nm (f := f) (n := n) (fun j hj => hd j (by omega))
    have h1 := hd n (by omega)
    unfold isD at h1
    rw [mnN, nmN, ih.1]
    have h2 := ih.2
    by_cases q : nmN tp f n ≤ 9999
    · rw [if_pos q, if_pos q]
      refine ⟨?_, by omega⟩
      by_cases r : 10 * nmN tp f n + tp (f + n) - 48 < 10000
      · rw [if_pos r, if_pos (by omega)]
      · rw [if_neg r, if_neg (by omega)]
    · rw [if_neg q, if_neg q, if_neg (by omega), if_neg q]
      exact ⟨rfl, h2⟩
/-! words -/
def encR : List Int → Int
  | [] => 0
  | c :: l => 32 * encR l + (c - 96)
def mtR (tp : Int → Int) (f : Int) : Nat → List Int → Prop
  | 0, [] => True
  | n + 1, c :: l => tp (f + n) = c ∧ mtR tp f n l
  | _, _ => False
theorem wdZ_b {tp : Int → Int} {f : Int} : ∀ {n : Nat}, (∀ j : Nat, j < n → isL (tp (f + j))) → 0 ≤ wdZ tp f n ∧ wdZ tp f n ≤ 1152921504606846970 ∧ (0 < n → 1 ≤ wdZ tp f n)
  | 0, _ => by rw [wdZ]; exact ⟨by decide, by decide, fun h => absurd h (by decide)⟩
  | n + 1, hd => by
    have ih := wdZ_b (f := f) (n := n) (fun j hj => hd j (by omega))
    have h1 := hd n (by omega)
    unfold isL at h1
    rw [wdZ]
    by_cases q : wdZ tp f n ≤ 36028797018963967
    · rw [if_pos q, lI_toInt ⟨by omega, by omega⟩]
      exact ⟨by omega, by omega, fun _ => by omega⟩
    · rw [if_neg q]
      exact ⟨ih.1, ih.2.1, fun _ => by omega⟩
theorem encR_nn : ∀ {l : List Int}, (∀ c ∈ l, isL c) → 0 ≤ encR l
  | [], _ => by rw [encR]; decide
  | c :: l, h => by
    have ih := encR_nn (l := l) (fun x hx => h x (List.mem_cons_of_mem _ hx))
    have h1 := h c List.mem_cons_self
    unfold isL at h1
    rw [encR]; omega
theorem wd_iff {tp : Int → Int} {f : Int} : ∀ (l : List Int) (n : Nat), (∀ c ∈ l, isL c) → encR l ≤ 36028797018963967 → (∀ j : Nat, j < n → isL (tp (f + j))) → (wdZ tp f n = encR l ↔ mtR tp f n l)
  | [], 0, _, _, _ => by rw [wdZ, encR, mtR]; exact ⟨fun _ => trivial, fun _ => rfl⟩
  | [], n + 1, _, _, hd => by
    have := (wdZ_b hd).2.2 (by omega)
    rw [encR, mtR]
    · exact ⟨fun z => by omega, fun z => z.elim⟩
    all_goals (intros; simp_all)
  | c :: l, 0, hl, _, _ => by
    have h0 := encR_nn (l := l) (fun x hx => hl x (List.mem_cons_of_mem _ hx))
    have h1 := hl c List.mem_cons_self
    unfold isL at h1
    rw [wdZ, encR, mtR]
    · exact ⟨fun z => by omega, fun z => z.elim⟩
    all_goals (intros; simp_all)
  | c :: l, n + 1, hl, hM, hd => by
    have h0 := encR_nn (l := l) (fun x hx => hl x (List.mem_cons_of_mem _ hx))
    have h1 := hl c List.mem_cons_self
    have h2 := hd n (by omega)
    unfold isL at h1 h2
    have hM2 : encR l ≤ 36028797018963967 := by rw [encR] at hM; omega
    have ih := wd_iff l n (fun x hx => hl x (List.mem_cons_of_mem _ hx)) hM2 (fun j hj => hd j (by omega))
    have hb := wdZ_b (f := f) (n := n) (fun j hj => hd j (by omega))
    rw [wdZ, encR, mtR]
    by_cases q : wdZ tp f n ≤ 36028797018963967
    · rw [if_pos q, lI_toInt ⟨by omega, by omega⟩]
      constructor
      · intro z
        exact ⟨by omega, ih.mp (by omega)⟩
      · intro z
        have := ih.mpr z.2
        omega
    · rw [if_neg q]
      rw [encR] at hM
      constructor
      · intro z; omega
      · intro z
        have := ih.mpr z.2
        omega
theorem gdl {A B : List Int} {i : Nat} (h : i < A.length) : (A ++ B).getD i 0 = A.getD i 0 := by rw [List.getD_eq_getElem?_getD, List.getD_eq_getElem?_getD, List.getElem?_append_left h]
theorem gdr {A : List Int} {c : Int} {i : Nat} (h : i = A.length) : (A ++ [c]).getD i 0 = c := by
  subst h
  rw [List.getD_eq_getElem?_getD, List.getElem?_append_right (Nat.le_refl _), Nat.sub_self]; rfl
abbrev mtL (tp : Int → Int) (sa en : Int) (l : List Int) : Prop := en - sa = l.length ∧ ∀ i : Nat, i < l.length → tp (sa + i) = l.getD i 0
theorem mt_iff {tp : Int → Int} {f : Int} : ∀ (l : List Int) (n : Nat), mtR tp f n l ↔ n = l.length ∧ ∀ i : Nat, i < n → tp (f + i) = l.reverse.getD i 0
  | [], 0 => by rw [mtR]; exact ⟨fun _ => ⟨rfl, fun i h => absurd h (Nat.not_lt_zero i)⟩, fun _ => trivial⟩
  | [], n + 1 => by
    rw [mtR]
    · exact ⟨fun z => z.elim, fun z => by have := z.1; simp at this⟩
    all_goals (intros; simp_all)
  | c :: l, 0 => by
    rw [mtR]
    · exact ⟨fun z => z.elim, fun z => by have := z.1; simp at this⟩
    all_goals (intros; simp_all)
  | c :: l, n + 1 => by
    have ih := mt_iff (tp := tp) (f := f) l n
    rw [mtR, ih, List.length_cons]
    constructor
    · rintro ⟨a, b, d⟩
      refine ⟨by omega, fun i hi => ?_⟩
      rw [List.reverse_cons]
      rcases Nat.lt_or_ge i n with z | z
      · rw [d i z, gdl (by rw [List.length_reverse]; omega)]
      · have e : i = n := by omega
        subst e
        rw [a, gdr (by rw [List.length_reverse]; omega)]
    · rintro ⟨b, d⟩
      have b2 : n = l.length := by omega
      refine ⟨?_, b2, fun i hi => ?_⟩
      · have := d n (by omega)
        rw [List.reverse_cons, gdr (by rw [List.length_reverse]; omega)] at this
        exact this
      · have := d i (by omega)
        rw [List.reverse_cons, gdl (by rw [List.length_reverse]; omega)] at this
        exact this
