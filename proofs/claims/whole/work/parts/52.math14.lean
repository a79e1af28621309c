/-! ways, by bits -/
def opB (s : Int → Int) (w : Int) : Nat → Bool := fun i => decide (i < 48) && decide (opn s i w)
theorem op_0 (s : Int → Int) : lB (anF allF (noF (loF s 1 48))) = lB (opB s 0) := lB_cong (fun i _ => by
  unfold anF allF noF loF opB
  by_cases h : i < 48
  · rw [decide_eq_true h, Bool.true_and, Bool.true_and, Bool.true_and]
    by_cases q : s (3 + i) = 1
    · rw [decide_eq_true q, decide_eq_false (show ¬ opn s i 0 by unfold opn; omega)]; rfl
    · rw [decide_eq_false q, decide_eq_true (show opn s i 0 by unfold opn; omega)]; rfl
  · rw [decide_eq_false h]; simp)
theorem op_1 (s : Int → Int) {w : Int} (hw : ¬ w = 0) : lB (orF (loF s 5 48) (loF s 3 48)) = lB (opB s w) := lB_cong (fun i _ => by
  unfold orF loF opB
  by_cases h : i < 48
  · rw [decide_eq_true h, Bool.true_and, Bool.true_and, Bool.true_and]
    by_cases q : s (3 + i) = 5
    · rw [decide_eq_true q, decide_eq_true (show opn s i w by unfold opn; omega)]; rfl
    · rw [decide_eq_false q, Bool.false_or]
      by_cases r : s (3 + i) = 3
      · rw [decide_eq_true r, decide_eq_true (show opn s i w by unfold opn; omega)]
      · rw [decide_eq_false r, decide_eq_false (show ¬ opn s i w by unfold opn; omega)]
  · rw [decide_eq_false h]; simp)
def rcF (s : Int → Int) (b w : Int) : Nat → Nat → Bool
  | 0 => anF (onF b) (opB s w)
  | k + 1 => orF (rcF s b w k) (anF (bsF (rcF s b w k)) (opB s w))
theorem op_at {s : Int → Int} {w : Int} {i : Nat} : opB s w i = true ↔ i < 48 ∧ opn s i w := by
  unfold opB
  simp only [Bool.and_eq_true, decide_eq_true_eq]
theorem rc_op {s : Int → Int} {b w : Int} {i : Nat} : ∀ {k : Nat}, rcF s b w k i = true → i < 48 ∧ opn s i w
  | 0, h => by
    unfold rcF anF at h
    rw [Bool.and_eq_true] at h
    exact op_at.mp h.2
  | k + 1, h => by
    unfold rcF orF anF at h
    rw [Bool.or_eq_true, Bool.and_eq_true] at h
    rcases h with h | h
    · exact rc_op h
    · exact op_at.mp h.2
theorem l48_rc (s : Int → Int) (b w : Int) (k : Nat) : L48 (rcF s b w k) := fun j hj => by
  cases e : rcF s b w k j
  · rfl
  · have := (rc_op e).1; omega
theorem rc_mono {s : Int → Int} {b w : Int} {i k : Nat} (h : rcF s b w k i = true) : rcF s b w (k + 1) i = true := by
  unfold rcF orF
  rw [h, Bool.true_or]
theorem bd0 {i : Nat} : besd i ((0 : Nat) : Int) = if 8 ≤ i then (i : Int) - 8 else -1 := by
  unfold besd
  rw [if_pos (show ((0 : Nat) : Int) = 0 from rfl)]
  by_cases h : 8 ≤ i
  · rw [if_pos h, if_neg (by omega)]
  · rw [if_neg h, if_pos (by omega)]
theorem bd1 {i : Nat} : besd i ((1 : Nat) : Int) = if i % 8 = 7 then -1 else (i : Int) + 1 := by
  unfold besd
  rw [if_neg (by decide), if_pos (show ((1 : Nat) : Int) = 1 from rfl)]
  by_cases h : i % 8 = 7
  · rw [if_pos h, if_pos (by omega)]
  · rw [if_neg h, if_neg (by omega)]
theorem bd2 {i : Nat} (hi : i < 48) : besd i ((2 : Nat) : Int) = if i < 40 then (i : Int) + 8 else -1 := by
  unfold besd
  rw [if_neg (by decide), if_neg (by decide), if_pos (show ((2 : Nat) : Int) = 2 from rfl)]
  by_cases h : i < 40
  · rw [if_pos h, if_neg (by omega)]
  · rw [if_neg h, if_pos (by omega)]
theorem bd3 {i : Nat} : besd i ((3 : Nat) : Int) = if i % 8 = 0 then -1 else (i : Int) - 1 := by
  unfold besd
  rw [if_neg (by decide), if_neg (by decide), if_neg (by decide)]
  by_cases h : i % 8 = 0
  · rw [if_pos h, if_pos (by omega)]
  · rw [if_neg h, if_neg (by omega)]
theorem bs_nb {r : Nat → Bool} (hr : L48 r) {i : Nat} (hi : i < 48) : bsF r i = true ↔ ∃ d : Nat, d < 4 ∧ 0 ≤ besd i d ∧ r (besd i d).toNat = true := by
  unfold bsF
  rw [decide_eq_true hi, Bool.and_true]
  simp only [Bool.or_eq_true, Bool.and_eq_true, decide_eq_true_eq]
  constructor
  · rintro ((⟨h, q⟩ | q) | ⟨h, q⟩ | ⟨h, q⟩)
    · exact ⟨0, by decide, by rw [bd0, if_pos h]; omega, by rw [bd0, if_pos h, show ((i : Int) - 8).toNat = i - 8 by omega]; exact q⟩
    · have h40 : i < 40 := by
        rcases Nat.lt_or_ge i 40 with z | z
        · exact z
        · rw [hr (8 + i) (by omega)] at q; cases q
      exact ⟨2, by decide, by rw [bd2 hi, if_pos h40]; omega, by rw [bd2 hi, if_pos h40, show ((i : Int) + 8).toNat = 8 + i by omega]; exact q⟩
    · exact ⟨3, by decide, by rw [bd3, if_neg h]; omega, by rw [bd3, if_neg h, show ((i : Int) - 1).toNat = i - 1 by omega]; exact q⟩
    · exact ⟨1, by decide, by rw [bd1, if_neg h]; omega, by rw [bd1, if_neg h, show ((i : Int) + 1).toNat = 1 + i by omega]; exact q⟩
  · rintro ⟨d, hd, h0, q⟩
    have hd4 : d = 0 ∨ d = 1 ∨ d = 2 ∨ d = 3 := by omega
    rcases hd4 with rfl | rfl | rfl | rfl
    · rw [bd0] at h0 q
      by_cases h : 8 ≤ i
      · rw [if_pos h, show ((i : Int) - 8).toNat = i - 8 by omega] at q
        exact Or.inl (Or.inl ⟨h, q⟩)
      · rw [if_neg h] at h0; exact absurd h0 (by decide)
    · rw [bd1] at h0 q
      by_cases h : i % 8 = 7
      · rw [if_pos h] at h0; exact absurd h0 (by decide)
      · rw [if_neg h, show ((i : Int) + 1).toNat = 1 + i by omega] at q
        exact Or.inr (Or.inr ⟨h, q⟩)
    · rw [bd2 hi] at h0 q
      by_cases h : i < 40
      · rw [if_pos h, show ((i : Int) + 8).toNat = 8 + i by omega] at q
        exact Or.inl (Or.inr q)
      · rw [if_neg h] at h0; exact absurd h0 (by decide)
    · rw [bd3] at h0 q
      by_cases h : i % 8 = 0
      · rw [if_pos h] at h0; exact absurd h0 (by decide)
      · rw [if_neg h, show ((i : Int) - 1).toNat = i - 1 by omega] at q
        exact Or.inr (Or.inl ⟨h, q⟩)
theorem rc_s {s : Int → Int} {b w : Int} {k i : Nat} (hi : i < 48) : rcF s b w (k + 1) i = true ↔ rcF s b w k i = true ∨ (opn s i w ∧ ∃ d : Nat, d < 4 ∧ 0 ≤ besd i d ∧ rcF s b w k (besd i d).toNat = true) := by
  conv => lhs; unfold rcF orF anF
  rw [Bool.or_eq_true, Bool.and_eq_true, bs_nb (l48_rc s b w k) hi, op_at]
  constructor
  · rintro (h | ⟨h, _, q⟩)
    · exact Or.inl h
    · exact Or.inr ⟨q, h⟩
  · rintro (h | ⟨q, h⟩)
    · exact Or.inl h
    · exact Or.inr ⟨h, hi, q⟩
/-- what the steps say is so -/
def SdP (s : Int → Int) (b w : Int) (t : Int → Int) : Prop := ∀ i : Nat, i < 48 → 0 ≤ t i ∧ (t i < 48 → rcF s b w (t i).toNat i = true)
theorem sd_S {s : Int → Int} {b w : Int} {t : Int → Int} (h : SdP s b w t) {c d : Nat} (hc : c < 48) (hd : d < 4) (ho : opn s c w) : SdP s b w (wyS t c d) := by
  intro i hi
  unfold wyS
  by_cases e : i = c
  · subst e
    rw [up_s]
    by_cases q : besd i d < 0
    · rw [if_pos q]; exact h i hi
    · rw [if_neg q]
      have hb := besd_lt (c := (i : Int)) (w := (d : Int)) (by omega) (by omega)
      have hx := h (besd i d).toNat (by omega)
      rw [show (((besd i d).toNat : Nat) : Int) = besd i d by omega] at hx
      by_cases r : t (besd i d) + 1 < t i
      · rw [if_pos r]
        refine ⟨by omega, fun z => ?_⟩
        rw [show (t (besd i d) + 1).toNat = (t (besd i d)).toNat + 1 by omega]
        exact (rc_s hi).mpr (Or.inr ⟨ho, d, hd, by omega, hx.2 (by omega)⟩)
      · rw [if_neg r]; exact h i hi
  · rw [up_n (by omega)]; exact h i hi
theorem sd_W {s : Int → Int} {b w : Int} {t : Int → Int} (h : SdP s b w t) {c : Nat} (hc : c < 48) (ho : opn s c w) : ∀ n : Nat, n ≤ 4 → SdP s b w (wyW t c n)
  | 0, _ => h
  | n + 1, hn => sd_S (sd_W h hc ho n (by omega)) hc (by omega) ho
theorem sd_K {s : Int → Int} {b w : Int} {t : Int → Int} (h : SdP s b w t) : ∀ n : Nat, SdP s b w (wyK s w t n)
  | 0 => h
  | n + 1 => by
    rw [wyK]
    have e : ((n : Int) % 48) = ((n % 48 : Nat) : Int) := by omega
    rw [e]
    split
    · next ho => exact sd_W (sd_K h n) (Nat.mod_lt _ (by decide)) ho 4 (Nat.le_refl 4)
    · exact sd_K h n
theorem sd_I {s : Int → Int} {b w : Int} (h0 : 0 ≤ b) (sp : Int → Int) : SdP s b w (wyI s b w sp 48) := by
  intro i hi
  rw [wyI_in s b w sp hi]
  by_cases e : (i : Int) = b
  · rw [if_pos e]
    by_cases o : opn s i w
    · rw [if_pos o]
      refine ⟨by decide, fun _ => ?_⟩
      show anF (onF b) (opB s w) i = true
      unfold anF onF
      rw [decide_eq_true (show i = b.toNat by omega), Bool.true_and]
      exact op_at.mpr ⟨hi, o⟩
    · rw [if_neg o]; exact ⟨by decide, fun z => absurd z (by decide)⟩
  · rw [if_neg e]; exact ⟨by decide, fun z => absurd z (by decide)⟩
/-! they only fall -/
theorem wyS_le {t : Int → Int} {c d i : Int} : wyS t c d i ≤ t i := by
  unfold wyS
  by_cases e : i = c
  · subst e
    rw [up_s]
    split
    · exact Int.le_refl _
    · split <;> omega
  · rw [up_n e]; exact Int.le_refl _
theorem wyW_le {t : Int → Int} {c i : Int} : ∀ n : Nat, wyW t c n i ≤ t i
  | 0 => Int.le_refl _
  | n + 1 => Int.le_trans wyS_le (wyW_le n)
theorem wyW_o {t : Int → Int} {c i : Int} (h : i ≠ c) : ∀ n : Nat, wyW t c n i = t i
  | 0 => rfl
  | n + 1 => by rw [wyW, wyS, up_n h, wyW_o h n]
theorem wyK_le {s : Int → Int} {w : Int} {t : Int → Int} {i : Int} {n : Nat} : wyK s w t (n + 1) i ≤ wyK s w t n i := by
  rw [wyK]
  split
  · exact wyW_le 4
  · exact Int.le_refl _
theorem wyW_d {t : Int → Int} {c : Int} (hc : 0 ≤ c) {d : Nat} (hb : ¬ besd c d < 0) : ∀ n : Nat, d < n → wyW t c n c ≤ t (besd c d) + 1
  | 0, h => absurd h (Nat.not_lt_zero d)
  | n + 1, h => by
    rcases Nat.lt_or_ge d n with q | q
    · exact Int.le_trans wyS_le (wyW_d hc hb n q)
    · have e : d = n := by omega
      subst e
      rw [wyW, wyS, up_s, if_neg hb, wyW_o (besd_ne (w := (d : Int)) hc)]
      split <;> omega
def CpP (s : Int → Int) (b w : Int) (t : Int → Int) (j c : Nat) : Prop := ∀ i : Nat, i < 48 → ∀ k : Nat, (k ≤ j ∨ (i < c ∧ k ≤ j + 1)) → rcF s b w k i = true → t i ≤ k
theorem cp_step {s : Int → Int} {b w : Int} {t : Int → Int} {j c : Nat} (hc : c < 48) (h : CpP s b w (wyK s w t (48 * j + c)) j c) : CpP s b w (wyK s w t (48 * j + (c + 1))) j (c + 1) := by
  intro i hi k hk hr
  have hle := wyK_le (s := s) (w := w) (t := t) (i := (i : Int)) (n := 48 * j + c)
  by_cases e : i = c ∧ k = j + 1
  · obtain ⟨rfl, rfl⟩ := e
    have ho := (rc_op hr).2
    have em : (((48 * j + i : Nat) : Int) % 48) = (i : Int) := by omega
    rcases (rc_s hi).mp hr with q | ⟨_, d, hd, h0, q⟩
    · have := h i hi j (Or.inl (Nat.le_refl j)) q
      show wyK s w t (48 * j + i + 1) i ≤ _
      omega
    · show wyK s w t (48 * j + i + 1) i ≤ _
      rw [wyK, em, if_pos ho]
      have hb := besd_lt (c := (i : Int)) (w := (d : Int)) (by omega) (by omega)
      have h1 := wyW_d (t := wyK s w t (48 * j + i)) (c := (i : Int)) (by omega) (d := d) (by omega) 4 hd
      have h2 := h (besd i d).toNat (by omega) j (Or.inl (Nat.le_refl j)) q
      rw [show (((besd i d).toNat : Nat) : Int) = besd i d by omega] at h2
      omega
  · have := h i hi k (by omega) hr
    show wyK s w t (48 * j + c + 1) i ≤ _
    omega
theorem cp_pass {s : Int → Int} {b w : Int} {t : Int → Int} {j : Nat} (h : CpP s b w (wyK s w t (48 * j)) j 0) : ∀ c : Nat, c ≤ 48 → CpP s b w (wyK s w t (48 * j + c)) j c
  | 0, _ => h
  | c + 1, hc => cp_step (by omega) (cp_pass h c (by omega))
theorem cp_all {s : Int → Int} {b w : Int} {t : Int → Int} (h : CpP s b w t 0 0) : ∀ j : Nat, CpP s b w (wyK s w t (48 * j)) j 0
  | 0 => h
  | j + 1 => by
    have := cp_pass (cp_all h j) 48 (Nat.le_refl 48)
    intro i hi k hk hr
    exact this i hi k (by omega) hr
theorem cp_I {s : Int → Int} {b w : Int} (h0 : 0 ≤ b) (sp : Int → Int) : CpP s b w (wyI s b w sp 48) 0 0 := by
  intro i hi k hk hr
  have e : k = 0 := by omega
  subst e
  have ho := rc_op hr
  unfold rcF anF onF at hr
  rw [Bool.and_eq_true, decide_eq_true_eq] at hr
  rw [wyI_in s b w sp hi, if_pos (by omega), if_pos ho.2]
  exact Int.le_refl 0
theorem way_in {s : Int → Int} {b g w : Int} (h0 : 0 ≤ b) (hg : 0 ≤ g) (hg1 : g < 48) {n : Nat} (hn : n < 48) (h : rcF s b w n g.toNat = true) (hJ : ∀ j : Nat, j < n → ¬ rcF s b w j g.toNat = true) : wayV s b g w = n := by
  have a := cp_all (cp_I (s := s) (b := b) (w := w) h0 (fun _ => 0)) 48 g.toNat (by omega) n (Or.inl (by omega)) h
  have c := sd_K (sd_I (s := s) (b := b) (w := w) h0 (fun _ => 0)) 2304 g.toNat (by omega)
  rw [show ((g.toNat : Nat) : Int) = g by omega] at a c
  have a2 : wyK s w (wyI s b w (fun _ => 0) 48) 2304 g ≤ n := a
  have h1 := c.2 (by omega)
  unfold wayV
  rcases Nat.lt_or_ge (wyK s w (wyI s b w (fun _ => 0) 48) 2304 g).toNat n with q | q
  · exact absurd h1 (hJ _ q)
  · have := c.1; omega
theorem way_out {s : Int → Int} {b g w : Int} (h0 : 0 ≤ b) (hg : 0 ≤ g) (hg1 : g < 48) (hJ : ∀ j : Nat, j < 48 → ¬ rcF s b w j g.toNat = true) : ¬ wayV s b g w < 48 := by
  have c := sd_K (sd_I (s := s) (b := b) (w := w) h0 (fun _ => 0)) 2304 g.toNat (by omega)
  rw [show ((g.toNat : Nat) : Int) = g by omega] at c
  unfold wayV
  intro q
  exact hJ _ (by have := c.1; omega) (c.2 q)
theorem rc_goal {s : Int → Int} {b g w : Int} (hg : 0 ≤ g) (hg1 : g < 48) {k : Nat} : (∀ i, i < 64 → anF (rcF s b w k) (onF g) i = false) ↔ ¬ rcF s b w k g.toNat = true := by
  constructor
  · intro h q
    have := h g.toNat (by omega)
    unfold anF onF at this
    rw [q, decide_eq_true rfl] at this
    cases this
  · intro h i hi
    unfold anF onF
    by_cases e : i = g.toNat
    · subst e
      cases q : rcF s b w k g.toNat
      · rfl
      · exact absurd q h
    · rw [decide_eq_false e, Bool.and_false]
