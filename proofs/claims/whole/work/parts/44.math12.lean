theorem ysN_1 (s : Int → Int) (dl : Int) : ∀ n : Nat, ysN s dl n 1 = s 1 + n
  | 0 => by rw [ysN]; omega
  | n + 1 => by
    rw [ysN, year, up_s, yrL_lo (by decide), ysN_1 s dl n]
    omega
theorem fst0_iff {p q : Nat → Prop} [DecidablePred p] [DecidablePred q] (h : ∀ j, p j ↔ q j) : ∀ n : Nat, fst0 p n = fst0 q n
  | 0 => rfl
  | n + 1 => by
    rw [fst0, fst0, fst0_iff h n]
    by_cases r : fst0 q n < n
    · rw [if_pos r, if_pos r]
    · rw [if_neg r, if_neg r]
      by_cases z : p n
      · rw [if_pos z, if_pos ((h n).mp z)]
      · rw [if_neg z, if_neg (fun w => z ((h n).mpr w))]
theorem cntU_0 (t : Int → Int) : ∀ n : Nat, cntU t n ≤ 0 ↔ ∀ i : Nat, i < n → ¬ untrue t i
  | 0 => by rw [cntU]; exact ⟨fun _ i h => absurd h (Nat.not_lt_zero i), fun _ => Int.le_refl 0⟩
  | n + 1 => by
    have ih := cntU_0 t n
    have r := (cntU_rg t n).1
    rw [cntU]
    constructor
    · intro h i hi
      by_cases q : untrue t n
      · rw [if_pos q] at h; omega
      · rw [if_neg q] at h
        rcases Nat.lt_or_ge i n with z | z
        · exact ih.mp (by omega) i z
        · have e : i = n := by omega
          subst e; exact q
    · intro h
      rw [if_neg (h n (by omega))]
      have := ih.mpr (fun i hi => h i (by omega))
      omega
abbrev fyP (s : Int → Int) (g : Nat → Bool) : Nat → Prop := fun n => ∀ i, i < 64 → anF (wrF (ysN s (-1) n)) g i = false
def fyV (s : Int → Int) (g : Nat → Bool) : Int := if fst0 (fyP s g) 61 ≤ 60 then fst0 (fyP s g) 61 else -1
theorem fyV_rg (s : Int → Int) (g : Nat → Bool) : -1 ≤ fyV s g ∧ fyV s g ≤ 60 := by
  unfold fyV
  split <;> omega
theorem wr_all (t : Int → Int) : (∀ i, i < 64 → anF (wrF t) allF i = false) ↔ wrongMany t ≤ 0 := by
  unfold wrongMany
  rw [cntU_0]
  constructor
  · intro h i hi q
    have := h i (by omega)
    unfold anF allF wrF at this
    rw [decide_eq_true hi, decide_eq_true q] at this
    cases this
  · intro h i hi
    unfold anF allF wrF
    by_cases z : i < 48
    · rw [decide_eq_false (h i z)]; simp
    · rw [decide_eq_false z]; simp
theorem wr_one (t : Int → Int) {c : Int} (h0 : 0 ≤ c) (h1 : c < 48) : (∀ i, i < 64 → anF (wrF t) (onF c) i = false) ↔ ¬ untrue t c := by
  constructor
  · intro h q
    have := h c.toNat (by omega)
    unfold anF onF at this
    rw [wrF_at h0 h1, decide_eq_true q, decide_eq_true rfl] at this
    cases this
  · intro h i hi
    unfold anF onF
    by_cases z : i = c.toNat
    · subst z; rw [wrF_at h0 h1, decide_eq_false h]; rfl
    · rw [decide_eq_false z, Bool.and_false]
theorem fy_done (s : Int → Int) : fst0 (fyP s allF) 61 = fst0 (fun n => wrongMany (ysN s (-1) n) ≤ 0) 61 := fst0_iff (fun j => wr_all _) 61
theorem fy_when (s : Int → Int) {c : Int} (h0 : 0 ≤ c) (h1 : c < 48) : fst0 (fyP s (onF c)) 61 = fst0 (fun n => ¬ untrue (ysN s (-1) n) c) 61 := fst0_iff (fun j => wr_one _ h0 h1) 61
/-! the best two -/
theorem bs_val {t : Int → Int} {m : Int} : ∀ n : Nat, 0 ≤ (bsN t m n).1 → (bsN t m n).2 = wrongMany (mends t m (bsN t m n).1) ∧ (bsN t m n).1 < n
  | 0, h => by rw [bsN] at h; exact absurd h (by decide)
  | n + 1, h => by
    rw [bsN] at h ⊢
    by_cases hu : untrue t n
    · rw [if_pos hu] at h ⊢
      by_cases hv : wrongMany (mends t m n) < (bsN t m n).2
      · rw [if_pos hv]; exact ⟨rfl, by dsimp only; omega⟩
      · rw [if_neg hv] at h ⊢
        have := bs_val n h
        exact ⟨this.1, by have := this.2; omega⟩
    · rw [if_neg hu] at h ⊢
      have := bs_val n h
      exact ⟨this.1, by have := this.2; omega⟩
theorem bs_neg {t : Int → Int} {m : Int} : ∀ n : Nat, (bsN t m n).1 < 0 → bsN t m n = (-1, 48)
  | 0, _ => rfl
  | n + 1, h => by
    rw [bsN] at h ⊢
    by_cases hu : untrue t n
    · rw [if_pos hu] at h ⊢
      by_cases hv : wrongMany (mends t m n) < (bsN t m n).2
      · rw [if_pos hv] at h; dsimp only at h; omega
      · rw [if_neg hv] at h ⊢; exact bs_neg n h
    · rw [if_neg hu] at h ⊢; exact bs_neg n h
theorem ft2_bs {t : Int → Int} {m a : Int} {b0 : Int × Int} (hm : 0 ≤ m) : ∀ n : Nat, n ≤ 48 → ft2 t m a b0 n = if 0 ≤ (bsN t m n).1 ∧ (bsN t m n).2 < b0.2 then (100 * a + (bsN t m n).1, (bsN t m n).2) else b0
  | 0, _ => by rw [ft2, bsN, if_neg (by omega)]
  | n + 1, h => by
    have ih := ft2_bs (t := t) (a := a) (b0 := b0) hm n (by omega)
    have h47 := mends_47 (s := t) (m := m) (c := n) (by omega) hm
    rw [ft2, ih, bsN]
    by_cases hu : untrue t n
    · rw [if_pos hu, if_pos hu]
      by_cases q : 0 ≤ (bsN t m n).1 ∧ (bsN t m n).2 < b0.2
      · rw [if_pos q]
        by_cases hv : wrongMany (mends t m n) < (bsN t m n).2
        · rw [if_pos hv, if_pos hv, if_pos ⟨by dsimp only; omega, by dsimp only; omega⟩]
        · rw [if_neg hv, if_neg hv, if_pos q]
      · rw [if_neg q]
        by_cases hn : (bsN t m n).1 < 0
        · have e := bs_neg n hn
          rw [e, if_pos (show wrongMany (mends t m n) < 48 by omega)]
          by_cases hv : wrongMany (mends t m n) < b0.2
          · rw [if_pos hv, if_pos ⟨by dsimp only; omega, hv⟩]
          · rw [if_neg hv, if_neg (fun z => hv z.2)]
        · by_cases hv : wrongMany (mends t m n) < b0.2
          · rw [if_pos hv, if_pos (show wrongMany (mends t m n) < (bsN t m n).2 by omega), if_pos ⟨by dsimp only; omega, hv⟩]
          · rw [if_neg hv]
            by_cases hw : wrongMany (mends t m n) < (bsN t m n).2
            · rw [if_pos hw, if_neg (fun z => hv z.2)]
            · rw [if_neg hw, if_neg q]
    · rw [if_neg hu, if_neg hu]
section BP
variable {s : Int → Int} {m : Int} {n : Nat}
theorem bp_no (hu : ¬ untrue s n) : ft1 s m n = ft1 s m (n + 1) := by rw [ft1, if_neg hu]
theorem bp_a (hm : 0 ≤ m) (hu : untrue s n) (h : (bsN (mends s m n) m 48).1 < 0) : ft1 s m n = ft1 s m (n + 1) := by
  rw [ft1, if_pos hu, ft2_bs hm 48 (Nat.le_refl 48), if_neg (by omega)]
theorem bp_b (hm : 0 ≤ m) (hu : untrue s n) (h : ¬ (bsN (mends s m n) m 48).1 < 0) (h2 : ¬ wrongMany (mends (mends s m n) m (bsN (mends s m n) m 48).1) < (ft1 s m n).2) : ft1 s m n = ft1 s m (n + 1) := by
  rw [ft1, if_pos hu, ft2_bs hm 48 (Nat.le_refl 48), if_neg (fun q => h2 (by rw [← (bs_val 48 q.1).1]; exact q.2))]
theorem bp_c (hm : 0 ≤ m) (hu : untrue s n) (h : ¬ (bsN (mends s m n) m 48).1 < 0) (h2 : wrongMany (mends (mends s m n) m (bsN (mends s m n) m 48).1) < (ft1 s m n).2) : ft1 s m (n + 1) = (100 * (n : Int) + (bsN (mends s m n) m 48).1, wrongMany (mends (mends s m n) m (bsN (mends s m n) m 48).1)) := by
  have e := (bs_val 48 (show 0 ≤ (bsN (mends s m n) m 48).1 by omega)).1
  rw [ft1, if_pos hu, ft2_bs hm 48 (Nat.le_refl 48), if_pos ⟨by omega, by rw [e]; exact h2⟩, e]
end BP
theorem ft1_val {s : Int → Int} {m : Int} (hm : 0 ≤ m) : ∀ n : Nat, n ≤ 48 → 0 ≤ (ft1 s m n).1 → (ft1 s m n).2 = wrongMany (mends (mends s m ((ft1 s m n).1 / 100)) m ((ft1 s m n).1 % 100)) ∧ (ft1 s m n).1 / 100 < 48 ∧ (ft1 s m n).1 % 100 < 48
  | 0, _, h => by rw [ft1] at h; exact absurd h (by decide)
  | n + 1, hn, h => by
    by_cases hu : untrue s n
    · by_cases h1 : (bsN (mends s m n) m 48).1 < 0
      · rw [← bp_a hm hu h1] at h ⊢; exact ft1_val hm n (by omega) h
      · by_cases h2 : wrongMany (mends (mends s m n) m (bsN (mends s m n) m 48).1) < (ft1 s m n).2
        · have v := bs_val (t := mends s m n) (m := m) 48 (by omega)
          have v2 := v.2
          rw [bp_c hm hu h1 h2]
          generalize (bsN (mends s m n) m 48).1 = q at *
          dsimp only
          rw [show (100 * (n : Int) + q) / 100 = n by omega, show (100 * (n : Int) + q) % 100 = q by omega]
          exact ⟨rfl, by omega, by omega⟩
        · rw [← bp_b hm hu h1 h2] at h ⊢; exact ft1_val hm n (by omega) h
    · rw [← bp_no hu] at h ⊢; exact ft1_val hm n (by omega) h
