/-! the class's worlds, out of the row s -/
theorem cu_at {n : Int} {f : Int → Int} {z : Int} (h0 : 0 ≤ z) (h : z < n) : cu n f z = f z := if_pos ⟨h0, h⟩
theorem cu_cong {n : Int} {f g : Int → Int} (h : ∀ i, 0 ≤ i → i < n → f i = g i) : cu n f = cu n g := by
  funext i
  unfold cu
  by_cases q : 0 ≤ i ∧ i < n
  · rw [if_pos q, if_pos q, h i q.1 q.2]
  · rw [if_neg q, if_neg q]
theorem cu_in {n : Int} {s : Int → Int} {β : Int → Int} {z v : Int} (h0 : 0 ≤ z) (h : z < n) (hβ : ∀ i, 0 ≤ i → i < n → β i = β z → i = z) : up (cu n (fun i => s (β i))) z v = cu n (fun i => up s (β z) v (β i)) := by
  funext i
  unfold up cu
  by_cases e : i = z
  · subst e; rw [if_pos rfl, if_pos ⟨h0, h⟩]; exact (if_pos rfl).symm
  · rw [if_neg e]
    by_cases q : 0 ≤ i ∧ i < n
    · rw [if_pos q, if_pos q]; exact (if_neg (fun r => e (hβ i q.1 q.2 r))).symm
    · rw [if_neg q, if_neg q]
theorem cu_out {n : Int} {s : Int → Int} {β : Int → Int} {j v : Int} (hβ : ∀ i, 0 ≤ i → i < n → β i ≠ j) : cu n (fun i => up s j v (β i)) = cu n (fun i => s (β i)) := cu_cong (fun i a b => up_n (hβ i a b))
def laF (s : Int → Int) : Int → Int := cu 48 (fun i => s (3 + i))
def maF (s : Int → Int) : Int → Int := cu 48 (fun i => s (51 + i))
def kiF (s : Int → Int) : Int → Int := cu 6 (fun i => s (99 + 4 * i + 0))
def plF (s : Int → Int) : Int → Int := cu 6 (fun i => s (99 + 4 * i + 1))
def puF (s : Int → Int) : Int → Int := cu 6 (fun i => s (99 + 4 * i + 2))
def paF (s : Int → Int) : Int → Int := cu 6 (fun i => s (99 + 4 * i + 3))
section WF
variable {s : Int → Int} {z v j : Int}
theorem la_at (h0 : 0 ≤ z) (h : z < 48) : laF s z = s (3 + z) := cu_at h0 h
theorem ma_at (h0 : 0 ≤ z) (h : z < 48) : maF s z = s (51 + z) := cu_at h0 h
theorem ki_at (h0 : 0 ≤ z) (h : z < 6) : kiF s z = s (99 + 4 * z + 0) := cu_at h0 h
theorem pl_at (h0 : 0 ≤ z) (h : z < 6) : plF s z = s (99 + 4 * z + 1) := cu_at h0 h
theorem pu_at (h0 : 0 ≤ z) (h : z < 6) : puF s z = s (99 + 4 * z + 2) := cu_at h0 h
theorem pa_at (h0 : 0 ≤ z) (h : z < 6) : paF s z = s (99 + 4 * z + 3) := cu_at h0 h
theorem la_in (h0 : 0 ≤ z) (h : z < 48) : up (laF s) z v = laF (up s (3 + z) v) := cu_in (β := fun i => 3 + i) h0 h (fun i _ _ e => by omega)
theorem ma_in (h0 : 0 ≤ z) (h : z < 48) : up (maF s) z v = maF (up s (51 + z) v) := cu_in (β := fun i => 51 + i) h0 h (fun i _ _ e => by omega)
theorem ki_in (h0 : 0 ≤ z) (h : z < 6) : up (kiF s) z v = kiF (up s (99 + 4 * z + 0) v) := cu_in (β := fun i => 99 + 4 * i + 0) h0 h (fun i _ _ e => by omega)
theorem pl_in (h0 : 0 ≤ z) (h : z < 6) : up (plF s) z v = plF (up s (99 + 4 * z + 1) v) := cu_in (β := fun i => 99 + 4 * i + 1) h0 h (fun i _ _ e => by omega)
theorem pu_in (h0 : 0 ≤ z) (h : z < 6) : up (puF s) z v = puF (up s (99 + 4 * z + 2) v) := cu_in (β := fun i => 99 + 4 * i + 2) h0 h (fun i _ _ e => by omega)
theorem pa_in (h0 : 0 ≤ z) (h : z < 6) : up (paF s) z v = paF (up s (99 + 4 * z + 3) v) := cu_in (β := fun i => 99 + 4 * i + 3) h0 h (fun i _ _ e => by omega)
theorem la_o (h : j < 3 ∨ 51 ≤ j) : laF (up s j v) = laF s := cu_out (β := fun i => 3 + i) (fun i _ _ => by omega)
theorem ma_o (h : j < 51 ∨ 99 ≤ j) : maF (up s j v) = maF s := cu_out (β := fun i => 51 + i) (fun i _ _ => by omega)
theorem ki_o (h : ∀ i, 0 ≤ i → i < 6 → 99 + 4 * i + 0 ≠ j) : kiF (up s j v) = kiF s := cu_out (β := fun i => 99 + 4 * i + 0) h
theorem pl_o (h : ∀ i, 0 ≤ i → i < 6 → 99 + 4 * i + 1 ≠ j) : plF (up s j v) = plF s := cu_out (β := fun i => 99 + 4 * i + 1) h
theorem pu_o (h : ∀ i, 0 ≤ i → i < 6 → 99 + 4 * i + 2 ≠ j) : puF (up s j v) = puF s := cu_out (β := fun i => 99 + 4 * i + 2) h
theorem pa_o (h : ∀ i, 0 ≤ i → i < 6 → 99 + 4 * i + 3 ≠ j) : paF (up s j v) = paF s := cu_out (β := fun i => 99 + 4 * i + 3) h
end WF
/-- a World: its object, its six arrays -/
def wW (b : Nat → Nat) (k : Nat → ClassId) (s : Int → Int) (wr : Int64) (y : Int) : va_W :=
  [(b 0, .inr (2, [.ref (b 1), .ref (b 2), .ref (b 3), .ref (b 4), .ref (b 5), .ref (b 6), .int (iI (s 0)), .int (iI y), .int (iI (s 2)), .long wr])),
   (b 1, .inl (k 0, 48, .inl (arr (laF s)))), (b 2, .inl (k 0, 48, .inl (arr (maF s)))), (b 3, .inl (k 0, 6, .inl (arr (kiF s)))), (b 4, .inl (k 0, 6, .inl (arr (plF s)))), (b 5, .inl (k 0, 6, .inl (arr (puF s)))), (b 6, .inl (k 0, 6, .inl (arr (paF s))))]
section WS
variable {b : Nat → Nat} {k : Nat → ClassId} {s : Int → Int} {wr : Int64} {y z v : Int}
theorem wW_ad : (wW b k s wr y).map (·.1) = [b 0, b 1, b 2, b 3, b 4, b 5, b 6] := rfl
theorem wW_la (h0 : 0 ≤ z) (h : z < 48) : (wW b k s wr y).set 1 (b 1, .inl (k 0, 48, .inl (arr (up (laF s) z v)))) = wW b k (up s (3 + z) v) wr y := by
  unfold wW
  rw [← la_in h0 h, ma_o (by omega), ki_o (fun i _ _ => by omega), pl_o (fun i _ _ => by omega), pu_o (fun i _ _ => by omega), pa_o (fun i _ _ => by omega), up_n (show (0 : Int) ≠ 3 + z by omega), up_n (show (2 : Int) ≠ 3 + z by omega)]
  rfl
theorem wW_ma (h0 : 0 ≤ z) (h : z < 48) : (wW b k s wr y).set 2 (b 2, .inl (k 0, 48, .inl (arr (up (maF s) z v)))) = wW b k (up s (51 + z) v) wr y := by
  unfold wW
  rw [← ma_in h0 h, la_o (by omega), ki_o (fun i _ _ => by omega), pl_o (fun i _ _ => by omega), pu_o (fun i _ _ => by omega), pa_o (fun i _ _ => by omega), up_n (show (0 : Int) ≠ 51 + z by omega), up_n (show (2 : Int) ≠ 51 + z by omega)]
  rfl
theorem wW_ki (h0 : 0 ≤ z) (h : z < 6) : (wW b k s wr y).set 3 (b 3, .inl (k 0, 6, .inl (arr (up (kiF s) z v)))) = wW b k (up s (99 + 4 * z + 0) v) wr y := by
  unfold wW
  rw [← ki_in h0 h, la_o (by omega), ma_o (by omega), pl_o (fun i _ _ => by omega), pu_o (fun i _ _ => by omega), pa_o (fun i _ _ => by omega), up_n (show (0 : Int) ≠ 99 + 4 * z + 0 by omega), up_n (show (2 : Int) ≠ 99 + 4 * z + 0 by omega)]
  rfl
theorem wW_pl (h0 : 0 ≤ z) (h : z < 6) : (wW b k s wr y).set 4 (b 4, .inl (k 0, 6, .inl (arr (up (plF s) z v)))) = wW b k (up s (99 + 4 * z + 1) v) wr y := by
  unfold wW
  rw [← pl_in h0 h, la_o (by omega), ma_o (by omega), ki_o (fun i _ _ => by omega), pu_o (fun i _ _ => by omega), pa_o (fun i _ _ => by omega), up_n (show (0 : Int) ≠ 99 + 4 * z + 1 by omega), up_n (show (2 : Int) ≠ 99 + 4 * z + 1 by omega)]
  rfl
theorem wW_pu (h0 : 0 ≤ z) (h : z < 6) : (wW b k s wr y).set 5 (b 5, .inl (k 0, 6, .inl (arr (up (puF s) z v)))) = wW b k (up s (99 + 4 * z + 2) v) wr y := by
  unfold wW
  rw [← pu_in h0 h, la_o (by omega), ma_o (by omega), ki_o (fun i _ _ => by omega), pl_o (fun i _ _ => by omega), pa_o (fun i _ _ => by omega), up_n (show (0 : Int) ≠ 99 + 4 * z + 2 by omega), up_n (show (2 : Int) ≠ 99 + 4 * z + 2 by omega)]
  rfl
theorem wW_pa (h0 : 0 ≤ z) (h : z < 6) : (wW b k s wr y).set 6 (b 6, .inl (k 0, 6, .inl (arr (up (paF s) z v)))) = wW b k (up s (99 + 4 * z + 3) v) wr y := by
  unfold wW
  rw [← pa_in h0 h, la_o (by omega), ma_o (by omega), ki_o (fun i _ _ => by omega), pl_o (fun i _ _ => by omega), pu_o (fun i _ _ => by omega), up_n (show (0 : Int) ≠ 99 + 4 * z + 3 by omega), up_n (show (2 : Int) ≠ 99 + 4 * z + 3 by omega)]
  rfl
theorem wW_me : (wW b k s wr y).set 0 (b 0, .inr (2, [.ref (b 1), .ref (b 2), .ref (b 3), .ref (b 4), .ref (b 5), .ref (b 6), .int (iI v), .int (iI y), .int (iI (s 2)), .long wr])) = wW b k (up s 0 v) wr y := by
  unfold wW
  rw [la_o (by omega), ma_o (by omega), ki_o (fun i _ _ => by omega), pl_o (fun i _ _ => by omega), pu_o (fun i _ _ => by omega), pa_o (fun i _ _ => by omega), up_s, up_n (show (2 : Int) ≠ 0 by omega)]
  rfl
theorem wW_in : (wW b k s wr y).set 0 (b 0, .inr (2, [.ref (b 1), .ref (b 2), .ref (b 3), .ref (b 4), .ref (b 5), .ref (b 6), .int (iI (s 0)), .int (iI y), .int (iI v), .long wr])) = wW b k (up s 2 v) wr y := by
  unfold wW
  rw [la_o (by omega), ma_o (by omega), ki_o (fun i _ _ => by omega), pl_o (fun i _ _ => by omega), pu_o (fun i _ _ => by omega), pa_o (fun i _ _ => by omega), up_s, up_n (show (0 : Int) ≠ 2 by omega)]
  rfl
theorem wW_cong {t : Int → Int} (h : ∀ i, i ≠ 1 → s i = t i) : wW b k s wr y = wW b k t wr y := by
  unfold wW
  rw [show laF s = laF t from cu_cong (fun i _ _ => h _ (by omega)), show maF s = maF t from cu_cong (fun i _ _ => h _ (by omega)), show kiF s = kiF t from cu_cong (fun i _ _ => h _ (by omega)), show plF s = plF t from cu_cong (fun i _ _ => h _ (by omega)), show puF s = puF t from cu_cong (fun i _ _ => h _ (by omega)), show paF s = paF t from cu_cong (fun i _ _ => h _ (by omega)), h 0 (by decide), h 2 (by decide)]
end WS
/-! what is wrong, by bits -/
theorem wrF_cong {s t : Int → Int} (h : ∀ i, 0 ≤ i → i < 48 → (untrue s i ↔ untrue t i)) : wrF s = wrF t := by
  funext i
  unfold wrF
  by_cases q : i < 48
  · rw [decide_eq_decide.mpr (h i (by omega) (by omega))]
  · rw [decide_eq_false q, Bool.false_and, Bool.false_and]
theorem wrF_o {s : Int → Int} {j v : Int} (h : j < 3 ∨ 99 ≤ j) : wrF (up s j v) = wrF s := wrF_cong (fun i _ _ => by
  unfold untrue
  rw [up_n (by omega), up_n (by omega)])
theorem wr_clr {s t : Int → Int} {c : Int} (h0 : 0 ≤ c) (h1 : c < 48) (ho : ∀ i, 0 ≤ i → i < 48 → i ≠ c → (untrue t i ↔ untrue s i)) (hc : ¬ untrue t c) : lB (anF (wrF s) (noF (onF c))) = lB (wrF t) := lB_cong (fun i hi => by
  unfold anF noF onF wrF
  by_cases e : i = c.toNat
  · have e2 : (i : Int) = c := by omega
    rw [decide_eq_true e, e2, decide_eq_false hc]; simp
  · rw [decide_eq_false e]
    by_cases q : i < 48
    · have e3 : decide (untrue t i) = decide (untrue s i) := decide_eq_decide.mpr (ho i (by omega) (by omega) (by omega))
      rw [e3]; simp
    · rw [decide_eq_false q]; simp)
theorem wr_set {s t : Int → Int} {c : Int} (h0 : 0 ≤ c) (h1 : c < 48) (ho : ∀ i, 0 ≤ i → i < 48 → i ≠ c → (untrue t i ↔ untrue s i)) (hc : untrue t c) : lB (orF (wrF s) (onF c)) = lB (wrF t) := lB_cong (fun i hi => by
  unfold orF onF wrF
  by_cases e : i = c.toNat
  · have e2 : (i : Int) = c := by omega
    rw [decide_eq_true e, e2, decide_eq_true hc, decide_eq_true (show i < 48 by omega)]; simp
  · rw [decide_eq_false e]
    by_cases q : i < 48
    · have e3 : decide (untrue t i) = decide (untrue s i) := decide_eq_decide.mpr (ho i (by omega) (by omega) (by omega))
      rw [e3]; simp
    · rw [decide_eq_false q]; simp)
theorem un_la {s : Int → Int} {c v i : Int} (h : c < 48) (h0 : 0 ≤ i) (e : i ≠ c) : untrue (up s (3 + c) v) i ↔ untrue s i := by
  unfold untrue
  rw [up_n (by omega), up_n (by omega)]
theorem un_ma {s : Int → Int} {c v i : Int} (h : 0 ≤ c) (h0 : i < 48) (e : i ≠ c) : untrue (up s (51 + c) v) i ↔ untrue s i := by
  unfold untrue
  rw [up_n (by omega), up_n (by omega)]
theorem wr_la0 {s : Int → Int} {c v : Int} (h0 : 0 ≤ c) (h1 : c < 48) (h : up s (3 + c) v (3 + c) = up s (3 + c) v (51 + c)) : lB (anF (wrF s) (noF (onF c))) = lB (wrF (up s (3 + c) v)) := wr_clr h0 h1 (fun i a _ e => un_la h1 a e) (fun q => q h)
theorem wr_la1 {s : Int → Int} {c v : Int} (h0 : 0 ≤ c) (h1 : c < 48) (h : ¬ up s (3 + c) v (3 + c) = up s (3 + c) v (51 + c)) : lB (orF (wrF s) (onF c)) = lB (wrF (up s (3 + c) v)) := wr_set h0 h1 (fun i a _ e => un_la h1 a e) h
theorem wr_ma0 {s : Int → Int} {c v : Int} (h0 : 0 ≤ c) (h1 : c < 48) (h : up s (51 + c) v (3 + c) = up s (51 + c) v (51 + c)) : lB (anF (wrF s) (noF (onF c))) = lB (wrF (up s (51 + c) v)) := wr_clr h0 h1 (fun i _ b e => un_ma h0 b e) (fun q => q h)
theorem wr_ma1 {s : Int → Int} {c v : Int} (h0 : 0 ≤ c) (h1 : c < 48) (h : ¬ up s (51 + c) v (3 + c) = up s (51 + c) v (51 + c)) : lB (orF (wrF s) (onF c)) = lB (wrF (up s (51 + c) v)) := wr_set h0 h1 (fun i _ b e => un_ma h0 b e) h
theorem wr_addS {s : Int → Int} (h0 : 0 ≤ s 0) {kd c pu : Int} : wrF (addS s kd c pu) = wrF s := by
  unfold addS
  rw [wrF_o (by omega), wrF_o (by omega), wrF_o (by omega), wrF_o (by omega), wrF_o (by omega)]
theorem wr_none {s : Int → Int} (h : ∀ i, i < 64 → wrF s i = false) : ∀ i, 0 ≤ i → i < 48 → ¬ untrue s i := by
  intro i h0 h1 hu
  have := h i.toNat (by omega)
  rw [wrF_at h0 h1, decide_eq_true hu] at this
  cases this
theorem wr_some {s : Int → Int} (h : ¬ ∀ i, i < 64 → wrF s i = false) : ∃ i : Nat, i < 48 ∧ untrue s i := by
  refine Classical.byContradiction (fun q => h (fun i hi => ?_))
  unfold wrF
  by_cases a : i < 48
  · rw [decide_eq_false (fun u => q ⟨i, a, u⟩), Bool.and_false]
  · rw [decide_eq_false a, Bool.false_and]
/-! going for a cell -/
theorem gf_lt {s : Int → Int} {m M : Int} (hM : 0 < M) : ∀ n : Nat, (∀ d : Nat, d < n → gfv s m d < M) → (gf s m n).2 < M
  | 0, _ => by rw [gf]; exact hM
  | n + 1, h => by
    have ih := gf_lt hM n (fun d hd => h d (by omega))
    have h1 := h n (by omega)
    rw [gf]
    split
    · exact ih
    · exact h1
theorem gf_max {s : Int → Int} {m : Int} {c : Nat} (hp : 0 < gfv s m c) (hl : ∀ d : Nat, d < c → gfv s m d < gfv s m c) : ∀ n : Nat, c < n → (∀ d : Nat, d < n → gfv s m d ≤ gfv s m c) → gf s m n = ((c : Int), gfv s m c)
  | 0, h, _ => absurd h (Nat.not_lt_zero c)
  | n + 1, h, ha => by
    rw [gf]
    rcases Nat.lt_or_ge c n with q | q
    · have ih := gf_max hp hl n q (fun d hd => ha d (by omega))
      rw [ih, if_pos (ha n (by omega))]
    · have e : c = n := by omega
      subst e
      have := gf_lt hp c hl
      rw [if_neg (by omega)]
theorem gf_none {s : Int → Int} {m : Int} (h : ∀ i, 0 ≤ i → i < 48 → ¬ untrue s i) : ∀ n : Nat, n ≤ 48 → gf s m n = (-1, 0)
  | 0, _ => rfl
  | n + 1, hn => by
    rw [gf, gf_none h n (by omega)]
    have e : gfv s m n = 0 := by
      unfold gfv
      rw [if_pos (h n (by omega) (by omega))]
    rw [e, if_pos (Int.le_refl 0)]
abbrev nrP (s : Int → Int) (p : Int) : Nat → Prop := fun k => ¬ ∀ i, i < 64 → anF (spF p k) (wrF s) i = false
def nrK (s : Int → Int) (p : Int) : Nat := fst0 (nrP s p) 48
abbrev nrQ (s : Int → Int) (p : Int) : Nat → Prop := fun i => anF (spF p (nrK s p)) (wrF s) i = true
def nr (s : Int → Int) (p : Int) : Nat := fst0 (nrQ s p) 48
theorem sw_at {s : Int → Int} {p k : Int} {i : Nat} : anF (spF p k) (wrF s) i = true ↔ i < 48 ∧ apt p i ≤ k ∧ untrue s i := by
  unfold anF spF wrF
  simp only [Bool.and_eq_true, decide_eq_true_eq]
  constructor
  · rintro ⟨⟨a, b⟩, _, c⟩; exact ⟨a, b, c⟩
  · rintro ⟨a, b, c⟩; exact ⟨⟨a, b⟩, a, c⟩
theorem nr_end {s : Int → Int} {p : Int} (h0 : 0 ≤ p) (h1 : p < 48) (h : ∃ i : Nat, i < 48 ∧ untrue s i) {k : Int} (hk : 13 ≤ k) : ¬ ∀ i, i < 64 → anF (spF p k) (wrF s) i = false := by
  obtain ⟨i, hi, hu⟩ := h
  intro q
  have a := apt_rg h0 h1 (b := (i : Int)) (by omega) (by omega)
  have := sw_at.mpr ⟨hi, show apt p i ≤ k by omega, hu⟩
  rw [q i (by omega)] at this
  cases this
theorem nr_spec {s : Int → Int} {p : Int} (h0 : 0 ≤ p) (h1 : p < 48) (h : ∃ i : Nat, i < 48 ∧ untrue s i) : nrK s p < 48 ∧ nr s p < 48 ∧ anF (spF p (nrK s p)) (wrF s) (nr s p) = true ∧ ∀ i, i < nr s p → anF (spF p (nrK s p)) (wrF s) i = false := by
  have hK : nrK s p ≤ 13 := fst0_ub (p := nrP s p) (nr_end h0 h1 h (by decide))
  have hP : nrP s p (nrK s p) := fst0_at (show fst0 (nrP s p) 48 < 48 by unfold nrK at hK; omega)
  have hex : ∃ i : Nat, i < 48 ∧ nrQ s p i := by
    refine Classical.byContradiction (fun q => hP (fun i hi => ?_))
    cases e : anF (spF p (nrK s p)) (wrF s) i
    · rfl
    · exact absurd ⟨i, (sw_at.mp e).1, e⟩ q
  obtain ⟨i, hi, hq⟩ := hex
  have hn : nr s p ≤ i := fst0_ub (p := nrQ s p) hq
  have hat : nrQ s p (nr s p) := fst0_at (show fst0 (nrQ s p) 48 < 48 by unfold nr at hn; omega)
  refine ⟨by omega, by omega, hat, fun j hj => ?_⟩
  have := fst0_lt (p := nrQ s p) (n := 48) hj
  cases e : anF (spF p (nrK s p)) (wrF s) j
  · rfl
  · exact absurd e this
theorem nr_gf {s : Int → Int} {m : Int} (h0 : 0 ≤ s (99 + 4 * m + 1)) (h1 : s (99 + 4 * m + 1) < 48) (hk : ¬ s (99 + 4 * m + 0) = 5) (h : ∃ i : Nat, i < 48 ∧ untrue s i) : goesFor s m = (nr s (s (99 + 4 * m + 1)) : Nat) := by
  obtain ⟨a, b, c, d⟩ := nr_spec h0 h1 h
  generalize hp : s (99 + 4 * m + 1) = p at *
  have c1 := sw_at.mp c
  have hv : ∀ i : Nat, untrue s i → gfv s m i = 100 - apt p i := fun i hu => by
    unfold gfv
    rw [if_neg (fun q => q hu), if_neg hk, hp]
  have hz : ∀ i : Nat, ¬ untrue s i → gfv s m i = 0 := fun i hu => by
    unfold gfv
    rw [if_pos hu]
  have hr : ∀ i : Nat, i < 48 → 0 ≤ apt p i ∧ apt p i < 13 := fun i hi => apt_rg h0 h1 (by omega) (by omega)
  have hmin : ∀ i : Nat, i < 48 → untrue s i → (nrK s p : Int) ≤ apt p i := by
    intro i hi hu
    rcases Int.lt_or_le (apt p i) (nrK s p) with q | q
    · exfalso
      have hi2 := hr i hi
      have hlt : (apt p i).toNat < nrK s p := by omega
      refine fst0_lt (p := nrP s p) (n := 48) hlt (fun z => ?_)
      have := sw_at.mpr ⟨hi, show apt p i ≤ ((apt p i).toNat : Nat) by omega, hu⟩
      rw [z i (by omega)] at this
      cases this
    · exact q
  have hnr := hr (nr s p) b
  have e1 := hv (nr s p) c1.2.2
  have hm1 := hmin (nr s p) b c1.2.2
  have c2 := c1.2.1
  unfold goesFor
  rw [gf_max (c := nr s p) (by rw [e1]; omega) (fun i hi => ?_) 48 b (fun i hi => ?_)]
  · rw [e1]
    by_cases hu : untrue s i
    · rw [hv i hu]
      have h2 := hr i (by omega)
      have h3 : ¬ apt p i ≤ nrK s p := fun q => by
        have := sw_at.mpr ⟨show i < 48 by omega, q, hu⟩
        rw [d i hi] at this
        cases this
      omega
    · rw [hz i hu]; omega
  · rw [e1]
    by_cases hu : untrue s i
    · rw [hv i hu]
      have := hmin i hi hu
      omega
    · rw [hz i hu]; omega
