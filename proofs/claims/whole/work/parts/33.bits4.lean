def anF (f g : Nat → Bool) : Nat → Bool := fun i => f i && g i
def orF (f g : Nat → Bool) : Nat → Bool := fun i => f i || g i
def noF (f : Nat → Bool) : Nat → Bool := fun i => !f i
def onF (c : Int) : Nat → Bool := fun i => decide (i = c.toNat)
def wrF (s : Int → Int) : Nat → Bool := fun i => decide (i < 48) && decide (untrue s i)
def allF : Nat → Bool := fun i => decide (i < 48)
def bsF (f : Nat → Bool) : Nat → Bool := fun i => (((decide (8 ≤ i) && f (i - 8)) || f (8 + i)) || ((decide (¬ i % 8 = 0) && f (i - 1)) || (decide (¬ i % 8 = 7) && f (1 + i)))) && decide (i < 48)
def rmF : Nat → Bool := fun i => !(decide (i < 48) && decide (i % 8 = 7))
def lmF : Nat → Bool := fun i => !(decide (i < 48) && decide (i % 8 = 0))
theorem k_rm : lI (-141289400074369) = lB rmF := lB_ext (by decide +kernel)
theorem k_lm : lI (-1103823438082) = lB lmF := lB_ext (by decide +kernel)
theorem k_all : lI 281474976710655 = lB allF := lB_ext (by decide +kernel)
theorem l48_wr (s : Int → Int) : L48 (wrF s) := fun j hj => by unfold wrF; rw [decide_eq_false (show ¬ j < 48 by omega), Bool.false_and]
theorem l48_on {c : Int} (h0 : 0 ≤ c) (h : c < 48) : L48 (onF c) := fun j hj => by unfold onF; rw [decide_eq_false (show ¬ j = c.toNat by omega)]
theorem l48_bs (f : Nat → Bool) : L48 (bsF f) := fun j hj => by unfold bsF; rw [decide_eq_false (show ¬ j < 48 by omega), Bool.and_false]
theorem l48_an {f : Nat → Bool} (h : L48 f) (g : Nat → Bool) : L48 (anF f g) := fun j hj => by unfold anF; rw [h j hj, Bool.false_and]
theorem l48_an2 (f : Nat → Bool) {g : Nat → Bool} (h : L48 g) : L48 (anF f g) := fun j hj => by unfold anF; rw [h j hj, Bool.and_false]
theorem l48_or {f g : Nat → Bool} (h : L48 f) (h2 : L48 g) : L48 (orF f g) := fun j hj => by unfold orF; rw [h j hj, h2 j hj]; rfl
theorem bs_eq {f : Nat → Bool} (hf : L48 f) {i : Nat} (hi : i < 64) : ((((decide (8 ≤ i) && f (i - 8)) || (decide (8 + i < 64) && f (8 + i))) || ((decide (1 ≤ i) && (f (i - 1) && rmF (i - 1))) || (decide (1 + i < 64) && (f (1 + i) && lmF (1 + i))))) && allF i) = bsF f i := by
  unfold bsF allF
  by_cases h : i < 48
  · rw [decide_eq_true h, Bool.and_true, Bool.and_true, decide_eq_true (show 8 + i < 64 by omega), decide_eq_true (show 1 + i < 64 by omega), Bool.true_and, Bool.true_and]
    have e1 : (decide (1 ≤ i) && (f (i - 1) && rmF (i - 1))) = (decide (¬ i % 8 = 0) && f (i - 1)) := by
      unfold rmF
      by_cases h0 : i % 8 = 0
      · rw [decide_eq_false (show ¬ ¬ i % 8 = 0 from fun q => q h0), Bool.false_and]
        by_cases h1 : 1 ≤ i
        · rw [decide_eq_true (show i - 1 < 48 by omega), decide_eq_true (show (i - 1) % 8 = 7 by omega)]; simp
        · rw [decide_eq_false h1, Bool.false_and]
      · rw [decide_eq_true h0, decide_eq_true (show 1 ≤ i by omega), decide_eq_false (show ¬ (i - 1) % 8 = 7 by omega)]; simp
    have e2 : (f (1 + i) && lmF (1 + i)) = (decide (¬ i % 8 = 7) && f (1 + i)) := by
      unfold lmF
      by_cases h0 : i % 8 = 7
      · rw [decide_eq_false (show ¬ ¬ i % 8 = 7 from fun q => q h0), Bool.false_and]
        by_cases h1 : 1 + i < 48
        · rw [decide_eq_true h1, decide_eq_true (show (1 + i) % 8 = 0 by omega)]; simp
        · rw [hf (1 + i) (by omega), Bool.false_and]
      · rw [decide_eq_true h0, decide_eq_false (show ¬ (1 + i) % 8 = 0 by omega)]; simp
    rw [e1, e2]
  · rw [decide_eq_false h, Bool.and_false, Bool.and_false]
theorem smN_add (a b : Nat → Nat) : ∀ n : Nat, smN (fun i => a i + b i) n = smN a n + smN b n
  | 0 => rfl
  | n + 1 => by rw [smN, smN_add a b n, smN, smN]; omega
theorem smN_pt (b : Int) (U : Nat → Bool) : ∀ n : Nat, smN (fun i => if b = (i : Int) ∧ U i = true then 1 else 0) n = if 0 ≤ b ∧ b < n ∧ U b.toNat = true then 1 else 0
  | 0 => by rw [smN, if_neg (by omega)]
  | n + 1 => by
    rw [smN, smN_pt b U n]
    by_cases e : b = (n : Int)
    · subst e
      rw [if_neg (by omega), Int.toNat_natCast, Nat.zero_add]
      by_cases hu : U n = true
      · rw [if_pos ⟨rfl, hu⟩, if_pos ⟨by omega, by omega, hu⟩]
      · rw [if_neg (fun q => hu q.2), if_neg (fun q => hu q.2.2)]
    · rw [if_neg (show ¬ (b = (n : Int) ∧ U n = true) from fun q => e q.1), Nat.add_zero]
      by_cases q : 0 ≤ b ∧ b < n ∧ U b.toNat = true
      · rw [if_pos q, if_pos ⟨q.1, by omega, q.2.2⟩]
      · rw [if_neg q, if_neg (fun r => q ⟨r.1, by omega, r.2.2⟩)]
theorem nb_ind : ∀ c : Nat, c < 48 → ∀ i : Nat, i < 64 → (bsF (onF (c : Int)) i).toNat = (if besd c 0 = (i : Int) then 1 else 0) + (if besd c 1 = (i : Int) then 1 else 0) + (if besd c 2 = (i : Int) then 1 else 0) + (if besd c 3 = (i : Int) then 1 else 0) := by decide +kernel
theorem wrF_at {s : Int → Int} {b : Int} (h0 : 0 ≤ b) (h : b < 48) : wrF s b.toNat = decide (untrue s b) := by
  obtain ⟨n, rfl⟩ := Int.eq_ofNat_of_zero_le h0
  unfold wrF
  rw [Int.toNat_natCast, decide_eq_true (show n < 48 by omega), Bool.true_and]
theorem cnt_wrN (s : Int → Int) : ∀ n : Nat, n ≤ 48 → (smB (wrF s) n : Int) = cntU s n
  | 0, _ => rfl
  | n + 1, h => by
    rw [smB_s, Int.natCast_add, cnt_wrN s n (by omega), cntU]
    have e : wrF s n = decide (untrue s n) := by
      unfold wrF
      rw [decide_eq_true (show n < 48 by omega), Bool.true_and]
    rw [e]
    by_cases q : untrue s n
    · rw [decide_eq_true q, if_pos q]; rfl
    · rw [decide_eq_false q, if_neg q]; rfl
theorem cnt_wr (s : Int → Int) : (smB (wrF s) 64 : Int) = wrongMany s := by
  rw [smB_hi (l48_wr s) 64 (by decide)]
  exact cnt_wrN s 48 (Nat.le_refl 48)
theorem cnt_be (s : Int → Int) {c : Int} (h0 : 0 ≤ c) (h : c < 48) : (smB (anF (wrF s) (bsF (onF c))) 64 : Int) = wrongBeside s c := by
  obtain ⟨n, rfl⟩ := Int.eq_ofNat_of_zero_le h0
  have hp : ∀ i, i < 64 → (anF (wrF s) (bsF (onF (n : Int))) i).toNat = (((if besd n 0 = (i : Int) ∧ wrF s i = true then 1 else 0) + (if besd n 1 = (i : Int) ∧ wrF s i = true then 1 else 0)) + (if besd n 2 = (i : Int) ∧ wrF s i = true then 1 else 0)) + (if besd n 3 = (i : Int) ∧ wrF s i = true then 1 else 0) := by
    intro i hi
    have h1 := nb_ind n (by omega) i hi
    unfold anF
    cases hw : wrF s i
    · simp
    · rw [Bool.true_and, h1]
      simp only [and_true]
  unfold smB
  rw [smN_cong hp, smN_add, smN_add, smN_add, smN_pt, smN_pt, smN_pt, smN_pt]
  have e : ∀ w : Int, (if 0 ≤ besd n w ∧ besd n w < ((64 : Nat) : Int) ∧ wrF s (besd n w).toNat = true then (1 : Nat) else 0) = if 0 ≤ besd n w ∧ untrue s (besd n w) then 1 else 0 := by
    intro w
    have hb := besd_lt (c := (n : Int)) (w := w) (by omega) h
    by_cases q : 0 ≤ besd n w
    · rw [wrF_at q hb.2]
      by_cases r : untrue s (besd n w)
      · rw [if_pos ⟨q, by omega, decide_eq_true r⟩, if_pos ⟨q, r⟩]
      · rw [if_neg (fun z => r (of_decide_eq_true z.2.2)), if_neg (fun z => r z.2)]
    · rw [if_neg (fun z => q z.1), if_neg (fun z => q z.1)]
  rw [e, e, e, e]
  show _ = cntB s (n : Int) 4
  rw [cntB, cntB, cntB, cntB, cntB]
  simp only [Int.natCast_add, Int.zero_add]
  have f : ∀ w : Int, ((if 0 ≤ besd n w ∧ untrue s (besd n w) then (1 : Nat) else 0 : Nat) : Int) = if 0 ≤ besd n w ∧ untrue s (besd n w) then 1 else 0 := by
    intro w
    split <;> rfl
  rw [f, f, f, f]
  rfl
/-! the least bit -/
def lowF (f : Nat → Bool) (j : Nat) : Nat → Bool := fun i => if i < j then true else if i = j then false else f i
theorem bN_none {f : Nat → Bool} : ∀ {n : Nat}, (∀ i, i < n → f i = false) → bN f n = 0
  | 0, _ => rfl
  | n + 1, h => by rw [bN, bN_none (fun i hi => h i (by omega)), h n (by omega)]; rfl
theorem bN_full {f : Nat → Bool} : ∀ {n : Nat}, (∀ i, i < n → f i = true) → bN f n + 1 = 2 ^ n
  | 0, _ => rfl
  | n + 1, h => by
    have ih := bN_full (n := n) (fun i hi => h i (by omega))
    rw [bN, h n (by omega), Bool.toNat_true, Nat.mul_one, Nat.pow_succ]
    omega
theorem bN_low {f : Nat → Bool} {j : Nat} (hj : f j = true) (hl : ∀ i, i < j → f i = false) : ∀ n : Nat, j < n → bN f n = bN (lowF f j) n + 1
  | 0, h => absurd h (Nat.not_lt_zero j)
  | n + 1, h => by
    rcases Nat.lt_or_ge j n with q | q
    · have ih := bN_low hj hl n q
      rw [bN, bN, ih]
      have e : lowF f j n = f n := by
        unfold lowF
        rw [if_neg (by omega), if_neg (by omega)]
      rw [e]; omega
    · have e : j = n := by omega
      subst e
      rw [bN, bN, hj, bN_none hl]
      have e1 : lowF f j j = false := by
        unfold lowF
        rw [if_neg (by omega), if_pos rfl]
      have e2 := bN_full (f := lowF f j) (n := j) (fun i hi => by unfold lowF; rw [if_pos hi])
      rw [e1, Bool.toNat_true, Bool.toNat_false]; omega
theorem lB_neg {f : Nat → Bool} {j : Nat} (hj64 : j < 64) (hj : f j = true) (hl : ∀ i, i < j → f i = false) : -lB f = lB (fun i => !lowF f j i) := lB_ext (fun i hi => by
  rw [lB_def]
  show (-(BitVec.ofNat 64 (bN f 64))).getLsbD i = _
  have e := bN_low hj hl 64 hj64
  have hlt := bN_lt f 64
  have hlt2 := bN_lt (lowF f j) 64
  have et : (-(BitVec.ofNat 64 (bN f 64))) = BitVec.ofNat 64 (2 ^ 64 - (bN (lowF f j) 64 + 1)) := by
    apply BitVec.eq_of_toNat_eq
    rw [BitVec.toNat_neg, BitVec.toNat_ofNat, BitVec.toNat_ofNat, Nat.mod_eq_of_lt hlt, e]
  rw [et, BitVec.getLsbD_ofNat, Nat.testBit_two_pow_sub_succ hlt2, bN_tb, decide_eq_true hi]
  simp)
theorem lB_low {f : Nat → Bool} {j : Nat} (hj48 : j < 48) (hj : f j = true) (hl : ∀ i, i < j → f i = false) : (lB f &&& -lB f) - lI 1 = lB (fun i => decide (i < j)) := by
  rw [lB_neg (by omega) hj hl, lB_and]
  have e : lB (fun i => f i && !lowF f j i) = lI ((2 ^ j : Nat) : Int) := by
    have h1 := lB_one (z := (j : Int)) (by omega) (by omega)
    rw [lI_shl1 j (by omega)] at h1
    rw [show ((2 ^ j : Nat) : Int) = 2 ^ j by simp, h1]
    refine lB_cong (fun i hi => ?_)
    rw [Int.toNat_natCast]
    unfold lowF
    by_cases a : i < j
    · rw [if_pos a, decide_eq_false (show ¬ i = j by omega)]; simp
    · rw [if_neg a]
      by_cases b : i = j
      · subst b; simp [hj]
      · rw [if_neg b, decide_eq_false b]; simp
  have e2 := bN_full (f := fun i => decide (i < j)) (n := j) (fun i hi => decide_eq_true hi)
  have e3 := bN_hi (f := fun i => decide (i < j)) (a := j) (fun i hi => decide_eq_false (by omega)) 64 (by omega)
  rw [e, lB_lI (fun i => decide (i < j)), e3, show lI 1 = lI ((1 : Nat) : Int) from rfl, lNat_sub (Nat.one_le_two_pow), ← e2, Nat.add_sub_cancel]
theorem smB_low {j : Nat} (hj : j ≤ 64) : smB (fun i => decide (i < j)) 64 = j := by
  rw [smB_hi (a := j) (fun i hi => decide_eq_false (by omega)) 64 hj]
  have key : ∀ n : Nat, n ≤ j → smB (fun i => decide (i < j)) n = n := by
    intro n
    induction n with
    | zero => intro _; rfl
    | succ n ih => intro h; rw [smB_s, ih (by omega), decide_eq_true (show n < j by omega)]; rfl
  exact key j (Nat.le_refl j)
/-! the cells up to k apart -/
def spF (p : Int) (k : Int) : Nat → Bool := fun i => decide (i < 48) && decide (apt p i ≤ k)
theorem sp_geo1 : ∀ p : Nat, p < 48 → ∀ i : Nat, i < 48 → (8 ≤ i → apt p i ≤ apt p ((i - 8 : Nat) : Int) + 1) ∧ (8 + i < 48 → apt p i ≤ apt p ((8 + i : Nat) : Int) + 1) := by decide +kernel
theorem sp_geo2 : ∀ p : Nat, p < 48 → ∀ i : Nat, i < 48 → (¬ i % 8 = 0 → apt p i ≤ apt p ((i - 1 : Nat) : Int) + 1) ∧ (¬ i % 8 = 7 → apt p i ≤ apt p ((1 + i : Nat) : Int) + 1) := by decide +kernel
abbrev spG (p i : Nat) : Prop := apt p i = 0 ∨ (8 ≤ i ∧ apt p ((i - 8 : Nat) : Int) + 1 = apt p i) ∨ (8 + i < 48 ∧ apt p ((8 + i : Nat) : Int) + 1 = apt p i) ∨ (¬ i % 8 = 0 ∧ apt p ((i - 1 : Nat) : Int) + 1 = apt p i) ∨ (¬ i % 8 = 7 ∧ apt p ((1 + i : Nat) : Int) + 1 = apt p i)
theorem sp_geo3 : ∀ p : Nat, p < 48 → ∀ i : Nat, i < 48 → spG p i := by decide +kernel
theorem sp_next {p k : Int} (h0 : 0 ≤ p) (h : p < 48) (hk : 0 ≤ k) {i : Nat} : orF (spF p k) (bsF (spF p k)) i = spF p (k + 1) i := by
  obtain ⟨q, rfl⟩ := Int.eq_ofNat_of_zero_le h0
  unfold orF bsF spF
  by_cases hi : i < 48
  · rw [decide_eq_true hi, Bool.true_and, Bool.true_and, Bool.and_true]
    obtain ⟨g1, g2⟩ := sp_geo1 q (by omega) i hi
    obtain ⟨g3, g4⟩ := sp_geo2 q (by omega) i hi
    have g5 : spG q i := sp_geo3 q (by omega) i hi
    rw [Bool.eq_iff_iff]
    simp only [Bool.or_eq_true, Bool.and_eq_true, decide_eq_true_eq]
    constructor
    · rintro (a | (⟨a, b, c⟩ | ⟨a, b⟩) | ⟨a, b, c⟩ | ⟨a, b, c⟩)
      · omega
      · have := g1 a; omega
      · have := g2 (by omega); omega
      · have := g3 a; omega
      · have := g4 a; omega
    · intro a
      rcases g5 with b | ⟨b, c⟩ | ⟨b, c⟩ | ⟨b, c⟩ | ⟨b, c⟩
      · left; omega
      · right; left; left; exact ⟨b, by omega, by omega⟩
      · right; left; right; exact ⟨by omega, by omega⟩
      · right; right; left; exact ⟨b, by omega, by omega⟩
      · right; right; right; exact ⟨b, by omega, by omega⟩
  · rw [decide_eq_false hi]; simp
theorem apt_0 : ∀ p : Nat, p < 48 → ∀ i : Nat, i < 48 → (apt p i ≤ 0 ↔ i = p) := by decide +kernel
theorem sp_0 {p : Int} (h0 : 0 ≤ p) (h : p < 48) {i : Nat} : onF p i = spF p 0 i := by
  obtain ⟨q, rfl⟩ := Int.eq_ofNat_of_zero_le h0
  unfold onF spF
  rw [Int.toNat_natCast]
  by_cases hi : i < 48
  · rw [decide_eq_true hi, Bool.true_and, Bool.eq_iff_iff]
    simp only [decide_eq_true_eq]
    exact (apt_0 q (by omega) i hi).symm
  · rw [decide_eq_false hi, decide_eq_false (show ¬ i = q by omega), Bool.false_and]
