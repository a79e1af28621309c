/-! sets of bits in a long -/
def bN (f : Nat → Bool) : Nat → Nat
  | 0 => 0
  | n + 1 => 2 ^ n * (f n).toNat + bN f n
theorem bN_lt (f : Nat → Bool) : ∀ n : Nat, bN f n < 2 ^ n
  | 0 => by rw [bN]; decide
  | n + 1 => by
    have h := bN_lt f n
    rw [bN, Nat.pow_succ]
    cases f n
    · rw [Bool.toNat_false, Nat.mul_zero]; omega
    · rw [Bool.toNat_true, Nat.mul_one]; omega
theorem bN_tb (f : Nat → Bool) : ∀ n i : Nat, (bN f n).testBit i = (decide (i < n) && f i)
  | 0, i => by simp [bN]
  | n + 1, i => by
    rw [bN, Nat.testBit_two_pow_mul_add _ (bN_lt f n)]
    by_cases h : i < n
    · rw [if_pos h, bN_tb f n i, decide_eq_true h, decide_eq_true (show i < n + 1 by omega)]
    · rw [if_neg h]
      by_cases e : i = n
      · subst e
        rw [Nat.sub_self, decide_eq_true (show i < i + 1 by omega)]
        cases f i <;> rfl
      · rw [decide_eq_false (show ¬ i < n + 1 by omega)]
        obtain ⟨d, hd⟩ : ∃ d, i - n = d + 1 := ⟨i - n - 1, by omega⟩
        rw [hd]
        cases f n
        · simp
        · simp [Nat.testBit_succ]
theorem lB_ex (f : Nat → Bool) : ∃ x : Int64, x = Int64.ofBitVec (BitVec.ofNat 64 (bN f 64)) := ⟨_, rfl⟩
noncomputable def lB (f : Nat → Bool) : Int64 := Classical.choose (lB_ex f)
theorem lB_def (f : Nat → Bool) : lB f = Int64.ofBitVec (BitVec.ofNat 64 (bN f 64)) := Classical.choose_spec (lB_ex f)
theorem lB_bit (f : Nat → Bool) (i : Nat) : (lB f).toBitVec.getLsbD i = (decide (i < 64) && f i) := by
  rw [lB_def]
  show (BitVec.ofNat 64 (bN f 64)).getLsbD i = _
  rw [BitVec.getLsbD_ofNat, bN_tb]
  cases decide (i < 64) <;> rfl
theorem lB_ext {x : Int64} {f : Nat → Bool} (h : ∀ i, i < 64 → x.toBitVec.getLsbD i = f i) : x = lB f := by
  apply Int64.toBitVec.inj
  apply BitVec.eq_of_getLsbD_eq
  intro i hi
  rw [lB_bit, h i hi, decide_eq_true hi, Bool.true_and]
theorem lB_at {f : Nat → Bool} {i : Nat} (hi : i < 64) : (lB f).toBitVec.getLsbD i = f i := by rw [lB_bit, decide_eq_true hi, Bool.true_and]
theorem lB_cong {f g : Nat → Bool} (h : ∀ i, i < 64 → f i = g i) : lB f = lB g := lB_ext (fun i hi => by rw [lB_at hi, h i hi])
theorem lB_inj {f g : Nat → Bool} (h : lB f = lB g) {i : Nat} (hi : i < 64) : f i = g i := by
  rw [← lB_at (f := f) hi, h, lB_at hi]
theorem lB_and (f g : Nat → Bool) : lB f &&& lB g = lB (fun i => f i && g i) := lB_ext (fun i hi => by
  show ((lB f).toBitVec &&& (lB g).toBitVec).getLsbD i = _
  rw [BitVec.getLsbD_and, lB_at hi, lB_at hi])
theorem lB_or (f g : Nat → Bool) : lB f ||| lB g = lB (fun i => f i || g i) := lB_ext (fun i hi => by
  show ((lB f).toBitVec ||| (lB g).toBitVec).getLsbD i = _
  rw [BitVec.getLsbD_or, lB_at hi, lB_at hi])
theorem lI_m1 : ∀ i : Nat, i < 64 → (lI (-1)).toBitVec.getLsbD i = true := by decide +kernel
theorem lB_not (f : Nat → Bool) : lB f ^^^ lI (-1) = lB (fun i => !f i) := lB_ext (fun i hi => by
  show ((lB f).toBitVec ^^^ (lI (-1)).toBitVec).getLsbD i = _
  rw [BitVec.getLsbD_xor, lB_at hi, lI_m1 i hi, Bool.xor_true])
theorem sh63 : ∀ n : Nat, n < 64 → (((iI (n : Int)).toInt64 &&& 63).toBitVec.smod 64#64) = BitVec.ofNat 64 n := by decide +kernel
theorem su63 : ∀ n : Nat, n < 64 → (((iI (n : Int)).toInt64.toUInt64 &&& Int64.toUInt64 63).toBitVec % 64#64) = BitVec.ofNat 64 n := by decide +kernel
theorem lB_shl (f : Nat → Bool) {n : Nat} (hn : n < 64) : lB f <<< ((iI (n : Int)).toInt64 &&& 63) = lB (fun i => decide (n ≤ i) && f (i - n)) := lB_ext (fun i hi => by
  show ((lB f).toBitVec <<< (((iI (n : Int)).toInt64 &&& 63).toBitVec.smod 64#64)).getLsbD i = _
  rw [sh63 n hn, BitVec.shiftLeft_eq', BitVec.getLsbD_shiftLeft, BitVec.toNat_ofNat, Nat.mod_eq_of_lt (by omega), lB_at (by omega), decide_eq_true hi]
  by_cases h : n ≤ i
  · rw [decide_eq_true h, decide_eq_false (show ¬ i < n by omega)]; rfl
  · rw [decide_eq_false h, decide_eq_true (show i < n by omega)]; rfl)
theorem lB_ushr (f : Nat → Bool) {n : Nat} (hn : n < 64) : ((lB f).toUInt64 >>> ((iI (n : Int)).toInt64.toUInt64 &&& Int64.toUInt64 63)).toInt64 = lB (fun i => decide (n + i < 64) && f (n + i)) := lB_ext (fun i hi => by
  show ((lB f).toBitVec >>> (((iI (n : Int)).toInt64.toUInt64 &&& Int64.toUInt64 63).toBitVec % 64#64)).getLsbD i = _
  rw [su63 n hn, BitVec.ushiftRight_eq', BitVec.getLsbD_ushiftRight, BitVec.toNat_ofNat, Nat.mod_eq_of_lt (by omega), lB_bit])
theorem lB_0 : lI 0 = lB (fun _ => false) := lB_ext (by decide +kernel)
theorem lB_1 : lI 1 = lB (fun i => decide (i = 0)) := lB_ext (by decide +kernel)
/-- one bit -/
theorem lB_one {z : Int} (h0 : 0 ≤ z) (h : z < 64) : lI 1 <<< ((iI z).toInt64 &&& 63) = lB (fun i => decide (i = z.toNat)) := by
  obtain ⟨n, rfl⟩ := Int.eq_ofNat_of_zero_le h0
  rw [lB_1, lB_shl _ (by omega)]
  refine lB_cong (fun i hi => ?_)
  rw [Int.toNat_natCast]
  by_cases e : i = n
  · subst e; simp
  · rw [decide_eq_false e]
    by_cases h : n ≤ i
    · rw [decide_eq_false (show ¬ i - n = 0 by omega), Bool.and_false]
    · rw [decide_eq_false h, Bool.false_and]
theorem lB_zero {f : Nat → Bool} : lB f = lI 0 ↔ ∀ i, i < 64 → f i = false := by
  rw [lB_0]
  exact ⟨fun h i hi => lB_inj h hi, fun h => lB_cong h⟩
theorem lg_cmpE (x y : Int64) : (lg_cmp x y = 0) ↔ x = y := by
  unfold lg_cmp
  by_cases h1 : x = y
  · subst h1
    simp
  · constructor
    · intro h
      exfalso
      revert h
      split
      · decide
      · first | decide | (split <;> decide) | (rw [if_neg h1]; decide)
    · intro h; exact absurd h h1
/-- how many -/
def smB (f : Nat → Bool) (n : Nat) : Nat := smN (fun i => (f i).toNat) n
theorem smB_0 (f : Nat → Bool) : smB f 0 = 0 := rfl
theorem smB_s (f : Nat → Bool) (n : Nat) : smB f (n + 1) = smB f n + (f n).toNat := rfl
theorem smB_cong {f g : Nat → Bool} {n : Nat} (h : ∀ j, j < n → f j = g j) : smB f n = smB g n := smN_cong (fun j hj => by rw [h j hj])
theorem bN_bt (f : Nat → Bool) {n j : Nat} (hj : j < n) : btN (bN f n) j = (f j).toNat := by
  have h := bN_tb f n j
  rw [Nat.testBit_eq_decide_div_mod_eq, decide_eq_true hj, Bool.true_and] at h
  unfold btN
  have h2 : bN f n / 2 ^ j % 2 < 2 := Nat.mod_lt _ (by decide)
  cases e : f j
  · rw [e] at h
    have := of_decide_eq_false h
    rw [Bool.toNat_false]; omega
  · rw [e] at h
    have := of_decide_eq_true h
    rw [Bool.toNat_true]; omega
theorem pop_bN (f : Nat → Bool) : popN (bN f 64) = smB f 64 := by
  rw [pop_all (bN_lt f 64)]
  exact smN_cong (fun j hj => bN_bt f hj)
theorem smB_le (f : Nat → Bool) : ∀ n : Nat, smB f n ≤ n
  | 0 => Nat.le_refl 0
  | n + 1 => by
    have := smB_le f n
    have := Bool.toNat_le (f n)
    rw [smB_s]; omega
theorem smB_hi {f : Nat → Bool} {a : Nat} (h : ∀ j, a ≤ j → f j = false) : ∀ n : Nat, a ≤ n → smB f n = smB f a
  | 0, hn => by rw [show a = 0 by omega]
  | n + 1, hn => by
    rcases Nat.lt_or_ge n a with q | q
    · rw [show a = n + 1 by omega]
    · rw [smB_s, smB_hi h n q, h n q]; rfl
theorem bN_hi {f : Nat → Bool} {a : Nat} (h : ∀ j, a ≤ j → f j = false) : ∀ n : Nat, a ≤ n → bN f n = bN f a
  | 0, hn => by rw [show a = 0 by omega]
  | n + 1, hn => by
    rcases Nat.lt_or_ge n a with q | q
    · rw [show a = n + 1 by omega]
    · rw [bN, bN_hi h n q, h n q, Bool.toNat_false, Nat.mul_zero, Nat.zero_add]
/-- no bit from 48 on -/
def L48 (f : Nat → Bool) : Prop := ∀ j, 48 ≤ j → f j = false
theorem bN_48 {f : Nat → Bool} (h : L48 f) : bN f 64 < 281474976710656 := by
  rw [bN_hi h 64 (by decide)]
  exact bN_lt f 48
theorem lB_lI (f : Nat → Bool) : lB f = lI (bN f 64 : Nat) := by
  rw [lB_def]
  show Int64.ofBitVec (BitVec.ofNat 64 (bN f 64)) = Int64.ofInt ((bN f 64 : Nat) : Int)
  exact (Int64.ofInt_eq_ofNat (n := bN f 64)).symm
/-! longs of natural numbers below 2^63 -/
theorem lI_nat (n : Nat) : lI (n : Int) = Int64.ofNat n := Int64.ofInt_eq_ofNat
theorem lNat_and (a b : Nat) : lI (a : Int) &&& lI (b : Int) = lI ((a &&& b : Nat) : Int) := by
  rw [lI_nat, lI_nat, lI_nat]
  apply Int64.toBitVec.inj
  show BitVec.ofNat 64 a &&& BitVec.ofNat 64 b = BitVec.ofNat 64 (a &&& b)
  rw [BitVec.ofNat_and]
theorem lNat_ushr {a : Nat} (ha : a < 2 ^ 64) {n : Nat} (hn : n < 64) : ((lI (a : Int)).toUInt64 >>> ((iI (n : Int)).toInt64.toUInt64 &&& Int64.toUInt64 63)).toInt64 = lI ((a / 2 ^ n : Nat) : Int) := by
  rw [lI_nat, lI_nat]
  apply Int64.toBitVec.inj
  show BitVec.ofNat 64 a >>> (((iI (n : Int)).toInt64.toUInt64 &&& Int64.toUInt64 63).toBitVec % 64#64) = BitVec.ofNat 64 (a / 2 ^ n)
  rw [su63 n hn, BitVec.ushiftRight_eq']
  apply BitVec.eq_of_toNat_eq
  rw [BitVec.toNat_ushiftRight, BitVec.toNat_ofNat, BitVec.toNat_ofNat, BitVec.toNat_ofNat, Nat.mod_eq_of_lt ha, Nat.mod_eq_of_lt (show n < 2 ^ 64 by omega), Nat.shiftRight_eq_div_pow]
  exact (Nat.mod_eq_of_lt (Nat.lt_of_le_of_lt (Nat.div_le_self _ _) ha)).symm
theorem lNat_add (a b : Nat) : lI (a : Int) + lI (b : Int) = lI ((a + b : Nat) : Int) := by
  rw [Int.natCast_add]
  exact (Int64.ofInt_add _ _).symm
theorem lNat_sub {a b : Nat} (h : b ≤ a) : lI (a : Int) - lI (b : Int) = lI ((a - b : Nat) : Int) := by
  rw [Int.natCast_sub h]
  exact (Int64.ofInt_sub _ _).symm
theorem iI_and127 (x : Nat) : iI (x : Int) &&& iI 127 = iI ((x % 128 : Nat) : Int) := by
  rw [iI_nat, iI_nat]
  apply Int32.toBitVec.inj
  show BitVec.ofNat 32 x &&& BitVec.ofNat 32 127 = BitVec.ofNat 32 (x % 128)
  rw [← BitVec.ofNat_and]
  congr 1
  exact Nat.and_two_pow_sub_one_eq_mod x 7
theorem pop1_le (x : Nat) : pop1 x ≤ x := Nat.sub_le _ _
theorem pop2_le (x : Nat) : pop2 x ≤ x + x / 4 := Nat.add_le_add Nat.and_le_left Nat.and_le_left
theorem pop3_le (x : Nat) : pop3 x ≤ x + x / 16 := Nat.and_le_left
