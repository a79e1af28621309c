/-! fields of bits, and how many bits are set -/
def fldN (w : Nat) (c : Nat → Nat) : Nat → Nat
  | 0 => 0
  | n + 1 => fldN w c n + c n * 2 ^ (w * n)
theorem fldN_lt {w : Nat} {c : Nat → Nat} (h : ∀ j, c j < 2 ^ w) : ∀ n : Nat, fldN w c n < 2 ^ (w * n)
  | 0 => by rw [fldN]; exact Nat.two_pow_pos _
  | n + 1 => by
    have ih := fldN_lt h n
    have h1 := h n
    rw [fldN, Nat.mul_succ, Nat.pow_add]
    have h2 : c n * 2 ^ (w * n) + 2 ^ (w * n) ≤ 2 ^ (w * n) * 2 ^ w := by
      have := Nat.mul_le_mul_right (2 ^ (w * n)) (Nat.succ_le_of_lt h1)
      rw [Nat.succ_mul, Nat.mul_comm (2 ^ w)] at this
      exact this
    omega
theorem and_split {x m y z k : Nat} (hx : x < 2 ^ k) (hm : m < 2 ^ k) : (x + y * 2 ^ k) &&& (m + z * 2 ^ k) = (x &&& m) + (y &&& z) * 2 ^ k := by
  have e : ∀ {a b : Nat}, a + b * 2 ^ k = 2 ^ k * b + a := fun {a b} => by rw [Nat.mul_comm, Nat.add_comm]
  rw [e, e, e]
  apply Nat.eq_of_testBit_eq
  intro i
  have hxm : x &&& m < 2 ^ k := Nat.lt_of_le_of_lt Nat.and_le_left hx
  rw [Nat.testBit_and, Nat.testBit_two_pow_mul_add _ hx, Nat.testBit_two_pow_mul_add _ hm, Nat.testBit_two_pow_mul_add _ hxm]
  split
  · rw [Nat.testBit_and]
  · rw [Nat.testBit_and]
def Mk (w : Nat) : Nat → Nat := fldN (2 * w) (fun _ => 2 ^ w - 1)
theorem fldN_two (w : Nat) (c : Nat → Nat) : ∀ n : Nat, fldN w c (2 * n) = fldN (2 * w) (fun j => c (2 * j)) n + 2 ^ w * fldN (2 * w) (fun j => c (2 * j + 1)) n
  | 0 => rfl
  | n + 1 => by
    have ih := fldN_two w c n
    rw [show 2 * (n + 1) = 2 * n + 1 + 1 by omega, fldN, fldN, ih, fldN, fldN]
    have e1 : w * (2 * n) = 2 * w * n := by rw [Nat.mul_comm 2 n, ← Nat.mul_assoc, Nat.mul_comm, Nat.mul_assoc 2]
    have e2 : w * (2 * n + 1) = 2 * w * n + w := by rw [Nat.mul_add, e1, Nat.mul_one]
    rw [e1, e2, Nat.pow_add, Nat.mul_add (2 ^ w)]
    have e3 : c (2 * n + 1) * (2 ^ (2 * w * n) * 2 ^ w) = 2 ^ w * (c (2 * n + 1) * 2 ^ (2 * w * n)) := by
      rw [Nat.mul_comm (2 ^ (2 * w * n)), ← Nat.mul_assoc, Nat.mul_comm (c (2 * n + 1)), Nat.mul_assoc]
    rw [e3]
    omega
theorem fldN_add (w : Nat) (c d : Nat → Nat) : ∀ n : Nat, fldN w c n + fldN w d n = fldN w (fun j => c j + d j) n
  | 0 => rfl
  | n + 1 => by
    have ih := fldN_add w c d n
    rw [fldN, fldN, fldN, ← ih, Nat.add_mul]
    omega
/-- every second field -/
theorem fldN_even {w : Nat} {c : Nat → Nat} (h : ∀ j, c j < 2 ^ w) : ∀ n : Nat, fldN w c (2 * n) &&& Mk w n = fldN (2 * w) (fun j => c (2 * j)) n
  | 0 => by rw [Nat.mul_zero, fldN, fldN, Nat.zero_and]
  | n + 1 => by
    have ih := fldN_even h n
    have e1 : w * (2 * n) = 2 * w * n := by rw [Nat.mul_comm 2 n, ← Nat.mul_assoc, Nat.mul_comm, Nat.mul_assoc 2]
    have e2 : w * (2 * n + 1) = 2 * w * n + w := by rw [Nat.mul_add, e1, Nat.mul_one]
    have hl : fldN w c (2 * n + 1 + 1) = fldN w c (2 * n) + (c (2 * n) + c (2 * n + 1) * 2 ^ w) * 2 ^ (2 * w * n) := by
      rw [fldN, fldN, e1, e2, Nat.pow_add, Nat.add_mul, Nat.mul_assoc (c (2 * n + 1)), Nat.mul_comm (2 ^ w)]
      omega
    have hm : Mk w (n + 1) = Mk w n + (2 ^ w - 1) * 2 ^ (2 * w * n) := rfl
    have hb : fldN w c (2 * n) < 2 ^ (2 * w * n) := by rw [← e1]; exact fldN_lt h (2 * n)
    have hmb : Mk w n < 2 ^ (2 * w * n) := fldN_lt (fun _ => by
      have := Nat.two_pow_pos w
      have := Nat.pow_le_pow_right (n := 2) (by decide) (show w ≤ 2 * w by omega)
      omega) n
    rw [show 2 * (n + 1) = 2 * n + 1 + 1 by omega, hl, hm, and_split hb hmb, ih, Nat.and_two_pow_sub_one_eq_mod, fldN]
    have h1 := h (2 * n)
    rw [Nat.add_mul_mod_self_right, Nat.mod_eq_of_lt h1]
theorem fldN_succ (w : Nat) (c : Nat → Nat) : ∀ n : Nat, fldN w c (n + 1) = c 0 + 2 ^ w * fldN w (fun j => c (j + 1)) n
  | 0 => by simp [fldN]
  | n + 1 => by
    have ih := fldN_succ w c n
    rw [fldN, ih, fldN, Nat.mul_succ, Nat.pow_add, Nat.mul_add]
    have e3 : c (n + 1) * (2 ^ (w * n) * 2 ^ w) = 2 ^ w * (c (n + 1) * 2 ^ (w * n)) := by
      rw [Nat.mul_comm (2 ^ (w * n)), ← Nat.mul_assoc, Nat.mul_comm (c (n + 1)), Nat.mul_assoc]
    rw [e3]
    omega
theorem fldN_cong (w : Nat) {c d : Nat → Nat} : ∀ {n : Nat}, (∀ j, j < n → c j = d j) → fldN w c n = fldN w d n
  | 0, _ => rfl
  | n + 1, h => by rw [fldN, fldN, fldN_cong w (fun j hj => h j (by omega)), h n (by omega)]
theorem fldN_shr {w : Nat} {c : Nat → Nat} (h : c 0 < 2 ^ w) (n : Nat) : fldN w c (n + 1) / 2 ^ w = fldN w (fun j => c (j + 1)) n := by
  rw [fldN_succ, Nat.add_mul_div_left _ _ (Nat.two_pow_pos w), Nat.div_eq_of_lt h, Nat.zero_add]
/-- the bits of a number -/
def btN (x j : Nat) : Nat := x / 2 ^ j % 2
theorem fldN_bits (x : Nat) : ∀ n : Nat, fldN 1 (btN x) n = x % 2 ^ n
  | 0 => by rw [fldN]; omega
  | n + 1 => by
    rw [fldN, fldN_bits x n, Nat.one_mul, btN, Nat.pow_succ, Nat.mod_mul]
    rw [Nat.mul_comm]
def smN (c : Nat → Nat) : Nat → Nat
  | 0 => 0
  | n + 1 => smN c n + c n
theorem smN_cong {c d : Nat → Nat} : ∀ {n : Nat}, (∀ j, j < n → c j = d j) → smN c n = smN d n
  | 0, _ => rfl
  | n + 1, h => by rw [smN, smN, smN_cong (fun j hj => h j (by omega)), h n (by omega)]
theorem smN_two (c : Nat → Nat) : ∀ n : Nat, smN c (2 * n) = smN (fun j => c (2 * j) + c (2 * j + 1)) n
  | 0 => rfl
  | n + 1 => by
    rw [show 2 * (n + 1) = 2 * n + 1 + 1 by omega, smN, smN, smN_two c n, smN]
    omega
/-- one step: the sums of neighbouring fields -/
theorem fldN_pair {w : Nat} {c : Nat → Nat} (h : ∀ j, c j < 2 ^ w) (n : Nat) : (fldN w c (2 * n) &&& Mk w n) + (fldN w c (2 * n) / 2 ^ w &&& Mk w n) = fldN (2 * w) (fun j => c (2 * j) + c (2 * j + 1)) n := by
  rw [fldN_even h n]
  have e : fldN w c (2 * n) / 2 ^ w &&& Mk w n = fldN (2 * w) (fun j => c (2 * j + 1)) n := by
    cases n with
    | zero => rw [Nat.mul_zero, fldN, fldN, Nat.zero_div, Nat.zero_and]
    | succ n =>
      rw [show 2 * (n + 1) = 2 * n + 1 + 1 by omega, fldN_shr (h 0)]
      have e2 : fldN w (fun j => c (j + 1)) (2 * n + 1) = fldN w (fun j => if j < 2 * n + 1 then c (j + 1) else 0) (2 * (n + 1)) := by
        rw [show 2 * (n + 1) = 2 * n + 1 + 1 by omega]
        conv => rhs; rw [fldN]
        rw [if_neg (by omega), Nat.zero_mul, Nat.add_zero]
        exact fldN_cong w (fun j hj => by rw [if_pos hj])
      rw [e2, fldN_even (fun j => by
        split
        · exact h (j + 1)
        · exact Nat.two_pow_pos w) (n + 1)]
      exact fldN_cong (2 * w) (fun j hj => by rw [if_pos (by omega)])
  rw [e, fldN_add]
theorem btN_lt (x j : Nat) : btN x j < 2 ^ 1 := Nat.mod_lt _ (by decide)
/-- fields and their right neighbours -/
theorem fldN_next {w : Nat} {c : Nat → Nat} (h : c 0 < 2 ^ w) (n : Nat) (k : Nat → Nat) (hk : ∀ j, k j = if j < n then c j + c (j + 1) else c j) : fldN w c (n + 1) + fldN w c (n + 1) / 2 ^ w = fldN w k (n + 1) := by
  rw [fldN_shr h]
  have e2 : fldN w (fun j => c (j + 1)) n = fldN w (fun j => if j < n then c (j + 1) else 0) (n + 1) := by
    conv => rhs; rw [fldN]
    rw [if_neg (by omega), Nat.zero_mul, Nat.add_zero]
    exact fldN_cong w (fun j hj => by rw [if_pos hj])
  rw [e2, fldN_add]
  exact fldN_cong w (fun j hj => by
    rw [hk]
    split <;> rfl)
def pop1 (x : Nat) : Nat := x - (x / 2 &&& 6148914691236517205)
def pop2 (x : Nat) : Nat := (x &&& 3689348814741910323) + (x / 4 &&& 3689348814741910323)
def pop3 (x : Nat) : Nat := (x + x / 16) &&& 1085102592571150095
def pop4 (x : Nat) : Nat := x + x / 256
def pop5 (x : Nat) : Nat := x + x / 65536
def pop6 (x : Nat) : Nat := x + x / 4294967296
def popN (x : Nat) : Nat := pop6 (pop5 (pop4 (pop3 (pop2 (pop1 x))))) % 128
theorem mk1 : Mk 1 32 = 6148914691236517205 := by decide +kernel
theorem mk2 : Mk 2 16 = 3689348814741910323 := by decide +kernel
theorem mk4 : Mk 4 8 = 1085102592571150095 := by decide +kernel
theorem pop1_eq {x : Nat} (hx : x < 2 ^ 64) : pop1 x = fldN 2 (fun j => btN x (2 * j) + btN x (2 * j + 1)) 32 := by
  have e : fldN 1 (btN x) (2 * 32) = x := by rw [fldN_bits, Nat.mod_eq_of_lt hx]
  have h1 := fldN_pair (btN_lt x) 32
  have h2 := fldN_two 1 (btN x) 32
  have h3 := fldN_even (btN_lt x) 32
  rw [e] at h1 h2 h3
  unfold pop1
  rw [← mk1]
  rw [show 2 ^ 1 = 2 from rfl] at h1 h2
  rw [h3] at h1
  have h4 : (x / 2 &&& Mk 1 32) = fldN (2 * 1) (fun j => btN x (2 * j + 1)) 32 := by
    have := fldN_add (2 * 1) (fun j => btN x (2 * j)) (fun j => btN x (2 * j + 1)) 32
    omega
  rw [h4] at h1 ⊢
  rw [← h1]
  omega
theorem pop2_eq {d : Nat → Nat} (h : ∀ j, d j < 4) : pop2 (fldN 2 d 32) = fldN 4 (fun j => d (2 * j) + d (2 * j + 1)) 16 := by
  have h1 := fldN_pair (w := 2) (c := d) h 16
  unfold pop2
  rw [← mk2]
  exact h1
