/-! numbers: Java's ints and longs out of integers -/
def iI (z : Int) : Int32 := Int32.ofInt z
def lI (z : Int) : Int64 := Int64.ofInt z
def iB (P : Prop) [Decidable P] : Int32 := if P then 1 else 0
def In32 (z : Int) : Prop := -2147483648 ≤ z ∧ z < 2147483648
theorem iI_toInt {z : Int} (h : In32 z) : (iI z).toInt = z := Int32.toInt_ofInt_of_le h.1 h.2
theorem iI_of (x : Int32) : iI x.toInt = x := Int32.ofInt_toInt x
theorem in32_of (x : Int32) : In32 x.toInt := ⟨Int32.le_toInt x, Int32.toInt_lt x⟩
theorem iI_add (a b : Int) : iI a + iI b = iI (a + b) := (Int32.ofInt_add a b).symm
theorem iI_sub (a b : Int) : iI a - iI b = iI (a - b) := (Int32.ofInt_sub a b).symm
theorem iI_mul (a b : Int) : iI a * iI b = iI (a * b) := (Int32.ofInt_mul a b).symm
theorem iI_neg (a : Int) : -iI a = iI (-a) := (Int32.ofInt_neg a).symm
theorem iI_lt {a b : Int} (ha : In32 a) (hb : In32 b) : iI a < iI b ↔ a < b := by rw [Int32.lt_iff_toInt_lt, iI_toInt ha, iI_toInt hb]
theorem iI_le {a b : Int} (ha : In32 a) (hb : In32 b) : iI a ≤ iI b ↔ a ≤ b := by rw [Int32.le_iff_toInt_le, iI_toInt ha, iI_toInt hb]
theorem iI_eq {a b : Int} (ha : In32 a) (hb : In32 b) : iI a = iI b ↔ a = b := by rw [← Int32.toInt_inj, iI_toInt ha, iI_toInt hb]
theorem iI_0 : iI 0 = 0 := rfl
theorem iI_nat (n : Nat) : iI (n : Int) = nI n := Int32.ofInt_eq_ofNat
theorem iI_clamp {z : Int} (h0 : 0 ≤ z) (h : z < 2147483648) : (iI z).toNatClampNeg = z.toNat := by
  obtain ⟨n, rfl⟩ := Int.eq_ofNat_of_zero_le h0
  rw [iI_nat, nI_clamp (by omega)]; rfl
theorem iI_ix {z : Int} {n : Nat} (h0 : 0 ≤ z) (h : z < n) (hn : n < 2147483648) : vp_in (iI z) n := by
  obtain ⟨j, rfl⟩ := Int.eq_ofNat_of_zero_le h0
  rw [iI_nat]; exact vp_in_nI (by omega) (by omega)
theorem iI_div {a b : Int} (h0 : 0 ≤ a) (h : a < 2147483648) (hb : 0 < b) (hb2 : b < 2147483648) : iI a / iI b = iI (a / b) := by
  obtain ⟨n, rfl⟩ := Int.eq_ofNat_of_zero_le h0
  obtain ⟨d, rfl⟩ := Int.eq_ofNat_of_zero_le (Int.le_of_lt hb)
  rw [iI_nat, iI_nat, pk_div (by omega) (by omega) (by omega)]
  exact (iI_nat _).symm
theorem iI_rem {a b : Int} (h0 : 0 ≤ a) (h : a < 2147483648) (hb : 0 < b) (hb2 : b < 2147483648) : iI a - iI a / iI b * iI b = iI (a % b) := by
  obtain ⟨n, rfl⟩ := Int.eq_ofNat_of_zero_le h0
  obtain ⟨d, rfl⟩ := Int.eq_ofNat_of_zero_le (Int.le_of_lt hb)
  rw [iI_nat, iI_nat, pk_rem (by omega) (by omega) (by omega)]
  exact (iI_nat _).symm
theorem iI_long {a : Int} (h : In32 a) : (iI a).toInt64 = lI a := Int64.toInt_inj.mp (by
  rw [Int32.toInt_toInt64, iI_toInt h]
  have h1 := h.1; have h2 := h.2
  exact (Int64.toInt_ofInt_of_le (by omega) (by omega)).symm)
def In64 (z : Int) : Prop := -9223372036854775808 ≤ z ∧ z < 9223372036854775808
theorem lI_toInt {z : Int} (h : In64 z) : (lI z).toInt = z := Int64.toInt_ofInt_of_le h.1 h.2
theorem lI_of (x : Int64) : lI x.toInt = x := Int64.ofInt_toInt x
theorem in64_of (x : Int64) : In64 x.toInt := ⟨Int64.le_toInt x, Int64.toInt_lt x⟩
theorem lI_eq {a b : Int} (ha : In64 a) (hb : In64 b) : lI a = lI b ↔ a = b := by rw [← Int64.toInt_inj, lI_toInt ha, lI_toInt hb]
theorem in64_32 {z : Int} (h : In32 z) : In64 z := ⟨by have := h.1; omega, by have := h.2; omega⟩
/-! arrays out of functions on integers -/
def arr (f : Int → Int) : Nat → Int32 := fun j => iI (f (j : Int))
def arL (f : Int → Int64) : Nat → Int64 := fun j => f (j : Int)
def up {α : Type} (f : Int → α) (z : Int) (v : α) : Int → α := fun k => if k = z then v else f k
theorem up_s {α : Type} (f : Int → α) (z : Int) (v : α) : up f z v z = v := if_pos rfl
theorem up_n {α : Type} {f : Int → α} {z k : Int} {v : α} (h : k ≠ z) : up f z v k = f k := if_neg h
theorem arr_at (f : Int → Int) {z : Int} (h : 0 ≤ z) : arr f z.toNat = iI (f z) := by
  show iI (f _) = _
  rw [Int.toNat_of_nonneg h]
theorem arL_at (f : Int → Int64) {z : Int} (h : 0 ≤ z) : arL f z.toNat = f z := by
  show f _ = _
  rw [Int.toNat_of_nonneg h]
theorem arr_up (f : Int → Int) {z : Int} (h : 0 ≤ z) (v : Int) : upd (arr f) z.toNat (iI v) = arr (up f z v) := by
  funext j
  show (if j = z.toNat then iI v else iI (f j)) = iI (if (j : Int) = z then v else f j)
  by_cases e : j = z.toNat
  · rw [if_pos e, if_pos (by omega)]
  · rw [if_neg e, if_neg (by omega)]
theorem arL_up (f : Int → Int64) {z : Int} (h : 0 ≤ z) (v : Int64) : vp_updL (arL f) z.toNat v = arL (up f z v) := by
  funext j
  show (if j = z.toNat then v else f j) = (if (j : Int) = z then v else f j)
  by_cases e : j = z.toNat
  · rw [if_pos e, if_pos (by omega)]
  · rw [if_neg e, if_neg (by omega)]
/-- a function on 0 .. n-1, 0 elsewhere -/
def cu (n : Int) (f : Int → Int) : Int → Int := fun i => if 0 ≤ i ∧ i < n then f i else 0
/-! one list of words for all methods -/
def TB : List Cond := lw_tbl.filter goodWord
theorem tb_in {w : Cond} (h : w ∈ TB) : w ∈ lw_tbl := (List.mem_filter.mp h).1
theorem tb_of {w : Cond} (h : w ∈ lw_tbl) (g : goodWord w = true) : w ∈ TB := List.mem_filter.mpr ⟨h, g⟩
theorem tb_t {w : Cond} (i : Nat) (h : tables_1[i]? = some w) (g : goodWord w = true) : w ∈ TB := tb_of (List.mem_append_right _ (List.mem_of_getElem? h)) g
theorem tb_s {w : Cond} (i : Nat) (h : (k2_sels lw_privs)[i]? = some w) (g : goodWord w = true) : w ∈ TB := tb_of (List.mem_append_left _ (List.mem_of_getElem? h)) g
theorem tb_good {big : List Cond} (hb : ∀ w ∈ TB, w ∈ big) {y : MethodName} {cc : ByteArray} {n : Nat} {r : Option FieldType} (h : Cond.code y cc n r ∈ TB) : GoodIn big (.code y cc n r :: TB) := by
  intro w hw
  have hw' : w ∈ TB := by
    rcases List.mem_cons.mp hw with rfl | h1
    · exact h
    · exact h1
  exact ⟨hb w hw', good_of_word (List.mem_filter.mp hw').2⟩
