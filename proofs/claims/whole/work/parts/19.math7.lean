/-! longs, sheets, images -/
theorem in64_rg (x : Int64) : -9223372036854775808 ≤ x.toInt ∧ x.toInt < 9223372036854775808 := in64_of x
theorem lI_i (v : Int) : (lI v).toInt32 = iI v := Int64.toInt32_ofInt
theorem iI_b (v : Int) : (iI v).toInt8.toInt32 = iI (v.bmod 256) := by
  apply Int32.toInt_inj.mp
  have h1 : -128 ≤ v.bmod 256 ∧ v.bmod 256 < 128 := by
    have a := Int.le_bmod (x := v) (m := 256) (by decide)
    have b := Int.bmod_lt (x := v) (m := 256) (by decide)
    constructor <;> omega
  rw [iI_toInt ⟨by omega, by omega⟩]
  have e : (iI v).toInt8 = Int8.ofInt v := Int32.toInt8_ofInt
  rw [e, Int8.toInt_toInt32, Int8.toInt_ofInt]
theorem iI_s (v : Int) : (iI v).toInt16.toInt32 = iI (v.bmod 65536) := by
  apply Int32.toInt_inj.mp
  have h1 : -32768 ≤ v.bmod 65536 ∧ v.bmod 65536 < 32768 := by
    have a := Int.le_bmod (x := v) (m := 65536) (by decide)
    have b := Int.bmod_lt (x := v) (m := 65536) (by decide)
    constructor <;> omega
  rw [iI_toInt ⟨by omega, by omega⟩]
  have e : (iI v).toInt16 = Int16.ofInt v := Int32.toInt16_ofInt
  rw [e, Int16.toInt_toInt32, Int16.toInt_ofInt]
theorem bm8_rg (v : Int) : -128 ≤ v.bmod 256 ∧ v.bmod 256 < 128 := by
  have a := Int.le_bmod (x := v) (m := 256) (by decide)
  have b := Int.bmod_lt (x := v) (m := 256) (by decide)
  constructor <;> omega
theorem bm16_rg (v : Int) : -32768 ≤ v.bmod 65536 ∧ v.bmod 65536 < 32768 := by
  have a := Int.le_bmod (x := v) (m := 65536) (by decide)
  have b := Int.bmod_lt (x := v) (m := 65536) (by decide)
  constructor <;> omega
def byt (b k : Int) : Int := if k = 0 then b % 256 else if k = 1 then b / 256 % 256 else if k = 2 then b / 65536 % 256 else b / 16777216 % 256
theorem byt_rg (b k : Int) : 0 ≤ byt b k ∧ byt b k < 256 := by
  unfold byt
  repeat' split
  all_goals omega
theorem iI_and255 (x : Int32) : x &&& iI 255 = iI (x.toInt % 256) := by
  have e : iI 255 = nI 255 := rfl
  rw [e, pk_and x (m := nI 255) 8 (by decide), ← iI_nat]
  congr 1
  have h : x.toInt = x.toBitVec.toInt := rfl
  rw [h, BitVec.toInt_eq_toNat_cond]
  split <;> omega
theorem iI_byt {b : Int} (hb : In32 b) : ∀ {k : Int}, 0 ≤ k → k < 4 → (iI b >>> (iI (8 * k) &&& 31)) &&& iI 255 = iI (byt b k) := by
  intro k h0 h1
  rw [iI_and255]
  have hk : k = 0 ∨ k = 1 ∨ k = 2 ∨ k = 3 := by omega
  have e : ∀ n : Nat, n < 32 → ((iI (n : Int) &&& 31).toBitVec.smod 32).toNat = n := by decide +kernel
  have f : ∀ n : Nat, n < 32 → (iI b >>> (iI (n : Int) &&& 31)).toInt = b / (2 ^ n : Nat) := by
    intro n hn
    rw [pk_shr _ _ n (e n hn), iI_toInt hb, Int.shiftRight_eq_div_pow]
  rcases hk with rfl | rfl | rfl | rfl
  · have := f 0 (by decide)
    rw [show iI (8 * 0) = iI ((0 : Nat) : Int) from rfl, this]; simp [byt]
  · have := f 8 (by decide)
    rw [show iI (8 * 1) = iI ((8 : Nat) : Int) from rfl, this]; simp [byt]
  · have := f 16 (by decide)
    rw [show iI (8 * 2) = iI ((16 : Nat) : Int) from rfl, this]; simp [byt]
  · have := f 24 (by decide)
    rw [show iI (8 * 3) = iI ((24 : Nat) : Int) from rfl, this]; simp [byt]
theorem lI_or {x : Int} {n : Nat} (h0 : 0 ≤ x) (h : x < 2 ^ n) : lI x ||| lI (2 ^ n) = lI (x + 2 ^ n) := by
  obtain ⟨a, rfl⟩ := Int.eq_ofNat_of_zero_le h0
  have e : (2 : Int) ^ n = ((2 ^ n : Nat) : Int) := by simp
  rw [e] at h ⊢
  have h' : a < 2 ^ n := by exact_mod_cast h
  have ln : ∀ q : Nat, lI (q : Int) = Int64.ofNat q := fun q => Int64.ofInt_eq_ofNat
  rw [show ((a : Int) + ((2 ^ n : Nat) : Int)) = ((2 ^ n + a : Nat) : Int) by push_cast; omega, ln, ln, ln]
  have e2 : 2 ^ n + a = 2 ^ n ||| a := by have := Nat.two_pow_add_eq_or_of_lt h' 1; rwa [Nat.mul_one] at this
  rw [e2]
  apply Int64.toBitVec.inj
  show BitVec.ofNat 64 a ||| BitVec.ofNat 64 (2 ^ n) = BitVec.ofNat 64 (2 ^ n ||| a)
  apply BitVec.eq_of_getLsbD_eq
  intro i hi
  simp [Nat.or_comm]
theorem lI_shl1 : ∀ n : Nat, n < 63 → lI 1 <<< ((iI (n : Int)).toInt64 &&& 63) = lI (2 ^ n) := by decide +kernel
section LONGROWS
variable {p : Program} {l : Launch} {e : Env} {R : Room} {s : State} {m : MethodId} {args : Array Value} {below : List Frame} {meth : Method} {c : Code} {H : Heap} {locs : List Loc} {cells slots : Nat} {Q : State → Prop}
variable {cc : ByteArray} {nL : Nat} {own : String} {rt : Option FieldType} {D : va_G} {k : Nat → ClassId} {pc : Nat} {ls : Array Slot} {rest : List Value} {w : va_W} {A : Nat → Prop} {H0 : Heap}
theorem r_laldI (C : Cx p s m args meth c cc nL own rt D k) (hP : va_P D vwCl w H) (q0 : Nat) {a n : Nat} {f : Int → Int64} {z : Int} (ha : w[q0]? = some (a, .inl (k 1, n, .inr (.inl (arL f))))) (hd : decode cc pc = .ok (.laload, 1)) (h0 : 0 ≤ z) (h : z < n) (hn : n < 2147483648) (kk : W p l e R s m args below meth c H locs cells slots Q (F0 m (pc + 1) ls (.long (lI (f z).toInt) :: rest))) : W p l e R s m args below meth c H locs cells slots Q (F0 m pc ls (.int (iI z) :: .ref a :: rest)) := r_lald C hP q0 ha hd h0 h hn (by rw [lI_of] at kk; exact kk)
theorem r_l2i (C : Cx p s m args meth c cc nL own rt D k) {v : Int} (hd : decode cc pc = .ok (.l2i, 1)) (kk : W p l e R s m args below meth c H locs cells slots Q (F0 m (pc + 1) ls (.int (iI v) :: rest))) : W p l e R s m args below meth c H locs cells slots Q (F0 m pc ls (.long (lI v) :: rest)) := lv_l2i C.1.1 C.1.2.1 hd (lI_i v) kk
theorem r_i2b (C : Cx p s m args meth c cc nL own rt D k) {v : Int} (hd : decode cc pc = .ok (.i2b, 1)) (kk : W p l e R s m args below meth c H locs cells slots Q (F0 m (pc + 1) ls (.int (iI (v.bmod 256)) :: rest))) : W p l e R s m args below meth c H locs cells slots Q (F0 m pc ls (.int (iI v) :: rest)) := lv_i2b C.1.1 C.1.2.1 hd (iI_b v) kk
theorem r_i2s (C : Cx p s m args meth c cc nL own rt D k) {v : Int} (hd : decode cc pc = .ok (.i2s, 1)) (kk : W p l e R s m args below meth c H locs cells slots Q (F0 m (pc + 1) ls (.int (iI (v.bmod 65536)) :: rest))) : W p l e R s m args below meth c H locs cells slots Q (F0 m pc ls (.int (iI v) :: rest)) := lv_i2s C.1.1 C.1.2.1 hd (iI_s v) kk
theorem r_byt (C : Cx p s m args meth c cc nL own rt D k) {b z : Int} (hb : In32 b) (h0 : 0 ≤ z) (h1 : z < 4) (hd : decode cc pc = .ok (.ishr, 1)) (hd2 : decode cc (pc + 1) = .ok (.sipush 255, 3)) (hd3 : decode cc (pc + 1 + 3) = .ok (.iand, 1)) (kk : W p l e R s m args below meth c H locs cells slots Q (F0 m (pc + 1 + 3 + 1) ls (.int (iI (byt b z)) :: rest))) : W p l e R s m args below meth c H locs cells slots Q (F0 m pc ls (.int (iI (8 * z)) :: .int (iI b) :: rest)) := by
  refine lv_ishr C.1.1 C.1.2.1 hd ?_
  refine r_sipush C hd2 (by decide) ?_
  refine lv_iand C.1.1 C.1.2.1 hd3 ?_
  rw [iI_byt hb h0 h1]
  exact kk
theorem r_lshl1 (C : Cx p s m args meth c cc nL own rt D k) {z : Int} (hd : decode cc pc = .ok (.lshl, 1)) (h0 : 0 ≤ z) (h : z < 63) (kk : W p l e R s m args below meth c H locs cells slots Q (F0 m (pc + 1) ls (.long (lI (2 ^ z.toNat)) :: rest))) : W p l e R s m args below meth c H locs cells slots Q (F0 m pc ls (.int (iI z) :: .long (lI 1) :: rest)) := by
  obtain ⟨n, rfl⟩ := Int.eq_ofNat_of_zero_le h0
  exact lv_lshl C.1.1 C.1.2.1 hd (lI_shl1 n (by omega)) kk
theorem r_lor0 (C : Cx p s m args meth c cc nL own rt D k) {x : Int} (hd : decode cc pc = .ok (.lor, 1)) (kk : W p l e R s m args below meth c H locs cells slots Q (F0 m (pc + 1) ls (.long (lI x) :: rest))) : W p l e R s m args below meth c H locs cells slots Q (F0 m pc ls (.long (lI 0) :: .long (lI x) :: rest)) := by
  refine lv_lor C.1.1 C.1.2.1 hd ?_
  have e1 : lI x ||| lI 0 = lI x := Int64.or_zero
  rw [e1]; exact kk
theorem r_lorP (C : Cx p s m args meth c cc nL own rt D k) {x : Int} {n : Nat} (hd : decode cc pc = .ok (.lor, 1)) (h0 : 0 ≤ x) (h : x < 2 ^ n) (kk : W p l e R s m args below meth c H locs cells slots Q (F0 m (pc + 1) ls (.long (lI (x + 2 ^ n)) :: rest))) : W p l e R s m args below meth c H locs cells slots Q (F0 m pc ls (.long (lI (2 ^ n)) :: .long (lI x) :: rest)) := by
  refine lv_lor C.1.1 C.1.2.1 hd ?_
  rw [lI_or h0 h]; exact kk
end LONGROWS
def csN (s : Int → Int) (w : Int) : Nat → Int
  | 0 => 0
  | n + 1 => csN s w n + (if w = 0 then (if untrue s n then 2 ^ ((n : Int)).toNat else 0) else (if s (3 + n) = w - 1 then 2 ^ ((n : Int)).toNat else 0))
theorem csN_rg (s : Int → Int) (w : Int) : ∀ n : Nat, 0 ≤ csN s w n ∧ csN s w n < 2 ^ n
  | 0 => ⟨Int.le_refl 0, by rw [csN]; decide⟩
  | n + 1 => by
    have h := csN_rg s w n
    rw [csN, Int.pow_succ, Int.toNat_natCast]
    repeat' split
    all_goals omega
def fCells (s st : Int → Int) (w : Int) : Tr := if 0 ≤ w ∧ w ≤ 6 then fV s st (csN s w 48) else fD s st (-1000000001)
def nrw (b v : Int) : Int := if b = 8 then v.bmod 256 else if b = 16 then v.bmod 65536 else v
def wsh (bi : Int → Int) (sh : Int) : Int := if 0 ≤ sh ∧ sh ≤ 3 then (if bi sh = 0 then -1000000006 else 0) else -1000000001
theorem wsh_rg (bi : Int → Int) (sh : Int) : (wsh bi sh = 0 ∧ 0 ≤ sh ∧ sh ≤ 3) ∨ (-1000000006 ≤ wsh bi sh ∧ wsh bi sh ≤ -1000000001) := by
  unfold wsh
  repeat' split
  all_goals omega
def zr40 (nu : Int → Int64) (sh : Int) : Nat → Int → Int64
  | 0 => nu
  | n + 1 => up (zr40 nu sh n) (40 * sh + n) (lI 0)
abbrev T5 : Type := Int × (Int → Int) × (Int → Int) × (Int → Int) × (Int → Int64)
def fSheet (st bi si : Int → Int) (nu : Int → Int64) (sh b n : Int) : T5 :=
  if 0 ≤ sh ∧ sh ≤ 3 then (if b = 0 ∨ b = 8 ∨ b = 16 ∨ b = 64 then (if n < 0 then (-1000000007, fnd st (-1000000007), bi, si, nu) else if n ≤ 40 then ((up si sh (if b = 0 then 0 else n)) sh, st, up bi sh b, up si sh (if b = 0 then 0 else n), zr40 nu sh 40) else (-1000000001, fnd st (-1000000001), bi, si, nu)) else (-1000000001, fnd st (-1000000001), bi, si, nu)) else (-1000000001, fnd st (-1000000001), bi, si, nu)
abbrev T3 : Type := Int × (Int → Int) × (Int → Int64)
def fWrite (st bi si : Int → Int) (nu : Int → Int64) (sh i v : Int) : T3 :=
  if wsh bi sh = 0 then (if 0 ≤ i ∧ i ≤ si sh - 1 then ((nu (40 * sh + i)).toInt, st, up nu (40 * sh + i) (lI (nrw (bi sh) v))) else (-1000000001, fnd st (-1000000001), nu)) else (wsh bi sh, fnd st (wsh bi sh), nu)
def mvA (nu mo : Int → Int64) (b : Int) : Nat → Int → Int64
  | 0 => mo
  | n + 1 => up (mvA nu mo b n) n (nu (b + n))
theorem mvA_at (nu mo : Int → Int64) (b : Int) {j : Nat} : ∀ {n : Nat}, j < n → mvA nu mo b n j = nu (b + j)
  | 0, h => absurd h (Nat.not_lt_zero j)
  | n + 1, h => by
    rw [mvA]
    rcases Nat.lt_or_ge j n with q | q
    · rw [up_n (by omega), mvA_at nu mo b q]
    · have e : j = n := by omega
      subst e
      rw [up_s]
def cpB (nu : Int → Int64) (d b : Int) : Nat → Int → Int64
  | 0 => nu
  | n + 1 => up (cpB nu d b n) (d + n) (nu (b + n))
def fCopy (st bi si : Int → Int) (nu : Int → Int64) (sh f t g n : Int) : T3 :=
  if 0 ≤ sh ∧ sh ≤ 3 then (if 0 ≤ t ∧ t ≤ 3 then (if bi sh = 0 then (-1000000006, fnd st (-1000000006), nu) else if bi t = 0 then (-1000000006, fnd st (-1000000006), nu) else if bi sh = bi t then
    (if f < 0 then (-1000000001, fnd st (-1000000001), nu) else if g < 0 then (-1000000001, fnd st (-1000000001), nu) else if n < 0 then (-1000000001, fnd st (-1000000001), nu) else if si sh - f < n then (-1000000001, fnd st (-1000000001), nu) else if n ≤ si t - g then (n, st, cpB nu (40 * t + g) (40 * sh + f) n.toNat) else (-1000000001, fnd st (-1000000001), nu))
    else (-1000000003, fnd st (-1000000003), nu)) else (-1000000001, fnd st (-1000000001), nu)) else (-1000000001, fnd st (-1000000001), nu)
def lyS (s : Int → Int) (nu : Int → Int64) (sh : Int) : Nat → Int → Int
  | 0 => s
  | n + 1 => up (lyS s nu sh n) (51 + n) (if 0 ≤ (nu (40 * sh + n)).toInt ∧ (nu (40 * sh + n)).toInt ≤ 5 then (nu (40 * sh + n)).toInt else (lyS s nu sh n) (51 + n))
def lyN (nu : Int → Int64) (sh : Int) : Nat → Int
  | 0 => 0
  | n + 1 => lyN nu sh n + (if 0 ≤ (nu (40 * sh + n)).toInt ∧ (nu (40 * sh + n)).toInt ≤ 5 then 1 else 0)
theorem ok_lyS {s : Int → Int} (hs : Ok s) (nu : Int → Int64) (sh : Int) : ∀ n : Nat, n ≤ 40 → Ok (lyS s nu sh n)
  | 0, _ => hs
  | n + 1, h => by
    have ih := ok_lyS hs nu sh n (by omega)
    have h1 := ih.1 (51 + n) (by omega)
    rw [lyS]
    exact ok_up ih ⟨by omega, by omega⟩ (by split <;> omega) (fun _ => by omega) (fun _ _ _ _ => by omega)
def fLays (s st bi si : Int → Int) (nu : Int → Int64) (sh : Int) : Tr := if wsh bi sh = 0 then (lyN nu sh (si sh).toNat, lyS s nu sh (si sh).toNat, st) else fD s st (wsh bi sh)
def bkN (s : Int → Int) (nu : Int → Int64) (sh b : Int) : Nat → Int → Int64
  | 0 => nu
  | n + 1 => up (bkN s nu sh b n) (40 * sh + n) (lI (nrw b (wrongMany (ysN s (-1) n))))
def fBook (s st bi si : Int → Int) (nu : Int → Int64) (sh : Int) : T3 := if wsh bi sh = 0 then (si sh, st, bkN s nu sh (bi sh) (si sh).toNat) else (wsh bi sh, fnd st (wsh bi sh), nu)
abbrev ibP (s : Int → Int) (nu : Int → Int64) (sh : Int) : Nat → Prop := fun n => ¬ (nu (40 * sh + n)).toInt = wrongMany (ysN s (-1) n)
abbrev ibF (s si : Int → Int) (nu : Int → Int64) (sh : Int) : Nat := fst0 (ibP s nu sh) (si sh).toNat
def rdS (s : Int → Int) (m : Int) (n : Int) : Int → Int := up (up s (99 + 4 * m + 0) (n / 48)) (99 + 4 * m + 1) (n % 48)
def rdN (s si : Int → Int) (nu : Int → Int64) (sh m : Int) : Nat → Int
  | 0 => 0
  | n + 1 => rdN s si nu sh m n + (if (si sh).toNat ≤ ibF (rdS s m n) si nu sh then 1 else 0)
def fRead (s st bi si : Int → Int) (nu : Int → Int64) (sh m : Int) : Tr := if wsh bi sh = 0 then (if 0 ≤ m ∧ m ≤ s 0 - 1 then fV s st (rdN s si nu sh m 288) else fD s st (-1000000001)) else fD s st (wsh bi sh)
def fUndo (s st kp : Int → Int) (ik : Int) : Tr := if ik = 0 then fD s st (-1000000004) else (kp 0, kp, st)
def fCount (s st : Int → Int) (ta w : Int) : Tr := if w = 0 then fV s st (s 0) else if w = 1 then fV s st ta else if w = 2 then fV s st (oth s 3 48) else if w = 3 then fV s st (oth s 51 48) else fD s st (-1000000001)
def stN (st : Int → Int) (w : Int) : Nat → Int
  | 0 => 0
  | n + 1 => stN st w n + (if w < 0 then st n else if (n : Int) = w then st n else 0)
def fStatus (s st : Int → Int) (w : Int) : Tr := if -1 ≤ w ∧ w ≤ 6 then fV s st (stN st w 7) else fD s st (-1000000001)
def fdT (tp : Int → Int) (ta b n : Int) : Nat → Int → Int
  | 0 => tp
  | j + 1 => up (fdT tp ta b n j) (ta + j) (byt b (n - 1 - j))
abbrev T4 : Type := Int × (Int → Int) × (Int → Int) × Int
def fFeed (st tp : Int → Int) (ta b n : Int) : T4 := if 1 ≤ n ∧ n ≤ 4 then (if ta + n ≤ 120 then (ta + n, st, fdT tp ta b n n.toNat, ta + n) else (-1000000002, fnd st (-1000000002), tp, ta)) else (-1000000001, fnd st (-1000000001), tp, ta)
