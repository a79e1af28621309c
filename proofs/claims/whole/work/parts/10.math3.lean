def oth (s : Int → Int) (b : Int) : Nat → Int
  | 0 => 0
  | n + 1 => oth s b n + (if s (b + n) = 0 then 0 else 1)
def tgt (s : Int → Int) (w : Int) : Nat → Int
  | 0 => 0
  | n + 1 => tgt s w n + s (99 + 4 * n + w)
def thA (s : Int → Int) (c : Int) : Nat → Int
  | 0 => 0
  | n + 1 => thA s c n + (if s (99 + 4 * n + 1) = c then 2 ^ ((n : Int)).toNat else 0)
theorem thA_rg (s : Int → Int) (c : Int) : ∀ n : Nat, 0 ≤ thA s c n ∧ thA s c n < 2 ^ n
  | 0 => ⟨Int.le_refl 0, by rw [thA]; decide⟩
  | n + 1 => by
    have h := thA_rg s c n
    rw [thA, Int.pow_succ, Int.toNat_natCast]
    split <;> omega
theorem iI_or {x : Int} {n : Nat} (h0 : 0 ≤ x) (h : x < 2 ^ n) : iI x ||| iI (2 ^ n) = iI (x + 2 ^ n) := by
  obtain ⟨a, rfl⟩ := Int.eq_ofNat_of_zero_le h0
  have e : (2 : Int) ^ n = ((2 ^ n : Nat) : Int) := by simp
  rw [e] at h ⊢
  have h' : a < 2 ^ n := by exact_mod_cast h
  rw [show ((a : Int) + ((2 ^ n : Nat) : Int)) = ((2 ^ n + a : Nat) : Int) by push_cast; omega, iI_nat, iI_nat, iI_nat]
  have e2 : 2 ^ n + a = 2 ^ n ||| a := by have := Nat.two_pow_add_eq_or_of_lt h' 1; rwa [Nat.mul_one] at this
  rw [e2]
  apply Int32.toBitVec.inj
  show BitVec.ofNat 32 a ||| BitVec.ofNat 32 (2 ^ n) = BitVec.ofNat 32 (2 ^ n ||| a)
  apply BitVec.eq_of_getLsbD_eq
  intro i hi
  simp [Nat.or_comm]
section BITROWS
variable {p : Program} {l : Launch} {e : Env} {R : Room} {s : State} {m : MethodId} {args : Array Value} {below : List Frame} {meth : Method} {c : Code} {H : Heap} {locs : List Loc} {cells slots : Nat} {Q : State → Prop}
variable {cc : ByteArray} {nL : Nat} {own : String} {rt : Option FieldType} {D : va_G} {k : Nat → ClassId} {pc : Nat} {ls : Array Slot} {rest : List Value}
theorem iI_shl1 : ∀ n : Nat, n < 31 → iI 1 <<< (iI (n : Int) &&& 31) = iI (2 ^ n) := by decide +kernel
theorem r_ishl1 (C : Cx p s m args meth c cc nL own rt D k) {z : Int} (hd : decode cc pc = .ok (.ishl, 1)) (h0 : 0 ≤ z) (h : z < 31) (kk : W p l e R s m args below meth c H locs cells slots Q (F0 m (pc + 1) ls (.int (iI (2 ^ z.toNat)) :: rest))) : W p l e R s m args below meth c H locs cells slots Q (F0 m pc ls (.int (iI z) :: .int (iI 1) :: rest)) := by
  obtain ⟨n, rfl⟩ := Int.eq_ofNat_of_zero_le h0
  refine lv_ishl C.1.1 C.1.2.1 hd ?_
  rw [iI_shl1 n (by omega)]
  exact kk
theorem r_ior0 (C : Cx p s m args meth c cc nL own rt D k) {x : Int} (hd : decode cc pc = .ok (.ior, 1)) (kk : W p l e R s m args below meth c H locs cells slots Q (F0 m (pc + 1) ls (.int (iI x) :: rest))) : W p l e R s m args below meth c H locs cells slots Q (F0 m pc ls (.int (iI 0) :: .int (iI x) :: rest)) := by
  refine lv_ior C.1.1 C.1.2.1 hd ?_
  have e1 : iI x ||| iI 0 = iI x := by rw [iI_0]; exact Int32.or_zero
  rw [e1]; exact kk
theorem r_iorP (C : Cx p s m args meth c cc nL own rt D k) {x : Int} {n : Nat} (hd : decode cc pc = .ok (.ior, 1)) (h0 : 0 ≤ x) (h : x < 2 ^ n) (hn : n < 31) (kk : W p l e R s m args below meth c H locs cells slots Q (F0 m (pc + 1) ls (.int (iI (x + 2 ^ n)) :: rest))) : W p l e R s m args below meth c H locs cells slots Q (F0 m pc ls (.int (iI (2 ^ n)) :: .int (iI x) :: rest)) := by
  refine lv_ior C.1.1 C.1.2.1 hd ?_
  rw [iI_or h0 h]; exact kk
end BITROWS
theorem wrongMany_rg (s : Int → Int) : 0 ≤ wrongMany s ∧ wrongMany s ≤ 48 := cntU_rg s 48
theorem wrongBeside_rg (s : Int → Int) (c : Int) : 0 ≤ wrongBeside s c ∧ wrongBeside s c ≤ 4 := cntB_rg s c 4
theorem goesFor_rg {s : Int → Int} (hs : Ok s) {m : Int} (hm : 0 ≤ m) (hm1 : m < 6) : -1 ≤ goesFor s m ∧ goesFor s m < 48 := (gf_rg hs hm hm1 48 (Nat.le_refl 48)).1
def addS (s : Int → Int) (kd c pu : Int) : Int → Int := up (up (up (up (up s (99 + 4 * s 0 + 0) kd) (99 + 4 * s 0 + 1) c) (99 + 4 * s 0 + 2) pu) (99 + 4 * s 0 + 3) 0) 0 ((up (up (up (up s (99 + 4 * s 0 + 0) kd) (99 + 4 * s 0 + 1) c) (99 + 4 * s 0 + 2) pu) (99 + 4 * s 0 + 3) 0) 0 + 1)
theorem ok_addS {s : Int → Int} (hs : Ok s) {kd c pu : Int} (h6 : s 0 < 6) (hk : 0 ≤ kd) (hk1 : kd < 6) (hc : 0 ≤ c) (hc1 : c < 48) (hp : 0 ≤ pu) (hp1 : pu < 10000) : Ok (addS s kd c pu) := by
  have h0 := hs.1 0 (by decide)
  unfold addS
  have e : (up (up (up (up s (99 + 4 * s 0 + 0) kd) (99 + 4 * s 0 + 1) c) (99 + 4 * s 0 + 2) pu) (99 + 4 * s 0 + 3) 0) 0 = s 0 := by
    rw [up_n (by omega), up_n (by omega), up_n (by omega), up_n (by omega)]
  rw [e]
  refine ok_up (ok_up (ok_up (ok_up (ok_up hs ?_ ?_ ?_ ?_) ?_ ?_ ?_ ?_) ?_ ?_ ?_ ?_) ?_ ?_ ?_ ?_) ?_ ?_ ?_ ?_ <;> first | (constructor <;> omega) | (intros; omega)
theorem cpcp {f d g : Int → Int} (hf : Zr f) (hg : Zr g) : cpN (cpN f d 123) g 123 = f := by
  funext i
  unfold cpN
  by_cases h1 : 0 ≤ i ∧ i < (123 : Nat)
  · rw [if_pos h1, if_pos h1]
  · rw [if_neg h1, hf i (by omega), hg i (by omega)]
section LOOPJ
variable {p : Program} {l : Launch} {e : Env} {R : Room} {s : State} {m : MethodId} {args : Array Value} {below : List Frame} {meth : Method} {c : Code} {H : Heap} {locs : List Loc} {cells slots : Nat} {Q : State → Prop}
variable {nL : Nat} {D : va_G} {pc : Nat} {ls : Array Slot} {A : Nat → Prop} {H0 : Heap}
theorem r_loopRJ (I : Nat → List (Nat × Value)) (N : Nat) (J : Nat → Prop) (j0 : J 0) (h0 : lv_has ls nL (I 0))
    (step : ∀ n : Nat, n < N → (J (n + 1) → ∀ ls : Array Slot, lv_has ls nL (I (n + 1)) → W p l e R s m args below meth c H locs cells slots Q (F0 m pc ls [])) → J n → ∀ ls : Array Slot, lv_has ls nL (I n) → W p l e R s m args below meth c H locs cells slots Q (F0 m pc ls []))
    (out : J N → ∀ ls : Array Slot, lv_has ls nL (I N) → W p l e R s m args below meth c H locs cells slots Q (F0 m pc ls [])) : W p l e R s m args below meth c H locs cells slots Q (F0 m pc ls []) := by
  have key : ∀ j n : Nat, n + j = N → J n → ∀ ls : Array Slot, lv_has ls nL (I n) → W p l e R s m args below meth c H locs cells slots Q (F0 m pc ls []) := by
    intro j
    induction j with
    | zero => intro n hn hj ls hl; rw [Nat.add_zero] at hn; subst hn; exact out hj ls hl
    | succ j ih => intro n hn hj ls hl; exact step n (by omega) (fun hj ls hl => ih (n + 1) (by omega) hj ls hl) hj ls hl
  exact key N 0 (Nat.zero_add N) j0 ls h0
theorem r_loopWJ (I : Nat → List (Nat × Value)) (Wd : Nat → va_W) (N : Nat) (J : Nat → Prop) (j0 : J 0) (h0 : lv_has ls nL (I 0)) (hP : va_P D vwCl (Wd 0) H) (hD : va_D A (Wd 0)) (hS : va_S A H0 H locs)
    (step : ∀ n : Nat, n < N → (J (n + 1) → ∀ (ls : Array Slot) (H : Heap) (locs : List Loc), lv_has ls nL (I (n + 1)) → va_P D vwCl (Wd (n + 1)) H → va_D A (Wd (n + 1)) → va_S A H0 H locs → W p l e R s m args below meth c H locs cells slots Q (F0 m pc ls [])) → J n → ∀ (ls : Array Slot) (H : Heap) (locs : List Loc), lv_has ls nL (I n) → va_P D vwCl (Wd n) H → va_D A (Wd n) → va_S A H0 H locs → W p l e R s m args below meth c H locs cells slots Q (F0 m pc ls []))
    (out : J N → ∀ (ls : Array Slot) (H : Heap) (locs : List Loc), lv_has ls nL (I N) → va_P D vwCl (Wd N) H → va_D A (Wd N) → va_S A H0 H locs → W p l e R s m args below meth c H locs cells slots Q (F0 m pc ls [])) : W p l e R s m args below meth c H locs cells slots Q (F0 m pc ls []) := by
  have key : ∀ j n : Nat, n + j = N → J n → ∀ (ls : Array Slot) (H : Heap) (locs : List Loc), lv_has ls nL (I n) → va_P D vwCl (Wd n) H → va_D A (Wd n) → va_S A H0 H locs → W p l e R s m args below meth c H locs cells slots Q (F0 m pc ls []) := by
    intro j
    induction j with
    | zero => intro n hn hj ls H locs hl hP hD hS; rw [Nat.add_zero] at hn; subst hn; exact out hj ls H locs hl hP hD hS
    | succ j ih => intro n hn hj ls H locs hl hP hD hS; exact step n (by omega) (fun hj ls H locs hl hP hD hS => ih (n + 1) (by omega) hj ls H locs hl hP hD hS) hj ls H locs hl hP hD hS
  exact key N 0 (Nat.zero_add N) j0 ls H locs h0 hP hD hS
end LOOPJ
