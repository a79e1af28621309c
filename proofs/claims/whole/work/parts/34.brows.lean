section BROWS
variable {p : Program} {l : Launch} {e : Env} {R : Room} {s : State} {m : MethodId} {args : Array Value} {below : List Frame} {meth : Method} {c : Code} {H : Heap} {locs : List Loc} {cells slots : Nat} {Q : State → Prop}
variable {cc : ByteArray} {nL : Nat} {own : String} {rt : Option FieldType} {D : va_G} {k : Nat → ClassId} {pc : Nat} {ls : Array Slot} {rest : List Value} {w : va_W} {A : Nat → Prop} {H0 : Heap}
theorem r_landB (C : Cx p s m args meth c cc nL own rt D k) {f g : Nat → Bool} (hd : decode cc pc = .ok (.land, 1)) (kk : W p l e R s m args below meth c H locs cells slots Q (F0 m (pc + 1) ls (.long (lB (anF f g)) :: rest))) : W p l e R s m args below meth c H locs cells slots Q (F0 m (pc) ls (.long (lB g) :: .long (lB f) :: rest)) := by
  refine lv_land C.1.1 C.1.2.1 hd ?_
  rw [lB_and]; exact kk
theorem r_lorB (C : Cx p s m args meth c cc nL own rt D k) {f g : Nat → Bool} (hd : decode cc pc = .ok (.lor, 1)) (kk : W p l e R s m args below meth c H locs cells slots Q (F0 m (pc + 1) ls (.long (lB (orF f g)) :: rest))) : W p l e R s m args below meth c H locs cells slots Q (F0 m (pc) ls (.long (lB g) :: .long (lB f) :: rest)) := by
  refine lv_lor C.1.1 C.1.2.1 hd ?_
  rw [lB_or]; exact kk
theorem r_lnotB (C : Cx p s m args meth c cc nL own rt D k) {f : Nat → Bool} (hd : decode cc pc = .ok (.lxor, 1)) (kk : W p l e R s m args below meth c H locs cells slots Q (F0 m (pc + 1) ls (.long (lB (noF f)) :: rest))) : W p l e R s m args below meth c H locs cells slots Q (F0 m (pc) ls (.long (lI (-1)) :: .long (lB f) :: rest)) := by
  refine lv_lxor C.1.1 C.1.2.1 hd ?_
  rw [lB_not]; exact kk
theorem r_lone (C : Cx p s m args meth c cc nL own rt D k) {z : Int} (h0 : 0 ≤ z) (h : z < 64) (hd : decode cc pc = .ok (.lshl, 1)) (kk : W p l e R s m args below meth c H locs cells slots Q (F0 m (pc + 1) ls (.long (lB (onF z)) :: rest))) : W p l e R s m args below meth c H locs cells slots Q (F0 m (pc) ls (.int (iI z) :: .long (lI 1) :: rest)) := lv_lshl C.1.1 C.1.2.1 hd (lB_one h0 h) kk
theorem r_lshlB (C : Cx p s m args meth c cc nL own rt D k) {f : Nat → Bool} (n : Nat) {z : Int} (hz : z = (n : Int)) (hn : n < 64) (hd : decode cc pc = .ok (.lshl, 1)) (kk : W p l e R s m args below meth c H locs cells slots Q (F0 m (pc + 1) ls (.long (lB (fun i => decide (n ≤ i) && f (i - n))) :: rest))) : W p l e R s m args below meth c H locs cells slots Q (F0 m (pc) ls (.int (iI z) :: .long (lB f) :: rest)) := by
  subst hz
  exact lv_lshl C.1.1 C.1.2.1 hd (lB_shl f hn) kk
theorem r_lushrB (C : Cx p s m args meth c cc nL own rt D k) {f : Nat → Bool} (n : Nat) {z : Int} (hz : z = (n : Int)) (hn : n < 64) (hd : decode cc pc = .ok (.lushr, 1)) (kk : W p l e R s m args below meth c H locs cells slots Q (F0 m (pc + 1) ls (.long (lB (fun i => decide (n + i < 64) && f (n + i))) :: rest))) : W p l e R s m args below meth c H locs cells slots Q (F0 m (pc) ls (.int (iI z) :: .long (lB f) :: rest)) := by
  subst hz
  exact lv_lushr C.1.1 C.1.2.1 hd (lB_ushr f hn) kk
theorem r_ldc2B (C : Cx p s m args meth c cc nL own rt D k) {i : Nat} {v : Int64} (f : Nat → Bool) (hw : Cond.constantLong own i v ∈ TB) (hv : v = lB f) (hd : decode cc pc = .ok (.ldc2_w i, 3)) (kk : W p l e R s m args below meth c H locs cells slots Q (F0 m (pc + 3) ls (.long (lB f) :: rest))) : W p l e R s m args below meth c H locs cells slots Q (F0 m (pc) ls (rest)) := by
  subst hv
  exact lv_ldc2 C.1.1 C.1.2.1 C.1.2.2.2.1 (C.1.2.2.2.2 _ hw) hd kk
theorem r_lconstB (C : Cx p s m args meth c cc nL own rt D k) (hd : decode cc pc = .ok (.lconst 0, 1)) (kk : W p l e R s m args below meth c H locs cells slots Q (F0 m (pc + 1) ls (.long (lB (fun _ => false)) :: rest))) : W p l e R s m args below meth c H locs cells slots Q (F0 m (pc) ls (rest)) := lv_lconst C.1.1 C.1.2.1 hd lB_0 kk
theorem r_lzB_eq (C : Cx p s m args meth c cc nL own rt D k) {f : Nat → Bool} {off : Int} {tgt : Nat} (hc : decode cc pc = .ok (.lcmp, 1)) (hd : decode cc (pc + 1) = .ok (.ifCond .eq off, 3)) (ht : ((pc + 1 : Nat) : Int) + off = (tgt : Int)) (kt : (∀ i, i < 64 → f i = false) → W p l e R s m args below meth c H locs cells slots Q (F0 m (tgt) ls (rest))) (kf : ¬ (∀ i, i < 64 → f i = false) → W p l e R s m args below meth c H locs cells slots Q (F0 m (pc + 1 + 3) ls (rest))) : W p l e R s m args below meth c H locs cells slots Q (F0 m (pc) ls (.long (lI 0) :: .long (lB f) :: rest)) := by
  refine W.lcmp C.1.1 C.1.2.1 hc ?_
  exact lv_if_eq C.1.1 C.1.2.1 hd ht (fun h => kt (lB_zero.mp ((lg_cmpE _ _).mp h))) (fun h => kf (fun q => h ((lg_cmpE _ _).mpr (lB_zero.mpr q))))
theorem r_lzB_ne (C : Cx p s m args meth c cc nL own rt D k) {f : Nat → Bool} {off : Int} {tgt : Nat} (hc : decode cc pc = .ok (.lcmp, 1)) (hd : decode cc (pc + 1) = .ok (.ifCond .ne off, 3)) (ht : ((pc + 1 : Nat) : Int) + off = (tgt : Int)) (kt : ¬ (∀ i, i < 64 → f i = false) → W p l e R s m args below meth c H locs cells slots Q (F0 m (tgt) ls (rest))) (kf : (∀ i, i < 64 → f i = false) → W p l e R s m args below meth c H locs cells slots Q (F0 m (pc + 1 + 3) ls (rest))) : W p l e R s m args below meth c H locs cells slots Q (F0 m (pc) ls (.long (lI 0) :: .long (lB f) :: rest)) := by
  refine W.lcmp C.1.1 C.1.2.1 hc ?_
  exact lv_if_ne C.1.1 C.1.2.1 hd ht (fun h => kt (fun q => h ((lg_cmpE _ _).mpr (lB_zero.mpr q)))) (fun h => kf (lB_zero.mp ((lg_cmpE _ _).mp h)))
theorem r_landN (C : Cx p s m args meth c cc nL own rt D k) {a : Nat} (b : Nat) {z : Int} (hz : z = (b : Int)) (hd : decode cc pc = .ok (.land, 1)) (kk : W p l e R s m args below meth c H locs cells slots Q (F0 m (pc + 1) ls (.long (lI ((a &&& b : Nat) : Int)) :: rest))) : W p l e R s m args below meth c H locs cells slots Q (F0 m (pc) ls (.long (lI z) :: .long (lI (a : Int)) :: rest)) := by
  subst hz
  refine lv_land C.1.1 C.1.2.1 hd ?_
  rw [lNat_and]; exact kk
theorem r_lushrN (C : Cx p s m args meth c cc nL own rt D k) {a : Nat} (n : Nat) {z : Int} (hz : z = (n : Int)) (hn : n < 64) (ha : a < 2 ^ 64) (hd : decode cc pc = .ok (.lushr, 1)) (kk : W p l e R s m args below meth c H locs cells slots Q (F0 m (pc + 1) ls (.long (lI ((a / 2 ^ n : Nat) : Int)) :: rest))) : W p l e R s m args below meth c H locs cells slots Q (F0 m (pc) ls (.int (iI z) :: .long (lI (a : Int)) :: rest)) := by
  subst hz
  exact lv_lushr C.1.1 C.1.2.1 hd (lNat_ushr ha hn) kk
theorem r_laddN (C : Cx p s m args meth c cc nL own rt D k) {a b : Nat} (hd : decode cc pc = .ok (.ladd, 1)) (kk : W p l e R s m args below meth c H locs cells slots Q (F0 m (pc + 1) ls (.long (lI ((a + b : Nat) : Int)) :: rest))) : W p l e R s m args below meth c H locs cells slots Q (F0 m (pc) ls (.long (lI (b : Int)) :: .long (lI (a : Int)) :: rest)) := by
  refine lv_ladd C.1.1 C.1.2.1 hd ?_
  rw [lNat_add]; exact kk
theorem r_lsubN (C : Cx p s m args meth c cc nL own rt D k) {a b : Nat} (h : b ≤ a) (hd : decode cc pc = .ok (.lsub, 1)) (kk : W p l e R s m args below meth c H locs cells slots Q (F0 m (pc + 1) ls (.long (lI ((a - b : Nat) : Int)) :: rest))) : W p l e R s m args below meth c H locs cells slots Q (F0 m (pc) ls (.long (lI (b : Int)) :: .long (lI (a : Int)) :: rest)) := by
  refine lv_lsub C.1.1 C.1.2.1 hd ?_
  rw [lNat_sub h]; exact kk
theorem r_and127 (C : Cx p s m args meth c cc nL own rt D k) {a : Nat} (hd : decode cc pc = .ok (.iand, 1)) (kk : W p l e R s m args below meth c H locs cells slots Q (F0 m (pc + 1) ls (.int (iI ((a % 128 : Nat) : Int)) :: rest))) : W p l e R s m args below meth c H locs cells slots Q (F0 m (pc) ls (.int (iI 127) :: .int (iI (a : Int)) :: rest)) := by
  refine lv_iand C.1.1 C.1.2.1 hd ?_
  rw [iI_and127]; exact kk
theorem r_ialdV (C : Cx p s m args meth c cc nL own rt D k) (hP : va_P D vwCl w H) (q0 : Nat) {a n : Nat} {f : Int → Int} {z : Int} (v : Int) (ha : w[q0]? = some (a, .inl (k 0, n, .inl (arr f)))) (hd : decode cc pc = .ok (.iaload, 1)) (h0 : 0 ≤ z) (h : z < n) (hn : n < 2147483648) (hv : f z = v) (kk : W p l e R s m args below meth c H locs cells slots Q (F0 m (pc + 1) ls (.int (iI v) :: rest))) : W p l e R s m args below meth c H locs cells slots Q (F0 m (pc) ls (.int (iI z) :: .ref a :: rest)) := by
  subst hv
  exact r_iald C hP q0 ha hd h0 h hn kk
theorem iI_max {a b : Int} (ha : In32 a) (hb : In32 b) : (if iI a < iI b then iI b else iI a) = iI (if a < b then b else a) := by
  by_cases h : a < b
  · rw [if_pos h, if_pos ((iI_lt ha hb).mpr h)]
  · rw [if_neg h, if_neg (fun q => h ((iI_lt ha hb).mp q))]
theorem r_mmax (C : Cx p s m args meth c cc nL own rt D k) {a b : Int} {i : Nat} (hq : Cond.methodLink own i Lib.Math.max.name ∈ TB) (ha : In32 a) (hb : In32 b) (hls : ls.size = nL) (hd : decode cc pc = .ok (.invokestatic i, 3)) (kk : W p l e R s m args below meth c H locs cells slots Q (F0 m (pc + 3) ls (.int (iI (if a < b then b else a)) :: rest))) (hR : 1 ≤ R.frames ∧ 21 ≤ R.locals := by exact ⟨Nat.le_of_ble_eq_true rfl, Nat.le_of_ble_eq_true rfl⟩) (hrm : (rest.map fun v => v.category).sum ≤ 8 := by exact Nat.le_of_ble_eq_true rfl) (hcs : cells ≤ R.cells ∧ slots ≤ R.slots := by exact ⟨Nat.zero_le _, Nat.zero_le _⟩) : W p l e R s m args below meth c H locs cells slots Q (F0 m (pc) ls (.int (iI b) :: .int (iI a) :: rest)) := by
  refine va_mmax C.1.1 C.1.2.1 (C.1.2.2.1.trans hls.symm) C.1.2.2.2.1 (C.1.2.2.2.2 _ hq) (C.1.2.2.2.2 _ mm_max.1) (C.1.2.2.2.2 _ mm_max.2.1) (C.1.2.2.2.2 _ mm_max.2.2) hR.1 (by have := hR.2; omega) hcs.1 hcs.2 hd ?_
  rw [iI_max ha hb]; exact kk
theorem r_mmin (C : Cx p s m args meth c cc nL own rt D k) {a b : Int} {i : Nat} (hq : Cond.methodLink own i Lib.Math.min.name ∈ TB) (ha : In32 a) (hb : In32 b) (hls : ls.size = nL) (hd : decode cc pc = .ok (.invokestatic i, 3)) (kk : W p l e R s m args below meth c H locs cells slots Q (F0 m (pc + 3) ls (.int (iI (if b < a then b else a)) :: rest))) (hR : 1 ≤ R.frames ∧ 21 ≤ R.locals := by exact ⟨Nat.le_of_ble_eq_true rfl, Nat.le_of_ble_eq_true rfl⟩) (hrm : (rest.map fun v => v.category).sum ≤ 8 := by exact Nat.le_of_ble_eq_true rfl) (hcs : cells ≤ R.cells ∧ slots ≤ R.slots := by exact ⟨Nat.zero_le _, Nat.zero_le _⟩) : W p l e R s m args below meth c H locs cells slots Q (F0 m (pc) ls (.int (iI b) :: .int (iI a) :: rest)) := by
  refine va_mmin C.1.1 C.1.2.1 (C.1.2.2.1.trans hls.symm) C.1.2.2.2.1 (C.1.2.2.2.2 _ hq) (C.1.2.2.2.2 _ mm_min.1) (C.1.2.2.2.2 _ mm_min.2.1) (C.1.2.2.2.2 _ mm_min.2.2) hR.1 (by have := hR.2; omega) hcs.1 hcs.2 hd ?_
  have e : (if iI b < iI a then iI b else iI a) = iI (if b < a then b else a) := by
    by_cases h : b < a
    · rw [if_pos h, if_pos ((iI_lt hb ha).mpr h)]
    · rw [if_neg h, if_neg (fun q => h ((iI_lt hb ha).mp q))]
  rw [e]; exact kk
theorem r_mabs (C : Cx p s m args meth c cc nL own rt D k) {a : Int} {i : Nat} (hq : Cond.methodLink own i Lib.Math.abs.name ∈ TB) (ha : In32 a) (hls : ls.size = nL) (hd : decode cc pc = .ok (.invokestatic i, 3)) (kk : W p l e R s m args below meth c H locs cells slots Q (F0 m (pc + 3) ls (.int (iI (if a < 0 then -a else a)) :: rest))) (hR : 1 ≤ R.frames ∧ 21 ≤ R.locals := by exact ⟨Nat.le_of_ble_eq_true rfl, Nat.le_of_ble_eq_true rfl⟩) (hrm : (rest.map fun v => v.category).sum ≤ 8 := by exact Nat.le_of_ble_eq_true rfl) (hcs : cells ≤ R.cells ∧ slots ≤ R.slots := by exact ⟨Nat.zero_le _, Nat.zero_le _⟩) : W p l e R s m args below meth c H locs cells slots Q (F0 m (pc) ls (.int (iI a) :: rest)) := by
  refine va_mabs C.1.1 C.1.2.1 (C.1.2.2.1.trans hls.symm) C.1.2.2.2.1 (C.1.2.2.2.2 _ hq) (C.1.2.2.2.2 _ mm_abs.1) (C.1.2.2.2.2 _ mm_abs.2.1) (C.1.2.2.2.2 _ mm_abs.2.2) hR.1 (by have := hR.2; omega) hcs.1 hcs.2 hd ?_
  have e : (if 0 ≤ iI a then iI a else 0 - iI a) = iI (if a < 0 then -a else a) := by
    by_cases h : a < 0
    · rw [if_pos h, if_neg (fun q => by have := (iI_le (a := 0) ⟨by decide, by decide⟩ ha).mp q; omega), show (0 : Int32) = iI 0 from rfl, iI_sub, Int.zero_sub]
    · rw [if_neg h, if_pos (show (0 : Int32) ≤ iI a from (iI_le (a := 0) ⟨by decide, by decide⟩ ha).mpr (by omega))]
  rw [e]; exact kk
end BROWS
section BCON
variable {l : Launch} {D : va_G} {k : Nat → ClassId}
theorem lI_bN {f : Nat → Bool} : lB f = lI ((bN f 64 : Nat) : Int) := lB_lI f
set_option maxRecDepth 100000 in
theorem cJ_bitCountN {x : Nat} (hx : x < 281474976710656) : MR l yJ13_bitCount_95d88 cJ13_bitCount_95d88 2 (some .int) 0 0 D k [.long (lI (x : Int))] [] (.int (iI (popN x : Nat))) := by
  refine MR.mk RJ13 rfl (by decide +kernel) (Nat.le_of_ble_eq_true rfl) (fun p e U m0 below meth cd ls C hP hl => ?_)
  have hl : lv_has ls 2 [(0, .long (lI (x : Int)))] := hl
  have b1 := pop1_le x; have b2 := pop2_le (pop1 x); have b3 := pop3_le (pop2 (pop1 x))
  have b4 : pop4 (pop3 (pop2 (pop1 x))) = pop3 (pop2 (pop1 x)) + pop3 (pop2 (pop1 x)) / 256 := rfl
  have b5 : pop5 (pop4 (pop3 (pop2 (pop1 x)))) = pop4 (pop3 (pop2 (pop1 x))) + pop4 (pop3 (pop2 (pop1 x))) / 65536 := rfl
  have hk1 : x < 2 ^ 64 := by omega
  refine r_lload_n C dJ13_bitCount_95d88_0 rfl (lv_at hl 0 rfl) ?_
  refine r_lload_n C dJ13_bitCount_95d88_1 rfl (lv_at hl 0 rfl) ?_
  refine r_iconst C dJ13_bitCount_95d88_2 ?_
  refine r_lushrN C 1 rfl (by decide) (by omega) dJ13_bitCount_95d88_3 ?_
  refine r_ldc2 C (6148914691236517205) kl_J13_314 (by decide) dJ13_bitCount_95d88_4 ?_
  refine r_landN C 6148914691236517205 rfl dJ13_bitCount_95d88_7 ?_
  refine r_lsubN C (Nat.le_trans Nat.and_le_left (Nat.div_le_self _ _)) dJ13_bitCount_95d88_8 ?_
  refine r_lstore_n C [(0, .long (lI ((pop1 x : Nat) : Int)))] dJ13_bitCount_95d88_9 rfl hl (by decide) rfl (fun ls hl => ?_)
  refine r_lload_n C dJ13_bitCount_95d88_10 rfl (lv_at hl 0 rfl) ?_
  refine r_ldc2 C (3689348814741910323) kl_J13_316 (by decide) dJ13_bitCount_95d88_11 ?_
  refine r_landN C 3689348814741910323 rfl dJ13_bitCount_95d88_14 ?_
  refine r_lload_n C dJ13_bitCount_95d88_15 rfl (lv_at hl 0 rfl) ?_
  refine r_iconst C dJ13_bitCount_95d88_16 ?_
  refine r_lushrN C 2 rfl (by decide) (by omega) dJ13_bitCount_95d88_17 ?_
  refine r_ldc2 C (3689348814741910323) kl_J13_316 (by decide) dJ13_bitCount_95d88_18 ?_
  refine r_landN C 3689348814741910323 rfl dJ13_bitCount_95d88_21 ?_
  refine r_laddN C dJ13_bitCount_95d88_22 ?_
  refine r_lstore_n C [(0, .long (lI ((pop2 (pop1 x) : Nat) : Int)))] dJ13_bitCount_95d88_23 rfl hl (by decide) rfl (fun ls hl => ?_)
  refine r_lload_n C dJ13_bitCount_95d88_24 rfl (lv_at hl 0 rfl) ?_
  refine r_lload_n C dJ13_bitCount_95d88_25 rfl (lv_at hl 0 rfl) ?_
  refine r_iconst C dJ13_bitCount_95d88_26 ?_
  refine r_lushrN C 4 rfl (by decide) (by omega) dJ13_bitCount_95d88_27 ?_
  refine r_laddN C dJ13_bitCount_95d88_28 ?_
  refine r_ldc2 C (1085102592571150095) kl_J13_318 (by decide) dJ13_bitCount_95d88_29 ?_
  refine r_landN C 1085102592571150095 rfl dJ13_bitCount_95d88_32 ?_
  refine r_lstore_n C [(0, .long (lI ((pop3 (pop2 (pop1 x)) : Nat) : Int)))] dJ13_bitCount_95d88_33 rfl hl (by decide) rfl (fun ls hl => ?_)
  refine r_lload_n C dJ13_bitCount_95d88_34 rfl (lv_at hl 0 rfl) ?_
  refine r_lload_n C dJ13_bitCount_95d88_35 rfl (lv_at hl 0 rfl) ?_
  refine r_bipush C dJ13_bitCount_95d88_36 (by decide) ?_
  refine r_lushrN C 8 rfl (by decide) (by omega) dJ13_bitCount_95d88_38 ?_
  refine r_laddN C dJ13_bitCount_95d88_39 ?_
  refine r_lstore_n C [(0, .long (lI ((pop4 (pop3 (pop2 (pop1 x))) : Nat) : Int)))] dJ13_bitCount_95d88_40 rfl hl (by decide) rfl (fun ls hl => ?_)
  refine r_lload_n C dJ13_bitCount_95d88_41 rfl (lv_at hl 0 rfl) ?_
  refine r_lload_n C dJ13_bitCount_95d88_42 rfl (lv_at hl 0 rfl) ?_
  refine r_bipush C dJ13_bitCount_95d88_43 (by decide) ?_
  refine r_lushrN C 16 rfl (by decide) (by omega) dJ13_bitCount_95d88_45 ?_
  refine r_laddN C dJ13_bitCount_95d88_46 ?_
  refine r_lstore_n C [(0, .long (lI ((pop5 (pop4 (pop3 (pop2 (pop1 x)))) : Nat) : Int)))] dJ13_bitCount_95d88_47 rfl hl (by decide) rfl (fun ls hl => ?_)
  refine r_lload_n C dJ13_bitCount_95d88_48 rfl (lv_at hl 0 rfl) ?_
  refine r_lload_n C dJ13_bitCount_95d88_49 rfl (lv_at hl 0 rfl) ?_
  refine r_bipush C dJ13_bitCount_95d88_50 (by decide) ?_
  refine r_lushrN C 32 rfl (by decide) (by omega) dJ13_bitCount_95d88_52 ?_
  refine r_laddN C dJ13_bitCount_95d88_53 ?_
  refine r_lstore_n C [(0, .long (lI ((pop6 (pop5 (pop4 (pop3 (pop2 (pop1 x))))) : Nat) : Int)))] dJ13_bitCount_95d88_54 rfl hl (by decide) rfl (fun ls hl => ?_)
  refine r_lload_n C dJ13_bitCount_95d88_55 rfl (lv_at hl 0 rfl) ?_
  refine r_l2i C dJ13_bitCount_95d88_56 ?_
  refine r_bipush C dJ13_bitCount_95d88_57 (by decide) ?_
  refine r_and127 C dJ13_bitCount_95d88_59 ?_
  exact r_iretR C rfl dJ13_bitCount_95d88_60
theorem cJ_bitCount {f : Nat → Bool} (hf : L48 f) : MR l yJ13_bitCount_95d88 cJ13_bitCount_95d88 2 (some .int) 0 0 D k [.long (lB f)] [] (.int (iI (smB f 64 : Nat))) := by
  rw [lI_bN, ← pop_bN f]
  exact cJ_bitCountN (bN_48 hf)
theorem cJ_bitCountW (s : Int → Int) : MR l yJ13_bitCount_95d88 cJ13_bitCount_95d88 2 (some .int) 0 0 D k [.long (lB (wrF s))] [] (.int (iI (wrongMany s))) := by
  rw [← cnt_wr s]
  exact cJ_bitCount (l48_wr s)
theorem cJ_bitCountB (s : Int → Int) {c : Int} (h0 : 0 ≤ c) (h : c < 48) : MR l yJ13_bitCount_95d88 cJ13_bitCount_95d88 2 (some .int) 0 0 D k [.long (lB (anF (wrF s) (bsF (onF c))))] [] (.int (iI (wrongBeside s c))) := by
  rw [← cnt_be s h0 h]
  exact cJ_bitCount (l48_an (l48_wr s) _)
theorem cT_beside {f : Nat → Bool} (hf : L48 f) : MR l yX3_beside cX3_beside 4 (some .long) 0 0 D k [.long (lB f)] [] (.long (lB (bsF f))) := by
  refine MR.mk RX3 rfl (by decide +kernel) (Nat.le_of_ble_eq_true rfl) (fun p e U m0 below meth cd ls C hP hl => ?_)
  have hl : lv_has ls 4 [(0, .long (lB f))] := hl
  refine r_lload_n C dX3_beside_0 rfl (lv_at hl 0 rfl) ?_
  refine r_ldc2B C rmF kl_X3_237 k_rm dX3_beside_1 ?_
  refine r_landB C dX3_beside_4 ?_
  refine r_iconst C dX3_beside_5 ?_
  refine r_lshlB C 1 rfl (by decide) dX3_beside_6 ?_
  refine r_lload_n C dX3_beside_7 rfl (lv_at hl 0 rfl) ?_
  refine r_ldc2B C lmF kl_X3_239 k_lm dX3_beside_8 ?_
  refine r_landB C dX3_beside_11 ?_
  refine r_iconst C dX3_beside_12 ?_
  refine r_lushrB C 1 rfl (by decide) dX3_beside_13 ?_
  refine r_lorB C dX3_beside_14 ?_
  refine r_lstore_n C [(2, .long (lB (orF (fun i => decide (1 ≤ i) && anF f rmF (i - 1)) (fun i => decide (1 + i < 64) && anF f lmF (1 + i))))), (0, .long (lB f))] dX3_beside_15 rfl hl (by decide) rfl (fun ls hl => ?_)
  refine r_lload_n C dX3_beside_16 rfl (lv_at hl 1 rfl) ?_
  refine r_bipush C dX3_beside_17 (by decide) ?_
  refine r_lshlB C 8 rfl (by decide) dX3_beside_19 ?_
  refine r_lload_n C dX3_beside_20 rfl (lv_at hl 1 rfl) ?_
  refine r_bipush C dX3_beside_21 (by decide) ?_
  refine r_lushrB C 8 rfl (by decide) dX3_beside_23 ?_
  refine r_lorB C dX3_beside_24 ?_
  refine r_lload_n C dX3_beside_25 rfl (lv_at hl 0 rfl) ?_
  refine r_lorB C dX3_beside_26 ?_
  refine r_ldc2B C allF kl_X3_154 k_all dX3_beside_27 ?_
  refine r_landB C dX3_beside_30 ?_
  exact r_lretR C (lB_cong (fun i hi => bs_eq hf hi)) dX3_beside_31
theorem cT_has {f : Nat → Bool} {c : Int} (h0 : 0 ≤ c) (h : c < 64) : MR l yX3_has cX3_has 3 (some .boolean) 0 0 D k [.long (lB f), .int (iI c)] [] (.int (iB (f c.toNat = true))) := by
  obtain ⟨n, rfl⟩ := Int.eq_ofNat_of_zero_le h0
  rw [Int.toNat_natCast]
  refine MR.mk RX3 rfl (by decide +kernel) (Nat.le_of_ble_eq_true rfl) (fun p e U m0 below meth cd ls C hP hl => ?_)
  have hl : lv_has ls 3 [(0, .long (lB f)), (2, .int (iI (n : Int)))] := hl
  refine r_lload_n C dX3_has_0 rfl (lv_at hl 0 rfl) ?_
  refine r_iload_n C dX3_has_1 rfl (lv_at hl 1 rfl) ?_
  refine r_lushrB C n rfl (by omega) dX3_has_2 ?_
  refine lv_lconst C.1.1 C.1.2.1 dX3_has_3 lB_1 ?_
  refine r_landB C dX3_has_4 ?_
  refine r_lconst C (z := 0) dX3_has_5 (by decide) ?_
  refine r_lzB_eq C (tgt := 14) dX3_has_6 dX3_has_7 (by decide) (fun h1 => ?_) (fun h1 => ?_)
  · refine r_iconst C dX3_has_14 ?_
    refine r_zretR C (iB0 (fun q => ?_)) dX3_has_15
    have := h1 0 (by decide)
    unfold anF at this
    simp [q, show n < 64 by omega] at this
  · refine r_iconst C dX3_has_10 ?_
    refine r_goto C (tgt := 15) dX3_has_11 (by decide) ?_
    refine r_zretR C (iB1 ?_) dX3_has_15
    cases hq : f n
    · exfalso
      refine h1 (fun i hi => ?_)
      unfold anF
      by_cases e : i = 0
      · subst e; simp [hq]
      · simp [e]
    · rfl
theorem iB_iff {P Q : Prop} [Decidable P] [Decidable Q] (h : P ↔ Q) : iB P = iB Q := by
  unfold iB
  by_cases p : P
  · rw [if_pos p, if_pos (h.mp p)]
  · rw [if_neg p, if_neg (fun q => p (h.mpr q))]
theorem cT_hasW (s : Int → Int) {c : Int} (h0 : 0 ≤ c) (h : c < 48) : MR l yX3_has cX3_has 3 (some .boolean) 0 0 D k [.long (lB (wrF s)), .int (iI c)] [] (.int (iB (untrue s c))) := by
  have e : iB (untrue s c) = iB (wrF s c.toNat = true) := iB_iff (by rw [wrF_at h0 h]; exact (decide_eq_true_iff).symm)
  rw [e]
  exact cT_has h0 (by omega)
theorem cT_leastOf {f : Nat → Bool} {j : Nat} (hf : L48 f) (hj : f j = true) (hl0 : ∀ i, i < j → f i = false) : MR l yX3_leastOf cX3_leastOf 2 (some .int) 1 21 D k [.long (lB f)] [] (.int (iI (j : Int))) := by
  have hj48 : j < 48 := by
    rcases Nat.lt_or_ge j 48 with h | h
    · exact h
    · rw [hf j h] at hj; cases hj
  refine MR.mk RX3 rfl (by decide +kernel) (Nat.le_of_ble_eq_true rfl) (fun p e U m0 below meth cd ls C hP hl => ?_)
  have hl : lv_has ls 2 [(0, .long (lB f))] := hl
  refine r_lload_n C dX3_leastOf_0 rfl (lv_at hl 0 rfl) ?_
  refine r_lload_n C dX3_leastOf_1 rfl (lv_at hl 0 rfl) ?_
  refine lv_lneg C.1.1 C.1.2.1 dX3_leastOf_2 ?_
  refine lv_land C.1.1 C.1.2.1 dX3_leastOf_3 ?_
  refine r_lconst C (z := 1) dX3_leastOf_4 (by decide) ?_
  refine lv_lsub C.1.1 C.1.2.1 dX3_leastOf_5 ?_
  rw [lB_low hj48 hj hl0]
  have h9 := cJ_bitCount (l := l) (D := D) (k := k) (f := fun i => decide (i < j)) (fun i hi => decide_eq_false (by omega))
  rw [smB_low (by omega)] at h9
  refine r_cSR1 C m_X3_74 h9 pn0 hl.1 dX3_leastOf_6 ?_
  exact r_iretR C rfl dX3_leastOf_9
end BCON
