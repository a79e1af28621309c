section CLASS
variable {l : Launch} {D : va_G} {k : Nat → ClassId} {a c : Nat → Nat} {s t kq tp bi si st : Int → Int} {wr tw kw : Int64} {y ty ky ta tk sa en nm ik bt sz : Int} {nu nf : Int → Int64}
section LALDV
variable {p : Program} {l : Launch} {e : Env} {R : Room} {s : State} {m : MethodId} {args : Array Value} {below : List Frame} {meth : Method} {c : Code} {H : Heap} {locs : List Loc} {cells slots : Nat} {Q : State → Prop}
variable {cc : ByteArray} {nL : Nat} {own : String} {rt : Option FieldType} {D : va_G} {k : Nat → ClassId} {pc : Nat} {ls : Array Slot} {rest : List Value} {w : va_W}
theorem r_laldV (C : Cx p s m args meth c cc nL own rt D k) (hP : va_P D vwCl w H) (q0 : Nat) {a n : Nat} {f : Int → Int64} {z : Int} (v : Int64) (ha : w[q0]? = some (a, .inl (k 1, n, .inr (.inl (arL f))))) (hd : decode cc pc = .ok (.laload, 1)) (h0 : 0 ≤ z) (h : z < n) (hn : n < 2147483648) (hv : f z = v) (kk : W p l e R s m args below meth c H locs cells slots Q (F0 m (pc + 1) ls (.long (lI v.toInt) :: rest))) : W p l e R s m args below meth c H locs cells slots Q (F0 m pc ls (.int (iI z) :: .ref a :: rest)) := by
  subst hv
  exact r_laldI C hP q0 ha hd h0 h hn kk
end LALDV
theorem wS_ad {c : Nat → Nat} {k : Nat → ClassId} {nf : Int → Int64} {bt sz : Int} : (wS c k nf bt sz).map (·.1) = [c 0, c 1] := rfl
def zrN (f : Int → Int64) : Nat → Int → Int64
  | 0 => f
  | n + 1 => up (zrN f n) n (lI 0)
set_option maxHeartbeats 4000000 in
set_option maxRecDepth 100000 in
theorem cS_isMissing  (hbt : 0 ≤ bt) (hbt1 : bt ≤ 64) : MR l yX0_isMissing cX0_isMissing 1 (some .boolean) 0 0 D k [.ref (c 0)] (wS c k nf bt sz) (.int (iB (bt = 0))) := by
  refine MR.mk RX0 rfl (by decide +kernel) (Nat.le_of_ble_eq_true rfl) (fun p e U m0 below meth cd ls C hP hl => ?_)
  have hl : lv_has ls 1 [(0, .ref (c 0))] := hl
  refine r_aload_n C dX0_isMissing_0 rfl (lv_at hl 0 rfl) ?_
  refine g_X0_15 C hP 0 rfl rfl dX0_isMissing_1 ?_
  refine r_if_ne C (tgt := 11) dX0_isMissing_4 (by decide) (by exact ⟨by omega, by omega⟩) (fun h1 => ?_) (fun h1 => ?_)
  · refine r_iconst C dX0_isMissing_11 ?_
    exact r_zretR C (iB0 (by omega)) dX0_isMissing_12
  · refine r_iconst C dX0_isMissing_7 ?_
    refine r_goto C (tgt := 12) dX0_isMissing_8 (by decide) ?_
    exact r_zretR C (iB1 (by omega)) dX0_isMissing_12
set_option maxHeartbeats 4000000 in
set_option maxRecDepth 100000 in
theorem cS_cut {v : Int} (hbt : 0 ≤ bt) (hbt1 : bt ≤ 64) : MR l yX0_cut cX0_cut 3 (some .long) 0 0 D k [.ref (c 0), .long (lI v)] (wS c k nf bt sz) (.long (lI (nrw bt v))) := by
  refine MR.mk RX0 rfl (by decide +kernel) (Nat.le_of_ble_eq_true rfl) (fun p e U m0 below meth cd ls C hP hl => ?_)
  have hl : lv_has ls 3 [(0, .ref (c 0)), (1, .long (lI v))] := hl
  refine r_aload_n C dX0_cut_0 rfl (lv_at hl 0 rfl) ?_
  refine g_X0_15 C hP 0 rfl rfl dX0_cut_1 ?_
  refine r_bipush C dX0_cut_4 (by decide) ?_
  refine r_icmp_ne C (tgt := 14) dX0_cut_6 (by decide) (by exact ⟨by omega, by omega⟩) ⟨by decide, by decide⟩ (fun h1 => ?_) (fun h1 => ?_)
  · refine r_aload_n C dX0_cut_14 rfl (lv_at hl 0 rfl) ?_
    refine g_X0_15 C hP 0 rfl rfl dX0_cut_15 ?_
    refine r_bipush C dX0_cut_18 (by decide) ?_
    refine r_icmp_ne C (tgt := 30) dX0_cut_20 (by decide) (by exact ⟨by omega, by omega⟩) ⟨by decide, by decide⟩ (fun h2 => ?_) (fun h2 => ?_)
    · refine r_lload_n C dX0_cut_30 rfl (lv_at hl 1 rfl) ?_
      exact r_lretR C (by simp only [nrw, h1, h2, not_true_eq_false, not_false_eq_true, and_true, true_and, and_false, false_and, or_true, true_or, or_false, false_or, if_true, if_false, ne_eq, reduceIte]) dX0_cut_31
    · refine r_lload_n C dX0_cut_23 rfl (lv_at hl 1 rfl) ?_
      refine r_l2i C dX0_cut_24 ?_
      refine r_i2s C dX0_cut_25 ?_
      refine r_i2l C dX0_cut_26 (by have := bm16_rg v; exact ⟨by omega, by omega⟩) ?_
      refine r_goto C (tgt := 31) dX0_cut_27 (by decide) ?_
      exact r_lretR C (by simp only [nrw, h1, eq_true h2, not_true_eq_false, not_false_eq_true, and_true, true_and, and_false, false_and, or_true, true_or, or_false, false_or, if_true, if_false, ne_eq, reduceIte]) dX0_cut_31
  · refine r_lload_n C dX0_cut_9 rfl (lv_at hl 1 rfl) ?_
    refine r_l2i C dX0_cut_10 ?_
    refine r_i2b C dX0_cut_11 ?_
    refine r_i2l C dX0_cut_12 (by have := bm8_rg v; exact ⟨by omega, by omega⟩) ?_
    exact r_lretR C (by simp only [nrw, eq_true h1, not_true_eq_false, not_false_eq_true, and_true, true_and, and_false, false_and, or_true, true_or, or_false, false_or, if_true, if_false, ne_eq, reduceIte]) dX0_cut_13
set_option maxHeartbeats 4000000 in
set_option maxRecDepth 100000 in
theorem cS_put {i : Int} {v : Int} (hi : 0 ≤ i) (hi1 : i < 40) (hbt : 0 ≤ bt) (hbt1 : bt ≤ 64) : MW l yX0_put cX0_put 6 (some .long) 1 22 D k [.ref (c 0), .int (iI i), .long (lI v)] (wS c k nf bt sz) (wS c k (up nf i (lI (nrw bt v))) bt sz) (some (.long (lI ((nf i).toInt)))) := by
  refine MW.mk RX0 rfl (by decide +kernel) (Nat.le_of_ble_eq_true rfl) (fun p e U m0 below meth cd ls C hP hD hS hl => ?_)
  have hl : lv_has ls 6 [(0, .ref (c 0)), (1, .int (iI i)), (2, .long (lI v))] := hl
  refine r_aload_n C dX0_put_0 rfl (lv_at hl 0 rfl) ?_
  refine g_X0_9 C hP 0 rfl rfl dX0_put_1 ?_
  refine r_iload_n C dX0_put_4 rfl (lv_at hl 1 rfl) ?_
  refine r_laldI C hP 1 rfl dX0_put_5 (by omega) (by omega) (by decide) ?_
  refine r_lstore C [(4, .long (lI ((nf (i)).toInt))), (0, .ref (c 0)), (1, .int (iI i)), (2, .long (lI v))] dX0_put_6 hl (by decide) rfl (fun ls hl => ?_)
  refine r_aload_n C dX0_put_8 rfl (lv_at hl 1 rfl) ?_
  refine g_X0_9 C hP 0 rfl rfl dX0_put_9 ?_
  refine r_iload_n C dX0_put_12 rfl (lv_at hl 2 rfl) ?_
  refine r_aload_n C dX0_put_13 rfl (lv_at hl 1 rfl) ?_
  refine r_lload_n C dX0_put_14 rfl (lv_at hl 3 rfl) ?_
  refine r_cVR1 C m_X0_22 (cS_cut (c := c) (nf := nf) (bt := bt) (sz := sz) (by omega) (by omega)) hP rfl rfl hl.1 dX0_put_15 ?_
  refine r_last C hP hD hS 1 (wS c k (up nf i (lI (nrw bt v))) bt sz) rfl dX0_put_18 (by omega) (by omega) (by decide) rfl (fun H locs hP hD hS => ?_)
  refine r_lload C dX0_put_19 (lv_at hl 0 rfl) ?_
  exact r_lretW C hP hS rfl rfl dX0_put_21
set_option maxHeartbeats 4000000 in
set_option maxRecDepth 100000 in
theorem cS_clear {nb : Int} {n0 : Int} (znb : In32 nb) (zn0 : In32 n0) : MW l yX0_clear cX0_clear 4 none 0 0 D k [.ref (c 0), .int (iI nb), .int (iI n0)] (wS c k nf bt sz) (wS c k (zrN nf 40) nb (if nb = 0 then 0 else n0)) none := by
  refine MW.mk RX0 rfl (by decide +kernel) (Nat.le_of_ble_eq_true rfl) (fun p e U m0 below meth cd ls C hP hD hS hl => ?_)
  have hl : lv_has ls 4 [(0, .ref (c 0)), (1, .int (iI nb)), (2, .int (iI n0))] := hl
  have znb1 := znb.1
  have znb2 := znb.2
  have zn01 := zn0.1
  have zn02 := zn0.2
  refine r_iconst C dX0_clear_0 ?_
  refine r_istore_n C [(3, .int (iI 0)), (0, .ref (c 0)), (1, .int (iI nb)), (2, .int (iI n0))] dX0_clear_1 rfl hl (by decide) rfl (fun ls hl => ?_)
  refine r_loopW (fun n : Nat => [(0, .ref (c 0)), (1, .int (iI nb)), (2, .int (iI n0)), (3, .int (iI n))]) (fun n : Nat => wS c k (zrN nf n) bt sz) (40) (lv_eq (lv_sub hl [1, 2, 3, 0] rfl) rfl) (va_eq hP rfl) (va_eqD hD rfl) hS (fun n hn ihn ls H locs hl hP hD hS => ?_) (fun ls H locs hl hP hD hS => ?_)
  · have hl : lv_has ls 4 [(0, .ref (c 0)), (1, .int (iI nb)), (2, .int (iI n0)), (3, .int (iI n))] := hl
    have hP : va_P D vwCl (wS c k (zrN nf n) bt sz) H := hP
    have hD : va_D _ (wS c k (zrN nf n) bt sz) := hD
    refine r_iload_n C dX0_clear_2 rfl (lv_at hl 3 rfl) ?_
    refine r_bipush C dX0_clear_3 (by decide) ?_
    refine r_icmp_ge C (tgt := 21) dX0_clear_5 (by decide) (by exact ⟨by omega, by omega⟩) ⟨by decide, by decide⟩ (fun h1 => ?_) (fun h1 => ?_)
    · exfalso; omega
    · refine r_aload_n C dX0_clear_8 rfl (lv_at hl 0 rfl) ?_
      refine g_X0_9 C hP 0 rfl rfl dX0_clear_9 ?_
      refine r_iload_n C dX0_clear_12 rfl (lv_at hl 3 rfl) ?_
      refine r_lconst C (z := 0) dX0_clear_13 (by decide) ?_
      refine r_last C hP hD hS 1 (wS c k (up (zrN nf n) n (lI 0)) bt sz) rfl dX0_clear_14 (by omega) (by omega) (by decide) rfl (fun H locs hP hD hS => ?_)
      refine r_iinc C 3 [(3, .int (iI (n + 1))), (0, .ref (c 0)), (1, .int (iI nb)), (2, .int (iI n0))] dX0_clear_15 hl rfl (by decide) rfl (fun ls hl => ?_)
      refine r_goto C (tgt := 2) dX0_clear_18 (by decide) ?_
      exact ihn ls H locs (lv_eq (lv_sub hl [1, 2, 3, 0] rfl) rfl) (va_eq hP rfl) (va_eqD hD rfl) hS
  · have hl : lv_has ls 4 [(0, .ref (c 0)), (1, .int (iI nb)), (2, .int (iI n0)), (3, .int (iI 40))] := hl
    have hP : va_P D vwCl (wS c k (zrN nf 40) bt sz) H := hP
    have hD : va_D _ (wS c k (zrN nf 40) bt sz) := hD
    refine r_iload_n C dX0_clear_2 rfl (lv_at hl 3 rfl) ?_
    refine r_bipush C dX0_clear_3 (by decide) ?_
    refine r_icmp_ge C (tgt := 21) dX0_clear_5 (by decide) ⟨by decide, by decide⟩ ⟨by decide, by decide⟩ (fun h2 => ?_) (fun h2 => ?_)
    · refine r_aload_n C dX0_clear_21 rfl (lv_at hl 0 rfl) ?_
      refine r_iload_n C dX0_clear_22 rfl (lv_at hl 1 rfl) ?_
      refine p_X0_15 C hP hD hS 0 (wS c k (zrN nf 40) nb sz) rfl (Nat.le_of_ble_eq_true rfl) rfl dX0_clear_23 (fun H locs hP hD hS => ?_)
      refine r_aload_n C dX0_clear_26 rfl (lv_at hl 0 rfl) ?_
      refine r_iload_n C dX0_clear_27 rfl (lv_at hl 1 rfl) ?_
      refine r_if_ne C (tgt := 35) dX0_clear_28 (by decide) (by exact ⟨by omega, by omega⟩) (fun h3 => ?_) (fun h3 => ?_)
      · refine r_iload_n C dX0_clear_35 rfl (lv_at hl 2 rfl) ?_
        refine p_X0_19 C hP hD hS 0 (wS c k (zrN nf 40) nb n0) rfl (Nat.le_of_ble_eq_true rfl) rfl dX0_clear_36 (fun H locs hP hD hS => ?_)
        exact r_vretW C hP hS (by simp only [h2, h3, not_true_eq_false, not_false_eq_true, and_true, true_and, and_false, false_and, or_true, true_or, or_false, false_or, if_true, if_false, ne_eq, reduceIte]) dX0_clear_39
      · refine r_iconst C dX0_clear_31 ?_
        refine r_goto C (tgt := 36) dX0_clear_32 (by decide) ?_
        refine p_X0_19 C hP hD hS 0 (wS c k (zrN nf 40) nb 0) rfl (Nat.le_of_ble_eq_true rfl) rfl dX0_clear_36 (fun H locs hP hD hS => ?_)
        exact r_vretW C hP hS (by simp only [h2, eq_true h3, not_true_eq_false, not_false_eq_true, and_true, true_and, and_false, false_and, or_true, true_or, or_false, false_or, if_true, if_false, ne_eq, reduceIte]) dX0_clear_39
    · exfalso; omega
set_option maxHeartbeats 4000000 in
set_option maxRecDepth 100000 in
theorem cS_hasPart {f : Int} {n0 : Int} (zf : In32 f) (zn0 : In32 n0) (hz : 0 ≤ sz) (hz1 : sz ≤ 40) : MR l yX0_hasPart cX0_hasPart 3 (some .boolean) 0 0 D k [.ref (c 0), .int (iI f), .int (iI n0)] (wS c k nf bt sz) (.int (iB (0 ≤ f ∧ 0 ≤ n0 ∧ n0 ≤ sz ∧ f ≤ sz - n0))) := by
  refine MR.mk RX0 rfl (by decide +kernel) (Nat.le_of_ble_eq_true rfl) (fun p e U m0 below meth cd ls C hP hl => ?_)
  have hl : lv_has ls 3 [(0, .ref (c 0)), (1, .int (iI f)), (2, .int (iI n0))] := hl
  have zf1 := zf.1
  have zf2 := zf.2
  have zn01 := zn0.1
  have zn02 := zn0.2
  refine r_iload_n C dX0_hasPart_0 rfl (lv_at hl 1 rfl) ?_
  refine r_if_lt C (tgt := 30) dX0_hasPart_1 (by decide) (by exact ⟨by omega, by omega⟩) (fun h1 => ?_) (fun h1 => ?_)
  · refine r_iconst C dX0_hasPart_30 ?_
    exact r_zretR C (iB0 (by omega)) dX0_hasPart_31
  · refine r_iload_n C dX0_hasPart_4 rfl (lv_at hl 2 rfl) ?_
    refine r_if_lt C (tgt := 30) dX0_hasPart_5 (by decide) (by exact ⟨by omega, by omega⟩) (fun h2 => ?_) (fun h2 => ?_)
    · refine r_iconst C dX0_hasPart_30 ?_
      exact r_zretR C (iB0 (by omega)) dX0_hasPart_31
    · refine r_iload_n C dX0_hasPart_8 rfl (lv_at hl 2 rfl) ?_
      refine r_aload_n C dX0_hasPart_9 rfl (lv_at hl 0 rfl) ?_
      refine g_X0_19 C hP 0 rfl rfl dX0_hasPart_10 ?_
      refine r_icmp_gt C (tgt := 30) dX0_hasPart_13 (by decide) (by exact ⟨by omega, by omega⟩) (by exact ⟨by omega, by omega⟩) (fun h3 => ?_) (fun h3 => ?_)
      · refine r_iconst C dX0_hasPart_30 ?_
        exact r_zretR C (iB0 (by omega)) dX0_hasPart_31
      · refine r_iload_n C dX0_hasPart_16 rfl (lv_at hl 1 rfl) ?_
        refine r_aload_n C dX0_hasPart_17 rfl (lv_at hl 0 rfl) ?_
        refine g_X0_19 C hP 0 rfl rfl dX0_hasPart_18 ?_
        refine r_iload_n C dX0_hasPart_21 rfl (lv_at hl 2 rfl) ?_
        refine r_isub C dX0_hasPart_22 ?_
        refine r_icmp_gt C (tgt := 30) dX0_hasPart_23 (by decide) (by exact ⟨by omega, by omega⟩) (by exact ⟨by omega, by omega⟩) (fun h4 => ?_) (fun h4 => ?_)
        · refine r_iconst C dX0_hasPart_30 ?_
          exact r_zretR C (iB0 (by omega)) dX0_hasPart_31
        · refine r_iconst C dX0_hasPart_26 ?_
          refine r_goto C (tgt := 31) dX0_hasPart_27 (by decide) ?_
          exact r_zretR C (iB1 (by omega)) dX0_hasPart_31
set_option maxHeartbeats 4000000 in
set_option maxRecDepth 100000 in
theorem cT_outside {v : Int} {lo : Int} {hi : Int} (zv : In32 v) (zlo : In32 lo) (zhi : In32 hi) : MR l yX3_outside cX3_outside 3 (some .boolean) 0 0 D k [.int (iI v), .int (iI lo), .int (iI hi)] [] (.int (iB (¬ (lo ≤ v ∧ v ≤ hi)))) := by
  refine MR.mk RX3 rfl (by decide +kernel) (Nat.le_of_ble_eq_true rfl) (fun p e U m0 below meth cd ls C hP hl => ?_)
  have hl : lv_has ls 3 [(0, .int (iI v)), (1, .int (iI lo)), (2, .int (iI hi))] := hl
  have zv1 := zv.1
  have zv2 := zv.2
  have zlo1 := zlo.1
  have zlo2 := zlo.2
  have zhi1 := zhi.1
  have zhi2 := zhi.2
  refine r_iload_n C dX3_outside_0 rfl (lv_at hl 0 rfl) ?_
  refine r_iload_n C dX3_outside_1 rfl (lv_at hl 1 rfl) ?_
  refine r_icmp_lt C (tgt := 10) dX3_outside_2 (by decide) (by exact ⟨by omega, by omega⟩) (by exact ⟨by omega, by omega⟩) (fun h1 => ?_) (fun h1 => ?_)
  · refine r_iconst C dX3_outside_10 ?_
    refine r_goto C (tgt := 15) dX3_outside_11 (by decide) ?_
    exact r_zretR C (iB1 (by omega)) dX3_outside_15
  · refine r_iload_n C dX3_outside_5 rfl (lv_at hl 0 rfl) ?_
    refine r_iload_n C dX3_outside_6 rfl (lv_at hl 2 rfl) ?_
    refine r_icmp_le C (tgt := 14) dX3_outside_7 (by decide) (by exact ⟨by omega, by omega⟩) (by exact ⟨by omega, by omega⟩) (fun h2 => ?_) (fun h2 => ?_)
    · refine r_iconst C dX3_outside_14 ?_
      exact r_zretR C (iB0 (by omega)) dX3_outside_15
    · refine r_iconst C dX3_outside_10 ?_
      refine r_goto C (tgt := 15) dX3_outside_11 (by decide) ?_
      exact r_zretR C (iB1 (by omega)) dX3_outside_15
set_option maxHeartbeats 4000000 in
set_option maxRecDepth 100000 in
theorem cT_noCell {v : Int} (zv : In32 v) : MR l yX3_noCell cX3_noCell 1 (some .boolean) 1 22 D k [.int (iI v)] [] (.int (iB (¬ (0 ≤ v ∧ v ≤ 47)))) := by
  refine MR.mk RX3 rfl (by decide +kernel) (Nat.le_of_ble_eq_true rfl) (fun p e U m0 below meth cd ls C hP hl => ?_)
  have hl : lv_has ls 1 [(0, .int (iI v))] := hl
  have zv1 := zv.1
  have zv2 := zv.2
  refine r_iload_n C dX3_noCell_0 rfl (lv_at hl 0 rfl) ?_
  refine r_iconst C dX3_noCell_1 ?_
  refine r_bipush C dX3_noCell_2 (by decide) ?_
  refine r_cSR3 C m_X3_44 (cT_outside (by exact ⟨by omega, by omega⟩) ⟨by decide, by decide⟩ ⟨by decide, by decide⟩) pn0 hl.1 dX3_noCell_4 ?_
  exact r_zretR C rfl dX3_noCell_7
set_option maxHeartbeats 4000000 in
set_option maxRecDepth 100000 in
theorem cT_noKind {v : Int} (zv : In32 v) : MR l yX3_noKind cX3_noKind 1 (some .boolean) 1 22 D k [.int (iI v)] [] (.int (iB (¬ (0 ≤ v ∧ v ≤ 5)))) := by
  refine MR.mk RX3 rfl (by decide +kernel) (Nat.le_of_ble_eq_true rfl) (fun p e U m0 below meth cd ls C hP hl => ?_)
  have hl : lv_has ls 1 [(0, .int (iI v))] := hl
  have zv1 := zv.1
  have zv2 := zv.2
  refine r_iload_n C dX3_noKind_0 rfl (lv_at hl 0 rfl) ?_
  refine r_iconst C dX3_noKind_1 ?_
  refine r_iconst C dX3_noKind_2 ?_
  refine r_cSR3 C m_X3_44 (cT_outside (by exact ⟨by omega, by omega⟩) ⟨by decide, by decide⟩ ⟨by decide, by decide⟩) pn0 hl.1 dX3_noKind_3 ?_
  exact r_zretR C rfl dX3_noKind_6
set_option maxHeartbeats 4000000 in
set_option maxRecDepth 100000 in
theorem cT_noSheet {v : Int} (zv : In32 v) : MR l yX3_noSheet cX3_noSheet 1 (some .boolean) 1 22 D k [.int (iI v)] [] (.int (iB (¬ (0 ≤ v ∧ v ≤ 3)))) := by
  refine MR.mk RX3 rfl (by decide +kernel) (Nat.le_of_ble_eq_true rfl) (fun p e U m0 below meth cd ls C hP hl => ?_)
  have hl : lv_has ls 1 [(0, .int (iI v))] := hl
  have zv1 := zv.1
  have zv2 := zv.2
  refine r_iload_n C dX3_noSheet_0 rfl (lv_at hl 0 rfl) ?_
  refine r_iconst C dX3_noSheet_1 ?_
  refine r_iconst C dX3_noSheet_2 ?_
  refine r_cSR3 C m_X3_44 (cT_outside (by exact ⟨by omega, by omega⟩) ⟨by decide, by decide⟩ ⟨by decide, by decide⟩) pn0 hl.1 dX3_noSheet_3 ?_
  exact r_zretR C rfl dX3_noSheet_6
set_option maxHeartbeats 4000000 in
set_option maxRecDepth 100000 in
theorem cT_isUnder {kd : Int} {o : Int} (hkd : 0 ≤ kd) (hkd1 : kd < 6) (ho : 0 ≤ o) (ho1 : o < 6) : MR l yX3_isUnder cX3_isUnder 2 (some .boolean) 0 0 D k [.int (iI kd), .int (iI o)] [] (.int (iB (o = 0 ∨ kd = o ∨ (3 < kd ∧ kd - 3 = o)))) := by
  refine MR.mk RX3 rfl (by decide +kernel) (Nat.le_of_ble_eq_true rfl) (fun p e U m0 below meth cd ls C hP hl => ?_)
  have hl : lv_has ls 2 [(0, .int (iI kd)), (1, .int (iI o))] := hl
  refine r_iload_n C dX3_isUnder_0 rfl (lv_at hl 0 rfl) ?_
  refine r_iload_n C dX3_isUnder_1 rfl (lv_at hl 1 rfl) ?_
  refine r_icmp_eq C (tgt := 9) dX3_isUnder_2 (by decide) (by exact ⟨by omega, by omega⟩) (by exact ⟨by omega, by omega⟩) (fun h1 => ?_) (fun h1 => ?_)
  · refine r_iconst C dX3_isUnder_9 ?_
    exact r_zretR C (iB1 (by omega)) dX3_isUnder_10
  · refine r_iload_n C dX3_isUnder_5 rfl (lv_at hl 1 rfl) ?_
    refine r_if_ne C (tgt := 11) dX3_isUnder_6 (by decide) (by exact ⟨by omega, by omega⟩) (fun h2 => ?_) (fun h2 => ?_)
    · refine r_iload_n C dX3_isUnder_11 rfl (lv_at hl 0 rfl) ?_
      refine r_iconst C dX3_isUnder_12 ?_
      refine r_icmp_ne C (tgt := 21) dX3_isUnder_13 (by decide) (by exact ⟨by omega, by omega⟩) ⟨by decide, by decide⟩ (fun h3 => ?_) (fun h3 => ?_)
      · refine r_iload_n C dX3_isUnder_21 rfl (lv_at hl 0 rfl) ?_
        refine r_iconst C dX3_isUnder_22 ?_
        refine r_icmp_ne C (tgt := 35) dX3_isUnder_23 (by decide) (by exact ⟨by omega, by omega⟩) ⟨by decide, by decide⟩ (fun h4 => ?_) (fun h4 => ?_)
        · refine r_iconst C dX3_isUnder_35 ?_
          exact r_zretR C (iB0 (by omega)) dX3_isUnder_36
        · refine r_iload_n C dX3_isUnder_26 rfl (lv_at hl 1 rfl) ?_
          refine r_iconst C dX3_isUnder_27 ?_
          refine r_icmp_ne C (tgt := 35) dX3_isUnder_28 (by decide) (by exact ⟨by omega, by omega⟩) ⟨by decide, by decide⟩ (fun h5 => ?_) (fun h5 => ?_)
          · refine r_iconst C dX3_isUnder_35 ?_
            exact r_zretR C (iB0 (by omega)) dX3_isUnder_36
          · refine r_iconst C dX3_isUnder_31 ?_
            refine r_goto C (tgt := 36) dX3_isUnder_32 (by decide) ?_
            exact r_zretR C (iB1 (by omega)) dX3_isUnder_36
      · refine r_iload_n C dX3_isUnder_16 rfl (lv_at hl 1 rfl) ?_
        refine r_iconst C dX3_isUnder_17 ?_
        refine r_icmp_eq C (tgt := 31) dX3_isUnder_18 (by decide) (by exact ⟨by omega, by omega⟩) ⟨by decide, by decide⟩ (fun h6 => ?_) (fun h6 => ?_)
        · refine r_iconst C dX3_isUnder_31 ?_
          refine r_goto C (tgt := 36) dX3_isUnder_32 (by decide) ?_
          exact r_zretR C (iB1 (by omega)) dX3_isUnder_36
        · refine r_iload_n C dX3_isUnder_21 rfl (lv_at hl 0 rfl) ?_
          refine r_iconst C dX3_isUnder_22 ?_
          refine r_icmp_ne C (tgt := 35) dX3_isUnder_23 (by decide) (by exact ⟨by omega, by omega⟩) ⟨by decide, by decide⟩ (fun h7 => ?_) (fun h7 => ?_)
          · refine r_iconst C dX3_isUnder_35 ?_
            exact r_zretR C (iB0 (by omega)) dX3_isUnder_36
          · refine r_iload_n C dX3_isUnder_26 rfl (lv_at hl 1 rfl) ?_
            refine r_iconst C dX3_isUnder_27 ?_
            refine r_icmp_ne C (tgt := 35) dX3_isUnder_28 (by decide) (by exact ⟨by omega, by omega⟩) ⟨by decide, by decide⟩ (fun h8 => ?_) (fun h8 => ?_)
            · refine r_iconst C dX3_isUnder_35 ?_
              exact r_zretR C (iB0 (by omega)) dX3_isUnder_36
            · refine r_iconst C dX3_isUnder_31 ?_
              refine r_goto C (tgt := 36) dX3_isUnder_32 (by decide) ?_
              exact r_zretR C (iB1 (by omega)) dX3_isUnder_36
    · refine r_iconst C dX3_isUnder_9 ?_
      exact r_zretR C (iB1 (by omega)) dX3_isUnder_10
set_option maxHeartbeats 4000000 in
set_option maxRecDepth 100000 in
theorem cT_finding {f : Int} (hf : -1000000007 ≤ f) (hf1 : f ≤ -1000000001) : MW l yX3_finding cX3_finding 2 (some .int) 0 0 D k [.ref (a 0), .int (iI f)] (wT a k s (lB (wrF s)) y t tw ty kq (lB (wrF kq)) ky tp ta tk sa en nm bi si nu st ik) (wT a k s (lB (wrF s)) y t tw ty kq (lB (wrF kq)) ky tp ta tk sa en nm bi si nu (fnd st f) ik) (some (.int (iI f))) := by
  refine MW.mk RX3 rfl (by decide +kernel) (Nat.le_of_ble_eq_true rfl) (fun p e U m0 below meth cd ls C hP hD hS hl => ?_)
  have hl : lv_has ls 2 [(0, .ref (a 0)), (1, .int (iI f))] := hl
  refine r_aload_n C dX3_finding_0 rfl (lv_at hl 0 rfl) ?_
  refine g_X3_35 C hP 0 rfl rfl dX3_finding_1 ?_
  refine r_ldc C (-1000000001) ki_X3_48 (by decide) dX3_finding_4 ?_
  refine r_iload_n C dX3_finding_6 rfl (lv_at hl 1 rfl) ?_
  refine r_isub C dX3_finding_7 ?_
  refine r_dup2 C dX3_finding_8 rfl rfl ?_
  refine r_iald C hP 33 rfl dX3_finding_9 (by omega) (by omega) (by decide) ?_
  refine r_iconst C dX3_finding_10 ?_
  refine r_iadd C dX3_finding_11 ?_
  refine r_iast C hP hD hS 33 (wT a k s (lB (wrF s)) y t tw ty kq (lB (wrF kq)) ky tp ta tk sa en nm bi si nu (up st ((-1000000001) - f) ((st ((-1000000001) - f)) + 1)) ik) rfl dX3_finding_12 (by omega) (by omega) (by decide) rfl (fun H locs hP hD hS => ?_)
  refine r_iload_n C dX3_finding_13 rfl (lv_at hl 1 rfl) ?_
  exact r_iretW C hP hS (by rw [fnd]) rfl dX3_finding_14
set_option maxHeartbeats 4000000 in
set_option maxRecDepth 100000 in
theorem cT_noMender {m : Int} (zm : In32 m) (hs : Ok s) : MR l yX3_noMender cX3_noMender 2 (some .boolean) 1 22 D k [.ref (a 0), .int (iI m)] (wT a k s (lB (wrF s)) y t tw ty kq (lB (wrF kq)) ky tp ta tk sa en nm bi si nu st ik) (.int (iB (¬ (0 ≤ m ∧ m ≤ s 0 - 1)))) := by
  refine MR.mk RX3 rfl (by decide +kernel) (Nat.le_of_ble_eq_true rfl) (fun p e U m0 below meth cd ls C hP hl => ?_)
  have hl : lv_has ls 2 [(0, .ref (a 0)), (1, .int (iI m))] := hl
  have zm1 := zm.1
  have zm2 := zm.2
  have h00 := hs.1 0 (by decide)
  have h06 := hs.2.2.1
  refine r_iload_n C dX3_noMender_0 rfl (lv_at hl 1 rfl) ?_
  refine r_iconst C dX3_noMender_1 ?_
  refine r_aload_n C dX3_noMender_2 rfl (lv_at hl 0 rfl) ?_
  refine g_X3_10 C hP 0 rfl rfl dX3_noMender_3 ?_
  refine g_X3_94 C hP 1 rfl rfl dX3_noMender_6 ?_
  refine r_iconst C dX3_noMender_9 ?_
  refine r_isub C dX3_noMender_10 ?_
  refine r_cSR3 C m_X3_44 (cT_outside (by exact ⟨by omega, by omega⟩) ⟨by decide, by decide⟩ (by exact ⟨by omega, by omega⟩)) pn0 hl.1 dX3_noMender_11 ?_
  exact r_zretR C rfl dX3_noMender_14
end CLASS
