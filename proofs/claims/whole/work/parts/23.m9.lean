section MODEL
variable {l : Launch} {D : va_G} {k : Nat → ClassId} {a : Nat → Nat} {s kp ot sd st sp tp bi si : Int → Int} {nu mo : Int → Int64} {ik dl tl ta fr to va iw : Int}
set_option maxHeartbeats 4000000 in
set_option maxRecDepth 100000 in
theorem cM_must {b : Int} (hb : 0 ≤ b) (hb1 : b ≤ 1) (hq : PI tp ta (fr, to, va, iw)) (htp : ∀ i, 0 ≤ tp i ∧ tp i ≤ 255) : MW l yX4_must cX4_must 2 none 3 67 D k [.ref (a 0), .int (iI b)] (wM a k s kp ot sd st sp tp bi si nu mo ik dl tl ta fr to va iw) (wM a k s kp ot sd st sp tp bi si nu mo ik dl tl ta ((mstP tp ta b (fr, to, va, iw)).1) ((mstP tp ta b (fr, to, va, iw)).2.1) ((mstP tp ta b (fr, to, va, iw)).2.2.1) ((mstP tp ta b (fr, to, va, iw)).2.2.2)) none := by
  refine MW.mk RX4 rfl (by decide +kernel) (Nat.le_of_ble_eq_true rfl) (fun p e U m0 below meth cd ls C hP hD hS hl => ?_)
  have hl : lv_has ls 2 [(0, .ref (a 0)), (1, .int (iI b))] := hl
  have hq1 := hq.1
  have hq4 := hq.2.2.2.1
  have hq5 := hq.2.2.2.2
  dsimp only at hq1 hq4 hq5
  refine r_aload_n C dX4_must_0 rfl (lv_at hl 0 rfl) ?_
  refine r_aload_n C dX4_must_1 rfl (lv_at hl 0 rfl) ?_
  refine g_X4_200 C hP 0 rfl rfl dX4_must_2 ?_
  refine r_if_ne C (tgt := 12) dX4_must_5 (by decide) (by exact ⟨by omega, by omega⟩) (fun h1 => ?_) (fun h1 => ?_)
  · refine r_iconst C dX4_must_12 ?_
    refine r_goto C (tgt := 17) dX4_must_13 (by decide) ?_
    refine p_X4_200 C hP hD hS 0 (wM a k s kp ot sd st sp tp bi si nu mo ik dl tl ta fr to va 1) rfl (by decide) (by decide) (Nat.le_of_ble_eq_true rfl) rfl dX4_must_17 (fun H locs hP hD hS => ?_)
    refine r_aload_n C dX4_must_20 rfl (lv_at hl 0 rfl) ?_
    refine g_X4_200 C hP 0 rfl rfl dX4_must_21 ?_
    refine r_if_ne C (tgt := 31) dX4_must_24 (by decide) ⟨by decide, by decide⟩ (fun h2 => ?_) (fun h2 => ?_)
    · exact r_vretW C hP hS (by first | (simp only [mstP, h1, h2, not_true_eq_false, not_false_eq_true, and_true, true_and, and_false, false_and, or_true, true_or, or_false, false_or, if_true, if_false, ne_eq, reduceIte]; done) | (exfalso; omega)) dX4_must_31
    · exact absurd h2 (by decide)
  · refine r_iload_n C dX4_must_8 rfl (lv_at hl 1 rfl) ?_
    refine r_if_ne C (tgt := 16) dX4_must_9 (by decide) (by exact ⟨by omega, by omega⟩) (fun h3 => ?_) (fun h3 => ?_)
    · refine r_iconst C dX4_must_16 ?_
      refine p_X4_200 C hP hD hS 0 (wM a k s kp ot sd st sp tp bi si nu mo ik dl tl ta fr to va 0) rfl (by decide) (by decide) (Nat.le_of_ble_eq_true rfl) rfl dX4_must_17 (fun H locs hP hD hS => ?_)
      refine r_aload_n C dX4_must_20 rfl (lv_at hl 0 rfl) ?_
      refine g_X4_200 C hP 0 rfl rfl dX4_must_21 ?_
      refine r_if_ne C (tgt := 31) dX4_must_24 (by decide) ⟨by decide, by decide⟩ (fun h4 => ?_) (fun h4 => ?_)
      · exact absurd h4 (by decide)
      · refine r_aload_n C dX4_must_27 rfl (lv_at hl 0 rfl) ?_
        refine r_cVW0 C m_X4_204 (cM_token (by omega) (by omega) (by omega) htp) hP hD hS [0, 1, 2, 3, 4, 5, 6, 7, 8, 9, 10, 11] (wM a k s kp ot sd st sp tp bi si nu mo ik dl tl ta (tkF tp ta to) (tkT tp ta (tkF tp ta to)) va 0) rfl rfl rfl rfl rfl rfl rfl hl.1 dX4_must_28 (fun H locs hP hD hS => ?_)
        exact r_vretW C hP hS (by first | (simp only [mstP, eq_true h1, h3, eq_true h4, not_true_eq_false, not_false_eq_true, and_true, true_and, and_false, false_and, or_true, true_or, or_false, false_or, if_true, if_false, ne_eq, reduceIte]; done) | (exfalso; omega)) dX4_must_31
    · refine r_iconst C dX4_must_12 ?_
      refine r_goto C (tgt := 17) dX4_must_13 (by decide) ?_
      refine p_X4_200 C hP hD hS 0 (wM a k s kp ot sd st sp tp bi si nu mo ik dl tl ta fr to va 1) rfl (by decide) (by decide) (Nat.le_of_ble_eq_true rfl) rfl dX4_must_17 (fun H locs hP hD hS => ?_)
      refine r_aload_n C dX4_must_20 rfl (lv_at hl 0 rfl) ?_
      refine g_X4_200 C hP 0 rfl rfl dX4_must_21 ?_
      refine r_if_ne C (tgt := 31) dX4_must_24 (by decide) ⟨by decide, by decide⟩ (fun h5 => ?_) (fun h5 => ?_)
      · exact r_vretW C hP hS (by first | (simp only [mstP, eq_true h1, eq_true h3, h5, not_true_eq_false, not_false_eq_true, and_true, true_and, and_false, false_and, or_true, true_or, or_false, false_or, if_true, if_false, ne_eq, reduceIte]; done) | (exfalso; omega)) dX4_must_31
      · exact absurd h5 (by decide)
set_option maxHeartbeats 4000000 in
set_option maxRecDepth 100000 in
theorem cM_word  (hq : PI tp ta (fr, to, va, iw)) (htp : ∀ i, 0 ≤ tp i ∧ tp i ≤ 255) : MR l yX4_word cX4_word 4 (some .long) 2 45 D k [.ref (a 0)] (wM a k s kp ot sd st sp tp bi si nu mo ik dl tl ta fr to va iw) (.long (lI (wrd tp ta (fr, to, va, iw)))) := by
  refine MR.mk RX4 rfl (by decide +kernel) (Nat.le_of_ble_eq_true rfl) (fun p e U m0 below meth cd ls C hP hl => ?_)
  have hl : lv_has ls 4 [(0, .ref (a 0))] := hl
  have hq1 := hq.1
  have hq4 := hq.2.2.2.1
  have hq5 := hq.2.2.2.2
  dsimp only at hq1 hq4 hq5
  refine r_lconst C (z := 0) dX4_word_0 (by decide) ?_
  refine r_lstore_n C [(1, .long (lI 0)), (0, .ref (a 0))] dX4_word_1 rfl hl (by decide) rfl (fun ls hl => ?_)
  refine r_aload_n C dX4_word_2 rfl (lv_at hl 1 rfl) ?_
  refine g_X4_188 C hP 0 rfl rfl dX4_word_3 ?_
  refine r_istore_n C [(3, .int (iI fr)), (1, .long (lI 0)), (0, .ref (a 0))] dX4_word_6 rfl hl (by decide) rfl (fun ls hl => ?_)
  refine r_loopR (fun n : Nat => [(0, .ref (a 0)), (1, .long (lI (wdZ tp fr n))), (3, .int (iI (fr + n)))]) ((to - fr).toNat) (lv_eq (lv_sub hl [2, 1, 0] rfl) (by rw [show fr + ((0 : Nat) : Int) = fr by omega]; rfl)) (fun n hn ihn ls hl => ?_) (fun ls hl => ?_)
  · have hl : lv_has ls 4 [(0, .ref (a 0)), (1, .long (lI (wdZ tp fr n))), (3, .int (iI (fr + n)))] := hl
    refine r_iload_n C dX4_word_7 rfl (lv_at hl 2 rfl) ?_
    refine r_aload_n C dX4_word_8 rfl (lv_at hl 0 rfl) ?_
    refine g_X4_185 C hP 0 rfl rfl dX4_word_9 ?_
    refine r_icmp_ge C (tgt := 50) dX4_word_12 (by decide) (by exact ⟨by omega, by omega⟩) (by exact ⟨by omega, by omega⟩) (fun h1 => ?_) (fun h1 => ?_)
    · exfalso; omega
    · refine r_lload_n C dX4_word_15 rfl (lv_at hl 1 rfl) ?_
      refine r_ldc2 C (36028797018963967) kl_X4_207 (by decide) dX4_word_16 ?_
      refine r_lcmp_le C (tgt := 27) dX4_word_19 dX4_word_20 (by decide) (by have := wdZ_rg tp fr n; exact ⟨by omega, by omega⟩) ⟨by decide, by decide⟩ (fun h2 => ?_) (fun h2 => ?_)
      · refine r_ldc2 C (32) kl_X4_209 (by decide) dX4_word_27 ?_
        refine r_lload_n C dX4_word_30 rfl (lv_at hl 1 rfl) ?_
        refine r_lmul C dX4_word_31 ?_
        refine r_aload_n C dX4_word_32 rfl (lv_at hl 0 rfl) ?_
        refine g_X4_32 C hP 0 rfl rfl dX4_word_33 ?_
        refine r_iload_n C dX4_word_36 rfl (lv_at hl 2 rfl) ?_
        refine r_iald C hP 7 rfl dX4_word_37 (by omega) (by omega) (by decide) ?_
        refine r_bipush C dX4_word_38 (by decide) ?_
        refine r_isub C dX4_word_40 ?_
        refine r_i2l C dX4_word_41 (by have := htp (fr + n); exact ⟨by omega, by omega⟩) ?_
        refine r_ladd C dX4_word_42 ?_
        refine r_lstore_n C [(1, .long (lI ((32 * (wdZ tp fr n)) + ((tp (fr + n)) - 96)))), (0, .ref (a 0)), (3, .int (iI (fr + n)))] dX4_word_43 rfl hl (by decide) rfl (fun ls hl => ?_)
        refine r_iinc C 2 [(3, .int (iI (fr + n + 1))), (1, .long (lI ((32 * (wdZ tp fr n)) + ((tp (fr + n)) - 96)))), (0, .ref (a 0))] dX4_word_44 hl rfl (by decide) rfl (fun ls hl => ?_)
        refine r_goto C (tgt := 7) dX4_word_47 (by decide) ?_
        exact ihn ls (lv_eq (lv_sub hl [2, 1, 0] rfl) (by simp only [wdZ, ← Int.not_lt, h1, h2, not_true_eq_false, not_false_eq_true, and_true, true_and, and_false, false_and, or_true, true_or, or_false, false_or, if_true, if_false, ne_eq, reduceIte, lI_of, show fr + ((n + 1 : Nat) : Int) = fr + n + 1 by omega]; rfl))
      · refine r_lload_n C dX4_word_23 rfl (lv_at hl 1 rfl) ?_
        refine r_goto C (tgt := 43) dX4_word_24 (by decide) ?_
        refine r_lstore_n C [(1, .long (lI (wdZ tp fr n))), (0, .ref (a 0)), (3, .int (iI (fr + n)))] dX4_word_43 rfl hl (by decide) rfl (fun ls hl => ?_)
        refine r_iinc C 2 [(3, .int (iI (fr + n + 1))), (1, .long (lI (wdZ tp fr n))), (0, .ref (a 0))] dX4_word_44 hl rfl (by decide) rfl (fun ls hl => ?_)
        refine r_goto C (tgt := 7) dX4_word_47 (by decide) ?_
        exact ihn ls (lv_eq (lv_sub hl [2, 1, 0] rfl) (by simp only [wdZ, ← Int.not_lt, h1, h2, not_true_eq_false, not_false_eq_true, and_true, true_and, and_false, false_and, or_true, true_or, or_false, false_or, if_true, if_false, ne_eq, reduceIte, lI_of, show fr + ((n + 1 : Nat) : Int) = fr + n + 1 by omega]; rfl))
  · have hl : lv_has ls 4 [(0, .ref (a 0)), (1, .long (lI (wdZ tp fr (to - fr).toNat))), (3, .int (iI (fr + (to - fr).toNat)))] := hl
    refine r_iload_n C dX4_word_7 rfl (lv_at hl 2 rfl) ?_
    refine r_aload_n C dX4_word_8 rfl (lv_at hl 0 rfl) ?_
    refine g_X4_185 C hP 0 rfl rfl dX4_word_9 ?_
    refine r_icmp_ge C (tgt := 50) dX4_word_12 (by decide) (by exact ⟨by omega, by omega⟩) (by exact ⟨by omega, by omega⟩) (fun h3 => ?_) (fun h3 => ?_)
    · refine r_aload_n C dX4_word_50 rfl (lv_at hl 0 rfl) ?_
      refine g_X4_200 C hP 0 rfl rfl dX4_word_51 ?_
      refine r_if_ne C (tgt := 71) dX4_word_54 (by decide) (by exact ⟨by omega, by omega⟩) (fun h4 => ?_) (fun h4 => ?_)
      · refine r_lconst C (z := 0) dX4_word_71 (by decide) ?_
        refine r_goto C (tgt := 76) dX4_word_72 (by decide) ?_
        exact r_lretR C (congrArg lI (by simp only [wrd, isL, h3, h4, not_true_eq_false, not_false_eq_true, and_true, true_and, and_false, false_and, or_true, true_or, or_false, false_or, if_true, if_false, ne_eq, reduceIte])) dX4_word_76
      · refine r_aload_n C dX4_word_57 rfl (lv_at hl 0 rfl) ?_
        refine r_aload_n C dX4_word_58 rfl (lv_at hl 0 rfl) ?_
        refine g_X4_188 C hP 0 rfl rfl dX4_word_59 ?_
        refine r_cVR1 C m_X4_191 (cM_byteAt (by omega) (by omega) (by omega) (by omega) htp) hP rfl rfl hl.1 dX4_word_62 ?_
        refine r_cSR1 C m_X4_194 (cM_isLetter (by have := bAt_rg htp ta fr; exact ⟨by omega, by omega⟩)) pn0 hl.1 dX4_word_65 ?_
        refine r_ifB_ne C (tgt := 75) dX4_word_68 (by decide) (fun h5 => ?_) (fun h5 => ?_)
        · refine r_lload_n C dX4_word_75 rfl (lv_at hl 1 rfl) ?_
          exact r_lretR C (congrArg lI (by simp only [wrd, isL, h3, eq_true h4, h5, not_true_eq_false, not_false_eq_true, and_true, true_and, and_false, false_and, or_true, true_or, or_false, false_or, if_true, if_false, ne_eq, reduceIte])) dX4_word_76
        · refine r_lconst C (z := 0) dX4_word_71 (by decide) ?_
          refine r_goto C (tgt := 76) dX4_word_72 (by decide) ?_
          exact r_lretR C (congrArg lI (by simp only [wrd, isL, h3, eq_true h4, h5, not_true_eq_false, not_false_eq_true, and_true, true_and, and_false, false_and, or_true, true_or, or_false, false_or, if_true, if_false, ne_eq, reduceIte])) dX4_word_76
    · exfalso; omega
theorem cM_wordQ {q : PS} (hq : PI tp ta q) (htp : ∀ i, 0 ≤ tp i ∧ tp i ≤ 255) : MR l yX4_word cX4_word 4 (some .long) 2 45 D k [.ref (a 0)] (wM a k s kp ot sd st sp tp bi si nu mo ik dl tl ta q.1 q.2.1 q.2.2.1 q.2.2.2) (.long (lI (wrd tp ta q))) := cM_word (fr := q.1) (to := q.2.1) (va := q.2.2.1) (iw := q.2.2.2) hq htp
set_option maxHeartbeats 4000000 in
set_option maxRecDepth 100000 in
theorem cM_number {lo : Int} {hi : Int} (zlo : In32 lo) (zhi : In32 hi) (hq : PI tp ta (fr, to, va, iw)) (htp : ∀ i, 0 ≤ tp i ∧ tp i ≤ 255) : MW l yX4_number cX4_number 6 none 4 88 D k [.ref (a 0), .int (iI lo), .int (iI hi)] (wM a k s kp ot sd st sp tp bi si nu mo ik dl tl ta fr to va iw) (wM a k s kp ot sd st sp tp bi si nu mo ik dl tl ta ((numP tp ta lo hi (fr, to, va, iw)).1) ((numP tp ta lo hi (fr, to, va, iw)).2.1) ((numP tp ta lo hi (fr, to, va, iw)).2.2.1) ((numP tp ta lo hi (fr, to, va, iw)).2.2.2)) none := by
  refine MW.mk RX4 rfl (by decide +kernel) (Nat.le_of_ble_eq_true rfl) (fun p e U m0 below meth cd ls C hP hD hS hl => ?_)
  have hl : lv_has ls 6 [(0, .ref (a 0)), (1, .int (iI lo)), (2, .int (iI hi))] := hl
  have zlo1 := zlo.1
  have zlo2 := zlo.2
  have zhi1 := zhi.1
  have zhi2 := zhi.2
  have hq1 := hq.1
  have hq4 := hq.2.2.2.1
  have hq5 := hq.2.2.2.2
  dsimp only at hq1 hq4 hq5
  refine r_aload_n C dX4_number_0 rfl (lv_at hl 0 rfl) ?_
  refine g_X4_200 C hP 0 rfl rfl dX4_number_1 ?_
  refine r_if_eq C (tgt := 8) dX4_number_4 (by decide) (by exact ⟨by omega, by omega⟩) (fun h1 => ?_) (fun h1 => ?_)
  · refine r_aload_n C dX4_number_8 rfl (lv_at hl 0 rfl) ?_
    refine r_aload_n C dX4_number_9 rfl (lv_at hl 0 rfl) ?_
    refine g_X4_188 C hP 0 rfl rfl dX4_number_10 ?_
    refine r_cVR1 C m_X4_191 (cM_byteAt (by omega) (by omega) (by omega) (by omega) htp) hP rfl rfl hl.1 dX4_number_13 ?_
    refine r_cSR1 C m_X4_197 (cM_isDigit (by have := bAt_rg htp ta fr; exact ⟨by omega, by omega⟩)) pn0 hl.1 dX4_number_16 ?_
    refine r_istore_n C [(3, .int (iB (48 ≤ (bAt tp ta fr) ∧ (bAt tp ta fr) ≤ 57))), (0, .ref (a 0)), (1, .int (iI lo)), (2, .int (iI hi))] dX4_number_19 rfl hl (by decide) rfl (fun ls hl => ?_)
    refine r_iconst C dX4_number_20 ?_
    refine r_istore C [(4, .int (iI 0)), (3, .int (iB (48 ≤ (bAt tp ta fr) ∧ (bAt tp ta fr) ≤ 57))), (0, .ref (a 0)), (1, .int (iI lo)), (2, .int (iI hi))] dX4_number_21 hl (by decide) rfl (fun ls hl => ?_)
    refine r_aload_n C dX4_number_23 rfl (lv_at hl 2 rfl) ?_
    refine g_X4_188 C hP 0 rfl rfl dX4_number_24 ?_
    refine r_istore C [(5, .int (iI fr)), (4, .int (iI 0)), (3, .int (iB (48 ≤ (bAt tp ta fr) ∧ (bAt tp ta fr) ≤ 57))), (0, .ref (a 0)), (1, .int (iI lo)), (2, .int (iI hi))] dX4_number_27 hl (by decide) rfl (fun ls hl => ?_)
    refine r_loopRJ (fun n : Nat => [(0, .ref (a 0)), (1, .int (iI lo)), (2, .int (iI hi)), (3, .int (iB (48 ≤ bAt tp ta fr ∧ bAt tp ta fr ≤ 57))), (4, .int (iI (nmN tp fr n))), (5, .int (iI (fr + n)))]) ((to - fr).toNat) (fun n : Nat => n = 0 ∨ isD (bAt tp ta fr)) (Or.inl rfl) (lv_eq (lv_sub hl [3, 4, 5, 2, 1, 0] rfl) (by rw [show fr + ((0 : Nat) : Int) = fr by omega]; rfl)) (fun n hn ihn hJn ls hl => ?_) (fun hJn ls hl => ?_)
    · have hl : lv_has ls 6 [(0, .ref (a 0)), (1, .int (iI lo)), (2, .int (iI hi)), (3, .int (iB (48 ≤ bAt tp ta fr ∧ bAt tp ta fr ≤ 57))), (4, .int (iI (nmN tp fr n))), (5, .int (iI (fr + n)))] := hl
      have hJn : n = 0 ∨ isD (bAt tp ta fr) := hJn
      have hnm := nmN_J hq hJn (by omega)
      refine r_iload C dX4_number_29 (lv_at hl 5 rfl) ?_
      refine r_aload_n C dX4_number_31 rfl (lv_at hl 0 rfl) ?_
      refine g_X4_185 C hP 0 rfl rfl dX4_number_32 ?_
      refine r_icmp_ge C (tgt := 79) dX4_number_35 (by decide) (by exact ⟨by omega, by omega⟩) (by exact ⟨by omega, by omega⟩) (fun h2 => ?_) (fun h2 => ?_)
      · exfalso; omega
      · refine r_iload_n C dX4_number_38 rfl (lv_at hl 3 rfl) ?_
        refine r_ifB_eq C (tgt := 79) dX4_number_39 (by decide) (fun h3 => ?_) (fun h3 => ?_)
        · have env : nmN tp fr n = nmV tp ta (fr, to, va, iw) := (by rw [nmV, if_neg h3, hJn.resolve_right h3, nmN])
          rw [env] at hl
          refine r_aload_n C dX4_number_79 rfl (lv_at hl 0 rfl) ?_
          refine r_iload C dX4_number_80 (lv_at hl 4 rfl) ?_
          refine p_X4_211 C hP hD hS 0 (wM a k s kp ot sd st sp tp bi si nu mo ik dl tl ta fr to (nmV tp ta (fr, to, va, iw)) iw) rfl (Nat.le_of_ble_eq_true rfl) rfl dX4_number_82 (fun H locs hP hD hS => ?_)
          have hnv := nmV_rg hq
          have hq2 : PI tp ta (fr, to, nmV tp ta (fr, to, va, iw), iw) := ⟨hq.1, hq.2.1, hq.2.2.1, hq.2.2.2.1, ⟨by dsimp only; omega, by dsimp only; omega⟩⟩
          refine r_aload_n C dX4_number_85 rfl (lv_at hl 0 rfl) ?_
          refine r_iload_n C dX4_number_86 rfl (lv_at hl 3 rfl) ?_
          refine r_ifB_eq C (tgt := 107) dX4_number_87 (by decide) (fun h4 => ?_) (fun h4 => ?_)
          · refine r_iconst C dX4_number_107 ?_
            obtain ⟨q1, eq1⟩ : ∃ q : PS, q = mstP tp ta 0 (fr, to, nmV tp ta (fr, to, va, iw), iw) := ⟨_, rfl⟩
            have iq1 : PI tp ta q1 := eq1 ▸ (pi_mst hq2 0)
            have jq11 := iq1.1
            have jq14 := iq1.2.2.2.1
            have jq15 := iq1.2.2.2.2
            refine r_cVW1 C m_X4_214 (cM_must (by omega) (by omega) hq2 htp) hP hD hS [0, 1, 2, 3, 4, 5, 6, 7, 8, 9, 10, 11] (wM a k s kp ot sd st sp tp bi si nu mo ik dl tl ta q1.1 q1.2.1 q1.2.2.1 q1.2.2.2) rfl rfl rfl (by rw [eq1]; rfl) rfl rfl rfl hl.1 dX4_number_108 (fun H locs hP hD hS => ?_)
            exact r_vretW C hP hS (by subst eq1; first | (simp only [numP, isD, eq_true h1, h2, h3, h4, not_true_eq_false, not_false_eq_true, and_true, true_and, and_false, false_and, or_true, true_or, or_false, false_or, if_true, if_false, ne_eq, reduceIte]; done) | (exfalso; omega)) dX4_number_111
          · refine r_iload C dX4_number_90 (lv_at hl 4 rfl) ?_
            refine r_i2l C dX4_number_92 (by have := nmV_rg hq; exact ⟨by omega, by omega⟩) ?_
            refine r_iload_n C dX4_number_93 rfl (lv_at hl 1 rfl) ?_
            refine r_i2l C dX4_number_94 (by exact ⟨by omega, by omega⟩) ?_
            refine r_iload_n C dX4_number_95 rfl (lv_at hl 2 rfl) ?_
            refine r_i2l C dX4_number_96 (by exact ⟨by omega, by omega⟩) ?_
            refine r_cSR3 C m_X4_51 (cM_in (by have := nmV_rg hq; exact ⟨by omega, by omega⟩) (by exact ⟨by omega, by omega⟩) (by exact ⟨by omega, by omega⟩)) pn0 hl.1 dX4_number_97 ?_
            refine r_ifB_eq C (tgt := 107) dX4_number_100 (by decide) (fun h5 => ?_) (fun h5 => ?_)
            · refine r_iconst C dX4_number_107 ?_
              obtain ⟨q2, eq2⟩ : ∃ q : PS, q = mstP tp ta 0 (fr, to, nmV tp ta (fr, to, va, iw), iw) := ⟨_, rfl⟩
              have iq2 : PI tp ta q2 := eq2 ▸ (pi_mst hq2 0)
              have jq21 := iq2.1
              have jq24 := iq2.2.2.2.1
              have jq25 := iq2.2.2.2.2
              refine r_cVW1 C m_X4_214 (cM_must (by omega) (by omega) hq2 htp) hP hD hS [0, 1, 2, 3, 4, 5, 6, 7, 8, 9, 10, 11] (wM a k s kp ot sd st sp tp bi si nu mo ik dl tl ta q2.1 q2.2.1 q2.2.2.1 q2.2.2.2) rfl rfl rfl (by rw [eq2]; rfl) rfl rfl rfl hl.1 dX4_number_108 (fun H locs hP hD hS => ?_)
              exact r_vretW C hP hS (by subst eq2; first | (simp only [numP, isD, eq_true h1, h2, h3, h4, h5, not_true_eq_false, not_false_eq_true, and_true, true_and, and_false, false_and, or_true, true_or, or_false, false_or, if_true, if_false, ne_eq, reduceIte]; done) | (exfalso; omega)) dX4_number_111
            · refine r_iconst C dX4_number_103 ?_
              refine r_goto C (tgt := 108) dX4_number_104 (by decide) ?_
              obtain ⟨q3, eq3⟩ : ∃ q : PS, q = mstP tp ta 1 (fr, to, nmV tp ta (fr, to, va, iw), iw) := ⟨_, rfl⟩
              have iq3 : PI tp ta q3 := eq3 ▸ (pi_mst hq2 1)
              have jq31 := iq3.1
              have jq34 := iq3.2.2.2.1
              have jq35 := iq3.2.2.2.2
              refine r_cVW1 C m_X4_214 (cM_must (by omega) (by omega) hq2 htp) hP hD hS [0, 1, 2, 3, 4, 5, 6, 7, 8, 9, 10, 11] (wM a k s kp ot sd st sp tp bi si nu mo ik dl tl ta q3.1 q3.2.1 q3.2.2.1 q3.2.2.2) rfl rfl rfl (by rw [eq3]; rfl) rfl rfl rfl hl.1 dX4_number_108 (fun H locs hP hD hS => ?_)
              exact r_vretW C hP hS (by subst eq3; first | (simp only [numP, isD, eq_true h1, h2, h3, h4, h5, not_true_eq_false, not_false_eq_true, and_true, true_and, and_false, false_and, or_true, true_or, or_false, false_or, if_true, if_false, ne_eq, reduceIte]; done) | (exfalso; omega)) dX4_number_111
        · refine r_iload C dX4_number_42 (lv_at hl 4 rfl) ?_
          refine r_sipush C dX4_number_44 (by decide) ?_
          refine r_icmp_le C (tgt := 55) dX4_number_47 (by decide) (by have := hnm; exact ⟨by omega, by omega⟩) ⟨by decide, by decide⟩ (fun h6 => ?_) (fun h6 => ?_)
          · refine r_bipush C dX4_number_55 (by decide) ?_
            refine r_iload C dX4_number_57 (lv_at hl 4 rfl) ?_
            refine r_imul C dX4_number_59 ?_
            refine r_aload_n C dX4_number_60 rfl (lv_at hl 0 rfl) ?_
            refine g_X4_32 C hP 0 rfl rfl dX4_number_61 ?_
            refine r_iload C dX4_number_64 (lv_at hl 5 rfl) ?_
            refine r_iald C hP 7 rfl dX4_number_66 (by omega) (by omega) (by decide) ?_
            refine r_iadd C dX4_number_67 ?_
            refine r_bipush C dX4_number_68 (by decide) ?_
            refine r_isub C dX4_number_70 ?_
            refine r_istore C [(4, .int (iI (((10 * (nmN tp fr n)) + (tp (fr + n))) - 48))), (0, .ref (a 0)), (1, .int (iI lo)), (2, .int (iI hi)), (3, .int (iB (48 ≤ bAt tp ta fr ∧ bAt tp ta fr ≤ 57))), (5, .int (iI (fr + n)))] dX4_number_71 hl (by decide) rfl (fun ls hl => ?_)
            refine r_iinc C 5 [(5, .int (iI (fr + n + 1))), (4, .int (iI (((10 * (nmN tp fr n)) + (tp (fr + n))) - 48))), (0, .ref (a 0)), (1, .int (iI lo)), (2, .int (iI hi)), (3, .int (iB (48 ≤ bAt tp ta fr ∧ bAt tp ta fr ≤ 57)))] dX4_number_73 hl rfl (by decide) rfl (fun ls hl => ?_)
            refine r_goto C (tgt := 29) dX4_number_76 (by decide) ?_
            exact ihn (Or.inr h3) ls (lv_eq (lv_sub hl [2, 3, 4, 5, 1, 0] rfl) (by simp only [nmN, eq_true h1, h2, h3, h6, not_true_eq_false, not_false_eq_true, and_true, true_and, and_false, false_and, or_true, true_or, or_false, false_or, if_true, if_false, ne_eq, reduceIte, show fr + ((n + 1 : Nat) : Int) = fr + n + 1 by omega]; rfl))
          · refine r_iload C dX4_number_50 (lv_at hl 4 rfl) ?_
            refine r_goto C (tgt := 71) dX4_number_52 (by decide) ?_
            refine r_istore C [(4, .int (iI (nmN tp fr n))), (0, .ref (a 0)), (1, .int (iI lo)), (2, .int (iI hi)), (3, .int (iB (48 ≤ bAt tp ta fr ∧ bAt tp ta fr ≤ 57))), (5, .int (iI (fr + n)))] dX4_number_71 hl (by decide) rfl (fun ls hl => ?_)
            refine r_iinc C 5 [(5, .int (iI (fr + n + 1))), (4, .int (iI (nmN tp fr n))), (0, .ref (a 0)), (1, .int (iI lo)), (2, .int (iI hi)), (3, .int (iB (48 ≤ bAt tp ta fr ∧ bAt tp ta fr ≤ 57)))] dX4_number_73 hl rfl (by decide) rfl (fun ls hl => ?_)
            refine r_goto C (tgt := 29) dX4_number_76 (by decide) ?_
            exact ihn (Or.inr h3) ls (lv_eq (lv_sub hl [2, 3, 4, 5, 1, 0] rfl) (by simp only [nmN, eq_true h1, h2, h3, h6, not_true_eq_false, not_false_eq_true, and_true, true_and, and_false, false_and, or_true, true_or, or_false, false_or, if_true, if_false, ne_eq, reduceIte, show fr + ((n + 1 : Nat) : Int) = fr + n + 1 by omega]; rfl))
    · have hl : lv_has ls 6 [(0, .ref (a 0)), (1, .int (iI lo)), (2, .int (iI hi)), (3, .int (iB (48 ≤ bAt tp ta fr ∧ bAt tp ta fr ≤ 57))), (4, .int (iI (nmN tp fr (to - fr).toNat))), (5, .int (iI (fr + (to - fr).toNat)))] := hl
      have hJn : (to - fr).toNat = 0 ∨ isD (bAt tp ta fr) := hJn
      have hnm := nmN_J hq hJn (by omega)
      refine r_iload C dX4_number_29 (lv_at hl 5 rfl) ?_
      refine r_aload_n C dX4_number_31 rfl (lv_at hl 0 rfl) ?_
      refine g_X4_185 C hP 0 rfl rfl dX4_number_32 ?_
      refine r_icmp_ge C (tgt := 79) dX4_number_35 (by decide) (by exact ⟨by omega, by omega⟩) (by exact ⟨by omega, by omega⟩) (fun h7 => ?_) (fun h7 => ?_)
      · have env : nmN tp fr (to - fr).toNat = nmV tp ta (fr, to, va, iw) := (by unfold nmV; split; rfl; rw [hJn.resolve_right (by assumption), nmN])
        rw [env] at hl
        refine r_aload_n C dX4_number_79 rfl (lv_at hl 0 rfl) ?_
        refine r_iload C dX4_number_80 (lv_at hl 4 rfl) ?_
        refine p_X4_211 C hP hD hS 0 (wM a k s kp ot sd st sp tp bi si nu mo ik dl tl ta fr to (nmV tp ta (fr, to, va, iw)) iw) rfl (Nat.le_of_ble_eq_true rfl) rfl dX4_number_82 (fun H locs hP hD hS => ?_)
        have hnv := nmV_rg hq
        have hq2 : PI tp ta (fr, to, nmV tp ta (fr, to, va, iw), iw) := ⟨hq.1, hq.2.1, hq.2.2.1, hq.2.2.2.1, ⟨by dsimp only; omega, by dsimp only; omega⟩⟩
        refine r_aload_n C dX4_number_85 rfl (lv_at hl 0 rfl) ?_
        refine r_iload_n C dX4_number_86 rfl (lv_at hl 3 rfl) ?_
        refine r_ifB_eq C (tgt := 107) dX4_number_87 (by decide) (fun h8 => ?_) (fun h8 => ?_)
        · refine r_iconst C dX4_number_107 ?_
          obtain ⟨q4, eq4⟩ : ∃ q : PS, q = mstP tp ta 0 (fr, to, nmV tp ta (fr, to, va, iw), iw) := ⟨_, rfl⟩
          have iq4 : PI tp ta q4 := eq4 ▸ (pi_mst hq2 0)
          have jq41 := iq4.1
          have jq44 := iq4.2.2.2.1
          have jq45 := iq4.2.2.2.2
          refine r_cVW1 C m_X4_214 (cM_must (by omega) (by omega) hq2 htp) hP hD hS [0, 1, 2, 3, 4, 5, 6, 7, 8, 9, 10, 11] (wM a k s kp ot sd st sp tp bi si nu mo ik dl tl ta q4.1 q4.2.1 q4.2.2.1 q4.2.2.2) rfl rfl rfl (by rw [eq4]; rfl) rfl rfl rfl hl.1 dX4_number_108 (fun H locs hP hD hS => ?_)
          exact r_vretW C hP hS (by subst eq4; first | (simp only [numP, isD, eq_true h1, h7, h8, not_true_eq_false, not_false_eq_true, and_true, true_and, and_false, false_and, or_true, true_or, or_false, false_or, if_true, if_false, ne_eq, reduceIte]; done) | (exfalso; omega)) dX4_number_111
        · refine r_iload C dX4_number_90 (lv_at hl 4 rfl) ?_
          refine r_i2l C dX4_number_92 (by have := nmV_rg hq; exact ⟨by omega, by omega⟩) ?_
          refine r_iload_n C dX4_number_93 rfl (lv_at hl 1 rfl) ?_
          refine r_i2l C dX4_number_94 (by exact ⟨by omega, by omega⟩) ?_
          refine r_iload_n C dX4_number_95 rfl (lv_at hl 2 rfl) ?_
          refine r_i2l C dX4_number_96 (by exact ⟨by omega, by omega⟩) ?_
          refine r_cSR3 C m_X4_51 (cM_in (by have := nmV_rg hq; exact ⟨by omega, by omega⟩) (by exact ⟨by omega, by omega⟩) (by exact ⟨by omega, by omega⟩)) pn0 hl.1 dX4_number_97 ?_
          refine r_ifB_eq C (tgt := 107) dX4_number_100 (by decide) (fun h9 => ?_) (fun h9 => ?_)
          · refine r_iconst C dX4_number_107 ?_
            obtain ⟨q5, eq5⟩ : ∃ q : PS, q = mstP tp ta 0 (fr, to, nmV tp ta (fr, to, va, iw), iw) := ⟨_, rfl⟩
            have iq5 : PI tp ta q5 := eq5 ▸ (pi_mst hq2 0)
            have jq51 := iq5.1
            have jq54 := iq5.2.2.2.1
            have jq55 := iq5.2.2.2.2
            refine r_cVW1 C m_X4_214 (cM_must (by omega) (by omega) hq2 htp) hP hD hS [0, 1, 2, 3, 4, 5, 6, 7, 8, 9, 10, 11] (wM a k s kp ot sd st sp tp bi si nu mo ik dl tl ta q5.1 q5.2.1 q5.2.2.1 q5.2.2.2) rfl rfl rfl (by rw [eq5]; rfl) rfl rfl rfl hl.1 dX4_number_108 (fun H locs hP hD hS => ?_)
            exact r_vretW C hP hS (by subst eq5; first | (simp only [numP, isD, eq_true h1, h7, h8, h9, not_true_eq_false, not_false_eq_true, and_true, true_and, and_false, false_and, or_true, true_or, or_false, false_or, if_true, if_false, ne_eq, reduceIte]; done) | (exfalso; omega)) dX4_number_111
          · refine r_iconst C dX4_number_103 ?_
            refine r_goto C (tgt := 108) dX4_number_104 (by decide) ?_
            obtain ⟨q6, eq6⟩ : ∃ q : PS, q = mstP tp ta 1 (fr, to, nmV tp ta (fr, to, va, iw), iw) := ⟨_, rfl⟩
            have iq6 : PI tp ta q6 := eq6 ▸ (pi_mst hq2 1)
            have jq61 := iq6.1
            have jq64 := iq6.2.2.2.1
            have jq65 := iq6.2.2.2.2
            refine r_cVW1 C m_X4_214 (cM_must (by omega) (by omega) hq2 htp) hP hD hS [0, 1, 2, 3, 4, 5, 6, 7, 8, 9, 10, 11] (wM a k s kp ot sd st sp tp bi si nu mo ik dl tl ta q6.1 q6.2.1 q6.2.2.1 q6.2.2.2) rfl rfl rfl (by rw [eq6]; rfl) rfl rfl rfl hl.1 dX4_number_108 (fun H locs hP hD hS => ?_)
            exact r_vretW C hP hS (by subst eq6; first | (simp only [numP, isD, eq_true h1, h7, h8, h9, not_true_eq_false, not_false_eq_true, and_true, true_and, and_false, false_and, or_true, true_or, or_false, false_or, if_true, if_false, ne_eq, reduceIte]; done) | (exfalso; omega)) dX4_number_111
      · exfalso; omega
  · exact r_vretW C hP hS (by first | (simp only [numP, isD, h1, not_true_eq_false, not_false_eq_true, and_true, true_and, and_false, false_and, or_true, true_or, or_false, false_or, if_true, if_false, ne_eq, reduceIte]; done) | (exfalso; omega)) dX4_number_7
set_option maxHeartbeats 4000000 in
set_option maxRecDepth 100000 in
theorem cM_kindHere  (hq : PI tp ta (fr, to, va, iw)) (htp : ∀ i, 0 ≤ tp i ∧ tp i ≤ 255) : MR l yX4_kindHere cX4_kindHere 3 (some .int) 3 68 D k [.ref (a 0)] (wM a k s kp ot sd st sp tp bi si nu mo ik dl tl ta fr to va iw) (.int (iI (kdH (wrd tp ta (fr, to, va, iw))))) := by
  refine MR.mk RX4 rfl (by decide +kernel) (Nat.le_of_ble_eq_true rfl) (fun p e U m0 below meth cd ls C hP hl => ?_)
  have hl : lv_has ls 3 [(0, .ref (a 0))] := hl
  have hq1 := hq.1
  have hq4 := hq.2.2.2.1
  have hq5 := hq.2.2.2.2
  dsimp only at hq1 hq4 hq5
  refine r_aload_n C dX4_kindHere_0 rfl (lv_at hl 0 rfl) ?_
  refine r_cVR0 C m_X4_218 (cM_word hq htp) hP rfl rfl hl.1 dX4_kindHere_1 ?_
  refine r_lstore_n C [(1, .long (lI (wrd tp ta (fr, to, va, iw)))), (0, .ref (a 0))] dX4_kindHere_4 rfl hl (by decide) rfl (fun ls hl => ?_)
  refine r_lload_n C dX4_kindHere_5 rfl (lv_at hl 0 rfl) ?_
  refine r_ldc2 C (441913522) kl_X4_222 (by decide) dX4_kindHere_6 ?_
  refine r_lcmp_ne C (tgt := 17) dX4_kindHere_9 dX4_kindHere_10 (by decide) (by have := wrd_rg tp ta (fr, to, va, iw); exact ⟨by omega, by omega⟩) ⟨by decide, by decide⟩ (fun h1 => ?_) (fun h1 => ?_)
  · refine r_lload_n C dX4_kindHere_17 rfl (lv_at hl 0 rfl) ?_
    refine r_ldc2 C (143891634) kl_X4_224 (by decide) dX4_kindHere_18 ?_
    refine r_lcmp_ne C (tgt := 29) dX4_kindHere_21 dX4_kindHere_22 (by decide) (by have := wrd_rg tp ta (fr, to, va, iw); exact ⟨by omega, by omega⟩) ⟨by decide, by decide⟩ (fun h2 => ?_) (fun h2 => ?_)
    · refine r_lload_n C dX4_kindHere_29 rfl (lv_at hl 0 rfl) ?_
      refine r_ldc2 C (3544651) kl_X4_226 (by decide) dX4_kindHere_30 ?_
      refine r_lcmp_ne C (tgt := 41) dX4_kindHere_33 dX4_kindHere_34 (by decide) (by have := wrd_rg tp ta (fr, to, va, iw); exact ⟨by omega, by omega⟩) ⟨by decide, by decide⟩ (fun h3 => ?_) (fun h3 => ?_)
      · refine r_lload_n C dX4_kindHere_41 rfl (lv_at hl 0 rfl) ?_
        refine r_ldc2 C (86280370) kl_X4_228 (by decide) dX4_kindHere_42 ?_
        refine r_lcmp_ne C (tgt := 53) dX4_kindHere_45 dX4_kindHere_46 (by decide) (by have := wrd_rg tp ta (fr, to, va, iw); exact ⟨by omega, by omega⟩) ⟨by decide, by decide⟩ (fun h4 => ?_) (fun h4 => ?_)
        · refine r_lload_n C dX4_kindHere_53 rfl (lv_at hl 0 rfl) ?_
          refine r_ldc2 C (14145714) kl_X4_230 (by decide) dX4_kindHere_54 ?_
          refine r_lcmp_ne C (tgt := 65) dX4_kindHere_57 dX4_kindHere_58 (by decide) (by have := wrd_rg tp ta (fr, to, va, iw); exact ⟨by omega, by omega⟩) ⟨by decide, by decide⟩ (fun h5 => ?_) (fun h5 => ?_)
          · refine r_lload_n C dX4_kindHere_65 rfl (lv_at hl 0 rfl) ?_
            refine r_ldc2 C (10154068146) kl_X4_232 (by decide) dX4_kindHere_66 ?_
            refine r_lcmp_ne C (tgt := 77) dX4_kindHere_69 dX4_kindHere_70 (by decide) (by have := wrd_rg tp ta (fr, to, va, iw); exact ⟨by omega, by omega⟩) ⟨by decide, by decide⟩ (fun h6 => ?_) (fun h6 => ?_)
            · refine r_iconst C dX4_kindHere_77 ?_
              exact r_iretR C (congrArg iI (by simp only [kdH, h1, h2, h3, h4, h5, h6, not_true_eq_false, not_false_eq_true, and_true, true_and, and_false, false_and, or_true, true_or, or_false, false_or, if_true, if_false, ne_eq, reduceIte])) dX4_kindHere_78
            · refine r_iconst C dX4_kindHere_73 ?_
              refine r_goto C (tgt := 78) dX4_kindHere_74 (by decide) ?_
              exact r_iretR C (congrArg iI (by simp only [kdH, h1, h2, h3, h4, h5, eq_true h6, not_true_eq_false, not_false_eq_true, and_true, true_and, and_false, false_and, or_true, true_or, or_false, false_or, if_true, if_false, ne_eq, reduceIte])) dX4_kindHere_78
          · refine r_iconst C dX4_kindHere_61 ?_
            refine r_goto C (tgt := 78) dX4_kindHere_62 (by decide) ?_
            exact r_iretR C (congrArg iI (by simp only [kdH, h1, h2, h3, h4, eq_true h5, not_true_eq_false, not_false_eq_true, and_true, true_and, and_false, false_and, or_true, true_or, or_false, false_or, if_true, if_false, ne_eq, reduceIte])) dX4_kindHere_78
        · refine r_iconst C dX4_kindHere_49 ?_
          refine r_goto C (tgt := 78) dX4_kindHere_50 (by decide) ?_
          exact r_iretR C (congrArg iI (by simp only [kdH, h1, h2, h3, eq_true h4, not_true_eq_false, not_false_eq_true, and_true, true_and, and_false, false_and, or_true, true_or, or_false, false_or, if_true, if_false, ne_eq, reduceIte])) dX4_kindHere_78
      · refine r_iconst C dX4_kindHere_37 ?_
        refine r_goto C (tgt := 78) dX4_kindHere_38 (by decide) ?_
        exact r_iretR C (congrArg iI (by simp only [kdH, h1, h2, eq_true h3, not_true_eq_false, not_false_eq_true, and_true, true_and, and_false, false_and, or_true, true_or, or_false, false_or, if_true, if_false, ne_eq, reduceIte])) dX4_kindHere_78
    · refine r_iconst C dX4_kindHere_25 ?_
      refine r_goto C (tgt := 78) dX4_kindHere_26 (by decide) ?_
      exact r_iretR C (congrArg iI (by simp only [kdH, h1, eq_true h2, not_true_eq_false, not_false_eq_true, and_true, true_and, and_false, false_and, or_true, true_or, or_false, false_or, if_true, if_false, ne_eq, reduceIte])) dX4_kindHere_78
  · refine r_iconst C dX4_kindHere_13 ?_
    refine r_goto C (tgt := 78) dX4_kindHere_14 (by decide) ?_
    exact r_iretR C (congrArg iI (by simp only [kdH, eq_true h1, not_true_eq_false, not_false_eq_true, and_true, true_and, and_false, false_and, or_true, true_or, or_false, false_or, if_true, if_false, ne_eq, reduceIte])) dX4_kindHere_78
theorem cM_kindHereQ {q : PS} (hq : PI tp ta q) (htp : ∀ i, 0 ≤ tp i ∧ tp i ≤ 255) : MR l yX4_kindHere cX4_kindHere 3 (some .int) 3 68 D k [.ref (a 0)] (wM a k s kp ot sd st sp tp bi si nu mo ik dl tl ta q.1 q.2.1 q.2.2.1 q.2.2.2) (.int (iI (kdH (wrd tp ta q)))) := cM_kindHere (fr := q.1) (to := q.2.1) (va := q.2.2.1) (iw := q.2.2.2) hq htp
set_option maxHeartbeats 4000000 in
set_option maxRecDepth 100000 in
theorem cM_sortHere  (hq : PI tp ta (fr, to, va, iw)) (htp : ∀ i, 0 ≤ tp i ∧ tp i ≤ 255) : MR l yX4_sortHere cX4_sortHere 3 (some .int) 3 68 D k [.ref (a 0)] (wM a k s kp ot sd st sp tp bi si nu mo ik dl tl ta fr to va iw) (.int (iI (srH (wrd tp ta (fr, to, va, iw))))) := by
  refine MR.mk RX4 rfl (by decide +kernel) (Nat.le_of_ble_eq_true rfl) (fun p e U m0 below meth cd ls C hP hl => ?_)
  have hl : lv_has ls 3 [(0, .ref (a 0))] := hl
  have hq1 := hq.1
  have hq4 := hq.2.2.2.1
  have hq5 := hq.2.2.2.2
  dsimp only at hq1 hq4 hq5
  refine r_aload_n C dX4_sortHere_0 rfl (lv_at hl 0 rfl) ?_
  refine r_cVR0 C m_X4_218 (cM_word hq htp) hP rfl rfl hl.1 dX4_sortHere_1 ?_
  refine r_lstore_n C [(1, .long (lI (wrd tp ta (fr, to, va, iw)))), (0, .ref (a 0))] dX4_sortHere_4 rfl hl (by decide) rfl (fun ls hl => ?_)
  refine r_lload_n C dX4_sortHere_5 rfl (lv_at hl 0 rfl) ?_
  refine r_ldc2 C (17171758) kl_X4_234 (by decide) dX4_sortHere_6 ?_
  refine r_lcmp_ne C (tgt := 17) dX4_sortHere_9 dX4_sortHere_10 (by decide) (by have := wrd_rg tp ta (fr, to, va, iw); exact ⟨by omega, by omega⟩) ⟨by decide, by decide⟩ (fun h1 => ?_) (fun h1 => ?_)
  · refine r_lload_n C dX4_sortHere_17 rfl (lv_at hl 0 rfl) ?_
    refine r_ldc2 C (24170674) kl_X4_236 (by decide) dX4_sortHere_18 ?_
    refine r_lcmp_ne C (tgt := 29) dX4_sortHere_21 dX4_sortHere_22 (by decide) (by have := wrd_rg tp ta (fr, to, va, iw); exact ⟨by omega, by omega⟩) ⟨by decide, by decide⟩ (fun h2 => ?_) (fun h2 => ?_)
    · refine r_lload_n C dX4_sortHere_29 rfl (lv_at hl 0 rfl) ?_
      refine r_ldc2 C (769508) kl_X4_238 (by decide) dX4_sortHere_30 ?_
      refine r_lcmp_ne C (tgt := 41) dX4_sortHere_33 dX4_sortHere_34 (by decide) (by have := wrd_rg tp ta (fr, to, va, iw); exact ⟨by omega, by omega⟩) ⟨by decide, by decide⟩ (fun h3 => ?_) (fun h3 => ?_)
      · refine r_lload_n C dX4_sortHere_41 rfl (lv_at hl 0 rfl) ?_
        refine r_ldc2 C (23937287397) kl_X4_240 (by decide) dX4_sortHere_42 ?_
        refine r_lcmp_ne C (tgt := 53) dX4_sortHere_45 dX4_sortHere_46 (by decide) (by have := wrd_rg tp ta (fr, to, va, iw); exact ⟨by omega, by omega⟩) ⟨by decide, by decide⟩ (fun h4 => ?_) (fun h4 => ?_)
        · refine r_lload_n C dX4_sortHere_53 rfl (lv_at hl 0 rfl) ?_
          refine r_ldc2 C (271756) kl_X4_242 (by decide) dX4_sortHere_54 ?_
          refine r_lcmp_ne C (tgt := 65) dX4_sortHere_57 dX4_sortHere_58 (by decide) (by have := wrd_rg tp ta (fr, to, va, iw); exact ⟨by omega, by omega⟩) ⟨by decide, by decide⟩ (fun h5 => ?_) (fun h5 => ?_)
          · refine r_lload_n C dX4_sortHere_65 rfl (lv_at hl 0 rfl) ?_
            refine r_ldc2 C (605220) kl_X4_244 (by decide) dX4_sortHere_66 ?_
            refine r_lcmp_ne C (tgt := 77) dX4_sortHere_69 dX4_sortHere_70 (by decide) (by have := wrd_rg tp ta (fr, to, va, iw); exact ⟨by omega, by omega⟩) ⟨by decide, by decide⟩ (fun h6 => ?_) (fun h6 => ?_)
            · refine r_iconst C dX4_sortHere_77 ?_
              exact r_iretR C (congrArg iI (by simp only [srH, h1, h2, h3, h4, h5, h6, not_true_eq_false, not_false_eq_true, and_true, true_and, and_false, false_and, or_true, true_or, or_false, false_or, if_true, if_false, ne_eq, reduceIte])) dX4_sortHere_78
            · refine r_iconst C dX4_sortHere_73 ?_
              refine r_goto C (tgt := 78) dX4_sortHere_74 (by decide) ?_
              exact r_iretR C (congrArg iI (by simp only [srH, h1, h2, h3, h4, h5, eq_true h6, not_true_eq_false, not_false_eq_true, and_true, true_and, and_false, false_and, or_true, true_or, or_false, false_or, if_true, if_false, ne_eq, reduceIte])) dX4_sortHere_78
          · refine r_iconst C dX4_sortHere_61 ?_
            refine r_goto C (tgt := 78) dX4_sortHere_62 (by decide) ?_
            exact r_iretR C (congrArg iI (by simp only [srH, h1, h2, h3, h4, eq_true h5, not_true_eq_false, not_false_eq_true, and_true, true_and, and_false, false_and, or_true, true_or, or_false, false_or, if_true, if_false, ne_eq, reduceIte])) dX4_sortHere_78
        · refine r_iconst C dX4_sortHere_49 ?_
          refine r_goto C (tgt := 78) dX4_sortHere_50 (by decide) ?_
          exact r_iretR C (congrArg iI (by simp only [srH, h1, h2, h3, eq_true h4, not_true_eq_false, not_false_eq_true, and_true, true_and, and_false, false_and, or_true, true_or, or_false, false_or, if_true, if_false, ne_eq, reduceIte])) dX4_sortHere_78
      · refine r_iconst C dX4_sortHere_37 ?_
        refine r_goto C (tgt := 78) dX4_sortHere_38 (by decide) ?_
        exact r_iretR C (congrArg iI (by simp only [srH, h1, h2, eq_true h3, not_true_eq_false, not_false_eq_true, and_true, true_and, and_false, false_and, or_true, true_or, or_false, false_or, if_true, if_false, ne_eq, reduceIte])) dX4_sortHere_78
    · refine r_iconst C dX4_sortHere_25 ?_
      refine r_goto C (tgt := 78) dX4_sortHere_26 (by decide) ?_
      exact r_iretR C (congrArg iI (by simp only [srH, h1, eq_true h2, not_true_eq_false, not_false_eq_true, and_true, true_and, and_false, false_and, or_true, true_or, or_false, false_or, if_true, if_false, ne_eq, reduceIte])) dX4_sortHere_78
  · refine r_iconst C dX4_sortHere_13 ?_
    refine r_goto C (tgt := 78) dX4_sortHere_14 (by decide) ?_
    exact r_iretR C (congrArg iI (by simp only [srH, eq_true h1, not_true_eq_false, not_false_eq_true, and_true, true_and, and_false, false_and, or_true, true_or, or_false, false_or, if_true, if_false, ne_eq, reduceIte])) dX4_sortHere_78
theorem cM_sortHereQ {q : PS} (hq : PI tp ta q) (htp : ∀ i, 0 ≤ tp i ∧ tp i ≤ 255) : MR l yX4_sortHere cX4_sortHere 3 (some .int) 3 68 D k [.ref (a 0)] (wM a k s kp ot sd st sp tp bi si nu mo ik dl tl ta q.1 q.2.1 q.2.2.1 q.2.2.2) (.int (iI (srH (wrd tp ta q)))) := cM_sortHere (fr := q.1) (to := q.2.1) (va := q.2.2.1) (iw := q.2.2.2) hq htp
end MODEL
