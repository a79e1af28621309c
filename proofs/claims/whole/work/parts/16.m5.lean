section MODEL
variable {l : Launch} {D : va_G} {k : Nat → ClassId} {a : Nat → Nat} {s kp ot sd st sp tp bi si : Int → Int} {nu mo : Int → Int64} {ik dl tl ta fr to va iw : Int}
set_option maxHeartbeats 4000000 in
set_option maxRecDepth 100000 in
theorem cM_isUnder {kd : Int} {o : Int} (hkd : 0 ≤ kd) (hkd1 : kd < 100000) (zo : In32 o) : MR l yX4_isUnder cX4_isUnder 2 (some .boolean) 0 0 D k [.int (iI kd), .int (iI o)] [] (.int (iB (o = 0 ∨ kd = o ∨ (3 < kd ∧ kd - 3 = o)))) := by
  refine MR.mk RX4 rfl (by decide +kernel) (Nat.le_of_ble_eq_true rfl) (fun p e U m0 below meth cd ls C hP hl => ?_)
  have hl : lv_has ls 2 [(0, .int (iI kd)), (1, .int (iI o))] := hl
  have zo1 := zo.1
  have zo2 := zo.2
  refine r_iload_n C dX4_isUnder_0 rfl (lv_at hl 1 rfl) ?_
  refine r_if_eq C (tgt := 21) dX4_isUnder_1 (by decide) (by exact ⟨by omega, by omega⟩) (fun h1 => ?_) (fun h1 => ?_)
  · refine r_iconst C dX4_isUnder_21 ?_
    refine r_goto C (tgt := 26) dX4_isUnder_22 (by decide) ?_
    exact r_zretR C (iB1 (by omega)) dX4_isUnder_26
  · refine r_iload_n C dX4_isUnder_4 rfl (lv_at hl 0 rfl) ?_
    refine r_iload_n C dX4_isUnder_5 rfl (lv_at hl 1 rfl) ?_
    refine r_icmp_eq C (tgt := 21) dX4_isUnder_6 (by decide) (by exact ⟨by omega, by omega⟩) (by exact ⟨by omega, by omega⟩) (fun h2 => ?_) (fun h2 => ?_)
    · refine r_iconst C dX4_isUnder_21 ?_
      refine r_goto C (tgt := 26) dX4_isUnder_22 (by decide) ?_
      exact r_zretR C (iB1 (by omega)) dX4_isUnder_26
    · refine r_iload_n C dX4_isUnder_9 rfl (lv_at hl 0 rfl) ?_
      refine r_iconst C dX4_isUnder_10 ?_
      refine r_icmp_le C (tgt := 25) dX4_isUnder_11 (by decide) (by exact ⟨by omega, by omega⟩) ⟨by decide, by decide⟩ (fun h3 => ?_) (fun h3 => ?_)
      · refine r_iconst C dX4_isUnder_25 ?_
        exact r_zretR C (iB0 (by omega)) dX4_isUnder_26
      · refine r_iload_n C dX4_isUnder_14 rfl (lv_at hl 0 rfl) ?_
        refine r_iconst C dX4_isUnder_15 ?_
        refine r_isub C dX4_isUnder_16 ?_
        refine r_iload_n C dX4_isUnder_17 rfl (lv_at hl 1 rfl) ?_
        refine r_icmp_ne C (tgt := 25) dX4_isUnder_18 (by decide) (by exact ⟨by omega, by omega⟩) (by exact ⟨by omega, by omega⟩) (fun h4 => ?_) (fun h4 => ?_)
        · refine r_iconst C dX4_isUnder_25 ?_
          exact r_zretR C (iB0 (by omega)) dX4_isUnder_26
        · refine r_iconst C dX4_isUnder_21 ?_
          refine r_goto C (tgt := 26) dX4_isUnder_22 (by decide) ?_
          exact r_zretR C (iB1 (by omega)) dX4_isUnder_26
set_option maxHeartbeats 4000000 in
set_option maxRecDepth 100000 in
theorem cM_draw {c : Int} {w : Int} {v : Int} (zc : In32 c) (zw : In32 w) (zv : In32 v) (hs : Ok s) : ME l yX4_draw cX4_draw 4 (some .int) 2 45 D k [.ref (a 0), .int (iI c), .int (iI w), .int (iI v)] (wM a k s kp ot sd st sp tp bi si nu mo ik (-1) tl ta fr to va iw) (fun x : (Int → Int) × (Int → Int) × (Int → Int) × (Int → Int64) × Int => wM a k ((fDraw s st c w v).2.1) kp x.1 x.2.1 ((fDraw s st c w v).2.2) x.2.2.1 tp bi si nu x.2.2.2.1 ik (-1) x.2.2.2.2 ta fr to va iw) (some (.int (iI ((fDraw s st c w v).1)))) := by
  refine ME.mk RX4 rfl (by decide +kernel) (Nat.le_of_ble_eq_true rfl) (fun p e U m0 below meth cd ls C hP hD hS hl => ?_)
  have hl : lv_has ls 4 [(0, .ref (a 0)), (1, .int (iI c)), (2, .int (iI w)), (3, .int (iI v))] := hl
  have zc1 := zc.1
  have zc2 := zc.2
  have zw1 := zw.1
  have zw2 := zw.2
  have zv1 := zv.1
  have zv2 := zv.2
  have h00 := hs.1 0 (by decide)
  have h06 := hs.2.2.1
  refine r_iload_n C dX4_draw_0 rfl (lv_at hl 1 rfl) ?_
  refine r_cSR1 C m_X4_68 (cM_isCell (by exact ⟨by omega, by omega⟩)) pn0 hl.1 dX4_draw_1 ?_
  refine r_ifB_eq C (tgt := 49) dX4_draw_4 (by decide) (fun h1 => ?_) (fun h1 => ?_)
  · refine r_aload_n C dX4_draw_49 rfl (lv_at hl 0 rfl) ?_
    refine r_ldc C (-1000000001) ki_X4_48 (by decide) dX4_draw_50 ?_
    refine r_cVW1 C m_X4_74 (cM_finds (by omega) (by omega)) hP hD hS [0, 1, 2, 3, 4, 5, 6, 7, 8, 9, 10, 11] (wM a k s kp ot sd (fnd st (-1000000001)) sp tp bi si nu mo ik (-1) tl ta fr to va iw) rfl rfl rfl rfl rfl rfl rfl hl.1 dX4_draw_52 (fun H locs hP hD hS => ?_)
    exact r_iretE C hP hS (ot, sd, sp, mo, tl) (by first | (simp only [fDraw, fD, fV, h1, not_true_eq_false, not_false_eq_true, and_true, true_and, and_false, false_and, or_true, true_or, or_false, false_or, if_true, if_false, ne_eq, reduceIte]; done) | (exfalso; omega)) (by first | (simp only [fDraw, fD, fV, h1, not_true_eq_false, not_false_eq_true, and_true, true_and, and_false, false_and, or_true, true_or, or_false, false_or, if_true, if_false, ne_eq, reduceIte]; done) | (exfalso; omega)) dX4_draw_55
  · refine r_iload_n C dX4_draw_7 rfl (lv_at hl 2 rfl) ?_
    refine r_i2l C dX4_draw_8 (by exact ⟨by omega, by omega⟩) ?_
    refine r_lconst C (z := 0) dX4_draw_9 (by decide) ?_
    refine r_lconst C (z := 1) dX4_draw_10 (by decide) ?_
    refine r_cSR3 C m_X4_51 (cM_in (by exact ⟨by omega, by omega⟩) ⟨by decide, by decide⟩ ⟨by decide, by decide⟩) pn0 hl.1 dX4_draw_11 ?_
    refine r_ifB_eq C (tgt := 49) dX4_draw_14 (by decide) (fun h2 => ?_) (fun h2 => ?_)
    · refine r_aload_n C dX4_draw_49 rfl (lv_at hl 0 rfl) ?_
      refine r_ldc C (-1000000001) ki_X4_48 (by decide) dX4_draw_50 ?_
      refine r_cVW1 C m_X4_74 (cM_finds (by omega) (by omega)) hP hD hS [0, 1, 2, 3, 4, 5, 6, 7, 8, 9, 10, 11] (wM a k s kp ot sd (fnd st (-1000000001)) sp tp bi si nu mo ik (-1) tl ta fr to va iw) rfl rfl rfl rfl rfl rfl rfl hl.1 dX4_draw_52 (fun H locs hP hD hS => ?_)
      exact r_iretE C hP hS (ot, sd, sp, mo, tl) (by first | (simp only [fDraw, fD, fV, h1, h2, not_true_eq_false, not_false_eq_true, and_true, true_and, and_false, false_and, or_true, true_or, or_false, false_or, if_true, if_false, ne_eq, reduceIte]; done) | (exfalso; omega)) (by first | (simp only [fDraw, fD, fV, h1, h2, not_true_eq_false, not_false_eq_true, and_true, true_and, and_false, false_and, or_true, true_or, or_false, false_or, if_true, if_false, ne_eq, reduceIte]; done) | (exfalso; omega)) dX4_draw_55
    · refine r_iload_n C dX4_draw_17 rfl (lv_at hl 3 rfl) ?_
      refine r_i2l C dX4_draw_18 (by exact ⟨by omega, by omega⟩) ?_
      refine r_lconst C (z := 0) dX4_draw_19 (by decide) ?_
      refine r_ldc2 C (5) kl_X4_55 (by decide) dX4_draw_20 ?_
      refine r_cSR3 C m_X4_51 (cM_in (by exact ⟨by omega, by omega⟩) ⟨by decide, by decide⟩ ⟨by decide, by decide⟩) pn0 hl.1 dX4_draw_23 ?_
      refine r_ifB_eq C (tgt := 49) dX4_draw_26 (by decide) (fun h3 => ?_) (fun h3 => ?_)
      · refine r_aload_n C dX4_draw_49 rfl (lv_at hl 0 rfl) ?_
        refine r_ldc C (-1000000001) ki_X4_48 (by decide) dX4_draw_50 ?_
        refine r_cVW1 C m_X4_74 (cM_finds (by omega) (by omega)) hP hD hS [0, 1, 2, 3, 4, 5, 6, 7, 8, 9, 10, 11] (wM a k s kp ot sd (fnd st (-1000000001)) sp tp bi si nu mo ik (-1) tl ta fr to va iw) rfl rfl rfl rfl rfl rfl rfl hl.1 dX4_draw_52 (fun H locs hP hD hS => ?_)
        exact r_iretE C hP hS (ot, sd, sp, mo, tl) (by first | (simp only [fDraw, fD, fV, h1, h2, h3, not_true_eq_false, not_false_eq_true, and_true, true_and, and_false, false_and, or_true, true_or, or_false, false_or, if_true, if_false, ne_eq, reduceIte]; done) | (exfalso; omega)) (by first | (simp only [fDraw, fD, fV, h1, h2, h3, not_true_eq_false, not_false_eq_true, and_true, true_and, and_false, false_and, or_true, true_or, or_false, false_or, if_true, if_false, ne_eq, reduceIte]; done) | (exfalso; omega)) dX4_draw_55
      · refine r_aload_n C dX4_draw_29 rfl (lv_at hl 0 rfl) ?_
        refine r_iload_n C dX4_draw_30 rfl (lv_at hl 2 rfl) ?_
        refine r_if_ne C (tgt := 38) dX4_draw_31 (by decide) (by exact ⟨by omega, by omega⟩) (fun h4 => ?_) (fun h4 => ?_)
        · refine r_bipush C dX4_draw_38 (by decide) ?_
          refine r_iload_n C dX4_draw_40 rfl (lv_at hl 1 rfl) ?_
          refine r_iadd C dX4_draw_41 ?_
          refine r_iload_n C dX4_draw_42 rfl (lv_at hl 3 rfl) ?_
          refine r_cVW2 C m_X4_71 (cM_becomes (by omega) (by omega)) hP hD hS [0, 1, 2, 3, 4, 5, 6, 7, 8, 9, 10, 11] (wM a k (up s (51 + c) v) kp ot sd st sp tp bi si nu mo ik (-1) tl ta fr to va iw) rfl rfl rfl rfl rfl rfl rfl hl.1 dX4_draw_43 (fun H locs hP hD hS => ?_)
          refine r_goto C (tgt := 55) dX4_draw_46 (by decide) ?_
          exact r_iretE C hP hS (ot, sd, sp, mo, tl) (by first | (simp only [fDraw, fD, fV, h1, h2, h3, h4, not_true_eq_false, not_false_eq_true, and_true, true_and, and_false, false_and, or_true, true_or, or_false, false_or, if_true, if_false, ne_eq, reduceIte]; done) | (exfalso; omega)) (by first | (simp only [fDraw, fD, fV, h1, h2, h3, h4, not_true_eq_false, not_false_eq_true, and_true, true_and, and_false, false_and, or_true, true_or, or_false, false_or, if_true, if_false, ne_eq, reduceIte]; done) | (exfalso; omega)) dX4_draw_55
        · refine r_iconst C dX4_draw_34 ?_
          refine r_goto C (tgt := 40) dX4_draw_35 (by decide) ?_
          refine r_iload_n C dX4_draw_40 rfl (lv_at hl 1 rfl) ?_
          refine r_iadd C dX4_draw_41 ?_
          refine r_iload_n C dX4_draw_42 rfl (lv_at hl 3 rfl) ?_
          refine r_cVW2 C m_X4_71 (cM_becomes (by omega) (by omega)) hP hD hS [0, 1, 2, 3, 4, 5, 6, 7, 8, 9, 10, 11] (wM a k (up s (3 + c) v) kp ot sd st sp tp bi si nu mo ik (-1) tl ta fr to va iw) rfl rfl rfl rfl rfl rfl rfl hl.1 dX4_draw_43 (fun H locs hP hD hS => ?_)
          refine r_goto C (tgt := 55) dX4_draw_46 (by decide) ?_
          exact r_iretE C hP hS (ot, sd, sp, mo, tl) (by first | (simp only [fDraw, fD, fV, h1, h2, h3, eq_true h4, not_true_eq_false, not_false_eq_true, and_true, true_and, and_false, false_and, or_true, true_or, or_false, false_or, if_true, if_false, ne_eq, reduceIte]; done) | (exfalso; omega)) (by first | (simp only [fDraw, fD, fV, h1, h2, h3, eq_true h4, not_true_eq_false, not_false_eq_true, and_true, true_and, and_false, false_and, or_true, true_or, or_false, false_or, if_true, if_false, ne_eq, reduceIte]; done) | (exfalso; omega)) dX4_draw_55
set_option maxHeartbeats 4000000 in
set_option maxRecDepth 100000 in
theorem cM_cell {c : Int} {w : Int} (zc : In32 c) (zw : In32 w) (hs : Ok s) : ME l yX4_cell cX4_cell 3 (some .int) 3 66 D k [.ref (a 0), .int (iI c), .int (iI w)] (wM a k s kp ot sd st sp tp bi si nu mo ik (-1) tl ta fr to va iw) (fun x : (Int → Int) × (Int → Int) × (Int → Int) × (Int → Int64) × Int => wM a k ((fCell s st c w).2.1) kp x.1 x.2.1 ((fCell s st c w).2.2) x.2.2.1 tp bi si nu x.2.2.2.1 ik (-1) x.2.2.2.2 ta fr to va iw) (some (.int (iI ((fCell s st c w).1)))) := by
  refine ME.mk RX4 rfl (by decide +kernel) (Nat.le_of_ble_eq_true rfl) (fun p e U m0 below meth cd ls C hP hD hS hl => ?_)
  have hl : lv_has ls 3 [(0, .ref (a 0)), (1, .int (iI c)), (2, .int (iI w))] := hl
  have zc1 := zc.1
  have zc2 := zc.2
  have zw1 := zw.1
  have zw2 := zw.2
  have h00 := hs.1 0 (by decide)
  have h06 := hs.2.2.1
  refine r_iload_n C dX4_cell_0 rfl (lv_at hl 1 rfl) ?_
  refine r_cSR1 C m_X4_68 (cM_isCell (by exact ⟨by omega, by omega⟩)) pn0 hl.1 dX4_cell_1 ?_
  refine r_ifB_eq C (tgt := 19) dX4_cell_4 (by decide) (fun h1 => ?_) (fun h1 => ?_)
  · refine r_aload_n C dX4_cell_19 rfl (lv_at hl 0 rfl) ?_
    refine r_ldc C (-1000000001) ki_X4_48 (by decide) dX4_cell_20 ?_
    refine r_cVW1 C m_X4_74 (cM_finds (by omega) (by omega)) hP hD hS [0, 1, 2, 3, 4, 5, 6, 7, 8, 9, 10, 11] (wM a k s kp ot sd (fnd st (-1000000001)) sp tp bi si nu mo ik (-1) tl ta fr to va iw) rfl rfl rfl rfl rfl rfl rfl hl.1 dX4_cell_22 (fun H locs hP hD hS => ?_)
    exact r_iretE C hP hS (ot, sd, sp, mo, tl) (by first | (simp only [fCell, fD, fV, h1, not_true_eq_false, not_false_eq_true, and_true, true_and, and_false, false_and, or_true, true_or, or_false, false_or, if_true, if_false, ne_eq, reduceIte]; done) | (exfalso; omega)) (by first | (simp only [fCell, fD, fV, h1, not_true_eq_false, not_false_eq_true, and_true, true_and, and_false, false_and, or_true, true_or, or_false, false_or, if_true, if_false, ne_eq, reduceIte]; done) | (exfalso; omega)) dX4_cell_25
  · refine r_iload_n C dX4_cell_7 rfl (lv_at hl 2 rfl) ?_
    refine r_i2l C dX4_cell_8 (by exact ⟨by omega, by omega⟩) ?_
    refine r_lconst C (z := 0) dX4_cell_9 (by decide) ?_
    refine r_ldc2 C (4) kl_X4_78 (by decide) dX4_cell_10 ?_
    refine r_cSR3 C m_X4_51 (cM_in (by exact ⟨by omega, by omega⟩) ⟨by decide, by decide⟩ ⟨by decide, by decide⟩) pn0 hl.1 dX4_cell_13 ?_
    refine r_ifB_ne C (tgt := 26) dX4_cell_16 (by decide) (fun h2 => ?_) (fun h2 => ?_)
    · refine r_iload_n C dX4_cell_26 rfl (lv_at hl 2 rfl) ?_
      by_cases h3 : w = 0
      · refine r_tableIn C (0) h3 dX4_cell_27 (by decide) (by decide) rfl (tgt := 56) (by decide) ?_
        refine r_aload_n C dX4_cell_56 rfl (lv_at hl 0 rfl) ?_
        refine g_X4_7 C hP 0 rfl rfl dX4_cell_57 ?_
        refine r_iconst C dX4_cell_60 ?_
        refine r_iload_n C dX4_cell_61 rfl (lv_at hl 1 rfl) ?_
        refine r_iadd C dX4_cell_62 ?_
        refine r_iald C hP 1 rfl dX4_cell_63 (by omega) (by omega) (by decide) ?_
        exact r_iretE C hP hS (ot, sd, sp, mo, tl) (by first | (simp only [fCell, fD, fV, h1, h2, eq_true h3, not_true_eq_false, not_false_eq_true, and_true, true_and, and_false, false_and, or_true, true_or, or_false, false_or, if_true, if_false, ne_eq, reduceIte]; done) | (exfalso; omega)) (by first | (simp only [fCell, fD, fV, h1, h2, eq_true h3, not_true_eq_false, not_false_eq_true, and_true, true_and, and_false, false_and, or_true, true_or, or_false, false_or, if_true, if_false, ne_eq, reduceIte]; done) | (exfalso; omega)) dX4_cell_64
      by_cases h4 : w = 1
      · refine r_tableIn C (1) h4 dX4_cell_27 (by decide) (by decide) rfl (tgt := 65) (by decide) ?_
        refine r_aload_n C dX4_cell_65 rfl (lv_at hl 0 rfl) ?_
        refine g_X4_7 C hP 0 rfl rfl dX4_cell_66 ?_
        refine r_bipush C dX4_cell_69 (by decide) ?_
        refine r_iload_n C dX4_cell_71 rfl (lv_at hl 1 rfl) ?_
        refine r_iadd C dX4_cell_72 ?_
        refine r_iald C hP 1 rfl dX4_cell_73 (by omega) (by omega) (by decide) ?_
        exact r_iretE C hP hS (ot, sd, sp, mo, tl) (by first | (simp only [fCell, fD, fV, h1, h2, h3, eq_true h4, not_true_eq_false, not_false_eq_true, and_true, true_and, and_false, false_and, or_true, true_or, or_false, false_or, if_true, if_false, ne_eq, reduceIte]; done) | (exfalso; omega)) (by first | (simp only [fCell, fD, fV, h1, h2, h3, eq_true h4, not_true_eq_false, not_false_eq_true, and_true, true_and, and_false, false_and, or_true, true_or, or_false, false_or, if_true, if_false, ne_eq, reduceIte]; done) | (exfalso; omega)) dX4_cell_74
      by_cases h5 : w = 2
      · refine r_tableIn C (2) h5 dX4_cell_27 (by decide) (by decide) rfl (tgt := 75) (by decide) ?_
        refine r_aload_n C dX4_cell_75 rfl (lv_at hl 0 rfl) ?_
        refine r_iload_n C dX4_cell_76 rfl (lv_at hl 1 rfl) ?_
        refine r_cVR1 C m_X4_61 (cM_isUntrue (by omega) (by omega) hs) hP rfl rfl hl.1 dX4_cell_77 ?_
        refine r_ifB_eq C (tgt := 87) dX4_cell_80 (by decide) (fun h6 => ?_) (fun h6 => ?_)
        · refine r_iconst C dX4_cell_87 ?_
          exact r_iretE C hP hS (ot, sd, sp, mo, tl) (by first | (simp only [fCell, fD, fV, h1, h2, h3, h4, eq_true h5, h6, not_true_eq_false, not_false_eq_true, and_true, true_and, and_false, false_and, or_true, true_or, or_false, false_or, if_true, if_false, ne_eq, reduceIte]; done) | (exfalso; omega)) (by first | (simp only [fCell, fD, fV, h1, h2, h3, h4, eq_true h5, h6, not_true_eq_false, not_false_eq_true, and_true, true_and, and_false, false_and, or_true, true_or, or_false, false_or, if_true, if_false, ne_eq, reduceIte]; done) | (exfalso; omega)) dX4_cell_88
        · refine r_iconst C dX4_cell_83 ?_
          refine r_goto C (tgt := 88) dX4_cell_84 (by decide) ?_
          exact r_iretE C hP hS (ot, sd, sp, mo, tl) (by first | (simp only [fCell, fD, fV, h1, h2, h3, h4, eq_true h5, h6, not_true_eq_false, not_false_eq_true, and_true, true_and, and_false, false_and, or_true, true_or, or_false, false_or, if_true, if_false, ne_eq, reduceIte]; done) | (exfalso; omega)) (by first | (simp only [fCell, fD, fV, h1, h2, h3, h4, eq_true h5, h6, not_true_eq_false, not_false_eq_true, and_true, true_and, and_false, false_and, or_true, true_or, or_false, false_or, if_true, if_false, ne_eq, reduceIte]; done) | (exfalso; omega)) dX4_cell_88
      by_cases h7 : w = 3
      · refine r_tableIn C (3) h7 dX4_cell_27 (by decide) (by decide) rfl (tgt := 89) (by decide) ?_
        refine r_aload_n C dX4_cell_89 rfl (lv_at hl 0 rfl) ?_
        refine r_iload_n C dX4_cell_90 rfl (lv_at hl 1 rfl) ?_
        refine r_cVR1 C m_X4_80 (cM_wrongBeside (by omega) (by omega) hs) hP rfl rfl hl.1 dX4_cell_91 ?_
        exact r_iretE C hP hS (ot, sd, sp, mo, tl) (by first | (simp only [fCell, fD, fV, h1, h2, h3, h4, h5, eq_true h7, not_true_eq_false, not_false_eq_true, and_true, true_and, and_false, false_and, or_true, true_or, or_false, false_or, if_true, if_false, ne_eq, reduceIte]; done) | (exfalso; omega)) (by first | (simp only [fCell, fD, fV, h1, h2, h3, h4, h5, eq_true h7, not_true_eq_false, not_false_eq_true, and_true, true_and, and_false, false_and, or_true, true_or, or_false, false_or, if_true, if_false, ne_eq, reduceIte]; done) | (exfalso; omega)) dX4_cell_94
      refine r_tableOut C dX4_cell_27 (by exact ⟨by omega, by omega⟩) (by omega) (tgt := 95) (by decide) ?_
      refine r_aload_n C dX4_cell_95 rfl (lv_at hl 0 rfl) ?_
      refine r_iload_n C dX4_cell_96 rfl (lv_at hl 1 rfl) ?_
      refine r_cVR1 C m_X4_83 (cM_thoseAt (by omega) (by omega) hs) hP rfl rfl hl.1 dX4_cell_97 ?_
      exact r_iretE C hP hS (ot, sd, sp, mo, tl) (by first | (simp only [fCell, fD, fV, h1, h2, h3, h4, h5, h7, not_true_eq_false, not_false_eq_true, and_true, true_and, and_false, false_and, or_true, true_or, or_false, false_or, if_true, if_false, ne_eq, reduceIte]; done) | (exfalso; omega)) (by first | (simp only [fCell, fD, fV, h1, h2, h3, h4, h5, h7, not_true_eq_false, not_false_eq_true, and_true, true_and, and_false, false_and, or_true, true_or, or_false, false_or, if_true, if_false, ne_eq, reduceIte]; done) | (exfalso; omega)) dX4_cell_100
    · refine r_aload_n C dX4_cell_19 rfl (lv_at hl 0 rfl) ?_
      refine r_ldc C (-1000000001) ki_X4_48 (by decide) dX4_cell_20 ?_
      refine r_cVW1 C m_X4_74 (cM_finds (by omega) (by omega)) hP hD hS [0, 1, 2, 3, 4, 5, 6, 7, 8, 9, 10, 11] (wM a k s kp ot sd (fnd st (-1000000001)) sp tp bi si nu mo ik (-1) tl ta fr to va iw) rfl rfl rfl rfl rfl rfl rfl hl.1 dX4_cell_22 (fun H locs hP hD hS => ?_)
      exact r_iretE C hP hS (ot, sd, sp, mo, tl) (by first | (simp only [fCell, fD, fV, h1, h2, not_true_eq_false, not_false_eq_true, and_true, true_and, and_false, false_and, or_true, true_or, or_false, false_or, if_true, if_false, ne_eq, reduceIte]; done) | (exfalso; omega)) (by first | (simp only [fCell, fD, fV, h1, h2, not_true_eq_false, not_false_eq_true, and_true, true_and, and_false, false_and, or_true, true_or, or_false, false_or, if_true, if_false, ne_eq, reduceIte]; done) | (exfalso; omega)) dX4_cell_25
set_option maxHeartbeats 4000000 in
set_option maxRecDepth 100000 in
theorem cM_income {v : Int} (zv : In32 v) (hs : Ok s) : ME l yX4_income cX4_income 2 (some .int) 1 25 D k [.ref (a 0), .int (iI v)] (wM a k s kp ot sd st sp tp bi si nu mo ik (-1) tl ta fr to va iw) (fun x : (Int → Int) × (Int → Int) × (Int → Int) × (Int → Int64) × Int => wM a k ((fIncome s st v).2.1) kp x.1 x.2.1 ((fIncome s st v).2.2) x.2.2.1 tp bi si nu x.2.2.2.1 ik (-1) x.2.2.2.2 ta fr to va iw) (some (.int (iI ((fIncome s st v).1)))) := by
  refine ME.mk RX4 rfl (by decide +kernel) (Nat.le_of_ble_eq_true rfl) (fun p e U m0 below meth cd ls C hP hD hS hl => ?_)
  have hl : lv_has ls 2 [(0, .ref (a 0)), (1, .int (iI v))] := hl
  have zv1 := zv.1
  have zv2 := zv.2
  have h00 := hs.1 0 (by decide)
  have h06 := hs.2.2.1
  refine r_iload_n C dX4_income_0 rfl (lv_at hl 1 rfl) ?_
  refine r_i2l C dX4_income_1 (by exact ⟨by omega, by omega⟩) ?_
  refine r_lconst C (z := 0) dX4_income_2 (by decide) ?_
  refine r_ldc2 C (20) kl_X4_91 (by decide) dX4_income_3 ?_
  refine r_cSR3 C m_X4_51 (cM_in (by exact ⟨by omega, by omega⟩) ⟨by decide, by decide⟩ ⟨by decide, by decide⟩) pn0 hl.1 dX4_income_6 ?_
  refine r_ifB_eq C (tgt := 21) dX4_income_9 (by decide) (fun h1 => ?_) (fun h1 => ?_)
  · refine r_aload_n C dX4_income_21 rfl (lv_at hl 0 rfl) ?_
    refine r_ldc C (-1000000001) ki_X4_48 (by decide) dX4_income_22 ?_
    refine r_cVW1 C m_X4_74 (cM_finds (by omega) (by omega)) hP hD hS [0, 1, 2, 3, 4, 5, 6, 7, 8, 9, 10, 11] (wM a k s kp ot sd (fnd st (-1000000001)) sp tp bi si nu mo ik (-1) tl ta fr to va iw) rfl rfl rfl rfl rfl rfl rfl hl.1 dX4_income_24 (fun H locs hP hD hS => ?_)
    exact r_iretE C hP hS (ot, sd, sp, mo, tl) (by first | (simp only [fIncome, fD, fV, h1, not_true_eq_false, not_false_eq_true, and_true, true_and, and_false, false_and, or_true, true_or, or_false, false_or, if_true, if_false, ne_eq, reduceIte]; done) | (exfalso; omega)) (by first | (simp only [fIncome, fD, fV, h1, not_true_eq_false, not_false_eq_true, and_true, true_and, and_false, false_and, or_true, true_or, or_false, false_or, if_true, if_false, ne_eq, reduceIte]; done) | (exfalso; omega)) dX4_income_27
  · refine r_aload_n C dX4_income_12 rfl (lv_at hl 0 rfl) ?_
    refine r_iconst C dX4_income_13 ?_
    refine r_iload_n C dX4_income_14 rfl (lv_at hl 1 rfl) ?_
    refine r_cVW2 C m_X4_71 (cM_becomes (by omega) (by omega)) hP hD hS [0, 1, 2, 3, 4, 5, 6, 7, 8, 9, 10, 11] (wM a k (up s 2 v) kp ot sd st sp tp bi si nu mo ik (-1) tl ta fr to va iw) rfl rfl rfl rfl rfl rfl rfl hl.1 dX4_income_15 (fun H locs hP hD hS => ?_)
    refine r_goto C (tgt := 27) dX4_income_18 (by decide) ?_
    exact r_iretE C hP hS (ot, sd, sp, mo, tl) (by first | (simp only [fIncome, fD, fV, h1, not_true_eq_false, not_false_eq_true, and_true, true_and, and_false, false_and, or_true, true_or, or_false, false_or, if_true, if_false, ne_eq, reduceIte]; done) | (exfalso; omega)) (by first | (simp only [fIncome, fD, fV, h1, not_true_eq_false, not_false_eq_true, and_true, true_and, and_false, false_and, or_true, true_or, or_false, false_or, if_true, if_false, ne_eq, reduceIte]; done) | (exfalso; omega)) dX4_income_27
set_option maxHeartbeats 4000000 in
set_option maxRecDepth 100000 in
theorem cM_mender {kd : Int} {c : Int} (zkd : In32 kd) (zc : In32 c) (hs : Ok s) : ME l yX4_mender cX4_mender 3 (some .int) 2 45 D k [.ref (a 0), .int (iI kd), .int (iI c)] (wM a k s kp ot sd st sp tp bi si nu mo ik (-1) tl ta fr to va iw) (fun x : (Int → Int) × (Int → Int) × (Int → Int) × (Int → Int64) × Int => wM a k ((fMender s st kd c).2.1) kp x.1 x.2.1 ((fMender s st kd c).2.2) x.2.2.1 tp bi si nu x.2.2.2.1 ik (-1) x.2.2.2.2 ta fr to va iw) (some (.int (iI ((fMender s st kd c).1)))) := by
  refine ME.mk RX4 rfl (by decide +kernel) (Nat.le_of_ble_eq_true rfl) (fun p e U m0 below meth cd ls C hP hD hS hl => ?_)
  have hl : lv_has ls 3 [(0, .ref (a 0)), (1, .int (iI kd)), (2, .int (iI c))] := hl
  have zkd1 := zkd.1
  have zkd2 := zkd.2
  have zc1 := zc.1
  have zc2 := zc.2
  have h00 := hs.1 0 (by decide)
  have h06 := hs.2.2.1
  refine r_iload_n C dX4_mender_0 rfl (lv_at hl 1 rfl) ?_
  refine r_cSR1 C m_X4_93 (cM_isKind (by exact ⟨by omega, by omega⟩)) pn0 hl.1 dX4_mender_1 ?_
  refine r_ifB_eq C (tgt := 14) dX4_mender_4 (by decide) (fun h1 => ?_) (fun h1 => ?_)
  · refine r_aload_n C dX4_mender_14 rfl (lv_at hl 0 rfl) ?_
    refine r_ldc C (-1000000001) ki_X4_48 (by decide) dX4_mender_15 ?_
    refine r_cVW1 C m_X4_74 (cM_finds (by omega) (by omega)) hP hD hS [0, 1, 2, 3, 4, 5, 6, 7, 8, 9, 10, 11] (wM a k s kp ot sd (fnd st (-1000000001)) sp tp bi si nu mo ik (-1) tl ta fr to va iw) rfl rfl rfl rfl rfl rfl rfl hl.1 dX4_mender_17 (fun H locs hP hD hS => ?_)
    exact r_iretE C hP hS (ot, sd, sp, mo, tl) (by first | (simp only [fMender, fD, fV, h1, not_true_eq_false, not_false_eq_true, and_true, true_and, and_false, false_and, or_true, true_or, or_false, false_or, if_true, if_false, ne_eq, reduceIte]; done) | (exfalso; omega)) (by first | (simp only [fMender, fD, fV, h1, not_true_eq_false, not_false_eq_true, and_true, true_and, and_false, false_and, or_true, true_or, or_false, false_or, if_true, if_false, ne_eq, reduceIte]; done) | (exfalso; omega)) dX4_mender_20
  · refine r_iload_n C dX4_mender_7 rfl (lv_at hl 2 rfl) ?_
    refine r_cSR1 C m_X4_68 (cM_isCell (by exact ⟨by omega, by omega⟩)) pn0 hl.1 dX4_mender_8 ?_
    refine r_ifB_ne C (tgt := 21) dX4_mender_11 (by decide) (fun h2 => ?_) (fun h2 => ?_)
    · refine r_aload_n C dX4_mender_21 rfl (lv_at hl 0 rfl) ?_
      refine g_X4_7 C hP 0 rfl rfl dX4_mender_22 ?_
      refine r_iconst C dX4_mender_25 ?_
      refine r_iald C hP 1 rfl dX4_mender_26 (by omega) (by omega) (by decide) ?_
      refine r_bipush C dX4_mender_27 (by decide) ?_
      refine r_icmp_ne C (tgt := 41) dX4_mender_29 (by decide) (by have := hs.1 (0) (by omega); exact ⟨by omega, by omega⟩) ⟨by decide, by decide⟩ (fun h3 => ?_) (fun h3 => ?_)
      · refine r_aload_n C dX4_mender_41 rfl (lv_at hl 0 rfl) ?_
        refine r_iload_n C dX4_mender_42 rfl (lv_at hl 1 rfl) ?_
        refine r_iload_n C dX4_mender_43 rfl (lv_at hl 2 rfl) ?_
        refine r_cVW2 C m_X4_97 (cM_adds (by omega) (by omega) (by omega) (by omega) hs (by omega)) hP hD hS [0, 1, 2, 3, 4, 5, 6, 7, 8, 9, 10, 11] (wM a k (addS s kd c 50) kp ot sd st sp tp bi si nu mo ik (-1) tl ta fr to va iw) rfl rfl rfl rfl rfl rfl rfl hl.1 dX4_mender_44 (fun H locs hP hD hS => ?_)
        have hs1 : Ok (addS s kd c 50) := ok_addS hs (by omega) (by omega) (by omega) (by omega) (by omega) (by decide) (by decide)
        exact r_iretE C hP hS (ot, sd, sp, mo, tl) (by first | (simp only [fMender, fD, fV, h1, h2, h3, not_true_eq_false, not_false_eq_true, and_true, true_and, and_false, false_and, or_true, true_or, or_false, false_or, if_true, if_false, ne_eq, reduceIte]; done) | (exfalso; omega)) (by first | (simp only [fMender, fD, fV, h1, h2, h3, not_true_eq_false, not_false_eq_true, and_true, true_and, and_false, false_and, or_true, true_or, or_false, false_or, if_true, if_false, ne_eq, reduceIte]; done) | (exfalso; omega)) dX4_mender_47
      · refine r_aload_n C dX4_mender_32 rfl (lv_at hl 0 rfl) ?_
        refine r_ldc C (-1000000002) ki_X4_96 (by decide) dX4_mender_33 ?_
        refine r_cVW1 C m_X4_74 (cM_finds (by omega) (by omega)) hP hD hS [0, 1, 2, 3, 4, 5, 6, 7, 8, 9, 10, 11] (wM a k s kp ot sd (fnd st (-1000000002)) sp tp bi si nu mo ik (-1) tl ta fr to va iw) rfl rfl rfl rfl rfl rfl rfl hl.1 dX4_mender_35 (fun H locs hP hD hS => ?_)
        refine r_goto C (tgt := 47) dX4_mender_38 (by decide) ?_
        exact r_iretE C hP hS (ot, sd, sp, mo, tl) (by first | (simp only [fMender, fD, fV, h1, h2, eq_true h3, not_true_eq_false, not_false_eq_true, and_true, true_and, and_false, false_and, or_true, true_or, or_false, false_or, if_true, if_false, ne_eq, reduceIte]; done) | (exfalso; omega)) (by first | (simp only [fMender, fD, fV, h1, h2, eq_true h3, not_true_eq_false, not_false_eq_true, and_true, true_and, and_false, false_and, or_true, true_or, or_false, false_or, if_true, if_false, ne_eq, reduceIte]; done) | (exfalso; omega)) dX4_mender_47
    · refine r_aload_n C dX4_mender_14 rfl (lv_at hl 0 rfl) ?_
      refine r_ldc C (-1000000001) ki_X4_48 (by decide) dX4_mender_15 ?_
      refine r_cVW1 C m_X4_74 (cM_finds (by omega) (by omega)) hP hD hS [0, 1, 2, 3, 4, 5, 6, 7, 8, 9, 10, 11] (wM a k s kp ot sd (fnd st (-1000000001)) sp tp bi si nu mo ik (-1) tl ta fr to va iw) rfl rfl rfl rfl rfl rfl rfl hl.1 dX4_mender_17 (fun H locs hP hD hS => ?_)
      exact r_iretE C hP hS (ot, sd, sp, mo, tl) (by first | (simp only [fMender, fD, fV, h1, h2, not_true_eq_false, not_false_eq_true, and_true, true_and, and_false, false_and, or_true, true_or, or_false, false_or, if_true, if_false, ne_eq, reduceIte]; done) | (exfalso; omega)) (by first | (simp only [fMender, fD, fV, h1, h2, not_true_eq_false, not_false_eq_true, and_true, true_and, and_false, false_and, or_true, true_or, or_false, false_or, if_true, if_false, ne_eq, reduceIte]; done) | (exfalso; omega)) dX4_mender_20
set_option maxHeartbeats 4000000 in
set_option maxRecDepth 100000 in
theorem cM_of {m : Int} {w : Int} (zm : In32 m) (zw : In32 w) (hs : Ok s) : ME l yX4_of cX4_of 4 (some .int) 4 98 D k [.ref (a 0), .int (iI m), .int (iI w)] (wM a k s kp ot sd st sp tp bi si nu mo ik (-1) tl ta fr to va iw) (fun x : (Int → Int) × (Int → Int) × (Int → Int) × (Int → Int64) × Int => wM a k ((fOf s st m w).2.1) kp x.1 x.2.1 ((fOf s st m w).2.2) x.2.2.1 tp bi si nu x.2.2.2.1 ik (-1) x.2.2.2.2 ta fr to va iw) (some (.int (iI ((fOf s st m w).1)))) := by
  refine ME.mk RX4 rfl (by decide +kernel) (Nat.le_of_ble_eq_true rfl) (fun p e U m0 below meth cd ls C hP hD hS hl => ?_)
  have hl : lv_has ls 4 [(0, .ref (a 0)), (1, .int (iI m)), (2, .int (iI w))] := hl
  have zm1 := zm.1
  have zm2 := zm.2
  have zw1 := zw.1
  have zw2 := zw.2
  have h00 := hs.1 0 (by decide)
  have h06 := hs.2.2.1
  refine r_aload_n C dX4_of_0 rfl (lv_at hl 0 rfl) ?_
  refine r_iload_n C dX4_of_1 rfl (lv_at hl 1 rfl) ?_
  refine r_cVR1 C m_X4_109 (cM_isMender (by exact ⟨by omega, by omega⟩) hs) hP rfl rfl hl.1 dX4_of_2 ?_
  refine r_ifB_eq C (tgt := 20) dX4_of_5 (by decide) (fun h1 => ?_) (fun h1 => ?_)
  · refine r_aload_n C dX4_of_20 rfl (lv_at hl 0 rfl) ?_
    refine r_ldc C (-1000000001) ki_X4_48 (by decide) dX4_of_21 ?_
    refine r_cVW1 C m_X4_74 (cM_finds (by omega) (by omega)) hP hD hS [0, 1, 2, 3, 4, 5, 6, 7, 8, 9, 10, 11] (wM a k s kp ot sd (fnd st (-1000000001)) sp tp bi si nu mo ik (-1) tl ta fr to va iw) rfl rfl rfl rfl rfl rfl rfl hl.1 dX4_of_23 (fun H locs hP hD hS => ?_)
    exact r_iretE C hP hS (ot, sd, sp, mo, tl) (by first | (simp only [fOf, fD, fV, h1, not_true_eq_false, not_false_eq_true, and_true, true_and, and_false, false_and, or_true, true_or, or_false, false_or, if_true, if_false, ne_eq, reduceIte]; done) | (exfalso; omega)) (by first | (simp only [fOf, fD, fV, h1, not_true_eq_false, not_false_eq_true, and_true, true_and, and_false, false_and, or_true, true_or, or_false, false_or, if_true, if_false, ne_eq, reduceIte]; done) | (exfalso; omega)) dX4_of_26
  · refine r_iload_n C dX4_of_8 rfl (lv_at hl 2 rfl) ?_
    refine r_i2l C dX4_of_9 (by exact ⟨by omega, by omega⟩) ?_
    refine r_lconst C (z := 0) dX4_of_10 (by decide) ?_
    refine r_ldc2 C (5) kl_X4_55 (by decide) dX4_of_11 ?_
    refine r_cSR3 C m_X4_51 (cM_in (by exact ⟨by omega, by omega⟩) ⟨by decide, by decide⟩ ⟨by decide, by decide⟩) pn0 hl.1 dX4_of_14 ?_
    refine r_ifB_ne C (tgt := 27) dX4_of_17 (by decide) (fun h2 => ?_) (fun h2 => ?_)
    · refine r_aload_n C dX4_of_27 rfl (lv_at hl 0 rfl) ?_
      refine r_iload_n C dX4_of_28 rfl (lv_at hl 1 rfl) ?_
      refine r_cVR1 C m_X4_112 (cM_goesFor (by omega) (by omega) hs) hP rfl rfl hl.1 dX4_of_29 ?_
      refine r_istore_n C [(3, .int (iI (goesFor s m))), (0, .ref (a 0)), (1, .int (iI m)), (2, .int (iI w))] dX4_of_32 rfl hl (by decide) rfl (fun ls hl => ?_)
      refine r_iload_n C dX4_of_33 rfl (lv_at hl 3 rfl) ?_
      refine r_iconst C dX4_of_34 ?_
      refine r_icmp_ge C (tgt := 47) dX4_of_35 (by decide) (by exact ⟨by omega, by omega⟩) ⟨by decide, by decide⟩ (fun h3 => ?_) (fun h3 => ?_)
      · refine r_iload_n C dX4_of_47 rfl (lv_at hl 3 rfl) ?_
        refine r_iconst C dX4_of_48 ?_
        refine r_icmp_ne C (tgt := 56) dX4_of_49 (by decide) (by exact ⟨by omega, by omega⟩) ⟨by decide, by decide⟩ (fun h4 => ?_) (fun h4 => ?_)
        · refine r_iload_n C dX4_of_56 rfl (lv_at hl 0 rfl) ?_
          refine r_if_ge C (tgt := 64) dX4_of_57 (by decide) (by have := goesFor_rg hs (m := m) (by omega) (by omega); exact ⟨by omega, by omega⟩) (fun h5 => ?_) (fun h5 => ?_)
          · refine r_aload_n C dX4_of_64 rfl (lv_at hl 1 rfl) ?_
            refine r_iload_n C dX4_of_65 rfl (lv_at hl 2 rfl) ?_
            refine r_iload_n C dX4_of_66 rfl (lv_at hl 0 rfl) ?_
            refine r_cVR2 C m_X4_103 (cM_costOf (by omega) (by omega) (by have := goesFor_rg hs (m := m) (by omega) (by omega); omega) (by have := goesFor_rg hs (m := m) (by omega) (by omega); omega) hs) hP rfl rfl hl.1 dX4_of_67 ?_
            exact r_iretE C hP hS (ot, sd, sp, mo, tl) (by first | (simp only [fOf, fD, fV, h1, h2, h3, h4, h5, not_true_eq_false, not_false_eq_true, and_true, true_and, and_false, false_and, or_true, true_or, or_false, false_or, if_true, if_false, ne_eq, reduceIte]; done) | (exfalso; omega)) (by first | (simp only [fOf, fD, fV, h1, h2, h3, h4, h5, not_true_eq_false, not_false_eq_true, and_true, true_and, and_false, false_and, or_true, true_or, or_false, false_or, if_true, if_false, ne_eq, reduceIte]; done) | (exfalso; omega)) dX4_of_70
          · refine r_iconst C dX4_of_60 ?_
            refine r_goto C (tgt := 70) dX4_of_61 (by decide) ?_
            exact r_iretE C hP hS (ot, sd, sp, mo, tl) (by first | (simp only [fOf, fD, fV, h1, h2, h3, h4, h5, not_true_eq_false, not_false_eq_true, and_true, true_and, and_false, false_and, or_true, true_or, or_false, false_or, if_true, if_false, ne_eq, reduceIte]; done) | (exfalso; omega)) (by first | (simp only [fOf, fD, fV, h1, h2, h3, h4, h5, not_true_eq_false, not_false_eq_true, and_true, true_and, and_false, false_and, or_true, true_or, or_false, false_or, if_true, if_false, ne_eq, reduceIte]; done) | (exfalso; omega)) dX4_of_70
        · refine r_iload_n C dX4_of_52 rfl (lv_at hl 0 rfl) ?_
          refine r_goto C (tgt := 70) dX4_of_53 (by decide) ?_
          exact r_iretE C hP hS (ot, sd, sp, mo, tl) (by first | (simp only [fOf, fD, fV, h1, h2, h3, eq_true h4, not_true_eq_false, not_false_eq_true, and_true, true_and, and_false, false_and, or_true, true_or, or_false, false_or, if_true, if_false, ne_eq, reduceIte]; done) | (exfalso; omega)) (by first | (simp only [fOf, fD, fV, h1, h2, h3, eq_true h4, not_true_eq_false, not_false_eq_true, and_true, true_and, and_false, false_and, or_true, true_or, or_false, false_or, if_true, if_false, ne_eq, reduceIte]; done) | (exfalso; omega)) dX4_of_70
      · refine r_aload_n C dX4_of_38 rfl (lv_at hl 1 rfl) ?_
        refine r_iload_n C dX4_of_39 rfl (lv_at hl 2 rfl) ?_
        refine r_iload_n C dX4_of_40 rfl (lv_at hl 3 rfl) ?_
        refine r_cVR2 C m_X4_86 (cM_its (by omega) (by omega) (by omega) (by omega)) hP rfl rfl hl.1 dX4_of_41 ?_
        refine r_goto C (tgt := 70) dX4_of_44 (by decide) ?_
        exact r_iretE C hP hS (ot, sd, sp, mo, tl) (by first | (simp only [fOf, fD, fV, h1, h2, h3, not_true_eq_false, not_false_eq_true, and_true, true_and, and_false, false_and, or_true, true_or, or_false, false_or, if_true, if_false, ne_eq, reduceIte]; done) | (exfalso; omega)) (by first | (simp only [fOf, fD, fV, h1, h2, h3, not_true_eq_false, not_false_eq_true, and_true, true_and, and_false, false_and, or_true, true_or, or_false, false_or, if_true, if_false, ne_eq, reduceIte]; done) | (exfalso; omega)) dX4_of_70
    · refine r_aload_n C dX4_of_20 rfl (lv_at hl 0 rfl) ?_
      refine r_ldc C (-1000000001) ki_X4_48 (by decide) dX4_of_21 ?_
      refine r_cVW1 C m_X4_74 (cM_finds (by omega) (by omega)) hP hD hS [0, 1, 2, 3, 4, 5, 6, 7, 8, 9, 10, 11] (wM a k s kp ot sd (fnd st (-1000000001)) sp tp bi si nu mo ik (-1) tl ta fr to va iw) rfl rfl rfl rfl rfl rfl rfl hl.1 dX4_of_23 (fun H locs hP hD hS => ?_)
      exact r_iretE C hP hS (ot, sd, sp, mo, tl) (by first | (simp only [fOf, fD, fV, h1, h2, not_true_eq_false, not_false_eq_true, and_true, true_and, and_false, false_and, or_true, true_or, or_false, false_or, if_true, if_false, ne_eq, reduceIte]; done) | (exfalso; omega)) (by first | (simp only [fOf, fD, fV, h1, h2, not_true_eq_false, not_false_eq_true, and_true, true_and, and_false, false_and, or_true, true_or, or_false, false_or, if_true, if_false, ne_eq, reduceIte]; done) | (exfalso; omega)) dX4_of_26
set_option maxHeartbeats 4000000 in
set_option maxRecDepth 100000 in
theorem cM_set {m : Int} {w : Int} {v : Int} (zm : In32 m) (zw : In32 w) (zv : In32 v) (hs : Ok s) : ME l yX4_set cX4_set 5 (some .int) 2 46 D k [.ref (a 0), .int (iI m), .int (iI w), .int (iI v)] (wM a k s kp ot sd st sp tp bi si nu mo ik (-1) tl ta fr to va iw) (fun x : (Int → Int) × (Int → Int) × (Int → Int) × (Int → Int64) × Int => wM a k ((fSet s st m w v).2.1) kp x.1 x.2.1 ((fSet s st m w v).2.2) x.2.2.1 tp bi si nu x.2.2.2.1 ik (-1) x.2.2.2.2 ta fr to va iw) (some (.int (iI ((fSet s st m w v).1)))) := by
  refine ME.mk RX4 rfl (by decide +kernel) (Nat.le_of_ble_eq_true rfl) (fun p e U m0 below meth cd ls C hP hD hS hl => ?_)
  have hl : lv_has ls 5 [(0, .ref (a 0)), (1, .int (iI m)), (2, .int (iI w)), (3, .int (iI v))] := hl
  have zm1 := zm.1
  have zm2 := zm.2
  have zw1 := zw.1
  have zw2 := zw.2
  have zv1 := zv.1
  have zv2 := zv.2
  have h00 := hs.1 0 (by decide)
  have h06 := hs.2.2.1
  refine r_iload_n C dX4_set_0 rfl (lv_at hl 2 rfl) ?_
  refine r_iconst C dX4_set_1 ?_
  refine r_icmp_ne C (tgt := 12) dX4_set_2 (by decide) (by exact ⟨by omega, by omega⟩) ⟨by decide, by decide⟩ (fun h1 => ?_) (fun h1 => ?_)
  · refine r_iload_n C dX4_set_12 rfl (lv_at hl 2 rfl) ?_
    refine r_iconst C dX4_set_13 ?_
    refine r_icmp_ne C (tgt := 33) dX4_set_14 (by decide) (by exact ⟨by omega, by omega⟩) ⟨by decide, by decide⟩ (fun h2 => ?_) (fun h2 => ?_)
    · refine r_iconst C dX4_set_33 ?_
      refine r_istore C [(4, .int (iI 0)), (0, .ref (a 0)), (1, .int (iI m)), (2, .int (iI w)), (3, .int (iI v))] dX4_set_34 hl (by decide) rfl (fun ls hl => ?_)
      refine r_aload_n C dX4_set_36 rfl (lv_at hl 1 rfl) ?_
      refine r_iload_n C dX4_set_37 rfl (lv_at hl 2 rfl) ?_
      refine r_cVR1 C m_X4_109 (cM_isMender (by exact ⟨by omega, by omega⟩) hs) hP rfl rfl hl.1 dX4_set_38 ?_
      refine r_ifB_eq C (tgt := 62) dX4_set_41 (by decide) (fun h3 => ?_) (fun h3 => ?_)
      · refine r_aload_n C dX4_set_62 rfl (lv_at hl 1 rfl) ?_
        refine r_ldc C (-1000000001) ki_X4_48 (by decide) dX4_set_63 ?_
        refine r_cVW1 C m_X4_74 (cM_finds (by omega) (by omega)) hP hD hS [0, 1, 2, 3, 4, 5, 6, 7, 8, 9, 10, 11] (wM a k s kp ot sd (fnd st (-1000000001)) sp tp bi si nu mo ik (-1) tl ta fr to va iw) rfl rfl rfl rfl rfl rfl rfl hl.1 dX4_set_65 (fun H locs hP hD hS => ?_)
        exact r_iretE C hP hS (ot, sd, sp, mo, tl) (by first | (simp only [fSet, fD, fV, h1, h2, h3, not_true_eq_false, not_false_eq_true, and_true, true_and, and_false, false_and, or_true, true_or, or_false, false_or, if_true, if_false, ne_eq, reduceIte]; done) | (exfalso; omega)) (by first | (simp only [fSet, fD, fV, h1, h2, h3, not_true_eq_false, not_false_eq_true, and_true, true_and, and_false, false_and, or_true, true_or, or_false, false_or, if_true, if_false, ne_eq, reduceIte]; done) | (exfalso; omega)) dX4_set_68
      · refine r_iload C dX4_set_44 (lv_at hl 0 rfl) ?_
        refine r_if_eq C (tgt := 62) dX4_set_46 (by decide) ⟨by decide, by decide⟩ (fun h4 => ?_) (fun h4 => ?_)
        · refine r_aload_n C dX4_set_62 rfl (lv_at hl 1 rfl) ?_
          refine r_ldc C (-1000000001) ki_X4_48 (by decide) dX4_set_63 ?_
          refine r_cVW1 C m_X4_74 (cM_finds (by omega) (by omega)) hP hD hS [0, 1, 2, 3, 4, 5, 6, 7, 8, 9, 10, 11] (wM a k s kp ot sd (fnd st (-1000000001)) sp tp bi si nu mo ik (-1) tl ta fr to va iw) rfl rfl rfl rfl rfl rfl rfl hl.1 dX4_set_65 (fun H locs hP hD hS => ?_)
          exact r_iretE C hP hS (ot, sd, sp, mo, tl) (by first | (simp only [fSet, fD, fV, h1, h2, h3, eq_true h4, not_true_eq_false, not_false_eq_true, and_true, true_and, and_false, false_and, or_true, true_or, or_false, false_or, if_true, if_false, ne_eq, reduceIte]; done) | (exfalso; omega)) (by first | (simp only [fSet, fD, fV, h1, h2, h3, eq_true h4, not_true_eq_false, not_false_eq_true, and_true, true_and, and_false, false_and, or_true, true_or, or_false, false_or, if_true, if_false, ne_eq, reduceIte]; done) | (exfalso; omega)) dX4_set_68
        · exact absurd h4 (by decide)
    · refine r_iload_n C dX4_set_17 rfl (lv_at hl 3 rfl) ?_
      refine r_i2l C dX4_set_18 (by exact ⟨by omega, by omega⟩) ?_
      refine r_lconst C (z := 0) dX4_set_19 (by decide) ?_
      refine r_ldc2 C (9999) kl_X4_115 (by decide) dX4_set_20 ?_
      refine r_cSR3 C m_X4_51 (cM_in (by exact ⟨by omega, by omega⟩) ⟨by decide, by decide⟩ ⟨by decide, by decide⟩) pn0 hl.1 dX4_set_23 ?_
      refine r_ifB_eq C (tgt := 33) dX4_set_26 (by decide) (fun h5 => ?_) (fun h5 => ?_)
      · refine r_iconst C dX4_set_33 ?_
        refine r_istore C [(4, .int (iI 0)), (0, .ref (a 0)), (1, .int (iI m)), (2, .int (iI w)), (3, .int (iI v))] dX4_set_34 hl (by decide) rfl (fun ls hl => ?_)
        refine r_aload_n C dX4_set_36 rfl (lv_at hl 1 rfl) ?_
        refine r_iload_n C dX4_set_37 rfl (lv_at hl 2 rfl) ?_
        refine r_cVR1 C m_X4_109 (cM_isMender (by exact ⟨by omega, by omega⟩) hs) hP rfl rfl hl.1 dX4_set_38 ?_
        refine r_ifB_eq C (tgt := 62) dX4_set_41 (by decide) (fun h6 => ?_) (fun h6 => ?_)
        · refine r_aload_n C dX4_set_62 rfl (lv_at hl 1 rfl) ?_
          refine r_ldc C (-1000000001) ki_X4_48 (by decide) dX4_set_63 ?_
          refine r_cVW1 C m_X4_74 (cM_finds (by omega) (by omega)) hP hD hS [0, 1, 2, 3, 4, 5, 6, 7, 8, 9, 10, 11] (wM a k s kp ot sd (fnd st (-1000000001)) sp tp bi si nu mo ik (-1) tl ta fr to va iw) rfl rfl rfl rfl rfl rfl rfl hl.1 dX4_set_65 (fun H locs hP hD hS => ?_)
          exact r_iretE C hP hS (ot, sd, sp, mo, tl) (by first | (simp only [fSet, fD, fV, h1, eq_true h2, h5, h6, not_true_eq_false, not_false_eq_true, and_true, true_and, and_false, false_and, or_true, true_or, or_false, false_or, if_true, if_false, ne_eq, reduceIte]; done) | (exfalso; omega)) (by first | (simp only [fSet, fD, fV, h1, eq_true h2, h5, h6, not_true_eq_false, not_false_eq_true, and_true, true_and, and_false, false_and, or_true, true_or, or_false, false_or, if_true, if_false, ne_eq, reduceIte]; done) | (exfalso; omega)) dX4_set_68
        · refine r_iload C dX4_set_44 (lv_at hl 0 rfl) ?_
          refine r_if_eq C (tgt := 62) dX4_set_46 (by decide) ⟨by decide, by decide⟩ (fun h7 => ?_) (fun h7 => ?_)
          · refine r_aload_n C dX4_set_62 rfl (lv_at hl 1 rfl) ?_
            refine r_ldc C (-1000000001) ki_X4_48 (by decide) dX4_set_63 ?_
            refine r_cVW1 C m_X4_74 (cM_finds (by omega) (by omega)) hP hD hS [0, 1, 2, 3, 4, 5, 6, 7, 8, 9, 10, 11] (wM a k s kp ot sd (fnd st (-1000000001)) sp tp bi si nu mo ik (-1) tl ta fr to va iw) rfl rfl rfl rfl rfl rfl rfl hl.1 dX4_set_65 (fun H locs hP hD hS => ?_)
            exact r_iretE C hP hS (ot, sd, sp, mo, tl) (by first | (simp only [fSet, fD, fV, h1, eq_true h2, h5, h6, eq_true h7, not_true_eq_false, not_false_eq_true, and_true, true_and, and_false, false_and, or_true, true_or, or_false, false_or, if_true, if_false, ne_eq, reduceIte]; done) | (exfalso; omega)) (by first | (simp only [fSet, fD, fV, h1, eq_true h2, h5, h6, eq_true h7, not_true_eq_false, not_false_eq_true, and_true, true_and, and_false, false_and, or_true, true_or, or_false, false_or, if_true, if_false, ne_eq, reduceIte]; done) | (exfalso; omega)) dX4_set_68
          · exact absurd h7 (by decide)
      · refine r_iconst C dX4_set_29 ?_
        refine r_goto C (tgt := 34) dX4_set_30 (by decide) ?_
        refine r_istore C [(4, .int (iI 1)), (0, .ref (a 0)), (1, .int (iI m)), (2, .int (iI w)), (3, .int (iI v))] dX4_set_34 hl (by decide) rfl (fun ls hl => ?_)
        refine r_aload_n C dX4_set_36 rfl (lv_at hl 1 rfl) ?_
        refine r_iload_n C dX4_set_37 rfl (lv_at hl 2 rfl) ?_
        refine r_cVR1 C m_X4_109 (cM_isMender (by exact ⟨by omega, by omega⟩) hs) hP rfl rfl hl.1 dX4_set_38 ?_
        refine r_ifB_eq C (tgt := 62) dX4_set_41 (by decide) (fun h8 => ?_) (fun h8 => ?_)
        · refine r_aload_n C dX4_set_62 rfl (lv_at hl 1 rfl) ?_
          refine r_ldc C (-1000000001) ki_X4_48 (by decide) dX4_set_63 ?_
          refine r_cVW1 C m_X4_74 (cM_finds (by omega) (by omega)) hP hD hS [0, 1, 2, 3, 4, 5, 6, 7, 8, 9, 10, 11] (wM a k s kp ot sd (fnd st (-1000000001)) sp tp bi si nu mo ik (-1) tl ta fr to va iw) rfl rfl rfl rfl rfl rfl rfl hl.1 dX4_set_65 (fun H locs hP hD hS => ?_)
          exact r_iretE C hP hS (ot, sd, sp, mo, tl) (by first | (simp only [fSet, fD, fV, h1, eq_true h2, h5, h8, not_true_eq_false, not_false_eq_true, and_true, true_and, and_false, false_and, or_true, true_or, or_false, false_or, if_true, if_false, ne_eq, reduceIte]; done) | (exfalso; omega)) (by first | (simp only [fSet, fD, fV, h1, eq_true h2, h5, h8, not_true_eq_false, not_false_eq_true, and_true, true_and, and_false, false_and, or_true, true_or, or_false, false_or, if_true, if_false, ne_eq, reduceIte]; done) | (exfalso; omega)) dX4_set_68
        · refine r_iload C dX4_set_44 (lv_at hl 0 rfl) ?_
          refine r_if_eq C (tgt := 62) dX4_set_46 (by decide) ⟨by decide, by decide⟩ (fun h9 => ?_) (fun h9 => ?_)
          · exact absurd h9 (by decide)
          · refine r_aload_n C dX4_set_49 rfl (lv_at hl 1 rfl) ?_
            refine r_iload_n C dX4_set_50 rfl (lv_at hl 2 rfl) ?_
            refine r_iload_n C dX4_set_51 rfl (lv_at hl 3 rfl) ?_
            refine r_cSR2 C m_X4_57 cM_spot pn0 hl.1 dX4_set_52 ?_
            refine r_iload_n C dX4_set_55 rfl (lv_at hl 4 rfl) ?_
            refine r_cVW2 C m_X4_71 (cM_becomes (by omega) (by omega)) hP hD hS [0, 1, 2, 3, 4, 5, 6, 7, 8, 9, 10, 11] (wM a k (up s (99 + 4 * m + w) v) kp ot sd st sp tp bi si nu mo ik (-1) tl ta fr to va iw) rfl rfl rfl rfl rfl rfl rfl hl.1 dX4_set_56 (fun H locs hP hD hS => ?_)
            refine r_goto C (tgt := 68) dX4_set_59 (by decide) ?_
            exact r_iretE C hP hS (ot, sd, sp, mo, tl) (by first | (simp only [fSet, fD, fV, h1, eq_true h2, h5, h8, h9, not_true_eq_false, not_false_eq_true, and_true, true_and, and_false, false_and, or_true, true_or, or_false, false_or, if_true, if_false, ne_eq, reduceIte]; done) | (exfalso; omega)) (by first | (simp only [fSet, fD, fV, h1, eq_true h2, h5, h8, h9, not_true_eq_false, not_false_eq_true, and_true, true_and, and_false, false_and, or_true, true_or, or_false, false_or, if_true, if_false, ne_eq, reduceIte]; done) | (exfalso; omega)) dX4_set_68
  · refine r_iload_n C dX4_set_5 rfl (lv_at hl 3 rfl) ?_
    refine r_cSR1 C m_X4_68 (cM_isCell (by exact ⟨by omega, by omega⟩)) pn0 hl.1 dX4_set_6 ?_
    refine r_goto C (tgt := 34) dX4_set_9 (by decide) ?_
    refine r_istore C [(4, .int (iB (0 ≤ v ∧ v ≤ 47))), (0, .ref (a 0)), (1, .int (iI m)), (2, .int (iI w)), (3, .int (iI v))] dX4_set_34 hl (by decide) rfl (fun ls hl => ?_)
    refine r_aload_n C dX4_set_36 rfl (lv_at hl 1 rfl) ?_
    refine r_iload_n C dX4_set_37 rfl (lv_at hl 2 rfl) ?_
    refine r_cVR1 C m_X4_109 (cM_isMender (by exact ⟨by omega, by omega⟩) hs) hP rfl rfl hl.1 dX4_set_38 ?_
    refine r_ifB_eq C (tgt := 62) dX4_set_41 (by decide) (fun h10 => ?_) (fun h10 => ?_)
    · refine r_aload_n C dX4_set_62 rfl (lv_at hl 1 rfl) ?_
      refine r_ldc C (-1000000001) ki_X4_48 (by decide) dX4_set_63 ?_
      refine r_cVW1 C m_X4_74 (cM_finds (by omega) (by omega)) hP hD hS [0, 1, 2, 3, 4, 5, 6, 7, 8, 9, 10, 11] (wM a k s kp ot sd (fnd st (-1000000001)) sp tp bi si nu mo ik (-1) tl ta fr to va iw) rfl rfl rfl rfl rfl rfl rfl hl.1 dX4_set_65 (fun H locs hP hD hS => ?_)
      exact r_iretE C hP hS (ot, sd, sp, mo, tl) (by first | (simp only [fSet, fD, fV, eq_true h1, h10, not_true_eq_false, not_false_eq_true, and_true, true_and, and_false, false_and, or_true, true_or, or_false, false_or, if_true, if_false, ne_eq, reduceIte]; done) | (exfalso; omega)) (by first | (simp only [fSet, fD, fV, eq_true h1, h10, not_true_eq_false, not_false_eq_true, and_true, true_and, and_false, false_and, or_true, true_or, or_false, false_or, if_true, if_false, ne_eq, reduceIte]; done) | (exfalso; omega)) dX4_set_68
    · refine r_iload C dX4_set_44 (lv_at hl 0 rfl) ?_
      refine r_ifB_eq C (tgt := 62) dX4_set_46 (by decide) (fun h11 => ?_) (fun h11 => ?_)
      · refine r_aload_n C dX4_set_62 rfl (lv_at hl 1 rfl) ?_
        refine r_ldc C (-1000000001) ki_X4_48 (by decide) dX4_set_63 ?_
        refine r_cVW1 C m_X4_74 (cM_finds (by omega) (by omega)) hP hD hS [0, 1, 2, 3, 4, 5, 6, 7, 8, 9, 10, 11] (wM a k s kp ot sd (fnd st (-1000000001)) sp tp bi si nu mo ik (-1) tl ta fr to va iw) rfl rfl rfl rfl rfl rfl rfl hl.1 dX4_set_65 (fun H locs hP hD hS => ?_)
        exact r_iretE C hP hS (ot, sd, sp, mo, tl) (by first | (simp only [fSet, fD, fV, eq_true h1, h10, h11, not_true_eq_false, not_false_eq_true, and_true, true_and, and_false, false_and, or_true, true_or, or_false, false_or, if_true, if_false, ne_eq, reduceIte]; done) | (exfalso; omega)) (by first | (simp only [fSet, fD, fV, eq_true h1, h10, h11, not_true_eq_false, not_false_eq_true, and_true, true_and, and_false, false_and, or_true, true_or, or_false, false_or, if_true, if_false, ne_eq, reduceIte]; done) | (exfalso; omega)) dX4_set_68
      · refine r_aload_n C dX4_set_49 rfl (lv_at hl 1 rfl) ?_
        refine r_iload_n C dX4_set_50 rfl (lv_at hl 2 rfl) ?_
        refine r_iload_n C dX4_set_51 rfl (lv_at hl 3 rfl) ?_
        refine r_cSR2 C m_X4_57 cM_spot pn0 hl.1 dX4_set_52 ?_
        refine r_iload_n C dX4_set_55 rfl (lv_at hl 4 rfl) ?_
        refine r_cVW2 C m_X4_71 (cM_becomes (by omega) (by omega)) hP hD hS [0, 1, 2, 3, 4, 5, 6, 7, 8, 9, 10, 11] (wM a k (up s (99 + 4 * m + w) v) kp ot sd st sp tp bi si nu mo ik (-1) tl ta fr to va iw) rfl rfl rfl rfl rfl rfl rfl hl.1 dX4_set_56 (fun H locs hP hD hS => ?_)
        refine r_goto C (tgt := 68) dX4_set_59 (by decide) ?_
        exact r_iretE C hP hS (ot, sd, sp, mo, tl) (by first | (simp only [fSet, fD, fV, eq_true h1, h10, h11, not_true_eq_false, not_false_eq_true, and_true, true_and, and_false, false_and, or_true, true_or, or_false, false_or, if_true, if_false, ne_eq, reduceIte]; done) | (exfalso; omega)) (by first | (simp only [fSet, fD, fV, eq_true h1, h10, h11, not_true_eq_false, not_false_eq_true, and_true, true_and, and_false, false_and, or_true, true_or, or_false, false_or, if_true, if_false, ne_eq, reduceIte]; done) | (exfalso; omega)) dX4_set_68
set_option maxHeartbeats 4000000 in
set_option maxRecDepth 100000 in
theorem cM_turn {m : Int} {kd : Int} (zm : In32 m) (zkd : In32 kd) (hs : Ok s) : ME l yX4_turn cX4_turn 3 (some .int) 2 46 D k [.ref (a 0), .int (iI m), .int (iI kd)] (wM a k s kp ot sd st sp tp bi si nu mo ik (-1) tl ta fr to va iw) (fun x : (Int → Int) × (Int → Int) × (Int → Int) × (Int → Int64) × Int => wM a k ((fTurn s st m kd).2.1) kp x.1 x.2.1 ((fTurn s st m kd).2.2) x.2.2.1 tp bi si nu x.2.2.2.1 ik (-1) x.2.2.2.2 ta fr to va iw) (some (.int (iI ((fTurn s st m kd).1)))) := by
  refine ME.mk RX4 rfl (by decide +kernel) (Nat.le_of_ble_eq_true rfl) (fun p e U m0 below meth cd ls C hP hD hS hl => ?_)
  have hl : lv_has ls 3 [(0, .ref (a 0)), (1, .int (iI m)), (2, .int (iI kd))] := hl
  have zm1 := zm.1
  have zm2 := zm.2
  have zkd1 := zkd.1
  have zkd2 := zkd.2
  have h00 := hs.1 0 (by decide)
  have h06 := hs.2.2.1
  refine r_aload_n C dX4_turn_0 rfl (lv_at hl 0 rfl) ?_
  refine r_iload_n C dX4_turn_1 rfl (lv_at hl 1 rfl) ?_
  refine r_cVR1 C m_X4_109 (cM_isMender (by exact ⟨by omega, by omega⟩) hs) hP rfl rfl hl.1 dX4_turn_2 ?_
  refine r_ifB_eq C (tgt := 28) dX4_turn_5 (by decide) (fun h1 => ?_) (fun h1 => ?_)
  · refine r_aload_n C dX4_turn_28 rfl (lv_at hl 0 rfl) ?_
    refine r_ldc C (-1000000001) ki_X4_48 (by decide) dX4_turn_29 ?_
    refine r_cVW1 C m_X4_74 (cM_finds (by omega) (by omega)) hP hD hS [0, 1, 2, 3, 4, 5, 6, 7, 8, 9, 10, 11] (wM a k s kp ot sd (fnd st (-1000000001)) sp tp bi si nu mo ik (-1) tl ta fr to va iw) rfl rfl rfl rfl rfl rfl rfl hl.1 dX4_turn_31 (fun H locs hP hD hS => ?_)
    exact r_iretE C hP hS (ot, sd, sp, mo, tl) (by first | (simp only [fTurn, fD, fV, h1, not_true_eq_false, not_false_eq_true, and_true, true_and, and_false, false_and, or_true, true_or, or_false, false_or, if_true, if_false, ne_eq, reduceIte]; done) | (exfalso; omega)) (by first | (simp only [fTurn, fD, fV, h1, not_true_eq_false, not_false_eq_true, and_true, true_and, and_false, false_and, or_true, true_or, or_false, false_or, if_true, if_false, ne_eq, reduceIte]; done) | (exfalso; omega)) dX4_turn_34
  · refine r_iload_n C dX4_turn_8 rfl (lv_at hl 2 rfl) ?_
    refine r_cSR1 C m_X4_93 (cM_isKind (by exact ⟨by omega, by omega⟩)) pn0 hl.1 dX4_turn_9 ?_
    refine r_ifB_eq C (tgt := 28) dX4_turn_12 (by decide) (fun h2 => ?_) (fun h2 => ?_)
    · refine r_aload_n C dX4_turn_28 rfl (lv_at hl 0 rfl) ?_
      refine r_ldc C (-1000000001) ki_X4_48 (by decide) dX4_turn_29 ?_
      refine r_cVW1 C m_X4_74 (cM_finds (by omega) (by omega)) hP hD hS [0, 1, 2, 3, 4, 5, 6, 7, 8, 9, 10, 11] (wM a k s kp ot sd (fnd st (-1000000001)) sp tp bi si nu mo ik (-1) tl ta fr to va iw) rfl rfl rfl rfl rfl rfl rfl hl.1 dX4_turn_31 (fun H locs hP hD hS => ?_)
      exact r_iretE C hP hS (ot, sd, sp, mo, tl) (by first | (simp only [fTurn, fD, fV, h1, h2, not_true_eq_false, not_false_eq_true, and_true, true_and, and_false, false_and, or_true, true_or, or_false, false_or, if_true, if_false, ne_eq, reduceIte]; done) | (exfalso; omega)) (by first | (simp only [fTurn, fD, fV, h1, h2, not_true_eq_false, not_false_eq_true, and_true, true_and, and_false, false_and, or_true, true_or, or_false, false_or, if_true, if_false, ne_eq, reduceIte]; done) | (exfalso; omega)) dX4_turn_34
    · refine r_aload_n C dX4_turn_15 rfl (lv_at hl 0 rfl) ?_
      refine r_iload_n C dX4_turn_16 rfl (lv_at hl 1 rfl) ?_
      refine r_iconst C dX4_turn_17 ?_
      refine r_cSR2 C m_X4_57 cM_spot pn0 hl.1 dX4_turn_18 ?_
      refine r_iload_n C dX4_turn_21 rfl (lv_at hl 2 rfl) ?_
      refine r_cVW2 C m_X4_71 (cM_becomes (by omega) (by omega)) hP hD hS [0, 1, 2, 3, 4, 5, 6, 7, 8, 9, 10, 11] (wM a k (up s (99 + 4 * m + 0) kd) kp ot sd st sp tp bi si nu mo ik (-1) tl ta fr to va iw) rfl rfl rfl rfl rfl rfl rfl hl.1 dX4_turn_22 (fun H locs hP hD hS => ?_)
      refine r_goto C (tgt := 34) dX4_turn_25 (by decide) ?_
      exact r_iretE C hP hS (ot, sd, sp, mo, tl) (by first | (simp only [fTurn, fD, fV, h1, h2, not_true_eq_false, not_false_eq_true, and_true, true_and, and_false, false_and, or_true, true_or, or_false, false_or, if_true, if_false, ne_eq, reduceIte]; done) | (exfalso; omega)) (by first | (simp only [fTurn, fD, fV, h1, h2, not_true_eq_false, not_false_eq_true, and_true, true_and, and_false, false_and, or_true, true_or, or_false, false_or, if_true, if_false, ne_eq, reduceIte]; done) | (exfalso; omega)) dX4_turn_34
set_option maxHeartbeats 4000000 in
set_option maxRecDepth 100000 in
theorem cM_as {m : Int} {kd : Int} (zm : In32 m) (zkd : In32 kd) (hs : Ok s) : ME l yX4_as cX4_as 3 (some .int) 2 46 D k [.ref (a 0), .int (iI m), .int (iI kd)] (wM a k s kp ot sd st sp tp bi si nu mo ik (-1) tl ta fr to va iw) (fun x : (Int → Int) × (Int → Int) × (Int → Int) × (Int → Int64) × Int => wM a k ((fAs s st m kd).2.1) kp x.1 x.2.1 ((fAs s st m kd).2.2) x.2.2.1 tp bi si nu x.2.2.2.1 ik (-1) x.2.2.2.2 ta fr to va iw) (some (.int (iI ((fAs s st m kd).1)))) := by
  refine ME.mk RX4 rfl (by decide +kernel) (Nat.le_of_ble_eq_true rfl) (fun p e U m0 below meth cd ls C hP hD hS hl => ?_)
  have hl : lv_has ls 3 [(0, .ref (a 0)), (1, .int (iI m)), (2, .int (iI kd))] := hl
  have zm1 := zm.1
  have zm2 := zm.2
  have zkd1 := zkd.1
  have zkd2 := zkd.2
  have h00 := hs.1 0 (by decide)
  have h06 := hs.2.2.1
  refine r_aload_n C dX4_as_0 rfl (lv_at hl 0 rfl) ?_
  refine r_iload_n C dX4_as_1 rfl (lv_at hl 1 rfl) ?_
  refine r_cVR1 C m_X4_109 (cM_isMender (by exact ⟨by omega, by omega⟩) hs) hP rfl rfl hl.1 dX4_as_2 ?_
  refine r_ifB_eq C (tgt := 15) dX4_as_5 (by decide) (fun h1 => ?_) (fun h1 => ?_)
  · refine r_aload_n C dX4_as_15 rfl (lv_at hl 0 rfl) ?_
    refine r_ldc C (-1000000001) ki_X4_48 (by decide) dX4_as_16 ?_
    refine r_cVW1 C m_X4_74 (cM_finds (by omega) (by omega)) hP hD hS [0, 1, 2, 3, 4, 5, 6, 7, 8, 9, 10, 11] (wM a k s kp ot sd (fnd st (-1000000001)) sp tp bi si nu mo ik (-1) tl ta fr to va iw) rfl rfl rfl rfl rfl rfl rfl hl.1 dX4_as_18 (fun H locs hP hD hS => ?_)
    exact r_iretE C hP hS (ot, sd, sp, mo, tl) (by first | (simp only [fAs, fD, fV, h1, not_true_eq_false, not_false_eq_true, and_true, true_and, and_false, false_and, or_true, true_or, or_false, false_or, if_true, if_false, ne_eq, reduceIte]; done) | (exfalso; omega)) (by first | (simp only [fAs, fD, fV, h1, not_true_eq_false, not_false_eq_true, and_true, true_and, and_false, false_and, or_true, true_or, or_false, false_or, if_true, if_false, ne_eq, reduceIte]; done) | (exfalso; omega)) dX4_as_21
  · refine r_iload_n C dX4_as_8 rfl (lv_at hl 2 rfl) ?_
    refine r_cSR1 C m_X4_93 (cM_isKind (by exact ⟨by omega, by omega⟩)) pn0 hl.1 dX4_as_9 ?_
    refine r_ifB_ne C (tgt := 22) dX4_as_12 (by decide) (fun h2 => ?_) (fun h2 => ?_)
    · refine r_aload_n C dX4_as_22 rfl (lv_at hl 0 rfl) ?_
      refine r_iload_n C dX4_as_23 rfl (lv_at hl 1 rfl) ?_
      refine r_iconst C dX4_as_24 ?_
      refine r_cVR2 C m_X4_86 (cM_its (by omega) (by omega) (by omega) (by omega)) hP rfl rfl hl.1 dX4_as_25 ?_
      refine r_iload_n C dX4_as_28 rfl (lv_at hl 2 rfl) ?_
      refine r_cSR2 C m_X4_117 (cM_isUnder (by have := hs.1 (99 + 4 * m + 0) (by omega); omega) (by have := hs.1 (99 + 4 * m + 0) (by omega); omega) (by exact ⟨by omega, by omega⟩)) pn0 hl.1 dX4_as_29 ?_
      refine r_ifB_eq C (tgt := 44) dX4_as_32 (by decide) (fun h3 => ?_) (fun h3 => ?_)
      · refine r_aload_n C dX4_as_44 rfl (lv_at hl 0 rfl) ?_
        refine r_ldc C (-1000000003) ki_X4_121 (by decide) dX4_as_45 ?_
        refine r_cVW1 C m_X4_74 (cM_finds (by omega) (by omega)) hP hD hS [0, 1, 2, 3, 4, 5, 6, 7, 8, 9, 10, 11] (wM a k s kp ot sd (fnd st (-1000000003)) sp tp bi si nu mo ik (-1) tl ta fr to va iw) rfl rfl rfl rfl rfl rfl rfl hl.1 dX4_as_47 (fun H locs hP hD hS => ?_)
        exact r_iretE C hP hS (ot, sd, sp, mo, tl) (by first | (simp only [fAs, fD, fV, h1, h2, h3, not_true_eq_false, not_false_eq_true, and_true, true_and, and_false, false_and, or_true, true_or, or_false, false_or, if_true, if_false, ne_eq, reduceIte]; done) | (exfalso; omega)) (by first | (simp only [fAs, fD, fV, h1, h2, h3, not_true_eq_false, not_false_eq_true, and_true, true_and, and_false, false_and, or_true, true_or, or_false, false_or, if_true, if_false, ne_eq, reduceIte]; done) | (exfalso; omega)) dX4_as_50
      · refine r_aload_n C dX4_as_35 rfl (lv_at hl 0 rfl) ?_
        refine r_iload_n C dX4_as_36 rfl (lv_at hl 1 rfl) ?_
        refine r_iconst C dX4_as_37 ?_
        refine r_cVR2 C m_X4_86 (cM_its (by omega) (by omega) (by omega) (by omega)) hP rfl rfl hl.1 dX4_as_38 ?_
        refine r_goto C (tgt := 50) dX4_as_41 (by decide) ?_
        exact r_iretE C hP hS (ot, sd, sp, mo, tl) (by first | (simp only [fAs, fD, fV, h1, h2, h3, not_true_eq_false, not_false_eq_true, and_true, true_and, and_false, false_and, or_true, true_or, or_false, false_or, if_true, if_false, ne_eq, reduceIte]; done) | (exfalso; omega)) (by first | (simp only [fAs, fD, fV, h1, h2, h3, not_true_eq_false, not_false_eq_true, and_true, true_and, and_false, false_and, or_true, true_or, or_false, false_or, if_true, if_false, ne_eq, reduceIte]; done) | (exfalso; omega)) dX4_as_50
    · refine r_aload_n C dX4_as_15 rfl (lv_at hl 0 rfl) ?_
      refine r_ldc C (-1000000001) ki_X4_48 (by decide) dX4_as_16 ?_
      refine r_cVW1 C m_X4_74 (cM_finds (by omega) (by omega)) hP hD hS [0, 1, 2, 3, 4, 5, 6, 7, 8, 9, 10, 11] (wM a k s kp ot sd (fnd st (-1000000001)) sp tp bi si nu mo ik (-1) tl ta fr to va iw) rfl rfl rfl rfl rfl rfl rfl hl.1 dX4_as_18 (fun H locs hP hD hS => ?_)
      exact r_iretE C hP hS (ot, sd, sp, mo, tl) (by first | (simp only [fAs, fD, fV, h1, h2, not_true_eq_false, not_false_eq_true, and_true, true_and, and_false, false_and, or_true, true_or, or_false, false_or, if_true, if_false, ne_eq, reduceIte]; done) | (exfalso; omega)) (by first | (simp only [fAs, fD, fV, h1, h2, not_true_eq_false, not_false_eq_true, and_true, true_and, and_false, false_and, or_true, true_or, or_false, false_or, if_true, if_false, ne_eq, reduceIte]; done) | (exfalso; omega)) dX4_as_21
set_option maxHeartbeats 4000000 in
set_option maxRecDepth 100000 in
theorem cM_cost {m : Int} {c : Int} (zm : In32 m) (zc : In32 c) (hs : Ok s) : ME l yX4_cost cX4_cost 3 (some .int) 3 73 D k [.ref (a 0), .int (iI m), .int (iI c)] (wM a k s kp ot sd st sp tp bi si nu mo ik (-1) tl ta fr to va iw) (fun x : (Int → Int) × (Int → Int) × (Int → Int) × (Int → Int64) × Int => wM a k ((fCost s st m c).2.1) kp x.1 x.2.1 ((fCost s st m c).2.2) x.2.2.1 tp bi si nu x.2.2.2.1 ik (-1) x.2.2.2.2 ta fr to va iw) (some (.int (iI ((fCost s st m c).1)))) := by
  refine ME.mk RX4 rfl (by decide +kernel) (Nat.le_of_ble_eq_true rfl) (fun p e U m0 below meth cd ls C hP hD hS hl => ?_)
  have hl : lv_has ls 3 [(0, .ref (a 0)), (1, .int (iI m)), (2, .int (iI c))] := hl
  have zm1 := zm.1
  have zm2 := zm.2
  have zc1 := zc.1
  have zc2 := zc.2
  have h00 := hs.1 0 (by decide)
  have h06 := hs.2.2.1
  refine r_aload_n C dX4_cost_0 rfl (lv_at hl 0 rfl) ?_
  refine r_iload_n C dX4_cost_1 rfl (lv_at hl 1 rfl) ?_
  refine r_cVR1 C m_X4_109 (cM_isMender (by exact ⟨by omega, by omega⟩) hs) hP rfl rfl hl.1 dX4_cost_2 ?_
  refine r_ifB_eq C (tgt := 15) dX4_cost_5 (by decide) (fun h1 => ?_) (fun h1 => ?_)
  · refine r_aload_n C dX4_cost_15 rfl (lv_at hl 0 rfl) ?_
    refine r_ldc C (-1000000001) ki_X4_48 (by decide) dX4_cost_16 ?_
    refine r_cVW1 C m_X4_74 (cM_finds (by omega) (by omega)) hP hD hS [0, 1, 2, 3, 4, 5, 6, 7, 8, 9, 10, 11] (wM a k s kp ot sd (fnd st (-1000000001)) sp tp bi si nu mo ik (-1) tl ta fr to va iw) rfl rfl rfl rfl rfl rfl rfl hl.1 dX4_cost_18 (fun H locs hP hD hS => ?_)
    exact r_iretE C hP hS (ot, sd, sp, mo, tl) (by first | (simp only [fCost, fD, fV, h1, not_true_eq_false, not_false_eq_true, and_true, true_and, and_false, false_and, or_true, true_or, or_false, false_or, if_true, if_false, ne_eq, reduceIte]; done) | (exfalso; omega)) (by first | (simp only [fCost, fD, fV, h1, not_true_eq_false, not_false_eq_true, and_true, true_and, and_false, false_and, or_true, true_or, or_false, false_or, if_true, if_false, ne_eq, reduceIte]; done) | (exfalso; omega)) dX4_cost_21
  · refine r_iload_n C dX4_cost_8 rfl (lv_at hl 2 rfl) ?_
    refine r_cSR1 C m_X4_68 (cM_isCell (by exact ⟨by omega, by omega⟩)) pn0 hl.1 dX4_cost_9 ?_
    refine r_ifB_ne C (tgt := 22) dX4_cost_12 (by decide) (fun h2 => ?_) (fun h2 => ?_)
    · refine r_aload_n C dX4_cost_22 rfl (lv_at hl 0 rfl) ?_
      refine r_iload_n C dX4_cost_23 rfl (lv_at hl 2 rfl) ?_
      refine r_cVR1 C m_X4_61 (cM_isUntrue (by omega) (by omega) hs) hP rfl rfl hl.1 dX4_cost_24 ?_
      refine r_ifB_eq C (tgt := 39) dX4_cost_27 (by decide) (fun h3 => ?_) (fun h3 => ?_)
      · refine r_aload_n C dX4_cost_39 rfl (lv_at hl 0 rfl) ?_
        refine r_ldc C (-1000000005) ki_X4_122 (by decide) dX4_cost_40 ?_
        refine r_cVW1 C m_X4_74 (cM_finds (by omega) (by omega)) hP hD hS [0, 1, 2, 3, 4, 5, 6, 7, 8, 9, 10, 11] (wM a k s kp ot sd (fnd st (-1000000005)) sp tp bi si nu mo ik (-1) tl ta fr to va iw) rfl rfl rfl rfl rfl rfl rfl hl.1 dX4_cost_42 (fun H locs hP hD hS => ?_)
        exact r_iretE C hP hS (ot, sd, sp, mo, tl) (by first | (simp only [fCost, fD, fV, h1, h2, h3, not_true_eq_false, not_false_eq_true, and_true, true_and, and_false, false_and, or_true, true_or, or_false, false_or, if_true, if_false, ne_eq, reduceIte]; done) | (exfalso; omega)) (by first | (simp only [fCost, fD, fV, h1, h2, h3, not_true_eq_false, not_false_eq_true, and_true, true_and, and_false, false_and, or_true, true_or, or_false, false_or, if_true, if_false, ne_eq, reduceIte]; done) | (exfalso; omega)) dX4_cost_45
      · refine r_aload_n C dX4_cost_30 rfl (lv_at hl 0 rfl) ?_
        refine r_iload_n C dX4_cost_31 rfl (lv_at hl 1 rfl) ?_
        refine r_iload_n C dX4_cost_32 rfl (lv_at hl 2 rfl) ?_
        refine r_cVR2 C m_X4_103 (cM_costOf (by omega) (by omega) (by omega) (by omega) hs) hP rfl rfl hl.1 dX4_cost_33 ?_
        refine r_goto C (tgt := 45) dX4_cost_36 (by decide) ?_
        exact r_iretE C hP hS (ot, sd, sp, mo, tl) (by first | (simp only [fCost, fD, fV, h1, h2, h3, not_true_eq_false, not_false_eq_true, and_true, true_and, and_false, false_and, or_true, true_or, or_false, false_or, if_true, if_false, ne_eq, reduceIte]; done) | (exfalso; omega)) (by first | (simp only [fCost, fD, fV, h1, h2, h3, not_true_eq_false, not_false_eq_true, and_true, true_and, and_false, false_and, or_true, true_or, or_false, false_or, if_true, if_false, ne_eq, reduceIte]; done) | (exfalso; omega)) dX4_cost_45
    · refine r_aload_n C dX4_cost_15 rfl (lv_at hl 0 rfl) ?_
      refine r_ldc C (-1000000001) ki_X4_48 (by decide) dX4_cost_16 ?_
      refine r_cVW1 C m_X4_74 (cM_finds (by omega) (by omega)) hP hD hS [0, 1, 2, 3, 4, 5, 6, 7, 8, 9, 10, 11] (wM a k s kp ot sd (fnd st (-1000000001)) sp tp bi si nu mo ik (-1) tl ta fr to va iw) rfl rfl rfl rfl rfl rfl rfl hl.1 dX4_cost_18 (fun H locs hP hD hS => ?_)
      exact r_iretE C hP hS (ot, sd, sp, mo, tl) (by first | (simp only [fCost, fD, fV, h1, h2, not_true_eq_false, not_false_eq_true, and_true, true_and, and_false, false_and, or_true, true_or, or_false, false_or, if_true, if_false, ne_eq, reduceIte]; done) | (exfalso; omega)) (by first | (simp only [fCost, fD, fV, h1, h2, not_true_eq_false, not_false_eq_true, and_true, true_and, and_false, false_and, or_true, true_or, or_false, false_or, if_true, if_false, ne_eq, reduceIte]; done) | (exfalso; omega)) dX4_cost_21
set_option maxHeartbeats 4000000 in
set_option maxRecDepth 100000 in
theorem cM_mend {m : Int} {c : Int} (zm : In32 m) (zc : In32 c) (hs : Ok s) : ME l yX4_mend cX4_mend 3 (some .int) 4 97 D k [.ref (a 0), .int (iI m), .int (iI c)] (wM a k s kp ot sd st sp tp bi si nu mo ik (-1) tl ta fr to va iw) (fun x : (Int → Int) × (Int → Int) × (Int → Int) × (Int → Int64) × Int => wM a k ((fMend s st m c).2.1) kp x.1 x.2.1 ((fMend s st m c).2.2) x.2.2.1 tp bi si nu x.2.2.2.1 ik (-1) x.2.2.2.2 ta fr to va iw) (some (.int (iI ((fMend s st m c).1)))) := by
  refine ME.mk RX4 rfl (by decide +kernel) (Nat.le_of_ble_eq_true rfl) (fun p e U m0 below meth cd ls C hP hD hS hl => ?_)
  have hl : lv_has ls 3 [(0, .ref (a 0)), (1, .int (iI m)), (2, .int (iI c))] := hl
  have zm1 := zm.1
  have zm2 := zm.2
  have zc1 := zc.1
  have zc2 := zc.2
  have h00 := hs.1 0 (by decide)
  have h06 := hs.2.2.1
  refine r_aload_n C dX4_mend_0 rfl (lv_at hl 0 rfl) ?_
  refine r_iload_n C dX4_mend_1 rfl (lv_at hl 1 rfl) ?_
  refine r_cVR1 C m_X4_109 (cM_isMender (by exact ⟨by omega, by omega⟩) hs) hP rfl rfl hl.1 dX4_mend_2 ?_
  refine r_ifB_eq C (tgt := 15) dX4_mend_5 (by decide) (fun h1 => ?_) (fun h1 => ?_)
  · refine r_aload_n C dX4_mend_15 rfl (lv_at hl 0 rfl) ?_
    refine r_ldc C (-1000000001) ki_X4_48 (by decide) dX4_mend_16 ?_
    refine r_cVW1 C m_X4_74 (cM_finds (by omega) (by omega)) hP hD hS [0, 1, 2, 3, 4, 5, 6, 7, 8, 9, 10, 11] (wM a k s kp ot sd (fnd st (-1000000001)) sp tp bi si nu mo ik (-1) tl ta fr to va iw) rfl rfl rfl rfl rfl rfl rfl hl.1 dX4_mend_18 (fun H locs hP hD hS => ?_)
    exact r_iretE C hP hS (ot, sd, sp, mo, tl) (by first | (simp only [fMend, fD, fV, payS, h1, not_true_eq_false, not_false_eq_true, and_true, true_and, and_false, false_and, or_true, true_or, or_false, false_or, if_true, if_false, ne_eq, reduceIte]; done) | (exfalso; omega)) (by first | (simp only [fMend, fD, fV, payS, h1, not_true_eq_false, not_false_eq_true, and_true, true_and, and_false, false_and, or_true, true_or, or_false, false_or, if_true, if_false, ne_eq, reduceIte]; done) | (exfalso; omega)) dX4_mend_21
  · refine r_iload_n C dX4_mend_8 rfl (lv_at hl 2 rfl) ?_
    refine r_cSR1 C m_X4_68 (cM_isCell (by exact ⟨by omega, by omega⟩)) pn0 hl.1 dX4_mend_9 ?_
    refine r_ifB_ne C (tgt := 22) dX4_mend_12 (by decide) (fun h2 => ?_) (fun h2 => ?_)
    · refine r_aload_n C dX4_mend_22 rfl (lv_at hl 0 rfl) ?_
      refine r_iload_n C dX4_mend_23 rfl (lv_at hl 2 rfl) ?_
      refine r_cVR1 C m_X4_61 (cM_isUntrue (by omega) (by omega) hs) hP rfl rfl hl.1 dX4_mend_24 ?_
      refine r_ifB_eq C (tgt := 46) dX4_mend_27 (by decide) (fun h3 => ?_) (fun h3 => ?_)
      · refine r_aload_n C dX4_mend_46 rfl (lv_at hl 0 rfl) ?_
        refine r_ldc C (-1000000005) ki_X4_122 (by decide) dX4_mend_47 ?_
        refine r_cVW1 C m_X4_74 (cM_finds (by omega) (by omega)) hP hD hS [0, 1, 2, 3, 4, 5, 6, 7, 8, 9, 10, 11] (wM a k s kp ot sd (fnd st (-1000000005)) sp tp bi si nu mo ik (-1) tl ta fr to va iw) rfl rfl rfl rfl rfl rfl rfl hl.1 dX4_mend_49 (fun H locs hP hD hS => ?_)
        exact r_iretE C hP hS (ot, sd, sp, mo, tl) (by first | (simp only [fMend, fD, fV, payS, h1, h2, h3, not_true_eq_false, not_false_eq_true, and_true, true_and, and_false, false_and, or_true, true_or, or_false, false_or, if_true, if_false, ne_eq, reduceIte]; done) | (exfalso; omega)) (by first | (simp only [fMend, fD, fV, payS, h1, h2, h3, not_true_eq_false, not_false_eq_true, and_true, true_and, and_false, false_and, or_true, true_or, or_false, false_or, if_true, if_false, ne_eq, reduceIte]; done) | (exfalso; omega)) dX4_mend_52
      · refine r_aload_n C dX4_mend_30 rfl (lv_at hl 0 rfl) ?_
        refine r_iload_n C dX4_mend_31 rfl (lv_at hl 1 rfl) ?_
        refine r_iload_n C dX4_mend_32 rfl (lv_at hl 2 rfl) ?_
        refine r_cVW2 C m_X4_128 (cM_pays (by omega) (by omega) (by omega) (by omega) hs) hP hD hS [0, 1, 2, 3, 4, 5, 6, 7, 8, 9, 10, 11] (wM a k (payS s m c) kp ot sd st sp tp bi si nu mo ik (-1) tl ta fr to va iw) rfl rfl rfl rfl rfl rfl rfl hl.1 dX4_mend_33 (fun H locs hP hD hS => ?_)
        have hs1 : Ok (payS s m c) := ok_payS hs (by omega) (by omega) (by omega) (by omega)
        refine r_ifB_eq C (tgt := 46) dX4_mend_36 (by decide) (fun h4 => ?_) (fun h4 => ?_)
        · refine r_aload_n C dX4_mend_46 rfl (lv_at hl 0 rfl) ?_
          refine r_ldc C (-1000000005) ki_X4_122 (by decide) dX4_mend_47 ?_
          refine r_cVW1 C m_X4_74 (cM_finds (by omega) (by omega)) hP hD hS [0, 1, 2, 3, 4, 5, 6, 7, 8, 9, 10, 11] (wM a k (payS s m c) kp ot sd (fnd st (-1000000005)) sp tp bi si nu mo ik (-1) tl ta fr to va iw) rfl rfl rfl rfl rfl rfl rfl hl.1 dX4_mend_49 (fun H locs hP hD hS => ?_)
          exact r_iretE C hP hS (ot, sd, sp, mo, tl) (by first | (simp only [fMend, fD, fV, payS, h1, h2, h3, h4, not_true_eq_false, not_false_eq_true, and_true, true_and, and_false, false_and, or_true, true_or, or_false, false_or, if_true, if_false, ne_eq, reduceIte]; done) | (exfalso; omega)) (by first | (simp only [fMend, fD, fV, payS, h1, h2, h3, h4, not_true_eq_false, not_false_eq_true, and_true, true_and, and_false, false_and, or_true, true_or, or_false, false_or, if_true, if_false, ne_eq, reduceIte]; done) | (exfalso; omega)) dX4_mend_52
        · refine r_aload_n C dX4_mend_39 rfl (lv_at hl 0 rfl) ?_
          refine r_cVR0 C m_X4_131 (cM_wrongMany hs1) hP rfl rfl hl.1 dX4_mend_40 ?_
          refine r_goto C (tgt := 52) dX4_mend_43 (by decide) ?_
          exact r_iretE C hP hS (ot, sd, sp, mo, tl) (by first | (simp only [fMend, fD, fV, payS, h1, h2, h3, h4, not_true_eq_false, not_false_eq_true, and_true, true_and, and_false, false_and, or_true, true_or, or_false, false_or, if_true, if_false, ne_eq, reduceIte]; done) | (exfalso; omega)) (by first | (simp only [fMend, fD, fV, payS, h1, h2, h3, h4, not_true_eq_false, not_false_eq_true, and_true, true_and, and_false, false_and, or_true, true_or, or_false, false_or, if_true, if_false, ne_eq, reduceIte]; done) | (exfalso; omega)) dX4_mend_52
    · refine r_aload_n C dX4_mend_15 rfl (lv_at hl 0 rfl) ?_
      refine r_ldc C (-1000000001) ki_X4_48 (by decide) dX4_mend_16 ?_
      refine r_cVW1 C m_X4_74 (cM_finds (by omega) (by omega)) hP hD hS [0, 1, 2, 3, 4, 5, 6, 7, 8, 9, 10, 11] (wM a k s kp ot sd (fnd st (-1000000001)) sp tp bi si nu mo ik (-1) tl ta fr to va iw) rfl rfl rfl rfl rfl rfl rfl hl.1 dX4_mend_18 (fun H locs hP hD hS => ?_)
      exact r_iretE C hP hS (ot, sd, sp, mo, tl) (by first | (simp only [fMend, fD, fV, payS, h1, h2, not_true_eq_false, not_false_eq_true, and_true, true_and, and_false, false_and, or_true, true_or, or_false, false_or, if_true, if_false, ne_eq, reduceIte]; done) | (exfalso; omega)) (by first | (simp only [fMend, fD, fV, payS, h1, h2, not_true_eq_false, not_false_eq_true, and_true, true_and, and_false, false_and, or_true, true_or, or_false, false_or, if_true, if_false, ne_eq, reduceIte]; done) | (exfalso; omega)) dX4_mend_21
set_option maxHeartbeats 4000000 in
set_option maxRecDepth 100000 in
theorem cM_years {n0 : Int} (zn0 : In32 n0) (hs : Ok s) (hy : 0 ≤ s 1 ∧ s 1 ≤ 9999) : ME l yX4_years cX4_years 2 (some .int) 6 144 D k [.ref (a 0), .int (iI n0)] (wM a k s kp ot sd st sp tp bi si nu mo ik (-1) tl ta fr to va iw) (fun x : (Int → Int) × (Int → Int) × (Int → Int) × (Int → Int64) × Int => wM a k ((fYears s st n0).2.1) kp x.1 x.2.1 ((fYears s st n0).2.2) x.2.2.1 tp bi si nu x.2.2.2.1 ik (-1) x.2.2.2.2 ta fr to va iw) (some (.int (iI ((fYears s st n0).1)))) := by
  refine ME.mk RX4 rfl (by decide +kernel) (Nat.le_of_ble_eq_true rfl) (fun p e U m0 below meth cd ls C hP hD hS hl => ?_)
  have hl : lv_has ls 2 [(0, .ref (a 0)), (1, .int (iI n0))] := hl
  have zn01 := zn0.1
  have zn02 := zn0.2
  have h00 := hs.1 0 (by decide)
  have h06 := hs.2.2.1
  refine r_iload_n C dX4_years_0 rfl (lv_at hl 1 rfl) ?_
  refine r_i2l C dX4_years_1 (by exact ⟨by omega, by omega⟩) ?_
  refine r_lconst C (z := 1) dX4_years_2 (by decide) ?_
  refine r_ldc2 C (60) kl_X4_138 (by decide) dX4_years_3 ?_
  refine r_cSR3 C m_X4_51 (cM_in (by exact ⟨by omega, by omega⟩) ⟨by decide, by decide⟩ ⟨by decide, by decide⟩) pn0 hl.1 dX4_years_6 ?_
  refine r_ifB_ne C (tgt := 19) dX4_years_9 (by decide) (fun h1 => ?_) (fun h1 => ?_)
  · refine r_aload_n C dX4_years_19 rfl (lv_at hl 0 rfl) ?_
    refine g_X4_7 C hP 0 rfl rfl dX4_years_20 ?_
    refine r_iconst C dX4_years_23 ?_
    refine r_iald C hP 1 rfl dX4_years_24 (by omega) (by omega) (by decide) ?_
    refine r_iload_n C dX4_years_25 rfl (lv_at hl 1 rfl) ?_
    refine r_iadd C dX4_years_26 ?_
    refine r_sipush C dX4_years_27 (by decide) ?_
    refine r_icmp_le C (tgt := 40) dX4_years_30 (by decide) (by have := hy; exact ⟨by omega, by omega⟩) ⟨by decide, by decide⟩ (fun h2 => ?_) (fun h2 => ?_)
    · refine r_aload_n C dX4_years_40 rfl (lv_at hl 0 rfl) ?_
      refine r_iload_n C dX4_years_41 rfl (lv_at hl 1 rfl) ?_
      refine r_cVW1 C m_X4_140 (cM_goesOn (by omega) (by omega) hs (by exact ⟨by omega, by omega⟩)) hP hD hS [0, 1, 2, 3, 4, 5, 6, 7, 8, 9, 10, 11] (wM a k (ysN s (-1) n0.toNat) kp ot sd st sp tp bi si nu mo ik (-1) tl ta fr to va iw) rfl rfl rfl rfl rfl rfl rfl hl.1 dX4_years_42 (fun H locs hP hD hS => ?_)
      have hs1 : Ok (ysN s (-1) n0.toNat) := ok_ysN hs ((-1)) _
      refine r_aload_n C dX4_years_45 rfl (lv_at hl 0 rfl) ?_
      refine r_cVR0 C m_X4_131 (cM_wrongMany hs1) hP rfl rfl hl.1 dX4_years_46 ?_
      exact r_iretE C hP hS (ot, sd, sp, mo, tl) (by first | (simp only [fYears, fD, fV, h1, h2, not_true_eq_false, not_false_eq_true, and_true, true_and, and_false, false_and, or_true, true_or, or_false, false_or, if_true, if_false, ne_eq, reduceIte]; done) | (exfalso; omega)) (by first | (simp only [fYears, fD, fV, h1, h2, not_true_eq_false, not_false_eq_true, and_true, true_and, and_false, false_and, or_true, true_or, or_false, false_or, if_true, if_false, ne_eq, reduceIte]; done) | (exfalso; omega)) dX4_years_49
    · refine r_aload_n C dX4_years_33 rfl (lv_at hl 0 rfl) ?_
      refine r_ldc C (-1000000005) ki_X4_122 (by decide) dX4_years_34 ?_
      refine r_cVW1 C m_X4_74 (cM_finds (by omega) (by omega)) hP hD hS [0, 1, 2, 3, 4, 5, 6, 7, 8, 9, 10, 11] (wM a k s kp ot sd (fnd st (-1000000005)) sp tp bi si nu mo ik (-1) tl ta fr to va iw) rfl rfl rfl rfl rfl rfl rfl hl.1 dX4_years_36 (fun H locs hP hD hS => ?_)
      exact r_iretE C hP hS (ot, sd, sp, mo, tl) (by first | (simp only [fYears, fD, fV, h1, h2, not_true_eq_false, not_false_eq_true, and_true, true_and, and_false, false_and, or_true, true_or, or_false, false_or, if_true, if_false, ne_eq, reduceIte]; done) | (exfalso; omega)) (by first | (simp only [fYears, fD, fV, h1, h2, not_true_eq_false, not_false_eq_true, and_true, true_and, and_false, false_and, or_true, true_or, or_false, false_or, if_true, if_false, ne_eq, reduceIte]; done) | (exfalso; omega)) dX4_years_39
  · refine r_aload_n C dX4_years_12 rfl (lv_at hl 0 rfl) ?_
    refine r_ldc C (-1000000001) ki_X4_48 (by decide) dX4_years_13 ?_
    refine r_cVW1 C m_X4_74 (cM_finds (by omega) (by omega)) hP hD hS [0, 1, 2, 3, 4, 5, 6, 7, 8, 9, 10, 11] (wM a k s kp ot sd (fnd st (-1000000001)) sp tp bi si nu mo ik (-1) tl ta fr to va iw) rfl rfl rfl rfl rfl rfl rfl hl.1 dX4_years_15 (fun H locs hP hD hS => ?_)
    exact r_iretE C hP hS (ot, sd, sp, mo, tl) (by first | (simp only [fYears, fD, fV, h1, not_true_eq_false, not_false_eq_true, and_true, true_and, and_false, false_and, or_true, true_or, or_false, false_or, if_true, if_false, ne_eq, reduceIte]; done) | (exfalso; omega)) (by first | (simp only [fYears, fD, fV, h1, not_true_eq_false, not_false_eq_true, and_true, true_and, and_false, false_and, or_true, true_or, or_false, false_or, if_true, if_false, ne_eq, reduceIte]; done) | (exfalso; omega)) dX4_years_18
set_option maxHeartbeats 4000000 in
set_option maxRecDepth 100000 in
theorem cM_now {w : Int} (zw : In32 w) (hs : Ok s) : ME l yX4_now cX4_now 2 (some .int) 3 66 D k [.ref (a 0), .int (iI w)] (wM a k s kp ot sd st sp tp bi si nu mo ik (-1) tl ta fr to va iw) (fun x : (Int → Int) × (Int → Int) × (Int → Int) × (Int → Int64) × Int => wM a k ((fNow s st w).2.1) kp x.1 x.2.1 ((fNow s st w).2.2) x.2.2.1 tp bi si nu x.2.2.2.1 ik (-1) x.2.2.2.2 ta fr to va iw) (some (.int (iI ((fNow s st w).1)))) := by
  refine ME.mk RX4 rfl (by decide +kernel) (Nat.le_of_ble_eq_true rfl) (fun p e U m0 below meth cd ls C hP hD hS hl => ?_)
  have hl : lv_has ls 2 [(0, .ref (a 0)), (1, .int (iI w))] := hl
  have zw1 := zw.1
  have zw2 := zw.2
  have h00 := hs.1 0 (by decide)
  have h06 := hs.2.2.1
  refine r_iload_n C dX4_now_0 rfl (lv_at hl 1 rfl) ?_
  by_cases h1 : w = 0
  · refine r_tableIn C (0) h1 dX4_now_1 (by decide) (by decide) rfl (tgt := 36) (by decide) ?_
    refine r_aload_n C dX4_now_36 rfl (lv_at hl 0 rfl) ?_
    refine g_X4_7 C hP 0 rfl rfl dX4_now_37 ?_
    refine r_iconst C dX4_now_40 ?_
    refine r_iald C hP 1 rfl dX4_now_41 (by omega) (by omega) (by decide) ?_
    exact r_iretE C hP hS (ot, sd, sp, mo, tl) (by first | (simp only [fNow, fD, fV, eq_true h1, not_true_eq_false, not_false_eq_true, and_true, true_and, and_false, false_and, or_true, true_or, or_false, false_or, if_true, if_false, ne_eq, reduceIte]; done) | (exfalso; omega)) (by first | (simp only [fNow, fD, fV, eq_true h1, not_true_eq_false, not_false_eq_true, and_true, true_and, and_false, false_and, or_true, true_or, or_false, false_or, if_true, if_false, ne_eq, reduceIte]; done) | (exfalso; omega)) dX4_now_42
  by_cases h2 : w = 1
  · refine r_tableIn C (1) h2 dX4_now_1 (by decide) (by decide) rfl (tgt := 43) (by decide) ?_
    refine r_aload_n C dX4_now_43 rfl (lv_at hl 0 rfl) ?_
    refine r_cVR0 C m_X4_131 (cM_wrongMany hs) hP rfl rfl hl.1 dX4_now_44 ?_
    exact r_iretE C hP hS (ot, sd, sp, mo, tl) (by first | (simp only [fNow, fD, fV, h1, eq_true h2, not_true_eq_false, not_false_eq_true, and_true, true_and, and_false, false_and, or_true, true_or, or_false, false_or, if_true, if_false, ne_eq, reduceIte]; done) | (exfalso; omega)) (by first | (simp only [fNow, fD, fV, h1, eq_true h2, not_true_eq_false, not_false_eq_true, and_true, true_and, and_false, false_and, or_true, true_or, or_false, false_or, if_true, if_false, ne_eq, reduceIte]; done) | (exfalso; omega)) dX4_now_47
  by_cases h3 : w = 2
  · refine r_tableIn C (2) h3 dX4_now_1 (by decide) (by decide) rfl (tgt := 48) (by decide) ?_
    refine r_aload_n C dX4_now_48 rfl (lv_at hl 0 rfl) ?_
    refine r_iconst C dX4_now_49 ?_
    refine r_cVR1 C m_X4_144 (cM_together (by omega) (by omega) hs) hP rfl rfl hl.1 dX4_now_50 ?_
    exact r_iretE C hP hS (ot, sd, sp, mo, tl) (by first | (simp only [fNow, fD, fV, h1, h2, eq_true h3, not_true_eq_false, not_false_eq_true, and_true, true_and, and_false, false_and, or_true, true_or, or_false, false_or, if_true, if_false, ne_eq, reduceIte]; done) | (exfalso; omega)) (by first | (simp only [fNow, fD, fV, h1, h2, eq_true h3, not_true_eq_false, not_false_eq_true, and_true, true_and, and_false, false_and, or_true, true_or, or_false, false_or, if_true, if_false, ne_eq, reduceIte]; done) | (exfalso; omega)) dX4_now_53
  by_cases h4 : w = 3
  · refine r_tableIn C (3) h4 dX4_now_1 (by decide) (by decide) rfl (tgt := 54) (by decide) ?_
    refine r_aload_n C dX4_now_54 rfl (lv_at hl 0 rfl) ?_
    refine r_iconst C dX4_now_55 ?_
    refine r_cVR1 C m_X4_144 (cM_together (by omega) (by omega) hs) hP rfl rfl hl.1 dX4_now_56 ?_
    exact r_iretE C hP hS (ot, sd, sp, mo, tl) (by first | (simp only [fNow, fD, fV, h1, h2, h3, eq_true h4, not_true_eq_false, not_false_eq_true, and_true, true_and, and_false, false_and, or_true, true_or, or_false, false_or, if_true, if_false, ne_eq, reduceIte]; done) | (exfalso; omega)) (by first | (simp only [fNow, fD, fV, h1, h2, h3, eq_true h4, not_true_eq_false, not_false_eq_true, and_true, true_and, and_false, false_and, or_true, true_or, or_false, false_or, if_true, if_false, ne_eq, reduceIte]; done) | (exfalso; omega)) dX4_now_59
  by_cases h5 : w = 4
  · refine r_tableIn C (4) h5 dX4_now_1 (by decide) (by decide) rfl (tgt := 60) (by decide) ?_
    refine r_aload_n C dX4_now_60 rfl (lv_at hl 0 rfl) ?_
    refine g_X4_7 C hP 0 rfl rfl dX4_now_61 ?_
    refine r_iconst C dX4_now_64 ?_
    refine r_iald C hP 1 rfl dX4_now_65 (by omega) (by omega) (by decide) ?_
    exact r_iretE C hP hS (ot, sd, sp, mo, tl) (by first | (simp only [fNow, fD, fV, h1, h2, h3, h4, eq_true h5, not_true_eq_false, not_false_eq_true, and_true, true_and, and_false, false_and, or_true, true_or, or_false, false_or, if_true, if_false, ne_eq, reduceIte]; done) | (exfalso; omega)) (by first | (simp only [fNow, fD, fV, h1, h2, h3, h4, eq_true h5, not_true_eq_false, not_false_eq_true, and_true, true_and, and_false, false_and, or_true, true_or, or_false, false_or, if_true, if_false, ne_eq, reduceIte]; done) | (exfalso; omega)) dX4_now_66
  refine r_tableOut C dX4_now_1 (by exact ⟨by omega, by omega⟩) (by omega) (tgt := 67) (by decide) ?_
  refine r_aload_n C dX4_now_67 rfl (lv_at hl 0 rfl) ?_
  refine r_ldc C (-1000000001) ki_X4_48 (by decide) dX4_now_68 ?_
  refine r_cVW1 C m_X4_74 (cM_finds (by omega) (by omega)) hP hD hS [0, 1, 2, 3, 4, 5, 6, 7, 8, 9, 10, 11] (wM a k s kp ot sd (fnd st (-1000000001)) sp tp bi si nu mo ik (-1) tl ta fr to va iw) rfl rfl rfl rfl rfl rfl rfl hl.1 dX4_now_70 (fun H locs hP hD hS => ?_)
  exact r_iretE C hP hS (ot, sd, sp, mo, tl) (by first | (simp only [fNow, fD, fV, h1, h2, h3, h4, h5, not_true_eq_false, not_false_eq_true, and_true, true_and, and_false, false_and, or_true, true_or, or_false, false_or, if_true, if_false, ne_eq, reduceIte]; done) | (exfalso; omega)) (by first | (simp only [fNow, fD, fV, h1, h2, h3, h4, h5, not_true_eq_false, not_false_eq_true, and_true, true_and, and_false, false_and, or_true, true_or, or_false, false_or, if_true, if_false, ne_eq, reduceIte]; done) | (exfalso; omega)) dX4_now_73
set_option maxHeartbeats 4000000 in
set_option maxRecDepth 100000 in
theorem cM_on {m : Int} {n0 : Int} {w : Int} (zm : In32 m) (zn0 : In32 n0) (zw : In32 w) (hs : Ok s) : ME l yX4_on cX4_on 4 (some .int) 6 144 D k [.ref (a 0), .int (iI m), .int (iI n0), .int (iI w)] (wM a k s kp ot sd st sp tp bi si nu mo ik (-1) tl ta fr to va iw) (fun x : (Int → Int) × (Int → Int) × (Int → Int) × (Int → Int64) × Int => wM a k ((fOn s st m n0 w).2.1) kp x.1 x.2.1 ((fOn s st m n0 w).2.2) x.2.2.1 tp bi si nu x.2.2.2.1 ik (-1) x.2.2.2.2 ta fr to va iw) (some (.int (iI ((fOn s st m n0 w).1)))) := by
  refine ME.mk RX4 rfl (by decide +kernel) (Nat.le_of_ble_eq_true rfl) (fun p e U m0 below meth cd ls C hP hD hS hl => ?_)
  have hl : lv_has ls 4 [(0, .ref (a 0)), (1, .int (iI m)), (2, .int (iI n0)), (3, .int (iI w))] := hl
  have zm1 := zm.1
  have zm2 := zm.2
  have zn01 := zn0.1
  have zn02 := zn0.2
  have zw1 := zw.1
  have zw2 := zw.2
  have h00 := hs.1 0 (by decide)
  have h06 := hs.2.2.1
  refine r_aload_n C dX4_on_0 rfl (lv_at hl 0 rfl) ?_
  refine r_iload_n C dX4_on_1 rfl (lv_at hl 1 rfl) ?_
  refine r_cVR1 C m_X4_109 (cM_isMender (by exact ⟨by omega, by omega⟩) hs) hP rfl rfl hl.1 dX4_on_2 ?_
  refine r_ifB_eq C (tgt := 32) dX4_on_5 (by decide) (fun h1 => ?_) (fun h1 => ?_)
  · refine r_aload_n C dX4_on_32 rfl (lv_at hl 0 rfl) ?_
    refine r_ldc C (-1000000001) ki_X4_48 (by decide) dX4_on_33 ?_
    refine r_cVW1 C m_X4_74 (cM_finds (by omega) (by omega)) hP hD hS [0, 1, 2, 3, 4, 5, 6, 7, 8, 9, 10, 11] (wM a k s kp ot sd (fnd st (-1000000001)) sp tp bi si nu mo ik (-1) tl ta fr to va iw) rfl rfl rfl rfl rfl rfl rfl hl.1 dX4_on_35 (fun H locs hP hD hS => ?_)
    exact r_iretE C hP hS (ot, sd, sp, mo, tl) (by first | (simp only [fOn, fD, fV, h1, not_true_eq_false, not_false_eq_true, and_true, true_and, and_false, false_and, or_true, true_or, or_false, false_or, if_true, if_false, ne_eq, reduceIte]; done) | (exfalso; omega)) (by first | (simp only [fOn, fD, fV, h1, not_true_eq_false, not_false_eq_true, and_true, true_and, and_false, false_and, or_true, true_or, or_false, false_or, if_true, if_false, ne_eq, reduceIte]; done) | (exfalso; omega)) dX4_on_38
  · refine r_iload_n C dX4_on_8 rfl (lv_at hl 2 rfl) ?_
    refine r_i2l C dX4_on_9 (by exact ⟨by omega, by omega⟩) ?_
    refine r_lconst C (z := 0) dX4_on_10 (by decide) ?_
    refine r_ldc2 C (60) kl_X4_138 (by decide) dX4_on_11 ?_
    refine r_cSR3 C m_X4_51 (cM_in (by exact ⟨by omega, by omega⟩) ⟨by decide, by decide⟩ ⟨by decide, by decide⟩) pn0 hl.1 dX4_on_14 ?_
    refine r_ifB_eq C (tgt := 32) dX4_on_17 (by decide) (fun h2 => ?_) (fun h2 => ?_)
    · refine r_aload_n C dX4_on_32 rfl (lv_at hl 0 rfl) ?_
      refine r_ldc C (-1000000001) ki_X4_48 (by decide) dX4_on_33 ?_
      refine r_cVW1 C m_X4_74 (cM_finds (by omega) (by omega)) hP hD hS [0, 1, 2, 3, 4, 5, 6, 7, 8, 9, 10, 11] (wM a k s kp ot sd (fnd st (-1000000001)) sp tp bi si nu mo ik (-1) tl ta fr to va iw) rfl rfl rfl rfl rfl rfl rfl hl.1 dX4_on_35 (fun H locs hP hD hS => ?_)
      exact r_iretE C hP hS (ot, sd, sp, mo, tl) (by first | (simp only [fOn, fD, fV, h1, h2, not_true_eq_false, not_false_eq_true, and_true, true_and, and_false, false_and, or_true, true_or, or_false, false_or, if_true, if_false, ne_eq, reduceIte]; done) | (exfalso; omega)) (by first | (simp only [fOn, fD, fV, h1, h2, not_true_eq_false, not_false_eq_true, and_true, true_and, and_false, false_and, or_true, true_or, or_false, false_or, if_true, if_false, ne_eq, reduceIte]; done) | (exfalso; omega)) dX4_on_38
    · refine r_iload_n C dX4_on_20 rfl (lv_at hl 3 rfl) ?_
      refine r_i2l C dX4_on_21 (by exact ⟨by omega, by omega⟩) ?_
      refine r_lconst C (z := 0) dX4_on_22 (by decide) ?_
      refine r_ldc2 C (2) kl_X4_147 (by decide) dX4_on_23 ?_
      refine r_cSR3 C m_X4_51 (cM_in (by exact ⟨by omega, by omega⟩) ⟨by decide, by decide⟩ ⟨by decide, by decide⟩) pn0 hl.1 dX4_on_26 ?_
      refine r_ifB_ne C (tgt := 39) dX4_on_29 (by decide) (fun h3 => ?_) (fun h3 => ?_)
      · refine r_aload_n C dX4_on_39 rfl (lv_at hl 0 rfl) ?_
        refine r_cVW0 C m_X4_149 cM_laysAside hP hD hS [0, 1, 2, 3, 4, 5, 6, 7, 8, 9, 10, 11] (wM a k s kp ot (cpN s sd 123) st sp tp bi si nu mo ik (-1) tl ta fr to va iw) rfl rfl rfl rfl rfl rfl rfl hl.1 dX4_on_40 (fun H locs hP hD hS => ?_)
        refine r_aload_n C dX4_on_43 rfl (lv_at hl 0 rfl) ?_
        refine r_iload_n C dX4_on_44 rfl (lv_at hl 2 rfl) ?_
        refine r_cVW1 C m_X4_140 (cM_goesOn (by omega) (by omega) hs (by exact ⟨by omega, by omega⟩)) hP hD hS [0, 1, 2, 3, 4, 5, 6, 7, 8, 9, 10, 11] (wM a k (ysN s (-1) n0.toNat) kp ot (cpN s sd 123) st sp tp bi si nu mo ik (-1) tl ta fr to va iw) rfl rfl rfl rfl rfl rfl rfl hl.1 dX4_on_45 (fun H locs hP hD hS => ?_)
        have hs1 : Ok (ysN s (-1) n0.toNat) := ok_ysN hs ((-1)) _
        refine r_aload_n C dX4_on_48 rfl (lv_at hl 0 rfl) ?_
        refine r_aload_n C dX4_on_49 rfl (lv_at hl 0 rfl) ?_
        refine r_iload_n C dX4_on_50 rfl (lv_at hl 1 rfl) ?_
        refine r_iconst C dX4_on_51 ?_
        refine r_iload_n C dX4_on_52 rfl (lv_at hl 3 rfl) ?_
        refine r_iadd C dX4_on_53 ?_
        refine r_cVR2 C m_X4_86 (cM_its (by omega) (by omega) (by omega) (by omega)) hP rfl rfl hl.1 dX4_on_54 ?_
        refine r_cVW1 C m_X4_152 (cM_takesBack2 hs.2.1 hs1.2.1) hP hD hS [0, 1, 2, 3, 4, 5, 6, 7, 8, 9, 10, 11] (wM a k s kp ot (cpN s sd 123) st sp tp bi si nu mo ik (-1) tl ta fr to va iw) rfl rfl rfl rfl rfl rfl rfl hl.1 dX4_on_57 (fun H locs hP hD hS => ?_)
        exact r_iretE C hP hS (ot, cpN s sd 123, sp, mo, tl) (by first | (simp only [fOn, fD, fV, h1, h2, h3, not_true_eq_false, not_false_eq_true, and_true, true_and, and_false, false_and, or_true, true_or, or_false, false_or, if_true, if_false, ne_eq, reduceIte]; done) | (exfalso; omega)) (by first | (simp only [fOn, fD, fV, h1, h2, h3, not_true_eq_false, not_false_eq_true, and_true, true_and, and_false, false_and, or_true, true_or, or_false, false_or, if_true, if_false, ne_eq, reduceIte]; done) | (exfalso; omega)) dX4_on_60
      · refine r_aload_n C dX4_on_32 rfl (lv_at hl 0 rfl) ?_
        refine r_ldc C (-1000000001) ki_X4_48 (by decide) dX4_on_33 ?_
        refine r_cVW1 C m_X4_74 (cM_finds (by omega) (by omega)) hP hD hS [0, 1, 2, 3, 4, 5, 6, 7, 8, 9, 10, 11] (wM a k s kp ot sd (fnd st (-1000000001)) sp tp bi si nu mo ik (-1) tl ta fr to va iw) rfl rfl rfl rfl rfl rfl rfl hl.1 dX4_on_35 (fun H locs hP hD hS => ?_)
        exact r_iretE C hP hS (ot, sd, sp, mo, tl) (by first | (simp only [fOn, fD, fV, h1, h2, h3, not_true_eq_false, not_false_eq_true, and_true, true_and, and_false, false_and, or_true, true_or, or_false, false_or, if_true, if_false, ne_eq, reduceIte]; done) | (exfalso; omega)) (by first | (simp only [fOn, fD, fV, h1, h2, h3, not_true_eq_false, not_false_eq_true, and_true, true_and, and_false, false_and, or_true, true_or, or_false, false_or, if_true, if_false, ne_eq, reduceIte]; done) | (exfalso; omega)) dX4_on_38
set_option maxHeartbeats 4000000 in
set_option maxRecDepth 100000 in
theorem cM_wrong {n0 : Int} (zn0 : In32 n0) (hs : Ok s) : ME l yX4_wrong cX4_wrong 2 (some .int) 7 165 D k [.ref (a 0), .int (iI n0)] (wM a k s kp ot sd st sp tp bi si nu mo ik (-1) tl ta fr to va iw) (fun x : (Int → Int) × (Int → Int) × (Int → Int) × (Int → Int64) × Int => wM a k ((fWrong s st n0).2.1) kp x.1 x.2.1 ((fWrong s st n0).2.2) x.2.2.1 tp bi si nu x.2.2.2.1 ik (-1) x.2.2.2.2 ta fr to va iw) (some (.int (iI ((fWrong s st n0).1)))) := by
  refine ME.mk RX4 rfl (by decide +kernel) (Nat.le_of_ble_eq_true rfl) (fun p e U m0 below meth cd ls C hP hD hS hl => ?_)
  have hl : lv_has ls 2 [(0, .ref (a 0)), (1, .int (iI n0))] := hl
  have zn01 := zn0.1
  have zn02 := zn0.2
  have h00 := hs.1 0 (by decide)
  have h06 := hs.2.2.1
  refine r_iload_n C dX4_wrong_0 rfl (lv_at hl 1 rfl) ?_
  refine r_i2l C dX4_wrong_1 (by exact ⟨by omega, by omega⟩) ?_
  refine r_lconst C (z := 0) dX4_wrong_2 (by decide) ?_
  refine r_ldc2 C (60) kl_X4_138 (by decide) dX4_wrong_3 ?_
  refine r_cSR3 C m_X4_51 (cM_in (by exact ⟨by omega, by omega⟩) ⟨by decide, by decide⟩ ⟨by decide, by decide⟩) pn0 hl.1 dX4_wrong_6 ?_
  refine r_ifB_eq C (tgt := 20) dX4_wrong_9 (by decide) (fun h1 => ?_) (fun h1 => ?_)
  · refine r_aload_n C dX4_wrong_20 rfl (lv_at hl 0 rfl) ?_
    refine r_ldc C (-1000000001) ki_X4_48 (by decide) dX4_wrong_21 ?_
    refine r_cVW1 C m_X4_74 (cM_finds (by omega) (by omega)) hP hD hS [0, 1, 2, 3, 4, 5, 6, 7, 8, 9, 10, 11] (wM a k s kp ot sd (fnd st (-1000000001)) sp tp bi si nu mo ik (-1) tl ta fr to va iw) rfl rfl rfl rfl rfl rfl rfl hl.1 dX4_wrong_23 (fun H locs hP hD hS => ?_)
    exact r_iretE C hP hS (ot, sd, sp, mo, tl) (by first | (simp only [fWrong, fD, fV, h1, not_true_eq_false, not_false_eq_true, and_true, true_and, and_false, false_and, or_true, true_or, or_false, false_or, if_true, if_false, ne_eq, reduceIte]; done) | (exfalso; omega)) (by first | (simp only [fWrong, fD, fV, h1, not_true_eq_false, not_false_eq_true, and_true, true_and, and_false, false_and, or_true, true_or, or_false, false_or, if_true, if_false, ne_eq, reduceIte]; done) | (exfalso; omega)) dX4_wrong_26
  · refine r_aload_n C dX4_wrong_12 rfl (lv_at hl 0 rfl) ?_
    refine r_iload_n C dX4_wrong_13 rfl (lv_at hl 1 rfl) ?_
    refine r_cVW1 C m_X4_155 (cM_wrongOn (by omega) (by omega) hs (by exact ⟨by omega, by omega⟩)) hP hD hS [0, 1, 2, 3, 4, 5, 6, 7, 8, 9, 10, 11] (wM a k s kp ot (cpN s sd 123) st sp tp bi si nu mo ik (-1) tl ta fr to va iw) rfl rfl rfl rfl rfl rfl rfl hl.1 dX4_wrong_14 (fun H locs hP hD hS => ?_)
    refine r_goto C (tgt := 26) dX4_wrong_17 (by decide) ?_
    exact r_iretE C hP hS (ot, cpN s sd 123, sp, mo, tl) (by first | (simp only [fWrong, fD, fV, h1, not_true_eq_false, not_false_eq_true, and_true, true_and, and_false, false_and, or_true, true_or, or_false, false_or, if_true, if_false, ne_eq, reduceIte]; done) | (exfalso; omega)) (by first | (simp only [fWrong, fD, fV, h1, not_true_eq_false, not_false_eq_true, and_true, true_and, and_false, false_and, or_true, true_or, or_false, false_or, if_true, if_false, ne_eq, reduceIte]; done) | (exfalso; omega)) dX4_wrong_26
end MODEL
