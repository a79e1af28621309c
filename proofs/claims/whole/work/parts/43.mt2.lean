section CLASS
variable {l : Launch} {D : va_G} {k : Nat → ClassId} {a c : Nat → Nat} {s t kq tp bi si st : Int → Int} {wr tw kw : Int64} {y ty ky ta tk sa en nm ik bt sz : Int} {nu nf : Int → Int64}
set_option maxHeartbeats 4000000 in
set_option maxRecDepth 100000 in
theorem cT_draw {c0 : Int} {w : Int} {v : Int} (zc0 : In32 c0) (zw : In32 w) (zv : In32 v) (hs : Ok s) : ME l yX3_draw cX3_draw 4 (some .int) 2 42 D k [.ref (a 0), .int (iI c0), .int (iI w), .int (iI v)] (wT a k s (lB (wrF s)) y t tw ty kq (lB (wrF kq)) ky tp ta tk sa en nm bi si nu st ik) (fun x : (Int → Int) × Int64 × Int × Int × Int × Int => wT a k ((fDraw s st c0 w v).2.1) (lB (wrF ((fDraw s st c0 w v).2.1))) y x.1 x.2.1 x.2.2.1 kq (lB (wrF kq)) ky tp ta x.2.2.2.1 x.2.2.2.2.1 x.2.2.2.2.2 nm bi si nu ((fDraw s st c0 w v).2.2) ik) (some (.int (iI ((fDraw s st c0 w v).1)))) := by
  refine ME.mk RX3 rfl (by decide +kernel) (Nat.le_of_ble_eq_true rfl) (fun p e U m0 below meth cd ls C hP hD hS hl => ?_)
  have hl : lv_has ls 4 [(0, .ref (a 0)), (1, .int (iI c0)), (2, .int (iI w)), (3, .int (iI v))] := hl
  have zc01 := zc0.1
  have zc02 := zc0.2
  have zw1 := zw.1
  have zw2 := zw.2
  have zv1 := zv.1
  have zv2 := zv.2
  have h00 := hs.1 0 (by decide)
  have h06 := hs.2.2.1
  refine r_iload_n C dX3_draw_0 rfl (lv_at hl 1 rfl) ?_
  refine r_cSR1 C m_X3_40 (cT_noCell (by exact ⟨by omega, by omega⟩)) pn0 hl.1 dX3_draw_1 ?_
  refine r_ifB_ne C (tgt := 25) dX3_draw_4 (by decide) (fun h1 => ?_) (fun h1 => ?_)
  · refine r_aload_n C dX3_draw_25 rfl (lv_at hl 0 rfl) ?_
    refine r_ldc C (-1000000001) ki_X3_48 (by decide) dX3_draw_26 ?_
    refine r_cVWA1 C m_X3_49 (cT_finding (by omega) (by omega)) hP hD hS (wT_ad.trans wT_ad.symm) rfl rfl hl.1 dX3_draw_28 (fun H locs hP hD hS => ?_)
    exact r_iretE C hP hS (t, tw, ty, tk, sa, en) (by first | (simp only [fDraw, fD, fV, h1, not_true_eq_false, not_false_eq_true, and_true, true_and, and_false, false_and, or_true, true_or, or_false, false_or, if_true, if_false, ne_eq, reduceIte]; done) | (exfalso; omega) | ((unfold fDraw fD; (repeat' split)) <;> first | rfl | (exfalso; omega))) (by first | (simp only [fDraw, fD, fV, h1, not_true_eq_false, not_false_eq_true, and_true, true_and, and_false, false_and, or_true, true_or, or_false, false_or, if_true, if_false, ne_eq, reduceIte]; done) | (exfalso; omega) | ((unfold fDraw fD; (repeat' split)) <;> first | rfl | (exfalso; omega))) dX3_draw_31
  · have h1 := Classical.not_not.mp h1
    refine r_iload_n C dX3_draw_7 rfl (lv_at hl 2 rfl) ?_
    refine r_iconst C dX3_draw_8 ?_
    refine r_iconst C dX3_draw_9 ?_
    refine r_cSR3 C m_X3_44 (cT_outside (by exact ⟨by omega, by omega⟩) ⟨by decide, by decide⟩ ⟨by decide, by decide⟩) pn0 hl.1 dX3_draw_10 ?_
    refine r_ifB_ne C (tgt := 25) dX3_draw_13 (by decide) (fun h2 => ?_) (fun h2 => ?_)
    · refine r_aload_n C dX3_draw_25 rfl (lv_at hl 0 rfl) ?_
      refine r_ldc C (-1000000001) ki_X3_48 (by decide) dX3_draw_26 ?_
      refine r_cVWA1 C m_X3_49 (cT_finding (by omega) (by omega)) hP hD hS (wT_ad.trans wT_ad.symm) rfl rfl hl.1 dX3_draw_28 (fun H locs hP hD hS => ?_)
      exact r_iretE C hP hS (t, tw, ty, tk, sa, en) (by first | (simp only [fDraw, fD, fV, h1, h2, not_true_eq_false, not_false_eq_true, and_true, true_and, and_false, false_and, or_true, true_or, or_false, false_or, if_true, if_false, ne_eq, reduceIte]; done) | (exfalso; omega) | ((unfold fDraw fD; (repeat' split)) <;> first | rfl | (exfalso; omega))) (by first | (simp only [fDraw, fD, fV, h1, h2, not_true_eq_false, not_false_eq_true, and_true, true_and, and_false, false_and, or_true, true_or, or_false, false_or, if_true, if_false, ne_eq, reduceIte]; done) | (exfalso; omega) | ((unfold fDraw fD; (repeat' split)) <;> first | rfl | (exfalso; omega))) dX3_draw_31
    · have h2 := Classical.not_not.mp h2
      refine r_iload_n C dX3_draw_16 rfl (lv_at hl 3 rfl) ?_
      refine r_iconst C dX3_draw_17 ?_
      refine r_iconst C dX3_draw_18 ?_
      refine r_cSR3 C m_X3_44 (cT_outside (by exact ⟨by omega, by omega⟩) ⟨by decide, by decide⟩ ⟨by decide, by decide⟩) pn0 hl.1 dX3_draw_19 ?_
      refine r_ifB_eq C (tgt := 32) dX3_draw_22 (by decide) (fun h3 => ?_) (fun h3 => ?_)
      · have h3 := Classical.not_not.mp h3
        refine r_aload_n C dX3_draw_32 rfl (lv_at hl 0 rfl) ?_
        refine g_X3_10 C hP 0 rfl rfl dX3_draw_33 ?_
        refine r_iload_n C dX3_draw_36 rfl (lv_at hl 2 rfl) ?_
        refine r_iload_n C dX3_draw_37 rfl (lv_at hl 1 rfl) ?_
        refine r_iload_n C dX3_draw_38 rfl (lv_at hl 3 rfl) ?_
        refine r_cVW3 C m_X3_53 (cW_paint (b := (fun i => a (1 + i))) (s := s) (y := y) (by exact ⟨by omega, by omega⟩) (by omega) (by omega) (by omega) (by omega) hs) hP hD hS [1, 2, 3, 4, 5, 6, 7] (wT a k (up s ((if w = 0 then 3 else 51) + c0) v) (lB (wrF (up s ((if w = 0 then 3 else 51) + c0) v))) y t tw ty kq (lB (wrF kq)) ky tp ta tk sa en nm bi si nu st ik) rfl lc_T_s rfl lp_T_s (wT_ad.trans wT_ad.symm) rfl rfl hl.1 dX3_draw_39 (fun H locs hP hD hS => ?_)
        have hs1 : Ok (up s ((if w = 0 then 3 else 51) + c0) v) := ok_paint hs (by omega) (by omega) (by omega) (by omega)
        exact r_iretE C hP hS (t, tw, ty, tk, sa, en) (by first | (simp only [fDraw, fD, fV, h1, h2, h3, not_true_eq_false, not_false_eq_true, and_true, true_and, and_false, false_and, or_true, true_or, or_false, false_or, if_true, if_false, ne_eq, reduceIte]; done) | (exfalso; omega) | ((unfold fDraw fD; (repeat' split)) <;> first | rfl | (exfalso; omega))) (by first | (simp only [fDraw, fD, fV, h1, h2, h3, not_true_eq_false, not_false_eq_true, and_true, true_and, and_false, false_and, or_true, true_or, or_false, false_or, if_true, if_false, ne_eq, reduceIte]; done) | (exfalso; omega) | ((unfold fDraw fD; (repeat' split)) <;> first | rfl | (exfalso; omega))) dX3_draw_42
      · refine r_aload_n C dX3_draw_25 rfl (lv_at hl 0 rfl) ?_
        refine r_ldc C (-1000000001) ki_X3_48 (by decide) dX3_draw_26 ?_
        refine r_cVWA1 C m_X3_49 (cT_finding (by omega) (by omega)) hP hD hS (wT_ad.trans wT_ad.symm) rfl rfl hl.1 dX3_draw_28 (fun H locs hP hD hS => ?_)
        exact r_iretE C hP hS (t, tw, ty, tk, sa, en) (by first | (simp only [fDraw, fD, fV, h1, h2, h3, not_true_eq_false, not_false_eq_true, and_true, true_and, and_false, false_and, or_true, true_or, or_false, false_or, if_true, if_false, ne_eq, reduceIte]; done) | (exfalso; omega) | ((unfold fDraw fD; (repeat' split)) <;> first | rfl | (exfalso; omega))) (by first | (simp only [fDraw, fD, fV, h1, h2, h3, not_true_eq_false, not_false_eq_true, and_true, true_and, and_false, false_and, or_true, true_or, or_false, false_or, if_true, if_false, ne_eq, reduceIte]; done) | (exfalso; omega) | ((unfold fDraw fD; (repeat' split)) <;> first | rfl | (exfalso; omega))) dX3_draw_31
set_option maxHeartbeats 4000000 in
set_option maxRecDepth 100000 in
theorem cT_cell {c0 : Int} {w : Int} (zc0 : In32 c0) (zw : In32 w) (hs : Ok s) : ME l yX3_cell cX3_cell 3 (some .int) 2 43 D k [.ref (a 0), .int (iI c0), .int (iI w)] (wT a k s (lB (wrF s)) y t tw ty kq (lB (wrF kq)) ky tp ta tk sa en nm bi si nu st ik) (fun x : (Int → Int) × Int64 × Int × Int × Int × Int => wT a k ((fCell s st c0 w).2.1) (lB (wrF ((fCell s st c0 w).2.1))) y x.1 x.2.1 x.2.2.1 kq (lB (wrF kq)) ky tp ta x.2.2.2.1 x.2.2.2.2.1 x.2.2.2.2.2 nm bi si nu ((fCell s st c0 w).2.2) ik) (some (.int (iI ((fCell s st c0 w).1)))) := by
  refine ME.mk RX3 rfl (by decide +kernel) (Nat.le_of_ble_eq_true rfl) (fun p e U m0 below meth cd ls C hP hD hS hl => ?_)
  have hl : lv_has ls 3 [(0, .ref (a 0)), (1, .int (iI c0)), (2, .int (iI w))] := hl
  have zc01 := zc0.1
  have zc02 := zc0.2
  have zw1 := zw.1
  have zw2 := zw.2
  have h00 := hs.1 0 (by decide)
  have h06 := hs.2.2.1
  refine r_iload_n C dX3_cell_0 rfl (lv_at hl 1 rfl) ?_
  refine r_cSR1 C m_X3_40 (cT_noCell (by exact ⟨by omega, by omega⟩)) pn0 hl.1 dX3_cell_1 ?_
  refine r_ifB_ne C (tgt := 16) dX3_cell_4 (by decide) (fun h1 => ?_) (fun h1 => ?_)
  · refine r_aload_n C dX3_cell_16 rfl (lv_at hl 0 rfl) ?_
    refine r_ldc C (-1000000001) ki_X3_48 (by decide) dX3_cell_17 ?_
    refine r_cVWA1 C m_X3_49 (cT_finding (by omega) (by omega)) hP hD hS (wT_ad.trans wT_ad.symm) rfl rfl hl.1 dX3_cell_19 (fun H locs hP hD hS => ?_)
    exact r_iretE C hP hS (t, tw, ty, tk, sa, en) (by first | (simp only [fCell, fD, fV, h1, not_true_eq_false, not_false_eq_true, and_true, true_and, and_false, false_and, or_true, true_or, or_false, false_or, if_true, if_false, ne_eq, reduceIte]; done) | (exfalso; omega) | ((unfold fCell fD; (repeat' split)) <;> first | rfl | (exfalso; omega))) (by first | (simp only [fCell, fD, fV, h1, not_true_eq_false, not_false_eq_true, and_true, true_and, and_false, false_and, or_true, true_or, or_false, false_or, if_true, if_false, ne_eq, reduceIte]; done) | (exfalso; omega) | ((unfold fCell fD; (repeat' split)) <;> first | rfl | (exfalso; omega))) dX3_cell_22
  · have h1 := Classical.not_not.mp h1
    refine r_iload_n C dX3_cell_7 rfl (lv_at hl 2 rfl) ?_
    refine r_iconst C dX3_cell_8 ?_
    refine r_iconst C dX3_cell_9 ?_
    refine r_cSR3 C m_X3_44 (cT_outside (by exact ⟨by omega, by omega⟩) ⟨by decide, by decide⟩ ⟨by decide, by decide⟩) pn0 hl.1 dX3_cell_10 ?_
    refine r_ifB_eq C (tgt := 23) dX3_cell_13 (by decide) (fun h2 => ?_) (fun h2 => ?_)
    · have h2 := Classical.not_not.mp h2
      refine r_iload_n C dX3_cell_23 rfl (lv_at hl 2 rfl) ?_
      by_cases h3 : w = 0
      · refine r_tableIn C (0) h3 dX3_cell_24 (by decide) (by decide) rfl (tgt := 56) (by decide) ?_
        refine r_aload_n C dX3_cell_56 rfl (lv_at hl 0 rfl) ?_
        refine g_X3_10 C hP 0 rfl rfl dX3_cell_57 ?_
        refine g_X3_57 C hP 1 rfl rfl dX3_cell_60 ?_
        refine r_iload_n C dX3_cell_63 rfl (lv_at hl 1 rfl) ?_
        refine r_ialdV C hP 2 (s (3 + c0)) rfl dX3_cell_64 (by omega) (by omega) (by decide) (la_at (by omega) (by omega)) ?_
        exact r_iretE C hP hS (t, tw, ty, tk, sa, en) (by first | (simp only [fCell, fD, fV, h1, h2, eq_true h3, not_true_eq_false, not_false_eq_true, and_true, true_and, and_false, false_and, or_true, true_or, or_false, false_or, if_true, if_false, ne_eq, reduceIte]; done) | (exfalso; omega) | ((unfold fCell fD; (repeat' split)) <;> first | rfl | (exfalso; omega))) (by first | (simp only [fCell, fD, fV, h1, h2, eq_true h3, not_true_eq_false, not_false_eq_true, and_true, true_and, and_false, false_and, or_true, true_or, or_false, false_or, if_true, if_false, ne_eq, reduceIte]; done) | (exfalso; omega) | ((unfold fCell fD; (repeat' split)) <;> first | rfl | (exfalso; omega))) dX3_cell_65
      by_cases h4 : w = 1
      · refine r_tableIn C (1) h4 dX3_cell_24 (by decide) (by decide) rfl (tgt := 66) (by decide) ?_
        refine r_aload_n C dX3_cell_66 rfl (lv_at hl 0 rfl) ?_
        refine g_X3_10 C hP 0 rfl rfl dX3_cell_67 ?_
        refine g_X3_60 C hP 1 rfl rfl dX3_cell_70 ?_
        refine r_iload_n C dX3_cell_73 rfl (lv_at hl 1 rfl) ?_
        refine r_ialdV C hP 3 (s (51 + c0)) rfl dX3_cell_74 (by omega) (by omega) (by decide) (ma_at (by omega) (by omega)) ?_
        exact r_iretE C hP hS (t, tw, ty, tk, sa, en) (by first | (simp only [fCell, fD, fV, h1, h2, h3, eq_true h4, not_true_eq_false, not_false_eq_true, and_true, true_and, and_false, false_and, or_true, true_or, or_false, false_or, if_true, if_false, ne_eq, reduceIte]; done) | (exfalso; omega) | ((unfold fCell fD; (repeat' split)) <;> first | rfl | (exfalso; omega))) (by first | (simp only [fCell, fD, fV, h1, h2, h3, eq_true h4, not_true_eq_false, not_false_eq_true, and_true, true_and, and_false, false_and, or_true, true_or, or_false, false_or, if_true, if_false, ne_eq, reduceIte]; done) | (exfalso; omega) | ((unfold fCell fD; (repeat' split)) <;> first | rfl | (exfalso; omega))) dX3_cell_75
      by_cases h5 : w = 2
      · refine r_tableIn C (2) h5 dX3_cell_24 (by decide) (by decide) rfl (tgt := 76) (by decide) ?_
        refine r_aload_n C dX3_cell_76 rfl (lv_at hl 0 rfl) ?_
        refine g_X3_10 C hP 0 rfl rfl dX3_cell_77 ?_
        refine r_iload_n C dX3_cell_80 rfl (lv_at hl 1 rfl) ?_
        refine r_cVR1 C m_X3_63 (cW_isWrong (b := (fun i => a (1 + i))) (s := s) (y := y) (by omega) (by omega)) (hp_T_s hP) rfl rfl hl.1 dX3_cell_81 ?_
        refine r_ifB_eq C (tgt := 91) dX3_cell_84 (by decide) (fun h6 => ?_) (fun h6 => ?_)
        · refine r_iconst C dX3_cell_91 ?_
          exact r_iretE C hP hS (t, tw, ty, tk, sa, en) (by first | (simp only [fCell, fD, fV, h1, h2, h3, h4, eq_true h5, h6, not_true_eq_false, not_false_eq_true, and_true, true_and, and_false, false_and, or_true, true_or, or_false, false_or, if_true, if_false, ne_eq, reduceIte]; done) | (exfalso; omega) | ((unfold fCell fD; (repeat' split)) <;> first | rfl | (exfalso; omega))) (by first | (simp only [fCell, fD, fV, h1, h2, h3, h4, eq_true h5, h6, not_true_eq_false, not_false_eq_true, and_true, true_and, and_false, false_and, or_true, true_or, or_false, false_or, if_true, if_false, ne_eq, reduceIte]; done) | (exfalso; omega) | ((unfold fCell fD; (repeat' split)) <;> first | rfl | (exfalso; omega))) dX3_cell_92
        · refine r_iconst C dX3_cell_87 ?_
          refine r_goto C (tgt := 92) dX3_cell_88 (by decide) ?_
          exact r_iretE C hP hS (t, tw, ty, tk, sa, en) (by first | (simp only [fCell, fD, fV, h1, h2, h3, h4, eq_true h5, h6, not_true_eq_false, not_false_eq_true, and_true, true_and, and_false, false_and, or_true, true_or, or_false, false_or, if_true, if_false, ne_eq, reduceIte]; done) | (exfalso; omega) | ((unfold fCell fD; (repeat' split)) <;> first | rfl | (exfalso; omega))) (by first | (simp only [fCell, fD, fV, h1, h2, h3, h4, eq_true h5, h6, not_true_eq_false, not_false_eq_true, and_true, true_and, and_false, false_and, or_true, true_or, or_false, false_or, if_true, if_false, ne_eq, reduceIte]; done) | (exfalso; omega) | ((unfold fCell fD; (repeat' split)) <;> first | rfl | (exfalso; omega))) dX3_cell_92
      by_cases h7 : w = 3
      · refine r_tableIn C (3) h7 dX3_cell_24 (by decide) (by decide) rfl (tgt := 93) (by decide) ?_
        refine r_aload_n C dX3_cell_93 rfl (lv_at hl 0 rfl) ?_
        refine g_X3_10 C hP 0 rfl rfl dX3_cell_94 ?_
        refine g_X3_66 C hP 1 rfl rfl dX3_cell_97 ?_
        refine r_lconst C (z := 1) dX3_cell_100 (by decide) ?_
        refine r_iload_n C dX3_cell_101 rfl (lv_at hl 1 rfl) ?_
        refine r_lone C (by omega) (by omega) dX3_cell_102 ?_
        refine r_cSR1 C m_X3_70 (cT_beside (l48_on (by omega) (by omega))) pn0 hl.1 dX3_cell_103 ?_
        refine r_landB C dX3_cell_106 ?_
        refine r_cSR1 C m_X3_74 (cJ_bitCountB s (by omega) (by omega)) pn0 hl.1 dX3_cell_107 ?_
        exact r_iretE C hP hS (t, tw, ty, tk, sa, en) (by first | (simp only [fCell, fD, fV, h1, h2, h3, h4, h5, eq_true h7, not_true_eq_false, not_false_eq_true, and_true, true_and, and_false, false_and, or_true, true_or, or_false, false_or, if_true, if_false, ne_eq, reduceIte]; done) | (exfalso; omega) | ((unfold fCell fD; (repeat' split)) <;> first | rfl | (exfalso; omega))) (by first | (simp only [fCell, fD, fV, h1, h2, h3, h4, h5, eq_true h7, not_true_eq_false, not_false_eq_true, and_true, true_and, and_false, false_and, or_true, true_or, or_false, false_or, if_true, if_false, ne_eq, reduceIte]; done) | (exfalso; omega) | ((unfold fCell fD; (repeat' split)) <;> first | rfl | (exfalso; omega))) dX3_cell_110
      refine r_tableOut C dX3_cell_24 (by exact ⟨by omega, by omega⟩) (by omega) (tgt := 111) (by decide) ?_
      refine r_aload_n C dX3_cell_111 rfl (lv_at hl 0 rfl) ?_
      refine g_X3_10 C hP 0 rfl rfl dX3_cell_112 ?_
      refine r_iload_n C dX3_cell_115 rfl (lv_at hl 1 rfl) ?_
      refine r_cVR1 C m_X3_80 (cW_mendersAt (b := (fun i => a (1 + i))) (s := s) (y := y) (by omega) (by omega) hs) (hp_T_s hP) rfl rfl hl.1 dX3_cell_116 ?_
      exact r_iretE C hP hS (t, tw, ty, tk, sa, en) (by first | (simp only [fCell, fD, fV, h1, h2, h3, h4, h5, h7, not_true_eq_false, not_false_eq_true, and_true, true_and, and_false, false_and, or_true, true_or, or_false, false_or, if_true, if_false, ne_eq, reduceIte]; done) | (exfalso; omega) | ((unfold fCell fD; (repeat' split)) <;> first | rfl | (exfalso; omega))) (by first | (simp only [fCell, fD, fV, h1, h2, h3, h4, h5, h7, not_true_eq_false, not_false_eq_true, and_true, true_and, and_false, false_and, or_true, true_or, or_false, false_or, if_true, if_false, ne_eq, reduceIte]; done) | (exfalso; omega) | ((unfold fCell fD; (repeat' split)) <;> first | rfl | (exfalso; omega))) dX3_cell_119
    · refine r_aload_n C dX3_cell_16 rfl (lv_at hl 0 rfl) ?_
      refine r_ldc C (-1000000001) ki_X3_48 (by decide) dX3_cell_17 ?_
      refine r_cVWA1 C m_X3_49 (cT_finding (by omega) (by omega)) hP hD hS (wT_ad.trans wT_ad.symm) rfl rfl hl.1 dX3_cell_19 (fun H locs hP hD hS => ?_)
      exact r_iretE C hP hS (t, tw, ty, tk, sa, en) (by first | (simp only [fCell, fD, fV, h1, h2, not_true_eq_false, not_false_eq_true, and_true, true_and, and_false, false_and, or_true, true_or, or_false, false_or, if_true, if_false, ne_eq, reduceIte]; done) | (exfalso; omega) | ((unfold fCell fD; (repeat' split)) <;> first | rfl | (exfalso; omega))) (by first | (simp only [fCell, fD, fV, h1, h2, not_true_eq_false, not_false_eq_true, and_true, true_and, and_false, false_and, or_true, true_or, or_false, false_or, if_true, if_false, ne_eq, reduceIte]; done) | (exfalso; omega) | ((unfold fCell fD; (repeat' split)) <;> first | rfl | (exfalso; omega))) dX3_cell_22
set_option maxHeartbeats 4000000 in
set_option maxRecDepth 100000 in
theorem cT_income {v : Int} (zv : In32 v) (hs : Ok s) : ME l yX3_income cX3_income 3 (some .int) 1 22 D k [.ref (a 0), .int (iI v)] (wT a k s (lB (wrF s)) y t tw ty kq (lB (wrF kq)) ky tp ta tk sa en nm bi si nu st ik) (fun x : (Int → Int) × Int64 × Int × Int × Int × Int => wT a k ((fIncome s st v).2.1) (lB (wrF ((fIncome s st v).2.1))) y x.1 x.2.1 x.2.2.1 kq (lB (wrF kq)) ky tp ta x.2.2.2.1 x.2.2.2.2.1 x.2.2.2.2.2 nm bi si nu ((fIncome s st v).2.2) ik) (some (.int (iI ((fIncome s st v).1)))) := by
  refine ME.mk RX3 rfl (by decide +kernel) (Nat.le_of_ble_eq_true rfl) (fun p e U m0 below meth cd ls C hP hD hS hl => ?_)
  have hl : lv_has ls 3 [(0, .ref (a 0)), (1, .int (iI v))] := hl
  have zv1 := zv.1
  have zv2 := zv.2
  have h00 := hs.1 0 (by decide)
  have h06 := hs.2.2.1
  refine r_iload_n C dX3_income_0 rfl (lv_at hl 1 rfl) ?_
  refine r_iconst C dX3_income_1 ?_
  refine r_bipush C dX3_income_2 (by decide) ?_
  refine r_cSR3 C m_X3_44 (cT_outside (by exact ⟨by omega, by omega⟩) ⟨by decide, by decide⟩ ⟨by decide, by decide⟩) pn0 hl.1 dX3_income_4 ?_
  refine r_ifB_eq C (tgt := 17) dX3_income_7 (by decide) (fun h1 => ?_) (fun h1 => ?_)
  · have h1 := Classical.not_not.mp h1
    refine r_aload_n C dX3_income_17 rfl (lv_at hl 0 rfl) ?_
    refine g_X3_10 C hP 0 rfl rfl dX3_income_18 ?_
    refine g_X3_87 C hP 1 rfl rfl dX3_income_21 ?_
    refine r_istore_n C [(2, .int (iI (s 2))), (0, .ref (a 0)), (1, .int (iI v))] dX3_income_24 rfl hl (by decide) rfl (fun ls hl => ?_)
    refine r_aload_n C dX3_income_25 rfl (lv_at hl 1 rfl) ?_
    refine g_X3_10 C hP 0 rfl rfl dX3_income_26 ?_
    refine r_iload_n C dX3_income_29 rfl (lv_at hl 2 rfl) ?_
    refine p_X3_87 C hP hD hS 1 (wT a k (up s 2 v) (lB (wrF s)) y t tw ty kq (lB (wrF kq)) ky tp ta tk sa en nm bi si nu st ik) rfl (Nat.le_of_ble_eq_true rfl) (lf_T_s wW_in) dX3_income_30 (fun H locs hP hD hS => ?_)
    have er1 : wT a k (up s 2 v) (lB (wrF s)) y t tw ty kq (lB (wrF kq)) ky tp ta tk sa en nm bi si nu st ik = wT a k (up s 2 v) (lB (wrF (up s 2 v))) y t tw ty kq (lB (wrF kq)) ky tp ta tk sa en nm bi si nu st ik := by rw [show wrF s = wrF (up s 2 v) from (wrF_o (by omega)).symm]
    have hP := va_eq hP er1
    have hD := va_eqD hD er1
    refine r_iload_n C dX3_income_33 rfl (lv_at hl 0 rfl) ?_
    exact r_iretE C hP hS (t, tw, ty, tk, sa, en) (by first | (simp only [fIncome, fD, fV, h1, not_true_eq_false, not_false_eq_true, and_true, true_and, and_false, false_and, or_true, true_or, or_false, false_or, if_true, if_false, ne_eq, reduceIte]; done) | (exfalso; omega) | ((unfold fIncome fD; (repeat' split)) <;> first | rfl | (exfalso; omega))) (by first | (simp only [fIncome, fD, fV, h1, not_true_eq_false, not_false_eq_true, and_true, true_and, and_false, false_and, or_true, true_or, or_false, false_or, if_true, if_false, ne_eq, reduceIte]; done) | (exfalso; omega) | ((unfold fIncome fD; (repeat' split)) <;> first | rfl | (exfalso; omega))) dX3_income_34
  · refine r_aload_n C dX3_income_10 rfl (lv_at hl 0 rfl) ?_
    refine r_ldc C (-1000000001) ki_X3_48 (by decide) dX3_income_11 ?_
    refine r_cVWA1 C m_X3_49 (cT_finding (by omega) (by omega)) hP hD hS (wT_ad.trans wT_ad.symm) rfl rfl hl.1 dX3_income_13 (fun H locs hP hD hS => ?_)
    exact r_iretE C hP hS (t, tw, ty, tk, sa, en) (by first | (simp only [fIncome, fD, fV, h1, not_true_eq_false, not_false_eq_true, and_true, true_and, and_false, false_and, or_true, true_or, or_false, false_or, if_true, if_false, ne_eq, reduceIte]; done) | (exfalso; omega) | ((unfold fIncome fD; (repeat' split)) <;> first | rfl | (exfalso; omega))) (by first | (simp only [fIncome, fD, fV, h1, not_true_eq_false, not_false_eq_true, and_true, true_and, and_false, false_and, or_true, true_or, or_false, false_or, if_true, if_false, ne_eq, reduceIte]; done) | (exfalso; omega) | ((unfold fIncome fD; (repeat' split)) <;> first | rfl | (exfalso; omega))) dX3_income_16
set_option maxHeartbeats 4000000 in
set_option maxRecDepth 100000 in
theorem cT_mender {kd : Int} {c0 : Int} (zkd : In32 kd) (zc0 : In32 c0) (hs : Ok s) : ME l yX3_mender cX3_mender 3 (some .int) 2 42 D k [.ref (a 0), .int (iI kd), .int (iI c0)] (wT a k s (lB (wrF s)) y t tw ty kq (lB (wrF kq)) ky tp ta tk sa en nm bi si nu st ik) (fun x : (Int → Int) × Int64 × Int × Int × Int × Int => wT a k ((fMender s st kd c0).2.1) (lB (wrF ((fMender s st kd c0).2.1))) y x.1 x.2.1 x.2.2.1 kq (lB (wrF kq)) ky tp ta x.2.2.2.1 x.2.2.2.2.1 x.2.2.2.2.2 nm bi si nu ((fMender s st kd c0).2.2) ik) (some (.int (iI ((fMender s st kd c0).1)))) := by
  refine ME.mk RX3 rfl (by decide +kernel) (Nat.le_of_ble_eq_true rfl) (fun p e U m0 below meth cd ls C hP hD hS hl => ?_)
  have hl : lv_has ls 3 [(0, .ref (a 0)), (1, .int (iI kd)), (2, .int (iI c0))] := hl
  have zkd1 := zkd.1
  have zkd2 := zkd.2
  have zc01 := zc0.1
  have zc02 := zc0.2
  have h00 := hs.1 0 (by decide)
  have h06 := hs.2.2.1
  refine r_iload_n C dX3_mender_0 rfl (lv_at hl 1 rfl) ?_
  refine r_cSR1 C m_X3_91 (cT_noKind (by exact ⟨by omega, by omega⟩)) pn0 hl.1 dX3_mender_1 ?_
  refine r_ifB_ne C (tgt := 14) dX3_mender_4 (by decide) (fun h1 => ?_) (fun h1 => ?_)
  · refine r_aload_n C dX3_mender_14 rfl (lv_at hl 0 rfl) ?_
    refine r_ldc C (-1000000001) ki_X3_48 (by decide) dX3_mender_15 ?_
    refine r_cVWA1 C m_X3_49 (cT_finding (by omega) (by omega)) hP hD hS (wT_ad.trans wT_ad.symm) rfl rfl hl.1 dX3_mender_17 (fun H locs hP hD hS => ?_)
    exact r_iretE C hP hS (t, tw, ty, tk, sa, en) (by first | (simp only [fMender, fD, fV, show ¬ s 0 = 6 by omega, h1, not_true_eq_false, not_false_eq_true, and_true, true_and, and_false, false_and, or_true, true_or, or_false, false_or, if_true, if_false, ne_eq, reduceIte]; done) | (simp only [fMender, fD, fV, show s 0 = 6 by omega, h1, not_true_eq_false, not_false_eq_true, and_true, true_and, and_false, false_and, or_true, true_or, or_false, false_or, if_true, if_false, ne_eq, reduceIte]; done) | (simp only [fMender, fD, fV, h1, not_true_eq_false, not_false_eq_true, and_true, true_and, and_false, false_and, or_true, true_or, or_false, false_or, if_true, if_false, ne_eq, reduceIte]; done)) (by first | (simp only [fMender, fD, fV, show ¬ s 0 = 6 by omega, h1, not_true_eq_false, not_false_eq_true, and_true, true_and, and_false, false_and, or_true, true_or, or_false, false_or, if_true, if_false, ne_eq, reduceIte]; done) | (simp only [fMender, fD, fV, show s 0 = 6 by omega, h1, not_true_eq_false, not_false_eq_true, and_true, true_and, and_false, false_and, or_true, true_or, or_false, false_or, if_true, if_false, ne_eq, reduceIte]; done) | (simp only [fMender, fD, fV, h1, not_true_eq_false, not_false_eq_true, and_true, true_and, and_false, false_and, or_true, true_or, or_false, false_or, if_true, if_false, ne_eq, reduceIte]; done)) dX3_mender_20
  · have h1 := Classical.not_not.mp h1
    refine r_iload_n C dX3_mender_7 rfl (lv_at hl 2 rfl) ?_
    refine r_cSR1 C m_X3_40 (cT_noCell (by exact ⟨by omega, by omega⟩)) pn0 hl.1 dX3_mender_8 ?_
    refine r_ifB_eq C (tgt := 21) dX3_mender_11 (by decide) (fun h2 => ?_) (fun h2 => ?_)
    · have h2 := Classical.not_not.mp h2
      refine r_aload_n C dX3_mender_21 rfl (lv_at hl 0 rfl) ?_
      refine g_X3_10 C hP 0 rfl rfl dX3_mender_22 ?_
      refine g_X3_94 C hP 1 rfl rfl dX3_mender_25 ?_
      refine r_bipush C dX3_mender_28 (by decide) ?_
      refine r_icmp_lt C (tgt := 40) dX3_mender_30 (by decide) (by exact ⟨by omega, by omega⟩) ⟨by decide, by decide⟩ (fun h3 => ?_) (fun h3 => ?_)
      · refine r_aload_n C dX3_mender_40 rfl (lv_at hl 0 rfl) ?_
        refine g_X3_10 C hP 0 rfl rfl dX3_mender_41 ?_
        refine r_iload_n C dX3_mender_44 rfl (lv_at hl 1 rfl) ?_
        refine r_iload_n C dX3_mender_45 rfl (lv_at hl 2 rfl) ?_
        refine r_bipush C dX3_mender_46 (by decide) ?_
        refine r_cVW3 C m_X3_98 (cW_addMender (b := (fun i => a (1 + i))) (s := s) (y := y) (by omega) (by omega) (by omega) (by omega) (by omega) (by omega) hs (by omega)) hP hD hS [1, 2, 3, 4, 5, 6, 7] (wT a k (addS s kd c0 50) (lB (wrF (addS s kd c0 50))) y t tw ty kq (lB (wrF kq)) ky tp ta tk sa en nm bi si nu st ik) rfl lc_T_s rfl lp_T_s (wT_ad.trans wT_ad.symm) rfl rfl hl.1 dX3_mender_48 (fun H locs hP hD hS => ?_)
        have hs1 : Ok (addS s kd c0 50) := ok_addS hs (by omega) (by omega) (by omega) (by omega) (by omega) (by omega) (by omega)
        exact r_iretE C hP hS (t, tw, ty, tk, sa, en) (by first | (simp only [fMender, fD, fV, show ¬ s 0 = 6 by omega, h1, h2, h3, not_true_eq_false, not_false_eq_true, and_true, true_and, and_false, false_and, or_true, true_or, or_false, false_or, if_true, if_false, ne_eq, reduceIte]; done) | (simp only [fMender, fD, fV, show s 0 = 6 by omega, h1, h2, h3, not_true_eq_false, not_false_eq_true, and_true, true_and, and_false, false_and, or_true, true_or, or_false, false_or, if_true, if_false, ne_eq, reduceIte]; done) | (simp only [fMender, fD, fV, h1, h2, h3, not_true_eq_false, not_false_eq_true, and_true, true_and, and_false, false_and, or_true, true_or, or_false, false_or, if_true, if_false, ne_eq, reduceIte]; done)) (by first | (simp only [fMender, fD, fV, show ¬ s 0 = 6 by omega, h1, h2, h3, not_true_eq_false, not_false_eq_true, and_true, true_and, and_false, false_and, or_true, true_or, or_false, false_or, if_true, if_false, ne_eq, reduceIte]; done) | (simp only [fMender, fD, fV, show s 0 = 6 by omega, h1, h2, h3, not_true_eq_false, not_false_eq_true, and_true, true_and, and_false, false_and, or_true, true_or, or_false, false_or, if_true, if_false, ne_eq, reduceIte]; done) | (simp only [fMender, fD, fV, h1, h2, h3, not_true_eq_false, not_false_eq_true, and_true, true_and, and_false, false_and, or_true, true_or, or_false, false_or, if_true, if_false, ne_eq, reduceIte]; done)) dX3_mender_51
      · refine r_aload_n C dX3_mender_33 rfl (lv_at hl 0 rfl) ?_
        refine r_ldc C (-1000000002) ki_X3_97 (by decide) dX3_mender_34 ?_
        refine r_cVWA1 C m_X3_49 (cT_finding (by omega) (by omega)) hP hD hS (wT_ad.trans wT_ad.symm) rfl rfl hl.1 dX3_mender_36 (fun H locs hP hD hS => ?_)
        exact r_iretE C hP hS (t, tw, ty, tk, sa, en) (by first | (simp only [fMender, fD, fV, show ¬ s 0 = 6 by omega, h1, h2, h3, not_true_eq_false, not_false_eq_true, and_true, true_and, and_false, false_and, or_true, true_or, or_false, false_or, if_true, if_false, ne_eq, reduceIte]; done) | (simp only [fMender, fD, fV, show s 0 = 6 by omega, h1, h2, h3, not_true_eq_false, not_false_eq_true, and_true, true_and, and_false, false_and, or_true, true_or, or_false, false_or, if_true, if_false, ne_eq, reduceIte]; done) | (simp only [fMender, fD, fV, h1, h2, h3, not_true_eq_false, not_false_eq_true, and_true, true_and, and_false, false_and, or_true, true_or, or_false, false_or, if_true, if_false, ne_eq, reduceIte]; done)) (by first | (simp only [fMender, fD, fV, show ¬ s 0 = 6 by omega, h1, h2, h3, not_true_eq_false, not_false_eq_true, and_true, true_and, and_false, false_and, or_true, true_or, or_false, false_or, if_true, if_false, ne_eq, reduceIte]; done) | (simp only [fMender, fD, fV, show s 0 = 6 by omega, h1, h2, h3, not_true_eq_false, not_false_eq_true, and_true, true_and, and_false, false_and, or_true, true_or, or_false, false_or, if_true, if_false, ne_eq, reduceIte]; done) | (simp only [fMender, fD, fV, h1, h2, h3, not_true_eq_false, not_false_eq_true, and_true, true_and, and_false, false_and, or_true, true_or, or_false, false_or, if_true, if_false, ne_eq, reduceIte]; done)) dX3_mender_39
    · refine r_aload_n C dX3_mender_14 rfl (lv_at hl 0 rfl) ?_
      refine r_ldc C (-1000000001) ki_X3_48 (by decide) dX3_mender_15 ?_
      refine r_cVWA1 C m_X3_49 (cT_finding (by omega) (by omega)) hP hD hS (wT_ad.trans wT_ad.symm) rfl rfl hl.1 dX3_mender_17 (fun H locs hP hD hS => ?_)
      exact r_iretE C hP hS (t, tw, ty, tk, sa, en) (by first | (simp only [fMender, fD, fV, show ¬ s 0 = 6 by omega, h1, h2, not_true_eq_false, not_false_eq_true, and_true, true_and, and_false, false_and, or_true, true_or, or_false, false_or, if_true, if_false, ne_eq, reduceIte]; done) | (simp only [fMender, fD, fV, show s 0 = 6 by omega, h1, h2, not_true_eq_false, not_false_eq_true, and_true, true_and, and_false, false_and, or_true, true_or, or_false, false_or, if_true, if_false, ne_eq, reduceIte]; done) | (simp only [fMender, fD, fV, h1, h2, not_true_eq_false, not_false_eq_true, and_true, true_and, and_false, false_and, or_true, true_or, or_false, false_or, if_true, if_false, ne_eq, reduceIte]; done)) (by first | (simp only [fMender, fD, fV, show ¬ s 0 = 6 by omega, h1, h2, not_true_eq_false, not_false_eq_true, and_true, true_and, and_false, false_and, or_true, true_or, or_false, false_or, if_true, if_false, ne_eq, reduceIte]; done) | (simp only [fMender, fD, fV, show s 0 = 6 by omega, h1, h2, not_true_eq_false, not_false_eq_true, and_true, true_and, and_false, false_and, or_true, true_or, or_false, false_or, if_true, if_false, ne_eq, reduceIte]; done) | (simp only [fMender, fD, fV, h1, h2, not_true_eq_false, not_false_eq_true, and_true, true_and, and_false, false_and, or_true, true_or, or_false, false_or, if_true, if_false, ne_eq, reduceIte]; done)) dX3_mender_20
end CLASS
