section CLASS
variable {l : Launch} {D : va_G} {k : Nat → ClassId} {a c : Nat → Nat} {s t kq tp bi si st : Int → Int} {wr tw kw : Int64} {y ty ky ta tk sa en nm ik bt sz : Int} {nu nf : Int → Int64}
set_option maxHeartbeats 4000000 in
set_option maxRecDepth 100000 in
theorem cT_of {m : Int} {w : Int} (zm : In32 m) (zw : In32 w) (hs : Ok s) : ME l yX3_of cX3_of 3 (some .int) 5 113 D k [.ref (a 0), .int (iI m), .int (iI w)] (wT a k s (lB (wrF s)) y t tw ty kq (lB (wrF kq)) ky tp ta tk sa en nm bi si nu st ik) (fun x : (Int → Int) × Int64 × Int × Int × Int × Int => wT a k ((fOf s st m w).2.1) (lB (wrF ((fOf s st m w).2.1))) y x.1 x.2.1 x.2.2.1 kq (lB (wrF kq)) ky tp ta x.2.2.2.1 x.2.2.2.2.1 x.2.2.2.2.2 nm bi si nu ((fOf s st m w).2.2) ik) (some (.int (iI ((fOf s st m w).1)))) := by
  refine ME.mk RX3 rfl (by decide +kernel) (Nat.le_of_ble_eq_true rfl) (fun p e U m0 below meth cd ls C hP hD hS hl => ?_)
  have hl : lv_has ls 3 [(0, .ref (a 0)), (1, .int (iI m)), (2, .int (iI w))] := hl
  have zm1 := zm.1
  have zm2 := zm.2
  have zw1 := zw.1
  have zw2 := zw.2
  have h00 := hs.1 0 (by decide)
  have h06 := hs.2.2.1
  refine r_aload_n C dX3_of_0 rfl (lv_at hl 0 rfl) ?_
  refine r_iload_n C dX3_of_1 rfl (lv_at hl 1 rfl) ?_
  refine r_cVR1 C m_X3_101 (cT_noMender (by exact ⟨by omega, by omega⟩) hs) hP rfl rfl hl.1 dX3_of_2 ?_
  refine r_ifB_ne C (tgt := 17) dX3_of_5 (by decide) (fun h1 => ?_) (fun h1 => ?_)
  · refine r_aload_n C dX3_of_17 rfl (lv_at hl 0 rfl) ?_
    refine r_ldc C (-1000000001) ki_X3_48 (by decide) dX3_of_18 ?_
    refine r_cVWA1 C m_X3_49 (cT_finding (by omega) (by omega)) hP hD hS (wT_ad.trans wT_ad.symm) rfl rfl hl.1 dX3_of_20 (fun H locs hP hD hS => ?_)
    exact r_iretE C hP hS (t, tw, ty, tk, sa, en) (by first | (simp only [fOf, fD, fV, h1, not_true_eq_false, not_false_eq_true, and_true, true_and, and_false, false_and, or_true, true_or, or_false, false_or, if_true, if_false, ne_eq, reduceIte]; done) | (exfalso; omega) | ((unfold fOf fD; (repeat' split)) <;> first | rfl | (exfalso; omega))) (by first | (simp only [fOf, fD, fV, h1, not_true_eq_false, not_false_eq_true, and_true, true_and, and_false, false_and, or_true, true_or, or_false, false_or, if_true, if_false, ne_eq, reduceIte]; done) | (exfalso; omega) | ((unfold fOf fD; (repeat' split)) <;> first | rfl | (exfalso; omega))) dX3_of_23
  · have h1 := Classical.not_not.mp h1
    refine r_iload_n C dX3_of_8 rfl (lv_at hl 2 rfl) ?_
    refine r_iconst C dX3_of_9 ?_
    refine r_iconst C dX3_of_10 ?_
    refine r_cSR3 C m_X3_44 (cT_outside (by exact ⟨by omega, by omega⟩) ⟨by decide, by decide⟩ ⟨by decide, by decide⟩) pn0 hl.1 dX3_of_11 ?_
    refine r_ifB_eq C (tgt := 24) dX3_of_14 (by decide) (fun h2 => ?_) (fun h2 => ?_)
    · have h2 := Classical.not_not.mp h2
      refine r_iload_n C dX3_of_24 rfl (lv_at hl 2 rfl) ?_
      by_cases h3 : w = 0
      · refine r_tableIn C (0) h3 dX3_of_25 (by decide) (by decide) rfl (tgt := 60) (by decide) ?_
        refine r_aload_n C dX3_of_60 rfl (lv_at hl 0 rfl) ?_
        refine g_X3_10 C hP 0 rfl rfl dX3_of_61 ?_
        refine g_X3_104 C hP 1 rfl rfl dX3_of_64 ?_
        refine r_iload_n C dX3_of_67 rfl (lv_at hl 1 rfl) ?_
        refine r_ialdV C hP 4 (s (99 + 4 * m + 0)) rfl dX3_of_68 (by omega) (by omega) (by decide) (ki_at (by omega) (by omega)) ?_
        exact r_iretE C hP hS (t, tw, ty, tk, sa, en) (by first | (simp only [fOf, fD, fV, h1, h2, eq_true h3, not_true_eq_false, not_false_eq_true, and_true, true_and, and_false, false_and, or_true, true_or, or_false, false_or, if_true, if_false, ne_eq, reduceIte]; done) | (exfalso; omega) | ((unfold fOf fD; (repeat' split)) <;> first | rfl | (exfalso; omega))) (by have hw9 := h3; subst hw9; simp [fOf, fV, h1, h2]) dX3_of_69
      by_cases h4 : w = 1
      · refine r_tableIn C (1) h4 dX3_of_25 (by decide) (by decide) rfl (tgt := 70) (by decide) ?_
        refine r_aload_n C dX3_of_70 rfl (lv_at hl 0 rfl) ?_
        refine g_X3_10 C hP 0 rfl rfl dX3_of_71 ?_
        refine g_X3_107 C hP 1 rfl rfl dX3_of_74 ?_
        refine r_iload_n C dX3_of_77 rfl (lv_at hl 1 rfl) ?_
        refine r_ialdV C hP 5 (s (99 + 4 * m + 1)) rfl dX3_of_78 (by omega) (by omega) (by decide) (pl_at (by omega) (by omega)) ?_
        exact r_iretE C hP hS (t, tw, ty, tk, sa, en) (by first | (simp only [fOf, fD, fV, h1, h2, h3, eq_true h4, not_true_eq_false, not_false_eq_true, and_true, true_and, and_false, false_and, or_true, true_or, or_false, false_or, if_true, if_false, ne_eq, reduceIte]; done) | (exfalso; omega) | ((unfold fOf fD; (repeat' split)) <;> first | rfl | (exfalso; omega))) (by have hw9 := h4; subst hw9; simp [fOf, fV, h1, h2, h3]) dX3_of_79
      by_cases h5 : w = 2
      · refine r_tableIn C (2) h5 dX3_of_25 (by decide) (by decide) rfl (tgt := 80) (by decide) ?_
        refine r_aload_n C dX3_of_80 rfl (lv_at hl 0 rfl) ?_
        refine g_X3_10 C hP 0 rfl rfl dX3_of_81 ?_
        refine g_X3_110 C hP 1 rfl rfl dX3_of_84 ?_
        refine r_iload_n C dX3_of_87 rfl (lv_at hl 1 rfl) ?_
        refine r_ialdV C hP 6 (s (99 + 4 * m + 2)) rfl dX3_of_88 (by omega) (by omega) (by decide) (pu_at (by omega) (by omega)) ?_
        exact r_iretE C hP hS (t, tw, ty, tk, sa, en) (by first | (simp only [fOf, fD, fV, h1, h2, h3, h4, eq_true h5, not_true_eq_false, not_false_eq_true, and_true, true_and, and_false, false_and, or_true, true_or, or_false, false_or, if_true, if_false, ne_eq, reduceIte]; done) | (exfalso; omega) | ((unfold fOf fD; (repeat' split)) <;> first | rfl | (exfalso; omega))) (by have hw9 := h5; subst hw9; simp [fOf, fV, h1, h2, h3, h4]) dX3_of_89
      by_cases h6 : w = 3
      · refine r_tableIn C (3) h6 dX3_of_25 (by decide) (by decide) rfl (tgt := 90) (by decide) ?_
        refine r_aload_n C dX3_of_90 rfl (lv_at hl 0 rfl) ?_
        refine g_X3_10 C hP 0 rfl rfl dX3_of_91 ?_
        refine g_X3_113 C hP 1 rfl rfl dX3_of_94 ?_
        refine r_iload_n C dX3_of_97 rfl (lv_at hl 1 rfl) ?_
        refine r_ialdV C hP 7 (s (99 + 4 * m + 3)) rfl dX3_of_98 (by omega) (by omega) (by decide) (pa_at (by omega) (by omega)) ?_
        exact r_iretE C hP hS (t, tw, ty, tk, sa, en) (by first | (simp only [fOf, fD, fV, h1, h2, h3, h4, h5, eq_true h6, not_true_eq_false, not_false_eq_true, and_true, true_and, and_false, false_and, or_true, true_or, or_false, false_or, if_true, if_false, ne_eq, reduceIte]; done) | (exfalso; omega) | ((unfold fOf fD; (repeat' split)) <;> first | rfl | (exfalso; omega))) (by have hw9 := h6; subst hw9; simp [fOf, fV, h1, h2, h3, h4, h5]) dX3_of_99
      by_cases h7 : w = 4
      · refine r_tableIn C (4) h7 dX3_of_25 (by decide) (by decide) rfl (tgt := 100) (by decide) ?_
        refine r_aload_n C dX3_of_100 rfl (lv_at hl 0 rfl) ?_
        refine g_X3_10 C hP 0 rfl rfl dX3_of_101 ?_
        refine r_iload_n C dX3_of_104 rfl (lv_at hl 1 rfl) ?_
        refine r_cVR1 C m_X3_116 (cW_goalOf (b := (fun i => a (1 + i))) (s := s) (y := y) (by omega) (by omega) hs) (hp_T_s hP) rfl rfl hl.1 dX3_of_105 ?_
        exact r_iretE C hP hS (t, tw, ty, tk, sa, en) (by first | (simp only [fOf, fD, fV, h1, h2, h3, h4, h5, h6, eq_true h7, not_true_eq_false, not_false_eq_true, and_true, true_and, and_false, false_and, or_true, true_or, or_false, false_or, if_true, if_false, ne_eq, reduceIte]; done) | (exfalso; omega) | ((unfold fOf fD; (repeat' split)) <;> first | rfl | (exfalso; omega))) (by simp only [fOf, fV, show ¬ w < 4 by omega, h1, h2, h3, h4, h5, h6, eq_true h7, not_true_eq_false, not_false_eq_true, and_true, true_and, and_false, false_and, or_true, true_or, or_false, false_or, if_true, if_false, ne_eq, reduceIte]) dX3_of_108
      refine r_tableOut C dX3_of_25 (by exact ⟨by omega, by omega⟩) (by omega) (tgt := 109) (by decide) ?_
      refine r_aload_n C dX3_of_109 rfl (lv_at hl 0 rfl) ?_
      refine g_X3_10 C hP 0 rfl rfl dX3_of_110 ?_
      refine r_iload_n C dX3_of_113 rfl (lv_at hl 1 rfl) ?_
      refine r_cVR1 C m_X3_119 (cW_costOfGoal (b := (fun i => a (1 + i))) (s := s) (y := y) (by omega) (by omega) hs) (hp_T_s hP) rfl rfl hl.1 dX3_of_114 ?_
      exact r_iretE C hP hS (t, tw, ty, tk, sa, en) (by first | (simp only [fOf, fD, fV, h1, h2, h3, h4, h5, h6, h7, not_true_eq_false, not_false_eq_true, and_true, true_and, and_false, false_and, or_true, true_or, or_false, false_or, if_true, if_false, ne_eq, reduceIte]; done) | (exfalso; omega) | ((unfold fOf fD; (repeat' split)) <;> first | rfl | (exfalso; omega))) (by simp only [fOf, fV, show ¬ w < 4 by omega, show ¬ w = 4 by omega, h1, h2, h3, h4, h5, h6, h7, not_true_eq_false, not_false_eq_true, and_true, true_and, and_false, false_and, or_true, true_or, or_false, false_or, if_true, if_false, ne_eq, reduceIte]) dX3_of_117
    · refine r_aload_n C dX3_of_17 rfl (lv_at hl 0 rfl) ?_
      refine r_ldc C (-1000000001) ki_X3_48 (by decide) dX3_of_18 ?_
      refine r_cVWA1 C m_X3_49 (cT_finding (by omega) (by omega)) hP hD hS (wT_ad.trans wT_ad.symm) rfl rfl hl.1 dX3_of_20 (fun H locs hP hD hS => ?_)
      exact r_iretE C hP hS (t, tw, ty, tk, sa, en) (by first | (simp only [fOf, fD, fV, h1, h2, not_true_eq_false, not_false_eq_true, and_true, true_and, and_false, false_and, or_true, true_or, or_false, false_or, if_true, if_false, ne_eq, reduceIte]; done) | (exfalso; omega) | ((unfold fOf fD; (repeat' split)) <;> first | rfl | (exfalso; omega))) (by first | (simp only [fOf, fD, fV, h1, h2, not_true_eq_false, not_false_eq_true, and_true, true_and, and_false, false_and, or_true, true_or, or_false, false_or, if_true, if_false, ne_eq, reduceIte]; done) | (exfalso; omega) | ((unfold fOf fD; (repeat' split)) <;> first | rfl | (exfalso; omega))) dX3_of_23
set_option maxHeartbeats 4000000 in
set_option maxRecDepth 100000 in
theorem cT_set {m : Int} {w : Int} {v : Int} (zm : In32 m) (zw : In32 w) (zv : In32 v) (hs : Ok s) : ME l yX3_set cX3_set 7 (some .int) 2 43 D k [.ref (a 0), .int (iI m), .int (iI w), .int (iI v)] (wT a k s (lB (wrF s)) y t tw ty kq (lB (wrF kq)) ky tp ta tk sa en nm bi si nu st ik) (fun x : (Int → Int) × Int64 × Int × Int × Int × Int => wT a k ((fSet s st m w v).2.1) (lB (wrF ((fSet s st m w v).2.1))) y x.1 x.2.1 x.2.2.1 kq (lB (wrF kq)) ky tp ta x.2.2.2.1 x.2.2.2.2.1 x.2.2.2.2.2 nm bi si nu ((fSet s st m w v).2.2) ik) (some (.int (iI ((fSet s st m w v).1)))) := by
  refine ME.mk RX3 rfl (by decide +kernel) (Nat.le_of_ble_eq_true rfl) (fun p e U m0 below meth cd ls C hP hD hS hl => ?_)
  have hl : lv_has ls 7 [(0, .ref (a 0)), (1, .int (iI m)), (2, .int (iI w)), (3, .int (iI v))] := hl
  have zm1 := zm.1
  have zm2 := zm.2
  have zw1 := zw.1
  have zw2 := zw.2
  have zv1 := zv.1
  have zv2 := zv.2
  have h00 := hs.1 0 (by decide)
  have h06 := hs.2.2.1
  refine r_aload_n C dX3_set_0 rfl (lv_at hl 0 rfl) ?_
  refine r_iload_n C dX3_set_1 rfl (lv_at hl 1 rfl) ?_
  refine r_cVR1 C m_X3_101 (cT_noMender (by exact ⟨by omega, by omega⟩) hs) hP rfl rfl hl.1 dX3_set_2 ?_
  refine r_ifB_ne C (tgt := 17) dX3_set_5 (by decide) (fun h1 => ?_) (fun h1 => ?_)
  · refine r_aload_n C dX3_set_17 rfl (lv_at hl 0 rfl) ?_
    refine r_ldc C (-1000000001) ki_X3_48 (by decide) dX3_set_18 ?_
    refine r_cVWA1 C m_X3_49 (cT_finding (by omega) (by omega)) hP hD hS (wT_ad.trans wT_ad.symm) rfl rfl hl.1 dX3_set_20 (fun H locs hP hD hS => ?_)
    exact r_iretE C hP hS (t, tw, ty, tk, sa, en) (by (unfold fSet fD; (repeat' split)) <;> first | rfl | (exfalso; omega)) (by (unfold fSet fD; (repeat' split)) <;> first | rfl | (exfalso; omega)) dX3_set_23
  · have h1 := Classical.not_not.mp h1
    refine r_iload_n C dX3_set_8 rfl (lv_at hl 2 rfl) ?_
    refine r_iconst C dX3_set_9 ?_
    refine r_iconst C dX3_set_10 ?_
    refine r_cSR3 C m_X3_44 (cT_outside (by exact ⟨by omega, by omega⟩) ⟨by decide, by decide⟩ ⟨by decide, by decide⟩) pn0 hl.1 dX3_set_11 ?_
    refine r_ifB_eq C (tgt := 24) dX3_set_14 (by decide) (fun h2 => ?_) (fun h2 => ?_)
    · have h2 := Classical.not_not.mp h2
      refine r_iload_n C dX3_set_24 rfl (lv_at hl 2 rfl) ?_
      refine r_iconst C dX3_set_25 ?_
      refine r_icmp_ne C (tgt := 34) dX3_set_26 (by decide) (by exact ⟨by omega, by omega⟩) ⟨by decide, by decide⟩ (fun h3 => ?_) (fun h3 => ?_)
      · refine r_sipush C dX3_set_34 (by decide) ?_
        refine r_istore C [(4, .int (iI 9999)), (0, .ref (a 0)), (1, .int (iI m)), (2, .int (iI w)), (3, .int (iI v))] dX3_set_37 hl (by decide) rfl (fun ls hl => ?_)
        refine r_iload_n C dX3_set_39 rfl (lv_at hl 4 rfl) ?_
        refine r_iconst C dX3_set_40 ?_
        refine r_iload C dX3_set_41 (lv_at hl 0 rfl) ?_
        refine r_cSR3 C m_X3_44 (cT_outside (by exact ⟨by omega, by omega⟩) ⟨by decide, by decide⟩ ⟨by decide, by decide⟩) pn0 hl.1 dX3_set_43 ?_
        refine r_ifB_eq C (tgt := 56) dX3_set_46 (by decide) (fun h4 => ?_) (fun h4 => ?_)
        · have h4 := Classical.not_not.mp h4
          refine r_iload_n C dX3_set_56 rfl (lv_at hl 3 rfl) ?_
          refine r_iconst C dX3_set_57 ?_
          refine r_icmp_ne C (tgt := 71) dX3_set_58 (by decide) (by exact ⟨by omega, by omega⟩) ⟨by decide, by decide⟩ (fun h5 => ?_) (fun h5 => ?_)
          · refine r_aload_n C dX3_set_71 rfl (lv_at hl 1 rfl) ?_
            refine g_X3_10 C hP 0 rfl rfl dX3_set_72 ?_
            refine g_X3_110 C hP 1 rfl rfl dX3_set_75 ?_
            refine r_astore C [(5, .ref (a 6)), (4, .int (iI 9999)), (0, .ref (a 0)), (1, .int (iI m)), (2, .int (iI w)), (3, .int (iI v))] dX3_set_78 hl (by decide) rfl (fun ls hl => ?_)
            refine r_aload C dX3_set_80 (lv_at hl 0 rfl) ?_
            refine r_iload_n C dX3_set_82 rfl (lv_at hl 3 rfl) ?_
            refine r_ialdV C hP 6 (s (99 + 4 * m + 2)) rfl dX3_set_83 (by omega) (by omega) (by decide) (pu_at (by omega) (by omega)) ?_
            refine r_istore C [(6, .int (iI (s (99 + 4 * m + 2)))), (5, .ref (a 6)), (4, .int (iI 9999)), (0, .ref (a 0)), (1, .int (iI m)), (2, .int (iI w)), (3, .int (iI v))] dX3_set_84 hl (by decide) rfl (fun ls hl => ?_)
            refine r_aload C dX3_set_86 (lv_at hl 1 rfl) ?_
            refine r_iload_n C dX3_set_88 rfl (lv_at hl 4 rfl) ?_
            refine r_iload_n C dX3_set_89 rfl (lv_at hl 6 rfl) ?_
            refine r_iast C hP hD hS 6 (wT a k (up s (99 + 4 * m + 2) v) (lB (wrF s)) y t tw ty kq (lB (wrF kq)) ky tp ta tk sa en nm bi si nu st ik) rfl dX3_set_90 (by omega) (by omega) (by decide) (lf_T_s (wW_pu (by omega) (by omega))) (fun H locs hP hD hS => ?_)
            have hs1 : Ok (up s (99 + 4 * m + 2) v) := ok_up hs ⟨by omega, by omega⟩ ⟨by omega, by omega⟩ (fun _ => by omega) (fun _ _ _ _ => by omega)
            have er2 : wT a k (up s (99 + 4 * m + 2) v) (lB (wrF s)) y t tw ty kq (lB (wrF kq)) ky tp ta tk sa en nm bi si nu st ik = wT a k (up s (99 + 4 * m + 2) v) (lB (wrF (up s (99 + 4 * m + 2) v))) y t tw ty kq (lB (wrF kq)) ky tp ta tk sa en nm bi si nu st ik := by rw [show wrF s = wrF (up s (99 + 4 * m + 2) v) from (wrF_o (by omega)).symm]
            have hP := va_eq hP er2
            have hD := va_eqD hD er2
            refine r_iload C dX3_set_91 (lv_at hl 0 rfl) ?_
            exact r_iretE C hP hS (t, tw, ty, tk, sa, en) (by first | (exfalso; omega) | (have hw9 : w = 1 := (by omega); subst hw9; simp only [fSet, h1, h2, h3, h4, h5, not_true_eq_false, not_false_eq_true, and_true, true_and, and_false, false_and, or_true, true_or, or_false, false_or, if_true, if_false, ne_eq, reduceIte]; done) | (have hw9 : w = 2 := (by omega); subst hw9; simp only [fSet, show ¬ (2 : Int) = 1 by decide, h1, h2, h3, h4, h5, not_true_eq_false, not_false_eq_true, and_true, true_and, and_false, false_and, or_true, true_or, or_false, false_or, if_true, if_false, ne_eq, reduceIte]; done)) (by first | (exfalso; omega) | (have hw9 : w = 1 := (by omega); subst hw9; simp only [fSet, h1, h2, h3, h4, h5, not_true_eq_false, not_false_eq_true, and_true, true_and, and_false, false_and, or_true, true_or, or_false, false_or, if_true, if_false, ne_eq, reduceIte]; done) | (have hw9 : w = 2 := (by omega); subst hw9; simp only [fSet, show ¬ (2 : Int) = 1 by decide, h1, h2, h3, h4, h5, not_true_eq_false, not_false_eq_true, and_true, true_and, and_false, false_and, or_true, true_or, or_false, false_or, if_true, if_false, ne_eq, reduceIte]; done)) dX3_set_93
          · refine r_aload_n C dX3_set_61 rfl (lv_at hl 1 rfl) ?_
            refine g_X3_10 C hP 0 rfl rfl dX3_set_62 ?_
            refine g_X3_107 C hP 1 rfl rfl dX3_set_65 ?_
            refine r_goto C (tgt := 78) dX3_set_68 (by decide) ?_
            refine r_astore C [(5, .ref (a 5)), (4, .int (iI 9999)), (0, .ref (a 0)), (1, .int (iI m)), (2, .int (iI w)), (3, .int (iI v))] dX3_set_78 hl (by decide) rfl (fun ls hl => ?_)
            refine r_aload C dX3_set_80 (lv_at hl 0 rfl) ?_
            refine r_iload_n C dX3_set_82 rfl (lv_at hl 3 rfl) ?_
            refine r_ialdV C hP 5 (s (99 + 4 * m + 1)) rfl dX3_set_83 (by omega) (by omega) (by decide) (pl_at (by omega) (by omega)) ?_
            refine r_istore C [(6, .int (iI (s (99 + 4 * m + 1)))), (5, .ref (a 5)), (4, .int (iI 9999)), (0, .ref (a 0)), (1, .int (iI m)), (2, .int (iI w)), (3, .int (iI v))] dX3_set_84 hl (by decide) rfl (fun ls hl => ?_)
            refine r_aload C dX3_set_86 (lv_at hl 1 rfl) ?_
            refine r_iload_n C dX3_set_88 rfl (lv_at hl 4 rfl) ?_
            refine r_iload_n C dX3_set_89 rfl (lv_at hl 6 rfl) ?_
            refine r_iast C hP hD hS 5 (wT a k (up s (99 + 4 * m + 1) v) (lB (wrF s)) y t tw ty kq (lB (wrF kq)) ky tp ta tk sa en nm bi si nu st ik) rfl dX3_set_90 (by omega) (by omega) (by decide) (lf_T_s (wW_pl (by omega) (by omega))) (fun H locs hP hD hS => ?_)
            have hs3 : Ok (up s (99 + 4 * m + 1) v) := ok_up hs ⟨by omega, by omega⟩ ⟨by omega, by omega⟩ (fun _ => by omega) (fun _ _ _ _ => by omega)
            have er4 : wT a k (up s (99 + 4 * m + 1) v) (lB (wrF s)) y t tw ty kq (lB (wrF kq)) ky tp ta tk sa en nm bi si nu st ik = wT a k (up s (99 + 4 * m + 1) v) (lB (wrF (up s (99 + 4 * m + 1) v))) y t tw ty kq (lB (wrF kq)) ky tp ta tk sa en nm bi si nu st ik := by rw [show wrF s = wrF (up s (99 + 4 * m + 1) v) from (wrF_o (by omega)).symm]
            have hP := va_eq hP er4
            have hD := va_eqD hD er4
            refine r_iload C dX3_set_91 (lv_at hl 0 rfl) ?_
            exact r_iretE C hP hS (t, tw, ty, tk, sa, en) (by first | (exfalso; omega) | (have hw9 : w = 1 := (by omega); subst hw9; simp only [fSet, h1, h2, h3, h4, eq_true h5, not_true_eq_false, not_false_eq_true, and_true, true_and, and_false, false_and, or_true, true_or, or_false, false_or, if_true, if_false, ne_eq, reduceIte]; done) | (have hw9 : w = 2 := (by omega); subst hw9; simp only [fSet, show ¬ (2 : Int) = 1 by decide, h1, h2, h3, h4, eq_true h5, not_true_eq_false, not_false_eq_true, and_true, true_and, and_false, false_and, or_true, true_or, or_false, false_or, if_true, if_false, ne_eq, reduceIte]; done)) (by first | (exfalso; omega) | (have hw9 : w = 1 := (by omega); subst hw9; simp only [fSet, h1, h2, h3, h4, eq_true h5, not_true_eq_false, not_false_eq_true, and_true, true_and, and_false, false_and, or_true, true_or, or_false, false_or, if_true, if_false, ne_eq, reduceIte]; done) | (have hw9 : w = 2 := (by omega); subst hw9; simp only [fSet, show ¬ (2 : Int) = 1 by decide, h1, h2, h3, h4, eq_true h5, not_true_eq_false, not_false_eq_true, and_true, true_and, and_false, false_and, or_true, true_or, or_false, false_or, if_true, if_false, ne_eq, reduceIte]; done)) dX3_set_93
        · refine r_aload_n C dX3_set_49 rfl (lv_at hl 1 rfl) ?_
          refine r_ldc C (-1000000001) ki_X3_48 (by decide) dX3_set_50 ?_
          refine r_cVWA1 C m_X3_49 (cT_finding (by omega) (by omega)) hP hD hS (wT_ad.trans wT_ad.symm) rfl rfl hl.1 dX3_set_52 (fun H locs hP hD hS => ?_)
          exact r_iretE C hP hS (t, tw, ty, tk, sa, en) (by (unfold fSet fD; (repeat' split)) <;> first | rfl | (exfalso; omega)) (by (unfold fSet fD; (repeat' split)) <;> first | rfl | (exfalso; omega)) dX3_set_55
      · refine r_bipush C dX3_set_29 (by decide) ?_
        refine r_goto C (tgt := 37) dX3_set_31 (by decide) ?_
        refine r_istore C [(4, .int (iI 47)), (0, .ref (a 0)), (1, .int (iI m)), (2, .int (iI w)), (3, .int (iI v))] dX3_set_37 hl (by decide) rfl (fun ls hl => ?_)
        refine r_iload_n C dX3_set_39 rfl (lv_at hl 4 rfl) ?_
        refine r_iconst C dX3_set_40 ?_
        refine r_iload C dX3_set_41 (lv_at hl 0 rfl) ?_
        refine r_cSR3 C m_X3_44 (cT_outside (by exact ⟨by omega, by omega⟩) ⟨by decide, by decide⟩ ⟨by decide, by decide⟩) pn0 hl.1 dX3_set_43 ?_
        refine r_ifB_eq C (tgt := 56) dX3_set_46 (by decide) (fun h6 => ?_) (fun h6 => ?_)
        · have h6 := Classical.not_not.mp h6
          refine r_iload_n C dX3_set_56 rfl (lv_at hl 3 rfl) ?_
          refine r_iconst C dX3_set_57 ?_
          refine r_icmp_ne C (tgt := 71) dX3_set_58 (by decide) (by exact ⟨by omega, by omega⟩) ⟨by decide, by decide⟩ (fun h7 => ?_) (fun h7 => ?_)
          · refine r_aload_n C dX3_set_71 rfl (lv_at hl 1 rfl) ?_
            refine g_X3_10 C hP 0 rfl rfl dX3_set_72 ?_
            refine g_X3_110 C hP 1 rfl rfl dX3_set_75 ?_
            refine r_astore C [(5, .ref (a 6)), (4, .int (iI 47)), (0, .ref (a 0)), (1, .int (iI m)), (2, .int (iI w)), (3, .int (iI v))] dX3_set_78 hl (by decide) rfl (fun ls hl => ?_)
            refine r_aload C dX3_set_80 (lv_at hl 0 rfl) ?_
            refine r_iload_n C dX3_set_82 rfl (lv_at hl 3 rfl) ?_
            refine r_ialdV C hP 6 (s (99 + 4 * m + 2)) rfl dX3_set_83 (by omega) (by omega) (by decide) (pu_at (by omega) (by omega)) ?_
            refine r_istore C [(6, .int (iI (s (99 + 4 * m + 2)))), (5, .ref (a 6)), (4, .int (iI 47)), (0, .ref (a 0)), (1, .int (iI m)), (2, .int (iI w)), (3, .int (iI v))] dX3_set_84 hl (by decide) rfl (fun ls hl => ?_)
            refine r_aload C dX3_set_86 (lv_at hl 1 rfl) ?_
            refine r_iload_n C dX3_set_88 rfl (lv_at hl 4 rfl) ?_
            refine r_iload_n C dX3_set_89 rfl (lv_at hl 6 rfl) ?_
            refine r_iast C hP hD hS 6 (wT a k (up s (99 + 4 * m + 2) v) (lB (wrF s)) y t tw ty kq (lB (wrF kq)) ky tp ta tk sa en nm bi si nu st ik) rfl dX3_set_90 (by omega) (by omega) (by decide) (lf_T_s (wW_pu (by omega) (by omega))) (fun H locs hP hD hS => ?_)
            have hs5 : Ok (up s (99 + 4 * m + 2) v) := ok_up hs ⟨by omega, by omega⟩ ⟨by omega, by omega⟩ (fun _ => by omega) (fun _ _ _ _ => by omega)
            have er6 : wT a k (up s (99 + 4 * m + 2) v) (lB (wrF s)) y t tw ty kq (lB (wrF kq)) ky tp ta tk sa en nm bi si nu st ik = wT a k (up s (99 + 4 * m + 2) v) (lB (wrF (up s (99 + 4 * m + 2) v))) y t tw ty kq (lB (wrF kq)) ky tp ta tk sa en nm bi si nu st ik := by rw [show wrF s = wrF (up s (99 + 4 * m + 2) v) from (wrF_o (by omega)).symm]
            have hP := va_eq hP er6
            have hD := va_eqD hD er6
            refine r_iload C dX3_set_91 (lv_at hl 0 rfl) ?_
            exact r_iretE C hP hS (t, tw, ty, tk, sa, en) (by first | (exfalso; omega) | (have hw9 : w = 1 := (by omega); subst hw9; simp only [fSet, h1, h2, eq_true h3, h6, h7, not_true_eq_false, not_false_eq_true, and_true, true_and, and_false, false_and, or_true, true_or, or_false, false_or, if_true, if_false, ne_eq, reduceIte]; done) | (have hw9 : w = 2 := (by omega); subst hw9; simp only [fSet, show ¬ (2 : Int) = 1 by decide, h1, h2, eq_true h3, h6, h7, not_true_eq_false, not_false_eq_true, and_true, true_and, and_false, false_and, or_true, true_or, or_false, false_or, if_true, if_false, ne_eq, reduceIte]; done)) (by first | (exfalso; omega) | (have hw9 : w = 1 := (by omega); subst hw9; simp only [fSet, h1, h2, eq_true h3, h6, h7, not_true_eq_false, not_false_eq_true, and_true, true_and, and_false, false_and, or_true, true_or, or_false, false_or, if_true, if_false, ne_eq, reduceIte]; done) | (have hw9 : w = 2 := (by omega); subst hw9; simp only [fSet, show ¬ (2 : Int) = 1 by decide, h1, h2, eq_true h3, h6, h7, not_true_eq_false, not_false_eq_true, and_true, true_and, and_false, false_and, or_true, true_or, or_false, false_or, if_true, if_false, ne_eq, reduceIte]; done)) dX3_set_93
          · refine r_aload_n C dX3_set_61 rfl (lv_at hl 1 rfl) ?_
            refine g_X3_10 C hP 0 rfl rfl dX3_set_62 ?_
            refine g_X3_107 C hP 1 rfl rfl dX3_set_65 ?_
            refine r_goto C (tgt := 78) dX3_set_68 (by decide) ?_
            refine r_astore C [(5, .ref (a 5)), (4, .int (iI 47)), (0, .ref (a 0)), (1, .int (iI m)), (2, .int (iI w)), (3, .int (iI v))] dX3_set_78 hl (by decide) rfl (fun ls hl => ?_)
            refine r_aload C dX3_set_80 (lv_at hl 0 rfl) ?_
            refine r_iload_n C dX3_set_82 rfl (lv_at hl 3 rfl) ?_
            refine r_ialdV C hP 5 (s (99 + 4 * m + 1)) rfl dX3_set_83 (by omega) (by omega) (by decide) (pl_at (by omega) (by omega)) ?_
            refine r_istore C [(6, .int (iI (s (99 + 4 * m + 1)))), (5, .ref (a 5)), (4, .int (iI 47)), (0, .ref (a 0)), (1, .int (iI m)), (2, .int (iI w)), (3, .int (iI v))] dX3_set_84 hl (by decide) rfl (fun ls hl => ?_)
            refine r_aload C dX3_set_86 (lv_at hl 1 rfl) ?_
            refine r_iload_n C dX3_set_88 rfl (lv_at hl 4 rfl) ?_
            refine r_iload_n C dX3_set_89 rfl (lv_at hl 6 rfl) ?_
            refine r_iast C hP hD hS 5 (wT a k (up s (99 + 4 * m + 1) v) (lB (wrF s)) y t tw ty kq (lB (wrF kq)) ky tp ta tk sa en nm bi si nu st ik) rfl dX3_set_90 (by omega) (by omega) (by decide) (lf_T_s (wW_pl (by omega) (by omega))) (fun H locs hP hD hS => ?_)
            have hs7 : Ok (up s (99 + 4 * m + 1) v) := ok_up hs ⟨by omega, by omega⟩ ⟨by omega, by omega⟩ (fun _ => by omega) (fun _ _ _ _ => by omega)
            have er8 : wT a k (up s (99 + 4 * m + 1) v) (lB (wrF s)) y t tw ty kq (lB (wrF kq)) ky tp ta tk sa en nm bi si nu st ik = wT a k (up s (99 + 4 * m + 1) v) (lB (wrF (up s (99 + 4 * m + 1) v))) y t tw ty kq (lB (wrF kq)) ky tp ta tk sa en nm bi si nu st ik := by rw [show wrF s = wrF (up s (99 + 4 * m + 1) v) from (wrF_o (by omega)).symm]
            have hP := va_eq hP er8
            have hD := va_eqD hD er8
            refine r_iload C dX3_set_91 (lv_at hl 0 rfl) ?_
            exact r_iretE C hP hS (t, tw, ty, tk, sa, en) (by first | (exfalso; omega) | (have hw9 : w = 1 := (by omega); subst hw9; simp only [fSet, h1, h2, eq_true h3, h6, eq_true h7, not_true_eq_false, not_false_eq_true, and_true, true_and, and_false, false_and, or_true, true_or, or_false, false_or, if_true, if_false, ne_eq, reduceIte]; done) | (have hw9 : w = 2 := (by omega); subst hw9; simp only [fSet, show ¬ (2 : Int) = 1 by decide, h1, h2, eq_true h3, h6, eq_true h7, not_true_eq_false, not_false_eq_true, and_true, true_and, and_false, false_and, or_true, true_or, or_false, false_or, if_true, if_false, ne_eq, reduceIte]; done)) (by first | (exfalso; omega) | (have hw9 : w = 1 := (by omega); subst hw9; simp only [fSet, h1, h2, eq_true h3, h6, eq_true h7, not_true_eq_false, not_false_eq_true, and_true, true_and, and_false, false_and, or_true, true_or, or_false, false_or, if_true, if_false, ne_eq, reduceIte]; done) | (have hw9 : w = 2 := (by omega); subst hw9; simp only [fSet, show ¬ (2 : Int) = 1 by decide, h1, h2, eq_true h3, h6, eq_true h7, not_true_eq_false, not_false_eq_true, and_true, true_and, and_false, false_and, or_true, true_or, or_false, false_or, if_true, if_false, ne_eq, reduceIte]; done)) dX3_set_93
        · refine r_aload_n C dX3_set_49 rfl (lv_at hl 1 rfl) ?_
          refine r_ldc C (-1000000001) ki_X3_48 (by decide) dX3_set_50 ?_
          refine r_cVWA1 C m_X3_49 (cT_finding (by omega) (by omega)) hP hD hS (wT_ad.trans wT_ad.symm) rfl rfl hl.1 dX3_set_52 (fun H locs hP hD hS => ?_)
          exact r_iretE C hP hS (t, tw, ty, tk, sa, en) (by (unfold fSet fD; (repeat' split)) <;> first | rfl | (exfalso; omega)) (by (unfold fSet fD; (repeat' split)) <;> first | rfl | (exfalso; omega)) dX3_set_55
    · refine r_aload_n C dX3_set_17 rfl (lv_at hl 0 rfl) ?_
      refine r_ldc C (-1000000001) ki_X3_48 (by decide) dX3_set_18 ?_
      refine r_cVWA1 C m_X3_49 (cT_finding (by omega) (by omega)) hP hD hS (wT_ad.trans wT_ad.symm) rfl rfl hl.1 dX3_set_20 (fun H locs hP hD hS => ?_)
      exact r_iretE C hP hS (t, tw, ty, tk, sa, en) (by (unfold fSet fD; (repeat' split)) <;> first | rfl | (exfalso; omega)) (by (unfold fSet fD; (repeat' split)) <;> first | rfl | (exfalso; omega)) dX3_set_23
set_option maxHeartbeats 4000000 in
set_option maxRecDepth 100000 in
theorem cT_turn {m : Int} {kd : Int} (zm : In32 m) (zkd : In32 kd) (hs : Ok s) : ME l yX3_turn cX3_turn 4 (some .int) 2 43 D k [.ref (a 0), .int (iI m), .int (iI kd)] (wT a k s (lB (wrF s)) y t tw ty kq (lB (wrF kq)) ky tp ta tk sa en nm bi si nu st ik) (fun x : (Int → Int) × Int64 × Int × Int × Int × Int => wT a k ((fTurn s st m kd).2.1) (lB (wrF ((fTurn s st m kd).2.1))) y x.1 x.2.1 x.2.2.1 kq (lB (wrF kq)) ky tp ta x.2.2.2.1 x.2.2.2.2.1 x.2.2.2.2.2 nm bi si nu ((fTurn s st m kd).2.2) ik) (some (.int (iI ((fTurn s st m kd).1)))) := by
  refine ME.mk RX3 rfl (by decide +kernel) (Nat.le_of_ble_eq_true rfl) (fun p e U m0 below meth cd ls C hP hD hS hl => ?_)
  have hl : lv_has ls 4 [(0, .ref (a 0)), (1, .int (iI m)), (2, .int (iI kd))] := hl
  have zm1 := zm.1
  have zm2 := zm.2
  have zkd1 := zkd.1
  have zkd2 := zkd.2
  have h00 := hs.1 0 (by decide)
  have h06 := hs.2.2.1
  refine r_aload_n C dX3_turn_0 rfl (lv_at hl 0 rfl) ?_
  refine r_iload_n C dX3_turn_1 rfl (lv_at hl 1 rfl) ?_
  refine r_cVR1 C m_X3_101 (cT_noMender (by exact ⟨by omega, by omega⟩) hs) hP rfl rfl hl.1 dX3_turn_2 ?_
  refine r_ifB_ne C (tgt := 15) dX3_turn_5 (by decide) (fun h1 => ?_) (fun h1 => ?_)
  · refine r_aload_n C dX3_turn_15 rfl (lv_at hl 0 rfl) ?_
    refine r_ldc C (-1000000001) ki_X3_48 (by decide) dX3_turn_16 ?_
    refine r_cVWA1 C m_X3_49 (cT_finding (by omega) (by omega)) hP hD hS (wT_ad.trans wT_ad.symm) rfl rfl hl.1 dX3_turn_18 (fun H locs hP hD hS => ?_)
    exact r_iretE C hP hS (t, tw, ty, tk, sa, en) (by first | (simp only [fTurn, fD, fV, h1, not_true_eq_false, not_false_eq_true, and_true, true_and, and_false, false_and, or_true, true_or, or_false, false_or, if_true, if_false, ne_eq, reduceIte]; done) | (exfalso; omega) | ((unfold fTurn fD; (repeat' split)) <;> first | rfl | (exfalso; omega))) (by first | (simp only [fTurn, fD, fV, h1, not_true_eq_false, not_false_eq_true, and_true, true_and, and_false, false_and, or_true, true_or, or_false, false_or, if_true, if_false, ne_eq, reduceIte]; done) | (exfalso; omega) | ((unfold fTurn fD; (repeat' split)) <;> first | rfl | (exfalso; omega))) dX3_turn_21
  · have h1 := Classical.not_not.mp h1
    refine r_iload_n C dX3_turn_8 rfl (lv_at hl 2 rfl) ?_
    refine r_cSR1 C m_X3_91 (cT_noKind (by exact ⟨by omega, by omega⟩)) pn0 hl.1 dX3_turn_9 ?_
    refine r_ifB_eq C (tgt := 22) dX3_turn_12 (by decide) (fun h2 => ?_) (fun h2 => ?_)
    · have h2 := Classical.not_not.mp h2
      refine r_aload_n C dX3_turn_22 rfl (lv_at hl 0 rfl) ?_
      refine g_X3_10 C hP 0 rfl rfl dX3_turn_23 ?_
      refine g_X3_104 C hP 1 rfl rfl dX3_turn_26 ?_
      refine r_iload_n C dX3_turn_29 rfl (lv_at hl 1 rfl) ?_
      refine r_ialdV C hP 4 (s (99 + 4 * m + 0)) rfl dX3_turn_30 (by omega) (by omega) (by decide) (ki_at (by omega) (by omega)) ?_
      refine r_istore_n C [(3, .int (iI (s (99 + 4 * m + 0)))), (0, .ref (a 0)), (1, .int (iI m)), (2, .int (iI kd))] dX3_turn_31 rfl hl (by decide) rfl (fun ls hl => ?_)
      refine r_aload_n C dX3_turn_32 rfl (lv_at hl 1 rfl) ?_
      refine g_X3_10 C hP 0 rfl rfl dX3_turn_33 ?_
      refine g_X3_104 C hP 1 rfl rfl dX3_turn_36 ?_
      refine r_iload_n C dX3_turn_39 rfl (lv_at hl 2 rfl) ?_
      refine r_iload_n C dX3_turn_40 rfl (lv_at hl 3 rfl) ?_
      refine r_iast C hP hD hS 4 (wT a k (up s (99 + 4 * m + 0) kd) (lB (wrF s)) y t tw ty kq (lB (wrF kq)) ky tp ta tk sa en nm bi si nu st ik) rfl dX3_turn_41 (by omega) (by omega) (by decide) (lf_T_s (wW_ki (by omega) (by omega))) (fun H locs hP hD hS => ?_)
      have hs1 : Ok (up s (99 + 4 * m + 0) kd) := ok_up hs ⟨by omega, by omega⟩ ⟨by omega, by omega⟩ (fun _ => by omega) (fun _ _ _ _ => by omega)
      have er2 : wT a k (up s (99 + 4 * m + 0) kd) (lB (wrF s)) y t tw ty kq (lB (wrF kq)) ky tp ta tk sa en nm bi si nu st ik = wT a k (up s (99 + 4 * m + 0) kd) (lB (wrF (up s (99 + 4 * m + 0) kd))) y t tw ty kq (lB (wrF kq)) ky tp ta tk sa en nm bi si nu st ik := by rw [show wrF s = wrF (up s (99 + 4 * m + 0) kd) from (wrF_o (by omega)).symm]
      have hP := va_eq hP er2
      have hD := va_eqD hD er2
      refine r_iload_n C dX3_turn_42 rfl (lv_at hl 0 rfl) ?_
      exact r_iretE C hP hS (t, tw, ty, tk, sa, en) (by first | (simp only [fTurn, fD, fV, h1, h2, not_true_eq_false, not_false_eq_true, and_true, true_and, and_false, false_and, or_true, true_or, or_false, false_or, if_true, if_false, ne_eq, reduceIte]; done) | (exfalso; omega) | ((unfold fTurn fD; (repeat' split)) <;> first | rfl | (exfalso; omega))) (by first | (simp only [fTurn, fD, fV, h1, h2, not_true_eq_false, not_false_eq_true, and_true, true_and, and_false, false_and, or_true, true_or, or_false, false_or, if_true, if_false, ne_eq, reduceIte]; done) | (exfalso; omega) | ((unfold fTurn fD; (repeat' split)) <;> first | rfl | (exfalso; omega))) dX3_turn_43
    · refine r_aload_n C dX3_turn_15 rfl (lv_at hl 0 rfl) ?_
      refine r_ldc C (-1000000001) ki_X3_48 (by decide) dX3_turn_16 ?_
      refine r_cVWA1 C m_X3_49 (cT_finding (by omega) (by omega)) hP hD hS (wT_ad.trans wT_ad.symm) rfl rfl hl.1 dX3_turn_18 (fun H locs hP hD hS => ?_)
      exact r_iretE C hP hS (t, tw, ty, tk, sa, en) (by first | (simp only [fTurn, fD, fV, h1, h2, not_true_eq_false, not_false_eq_true, and_true, true_and, and_false, false_and, or_true, true_or, or_false, false_or, if_true, if_false, ne_eq, reduceIte]; done) | (exfalso; omega) | ((unfold fTurn fD; (repeat' split)) <;> first | rfl | (exfalso; omega))) (by first | (simp only [fTurn, fD, fV, h1, h2, not_true_eq_false, not_false_eq_true, and_true, true_and, and_false, false_and, or_true, true_or, or_false, false_or, if_true, if_false, ne_eq, reduceIte]; done) | (exfalso; omega) | ((unfold fTurn fD; (repeat' split)) <;> first | rfl | (exfalso; omega))) dX3_turn_21
set_option maxHeartbeats 4000000 in
set_option maxRecDepth 100000 in
theorem cT_as {m : Int} {kd : Int} (zm : In32 m) (zkd : In32 kd) (hs : Ok s) (hkk : ∀ i, 0 ≤ i → i < 6 → s (99 + 4 * i + 0) ≤ 5) : ME l yX3_as cX3_as 3 (some .int) 2 43 D k [.ref (a 0), .int (iI m), .int (iI kd)] (wT a k s (lB (wrF s)) y t tw ty kq (lB (wrF kq)) ky tp ta tk sa en nm bi si nu st ik) (fun x : (Int → Int) × Int64 × Int × Int × Int × Int => wT a k ((fAs s st m kd).2.1) (lB (wrF ((fAs s st m kd).2.1))) y x.1 x.2.1 x.2.2.1 kq (lB (wrF kq)) ky tp ta x.2.2.2.1 x.2.2.2.2.1 x.2.2.2.2.2 nm bi si nu ((fAs s st m kd).2.2) ik) (some (.int (iI ((fAs s st m kd).1)))) := by
  refine ME.mk RX3 rfl (by decide +kernel) (Nat.le_of_ble_eq_true rfl) (fun p e U m0 below meth cd ls C hP hD hS hl => ?_)
  have hl : lv_has ls 3 [(0, .ref (a 0)), (1, .int (iI m)), (2, .int (iI kd))] := hl
  have zm1 := zm.1
  have zm2 := zm.2
  have zkd1 := zkd.1
  have zkd2 := zkd.2
  have h00 := hs.1 0 (by decide)
  have h06 := hs.2.2.1
  refine r_aload_n C dX3_as_0 rfl (lv_at hl 0 rfl) ?_
  refine r_iload_n C dX3_as_1 rfl (lv_at hl 1 rfl) ?_
  refine r_cVR1 C m_X3_101 (cT_noMender (by exact ⟨by omega, by omega⟩) hs) hP rfl rfl hl.1 dX3_as_2 ?_
  refine r_ifB_ne C (tgt := 15) dX3_as_5 (by decide) (fun h1 => ?_) (fun h1 => ?_)
  · refine r_aload_n C dX3_as_15 rfl (lv_at hl 0 rfl) ?_
    refine r_ldc C (-1000000001) ki_X3_48 (by decide) dX3_as_16 ?_
    refine r_cVWA1 C m_X3_49 (cT_finding (by omega) (by omega)) hP hD hS (wT_ad.trans wT_ad.symm) rfl rfl hl.1 dX3_as_18 (fun H locs hP hD hS => ?_)
    exact r_iretE C hP hS (t, tw, ty, tk, sa, en) (by first | (simp only [fAs, fD, fV, h1, not_true_eq_false, not_false_eq_true, and_true, true_and, and_false, false_and, or_true, true_or, or_false, false_or, if_true, if_false, ne_eq, reduceIte]; done) | (exfalso; omega) | ((unfold fAs fD; (repeat' split)) <;> first | rfl | (exfalso; omega))) (by first | (simp only [fAs, fD, fV, h1, not_true_eq_false, not_false_eq_true, and_true, true_and, and_false, false_and, or_true, true_or, or_false, false_or, if_true, if_false, ne_eq, reduceIte]; done) | (exfalso; omega) | ((unfold fAs fD; (repeat' split)) <;> first | rfl | (exfalso; omega))) dX3_as_21
  · have h1 := Classical.not_not.mp h1
    refine r_iload_n C dX3_as_8 rfl (lv_at hl 2 rfl) ?_
    refine r_cSR1 C m_X3_91 (cT_noKind (by exact ⟨by omega, by omega⟩)) pn0 hl.1 dX3_as_9 ?_
    refine r_ifB_eq C (tgt := 22) dX3_as_12 (by decide) (fun h2 => ?_) (fun h2 => ?_)
    · have h2 := Classical.not_not.mp h2
      refine r_aload_n C dX3_as_22 rfl (lv_at hl 0 rfl) ?_
      refine g_X3_10 C hP 0 rfl rfl dX3_as_23 ?_
      refine g_X3_104 C hP 1 rfl rfl dX3_as_26 ?_
      refine r_iload_n C dX3_as_29 rfl (lv_at hl 1 rfl) ?_
      refine r_ialdV C hP 4 (s (99 + 4 * m + 0)) rfl dX3_as_30 (by omega) (by omega) (by decide) (ki_at (by omega) (by omega)) ?_
      refine r_iload_n C dX3_as_31 rfl (lv_at hl 2 rfl) ?_
      refine r_cSR2 C m_X3_122 (cT_isUnder (by have := hs.1 (99 + 4 * m + 0) (by omega); omega) (by have := hkk m (by omega) (by omega); omega) (by omega) (by omega)) pn0 hl.1 dX3_as_32 ?_
      refine r_ifB_ne C (tgt := 45) dX3_as_35 (by decide) (fun h3 => ?_) (fun h3 => ?_)
      · refine r_aload_n C dX3_as_45 rfl (lv_at hl 0 rfl) ?_
        refine g_X3_10 C hP 0 rfl rfl dX3_as_46 ?_
        refine g_X3_110 C hP 1 rfl rfl dX3_as_49 ?_
        refine r_iload_n C dX3_as_52 rfl (lv_at hl 1 rfl) ?_
        refine r_ialdV C hP 6 (s (99 + 4 * m + 2)) rfl dX3_as_53 (by omega) (by omega) (by decide) (pu_at (by omega) (by omega)) ?_
        exact r_iretE C hP hS (t, tw, ty, tk, sa, en) (by first | (simp only [fAs, fD, fV, h1, h2, h3, not_true_eq_false, not_false_eq_true, and_true, true_and, and_false, false_and, or_true, true_or, or_false, false_or, if_true, if_false, ne_eq, reduceIte]; done) | (exfalso; omega) | ((unfold fAs fD; (repeat' split)) <;> first | rfl | (exfalso; omega))) (by first | (simp only [fAs, fD, fV, h1, h2, h3, not_true_eq_false, not_false_eq_true, and_true, true_and, and_false, false_and, or_true, true_or, or_false, false_or, if_true, if_false, ne_eq, reduceIte]; done) | (exfalso; omega) | ((unfold fAs fD; (repeat' split)) <;> first | rfl | (exfalso; omega))) dX3_as_54
      · refine r_aload_n C dX3_as_38 rfl (lv_at hl 0 rfl) ?_
        refine r_ldc C (-1000000003) ki_X3_126 (by decide) dX3_as_39 ?_
        refine r_cVWA1 C m_X3_49 (cT_finding (by omega) (by omega)) hP hD hS (wT_ad.trans wT_ad.symm) rfl rfl hl.1 dX3_as_41 (fun H locs hP hD hS => ?_)
        exact r_iretE C hP hS (t, tw, ty, tk, sa, en) (by first | (simp only [fAs, fD, fV, h1, h2, h3, not_true_eq_false, not_false_eq_true, and_true, true_and, and_false, false_and, or_true, true_or, or_false, false_or, if_true, if_false, ne_eq, reduceIte]; done) | (exfalso; omega) | ((unfold fAs fD; (repeat' split)) <;> first | rfl | (exfalso; omega))) (by first | (simp only [fAs, fD, fV, h1, h2, h3, not_true_eq_false, not_false_eq_true, and_true, true_and, and_false, false_and, or_true, true_or, or_false, false_or, if_true, if_false, ne_eq, reduceIte]; done) | (exfalso; omega) | ((unfold fAs fD; (repeat' split)) <;> first | rfl | (exfalso; omega))) dX3_as_44
    · refine r_aload_n C dX3_as_15 rfl (lv_at hl 0 rfl) ?_
      refine r_ldc C (-1000000001) ki_X3_48 (by decide) dX3_as_16 ?_
      refine r_cVWA1 C m_X3_49 (cT_finding (by omega) (by omega)) hP hD hS (wT_ad.trans wT_ad.symm) rfl rfl hl.1 dX3_as_18 (fun H locs hP hD hS => ?_)
      exact r_iretE C hP hS (t, tw, ty, tk, sa, en) (by first | (simp only [fAs, fD, fV, h1, h2, not_true_eq_false, not_false_eq_true, and_true, true_and, and_false, false_and, or_true, true_or, or_false, false_or, if_true, if_false, ne_eq, reduceIte]; done) | (exfalso; omega) | ((unfold fAs fD; (repeat' split)) <;> first | rfl | (exfalso; omega))) (by first | (simp only [fAs, fD, fV, h1, h2, not_true_eq_false, not_false_eq_true, and_true, true_and, and_false, false_and, or_true, true_or, or_false, false_or, if_true, if_false, ne_eq, reduceIte]; done) | (exfalso; omega) | ((unfold fAs fD; (repeat' split)) <;> first | rfl | (exfalso; omega))) dX3_as_21
set_option maxHeartbeats 4000000 in
set_option maxRecDepth 100000 in
theorem cT_cost {m : Int} {c0 : Int} (zm : In32 m) (zc0 : In32 c0) (hs : Ok s) : ME l yX3_cost cX3_cost 3 (some .int) 2 48 D k [.ref (a 0), .int (iI m), .int (iI c0)] (wT a k s (lB (wrF s)) y t tw ty kq (lB (wrF kq)) ky tp ta tk sa en nm bi si nu st ik) (fun x : (Int → Int) × Int64 × Int × Int × Int × Int => wT a k ((fCost s st m c0).2.1) (lB (wrF ((fCost s st m c0).2.1))) y x.1 x.2.1 x.2.2.1 kq (lB (wrF kq)) ky tp ta x.2.2.2.1 x.2.2.2.2.1 x.2.2.2.2.2 nm bi si nu ((fCost s st m c0).2.2) ik) (some (.int (iI ((fCost s st m c0).1)))) := by
  refine ME.mk RX3 rfl (by decide +kernel) (Nat.le_of_ble_eq_true rfl) (fun p e U m0 below meth cd ls C hP hD hS hl => ?_)
  have hl : lv_has ls 3 [(0, .ref (a 0)), (1, .int (iI m)), (2, .int (iI c0))] := hl
  have zm1 := zm.1
  have zm2 := zm.2
  have zc01 := zc0.1
  have zc02 := zc0.2
  have h00 := hs.1 0 (by decide)
  have h06 := hs.2.2.1
  refine r_aload_n C dX3_cost_0 rfl (lv_at hl 0 rfl) ?_
  refine r_iload_n C dX3_cost_1 rfl (lv_at hl 1 rfl) ?_
  refine r_cVR1 C m_X3_101 (cT_noMender (by exact ⟨by omega, by omega⟩) hs) hP rfl rfl hl.1 dX3_cost_2 ?_
  refine r_ifB_ne C (tgt := 15) dX3_cost_5 (by decide) (fun h1 => ?_) (fun h1 => ?_)
  · refine r_aload_n C dX3_cost_15 rfl (lv_at hl 0 rfl) ?_
    refine r_ldc C (-1000000001) ki_X3_48 (by decide) dX3_cost_16 ?_
    refine r_cVWA1 C m_X3_49 (cT_finding (by omega) (by omega)) hP hD hS (wT_ad.trans wT_ad.symm) rfl rfl hl.1 dX3_cost_18 (fun H locs hP hD hS => ?_)
    exact r_iretE C hP hS (t, tw, ty, tk, sa, en) (by first | (simp only [fCost, fD, fV, h1, not_true_eq_false, not_false_eq_true, and_true, true_and, and_false, false_and, or_true, true_or, or_false, false_or, if_true, if_false, ne_eq, reduceIte]; done) | (exfalso; omega) | ((unfold fCost fD; (repeat' split)) <;> first | rfl | (exfalso; omega))) (by first | (simp only [fCost, fD, fV, h1, not_true_eq_false, not_false_eq_true, and_true, true_and, and_false, false_and, or_true, true_or, or_false, false_or, if_true, if_false, ne_eq, reduceIte]; done) | (exfalso; omega) | ((unfold fCost fD; (repeat' split)) <;> first | rfl | (exfalso; omega))) dX3_cost_21
  · have h1 := Classical.not_not.mp h1
    refine r_iload_n C dX3_cost_8 rfl (lv_at hl 2 rfl) ?_
    refine r_cSR1 C m_X3_40 (cT_noCell (by exact ⟨by omega, by omega⟩)) pn0 hl.1 dX3_cost_9 ?_
    refine r_ifB_eq C (tgt := 22) dX3_cost_12 (by decide) (fun h2 => ?_) (fun h2 => ?_)
    · have h2 := Classical.not_not.mp h2
      refine r_aload_n C dX3_cost_22 rfl (lv_at hl 0 rfl) ?_
      refine g_X3_10 C hP 0 rfl rfl dX3_cost_23 ?_
      refine r_iload_n C dX3_cost_26 rfl (lv_at hl 2 rfl) ?_
      refine r_cVR1 C m_X3_63 (cW_isWrong (b := (fun i => a (1 + i))) (s := s) (y := y) (by omega) (by omega)) (hp_T_s hP) rfl rfl hl.1 dX3_cost_27 ?_
      refine r_ifB_ne C (tgt := 40) dX3_cost_30 (by decide) (fun h3 => ?_) (fun h3 => ?_)
      · refine r_aload_n C dX3_cost_40 rfl (lv_at hl 0 rfl) ?_
        refine g_X3_10 C hP 0 rfl rfl dX3_cost_41 ?_
        refine r_iload_n C dX3_cost_44 rfl (lv_at hl 1 rfl) ?_
        refine r_iload_n C dX3_cost_45 rfl (lv_at hl 2 rfl) ?_
        refine r_cVR2 C m_X3_128 (cW_costOf (b := (fun i => a (1 + i))) (s := s) (y := y) (by omega) (by omega) (by omega) (by omega) hs) (hp_T_s hP) rfl rfl hl.1 dX3_cost_46 ?_
        exact r_iretE C hP hS (t, tw, ty, tk, sa, en) (by first | (simp only [fCost, fD, fV, h1, h2, h3, not_true_eq_false, not_false_eq_true, and_true, true_and, and_false, false_and, or_true, true_or, or_false, false_or, if_true, if_false, ne_eq, reduceIte]; done) | (exfalso; omega) | ((unfold fCost fD; (repeat' split)) <;> first | rfl | (exfalso; omega))) (by first | (simp only [fCost, fD, fV, h1, h2, h3, not_true_eq_false, not_false_eq_true, and_true, true_and, and_false, false_and, or_true, true_or, or_false, false_or, if_true, if_false, ne_eq, reduceIte]; done) | (exfalso; omega) | ((unfold fCost fD; (repeat' split)) <;> first | rfl | (exfalso; omega))) dX3_cost_49
      · refine r_aload_n C dX3_cost_33 rfl (lv_at hl 0 rfl) ?_
        refine r_ldc C (-1000000005) ki_X3_127 (by decide) dX3_cost_34 ?_
        refine r_cVWA1 C m_X3_49 (cT_finding (by omega) (by omega)) hP hD hS (wT_ad.trans wT_ad.symm) rfl rfl hl.1 dX3_cost_36 (fun H locs hP hD hS => ?_)
        exact r_iretE C hP hS (t, tw, ty, tk, sa, en) (by first | (simp only [fCost, fD, fV, h1, h2, h3, not_true_eq_false, not_false_eq_true, and_true, true_and, and_false, false_and, or_true, true_or, or_false, false_or, if_true, if_false, ne_eq, reduceIte]; done) | (exfalso; omega) | ((unfold fCost fD; (repeat' split)) <;> first | rfl | (exfalso; omega))) (by first | (simp only [fCost, fD, fV, h1, h2, h3, not_true_eq_false, not_false_eq_true, and_true, true_and, and_false, false_and, or_true, true_or, or_false, false_or, if_true, if_false, ne_eq, reduceIte]; done) | (exfalso; omega) | ((unfold fCost fD; (repeat' split)) <;> first | rfl | (exfalso; omega))) dX3_cost_39
    · refine r_aload_n C dX3_cost_15 rfl (lv_at hl 0 rfl) ?_
      refine r_ldc C (-1000000001) ki_X3_48 (by decide) dX3_cost_16 ?_
      refine r_cVWA1 C m_X3_49 (cT_finding (by omega) (by omega)) hP hD hS (wT_ad.trans wT_ad.symm) rfl rfl hl.1 dX3_cost_18 (fun H locs hP hD hS => ?_)
      exact r_iretE C hP hS (t, tw, ty, tk, sa, en) (by first | (simp only [fCost, fD, fV, h1, h2, not_true_eq_false, not_false_eq_true, and_true, true_and, and_false, false_and, or_true, true_or, or_false, false_or, if_true, if_false, ne_eq, reduceIte]; done) | (exfalso; omega) | ((unfold fCost fD; (repeat' split)) <;> first | rfl | (exfalso; omega))) (by first | (simp only [fCost, fD, fV, h1, h2, not_true_eq_false, not_false_eq_true, and_true, true_and, and_false, false_and, or_true, true_or, or_false, false_or, if_true, if_false, ne_eq, reduceIte]; done) | (exfalso; omega) | ((unfold fCost fD; (repeat' split)) <;> first | rfl | (exfalso; omega))) dX3_cost_21
set_option maxHeartbeats 4000000 in
set_option maxRecDepth 100000 in
theorem cT_mend {m : Int} {c0 : Int} (zm : In32 m) (zc0 : In32 c0) (hs : Ok s) : ME l yX3_mend cX3_mend 4 (some .int) 3 75 D k [.ref (a 0), .int (iI m), .int (iI c0)] (wT a k s (lB (wrF s)) y t tw ty kq (lB (wrF kq)) ky tp ta tk sa en nm bi si nu st ik) (fun x : (Int → Int) × Int64 × Int × Int × Int × Int => wT a k ((fMend s st m c0).2.1) (lB (wrF ((fMend s st m c0).2.1))) y x.1 x.2.1 x.2.2.1 kq (lB (wrF kq)) ky tp ta x.2.2.2.1 x.2.2.2.2.1 x.2.2.2.2.2 nm bi si nu ((fMend s st m c0).2.2) ik) (some (.int (iI ((fMend s st m c0).1)))) := by
  refine ME.mk RX3 rfl (by decide +kernel) (Nat.le_of_ble_eq_true rfl) (fun p e U m0 below meth cd ls C hP hD hS hl => ?_)
  have hl : lv_has ls 4 [(0, .ref (a 0)), (1, .int (iI m)), (2, .int (iI c0))] := hl
  have zm1 := zm.1
  have zm2 := zm.2
  have zc01 := zc0.1
  have zc02 := zc0.2
  have h00 := hs.1 0 (by decide)
  have h06 := hs.2.2.1
  refine r_aload_n C dX3_mend_0 rfl (lv_at hl 0 rfl) ?_
  refine r_iload_n C dX3_mend_1 rfl (lv_at hl 1 rfl) ?_
  refine r_cVR1 C m_X3_101 (cT_noMender (by exact ⟨by omega, by omega⟩) hs) hP rfl rfl hl.1 dX3_mend_2 ?_
  refine r_ifB_ne C (tgt := 15) dX3_mend_5 (by decide) (fun h1 => ?_) (fun h1 => ?_)
  · refine r_aload_n C dX3_mend_15 rfl (lv_at hl 0 rfl) ?_
    refine r_ldc C (-1000000001) ki_X3_48 (by decide) dX3_mend_16 ?_
    refine r_cVWA1 C m_X3_49 (cT_finding (by omega) (by omega)) hP hD hS (wT_ad.trans wT_ad.symm) rfl rfl hl.1 dX3_mend_18 (fun H locs hP hD hS => ?_)
    exact r_iretE C hP hS (t, tw, ty, tk, sa, en) (by first | (simp only [fMend, fD, fV, h1, not_true_eq_false, not_false_eq_true, and_true, true_and, and_false, false_and, or_true, true_or, or_false, false_or, if_true, if_false, ne_eq, reduceIte]; done) | (exfalso; omega) | ((unfold fMend fD; (repeat' split)) <;> first | rfl | (exfalso; omega))) (by first | (simp only [fMend, fD, fV, h1, not_true_eq_false, not_false_eq_true, and_true, true_and, and_false, false_and, or_true, true_or, or_false, false_or, if_true, if_false, ne_eq, reduceIte]; done) | (exfalso; omega) | ((unfold fMend fD; (repeat' split)) <;> first | rfl | (exfalso; omega))) dX3_mend_21
  · have h1 := Classical.not_not.mp h1
    refine r_iload_n C dX3_mend_8 rfl (lv_at hl 2 rfl) ?_
    refine r_cSR1 C m_X3_40 (cT_noCell (by exact ⟨by omega, by omega⟩)) pn0 hl.1 dX3_mend_9 ?_
    refine r_ifB_eq C (tgt := 22) dX3_mend_12 (by decide) (fun h2 => ?_) (fun h2 => ?_)
    · have h2 := Classical.not_not.mp h2
      refine r_aload_n C dX3_mend_22 rfl (lv_at hl 0 rfl) ?_
      refine g_X3_10 C hP 0 rfl rfl dX3_mend_23 ?_
      refine r_iload_n C dX3_mend_26 rfl (lv_at hl 1 rfl) ?_
      refine r_iload_n C dX3_mend_27 rfl (lv_at hl 2 rfl) ?_
      refine r_cVR2 C m_X3_128 (cW_costOf (b := (fun i => a (1 + i))) (s := s) (y := y) (by omega) (by omega) (by omega) (by omega) hs) (hp_T_s hP) rfl rfl hl.1 dX3_mend_28 ?_
      refine r_istore_n C [(3, .int (iI (cost s m c0))), (0, .ref (a 0)), (1, .int (iI m)), (2, .int (iI c0))] dX3_mend_31 rfl hl (by decide) rfl (fun ls hl => ?_)
      refine r_aload_n C dX3_mend_32 rfl (lv_at hl 1 rfl) ?_
      refine g_X3_10 C hP 0 rfl rfl dX3_mend_33 ?_
      refine r_iload_n C dX3_mend_36 rfl (lv_at hl 3 rfl) ?_
      refine r_cVR1 C m_X3_63 (cW_isWrong (b := (fun i => a (1 + i))) (s := s) (y := y) (by omega) (by omega)) (hp_T_s hP) rfl rfl hl.1 dX3_mend_37 ?_
      refine r_ifB_eq C (tgt := 56) dX3_mend_40 (by decide) (fun h3 => ?_) (fun h3 => ?_)
      · refine r_aload_n C dX3_mend_56 rfl (lv_at hl 1 rfl) ?_
        refine r_ldc C (-1000000005) ki_X3_127 (by decide) dX3_mend_57 ?_
        refine r_cVWA1 C m_X3_49 (cT_finding (by omega) (by omega)) hP hD hS (wT_ad.trans wT_ad.symm) rfl rfl hl.1 dX3_mend_59 (fun H locs hP hD hS => ?_)
        exact r_iretE C hP hS (t, tw, ty, tk, sa, en) (by first | (simp only [fMend, fD, h1, h2, h3, not_true_eq_false, not_false_eq_true, and_true, true_and, and_false, false_and, or_true, true_or, or_false, false_or, if_true, if_false, ne_eq, reduceIte]; done) | (simp only [fMend, fD, show ¬ cost s m c0 ≤ s (99 + 4 * m + 2) by omega, h1, h2, h3, not_true_eq_false, not_false_eq_true, and_true, true_and, and_false, false_and, or_true, true_or, or_false, false_or, if_true, if_false, ne_eq, reduceIte])) (by first | (simp only [fMend, fD, h1, h2, h3, not_true_eq_false, not_false_eq_true, and_true, true_and, and_false, false_and, or_true, true_or, or_false, false_or, if_true, if_false, ne_eq, reduceIte]; done) | (simp only [fMend, fD, show ¬ cost s m c0 ≤ s (99 + 4 * m + 2) by omega, h1, h2, h3, not_true_eq_false, not_false_eq_true, and_true, true_and, and_false, false_and, or_true, true_or, or_false, false_or, if_true, if_false, ne_eq, reduceIte])) dX3_mend_62
      · refine r_aload_n C dX3_mend_43 rfl (lv_at hl 1 rfl) ?_
        refine g_X3_10 C hP 0 rfl rfl dX3_mend_44 ?_
        refine g_X3_110 C hP 1 rfl rfl dX3_mend_47 ?_
        refine r_iload_n C dX3_mend_50 rfl (lv_at hl 2 rfl) ?_
        refine r_ialdV C hP 6 (s (99 + 4 * m + 2)) rfl dX3_mend_51 (by omega) (by omega) (by decide) (pu_at (by omega) (by omega)) ?_
        refine r_iload_n C dX3_mend_52 rfl (lv_at hl 0 rfl) ?_
        refine r_icmp_ge C (tgt := 63) dX3_mend_53 (by decide) (by have := hs.1 (99 + 4 * m + 2) (by omega); exact ⟨by omega, by omega⟩) (by have := cost_rg hs (m := m) (c := c0) (by omega) (by omega); exact ⟨by omega, by omega⟩) (fun h4 => ?_) (fun h4 => ?_)
        · refine r_aload_n C dX3_mend_63 rfl (lv_at hl 1 rfl) ?_
          refine g_X3_10 C hP 0 rfl rfl dX3_mend_64 ?_
          refine r_iload_n C dX3_mend_67 rfl (lv_at hl 2 rfl) ?_
          refine r_iload_n C dX3_mend_68 rfl (lv_at hl 3 rfl) ?_
          refine r_iload_n C dX3_mend_69 rfl (lv_at hl 0 rfl) ?_
          refine r_cVW3 C m_X3_132 (cW_payAndMend (b := (fun i => a (1 + i))) (s := s) (y := y) (by omega) (by omega) (by omega) (by omega) rfl (by have := cost_rg hs (m := m) (c := c0) (by omega) (by omega); have := hs.1 (99 + 4 * m + 2) (by omega); omega) hs) hP hD hS [1, 2, 3, 4, 5, 6, 7] (wT a k (mends (pay2 s m c0) m c0) (lB (wrF (mends (pay2 s m c0) m c0))) y t tw ty kq (lB (wrF kq)) ky tp ta tk sa en nm bi si nu st ik) rfl lc_T_s rfl lp_T_s (wT_ad.trans wT_ad.symm) rfl rfl hl.1 dX3_mend_70 (fun H locs hP hD hS => ?_)
          have hs1 : Ok (mends (pay2 s m c0) m c0) := ok_mends (ok_pay2 hs (by omega) (by omega) (by omega) (by omega)) (by omega) (by omega) (by omega) (by omega)
          refine r_aload_n C dX3_mend_73 rfl (lv_at hl 1 rfl) ?_
          refine g_X3_10 C hP 0 rfl rfl dX3_mend_74 ?_
          refine r_cVR0 C m_X3_136 (cW_howManyWrong (b := (fun i => a (1 + i))) (s := mends (pay2 s m c0) m c0) (y := y) ) (hp_T_s hP) rfl rfl hl.1 dX3_mend_77 ?_
          exact r_iretE C hP hS (t, tw, ty, tk, sa, en) (by simp only [fMend, payS, show cost s m c0 ≤ s (99 + 4 * m + 2) by omega, h1, h2, h3, h4, not_true_eq_false, not_false_eq_true, and_true, true_and, and_false, false_and, or_true, true_or, or_false, false_or, if_true, if_false, ne_eq, reduceIte]) (by simp only [fMend, payS, show cost s m c0 ≤ s (99 + 4 * m + 2) by omega, h1, h2, h3, h4, not_true_eq_false, not_false_eq_true, and_true, true_and, and_false, false_and, or_true, true_or, or_false, false_or, if_true, if_false, ne_eq, reduceIte]) dX3_mend_80
        · refine r_aload_n C dX3_mend_56 rfl (lv_at hl 1 rfl) ?_
          refine r_ldc C (-1000000005) ki_X3_127 (by decide) dX3_mend_57 ?_
          refine r_cVWA1 C m_X3_49 (cT_finding (by omega) (by omega)) hP hD hS (wT_ad.trans wT_ad.symm) rfl rfl hl.1 dX3_mend_59 (fun H locs hP hD hS => ?_)
          exact r_iretE C hP hS (t, tw, ty, tk, sa, en) (by first | (simp only [fMend, fD, h1, h2, h3, h4, not_true_eq_false, not_false_eq_true, and_true, true_and, and_false, false_and, or_true, true_or, or_false, false_or, if_true, if_false, ne_eq, reduceIte]; done) | (simp only [fMend, fD, show ¬ cost s m c0 ≤ s (99 + 4 * m + 2) by omega, h1, h2, h3, h4, not_true_eq_false, not_false_eq_true, and_true, true_and, and_false, false_and, or_true, true_or, or_false, false_or, if_true, if_false, ne_eq, reduceIte])) (by first | (simp only [fMend, fD, h1, h2, h3, h4, not_true_eq_false, not_false_eq_true, and_true, true_and, and_false, false_and, or_true, true_or, or_false, false_or, if_true, if_false, ne_eq, reduceIte]; done) | (simp only [fMend, fD, show ¬ cost s m c0 ≤ s (99 + 4 * m + 2) by omega, h1, h2, h3, h4, not_true_eq_false, not_false_eq_true, and_true, true_and, and_false, false_and, or_true, true_or, or_false, false_or, if_true, if_false, ne_eq, reduceIte])) dX3_mend_62
    · refine r_aload_n C dX3_mend_15 rfl (lv_at hl 0 rfl) ?_
      refine r_ldc C (-1000000001) ki_X3_48 (by decide) dX3_mend_16 ?_
      refine r_cVWA1 C m_X3_49 (cT_finding (by omega) (by omega)) hP hD hS (wT_ad.trans wT_ad.symm) rfl rfl hl.1 dX3_mend_18 (fun H locs hP hD hS => ?_)
      exact r_iretE C hP hS (t, tw, ty, tk, sa, en) (by first | (simp only [fMend, fD, fV, h1, h2, not_true_eq_false, not_false_eq_true, and_true, true_and, and_false, false_and, or_true, true_or, or_false, false_or, if_true, if_false, ne_eq, reduceIte]; done) | (exfalso; omega) | ((unfold fMend fD; (repeat' split)) <;> first | rfl | (exfalso; omega))) (by first | (simp only [fMend, fD, fV, h1, h2, not_true_eq_false, not_false_eq_true, and_true, true_and, and_false, false_and, or_true, true_or, or_false, false_or, if_true, if_false, ne_eq, reduceIte]; done) | (exfalso; omega) | ((unfold fMend fD; (repeat' split)) <;> first | rfl | (exfalso; omega))) dX3_mend_21
set_option maxHeartbeats 4000000 in
set_option maxRecDepth 100000 in
theorem cT_years {n0 : Int} (zn0 : In32 n0) (hs : Ok s) (hy : 0 ≤ s 1 ∧ s 1 ≤ 9999) : ME l yX3_years cX3_years 2 (some .int) 6 138 D k [.ref (a 0), .int (iI n0)] (wT a k s (lB (wrF s)) (s 1) t tw ty kq (lB (wrF kq)) ky tp ta tk sa en nm bi si nu st ik) (fun x : (Int → Int) × Int64 × Int × Int × Int × Int => wT a k ((fYears s st n0).2.1) (lB (wrF ((fYears s st n0).2.1))) ((fYears s st n0).2.1 1) x.1 x.2.1 x.2.2.1 kq (lB (wrF kq)) ky tp ta x.2.2.2.1 x.2.2.2.2.1 x.2.2.2.2.2 nm bi si nu ((fYears s st n0).2.2) ik) (some (.int (iI ((fYears s st n0).1)))) := by
  refine ME.mk RX3 rfl (by decide +kernel) (Nat.le_of_ble_eq_true rfl) (fun p e U m0 below meth cd ls C hP hD hS hl => ?_)
  have hl : lv_has ls 2 [(0, .ref (a 0)), (1, .int (iI n0))] := hl
  have zn01 := zn0.1
  have zn02 := zn0.2
  have h00 := hs.1 0 (by decide)
  have h06 := hs.2.2.1
  refine r_iload_n C dX3_years_0 rfl (lv_at hl 1 rfl) ?_
  refine r_iconst C dX3_years_1 ?_
  refine r_bipush C dX3_years_2 (by decide) ?_
  refine r_cSR3 C m_X3_44 (cT_outside (by exact ⟨by omega, by omega⟩) ⟨by decide, by decide⟩ ⟨by decide, by decide⟩) pn0 hl.1 dX3_years_4 ?_
  refine r_ifB_eq C (tgt := 17) dX3_years_7 (by decide) (fun h1 => ?_) (fun h1 => ?_)
  · have h1 := Classical.not_not.mp h1
    refine r_aload_n C dX3_years_17 rfl (lv_at hl 0 rfl) ?_
    refine g_X3_10 C hP 0 rfl rfl dX3_years_18 ?_
    refine g_X3_140 C hP 1 rfl rfl dX3_years_21 ?_
    refine r_iload_n C dX3_years_24 rfl (lv_at hl 1 rfl) ?_
    refine r_iadd C dX3_years_25 ?_
    refine r_sipush C dX3_years_26 (by decide) ?_
    refine r_icmp_le C (tgt := 39) dX3_years_29 (by decide) (by exact ⟨by omega, by omega⟩) ⟨by decide, by decide⟩ (fun h2 => ?_) (fun h2 => ?_)
    · refine r_aload_n C dX3_years_39 rfl (lv_at hl 0 rfl) ?_
      refine g_X3_10 C hP 0 rfl rfl dX3_years_40 ?_
      refine r_dup C dX3_years_43 rfl ?_
      refine g_X3_140 C hP 1 rfl rfl dX3_years_44 ?_
      refine r_iload_n C dX3_years_47 rfl (lv_at hl 1 rfl) ?_
      refine r_iadd C dX3_years_48 ?_
      refine p_X3_140 C hP hD hS 1 (wT a k s (lB (wrF s)) ((s 1) + n0) t tw ty kq (lB (wrF kq)) ky tp ta tk sa en nm bi si nu st ik) rfl (Nat.le_of_ble_eq_true rfl) rfl dX3_years_49 (fun H locs hP hD hS => ?_)
      refine r_aload_n C dX3_years_52 rfl (lv_at hl 0 rfl) ?_
      refine g_X3_10 C hP 0 rfl rfl dX3_years_53 ?_
      refine r_iload_n C dX3_years_56 rfl (lv_at hl 1 rfl) ?_
      refine r_iconst C dX3_years_57 ?_
      refine r_cVW2 C m_X3_143 (cW_passYears (b := (fun i => a (1 + i))) (s := s) (y := (s 1) + n0) (by omega) (by omega) (by exact ⟨by omega, by omega⟩) hs) hP hD hS [1, 2, 3, 4, 5, 6, 7] (wT a k (ysN s (-1) n0.toNat) (lB (wrF (ysN s (-1) n0.toNat))) ((s 1) + n0) t tw ty kq (lB (wrF kq)) ky tp ta tk sa en nm bi si nu st ik) rfl lc_T_s rfl lp_T_s (wT_ad.trans wT_ad.symm) rfl rfl hl.1 dX3_years_58 (fun H locs hP hD hS => ?_)
      have hs1 : Ok (ysN s (-1) n0.toNat) := ok_ysN hs ((-1)) _
      exact r_iretE C hP hS (t, tw, ty, tk, sa, en) (by first | (simp only [fYears, fD, fV, h1, h2, not_true_eq_false, not_false_eq_true, and_true, true_and, and_false, false_and, or_true, true_or, or_false, false_or, if_true, if_false, ne_eq, reduceIte]; done) | (simp only [fYears, fD, fV, h1, h2, not_true_eq_false, not_false_eq_true, and_true, true_and, and_false, false_and, or_true, true_or, or_false, false_or, if_true, if_false, ne_eq, reduceIte, ysN_1, show s 1 + ((n0.toNat : Nat) : Int) = s 1 + n0 by omega]; done) | (simp only [fYears, fD, show ¬ s 1 + n0 ≤ 9999 by omega, h1, h2, not_true_eq_false, not_false_eq_true, and_true, true_and, and_false, false_and, or_true, true_or, or_false, false_or, if_true, if_false, ne_eq, reduceIte])) (by first | (simp only [fYears, fD, fV, h1, h2, not_true_eq_false, not_false_eq_true, and_true, true_and, and_false, false_and, or_true, true_or, or_false, false_or, if_true, if_false, ne_eq, reduceIte]; done) | (simp only [fYears, fD, fV, h1, h2, not_true_eq_false, not_false_eq_true, and_true, true_and, and_false, false_and, or_true, true_or, or_false, false_or, if_true, if_false, ne_eq, reduceIte, ysN_1, show s 1 + ((n0.toNat : Nat) : Int) = s 1 + n0 by omega]; done) | (simp only [fYears, fD, show ¬ s 1 + n0 ≤ 9999 by omega, h1, h2, not_true_eq_false, not_false_eq_true, and_true, true_and, and_false, false_and, or_true, true_or, or_false, false_or, if_true, if_false, ne_eq, reduceIte])) dX3_years_61
    · refine r_aload_n C dX3_years_32 rfl (lv_at hl 0 rfl) ?_
      refine r_ldc C (-1000000005) ki_X3_127 (by decide) dX3_years_33 ?_
      refine r_cVWA1 C m_X3_49 (cT_finding (by omega) (by omega)) hP hD hS (wT_ad.trans wT_ad.symm) rfl rfl hl.1 dX3_years_35 (fun H locs hP hD hS => ?_)
      exact r_iretE C hP hS (t, tw, ty, tk, sa, en) (by first | (simp only [fYears, fD, fV, h1, h2, not_true_eq_false, not_false_eq_true, and_true, true_and, and_false, false_and, or_true, true_or, or_false, false_or, if_true, if_false, ne_eq, reduceIte]; done) | (simp only [fYears, fD, fV, h1, h2, not_true_eq_false, not_false_eq_true, and_true, true_and, and_false, false_and, or_true, true_or, or_false, false_or, if_true, if_false, ne_eq, reduceIte, ysN_1, show s 1 + ((n0.toNat : Nat) : Int) = s 1 + n0 by omega]; done) | (simp only [fYears, fD, show ¬ s 1 + n0 ≤ 9999 by omega, h1, h2, not_true_eq_false, not_false_eq_true, and_true, true_and, and_false, false_and, or_true, true_or, or_false, false_or, if_true, if_false, ne_eq, reduceIte])) (by first | (simp only [fYears, fD, fV, h1, h2, not_true_eq_false, not_false_eq_true, and_true, true_and, and_false, false_and, or_true, true_or, or_false, false_or, if_true, if_false, ne_eq, reduceIte]; done) | (simp only [fYears, fD, fV, h1, h2, not_true_eq_false, not_false_eq_true, and_true, true_and, and_false, false_and, or_true, true_or, or_false, false_or, if_true, if_false, ne_eq, reduceIte, ysN_1, show s 1 + ((n0.toNat : Nat) : Int) = s 1 + n0 by omega]; done) | (simp only [fYears, fD, show ¬ s 1 + n0 ≤ 9999 by omega, h1, h2, not_true_eq_false, not_false_eq_true, and_true, true_and, and_false, false_and, or_true, true_or, or_false, false_or, if_true, if_false, ne_eq, reduceIte])) dX3_years_38
  · refine r_aload_n C dX3_years_10 rfl (lv_at hl 0 rfl) ?_
    refine r_ldc C (-1000000001) ki_X3_48 (by decide) dX3_years_11 ?_
    refine r_cVWA1 C m_X3_49 (cT_finding (by omega) (by omega)) hP hD hS (wT_ad.trans wT_ad.symm) rfl rfl hl.1 dX3_years_13 (fun H locs hP hD hS => ?_)
    exact r_iretE C hP hS (t, tw, ty, tk, sa, en) (by first | (simp only [fYears, fD, fV, h1, not_true_eq_false, not_false_eq_true, and_true, true_and, and_false, false_and, or_true, true_or, or_false, false_or, if_true, if_false, ne_eq, reduceIte]; done) | (simp only [fYears, fD, fV, h1, not_true_eq_false, not_false_eq_true, and_true, true_and, and_false, false_and, or_true, true_or, or_false, false_or, if_true, if_false, ne_eq, reduceIte, ysN_1, show s 1 + ((n0.toNat : Nat) : Int) = s 1 + n0 by omega]; done) | (simp only [fYears, fD, show ¬ s 1 + n0 ≤ 9999 by omega, h1, not_true_eq_false, not_false_eq_true, and_true, true_and, and_false, false_and, or_true, true_or, or_false, false_or, if_true, if_false, ne_eq, reduceIte])) (by first | (simp only [fYears, fD, fV, h1, not_true_eq_false, not_false_eq_true, and_true, true_and, and_false, false_and, or_true, true_or, or_false, false_or, if_true, if_false, ne_eq, reduceIte]; done) | (simp only [fYears, fD, fV, h1, not_true_eq_false, not_false_eq_true, and_true, true_and, and_false, false_and, or_true, true_or, or_false, false_or, if_true, if_false, ne_eq, reduceIte, ysN_1, show s 1 + ((n0.toNat : Nat) : Int) = s 1 + n0 by omega]; done) | (simp only [fYears, fD, show ¬ s 1 + n0 ≤ 9999 by omega, h1, not_true_eq_false, not_false_eq_true, and_true, true_and, and_false, false_and, or_true, true_or, or_false, false_or, if_true, if_false, ne_eq, reduceIte])) dX3_years_16
set_option maxHeartbeats 4000000 in
set_option maxRecDepth 100000 in
theorem cT_now {w : Int} (zw : In32 w) (hs : Ok s) : ME l yX3_now cX3_now 2 (some .int) 2 41 D k [.ref (a 0), .int (iI w)] (wT a k s (lB (wrF s)) (s 1) t tw ty kq (lB (wrF kq)) ky tp ta tk sa en nm bi si nu st ik) (fun x : (Int → Int) × Int64 × Int × Int × Int × Int => wT a k ((fNow s st w).2.1) (lB (wrF ((fNow s st w).2.1))) (s 1) x.1 x.2.1 x.2.2.1 kq (lB (wrF kq)) ky tp ta x.2.2.2.1 x.2.2.2.2.1 x.2.2.2.2.2 nm bi si nu ((fNow s st w).2.2) ik) (some (.int (iI ((fNow s st w).1)))) := by
  refine ME.mk RX3 rfl (by decide +kernel) (Nat.le_of_ble_eq_true rfl) (fun p e U m0 below meth cd ls C hP hD hS hl => ?_)
  have hl : lv_has ls 2 [(0, .ref (a 0)), (1, .int (iI w))] := hl
  have zw1 := zw.1
  have zw2 := zw.2
  have h00 := hs.1 0 (by decide)
  have h06 := hs.2.2.1
  refine r_iload_n C dX3_now_0 rfl (lv_at hl 1 rfl) ?_
  refine r_iconst C dX3_now_1 ?_
  refine r_iconst C dX3_now_2 ?_
  refine r_cSR3 C m_X3_44 (cT_outside (by exact ⟨by omega, by omega⟩) ⟨by decide, by decide⟩ ⟨by decide, by decide⟩) pn0 hl.1 dX3_now_3 ?_
  refine r_ifB_eq C (tgt := 16) dX3_now_6 (by decide) (fun h1 => ?_) (fun h1 => ?_)
  · have h1 := Classical.not_not.mp h1
    refine r_iload_n C dX3_now_16 rfl (lv_at hl 1 rfl) ?_
    by_cases h2 : w = 0
    · refine r_tableIn C (0) h2 dX3_now_17 (by decide) (by decide) rfl (tgt := 48) (by decide) ?_
      refine r_aload_n C dX3_now_48 rfl (lv_at hl 0 rfl) ?_
      refine g_X3_10 C hP 0 rfl rfl dX3_now_49 ?_
      refine g_X3_140 C hP 1 rfl rfl dX3_now_52 ?_
      exact r_iretE C hP hS (t, tw, ty, tk, sa, en) (by first | (simp only [fNow, fD, fV, h1, eq_true h2, not_true_eq_false, not_false_eq_true, and_true, true_and, and_false, false_and, or_true, true_or, or_false, false_or, if_true, if_false, ne_eq, reduceIte]; done) | (exfalso; omega) | ((unfold fNow fD; (repeat' split)) <;> first | rfl | (exfalso; omega))) (by first | (simp only [fNow, fD, fV, h1, eq_true h2, not_true_eq_false, not_false_eq_true, and_true, true_and, and_false, false_and, or_true, true_or, or_false, false_or, if_true, if_false, ne_eq, reduceIte]; done) | (exfalso; omega) | ((unfold fNow fD; (repeat' split)) <;> first | rfl | (exfalso; omega))) dX3_now_55
    by_cases h3 : w = 1
    · refine r_tableIn C (1) h3 dX3_now_17 (by decide) (by decide) rfl (tgt := 56) (by decide) ?_
      refine r_aload_n C dX3_now_56 rfl (lv_at hl 0 rfl) ?_
      refine g_X3_10 C hP 0 rfl rfl dX3_now_57 ?_
      refine r_cVR0 C m_X3_136 (cW_howManyWrong (b := (fun i => a (1 + i))) (s := s) (y := s 1) ) (hp_T_s hP) rfl rfl hl.1 dX3_now_60 ?_
      exact r_iretE C hP hS (t, tw, ty, tk, sa, en) (by first | (simp only [fNow, fD, fV, h1, h2, eq_true h3, not_true_eq_false, not_false_eq_true, and_true, true_and, and_false, false_and, or_true, true_or, or_false, false_or, if_true, if_false, ne_eq, reduceIte]; done) | (exfalso; omega) | ((unfold fNow fD; (repeat' split)) <;> first | rfl | (exfalso; omega))) (by first | (simp only [fNow, fD, fV, h1, h2, eq_true h3, not_true_eq_false, not_false_eq_true, and_true, true_and, and_false, false_and, or_true, true_or, or_false, false_or, if_true, if_false, ne_eq, reduceIte]; done) | (exfalso; omega) | ((unfold fNow fD; (repeat' split)) <;> first | rfl | (exfalso; omega))) dX3_now_63
    by_cases h4 : w = 2
    · refine r_tableIn C (2) h4 dX3_now_17 (by decide) (by decide) rfl (tgt := 64) (by decide) ?_
      refine r_aload_n C dX3_now_64 rfl (lv_at hl 0 rfl) ?_
      refine g_X3_10 C hP 0 rfl rfl dX3_now_65 ?_
      refine r_aload_n C dX3_now_68 rfl (lv_at hl 0 rfl) ?_
      refine g_X3_10 C hP 0 rfl rfl dX3_now_69 ?_
      refine g_X3_110 C hP 1 rfl rfl dX3_now_72 ?_
      refine r_cVR1 C m_X3_146 (cW_together2 (b := (fun i => a (1 + i))) (s := s) (y := s 1) hs) (hp_T_s hP) rfl rfl hl.1 dX3_now_75 ?_
      exact r_iretE C hP hS (t, tw, ty, tk, sa, en) (by first | (simp only [fNow, fD, fV, h1, h2, h3, eq_true h4, not_true_eq_false, not_false_eq_true, and_true, true_and, and_false, false_and, or_true, true_or, or_false, false_or, if_true, if_false, ne_eq, reduceIte]; done) | (exfalso; omega) | ((unfold fNow fD; (repeat' split)) <;> first | rfl | (exfalso; omega))) (by first | (simp only [fNow, fD, fV, h1, h2, h3, eq_true h4, not_true_eq_false, not_false_eq_true, and_true, true_and, and_false, false_and, or_true, true_or, or_false, false_or, if_true, if_false, ne_eq, reduceIte]; done) | (exfalso; omega) | ((unfold fNow fD; (repeat' split)) <;> first | rfl | (exfalso; omega))) dX3_now_78
    by_cases h5 : w = 3
    · refine r_tableIn C (3) h5 dX3_now_17 (by decide) (by decide) rfl (tgt := 79) (by decide) ?_
      refine r_aload_n C dX3_now_79 rfl (lv_at hl 0 rfl) ?_
      refine g_X3_10 C hP 0 rfl rfl dX3_now_80 ?_
      refine r_aload_n C dX3_now_83 rfl (lv_at hl 0 rfl) ?_
      refine g_X3_10 C hP 0 rfl rfl dX3_now_84 ?_
      refine g_X3_113 C hP 1 rfl rfl dX3_now_87 ?_
      refine r_cVR1 C m_X3_146 (cW_together3 (b := (fun i => a (1 + i))) (s := s) (y := s 1) hs) (hp_T_s hP) rfl rfl hl.1 dX3_now_90 ?_
      exact r_iretE C hP hS (t, tw, ty, tk, sa, en) (by first | (simp only [fNow, fD, fV, h1, h2, h3, h4, eq_true h5, not_true_eq_false, not_false_eq_true, and_true, true_and, and_false, false_and, or_true, true_or, or_false, false_or, if_true, if_false, ne_eq, reduceIte]; done) | (exfalso; omega) | ((unfold fNow fD; (repeat' split)) <;> first | rfl | (exfalso; omega))) (by first | (simp only [fNow, fD, fV, h1, h2, h3, h4, eq_true h5, not_true_eq_false, not_false_eq_true, and_true, true_and, and_false, false_and, or_true, true_or, or_false, false_or, if_true, if_false, ne_eq, reduceIte]; done) | (exfalso; omega) | ((unfold fNow fD; (repeat' split)) <;> first | rfl | (exfalso; omega))) dX3_now_93
    refine r_tableOut C dX3_now_17 (by exact ⟨by omega, by omega⟩) (by omega) (tgt := 94) (by decide) ?_
    refine r_aload_n C dX3_now_94 rfl (lv_at hl 0 rfl) ?_
    refine g_X3_10 C hP 0 rfl rfl dX3_now_95 ?_
    refine g_X3_87 C hP 1 rfl rfl dX3_now_98 ?_
    exact r_iretE C hP hS (t, tw, ty, tk, sa, en) (by simp only [fNow, fV, show w = 4 by omega, h1, h2, h3, h4, h5, not_true_eq_false, not_false_eq_true, and_true, true_and, and_false, false_and, or_true, true_or, or_false, false_or, if_true, if_false, ne_eq, reduceIte, show ¬ (4 : Int) = 0 by decide, show ¬ (4 : Int) = 1 by decide, show ¬ (4 : Int) = 2 by decide, show ¬ (4 : Int) = 3 by decide]) (by simp only [fNow, fV, show w = 4 by omega, h1, h2, h3, h4, h5, not_true_eq_false, not_false_eq_true, and_true, true_and, and_false, false_and, or_true, true_or, or_false, false_or, if_true, if_false, ne_eq, reduceIte, show ¬ (4 : Int) = 0 by decide, show ¬ (4 : Int) = 1 by decide, show ¬ (4 : Int) = 2 by decide, show ¬ (4 : Int) = 3 by decide]) dX3_now_101
  · refine r_aload_n C dX3_now_9 rfl (lv_at hl 0 rfl) ?_
    refine r_ldc C (-1000000001) ki_X3_48 (by decide) dX3_now_10 ?_
    refine r_cVWA1 C m_X3_49 (cT_finding (by omega) (by omega)) hP hD hS (wT_ad.trans wT_ad.symm) rfl rfl hl.1 dX3_now_12 (fun H locs hP hD hS => ?_)
    exact r_iretE C hP hS (t, tw, ty, tk, sa, en) (by simp only [fNow, fD, show ¬ w = 0 by omega, show ¬ w = 1 by omega, show ¬ w = 2 by omega, show ¬ w = 3 by omega, show ¬ w = 4 by omega, not_true_eq_false, not_false_eq_true, and_true, true_and, and_false, false_and, or_true, true_or, or_false, false_or, if_true, if_false, ne_eq, reduceIte]) (by simp only [fNow, fD, show ¬ w = 0 by omega, show ¬ w = 1 by omega, show ¬ w = 2 by omega, show ¬ w = 3 by omega, show ¬ w = 4 by omega, not_true_eq_false, not_false_eq_true, and_true, true_and, and_false, false_and, or_true, true_or, or_false, false_or, if_true, if_false, ne_eq, reduceIte]) dX3_now_15
set_option maxHeartbeats 4000000 in
set_option maxRecDepth 100000 in
theorem cT_on {m : Int} {n0 : Int} {w : Int} (zm : In32 m) (zn0 : In32 n0) (zw : In32 w) (hs : Ok s) : ME l yX3_on cX3_on 4 (some .int) 6 138 D k [.ref (a 0), .int (iI m), .int (iI n0), .int (iI w)] (wT a k s (lB (wrF s)) y t tw ty kq (lB (wrF kq)) ky tp ta tk sa en nm bi si nu st ik) (fun x : (Int → Int) × Int64 × Int × Int × Int × Int => wT a k ((fOn s st m n0 w).2.1) (lB (wrF ((fOn s st m n0 w).2.1))) y x.1 x.2.1 x.2.2.1 kq (lB (wrF kq)) ky tp ta x.2.2.2.1 x.2.2.2.2.1 x.2.2.2.2.2 nm bi si nu ((fOn s st m n0 w).2.2) ik) (some (.int (iI ((fOn s st m n0 w).1)))) := by
  refine ME.mk RX3 rfl (by decide +kernel) (Nat.le_of_ble_eq_true rfl) (fun p e U m0 below meth cd ls C hP hD hS hl => ?_)
  have hl : lv_has ls 4 [(0, .ref (a 0)), (1, .int (iI m)), (2, .int (iI n0)), (3, .int (iI w))] := hl
  have zm1 := zm.1
  have zm2 := zm.2
  have zn01 := zn0.1
  have zn02 := zn0.2
  have zw1 := zw.1
  have zw2 := zw.2
  have h00 := hs.1 0 (by decide)
  have h06 := hs.2.2.1
  refine r_aload_n C dX3_on_0 rfl (lv_at hl 0 rfl) ?_
  refine r_iload_n C dX3_on_1 rfl (lv_at hl 1 rfl) ?_
  refine r_cVR1 C m_X3_101 (cT_noMender (by exact ⟨by omega, by omega⟩) hs) hP rfl rfl hl.1 dX3_on_2 ?_
  refine r_ifB_ne C (tgt := 27) dX3_on_5 (by decide) (fun h1 => ?_) (fun h1 => ?_)
  · refine r_aload_n C dX3_on_27 rfl (lv_at hl 0 rfl) ?_
    refine r_ldc C (-1000000001) ki_X3_48 (by decide) dX3_on_28 ?_
    refine r_cVWA1 C m_X3_49 (cT_finding (by omega) (by omega)) hP hD hS (wT_ad.trans wT_ad.symm) rfl rfl hl.1 dX3_on_30 (fun H locs hP hD hS => ?_)
    exact r_iretE C hP hS (t, tw, ty, tk, sa, en) (by first | (simp only [fOn, fD, fV, h1, not_true_eq_false, not_false_eq_true, and_true, true_and, and_false, false_and, or_true, true_or, or_false, false_or, if_true, if_false, ne_eq, reduceIte]; done) | (exfalso; omega) | ((unfold fOn fD; (repeat' split)) <;> first | rfl | (exfalso; omega))) (by first | (simp only [fOn, fD, fV, h1, not_true_eq_false, not_false_eq_true, and_true, true_and, and_false, false_and, or_true, true_or, or_false, false_or, if_true, if_false, ne_eq, reduceIte]; done) | (exfalso; omega) | ((unfold fOn fD; (repeat' split)) <;> first | rfl | (exfalso; omega))) dX3_on_33
  · have h1 := Classical.not_not.mp h1
    refine r_iload_n C dX3_on_8 rfl (lv_at hl 2 rfl) ?_
    refine r_iconst C dX3_on_9 ?_
    refine r_bipush C dX3_on_10 (by decide) ?_
    refine r_cSR3 C m_X3_44 (cT_outside (by exact ⟨by omega, by omega⟩) ⟨by decide, by decide⟩ ⟨by decide, by decide⟩) pn0 hl.1 dX3_on_12 ?_
    refine r_ifB_ne C (tgt := 27) dX3_on_15 (by decide) (fun h2 => ?_) (fun h2 => ?_)
    · refine r_aload_n C dX3_on_27 rfl (lv_at hl 0 rfl) ?_
      refine r_ldc C (-1000000001) ki_X3_48 (by decide) dX3_on_28 ?_
      refine r_cVWA1 C m_X3_49 (cT_finding (by omega) (by omega)) hP hD hS (wT_ad.trans wT_ad.symm) rfl rfl hl.1 dX3_on_30 (fun H locs hP hD hS => ?_)
      exact r_iretE C hP hS (t, tw, ty, tk, sa, en) (by first | (simp only [fOn, fD, fV, h1, h2, not_true_eq_false, not_false_eq_true, and_true, true_and, and_false, false_and, or_true, true_or, or_false, false_or, if_true, if_false, ne_eq, reduceIte]; done) | (exfalso; omega) | ((unfold fOn fD; (repeat' split)) <;> first | rfl | (exfalso; omega))) (by first | (simp only [fOn, fD, fV, h1, h2, not_true_eq_false, not_false_eq_true, and_true, true_and, and_false, false_and, or_true, true_or, or_false, false_or, if_true, if_false, ne_eq, reduceIte]; done) | (exfalso; omega) | ((unfold fOn fD; (repeat' split)) <;> first | rfl | (exfalso; omega))) dX3_on_33
    · have h2 := Classical.not_not.mp h2
      refine r_iload_n C dX3_on_18 rfl (lv_at hl 3 rfl) ?_
      refine r_iconst C dX3_on_19 ?_
      refine r_iconst C dX3_on_20 ?_
      refine r_cSR3 C m_X3_44 (cT_outside (by exact ⟨by omega, by omega⟩) ⟨by decide, by decide⟩ ⟨by decide, by decide⟩) pn0 hl.1 dX3_on_21 ?_
      refine r_ifB_eq C (tgt := 34) dX3_on_24 (by decide) (fun h3 => ?_) (fun h3 => ?_)
      · have h3 := Classical.not_not.mp h3
        refine r_aload_n C dX3_on_34 rfl (lv_at hl 0 rfl) ?_
        refine g_X3_16 C hP 0 rfl rfl dX3_on_35 ?_
        refine r_aload_n C dX3_on_38 rfl (lv_at hl 0 rfl) ?_
        refine g_X3_10 C hP 0 rfl rfl dX3_on_39 ?_
        refine r_cVW1 C m_X3_150 (cW_become (b := (fun i => a (8 + i))) (d := (fun i => a (1 + i))) (s := t) (t := s) (wr := tw) (tw := lB (wrF s)) (y := ty) (ty := y)) hP hD hS [8, 9, 10, 11, 12, 13, 14, 1, 2, 3, 4, 5, 6, 7] (wT a k s (lB (wrF s)) y s (lB (wrF s)) y kq (lB (wrF kq)) ky tp ta tk sa en nm bi si nu st ik) rfl lc_T_t_s rfl lp_T_t_s (wT_ad.trans wT_ad.symm) rfl rfl hl.1 dX3_on_42 (fun H locs hP hD hS => ?_)
        refine r_aload_n C dX3_on_45 rfl (lv_at hl 0 rfl) ?_
        refine g_X3_16 C hP 0 rfl rfl dX3_on_46 ?_
        refine r_iload_n C dX3_on_49 rfl (lv_at hl 2 rfl) ?_
        refine r_iconst C dX3_on_50 ?_
        refine r_cVW2 C m_X3_143 (cW_passYears (b := (fun i => a (8 + i))) (s := s) (y := y) (by omega) (by omega) (by exact ⟨by omega, by omega⟩) hs) hP hD hS [8, 9, 10, 11, 12, 13, 14] (wT a k s (lB (wrF s)) y (ysN s (-1) n0.toNat) (lB (wrF (ysN s (-1) n0.toNat))) y kq (lB (wrF kq)) ky tp ta tk sa en nm bi si nu st ik) rfl lc_T_t rfl lp_T_t (wT_ad.trans wT_ad.symm) rfl rfl hl.1 dX3_on_51 (fun H locs hP hD hS => ?_)
        have ht1 : Ok (ysN s (-1) n0.toNat) := ok_ysN hs ((-1)) _
        refine r_pop C dX3_on_54 rfl ?_
        refine r_iload_n C dX3_on_55 rfl (lv_at hl 3 rfl) ?_
        by_cases h4 : w = 0
        · refine r_lookupIn C (0) h4 dX3_on_56 (off := 28) (by decide) (by decide) (tgt := 84) (by decide) ?_
          refine r_aload_n C dX3_on_84 rfl (lv_at hl 0 rfl) ?_
          refine g_X3_16 C hP 0 rfl rfl dX3_on_85 ?_
          refine g_X3_107 C hP 8 rfl rfl dX3_on_88 ?_
          refine r_iload_n C dX3_on_91 rfl (lv_at hl 1 rfl) ?_
          refine r_ialdV C hP 12 ((ysN s (-1) n0.toNat) (99 + 4 * m + 1)) rfl dX3_on_92 (by omega) (by omega) (by decide) (pl_at (by omega) (by omega)) ?_
          exact r_iretE C hP hS (ysN s (-1) n0.toNat, lB (wrF (ysN s (-1) n0.toNat)), y, tk, sa, en) (by first | (simp only [fOn, fD, fV, h1, h2, h3, eq_true h4, not_true_eq_false, not_false_eq_true, and_true, true_and, and_false, false_and, or_true, true_or, or_false, false_or, if_true, if_false, ne_eq, reduceIte]; done) | (exfalso; omega) | ((unfold fOn fD; (repeat' split)) <;> first | rfl | (exfalso; omega))) (by have hw9 := h4; subst hw9; simp [fOn, fV, h1, h2, h3]) dX3_on_93
        by_cases h5 : w = 1
        · refine r_lookupIn C (1) h5 dX3_on_56 (off := 38) (by decide) (by decide) (tgt := 94) (by decide) ?_
          refine r_aload_n C dX3_on_94 rfl (lv_at hl 0 rfl) ?_
          refine g_X3_16 C hP 0 rfl rfl dX3_on_95 ?_
          refine g_X3_110 C hP 8 rfl rfl dX3_on_98 ?_
          refine r_iload_n C dX3_on_101 rfl (lv_at hl 1 rfl) ?_
          refine r_ialdV C hP 13 ((ysN s (-1) n0.toNat) (99 + 4 * m + 2)) rfl dX3_on_102 (by omega) (by omega) (by decide) (pu_at (by omega) (by omega)) ?_
          exact r_iretE C hP hS (ysN s (-1) n0.toNat, lB (wrF (ysN s (-1) n0.toNat)), y, tk, sa, en) (by first | (simp only [fOn, fD, fV, h1, h2, h3, h4, eq_true h5, not_true_eq_false, not_false_eq_true, and_true, true_and, and_false, false_and, or_true, true_or, or_false, false_or, if_true, if_false, ne_eq, reduceIte]; done) | (exfalso; omega) | ((unfold fOn fD; (repeat' split)) <;> first | rfl | (exfalso; omega))) (by have hw9 := h5; subst hw9; simp [fOn, fV, h1, h2, h3, h4]) dX3_on_103
        have h6 : w = 2 := by omega
        refine r_lookupIn C (2) h6 dX3_on_56 (off := 48) (by decide) (by decide) (tgt := 104) (by decide) ?_
        refine r_aload_n C dX3_on_104 rfl (lv_at hl 0 rfl) ?_
        refine g_X3_16 C hP 0 rfl rfl dX3_on_105 ?_
        refine g_X3_113 C hP 8 rfl rfl dX3_on_108 ?_
        refine r_iload_n C dX3_on_111 rfl (lv_at hl 1 rfl) ?_
        refine r_ialdV C hP 14 ((ysN s (-1) n0.toNat) (99 + 4 * m + 3)) rfl dX3_on_112 (by omega) (by omega) (by decide) (pa_at (by omega) (by omega)) ?_
        exact r_iretE C hP hS (ysN s (-1) n0.toNat, lB (wrF (ysN s (-1) n0.toNat)), y, tk, sa, en) (by first | (simp only [fOn, fD, fV, h1, h2, h3, h4, h5, eq_true h6, not_true_eq_false, not_false_eq_true, and_true, true_and, and_false, false_and, or_true, true_or, or_false, false_or, if_true, if_false, ne_eq, reduceIte]; done) | (exfalso; omega) | ((unfold fOn fD; (repeat' split)) <;> first | rfl | (exfalso; omega))) (by have hw9 := h6; subst hw9; simp [fOn, fV, h1, h2, h3, h4, h5]) dX3_on_113
      · refine r_aload_n C dX3_on_27 rfl (lv_at hl 0 rfl) ?_
        refine r_ldc C (-1000000001) ki_X3_48 (by decide) dX3_on_28 ?_
        refine r_cVWA1 C m_X3_49 (cT_finding (by omega) (by omega)) hP hD hS (wT_ad.trans wT_ad.symm) rfl rfl hl.1 dX3_on_30 (fun H locs hP hD hS => ?_)
        exact r_iretE C hP hS (t, tw, ty, tk, sa, en) (by first | (simp only [fOn, fD, fV, h1, h2, h3, not_true_eq_false, not_false_eq_true, and_true, true_and, and_false, false_and, or_true, true_or, or_false, false_or, if_true, if_false, ne_eq, reduceIte]; done) | (exfalso; omega) | ((unfold fOn fD; (repeat' split)) <;> first | rfl | (exfalso; omega))) (by first | (simp only [fOn, fD, fV, h1, h2, h3, not_true_eq_false, not_false_eq_true, and_true, true_and, and_false, false_and, or_true, true_or, or_false, false_or, if_true, if_false, ne_eq, reduceIte]; done) | (exfalso; omega) | ((unfold fOn fD; (repeat' split)) <;> first | rfl | (exfalso; omega))) dX3_on_33
set_option maxHeartbeats 4000000 in
set_option maxRecDepth 100000 in
theorem cT_wrong {n0 : Int} (zn0 : In32 n0) (hs : Ok s) : ME l yX3_wrong cX3_wrong 2 (some .int) 6 138 D k [.ref (a 0), .int (iI n0)] (wT a k s (lB (wrF s)) y t tw ty kq (lB (wrF kq)) ky tp ta tk sa en nm bi si nu st ik) (fun x : (Int → Int) × Int64 × Int × Int × Int × Int => wT a k ((fWrong s st n0).2.1) (lB (wrF ((fWrong s st n0).2.1))) y x.1 x.2.1 x.2.2.1 kq (lB (wrF kq)) ky tp ta x.2.2.2.1 x.2.2.2.2.1 x.2.2.2.2.2 nm bi si nu ((fWrong s st n0).2.2) ik) (some (.int (iI ((fWrong s st n0).1)))) := by
  refine ME.mk RX3 rfl (by decide +kernel) (Nat.le_of_ble_eq_true rfl) (fun p e U m0 below meth cd ls C hP hD hS hl => ?_)
  have hl : lv_has ls 2 [(0, .ref (a 0)), (1, .int (iI n0))] := hl
  have zn01 := zn0.1
  have zn02 := zn0.2
  have h00 := hs.1 0 (by decide)
  have h06 := hs.2.2.1
  refine r_iload_n C dX3_wrong_0 rfl (lv_at hl 1 rfl) ?_
  refine r_iconst C dX3_wrong_1 ?_
  refine r_bipush C dX3_wrong_2 (by decide) ?_
  refine r_cSR3 C m_X3_44 (cT_outside (by exact ⟨by omega, by omega⟩) ⟨by decide, by decide⟩ ⟨by decide, by decide⟩) pn0 hl.1 dX3_wrong_4 ?_
  refine r_ifB_eq C (tgt := 17) dX3_wrong_7 (by decide) (fun h1 => ?_) (fun h1 => ?_)
  · have h1 := Classical.not_not.mp h1
    refine r_aload_n C dX3_wrong_17 rfl (lv_at hl 0 rfl) ?_
    refine g_X3_16 C hP 0 rfl rfl dX3_wrong_18 ?_
    refine r_aload_n C dX3_wrong_21 rfl (lv_at hl 0 rfl) ?_
    refine g_X3_10 C hP 0 rfl rfl dX3_wrong_22 ?_
    refine r_cVW1 C m_X3_150 (cW_become (b := (fun i => a (8 + i))) (d := (fun i => a (1 + i))) (s := t) (t := s) (wr := tw) (tw := lB (wrF s)) (y := ty) (ty := y)) hP hD hS [8, 9, 10, 11, 12, 13, 14, 1, 2, 3, 4, 5, 6, 7] (wT a k s (lB (wrF s)) y s (lB (wrF s)) y kq (lB (wrF kq)) ky tp ta tk sa en nm bi si nu st ik) rfl lc_T_t_s rfl lp_T_t_s (wT_ad.trans wT_ad.symm) rfl rfl hl.1 dX3_wrong_25 (fun H locs hP hD hS => ?_)
    refine r_aload_n C dX3_wrong_28 rfl (lv_at hl 0 rfl) ?_
    refine g_X3_16 C hP 0 rfl rfl dX3_wrong_29 ?_
    refine r_iload_n C dX3_wrong_32 rfl (lv_at hl 1 rfl) ?_
    refine r_iconst C dX3_wrong_33 ?_
    refine r_cVW2 C m_X3_143 (cW_passYears (b := (fun i => a (8 + i))) (s := s) (y := y) (by omega) (by omega) (by exact ⟨by omega, by omega⟩) hs) hP hD hS [8, 9, 10, 11, 12, 13, 14] (wT a k s (lB (wrF s)) y (ysN s (-1) n0.toNat) (lB (wrF (ysN s (-1) n0.toNat))) y kq (lB (wrF kq)) ky tp ta tk sa en nm bi si nu st ik) rfl lc_T_t rfl lp_T_t (wT_ad.trans wT_ad.symm) rfl rfl hl.1 dX3_wrong_34 (fun H locs hP hD hS => ?_)
    have ht1 : Ok (ysN s (-1) n0.toNat) := ok_ysN hs ((-1)) _
    exact r_iretE C hP hS (ysN s (-1) n0.toNat, lB (wrF (ysN s (-1) n0.toNat)), y, tk, sa, en) (by first | (simp only [fWrong, fD, fV, h1, not_true_eq_false, not_false_eq_true, and_true, true_and, and_false, false_and, or_true, true_or, or_false, false_or, if_true, if_false, ne_eq, reduceIte]; done) | (exfalso; omega) | ((unfold fWrong fD; (repeat' split)) <;> first | rfl | (exfalso; omega))) (by first | (simp only [fWrong, fD, fV, h1, not_true_eq_false, not_false_eq_true, and_true, true_and, and_false, false_and, or_true, true_or, or_false, false_or, if_true, if_false, ne_eq, reduceIte]; done) | (exfalso; omega) | ((unfold fWrong fD; (repeat' split)) <;> first | rfl | (exfalso; omega))) dX3_wrong_37
  · refine r_aload_n C dX3_wrong_10 rfl (lv_at hl 0 rfl) ?_
    refine r_ldc C (-1000000001) ki_X3_48 (by decide) dX3_wrong_11 ?_
    refine r_cVWA1 C m_X3_49 (cT_finding (by omega) (by omega)) hP hD hS (wT_ad.trans wT_ad.symm) rfl rfl hl.1 dX3_wrong_13 (fun H locs hP hD hS => ?_)
    exact r_iretE C hP hS (t, tw, ty, tk, sa, en) (by first | (simp only [fWrong, fD, fV, h1, not_true_eq_false, not_false_eq_true, and_true, true_and, and_false, false_and, or_true, true_or, or_false, false_or, if_true, if_false, ne_eq, reduceIte]; done) | (exfalso; omega) | ((unfold fWrong fD; (repeat' split)) <;> first | rfl | (exfalso; omega))) (by first | (simp only [fWrong, fD, fV, h1, not_true_eq_false, not_false_eq_true, and_true, true_and, and_false, false_and, or_true, true_or, or_false, false_or, if_true, if_false, ne_eq, reduceIte]; done) | (exfalso; omega) | ((unfold fWrong fD; (repeat' split)) <;> first | rfl | (exfalso; omega))) dX3_wrong_16
end CLASS
