section CLASS
variable {l : Launch} {D : va_G} {k : Nat → ClassId} {a c : Nat → Nat} {s t kq tp bi si st : Int → Int} {wr tw kw : Int64} {y ty ky ta tk sa en nm ik bt sz : Int} {nu nf : Int → Int64}
set_option maxHeartbeats 400000 in
set_option maxRecDepth 100000 in
theorem cT_bestPair {m : Int} (hm : 0 ≤ m) (hm1 : m < 6) (hs : Ok s) : ME l yX3_bestPair cX3_bestPair 7 (some .int) 3 85 D k [.ref (a 0), .int (iI m)] (wT a k s (lB (wrF s)) y t tw ty kq (lB (wrF kq)) ky tp ta tk sa en nm bi si nu st ik) (fun x : (Int → Int) × Int64 × Int => wT a k s (lB (wrF s)) y x.1 x.2.1 x.2.2 kq (lB (wrF kq)) ky tp ta tk sa en nm bi si nu st ik) (some (.int (iI ((ft1 s m 48).1)))) := by
  refine ME.mk RX3 rfl (by decide +kernel) (Nat.le_of_ble_eq_true rfl) (fun p e U m0 below meth cd ls C hP hD hS hl => ?_)
  have hl : lv_has ls 7 [(0, .ref (a 0)), (1, .int (iI m))] := hl
  have h00 := hs.1 0 (by decide)
  have h06 := hs.2.2.1
  refine r_iconst C dX3_bestPair_0 ?_
  refine r_istore_n C [(2, .int (iI (-1))), (0, .ref (a 0)), (1, .int (iI m))] dX3_bestPair_1 rfl hl (by decide) rfl (fun ls hl => ?_)
  refine r_bipush C dX3_bestPair_2 (by decide) ?_
  refine r_istore_n C [(3, .int (iI 49)), (2, .int (iI (-1))), (0, .ref (a 0)), (1, .int (iI m))] dX3_bestPair_4 rfl hl (by decide) rfl (fun ls hl => ?_)
  refine r_iconst C dX3_bestPair_5 ?_
  refine r_istore C [(4, .int (iI 0)), (3, .int (iI 49)), (2, .int (iI (-1))), (0, .ref (a 0)), (1, .int (iI m))] dX3_bestPair_6 hl (by decide) rfl (fun ls hl => ?_)
  refine r_loopWX (fun n : Nat => [(0, .ref (a 0)), (1, .int (iI m)), (2, .int (iI ((ft1 s m n).1))), (3, .int (iI ((ft1 s m n).2))), (4, .int (iI n))]) (fun (n : Nat) (xn : (Int → Int) × Int64 × Int) => wT a k s (lB (wrF s)) y xn.1 xn.2.1 xn.2.2 kq (lB (wrF kq)) ky tp ta tk sa en nm bi si nu st ik) (48) (fun n : Nat => True) trivial (t, tw, ty) (lv_eq (lv_sub hl [3, 4, 2, 1, 0] rfl) rfl) (va_eq hP rfl) (va_eqD hD rfl) hS (fun n hn ihn _ xn ls H locs hl hP hD hS => ?_) (fun _ xn ls H locs hl hP hD hS => ?_)
  · have hl : lv_has ls 7 [(0, .ref (a 0)), (1, .int (iI m)), (2, .int (iI ((ft1 s m n).1))), (3, .int (iI ((ft1 s m n).2))), (4, .int (iI n))] := hl
    have hP : va_P D vwCl (wT a k s (lB (wrF s)) y xn.1 xn.2.1 xn.2.2 kq (lB (wrF kq)) ky tp ta tk sa en nm bi si nu st ik) H := hP
    have hD : va_D _ (wT a k s (lB (wrF s)) y xn.1 xn.2.1 xn.2.2 kq (lB (wrF kq)) ky tp ta tk sa en nm bi si nu st ik) := hD
    have h9 := ft1_rg s m n (by omega)
    refine r_iload C dX3_bestPair_8 (lv_at hl 4 rfl) ?_
    refine r_bipush C dX3_bestPair_10 (by decide) ?_
    refine r_icmp_ge C (tgt := 102) dX3_bestPair_12 (by decide) (by exact ⟨by omega, by omega⟩) ⟨by decide, by decide⟩ (fun h1 => ?_) (fun h1 => ?_)
    · exfalso; omega
    · refine r_aload_n C dX3_bestPair_15 rfl (lv_at hl 0 rfl) ?_
      refine g_X3_10 C hP 0 rfl rfl dX3_bestPair_16 ?_
      refine r_iload C dX3_bestPair_19 (lv_at hl 4 rfl) ?_
      refine r_cVR1 C m_X3_63 (cW_isWrong (b := (fun i => a (1 + i))) (s := s) (y := y) (by omega) (by omega)) (hp_T_s hP) rfl rfl hl.1 dX3_bestPair_21 ?_
      refine r_ifB_eq C (tgt := 96) dX3_bestPair_24 (by decide) (fun h2 => ?_) (fun h2 => ?_)
      · refine r_iinc C 4 [(4, .int (iI (n + 1))), (0, .ref (a 0)), (1, .int (iI m)), (2, .int (iI ((ft1 s m n).1))), (3, .int (iI ((ft1 s m n).2)))] dX3_bestPair_96 hl rfl (by decide) rfl (fun ls hl => ?_)
        refine r_goto C (tgt := 8) dX3_bestPair_99 (by decide) ?_
        exact ihn trivial (xn.1, xn.2.1, xn.2.2) ls H locs (lv_eq (lv_sub hl [1, 2, 3, 4, 0] rfl) (by rw [← bp_no (m := m) h2]; rfl)) (va_eq hP rfl) (va_eqD hD rfl) hS
      · refine r_aload_n C dX3_bestPair_27 rfl (lv_at hl 0 rfl) ?_
        refine g_X3_16 C hP 0 rfl rfl dX3_bestPair_28 ?_
        refine r_aload_n C dX3_bestPair_31 rfl (lv_at hl 0 rfl) ?_
        refine g_X3_10 C hP 0 rfl rfl dX3_bestPair_32 ?_
        refine r_cVW1 C m_X3_150 (cW_become (b := (fun i => a (8 + i))) (d := (fun i => a (1 + i))) (s := xn.1) (t := s) (wr := xn.2.1) (tw := lB (wrF s)) (y := xn.2.2) (ty := y)) hP hD hS [8, 9, 10, 11, 12, 13, 14, 1, 2, 3, 4, 5, 6, 7] (wT a k s (lB (wrF s)) y s (lB (wrF s)) y kq (lB (wrF kq)) ky tp ta tk sa en nm bi si nu st ik) rfl lc_T_t_s rfl lp_T_t_s (wT_ad.trans wT_ad.symm) rfl rfl hl.1 dX3_bestPair_35 (fun H locs hP hD hS => ?_)
        refine r_aload_n C dX3_bestPair_38 rfl (lv_at hl 0 rfl) ?_
        refine g_X3_16 C hP 0 rfl rfl dX3_bestPair_39 ?_
        refine r_iload_n C dX3_bestPair_42 rfl (lv_at hl 1 rfl) ?_
        refine r_iload C dX3_bestPair_43 (lv_at hl 4 rfl) ?_
        refine r_cVW2 C m_X3_166 (cW_mendFree (b := (fun i => a (8 + i))) (s := s) (y := y) (by omega) (by omega) (by omega) (by omega) hs) hP hD hS [8, 9, 10, 11, 12, 13, 14] (wT a k s (lB (wrF s)) y (mends s m n) (lB (wrF (mends s m n))) y kq (lB (wrF kq)) ky tp ta tk sa en nm bi si nu st ik) rfl lc_T_t rfl lp_T_t (wT_ad.trans wT_ad.symm) rfl rfl hl.1 dX3_bestPair_45 (fun H locs hP hD hS => ?_)
        have ht1 : Ok (mends s m n) := ok_mends hs (by omega) (by omega) (by omega) (by omega)
        refine r_aload_n C dX3_bestPair_48 rfl (lv_at hl 0 rfl) ?_
        refine g_X3_16 C hP 0 rfl rfl dX3_bestPair_49 ?_
        refine r_iload_n C dX3_bestPair_52 rfl (lv_at hl 1 rfl) ?_
        refine r_cVR1 C m_X3_160 (cW_bestFor (b := (fun i => a (8 + i))) (s := mends s m n) (y := y) (by omega) (by omega) ht1) (hp_T_t hP) rfl rfl hl.1 dX3_bestPair_53 ?_
        refine r_istore C [(5, .int (iI ((bsN (mends s m n) m 48).1))), (0, .ref (a 0)), (1, .int (iI m)), (2, .int (iI ((ft1 s m n).1))), (3, .int (iI ((ft1 s m n).2))), (4, .int (iI n))] dX3_bestPair_56 hl (by decide) rfl (fun ls hl => ?_)
        refine r_iload C dX3_bestPair_58 (lv_at hl 0 rfl) ?_
        refine r_if_lt C (tgt := 96) dX3_bestPair_60 (by decide) (by have := (bsN_rg ((mends s m n)) m 48 (Nat.le_refl 48)).1; exact ⟨by omega, by omega⟩) (fun h3 => ?_) (fun h3 => ?_)
        · refine r_iinc C 5 [(4, .int (iI (n + 1))), (5, .int (iI ((bsN (mends s m n) m 48).1))), (0, .ref (a 0)), (1, .int (iI m)), (2, .int (iI ((ft1 s m n).1))), (3, .int (iI ((ft1 s m n).2)))] dX3_bestPair_96 hl rfl (by decide) rfl (fun ls hl => ?_)
          refine r_goto C (tgt := 8) dX3_bestPair_99 (by decide) ?_
          exact ihn trivial (mends s m n, lB (wrF (mends s m n)), y) ls H locs (lv_eq (lv_sub hl [2, 3, 4, 5, 0] rfl) (by rw [← bp_a hm h2 h3]; rfl)) (va_eq hP rfl) (va_eqD hD rfl) hS
        · refine r_aload_n C dX3_bestPair_63 rfl (lv_at hl 1 rfl) ?_
          refine g_X3_16 C hP 0 rfl rfl dX3_bestPair_64 ?_
          refine r_iload_n C dX3_bestPair_67 rfl (lv_at hl 2 rfl) ?_
          refine r_iload C dX3_bestPair_68 (lv_at hl 0 rfl) ?_
          refine r_cVR2 C m_X3_170 (cW_wrongOnceMended (b := (fun i => a (8 + i))) (s := mends s m n) (y := y) (by omega) (by omega) (by have := (bsN_rg ((mends s m n)) m 48 (Nat.le_refl 48)).1; omega) (by have := (bsN_rg ((mends s m n)) m 48 (Nat.le_refl 48)).1; omega) ht1) (hp_T_t hP) rfl rfl hl.1 dX3_bestPair_70 ?_
          refine r_cSR1 C m_X3_74 (cJ_bitCountW (mends (mends s m n) m ((bsN (mends s m n) m 48).1))) pn0 hl.1 dX3_bestPair_73 ?_
          refine r_istore C [(6, .int (iI (wrongMany (mends (mends s m n) m ((bsN (mends s m n) m 48).1))))), (5, .int (iI ((bsN (mends s m n) m 48).1))), (0, .ref (a 0)), (1, .int (iI m)), (2, .int (iI ((ft1 s m n).1))), (3, .int (iI ((ft1 s m n).2))), (4, .int (iI n))] dX3_bestPair_76 hl (by decide) rfl (fun ls hl => ?_)
          refine r_iload C dX3_bestPair_78 (lv_at hl 0 rfl) ?_
          refine r_iload_n C dX3_bestPair_80 rfl (lv_at hl 5 rfl) ?_
          refine r_icmp_ge C (tgt := 96) dX3_bestPair_81 (by decide) (by have := (bsN_rg ((mends s m n)) m 48 (Nat.le_refl 48)).1; have := wrongMany_rg (mends (mends s m n) m ((bsN (mends s m n) m 48).1)); exact ⟨by omega, by omega⟩) (by exact ⟨by omega, by omega⟩) (fun h4 => ?_) (fun h4 => ?_)
          · refine r_iinc C 6 [(4, .int (iI (n + 1))), (6, .int (iI (wrongMany (mends (mends s m n) m ((bsN (mends s m n) m 48).1))))), (5, .int (iI ((bsN (mends s m n) m 48).1))), (0, .ref (a 0)), (1, .int (iI m)), (2, .int (iI ((ft1 s m n).1))), (3, .int (iI ((ft1 s m n).2)))] dX3_bestPair_96 hl rfl (by decide) rfl (fun ls hl => ?_)
            refine r_goto C (tgt := 8) dX3_bestPair_99 (by decide) ?_
            exact ihn trivial (mends s m n, lB (wrF (mends s m n)), y) ls H locs (lv_eq (lv_sub hl [3, 4, 5, 6, 0] rfl) (by rw [← bp_b hm h2 h3 h4]; rfl)) (va_eq hP rfl) (va_eqD hD rfl) hS
          · refine r_iload C dX3_bestPair_84 (lv_at hl 0 rfl) ?_
            refine r_istore_n C [(3, .int (iI (wrongMany (mends (mends s m n) m ((bsN (mends s m n) m 48).1))))), (6, .int (iI (wrongMany (mends (mends s m n) m ((bsN (mends s m n) m 48).1))))), (5, .int (iI ((bsN (mends s m n) m 48).1))), (0, .ref (a 0)), (1, .int (iI m)), (2, .int (iI ((ft1 s m n).1))), (4, .int (iI n))] dX3_bestPair_86 rfl hl (by decide) rfl (fun ls hl => ?_)
            refine r_bipush C dX3_bestPair_87 (by decide) ?_
            refine r_iload C dX3_bestPair_89 (lv_at hl 6 rfl) ?_
            refine r_imul C dX3_bestPair_91 ?_
            refine r_iload C dX3_bestPair_92 (lv_at hl 2 rfl) ?_
            refine r_iadd C dX3_bestPair_94 ?_
            refine r_istore_n C [(2, .int (iI ((100 * n) + ((bsN (mends s m n) m 48).1)))), (3, .int (iI (wrongMany (mends (mends s m n) m ((bsN (mends s m n) m 48).1))))), (6, .int (iI (wrongMany (mends (mends s m n) m ((bsN (mends s m n) m 48).1))))), (5, .int (iI ((bsN (mends s m n) m 48).1))), (0, .ref (a 0)), (1, .int (iI m)), (4, .int (iI n))] dX3_bestPair_95 rfl hl (by decide) rfl (fun ls hl => ?_)
            refine r_iinc C 6 [(4, .int (iI (n + 1))), (2, .int (iI ((100 * n) + ((bsN (mends s m n) m 48).1)))), (3, .int (iI (wrongMany (mends (mends s m n) m ((bsN (mends s m n) m 48).1))))), (6, .int (iI (wrongMany (mends (mends s m n) m ((bsN (mends s m n) m 48).1))))), (5, .int (iI ((bsN (mends s m n) m 48).1))), (0, .ref (a 0)), (1, .int (iI m))] dX3_bestPair_96 hl rfl (by decide) rfl (fun ls hl => ?_)
            refine r_goto C (tgt := 8) dX3_bestPair_99 (by decide) ?_
            exact ihn trivial (mends s m n, lB (wrF (mends s m n)), y) ls H locs (lv_eq (lv_sub hl [5, 6, 1, 2, 0] rfl) (by rw [bp_c hm h2 h3 h4]; rfl)) (va_eq hP rfl) (va_eqD hD rfl) hS
  · have hl : lv_has ls 7 [(0, .ref (a 0)), (1, .int (iI m)), (2, .int (iI ((ft1 s m 48).1))), (3, .int (iI ((ft1 s m 48).2))), (4, .int (iI 48))] := hl
    have hP : va_P D vwCl (wT a k s (lB (wrF s)) y xn.1 xn.2.1 xn.2.2 kq (lB (wrF kq)) ky tp ta tk sa en nm bi si nu st ik) H := hP
    have hD : va_D _ (wT a k s (lB (wrF s)) y xn.1 xn.2.1 xn.2.2 kq (lB (wrF kq)) ky tp ta tk sa en nm bi si nu st ik) := hD
    have h9 := ft1_rg s m 48 (by omega)
    refine r_iload C dX3_bestPair_8 (lv_at hl 4 rfl) ?_
    refine r_bipush C dX3_bestPair_10 (by decide) ?_
    refine r_icmp_ge C (tgt := 102) dX3_bestPair_12 (by decide) ⟨by decide, by decide⟩ ⟨by decide, by decide⟩ (fun h5 => ?_) (fun h5 => ?_)
    · refine r_iload_n C dX3_bestPair_102 rfl (lv_at hl 2 rfl) ?_
      exact r_iretE C hP hS (xn.1, xn.2.1, xn.2.2) rfl rfl dX3_bestPair_103
    · exfalso; omega
set_option maxHeartbeats 400000 in
set_option maxRecDepth 100000 in
theorem cT_two {m : Int} (zm : In32 m) (hs : Ok s) : ME l yX3_two cX3_two 3 (some .int) 4 111 D k [.ref (a 0), .int (iI m)] (wT a k s (lB (wrF s)) y t tw ty kq (lB (wrF kq)) ky tp ta tk sa en nm bi si nu st ik) (fun x : (Int → Int) × Int64 × Int × Int × Int × Int => wT a k ((fTwo s st m).2.1) (lB (wrF ((fTwo s st m).2.1))) y x.1 x.2.1 x.2.2.1 kq (lB (wrF kq)) ky tp ta x.2.2.2.1 x.2.2.2.2.1 x.2.2.2.2.2 nm bi si nu ((fTwo s st m).2.2) ik) (some (.int (iI ((fTwo s st m).1)))) := by
  refine ME.mk RX3 rfl (by decide +kernel) (Nat.le_of_ble_eq_true rfl) (fun p e U m0 below meth cd ls C hP hD hS hl => ?_)
  have hl : lv_has ls 3 [(0, .ref (a 0)), (1, .int (iI m))] := hl
  have zm1 := zm.1
  have zm2 := zm.2
  have h00 := hs.1 0 (by decide)
  have h06 := hs.2.2.1
  refine r_aload_n C dX3_two_0 rfl (lv_at hl 0 rfl) ?_
  refine r_iload_n C dX3_two_1 rfl (lv_at hl 1 rfl) ?_
  refine r_cVR1 C m_X3_101 (cT_noMender (by exact ⟨by omega, by omega⟩) hs) hP rfl rfl hl.1 dX3_two_2 ?_
  refine r_ifB_eq C (tgt := 15) dX3_two_5 (by decide) (fun h1 => ?_) (fun h1 => ?_)
  · have h1 := Classical.not_not.mp h1
    refine r_aload_n C dX3_two_15 rfl (lv_at hl 0 rfl) ?_
    refine r_iload_n C dX3_two_16 rfl (lv_at hl 1 rfl) ?_
    refine r_cVEA1 C m_X3_163 (cT_bestPair (by omega) (by omega) hs) hP hD hS (fun _ => wT_ad.trans wT_ad.symm) rfl rfl hl.1 dX3_two_17 (fun xe1 H locs hP hD hS => ?_)
    have hP : va_P D vwCl (wT a k s (lB (wrF s)) y xe1.1 xe1.2.1 xe1.2.2 kq (lB (wrF kq)) ky tp ta tk sa en nm bi si nu st ik) H := hP
    have hD : va_D _ (wT a k s (lB (wrF s)) y xe1.1 xe1.2.1 xe1.2.2 kq (lB (wrF kq)) ky tp ta tk sa en nm bi si nu st ik) := hD
    refine r_istore_n C [(2, .int (iI ((ft1 s m 48).1))), (0, .ref (a 0)), (1, .int (iI m))] dX3_two_20 rfl hl (by decide) rfl (fun ls hl => ?_)
    refine r_iload_n C dX3_two_21 rfl (lv_at hl 0 rfl) ?_
    refine r_if_ge C (tgt := 34) dX3_two_22 (by decide) (by have := ft1_rg s m 48 (Nat.le_refl 48); exact ⟨by omega, by omega⟩) (fun h2 => ?_) (fun h2 => ?_)
    · refine r_iload_n C dX3_two_34 rfl (lv_at hl 0 rfl) ?_
      exact r_iretE C hP hS (xe1.1, xe1.2.1, xe1.2.2, tk, sa, en) (by first | (simp only [fTwo, fD, fV, h1, h2, not_true_eq_false, not_false_eq_true, and_true, true_and, and_false, false_and, or_true, true_or, or_false, false_or, if_true, if_false, ne_eq, reduceIte]; done) | (exfalso; omega) | ((unfold fTwo fD; (repeat' split)) <;> first | rfl | (exfalso; omega))) (by first | (simp only [fTwo, fD, fV, h1, h2, not_true_eq_false, not_false_eq_true, and_true, true_and, and_false, false_and, or_true, true_or, or_false, false_or, if_true, if_false, ne_eq, reduceIte]; done) | (exfalso; omega) | ((unfold fTwo fD; (repeat' split)) <;> first | rfl | (exfalso; omega))) dX3_two_35
    · refine r_aload_n C dX3_two_25 rfl (lv_at hl 1 rfl) ?_
      refine r_ldc C (-1000000004) ki_X3_159 (by decide) dX3_two_26 ?_
      refine r_cVWA1 C m_X3_49 (cT_finding (by omega) (by omega)) hP hD hS (wT_ad.trans wT_ad.symm) rfl rfl hl.1 dX3_two_28 (fun H locs hP hD hS => ?_)
      refine r_goto C (tgt := 35) dX3_two_31 (by decide) ?_
      exact r_iretE C hP hS (xe1.1, xe1.2.1, xe1.2.2, tk, sa, en) (by first | (simp only [fTwo, fD, fV, h1, h2, not_true_eq_false, not_false_eq_true, and_true, true_and, and_false, false_and, or_true, true_or, or_false, false_or, if_true, if_false, ne_eq, reduceIte]; done) | (exfalso; omega) | ((unfold fTwo fD; (repeat' split)) <;> first | rfl | (exfalso; omega))) (by first | (simp only [fTwo, fD, fV, h1, h2, not_true_eq_false, not_false_eq_true, and_true, true_and, and_false, false_and, or_true, true_or, or_false, false_or, if_true, if_false, ne_eq, reduceIte]; done) | (exfalso; omega) | ((unfold fTwo fD; (repeat' split)) <;> first | rfl | (exfalso; omega))) dX3_two_35
  · refine r_aload_n C dX3_two_8 rfl (lv_at hl 0 rfl) ?_
    refine r_ldc C (-1000000001) ki_X3_48 (by decide) dX3_two_9 ?_
    refine r_cVWA1 C m_X3_49 (cT_finding (by omega) (by omega)) hP hD hS (wT_ad.trans wT_ad.symm) rfl rfl hl.1 dX3_two_11 (fun H locs hP hD hS => ?_)
    exact r_iretE C hP hS (t, tw, ty, tk, sa, en) (by first | (simp only [fTwo, fD, fV, h1, not_true_eq_false, not_false_eq_true, and_true, true_and, and_false, false_and, or_true, true_or, or_false, false_or, if_true, if_false, ne_eq, reduceIte]; done) | (exfalso; omega) | ((unfold fTwo fD; (repeat' split)) <;> first | rfl | (exfalso; omega))) (by first | (simp only [fTwo, fD, fV, h1, not_true_eq_false, not_false_eq_true, and_true, true_and, and_false, false_and, or_true, true_or, or_false, false_or, if_true, if_false, ne_eq, reduceIte]; done) | (exfalso; omega) | ((unfold fTwo fD; (repeat' split)) <;> first | rfl | (exfalso; omega))) dX3_two_14
set_option maxHeartbeats 400000 in
set_option maxRecDepth 100000 in
theorem cT_left {m : Int} (zm : In32 m) (hs : Ok s) : ME l yX3_left cX3_left 3 (some .int) 4 111 D k [.ref (a 0), .int (iI m)] (wT a k s (lB (wrF s)) y t tw ty kq (lB (wrF kq)) ky tp ta tk sa en nm bi si nu st ik) (fun x : (Int → Int) × Int64 × Int × Int × Int × Int => wT a k ((fLeft s st m).2.1) (lB (wrF ((fLeft s st m).2.1))) y x.1 x.2.1 x.2.2.1 kq (lB (wrF kq)) ky tp ta x.2.2.2.1 x.2.2.2.2.1 x.2.2.2.2.2 nm bi si nu ((fLeft s st m).2.2) ik) (some (.int (iI ((fLeft s st m).1)))) := by
  refine ME.mk RX3 rfl (by decide +kernel) (Nat.le_of_ble_eq_true rfl) (fun p e U m0 below meth cd ls C hP hD hS hl => ?_)
  have hl : lv_has ls 3 [(0, .ref (a 0)), (1, .int (iI m))] := hl
  have zm1 := zm.1
  have zm2 := zm.2
  have h00 := hs.1 0 (by decide)
  have h06 := hs.2.2.1
  refine r_aload_n C dX3_left_0 rfl (lv_at hl 0 rfl) ?_
  refine r_iload_n C dX3_left_1 rfl (lv_at hl 1 rfl) ?_
  refine r_cVR1 C m_X3_101 (cT_noMender (by exact ⟨by omega, by omega⟩) hs) hP rfl rfl hl.1 dX3_left_2 ?_
  refine r_ifB_eq C (tgt := 15) dX3_left_5 (by decide) (fun h1 => ?_) (fun h1 => ?_)
  · have h1 := Classical.not_not.mp h1
    refine r_aload_n C dX3_left_15 rfl (lv_at hl 0 rfl) ?_
    refine r_iload_n C dX3_left_16 rfl (lv_at hl 1 rfl) ?_
    refine r_cVEA1 C m_X3_163 (cT_bestPair (by omega) (by omega) hs) hP hD hS (fun _ => wT_ad.trans wT_ad.symm) rfl rfl hl.1 dX3_left_17 (fun xe1 H locs hP hD hS => ?_)
    have hP : va_P D vwCl (wT a k s (lB (wrF s)) y xe1.1 xe1.2.1 xe1.2.2 kq (lB (wrF kq)) ky tp ta tk sa en nm bi si nu st ik) H := hP
    have hD : va_D _ (wT a k s (lB (wrF s)) y xe1.1 xe1.2.1 xe1.2.2 kq (lB (wrF kq)) ky tp ta tk sa en nm bi si nu st ik) := hD
    refine r_istore_n C [(2, .int (iI ((ft1 s m 48).1))), (0, .ref (a 0)), (1, .int (iI m))] dX3_left_20 rfl hl (by decide) rfl (fun ls hl => ?_)
    refine r_iload_n C dX3_left_21 rfl (lv_at hl 0 rfl) ?_
    refine r_if_ge C (tgt := 32) dX3_left_22 (by decide) (by have := ft1_rg s m 48 (Nat.le_refl 48); exact ⟨by omega, by omega⟩) (fun h2 => ?_) (fun h2 => ?_)
    · have h7 := (ft1_val (s := s) (m := m) (by omega) 48 (Nat.le_refl 48) (by omega)).2
      refine r_aload_n C dX3_left_32 rfl (lv_at hl 1 rfl) ?_
      refine g_X3_16 C hP 0 rfl rfl dX3_left_33 ?_
      refine r_aload_n C dX3_left_36 rfl (lv_at hl 1 rfl) ?_
      refine g_X3_10 C hP 0 rfl rfl dX3_left_37 ?_
      refine r_cVW1 C m_X3_150 (cW_become (b := (fun i => a (8 + i))) (d := (fun i => a (1 + i))) (s := xe1.1) (t := s) (wr := xe1.2.1) (tw := lB (wrF s)) (y := xe1.2.2) (ty := y)) hP hD hS [8, 9, 10, 11, 12, 13, 14, 1, 2, 3, 4, 5, 6, 7] (wT a k s (lB (wrF s)) y s (lB (wrF s)) y kq (lB (wrF kq)) ky tp ta tk sa en nm bi si nu st ik) rfl lc_T_t_s rfl lp_T_t_s (wT_ad.trans wT_ad.symm) rfl rfl hl.1 dX3_left_40 (fun H locs hP hD hS => ?_)
      refine r_aload_n C dX3_left_43 rfl (lv_at hl 1 rfl) ?_
      refine g_X3_16 C hP 0 rfl rfl dX3_left_44 ?_
      refine r_iload_n C dX3_left_47 rfl (lv_at hl 2 rfl) ?_
      refine r_iload_n C dX3_left_48 rfl (lv_at hl 0 rfl) ?_
      refine r_bipush C dX3_left_49 (by decide) ?_
      refine r_idiv C dX3_left_51 (by have := ft1_rg s m 48 (Nat.le_refl 48); omega) (by have := ft1_rg s m 48 (Nat.le_refl 48); omega) (by omega) (by omega) ?_
      refine r_cVW2 C m_X3_166 (cW_mendFree (b := (fun i => a (8 + i))) (s := s) (y := y) (by omega) (by omega) (by have := ft1_rg s m 48 (Nat.le_refl 48); omega) (by have := ft1_rg s m 48 (Nat.le_refl 48); omega) hs) hP hD hS [8, 9, 10, 11, 12, 13, 14] (wT a k s (lB (wrF s)) y (mends s m (((ft1 s m 48).1) / 100)) (lB (wrF (mends s m (((ft1 s m 48).1) / 100)))) y kq (lB (wrF kq)) ky tp ta tk sa en nm bi si nu st ik) rfl lc_T_t rfl lp_T_t (wT_ad.trans wT_ad.symm) rfl rfl hl.1 dX3_left_52 (fun H locs hP hD hS => ?_)
      have ht2 : Ok (mends s m (((ft1 s m 48).1) / 100)) := ok_mends hs (by have := ft1_rg s m 48 (Nat.le_refl 48); omega) (by have := ft1_rg s m 48 (Nat.le_refl 48); omega) (by omega) (by omega)
      refine r_aload_n C dX3_left_55 rfl (lv_at hl 1 rfl) ?_
      refine g_X3_16 C hP 0 rfl rfl dX3_left_56 ?_
      refine r_iload_n C dX3_left_59 rfl (lv_at hl 2 rfl) ?_
      refine r_iload_n C dX3_left_60 rfl (lv_at hl 0 rfl) ?_
      refine r_bipush C dX3_left_61 (by decide) ?_
      refine r_irem C dX3_left_63 (by have := ft1_rg s m 48 (Nat.le_refl 48); omega) (by have := ft1_rg s m 48 (Nat.le_refl 48); omega) (by omega) (by omega) ?_
      refine r_cVR2 C m_X3_170 (cW_wrongOnceMended (b := (fun i => a (8 + i))) (s := mends s m (((ft1 s m 48).1) / 100)) (y := y) (by omega) (by omega) (by have := ft1_rg s m 48 (Nat.le_refl 48); omega) (by have := ft1_rg s m 48 (Nat.le_refl 48); omega) ht2) (hp_T_t hP) rfl rfl hl.1 dX3_left_64 ?_
      refine r_cSR1 C m_X3_74 (cJ_bitCountW (mends (mends s m (((ft1 s m 48).1) / 100)) m (((ft1 s m 48).1) % 100))) pn0 hl.1 dX3_left_67 ?_
      exact r_iretE C hP hS (mends s m (((ft1 s m 48).1) / 100), lB (wrF (mends s m (((ft1 s m 48).1) / 100))), y, tk, sa, en) (by first | (simp only [fLeft, fD, fV, h1, h2, not_true_eq_false, not_false_eq_true, and_true, true_and, and_false, false_and, or_true, true_or, or_false, false_or, if_true, if_false, ne_eq, reduceIte]; done) | (exfalso; omega) | ((unfold fLeft fD; (repeat' split)) <;> first | rfl | (exfalso; omega))) (by rw [← (ft1_val (s := s) (m := m) (by omega) 48 (Nat.le_refl 48) (by omega)).1]; simp only [fLeft, fV, h1, h2, not_true_eq_false, not_false_eq_true, and_true, true_and, and_false, false_and, or_true, true_or, or_false, false_or, if_true, if_false, ne_eq, reduceIte]) dX3_left_70
    · refine r_aload_n C dX3_left_25 rfl (lv_at hl 1 rfl) ?_
      refine r_ldc C (-1000000004) ki_X3_159 (by decide) dX3_left_26 ?_
      refine r_cVWA1 C m_X3_49 (cT_finding (by omega) (by omega)) hP hD hS (wT_ad.trans wT_ad.symm) rfl rfl hl.1 dX3_left_28 (fun H locs hP hD hS => ?_)
      exact r_iretE C hP hS (xe1.1, xe1.2.1, xe1.2.2, tk, sa, en) (by first | (simp only [fLeft, fD, fV, h1, h2, not_true_eq_false, not_false_eq_true, and_true, true_and, and_false, false_and, or_true, true_or, or_false, false_or, if_true, if_false, ne_eq, reduceIte]; done) | (exfalso; omega) | ((unfold fLeft fD; (repeat' split)) <;> first | rfl | (exfalso; omega))) (by first | (simp only [fLeft, fD, fV, h1, h2, not_true_eq_false, not_false_eq_true, and_true, true_and, and_false, false_and, or_true, true_or, or_false, false_or, if_true, if_false, ne_eq, reduceIte]; done) | (exfalso; omega) | ((unfold fLeft fD; (repeat' split)) <;> first | rfl | (exfalso; omega))) dX3_left_31
  · refine r_aload_n C dX3_left_8 rfl (lv_at hl 0 rfl) ?_
    refine r_ldc C (-1000000001) ki_X3_48 (by decide) dX3_left_9 ?_
    refine r_cVWA1 C m_X3_49 (cT_finding (by omega) (by omega)) hP hD hS (wT_ad.trans wT_ad.symm) rfl rfl hl.1 dX3_left_11 (fun H locs hP hD hS => ?_)
    exact r_iretE C hP hS (t, tw, ty, tk, sa, en) (by first | (simp only [fLeft, fD, fV, h1, not_true_eq_false, not_false_eq_true, and_true, true_and, and_false, false_and, or_true, true_or, or_false, false_or, if_true, if_false, ne_eq, reduceIte]; done) | (exfalso; omega) | ((unfold fLeft fD; (repeat' split)) <;> first | rfl | (exfalso; omega))) (by first | (simp only [fLeft, fD, fV, h1, not_true_eq_false, not_false_eq_true, and_true, true_and, and_false, false_and, or_true, true_or, or_false, false_or, if_true, if_false, ne_eq, reduceIte]; done) | (exfalso; omega) | ((unfold fLeft fD; (repeat' split)) <;> first | rfl | (exfalso; omega))) dX3_left_14
end CLASS
