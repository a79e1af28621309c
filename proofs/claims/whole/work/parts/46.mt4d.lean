section CLASS
variable {l : Launch} {D : va_G} {k : Nat → ClassId} {a c : Nat → Nat} {s t kq tp bi si st : Int → Int} {wr tw kw : Int64} {y ty ky ta tk sa en nm ik bt sz : Int} {nu nf : Int → Int64}
set_option maxHeartbeats 400000 in
set_option maxRecDepth 100000 in
theorem cT_kind {m : Int} {n0 : Int} (zm : In32 m) (zn0 : In32 n0) (hs : Ok s) : ME l yX3_kind cX3_kind 7 (some .int) 6 138 D k [.ref (a 0), .int (iI m), .int (iI n0)] (wT a k s (lB (wrF s)) y t tw ty kq (lB (wrF kq)) ky tp ta tk sa en nm bi si nu st ik) (fun x : (Int → Int) × Int64 × Int × Int × Int × Int => wT a k ((fKind s st m n0).2.1) (lB (wrF ((fKind s st m n0).2.1))) y x.1 x.2.1 x.2.2.1 kq (lB (wrF kq)) ky tp ta x.2.2.2.1 x.2.2.2.2.1 x.2.2.2.2.2 nm bi si nu ((fKind s st m n0).2.2) ik) (some (.int (iI ((fKind s st m n0).1)))) := by
  refine ME.mk RX3 rfl (by decide +kernel) (Nat.le_of_ble_eq_true rfl) (fun p e U m0 below meth cd ls C hP hD hS hl => ?_)
  have hl : lv_has ls 7 [(0, .ref (a 0)), (1, .int (iI m)), (2, .int (iI n0))] := hl
  have zm1 := zm.1
  have zm2 := zm.2
  have zn01 := zn0.1
  have zn02 := zn0.2
  have h00 := hs.1 0 (by decide)
  have h06 := hs.2.2.1
  refine r_aload_n C dX3_kind_0 rfl (lv_at hl 0 rfl) ?_
  refine r_iload_n C dX3_kind_1 rfl (lv_at hl 1 rfl) ?_
  refine r_cVR1 C m_X3_101 (cT_noMender (by exact ⟨by omega, by omega⟩) hs) hP rfl rfl hl.1 dX3_kind_2 ?_
  refine r_ifB_ne C (tgt := 18) dX3_kind_5 (by decide) (fun h1 => ?_) (fun h1 => ?_)
  · refine r_aload_n C dX3_kind_18 rfl (lv_at hl 0 rfl) ?_
    refine r_ldc C (-1000000001) ki_X3_48 (by decide) dX3_kind_19 ?_
    refine r_cVWA1 C m_X3_49 (cT_finding (by omega) (by omega)) hP hD hS (wT_ad.trans wT_ad.symm) rfl rfl hl.1 dX3_kind_21 (fun H locs hP hD hS => ?_)
    exact r_iretE C hP hS (t, tw, ty, tk, sa, en) (by first | (simp only [fKind, fD, fV, h1, not_true_eq_false, not_false_eq_true, and_true, true_and, and_false, false_and, or_true, true_or, or_false, false_or, if_true, if_false, ne_eq, reduceIte]; done) | (exfalso; omega) | ((unfold fKind fD; (repeat' split)) <;> first | rfl | (exfalso; omega))) (by first | (simp only [fKind, fD, fV, h1, not_true_eq_false, not_false_eq_true, and_true, true_and, and_false, false_and, or_true, true_or, or_false, false_or, if_true, if_false, ne_eq, reduceIte]; done) | (exfalso; omega) | ((unfold fKind fD; (repeat' split)) <;> first | rfl | (exfalso; omega))) dX3_kind_24
  · have h1 := Classical.not_not.mp h1
    refine r_iload_n C dX3_kind_8 rfl (lv_at hl 2 rfl) ?_
    refine r_iconst C dX3_kind_9 ?_
    refine r_bipush C dX3_kind_10 (by decide) ?_
    refine r_cSR3 C m_X3_44 (cT_outside (by exact ⟨by omega, by omega⟩) ⟨by decide, by decide⟩ ⟨by decide, by decide⟩) pn0 hl.1 dX3_kind_12 ?_
    refine r_ifB_eq C (tgt := 25) dX3_kind_15 (by decide) (fun h2 => ?_) (fun h2 => ?_)
    · have h2 := Classical.not_not.mp h2
      refine r_iconst C dX3_kind_25 ?_
      refine r_istore_n C [(3, .int (iI 0)), (0, .ref (a 0)), (1, .int (iI m)), (2, .int (iI n0))] dX3_kind_26 rfl hl (by decide) rfl (fun ls hl => ?_)
      refine r_bipush C dX3_kind_27 (by decide) ?_
      refine r_istore C [(4, .int (iI 49)), (3, .int (iI 0)), (0, .ref (a 0)), (1, .int (iI m)), (2, .int (iI n0))] dX3_kind_29 hl (by decide) rfl (fun ls hl => ?_)
      refine r_iconst C dX3_kind_31 ?_
      refine r_istore C [(5, .int (iI 0)), (4, .int (iI 49)), (3, .int (iI 0)), (0, .ref (a 0)), (1, .int (iI m)), (2, .int (iI n0))] dX3_kind_32 hl (by decide) rfl (fun ls hl => ?_)
      refine r_loopWX (fun n : Nat => [(0, .ref (a 0)), (1, .int (iI m)), (2, .int (iI n0)), (3, .int (iI ((kdN s m n0 n).1))), (4, .int (iI ((kdN s m n0 n).2))), (5, .int (iI n))]) (fun (n : Nat) (xn : (Int → Int) × Int64 × Int) => wT a k s (lB (wrF s)) y xn.1 xn.2.1 xn.2.2 kq (lB (wrF kq)) ky tp ta tk sa en nm bi si nu st ik) (6) (fun n : Nat => True) trivial (t, tw, ty) (lv_eq (lv_sub hl [3, 4, 5, 2, 1, 0] rfl) rfl) (va_eq hP rfl) (va_eqD hD rfl) hS (fun n hn ihn _ xn ls H locs hl hP hD hS => ?_) (fun _ xn ls H locs hl hP hD hS => ?_)
      · have hl : lv_has ls 7 [(0, .ref (a 0)), (1, .int (iI m)), (2, .int (iI n0)), (3, .int (iI ((kdN s m n0 n).1))), (4, .int (iI ((kdN s m n0 n).2))), (5, .int (iI n))] := hl
        have hP : va_P D vwCl (wT a k s (lB (wrF s)) y xn.1 xn.2.1 xn.2.2 kq (lB (wrF kq)) ky tp ta tk sa en nm bi si nu st ik) H := hP
        have hD : va_D _ (wT a k s (lB (wrF s)) y xn.1 xn.2.1 xn.2.2 kq (lB (wrF kq)) ky tp ta tk sa en nm bi si nu st ik) := hD
        have h9 := kdN_rg s m n0 n (by omega)
        refine r_iload C dX3_kind_34 (lv_at hl 5 rfl) ?_
        refine r_bipush C dX3_kind_36 (by decide) ?_
        refine r_icmp_ge C (tgt := 94) dX3_kind_38 (by decide) (by exact ⟨by omega, by omega⟩) ⟨by decide, by decide⟩ (fun h3 => ?_) (fun h3 => ?_)
        · exfalso; omega
        · refine r_aload_n C dX3_kind_41 rfl (lv_at hl 0 rfl) ?_
          refine g_X3_16 C hP 0 rfl rfl dX3_kind_42 ?_
          refine r_aload_n C dX3_kind_45 rfl (lv_at hl 0 rfl) ?_
          refine g_X3_10 C hP 0 rfl rfl dX3_kind_46 ?_
          refine r_cVW1 C m_X3_150 (cW_become (b := (fun i => a (8 + i))) (d := (fun i => a (1 + i))) (s := xn.1) (t := s) (wr := xn.2.1) (tw := lB (wrF s)) (y := xn.2.2) (ty := y)) hP hD hS [8, 9, 10, 11, 12, 13, 14, 1, 2, 3, 4, 5, 6, 7] (wT a k s (lB (wrF s)) y s (lB (wrF s)) y kq (lB (wrF kq)) ky tp ta tk sa en nm bi si nu st ik) rfl lc_T_t_s rfl lp_T_t_s (wT_ad.trans wT_ad.symm) rfl rfl hl.1 dX3_kind_49 (fun H locs hP hD hS => ?_)
          refine r_aload_n C dX3_kind_52 rfl (lv_at hl 0 rfl) ?_
          refine g_X3_16 C hP 0 rfl rfl dX3_kind_53 ?_
          refine g_X3_104 C hP 8 rfl rfl dX3_kind_56 ?_
          refine r_iload_n C dX3_kind_59 rfl (lv_at hl 1 rfl) ?_
          refine r_iload C dX3_kind_60 (lv_at hl 5 rfl) ?_
          refine r_iast C hP hD hS 11 (wT a k s (lB (wrF s)) y (up s (99 + 4 * m + 0) n) (lB (wrF s)) y kq (lB (wrF kq)) ky tp ta tk sa en nm bi si nu st ik) rfl dX3_kind_62 (by omega) (by omega) (by decide) (lf_T_t (wW_ki (by omega) (by omega))) (fun H locs hP hD hS => ?_)
          have ht1 : Ok (up s (99 + 4 * m + 0) n) := ok_up hs ⟨by omega, by omega⟩ ⟨by omega, by omega⟩ (fun _ => by omega) (fun _ _ _ _ => by omega)
          have er2 : wT a k s (lB (wrF s)) y (up s (99 + 4 * m + 0) n) (lB (wrF s)) y kq (lB (wrF kq)) ky tp ta tk sa en nm bi si nu st ik = wT a k s (lB (wrF s)) y (up s (99 + 4 * m + 0) n) (lB (wrF (up s (99 + 4 * m + 0) n))) y kq (lB (wrF kq)) ky tp ta tk sa en nm bi si nu st ik := by rw [show wrF s = wrF (up s (99 + 4 * m + 0) n) from (wrF_o (by omega)).symm]
          have hP := va_eq hP er2
          have hD := va_eqD hD er2
          refine r_aload_n C dX3_kind_63 rfl (lv_at hl 0 rfl) ?_
          refine g_X3_16 C hP 0 rfl rfl dX3_kind_64 ?_
          refine r_iload_n C dX3_kind_67 rfl (lv_at hl 2 rfl) ?_
          refine r_iconst C dX3_kind_68 ?_
          refine r_cVW2 C m_X3_143 (cW_passYears (b := (fun i => a (8 + i))) (s := up s (99 + 4 * m + 0) n) (y := y) (by omega) (by omega) (by exact ⟨by omega, by omega⟩) ht1) hP hD hS [8, 9, 10, 11, 12, 13, 14] (wT a k s (lB (wrF s)) y (ysN (up s (99 + 4 * m + 0) n) (-1) n0.toNat) (lB (wrF (ysN (up s (99 + 4 * m + 0) n) (-1) n0.toNat))) y kq (lB (wrF kq)) ky tp ta tk sa en nm bi si nu st ik) rfl lc_T_t rfl lp_T_t (wT_ad.trans wT_ad.symm) rfl rfl hl.1 dX3_kind_69 (fun H locs hP hD hS => ?_)
          have ht3 : Ok (ysN (up s (99 + 4 * m + 0) n) (-1) n0.toNat) := ok_ysN ht1 ((-1)) _
          refine r_istore C [(6, .int (iI (wrongMany (ysN (up s (99 + 4 * m + 0) n) (-1) n0.toNat)))), (0, .ref (a 0)), (1, .int (iI m)), (2, .int (iI n0)), (3, .int (iI ((kdN s m n0 n).1))), (4, .int (iI ((kdN s m n0 n).2))), (5, .int (iI n))] dX3_kind_72 hl (by decide) rfl (fun ls hl => ?_)
          refine r_iload C dX3_kind_74 (lv_at hl 0 rfl) ?_
          refine r_iload C dX3_kind_76 (lv_at hl 5 rfl) ?_
          refine r_icmp_ge C (tgt := 88) dX3_kind_78 (by decide) (by have := wrongMany_rg (ysN (up s (99 + 4 * m + 0) n) (-1) n0.toNat); exact ⟨by omega, by omega⟩) (by exact ⟨by omega, by omega⟩) (fun h4 => ?_) (fun h4 => ?_)
          · refine r_iinc C 6 [(5, .int (iI (n + 1))), (6, .int (iI (wrongMany (ysN (up s (99 + 4 * m + 0) n) (-1) n0.toNat)))), (0, .ref (a 0)), (1, .int (iI m)), (2, .int (iI n0)), (3, .int (iI ((kdN s m n0 n).1))), (4, .int (iI ((kdN s m n0 n).2)))] dX3_kind_88 hl rfl (by decide) rfl (fun ls hl => ?_)
            refine r_goto C (tgt := 34) dX3_kind_91 (by decide) ?_
            exact ihn trivial (ysN (up s (99 + 4 * m + 0) n) (-1) n0.toNat, lB (wrF (ysN (up s (99 + 4 * m + 0) n) (-1) n0.toNat)), y) ls H locs (lv_eq (lv_sub hl [2, 3, 4, 5, 6, 0] rfl) (by first | (simp only [kdN, h1, h2, h3, h4, not_true_eq_false, not_false_eq_true, and_true, true_and, and_false, false_and, or_true, true_or, or_false, false_or, if_true, if_false, ne_eq, reduceIte]; done) | (simp only [kdN, h1, h2, h3, h4, not_true_eq_false, not_false_eq_true, and_true, true_and, and_false, false_and, or_true, true_or, or_false, false_or, if_true, if_false, ne_eq, reduceIte]; rfl) | (exfalso; omega))) (va_eq hP rfl) (va_eqD hD rfl) hS
          · refine r_iload C dX3_kind_81 (lv_at hl 0 rfl) ?_
            refine r_istore C [(4, .int (iI (wrongMany (ysN (up s (99 + 4 * m + 0) n) (-1) n0.toNat)))), (6, .int (iI (wrongMany (ysN (up s (99 + 4 * m + 0) n) (-1) n0.toNat)))), (0, .ref (a 0)), (1, .int (iI m)), (2, .int (iI n0)), (3, .int (iI ((kdN s m n0 n).1))), (5, .int (iI n))] dX3_kind_83 hl (by decide) rfl (fun ls hl => ?_)
            refine r_iload C dX3_kind_85 (lv_at hl 6 rfl) ?_
            refine r_istore_n C [(3, .int (iI n)), (4, .int (iI (wrongMany (ysN (up s (99 + 4 * m + 0) n) (-1) n0.toNat)))), (6, .int (iI (wrongMany (ysN (up s (99 + 4 * m + 0) n) (-1) n0.toNat)))), (0, .ref (a 0)), (1, .int (iI m)), (2, .int (iI n0)), (5, .int (iI n))] dX3_kind_87 rfl hl (by decide) rfl (fun ls hl => ?_)
            refine r_iinc C 6 [(5, .int (iI (n + 1))), (3, .int (iI n)), (4, .int (iI (wrongMany (ysN (up s (99 + 4 * m + 0) n) (-1) n0.toNat)))), (6, .int (iI (wrongMany (ysN (up s (99 + 4 * m + 0) n) (-1) n0.toNat)))), (0, .ref (a 0)), (1, .int (iI m)), (2, .int (iI n0))] dX3_kind_88 hl rfl (by decide) rfl (fun ls hl => ?_)
            refine r_goto C (tgt := 34) dX3_kind_91 (by decide) ?_
            exact ihn trivial (ysN (up s (99 + 4 * m + 0) n) (-1) n0.toNat, lB (wrF (ysN (up s (99 + 4 * m + 0) n) (-1) n0.toNat)), y) ls H locs (lv_eq (lv_sub hl [4, 5, 6, 1, 2, 0] rfl) (by first | (simp only [kdN, h1, h2, h3, h4, not_true_eq_false, not_false_eq_true, and_true, true_and, and_false, false_and, or_true, true_or, or_false, false_or, if_true, if_false, ne_eq, reduceIte]; done) | (simp only [kdN, h1, h2, h3, h4, not_true_eq_false, not_false_eq_true, and_true, true_and, and_false, false_and, or_true, true_or, or_false, false_or, if_true, if_false, ne_eq, reduceIte]; rfl) | (exfalso; omega))) (va_eq hP rfl) (va_eqD hD rfl) hS
      · have hl : lv_has ls 7 [(0, .ref (a 0)), (1, .int (iI m)), (2, .int (iI n0)), (3, .int (iI ((kdN s m n0 6).1))), (4, .int (iI ((kdN s m n0 6).2))), (5, .int (iI 6))] := hl
        have hP : va_P D vwCl (wT a k s (lB (wrF s)) y xn.1 xn.2.1 xn.2.2 kq (lB (wrF kq)) ky tp ta tk sa en nm bi si nu st ik) H := hP
        have hD : va_D _ (wT a k s (lB (wrF s)) y xn.1 xn.2.1 xn.2.2 kq (lB (wrF kq)) ky tp ta tk sa en nm bi si nu st ik) := hD
        have h9 := kdN_rg s m n0 6 (by omega)
        refine r_iload C dX3_kind_34 (lv_at hl 5 rfl) ?_
        refine r_bipush C dX3_kind_36 (by decide) ?_
        refine r_icmp_ge C (tgt := 94) dX3_kind_38 (by decide) ⟨by decide, by decide⟩ ⟨by decide, by decide⟩ (fun h5 => ?_) (fun h5 => ?_)
        · refine r_iload_n C dX3_kind_94 rfl (lv_at hl 3 rfl) ?_
          exact r_iretE C hP hS (xn.1, xn.2.1, xn.2.2, tk, sa, en) (by first | (simp only [fKind, fD, fV, h1, h2, h5, not_true_eq_false, not_false_eq_true, and_true, true_and, and_false, false_and, or_true, true_or, or_false, false_or, if_true, if_false, ne_eq, reduceIte]; done) | (exfalso; omega) | ((unfold fKind fD; (repeat' split)) <;> first | rfl | (exfalso; omega))) (by first | (simp only [fKind, fD, fV, h1, h2, h5, not_true_eq_false, not_false_eq_true, and_true, true_and, and_false, false_and, or_true, true_or, or_false, false_or, if_true, if_false, ne_eq, reduceIte]; done) | (exfalso; omega) | ((unfold fKind fD; (repeat' split)) <;> first | rfl | (exfalso; omega))) dX3_kind_95
        · exfalso; omega
    · refine r_aload_n C dX3_kind_18 rfl (lv_at hl 0 rfl) ?_
      refine r_ldc C (-1000000001) ki_X3_48 (by decide) dX3_kind_19 ?_
      refine r_cVWA1 C m_X3_49 (cT_finding (by omega) (by omega)) hP hD hS (wT_ad.trans wT_ad.symm) rfl rfl hl.1 dX3_kind_21 (fun H locs hP hD hS => ?_)
      exact r_iretE C hP hS (t, tw, ty, tk, sa, en) (by first | (simp only [fKind, fD, fV, h1, h2, not_true_eq_false, not_false_eq_true, and_true, true_and, and_false, false_and, or_true, true_or, or_false, false_or, if_true, if_false, ne_eq, reduceIte]; done) | (exfalso; omega) | ((unfold fKind fD; (repeat' split)) <;> first | rfl | (exfalso; omega))) (by first | (simp only [fKind, fD, fV, h1, h2, not_true_eq_false, not_false_eq_true, and_true, true_and, and_false, false_and, or_true, true_or, or_false, false_or, if_true, if_false, ne_eq, reduceIte]; done) | (exfalso; omega) | ((unfold fKind fD; (repeat' split)) <;> first | rfl | (exfalso; omega))) dX3_kind_24
set_option maxHeartbeats 400000 in
set_option maxRecDepth 100000 in
theorem cT_tryPurse {m : Int} {pu : Int} (hm : 0 ≤ m) (hm1 : m < 6) (hp : 0 ≤ pu) (hp1 : pu < 10000) (hs : Ok s) : MW l yX3_tryPurse cX3_tryPurse 3 none 2 85 D k [.ref (a 0), .int (iI m), .int (iI pu)] (wT a k s (lB (wrF s)) y t tw ty kq (lB (wrF kq)) ky tp ta tk sa en nm bi si nu st ik) (wT a k s (lB (wrF s)) y (up s (99 + 4 * m + 2) pu) (lB (wrF (up s (99 + 4 * m + 2) pu))) y kq (lB (wrF kq)) ky tp ta tk sa en nm bi si nu st ik) none := by
  refine MW.mk RX3 rfl (by decide +kernel) (Nat.le_of_ble_eq_true rfl) (fun p e U m0 below meth cd ls C hP hD hS hl => ?_)
  have hl : lv_has ls 3 [(0, .ref (a 0)), (1, .int (iI m)), (2, .int (iI pu))] := hl
  refine r_aload_n C dX3_tryPurse_0 rfl (lv_at hl 0 rfl) ?_
  refine g_X3_16 C hP 0 rfl rfl dX3_tryPurse_1 ?_
  refine r_aload_n C dX3_tryPurse_4 rfl (lv_at hl 0 rfl) ?_
  refine g_X3_10 C hP 0 rfl rfl dX3_tryPurse_5 ?_
  refine r_cVW1 C m_X3_150 (cW_become (b := (fun i => a (8 + i))) (d := (fun i => a (1 + i))) (s := t) (t := s) (wr := tw) (tw := lB (wrF s)) (y := ty) (ty := y)) hP hD hS [8, 9, 10, 11, 12, 13, 14, 1, 2, 3, 4, 5, 6, 7] (wT a k s (lB (wrF s)) y s (lB (wrF s)) y kq (lB (wrF kq)) ky tp ta tk sa en nm bi si nu st ik) rfl lc_T_t_s rfl lp_T_t_s (wT_ad.trans wT_ad.symm) rfl rfl hl.1 dX3_tryPurse_8 (fun H locs hP hD hS => ?_)
  refine r_aload_n C dX3_tryPurse_11 rfl (lv_at hl 0 rfl) ?_
  refine g_X3_16 C hP 0 rfl rfl dX3_tryPurse_12 ?_
  refine g_X3_110 C hP 8 rfl rfl dX3_tryPurse_15 ?_
  refine r_iload_n C dX3_tryPurse_18 rfl (lv_at hl 1 rfl) ?_
  refine r_iload_n C dX3_tryPurse_19 rfl (lv_at hl 2 rfl) ?_
  refine r_iast C hP hD hS 13 (wT a k s (lB (wrF s)) y (up s (99 + 4 * m + 2) pu) (lB (wrF s)) y kq (lB (wrF kq)) ky tp ta tk sa en nm bi si nu st ik) rfl dX3_tryPurse_20 (by omega) (by omega) (by decide) (lf_T_t (wW_pu (by omega) (by omega))) (fun H locs hP hD hS => ?_)
  have ht1 : Ok (up s (99 + 4 * m + 2) pu) := ok_up hs ⟨by omega, by omega⟩ ⟨by omega, by omega⟩ (fun _ => by omega) (fun _ _ _ _ => by omega)
  have er2 : wT a k s (lB (wrF s)) y (up s (99 + 4 * m + 2) pu) (lB (wrF s)) y kq (lB (wrF kq)) ky tp ta tk sa en nm bi si nu st ik = wT a k s (lB (wrF s)) y (up s (99 + 4 * m + 2) pu) (lB (wrF (up s (99 + 4 * m + 2) pu))) y kq (lB (wrF kq)) ky tp ta tk sa en nm bi si nu st ik := by rw [show wrF s = wrF (up s (99 + 4 * m + 2) pu) from (wrF_o (by omega)).symm]
  have hP := va_eq hP er2
  have hD := va_eqD hD er2
  exact r_vretW C hP hS rfl dX3_tryPurse_21
set_option maxHeartbeats 400000 in
set_option maxRecDepth 100000 in
theorem cT_purse {m : Int} {n0 : Int} (zm : In32 m) (zn0 : In32 n0) (hs : Ok s) : ME l yX3_purse cX3_purse 5 (some .int) 6 138 D k [.ref (a 0), .int (iI m), .int (iI n0)] (wT a k s (lB (wrF s)) y t tw ty kq (lB (wrF kq)) ky tp ta tk sa en nm bi si nu st ik) (fun x : (Int → Int) × Int64 × Int × Int × Int × Int => wT a k ((fPurse s st m n0).2.1) (lB (wrF ((fPurse s st m n0).2.1))) y x.1 x.2.1 x.2.2.1 kq (lB (wrF kq)) ky tp ta x.2.2.2.1 x.2.2.2.2.1 x.2.2.2.2.2 nm bi si nu ((fPurse s st m n0).2.2) ik) (some (.int (iI ((fPurse s st m n0).1)))) := by
  refine ME.mk RX3 rfl (by decide +kernel) (Nat.le_of_ble_eq_true rfl) (fun p e U m0 below meth cd ls C hP hD hS hl => ?_)
  have hl : lv_has ls 5 [(0, .ref (a 0)), (1, .int (iI m)), (2, .int (iI n0))] := hl
  have zm1 := zm.1
  have zm2 := zm.2
  have zn01 := zn0.1
  have zn02 := zn0.2
  have h00 := hs.1 0 (by decide)
  have h06 := hs.2.2.1
  refine r_aload_n C dX3_purse_0 rfl (lv_at hl 0 rfl) ?_
  refine r_iload_n C dX3_purse_1 rfl (lv_at hl 1 rfl) ?_
  refine r_cVR1 C m_X3_101 (cT_noMender (by exact ⟨by omega, by omega⟩) hs) hP rfl rfl hl.1 dX3_purse_2 ?_
  refine r_ifB_ne C (tgt := 18) dX3_purse_5 (by decide) (fun h1 => ?_) (fun h1 => ?_)
  · refine r_aload_n C dX3_purse_18 rfl (lv_at hl 0 rfl) ?_
    refine r_ldc C (-1000000001) ki_X3_48 (by decide) dX3_purse_19 ?_
    refine r_cVWA1 C m_X3_49 (cT_finding (by omega) (by omega)) hP hD hS (wT_ad.trans wT_ad.symm) rfl rfl hl.1 dX3_purse_21 (fun H locs hP hD hS => ?_)
    exact r_iretE C hP hS (t, tw, ty, tk, sa, en) (by first | (simp only [fPurse, fD, fV, h1, not_true_eq_false, not_false_eq_true, and_true, true_and, and_false, false_and, or_true, true_or, or_false, false_or, if_true, if_false, ne_eq, reduceIte]; done) | (exfalso; omega) | ((unfold fPurse fD; (repeat' split)) <;> first | rfl | (exfalso; omega))) (by first | (simp only [fPurse, fD, fV, h1, not_true_eq_false, not_false_eq_true, and_true, true_and, and_false, false_and, or_true, true_or, or_false, false_or, if_true, if_false, ne_eq, reduceIte]; done) | (exfalso; omega) | ((unfold fPurse fD; (repeat' split)) <;> first | rfl | (exfalso; omega))) dX3_purse_24
  · have h1 := Classical.not_not.mp h1
    refine r_iload_n C dX3_purse_8 rfl (lv_at hl 2 rfl) ?_
    refine r_iconst C dX3_purse_9 ?_
    refine r_bipush C dX3_purse_10 (by decide) ?_
    refine r_cSR3 C m_X3_44 (cT_outside (by exact ⟨by omega, by omega⟩) ⟨by decide, by decide⟩ ⟨by decide, by decide⟩) pn0 hl.1 dX3_purse_12 ?_
    refine r_ifB_eq C (tgt := 25) dX3_purse_15 (by decide) (fun h2 => ?_) (fun h2 => ?_)
    · have h2 := Classical.not_not.mp h2
      refine r_aload_n C dX3_purse_25 rfl (lv_at hl 0 rfl) ?_
      refine r_iload_n C dX3_purse_26 rfl (lv_at hl 1 rfl) ?_
      refine r_sipush C dX3_purse_27 (by decide) ?_
      refine r_cVWA2 C m_X3_174 (cT_tryPurse (by omega) (by omega) (by omega) (by omega) hs) hP hD hS (wT_ad.trans wT_ad.symm) rfl rfl hl.1 dX3_purse_30 (fun H locs hP hD hS => ?_)
      have ht1 : Ok (up s (99 + 4 * m + 2) 255) := ok_up hs ⟨by omega, by omega⟩ ⟨by omega, by omega⟩ (fun _ => by omega) (fun _ _ _ _ => by omega)
      refine r_aload_n C dX3_purse_33 rfl (lv_at hl 0 rfl) ?_
      refine g_X3_16 C hP 0 rfl rfl dX3_purse_34 ?_
      refine r_iload_n C dX3_purse_37 rfl (lv_at hl 2 rfl) ?_
      refine r_iconst C dX3_purse_38 ?_
      refine r_cVW2 C m_X3_143 (cW_passYears (b := (fun i => a (8 + i))) (s := up s (99 + 4 * m + 2) 255) (y := y) (by omega) (by omega) (by exact ⟨by omega, by omega⟩) ht1) hP hD hS [8, 9, 10, 11, 12, 13, 14] (wT a k s (lB (wrF s)) y (ysN (up s (99 + 4 * m + 2) 255) (-1) n0.toNat) (lB (wrF (ysN (up s (99 + 4 * m + 2) 255) (-1) n0.toNat))) y kq (lB (wrF kq)) ky tp ta tk sa en nm bi si nu st ik) rfl lc_T_t rfl lp_T_t (wT_ad.trans wT_ad.symm) rfl rfl hl.1 dX3_purse_39 (fun H locs hP hD hS => ?_)
      have ht2 : Ok (ysN (up s (99 + 4 * m + 2) 255) (-1) n0.toNat) := ok_ysN ht1 ((-1)) _
      refine r_istore_n C [(3, .int (iI (wrongMany (ysN (up s (99 + 4 * m + 2) 255) (-1) n0.toNat)))), (0, .ref (a 0)), (1, .int (iI m)), (2, .int (iI n0))] dX3_purse_42 rfl hl (by decide) rfl (fun ls hl => ?_)
      refine r_iconst C dX3_purse_43 ?_
      refine r_istore C [(4, .int (iI 0)), (3, .int (iI (wrongMany (ysN (up s (99 + 4 * m + 2) 255) (-1) n0.toNat)))), (0, .ref (a 0)), (1, .int (iI m)), (2, .int (iI n0))] dX3_purse_44 hl (by decide) rfl (fun ls hl => ?_)
      refine r_loopWX (fun n : Nat => [(0, .ref (a 0)), (1, .int (iI m)), (2, .int (iI n0)), (3, .int (iI (puW s m n0 255))), (4, .int (iI n))]) (fun (n : Nat) (xn : (Int → Int) × Int64 × Int) => wT a k s (lB (wrF s)) y xn.1 xn.2.1 xn.2.2 kq (lB (wrF kq)) ky tp ta tk sa en nm bi si nu st ik) (255) (fun n : Nat => ∀ j : Nat, j < n → ¬ (fun v => puW s m n0 v ≤ puW s m n0 255) j) (fun j h => absurd h (Nat.not_lt_zero j)) (ysN (up s (99 + 4 * m + 2) 255) (-1) n0.toNat, lB (wrF (ysN (up s (99 + 4 * m + 2) 255) (-1) n0.toNat)), y) (lv_eq (lv_sub hl [2, 3, 4, 1, 0] rfl) rfl) (va_eq hP rfl) (va_eqD hD rfl) hS (fun n hn ihn hJn xn ls H locs hl hP hD hS => ?_) (fun hJn xn ls H locs hl hP hD hS => ?_)
      · have hl : lv_has ls 5 [(0, .ref (a 0)), (1, .int (iI m)), (2, .int (iI n0)), (3, .int (iI (puW s m n0 255))), (4, .int (iI n))] := hl
        have hP : va_P D vwCl (wT a k s (lB (wrF s)) y xn.1 xn.2.1 xn.2.2 kq (lB (wrF kq)) ky tp ta tk sa en nm bi si nu st ik) H := hP
        have hD : va_D _ (wT a k s (lB (wrF s)) y xn.1 xn.2.1 xn.2.2 kq (lB (wrF kq)) ky tp ta tk sa en nm bi si nu st ik) := hD
        have hJn : ∀ j : Nat, j < n → ¬ (fun v => puW s m n0 v ≤ puW s m n0 255) j := hJn
        have h8 : 0 ≤ puW s m n0 255 ∧ puW s m n0 255 ≤ 48 := wrongMany_rg _
        refine r_iload C dX3_purse_46 (lv_at hl 4 rfl) ?_
        refine r_sipush C dX3_purse_48 (by decide) ?_
        refine r_icmp_ge C (tgt := 83) dX3_purse_51 (by decide) (by exact ⟨by omega, by omega⟩) ⟨by decide, by decide⟩ (fun h3 => ?_) (fun h3 => ?_)
        · exfalso; omega
        · refine r_aload_n C dX3_purse_54 rfl (lv_at hl 0 rfl) ?_
          refine r_iload_n C dX3_purse_55 rfl (lv_at hl 1 rfl) ?_
          refine r_iload C dX3_purse_56 (lv_at hl 4 rfl) ?_
          refine r_cVWA2 C m_X3_174 (cT_tryPurse (by omega) (by omega) (by omega) (by omega) hs) hP hD hS (wT_ad.trans wT_ad.symm) rfl rfl hl.1 dX3_purse_58 (fun H locs hP hD hS => ?_)
          have ht3 : Ok (up s (99 + 4 * m + 2) n) := ok_up hs ⟨by omega, by omega⟩ ⟨by omega, by omega⟩ (fun _ => by omega) (fun _ _ _ _ => by omega)
          refine r_aload_n C dX3_purse_61 rfl (lv_at hl 0 rfl) ?_
          refine g_X3_16 C hP 0 rfl rfl dX3_purse_62 ?_
          refine r_iload_n C dX3_purse_65 rfl (lv_at hl 2 rfl) ?_
          refine r_iconst C dX3_purse_66 ?_
          refine r_cVW2 C m_X3_143 (cW_passYears (b := (fun i => a (8 + i))) (s := up s (99 + 4 * m + 2) n) (y := y) (by omega) (by omega) (by exact ⟨by omega, by omega⟩) ht3) hP hD hS [8, 9, 10, 11, 12, 13, 14] (wT a k s (lB (wrF s)) y (ysN (up s (99 + 4 * m + 2) n) (-1) n0.toNat) (lB (wrF (ysN (up s (99 + 4 * m + 2) n) (-1) n0.toNat))) y kq (lB (wrF kq)) ky tp ta tk sa en nm bi si nu st ik) rfl lc_T_t rfl lp_T_t (wT_ad.trans wT_ad.symm) rfl rfl hl.1 dX3_purse_67 (fun H locs hP hD hS => ?_)
          have ht4 : Ok (ysN (up s (99 + 4 * m + 2) n) (-1) n0.toNat) := ok_ysN ht3 ((-1)) _
          refine r_iload_n C dX3_purse_70 rfl (lv_at hl 3 rfl) ?_
          refine r_icmp_gt C (tgt := 77) dX3_purse_71 (by decide) (by have := wrongMany_rg (ysN (up s (99 + 4 * m + 2) n) (-1) n0.toNat); exact ⟨by omega, by omega⟩) (by exact ⟨by omega, by omega⟩) (fun h4 => ?_) (fun h4 => ?_)
          · refine r_iinc C 4 [(4, .int (iI (n + 1))), (0, .ref (a 0)), (1, .int (iI m)), (2, .int (iI n0)), (3, .int (iI (puW s m n0 255)))] dX3_purse_77 hl rfl (by decide) rfl (fun ls hl => ?_)
            refine r_goto C (tgt := 46) dX3_purse_80 (by decide) ?_
            exact ihn (lt_s hJn (Int.not_le.mpr h4)) (ysN (up s (99 + 4 * m + 2) n) (-1) n0.toNat, lB (wrF (ysN (up s (99 + 4 * m + 2) n) (-1) n0.toNat)), y) ls H locs (lv_eq (lv_sub hl [1, 2, 3, 4, 0] rfl) rfl) (va_eq hP rfl) (va_eqD hD rfl) hS
          · refine r_iload C dX3_purse_74 (lv_at hl 4 rfl) ?_
            exact r_iretE C hP hS (ysN (up s (99 + 4 * m + 2) n) (-1) n0.toNat, lB (wrF (ysN (up s (99 + 4 * m + 2) n) (-1) n0.toNat)), y, tk, sa, en) (by simp only [fPurse, fst0_yes (p := fun v => puW s m n0 v ≤ puW s m n0 255) (Int.not_lt.mp h4) hJn (n := 255) (by omega), h1, h2, h3, h4, not_true_eq_false, not_false_eq_true, and_true, true_and, and_false, false_and, or_true, true_or, or_false, false_or, if_true, if_false, ne_eq, reduceIte, fD, fV]; try rfl) (by simp only [fPurse, fst0_yes (p := fun v => puW s m n0 v ≤ puW s m n0 255) (Int.not_lt.mp h4) hJn (n := 255) (by omega), h1, h2, h3, h4, not_true_eq_false, not_false_eq_true, and_true, true_and, and_false, false_and, or_true, true_or, or_false, false_or, if_true, if_false, ne_eq, reduceIte, fD, fV]; try rfl) dX3_purse_76
      · have hl : lv_has ls 5 [(0, .ref (a 0)), (1, .int (iI m)), (2, .int (iI n0)), (3, .int (iI (puW s m n0 255))), (4, .int (iI 255))] := hl
        have hP : va_P D vwCl (wT a k s (lB (wrF s)) y xn.1 xn.2.1 xn.2.2 kq (lB (wrF kq)) ky tp ta tk sa en nm bi si nu st ik) H := hP
        have hD : va_D _ (wT a k s (lB (wrF s)) y xn.1 xn.2.1 xn.2.2 kq (lB (wrF kq)) ky tp ta tk sa en nm bi si nu st ik) := hD
        have hJn : ∀ j : Nat, j < 255 → ¬ (fun v => puW s m n0 v ≤ puW s m n0 255) j := hJn
        have h8 : 0 ≤ puW s m n0 255 ∧ puW s m n0 255 ≤ 48 := wrongMany_rg _
        refine r_iload C dX3_purse_46 (lv_at hl 4 rfl) ?_
        refine r_sipush C dX3_purse_48 (by decide) ?_
        refine r_icmp_ge C (tgt := 83) dX3_purse_51 (by decide) ⟨by decide, by decide⟩ ⟨by decide, by decide⟩ (fun h5 => ?_) (fun h5 => ?_)
        · refine r_sipush C dX3_purse_83 (by decide) ?_
          exact r_iretE C hP hS (xn.1, xn.2.1, xn.2.2, tk, sa, en) (by simp only [fPurse, fst0_no (p := fun v => puW s m n0 v ≤ puW s m n0 255) (n := 255) hJn, h1, h2, h5, not_true_eq_false, not_false_eq_true, and_true, true_and, and_false, false_and, or_true, true_or, or_false, false_or, if_true, if_false, ne_eq, reduceIte, fD, fV]; try rfl) (by simp only [fPurse, fst0_no (p := fun v => puW s m n0 v ≤ puW s m n0 255) (n := 255) hJn, h1, h2, h5, not_true_eq_false, not_false_eq_true, and_true, true_and, and_false, false_and, or_true, true_or, or_false, false_or, if_true, if_false, ne_eq, reduceIte, fD, fV]; try rfl) dX3_purse_86
        · exfalso; omega
    · refine r_aload_n C dX3_purse_18 rfl (lv_at hl 0 rfl) ?_
      refine r_ldc C (-1000000001) ki_X3_48 (by decide) dX3_purse_19 ?_
      refine r_cVWA1 C m_X3_49 (cT_finding (by omega) (by omega)) hP hD hS (wT_ad.trans wT_ad.symm) rfl rfl hl.1 dX3_purse_21 (fun H locs hP hD hS => ?_)
      exact r_iretE C hP hS (t, tw, ty, tk, sa, en) (by first | (simp only [fPurse, fD, fV, h1, h2, not_true_eq_false, not_false_eq_true, and_true, true_and, and_false, false_and, or_true, true_or, or_false, false_or, if_true, if_false, ne_eq, reduceIte]; done) | (exfalso; omega) | ((unfold fPurse fD; (repeat' split)) <;> first | rfl | (exfalso; omega))) (by first | (simp only [fPurse, fD, fV, h1, h2, not_true_eq_false, not_false_eq_true, and_true, true_and, and_false, false_and, or_true, true_or, or_false, false_or, if_true, if_false, ne_eq, reduceIte]; done) | (exfalso; omega) | ((unfold fPurse fD; (repeat' split)) <;> first | rfl | (exfalso; omega))) dX3_purse_24
set_option maxHeartbeats 400000 in
set_option maxRecDepth 100000 in
theorem cT_needed {n0 : Int} (zn0 : In32 n0) (hs : Ok s) : ME l yX3_needed cX3_needed 6 (some .int) 6 138 D k [.ref (a 0), .int (iI n0)] (wT a k s (lB (wrF s)) y t tw ty kq (lB (wrF kq)) ky tp ta tk sa en nm bi si nu st ik) (fun x : (Int → Int) × Int64 × Int × Int × Int × Int => wT a k ((fNeed s st n0).2.1) (lB (wrF ((fNeed s st n0).2.1))) y x.1 x.2.1 x.2.2.1 kq (lB (wrF kq)) ky tp ta x.2.2.2.1 x.2.2.2.2.1 x.2.2.2.2.2 nm bi si nu ((fNeed s st n0).2.2) ik) (some (.int (iI ((fNeed s st n0).1)))) := by
  refine ME.mk RX3 rfl (by decide +kernel) (Nat.le_of_ble_eq_true rfl) (fun p e U m0 below meth cd ls C hP hD hS hl => ?_)
  have hl : lv_has ls 6 [(0, .ref (a 0)), (1, .int (iI n0))] := hl
  have zn01 := zn0.1
  have zn02 := zn0.2
  have h00 := hs.1 0 (by decide)
  have h06 := hs.2.2.1
  refine r_iload_n C dX3_needed_0 rfl (lv_at hl 1 rfl) ?_
  refine r_iconst C dX3_needed_1 ?_
  refine r_bipush C dX3_needed_2 (by decide) ?_
  refine r_cSR3 C m_X3_44 (cT_outside (by exact ⟨by omega, by omega⟩) ⟨by decide, by decide⟩ ⟨by decide, by decide⟩) pn0 hl.1 dX3_needed_4 ?_
  refine r_ifB_eq C (tgt := 17) dX3_needed_7 (by decide) (fun h1 => ?_) (fun h1 => ?_)
  · have h1 := Classical.not_not.mp h1
    refine r_iconst C dX3_needed_17 ?_
    refine r_istore_n C [(2, .int (iI (-1))), (0, .ref (a 0)), (1, .int (iI n0))] dX3_needed_18 rfl hl (by decide) rfl (fun ls hl => ?_)
    refine r_iconst C dX3_needed_19 ?_
    refine r_istore_n C [(3, .int (iI (-1))), (2, .int (iI (-1))), (0, .ref (a 0)), (1, .int (iI n0))] dX3_needed_20 rfl hl (by decide) rfl (fun ls hl => ?_)
    refine r_iconst C dX3_needed_21 ?_
    refine r_istore C [(4, .int (iI 0)), (3, .int (iI (-1))), (2, .int (iI (-1))), (0, .ref (a 0)), (1, .int (iI n0))] dX3_needed_22 hl (by decide) rfl (fun ls hl => ?_)
    refine r_loopWX (fun n : Nat => [(0, .ref (a 0)), (1, .int (iI n0)), (2, .int (iI ((ndN s n0 n).1))), (3, .int (iI ((ndN s n0 n).2))), (4, .int (iI n))]) (fun (n : Nat) (xn : (Int → Int) × Int64 × Int) => wT a k s (lB (wrF s)) y xn.1 xn.2.1 xn.2.2 kq (lB (wrF kq)) ky tp ta tk sa en nm bi si nu st ik) ((s 0).toNat) (fun n : Nat => True) trivial (t, tw, ty) (lv_eq (lv_sub hl [3, 4, 2, 1, 0] rfl) rfl) (va_eq hP rfl) (va_eqD hD rfl) hS (fun n hn ihn _ xn ls H locs hl hP hD hS => ?_) (fun _ xn ls H locs hl hP hD hS => ?_)
    · have hl : lv_has ls 6 [(0, .ref (a 0)), (1, .int (iI n0)), (2, .int (iI ((ndN s n0 n).1))), (3, .int (iI ((ndN s n0 n).2))), (4, .int (iI n))] := hl
      have hP : va_P D vwCl (wT a k s (lB (wrF s)) y xn.1 xn.2.1 xn.2.2 kq (lB (wrF kq)) ky tp ta tk sa en nm bi si nu st ik) H := hP
      have hD : va_D _ (wT a k s (lB (wrF s)) y xn.1 xn.2.1 xn.2.2 kq (lB (wrF kq)) ky tp ta tk sa en nm bi si nu st ik) := hD
      have h9 := ndN_rg s n0 n (by omega)
      refine r_iload C dX3_needed_24 (lv_at hl 4 rfl) ?_
      refine r_aload_n C dX3_needed_26 rfl (lv_at hl 0 rfl) ?_
      refine g_X3_10 C hP 0 rfl rfl dX3_needed_27 ?_
      refine g_X3_94 C hP 1 rfl rfl dX3_needed_30 ?_
      refine r_icmp_ge C (tgt := 77) dX3_needed_33 (by decide) (by exact ⟨by omega, by omega⟩) (by exact ⟨by omega, by omega⟩) (fun h2 => ?_) (fun h2 => ?_)
      · exfalso; omega
      · refine r_aload_n C dX3_needed_36 rfl (lv_at hl 0 rfl) ?_
        refine g_X3_16 C hP 0 rfl rfl dX3_needed_37 ?_
        refine r_aload_n C dX3_needed_40 rfl (lv_at hl 0 rfl) ?_
        refine g_X3_10 C hP 0 rfl rfl dX3_needed_41 ?_
        refine r_cVW1 C m_X3_150 (cW_become (b := (fun i => a (8 + i))) (d := (fun i => a (1 + i))) (s := xn.1) (t := s) (wr := xn.2.1) (tw := lB (wrF s)) (y := xn.2.2) (ty := y)) hP hD hS [8, 9, 10, 11, 12, 13, 14, 1, 2, 3, 4, 5, 6, 7] (wT a k s (lB (wrF s)) y s (lB (wrF s)) y kq (lB (wrF kq)) ky tp ta tk sa en nm bi si nu st ik) rfl lc_T_t_s rfl lp_T_t_s (wT_ad.trans wT_ad.symm) rfl rfl hl.1 dX3_needed_44 (fun H locs hP hD hS => ?_)
        refine r_aload_n C dX3_needed_47 rfl (lv_at hl 0 rfl) ?_
        refine g_X3_16 C hP 0 rfl rfl dX3_needed_48 ?_
        refine r_iload_n C dX3_needed_51 rfl (lv_at hl 1 rfl) ?_
        refine r_iload C dX3_needed_52 (lv_at hl 4 rfl) ?_
        refine r_cVW2 C m_X3_143 (cW_passYears (b := (fun i => a (8 + i))) (s := s) (y := y) (by omega) (by omega) (by exact ⟨by omega, by omega⟩) hs) hP hD hS [8, 9, 10, 11, 12, 13, 14] (wT a k s (lB (wrF s)) y (ysN s n n0.toNat) (lB (wrF (ysN s n n0.toNat))) y kq (lB (wrF kq)) ky tp ta tk sa en nm bi si nu st ik) rfl lc_T_t rfl lp_T_t (wT_ad.trans wT_ad.symm) rfl rfl hl.1 dX3_needed_54 (fun H locs hP hD hS => ?_)
        have ht1 : Ok (ysN s n n0.toNat) := ok_ysN hs n _
        refine r_istore C [(5, .int (iI (wrongMany (ysN s n n0.toNat)))), (0, .ref (a 0)), (1, .int (iI n0)), (2, .int (iI ((ndN s n0 n).1))), (3, .int (iI ((ndN s n0 n).2))), (4, .int (iI n))] dX3_needed_57 hl (by decide) rfl (fun ls hl => ?_)
        refine r_iload C dX3_needed_59 (lv_at hl 0 rfl) ?_
        refine r_iload_n C dX3_needed_61 rfl (lv_at hl 4 rfl) ?_
        refine r_icmp_le C (tgt := 71) dX3_needed_62 (by decide) (by have := wrongMany_rg (ysN s n n0.toNat); exact ⟨by omega, by omega⟩) (by exact ⟨by omega, by omega⟩) (fun h3 => ?_) (fun h3 => ?_)
        · refine r_iinc C 5 [(4, .int (iI (n + 1))), (5, .int (iI (wrongMany (ysN s n n0.toNat)))), (0, .ref (a 0)), (1, .int (iI n0)), (2, .int (iI ((ndN s n0 n).1))), (3, .int (iI ((ndN s n0 n).2)))] dX3_needed_71 hl rfl (by decide) rfl (fun ls hl => ?_)
          refine r_goto C (tgt := 24) dX3_needed_74 (by decide) ?_
          exact ihn trivial (ysN s n n0.toNat, lB (wrF (ysN s n n0.toNat)), y) ls H locs (lv_eq (lv_sub hl [2, 3, 4, 5, 0] rfl) (by first | (simp only [ndN, h1, h2, h3, not_true_eq_false, not_false_eq_true, and_true, true_and, and_false, false_and, or_true, true_or, or_false, false_or, if_true, if_false, ne_eq, reduceIte]; done) | (simp only [ndN, h1, h2, h3, not_true_eq_false, not_false_eq_true, and_true, true_and, and_false, false_and, or_true, true_or, or_false, false_or, if_true, if_false, ne_eq, reduceIte]; rfl) | (exfalso; omega))) (va_eq hP rfl) (va_eqD hD rfl) hS
        · refine r_iload C dX3_needed_65 (lv_at hl 0 rfl) ?_
          refine r_istore_n C [(3, .int (iI (wrongMany (ysN s n n0.toNat)))), (5, .int (iI (wrongMany (ysN s n n0.toNat)))), (0, .ref (a 0)), (1, .int (iI n0)), (2, .int (iI ((ndN s n0 n).1))), (4, .int (iI n))] dX3_needed_67 rfl hl (by decide) rfl (fun ls hl => ?_)
          refine r_iload C dX3_needed_68 (lv_at hl 5 rfl) ?_
          refine r_istore_n C [(2, .int (iI n)), (3, .int (iI (wrongMany (ysN s n n0.toNat)))), (5, .int (iI (wrongMany (ysN s n n0.toNat)))), (0, .ref (a 0)), (1, .int (iI n0)), (4, .int (iI n))] dX3_needed_70 rfl hl (by decide) rfl (fun ls hl => ?_)
          refine r_iinc C 5 [(4, .int (iI (n + 1))), (2, .int (iI n)), (3, .int (iI (wrongMany (ysN s n n0.toNat)))), (5, .int (iI (wrongMany (ysN s n n0.toNat)))), (0, .ref (a 0)), (1, .int (iI n0))] dX3_needed_71 hl rfl (by decide) rfl (fun ls hl => ?_)
          refine r_goto C (tgt := 24) dX3_needed_74 (by decide) ?_
          exact ihn trivial (ysN s n n0.toNat, lB (wrF (ysN s n n0.toNat)), y) ls H locs (lv_eq (lv_sub hl [4, 5, 1, 2, 0] rfl) (by first | (simp only [ndN, h1, h2, h3, not_true_eq_false, not_false_eq_true, and_true, true_and, and_false, false_and, or_true, true_or, or_false, false_or, if_true, if_false, ne_eq, reduceIte]; done) | (simp only [ndN, h1, h2, h3, not_true_eq_false, not_false_eq_true, and_true, true_and, and_false, false_and, or_true, true_or, or_false, false_or, if_true, if_false, ne_eq, reduceIte]; rfl) | (exfalso; omega))) (va_eq hP rfl) (va_eqD hD rfl) hS
    · have hl : lv_has ls 6 [(0, .ref (a 0)), (1, .int (iI n0)), (2, .int (iI ((ndN s n0 (s 0).toNat).1))), (3, .int (iI ((ndN s n0 (s 0).toNat).2))), (4, .int (iI ((s 0).toNat)))] := hl
      have hP : va_P D vwCl (wT a k s (lB (wrF s)) y xn.1 xn.2.1 xn.2.2 kq (lB (wrF kq)) ky tp ta tk sa en nm bi si nu st ik) H := hP
      have hD : va_D _ (wT a k s (lB (wrF s)) y xn.1 xn.2.1 xn.2.2 kq (lB (wrF kq)) ky tp ta tk sa en nm bi si nu st ik) := hD
      have h9 := ndN_rg s n0 ((s 0).toNat) (by omega)
      refine r_iload C dX3_needed_24 (lv_at hl 4 rfl) ?_
      refine r_aload_n C dX3_needed_26 rfl (lv_at hl 0 rfl) ?_
      refine g_X3_10 C hP 0 rfl rfl dX3_needed_27 ?_
      refine g_X3_94 C hP 1 rfl rfl dX3_needed_30 ?_
      refine r_icmp_ge C (tgt := 77) dX3_needed_33 (by decide) (by exact ⟨by omega, by omega⟩) (by exact ⟨by omega, by omega⟩) (fun h4 => ?_) (fun h4 => ?_)
      · refine r_iload_n C dX3_needed_77 rfl (lv_at hl 2 rfl) ?_
        refine r_iconst C dX3_needed_78 ?_
        refine r_icmp_ne C (tgt := 91) dX3_needed_79 (by decide) (by exact ⟨by omega, by omega⟩) ⟨by decide, by decide⟩ (fun h5 => ?_) (fun h5 => ?_)
        · refine r_iload_n C dX3_needed_91 rfl (lv_at hl 2 rfl) ?_
          exact r_iretE C hP hS (xn.1, xn.2.1, xn.2.2, tk, sa, en) (by first | (simp only [fNeed, fD, fV, h1, h4, h5, not_true_eq_false, not_false_eq_true, and_true, true_and, and_false, false_and, or_true, true_or, or_false, false_or, if_true, if_false, ne_eq, reduceIte]; done) | (simp only [fNeed, fD, fV, show ¬ (ndN s n0 (s 0).toNat).1 < 0 by omega, h1, h4, h5, not_true_eq_false, not_false_eq_true, and_true, true_and, and_false, false_and, or_true, true_or, or_false, false_or, if_true, if_false, ne_eq, reduceIte]; done) | (simp only [fNeed, fD, fV, show (ndN s n0 (s 0).toNat).1 < 0 by omega, h1, h4, h5, not_true_eq_false, not_false_eq_true, and_true, true_and, and_false, false_and, or_true, true_or, or_false, false_or, if_true, if_false, ne_eq, reduceIte]; done)) (by first | (simp only [fNeed, fD, fV, h1, h4, h5, not_true_eq_false, not_false_eq_true, and_true, true_and, and_false, false_and, or_true, true_or, or_false, false_or, if_true, if_false, ne_eq, reduceIte]; done) | (simp only [fNeed, fD, fV, show ¬ (ndN s n0 (s 0).toNat).1 < 0 by omega, h1, h4, h5, not_true_eq_false, not_false_eq_true, and_true, true_and, and_false, false_and, or_true, true_or, or_false, false_or, if_true, if_false, ne_eq, reduceIte]; done) | (simp only [fNeed, fD, fV, show (ndN s n0 (s 0).toNat).1 < 0 by omega, h1, h4, h5, not_true_eq_false, not_false_eq_true, and_true, true_and, and_false, false_and, or_true, true_or, or_false, false_or, if_true, if_false, ne_eq, reduceIte]; done)) dX3_needed_92
        · refine r_aload_n C dX3_needed_82 rfl (lv_at hl 0 rfl) ?_
          refine r_ldc C (-1000000004) ki_X3_159 (by decide) dX3_needed_83 ?_
          refine r_cVWA1 C m_X3_49 (cT_finding (by omega) (by omega)) hP hD hS (wT_ad.trans wT_ad.symm) rfl rfl hl.1 dX3_needed_85 (fun H locs hP hD hS => ?_)
          refine r_goto C (tgt := 92) dX3_needed_88 (by decide) ?_
          exact r_iretE C hP hS (xn.1, xn.2.1, xn.2.2, tk, sa, en) (by first | (simp only [fNeed, fD, fV, h1, h4, eq_true h5, not_true_eq_false, not_false_eq_true, and_true, true_and, and_false, false_and, or_true, true_or, or_false, false_or, if_true, if_false, ne_eq, reduceIte]; done) | (simp only [fNeed, fD, fV, show ¬ (ndN s n0 (s 0).toNat).1 < 0 by omega, h1, h4, eq_true h5, not_true_eq_false, not_false_eq_true, and_true, true_and, and_false, false_and, or_true, true_or, or_false, false_or, if_true, if_false, ne_eq, reduceIte]; done) | (simp only [fNeed, fD, fV, show (ndN s n0 (s 0).toNat).1 < 0 by omega, h1, h4, eq_true h5, not_true_eq_false, not_false_eq_true, and_true, true_and, and_false, false_and, or_true, true_or, or_false, false_or, if_true, if_false, ne_eq, reduceIte]; done)) (by first | (simp only [fNeed, fD, fV, h1, h4, eq_true h5, not_true_eq_false, not_false_eq_true, and_true, true_and, and_false, false_and, or_true, true_or, or_false, false_or, if_true, if_false, ne_eq, reduceIte]; done) | (simp only [fNeed, fD, fV, show ¬ (ndN s n0 (s 0).toNat).1 < 0 by omega, h1, h4, eq_true h5, not_true_eq_false, not_false_eq_true, and_true, true_and, and_false, false_and, or_true, true_or, or_false, false_or, if_true, if_false, ne_eq, reduceIte]; done) | (simp only [fNeed, fD, fV, show (ndN s n0 (s 0).toNat).1 < 0 by omega, h1, h4, eq_true h5, not_true_eq_false, not_false_eq_true, and_true, true_and, and_false, false_and, or_true, true_or, or_false, false_or, if_true, if_false, ne_eq, reduceIte]; done)) dX3_needed_92
      · exfalso; omega
  · refine r_aload_n C dX3_needed_10 rfl (lv_at hl 0 rfl) ?_
    refine r_ldc C (-1000000001) ki_X3_48 (by decide) dX3_needed_11 ?_
    refine r_cVWA1 C m_X3_49 (cT_finding (by omega) (by omega)) hP hD hS (wT_ad.trans wT_ad.symm) rfl rfl hl.1 dX3_needed_13 (fun H locs hP hD hS => ?_)
    exact r_iretE C hP hS (t, tw, ty, tk, sa, en) (by first | (simp only [fNeed, fD, fV, h1, not_true_eq_false, not_false_eq_true, and_true, true_and, and_false, false_and, or_true, true_or, or_false, false_or, if_true, if_false, ne_eq, reduceIte]; done) | (simp only [fNeed, fD, fV, show ¬ (ndN s n0 (s 0).toNat).1 < 0 by omega, h1, not_true_eq_false, not_false_eq_true, and_true, true_and, and_false, false_and, or_true, true_or, or_false, false_or, if_true, if_false, ne_eq, reduceIte]; done) | (simp only [fNeed, fD, fV, show (ndN s n0 (s 0).toNat).1 < 0 by omega, h1, not_true_eq_false, not_false_eq_true, and_true, true_and, and_false, false_and, or_true, true_or, or_false, false_or, if_true, if_false, ne_eq, reduceIte]; done)) (by first | (simp only [fNeed, fD, fV, h1, not_true_eq_false, not_false_eq_true, and_true, true_and, and_false, false_and, or_true, true_or, or_false, false_or, if_true, if_false, ne_eq, reduceIte]; done) | (simp only [fNeed, fD, fV, show ¬ (ndN s n0 (s 0).toNat).1 < 0 by omega, h1, not_true_eq_false, not_false_eq_true, and_true, true_and, and_false, false_and, or_true, true_or, or_false, false_or, if_true, if_false, ne_eq, reduceIte]; done) | (simp only [fNeed, fD, fV, show (ndN s n0 (s 0).toNat).1 < 0 by omega, h1, not_true_eq_false, not_false_eq_true, and_true, true_and, and_false, false_and, or_true, true_or, or_false, false_or, if_true, if_false, ne_eq, reduceIte]; done)) dX3_needed_16
end CLASS
