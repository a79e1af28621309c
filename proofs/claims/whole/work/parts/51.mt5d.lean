section CLASS
variable {l : Launch} {D : va_G} {k : Nat → ClassId} {a b c : Nat → Nat} {s t kq tp bi si st : Int → Int} {wr tw kw : Int64} {y ty ky ta tk sa en nm ik bt sz : Int} {nu nf : Int → Int64}
set_option maxHeartbeats 400000 in
set_option maxRecDepth 100000 in
theorem cT_notPlain3  (hs : Ok s) : MR l yX3_notPlain cX3_notPlain 3 (some .int) 0 0 D k [.ref (b 1)] (wW b k s (lB (wrF s)) y) (.int (iI (oth s 3 48))) := by
  refine MR.mk RX3 rfl (by decide +kernel) (Nat.le_of_ble_eq_true rfl) (fun p e U m0 below meth cd ls C hP hl => ?_)
  have hl : lv_has ls 3 [(0, .ref (b 1))] := hl
  refine r_iconst C dX3_notPlain_0 ?_
  refine r_istore_n C [(1, .int (iI 0)), (0, .ref (b 1))] dX3_notPlain_1 rfl hl (by decide) rfl (fun ls hl => ?_)
  refine r_iconst C dX3_notPlain_2 ?_
  refine r_istore_n C [(2, .int (iI 0)), (1, .int (iI 0)), (0, .ref (b 1))] dX3_notPlain_3 rfl hl (by decide) rfl (fun ls hl => ?_)
  refine r_loopR (fun n : Nat => [(0, .ref (b 1)), (1, .int (iI (oth s 3 n))), (2, .int (iI n))]) (48) (lv_eq (lv_sub hl [2, 1, 0] rfl) rfl) (fun n hn ihn ls hl => ?_) (fun ls hl => ?_)
  · have hl : lv_has ls 3 [(0, .ref (b 1)), (1, .int (iI (oth s 3 n))), (2, .int (iI n))] := hl
    refine r_iload_n C dX3_notPlain_4 rfl (lv_at hl 2 rfl) ?_
    refine r_bipush C dX3_notPlain_5 (by decide) ?_
    refine r_icmp_ge C (tgt := 25) dX3_notPlain_7 (by decide) (by exact ⟨by omega, by omega⟩) ⟨by decide, by decide⟩ (fun h1 => ?_) (fun h1 => ?_)
    · exfalso; omega
    · refine r_aload_n C dX3_notPlain_10 rfl (lv_at hl 0 rfl) ?_
      refine r_iload_n C dX3_notPlain_11 rfl (lv_at hl 2 rfl) ?_
      refine r_ialdV C hP 1 (s (3 + n)) rfl dX3_notPlain_12 (by omega) (by omega) (by decide) (la_at (by omega) (by omega)) ?_
      refine r_if_eq C (tgt := 19) dX3_notPlain_13 (by decide) (by have := hs.1 (3 + n) (by omega); exact ⟨by omega, by omega⟩) (fun h2 => ?_) (fun h2 => ?_)
      · refine r_iinc C 2 [(2, .int (iI (n + 1))), (0, .ref (b 1)), (1, .int (iI (oth s 3 n)))] dX3_notPlain_19 hl rfl (by decide) rfl (fun ls hl => ?_)
        refine r_goto C (tgt := 4) dX3_notPlain_22 (by decide) ?_
        exact ihn ls (lv_eq (lv_sub hl [1, 2, 0] rfl) (by simp only [oth, h1, eq_true h2, not_true_eq_false, not_false_eq_true, and_true, true_and, and_false, false_and, or_true, true_or, or_false, false_or, if_true, if_false, ne_eq, reduceIte, Int.add_zero]; rfl))
      · refine r_iinc C 1 [(1, .int (iI (oth s 3 n + 1))), (0, .ref (b 1)), (2, .int (iI n))] dX3_notPlain_16 hl rfl (by decide) rfl (fun ls hl => ?_)
        refine r_iinc C 2 [(2, .int (iI (n + 1))), (1, .int (iI (oth s 3 n + 1))), (0, .ref (b 1))] dX3_notPlain_19 hl rfl (by decide) rfl (fun ls hl => ?_)
        refine r_goto C (tgt := 4) dX3_notPlain_22 (by decide) ?_
        exact ihn ls (lv_eq (lv_sub hl [2, 1, 0] rfl) (by simp only [oth, h1, h2, not_true_eq_false, not_false_eq_true, and_true, true_and, and_false, false_and, or_true, true_or, or_false, false_or, if_true, if_false, ne_eq, reduceIte, Int.add_zero]; rfl))
  · have hl : lv_has ls 3 [(0, .ref (b 1)), (1, .int (iI (oth s 3 48))), (2, .int (iI 48))] := hl
    refine r_iload_n C dX3_notPlain_4 rfl (lv_at hl 2 rfl) ?_
    refine r_bipush C dX3_notPlain_5 (by decide) ?_
    refine r_icmp_ge C (tgt := 25) dX3_notPlain_7 (by decide) ⟨by decide, by decide⟩ ⟨by decide, by decide⟩ (fun h3 => ?_) (fun h3 => ?_)
    · refine r_iload_n C dX3_notPlain_25 rfl (lv_at hl 1 rfl) ?_
      exact r_iretR C rfl dX3_notPlain_26
    · exfalso; omega
set_option maxHeartbeats 400000 in
set_option maxRecDepth 100000 in
theorem cT_notPlain51  (hs : Ok s) : MR l yX3_notPlain cX3_notPlain 3 (some .int) 0 0 D k [.ref (b 2)] (wW b k s (lB (wrF s)) y) (.int (iI (oth s 51 48))) := by
  refine MR.mk RX3 rfl (by decide +kernel) (Nat.le_of_ble_eq_true rfl) (fun p e U m0 below meth cd ls C hP hl => ?_)
  have hl : lv_has ls 3 [(0, .ref (b 2))] := hl
  refine r_iconst C dX3_notPlain_0 ?_
  refine r_istore_n C [(1, .int (iI 0)), (0, .ref (b 2))] dX3_notPlain_1 rfl hl (by decide) rfl (fun ls hl => ?_)
  refine r_iconst C dX3_notPlain_2 ?_
  refine r_istore_n C [(2, .int (iI 0)), (1, .int (iI 0)), (0, .ref (b 2))] dX3_notPlain_3 rfl hl (by decide) rfl (fun ls hl => ?_)
  refine r_loopR (fun n : Nat => [(0, .ref (b 2)), (1, .int (iI (oth s 51 n))), (2, .int (iI n))]) (48) (lv_eq (lv_sub hl [2, 1, 0] rfl) rfl) (fun n hn ihn ls hl => ?_) (fun ls hl => ?_)
  · have hl : lv_has ls 3 [(0, .ref (b 2)), (1, .int (iI (oth s 51 n))), (2, .int (iI n))] := hl
    refine r_iload_n C dX3_notPlain_4 rfl (lv_at hl 2 rfl) ?_
    refine r_bipush C dX3_notPlain_5 (by decide) ?_
    refine r_icmp_ge C (tgt := 25) dX3_notPlain_7 (by decide) (by exact ⟨by omega, by omega⟩) ⟨by decide, by decide⟩ (fun h1 => ?_) (fun h1 => ?_)
    · exfalso; omega
    · refine r_aload_n C dX3_notPlain_10 rfl (lv_at hl 0 rfl) ?_
      refine r_iload_n C dX3_notPlain_11 rfl (lv_at hl 2 rfl) ?_
      refine r_ialdV C hP 2 (s (51 + n)) rfl dX3_notPlain_12 (by omega) (by omega) (by decide) (ma_at (by omega) (by omega)) ?_
      refine r_if_eq C (tgt := 19) dX3_notPlain_13 (by decide) (by have := hs.1 (51 + n) (by omega); exact ⟨by omega, by omega⟩) (fun h2 => ?_) (fun h2 => ?_)
      · refine r_iinc C 2 [(2, .int (iI (n + 1))), (0, .ref (b 2)), (1, .int (iI (oth s 51 n)))] dX3_notPlain_19 hl rfl (by decide) rfl (fun ls hl => ?_)
        refine r_goto C (tgt := 4) dX3_notPlain_22 (by decide) ?_
        exact ihn ls (lv_eq (lv_sub hl [1, 2, 0] rfl) (by simp only [oth, h1, eq_true h2, not_true_eq_false, not_false_eq_true, and_true, true_and, and_false, false_and, or_true, true_or, or_false, false_or, if_true, if_false, ne_eq, reduceIte, Int.add_zero]; rfl))
      · refine r_iinc C 1 [(1, .int (iI (oth s 51 n + 1))), (0, .ref (b 2)), (2, .int (iI n))] dX3_notPlain_16 hl rfl (by decide) rfl (fun ls hl => ?_)
        refine r_iinc C 2 [(2, .int (iI (n + 1))), (1, .int (iI (oth s 51 n + 1))), (0, .ref (b 2))] dX3_notPlain_19 hl rfl (by decide) rfl (fun ls hl => ?_)
        refine r_goto C (tgt := 4) dX3_notPlain_22 (by decide) ?_
        exact ihn ls (lv_eq (lv_sub hl [2, 1, 0] rfl) (by simp only [oth, h1, h2, not_true_eq_false, not_false_eq_true, and_true, true_and, and_false, false_and, or_true, true_or, or_false, false_or, if_true, if_false, ne_eq, reduceIte, Int.add_zero]; rfl))
  · have hl : lv_has ls 3 [(0, .ref (b 2)), (1, .int (iI (oth s 51 48))), (2, .int (iI 48))] := hl
    refine r_iload_n C dX3_notPlain_4 rfl (lv_at hl 2 rfl) ?_
    refine r_bipush C dX3_notPlain_5 (by decide) ?_
    refine r_icmp_ge C (tgt := 25) dX3_notPlain_7 (by decide) ⟨by decide, by decide⟩ ⟨by decide, by decide⟩ (fun h3 => ?_) (fun h3 => ?_)
    · refine r_iload_n C dX3_notPlain_25 rfl (lv_at hl 1 rfl) ?_
      exact r_iretR C rfl dX3_notPlain_26
    · exfalso; omega
set_option maxHeartbeats 400000 in
set_option maxRecDepth 100000 in
theorem cT_count {w : Int} (zw : In32 w) (hs : Ok s) : ME l yX3_count cX3_count 2 (some .int) 1 22 D k [.ref (a 0), .int (iI w)] (wT a k s (lB (wrF s)) y t tw ty kq (lB (wrF kq)) ky tp ta tk sa en nm bi si nu st ik) (fun x : (Int → Int) × Int64 × Int × Int × Int × Int => wT a k ((fCount s st ta w).2.1) (lB (wrF ((fCount s st ta w).2.1))) y x.1 x.2.1 x.2.2.1 kq (lB (wrF kq)) ky tp ta x.2.2.2.1 x.2.2.2.2.1 x.2.2.2.2.2 nm bi si nu ((fCount s st ta w).2.2) ik) (some (.int (iI ((fCount s st ta w).1)))) := by
  refine ME.mk RX3 rfl (by decide +kernel) (Nat.le_of_ble_eq_true rfl) (fun p e U m0 below meth cd ls C hP hD hS hl => ?_)
  have hl : lv_has ls 2 [(0, .ref (a 0)), (1, .int (iI w))] := hl
  have zw1 := zw.1
  have zw2 := zw.2
  have h00 := hs.1 0 (by decide)
  have h06 := hs.2.2.1
  refine r_iload_n C dX3_count_0 rfl (lv_at hl 1 rfl) ?_
  refine r_iconst C dX3_count_1 ?_
  refine r_iconst C dX3_count_2 ?_
  refine r_cSR3 C m_X3_44 (cT_outside (by exact ⟨by omega, by omega⟩) ⟨by decide, by decide⟩ ⟨by decide, by decide⟩) pn0 hl.1 dX3_count_3 ?_
  refine r_ifB_eq C (tgt := 16) dX3_count_6 (by decide) (fun h1 => ?_) (fun h1 => ?_)
  · have h1 := Classical.not_not.mp h1
    refine r_iload_n C dX3_count_16 rfl (lv_at hl 1 rfl) ?_
    by_cases h2 : w = 0
    · refine r_tableIn C (0) h2 dX3_count_17 (by decide) (by decide) rfl (tgt := 44) (by decide) ?_
      refine r_aload_n C dX3_count_44 rfl (lv_at hl 0 rfl) ?_
      refine g_X3_10 C hP 0 rfl rfl dX3_count_45 ?_
      refine g_X3_94 C hP 1 rfl rfl dX3_count_48 ?_
      exact r_iretE C hP hS (t, tw, ty, tk, sa, en) (by first | (simp only [fCount, fD, fV, h1, eq_true h2, not_true_eq_false, not_false_eq_true, and_true, true_and, and_false, false_and, or_true, true_or, or_false, false_or, if_true, if_false, ne_eq, reduceIte]; done) | (exfalso; omega) | ((unfold fCount fD; (repeat' split)) <;> first | rfl | (exfalso; omega))) (by first | (simp only [fCount, fD, fV, h1, eq_true h2, not_true_eq_false, not_false_eq_true, and_true, true_and, and_false, false_and, or_true, true_or, or_false, false_or, if_true, if_false, ne_eq, reduceIte]; done) | (exfalso; omega) | ((unfold fCount fD; (repeat' split)) <;> first | rfl | (exfalso; omega))) dX3_count_51
    by_cases h3 : w = 1
    · refine r_tableIn C (1) h3 dX3_count_17 (by decide) (by decide) rfl (tgt := 52) (by decide) ?_
      refine r_aload_n C dX3_count_52 rfl (lv_at hl 0 rfl) ?_
      refine g_X3_25 C hP 0 rfl rfl dX3_count_53 ?_
      refine g_X3_179 C hP 22 rfl rfl dX3_count_56 ?_
      exact r_iretE C hP hS (t, tw, ty, tk, sa, en) (by first | (simp only [fCount, fD, fV, h1, h2, eq_true h3, not_true_eq_false, not_false_eq_true, and_true, true_and, and_false, false_and, or_true, true_or, or_false, false_or, if_true, if_false, ne_eq, reduceIte]; done) | (exfalso; omega) | ((unfold fCount fD; (repeat' split)) <;> first | rfl | (exfalso; omega))) (by first | (simp only [fCount, fD, fV, h1, h2, eq_true h3, not_true_eq_false, not_false_eq_true, and_true, true_and, and_false, false_and, or_true, true_or, or_false, false_or, if_true, if_false, ne_eq, reduceIte]; done) | (exfalso; omega) | ((unfold fCount fD; (repeat' split)) <;> first | rfl | (exfalso; omega))) dX3_count_59
    by_cases h4 : w = 2
    · refine r_tableIn C (2) h4 dX3_count_17 (by decide) (by decide) rfl (tgt := 60) (by decide) ?_
      refine r_aload_n C dX3_count_60 rfl (lv_at hl 0 rfl) ?_
      refine g_X3_10 C hP 0 rfl rfl dX3_count_61 ?_
      refine g_X3_57 C hP 1 rfl rfl dX3_count_64 ?_
      refine r_cSR1 C m_X3_234 (cT_notPlain3 (b := (fun i => a (1 + i))) (s := s) (y := y) hs) (hp_T_s hP) hl.1 dX3_count_67 ?_
      exact r_iretE C hP hS (t, tw, ty, tk, sa, en) (by first | (simp only [fCount, fD, fV, h1, h2, h3, eq_true h4, not_true_eq_false, not_false_eq_true, and_true, true_and, and_false, false_and, or_true, true_or, or_false, false_or, if_true, if_false, ne_eq, reduceIte]; done) | (exfalso; omega) | ((unfold fCount fD; (repeat' split)) <;> first | rfl | (exfalso; omega))) (by first | (simp only [fCount, fD, fV, h1, h2, h3, eq_true h4, not_true_eq_false, not_false_eq_true, and_true, true_and, and_false, false_and, or_true, true_or, or_false, false_or, if_true, if_false, ne_eq, reduceIte]; done) | (exfalso; omega) | ((unfold fCount fD; (repeat' split)) <;> first | rfl | (exfalso; omega))) dX3_count_70
    refine r_tableOut C dX3_count_17 (by exact ⟨by omega, by omega⟩) (by omega) (tgt := 71) (by decide) ?_
    refine r_aload_n C dX3_count_71 rfl (lv_at hl 0 rfl) ?_
    refine g_X3_10 C hP 0 rfl rfl dX3_count_72 ?_
    refine g_X3_60 C hP 1 rfl rfl dX3_count_75 ?_
    refine r_cSR1 C m_X3_234 (cT_notPlain51 (b := (fun i => a (1 + i))) (s := s) (y := y) hs) (hp_T_s hP) hl.1 dX3_count_78 ?_
    exact r_iretE C hP hS (t, tw, ty, tk, sa, en) (by simp only [fCount, fV, show w = 3 by omega, not_true_eq_false, not_false_eq_true, and_true, true_and, and_false, false_and, or_true, true_or, or_false, false_or, if_true, if_false, ne_eq, reduceIte, show ¬ (3 : Int) = 0 by decide, show ¬ (3 : Int) = 1 by decide, show ¬ (3 : Int) = 2 by decide]) (by simp only [fCount, fV, show w = 3 by omega, not_true_eq_false, not_false_eq_true, and_true, true_and, and_false, false_and, or_true, true_or, or_false, false_or, if_true, if_false, ne_eq, reduceIte, show ¬ (3 : Int) = 0 by decide, show ¬ (3 : Int) = 1 by decide, show ¬ (3 : Int) = 2 by decide]) dX3_count_81
  · refine r_aload_n C dX3_count_9 rfl (lv_at hl 0 rfl) ?_
    refine r_ldc C (-1000000001) ki_X3_48 (by decide) dX3_count_10 ?_
    refine r_cVWA1 C m_X3_49 (cT_finding (by omega) (by omega)) hP hD hS (wT_ad.trans wT_ad.symm) rfl rfl hl.1 dX3_count_12 (fun H locs hP hD hS => ?_)
    exact r_iretE C hP hS (t, tw, ty, tk, sa, en) (by simp only [fCount, fD, show ¬ w = 0 by omega, show ¬ w = 1 by omega, show ¬ w = 2 by omega, show ¬ w = 3 by omega, not_true_eq_false, not_false_eq_true, and_true, true_and, and_false, false_and, or_true, true_or, or_false, false_or, if_true, if_false, ne_eq, reduceIte]) (by simp only [fCount, fD, show ¬ w = 0 by omega, show ¬ w = 1 by omega, show ¬ w = 2 by omega, show ¬ w = 3 by omega, not_true_eq_false, not_false_eq_true, and_true, true_and, and_false, false_and, or_true, true_or, or_false, false_or, if_true, if_false, ne_eq, reduceIte]) dX3_count_15
set_option maxHeartbeats 400000 in
set_option maxRecDepth 100000 in
theorem cT_status {w : Int} (zw : In32 w) : ME l yX3_status cX3_status 4 (some .int) 1 22 D k [.ref (a 0), .int (iI w)] (wT a k s (lB (wrF s)) y t tw ty kq (lB (wrF kq)) ky tp ta tk sa en nm bi si nu st ik) (fun x : (Int → Int) × Int64 × Int × Int × Int × Int => wT a k ((fStatus s st w).2.1) (lB (wrF ((fStatus s st w).2.1))) y x.1 x.2.1 x.2.2.1 kq (lB (wrF kq)) ky tp ta x.2.2.2.1 x.2.2.2.2.1 x.2.2.2.2.2 nm bi si nu ((fStatus s st w).2.2) ik) (some (.int (iI ((fStatus s st w).1)))) := by
  refine ME.mk RX3 rfl (by decide +kernel) (Nat.le_of_ble_eq_true rfl) (fun p e U m0 below meth cd ls C hP hD hS hl => ?_)
  have hl : lv_has ls 4 [(0, .ref (a 0)), (1, .int (iI w))] := hl
  have zw1 := zw.1
  have zw2 := zw.2
  refine r_iload_n C dX3_status_0 rfl (lv_at hl 1 rfl) ?_
  refine r_iconst C dX3_status_1 ?_
  refine r_bipush C dX3_status_2 (by decide) ?_
  refine r_cSR3 C m_X3_44 (cT_outside (by exact ⟨by omega, by omega⟩) (by exact ⟨by omega, by omega⟩) ⟨by decide, by decide⟩) pn0 hl.1 dX3_status_4 ?_
  refine r_ifB_eq C (tgt := 17) dX3_status_7 (by decide) (fun h1 => ?_) (fun h1 => ?_)
  · have h1 := Classical.not_not.mp h1
    refine r_iload_n C dX3_status_17 rfl (lv_at hl 1 rfl) ?_
    refine r_if_lt C (tgt := 28) dX3_status_18 (by decide) (by exact ⟨by omega, by omega⟩) (fun h2 => ?_) (fun h2 => ?_)
    · refine r_iconst C dX3_status_28 ?_
      refine r_istore_n C [(2, .int (iI 0)), (0, .ref (a 0)), (1, .int (iI w))] dX3_status_29 rfl hl (by decide) rfl (fun ls hl => ?_)
      refine r_iconst C dX3_status_30 ?_
      refine r_istore_n C [(3, .int (iI 0)), (2, .int (iI 0)), (0, .ref (a 0)), (1, .int (iI w))] dX3_status_31 rfl hl (by decide) rfl (fun ls hl => ?_)
      refine r_loopR (fun n : Nat => [(0, .ref (a 0)), (1, .int (iI w)), (2, .int (iI (stN st w n))), (3, .int (iI n))]) (7) (lv_eq (lv_sub hl [2, 3, 1, 0] rfl) rfl) (fun n hn ihn ls hl => ?_) (fun ls hl => ?_)
      · have hl : lv_has ls 4 [(0, .ref (a 0)), (1, .int (iI w)), (2, .int (iI (stN st w n))), (3, .int (iI n))] := hl
        refine r_iload_n C dX3_status_32 rfl (lv_at hl 3 rfl) ?_
        refine r_bipush C dX3_status_33 (by decide) ?_
        refine r_icmp_ge C (tgt := 53) dX3_status_35 (by decide) (by exact ⟨by omega, by omega⟩) ⟨by decide, by decide⟩ (fun h3 => ?_) (fun h3 => ?_)
        · exfalso; omega
        · refine r_iload_n C dX3_status_38 rfl (lv_at hl 2 rfl) ?_
          refine r_aload_n C dX3_status_39 rfl (lv_at hl 0 rfl) ?_
          refine g_X3_35 C hP 0 rfl rfl dX3_status_40 ?_
          refine r_iload_n C dX3_status_43 rfl (lv_at hl 3 rfl) ?_
          refine r_iald C hP 33 rfl dX3_status_44 (by omega) (by omega) (by decide) ?_
          refine r_iadd C dX3_status_45 ?_
          refine r_istore_n C [(2, .int (iI ((stN st w n) + (st (n))))), (0, .ref (a 0)), (1, .int (iI w)), (3, .int (iI n))] dX3_status_46 rfl hl (by decide) rfl (fun ls hl => ?_)
          refine r_iinc C 3 [(3, .int (iI (n + 1))), (2, .int (iI ((stN st w n) + (st (n))))), (0, .ref (a 0)), (1, .int (iI w))] dX3_status_47 hl rfl (by decide) rfl (fun ls hl => ?_)
          refine r_goto C (tgt := 32) dX3_status_50 (by decide) ?_
          exact ihn ls (lv_eq (lv_sub hl [2, 3, 1, 0] rfl) (by simp only [stN, h1, h2, h3, not_true_eq_false, not_false_eq_true, and_true, true_and, and_false, false_and, or_true, true_or, or_false, false_or, if_true, if_false, ne_eq, reduceIte]; rfl))
      · have hl : lv_has ls 4 [(0, .ref (a 0)), (1, .int (iI w)), (2, .int (iI (stN st w 7))), (3, .int (iI 7))] := hl
        refine r_iload_n C dX3_status_32 rfl (lv_at hl 3 rfl) ?_
        refine r_bipush C dX3_status_33 (by decide) ?_
        refine r_icmp_ge C (tgt := 53) dX3_status_35 (by decide) ⟨by decide, by decide⟩ ⟨by decide, by decide⟩ (fun h4 => ?_) (fun h4 => ?_)
        · refine r_iload_n C dX3_status_53 rfl (lv_at hl 2 rfl) ?_
          exact r_iretE C hP hS (t, tw, ty, tk, sa, en) (by first | (simp only [fStatus, fD, fV, h1, h2, h4, not_true_eq_false, not_false_eq_true, and_true, true_and, and_false, false_and, or_true, true_or, or_false, false_or, if_true, if_false, ne_eq, reduceIte]; done) | (exfalso; omega) | ((unfold fStatus fD; (repeat' split)) <;> first | rfl | (exfalso; omega))) (by first | (simp only [fStatus, fD, fV, h1, h2, h4, not_true_eq_false, not_false_eq_true, and_true, true_and, and_false, false_and, or_true, true_or, or_false, false_or, if_true, if_false, ne_eq, reduceIte]; done) | (exfalso; omega) | ((unfold fStatus fD; (repeat' split)) <;> first | rfl | (exfalso; omega))) dX3_status_54
        · exfalso; omega
    · refine r_aload_n C dX3_status_21 rfl (lv_at hl 0 rfl) ?_
      refine g_X3_35 C hP 0 rfl rfl dX3_status_22 ?_
      refine r_iload_n C dX3_status_25 rfl (lv_at hl 1 rfl) ?_
      refine r_iald C hP 33 rfl dX3_status_26 (by omega) (by omega) (by decide) ?_
      exact r_iretE C hP hS (t, tw, ty, tk, sa, en) (by first | (simp only [fStatus, fD, fV, h1, h2, not_true_eq_false, not_false_eq_true, and_true, true_and, and_false, false_and, or_true, true_or, or_false, false_or, if_true, if_false, ne_eq, reduceIte]; done) | (exfalso; omega) | ((unfold fStatus fD; (repeat' split)) <;> first | rfl | (exfalso; omega))) (by simp only [fStatus, fV, stN_at st (show 0 ≤ w by omega) (show w ≤ 6 by omega), h1, h2, not_true_eq_false, not_false_eq_true, and_true, true_and, and_false, false_and, or_true, true_or, or_false, false_or, if_true, if_false, ne_eq, reduceIte]) dX3_status_27
  · refine r_aload_n C dX3_status_10 rfl (lv_at hl 0 rfl) ?_
    refine r_ldc C (-1000000001) ki_X3_48 (by decide) dX3_status_11 ?_
    refine r_cVWA1 C m_X3_49 (cT_finding (by omega) (by omega)) hP hD hS (wT_ad.trans wT_ad.symm) rfl rfl hl.1 dX3_status_13 (fun H locs hP hD hS => ?_)
    exact r_iretE C hP hS (t, tw, ty, tk, sa, en) (by first | (simp only [fStatus, fD, fV, h1, not_true_eq_false, not_false_eq_true, and_true, true_and, and_false, false_and, or_true, true_or, or_false, false_or, if_true, if_false, ne_eq, reduceIte]; done) | (exfalso; omega) | ((unfold fStatus fD; (repeat' split)) <;> first | rfl | (exfalso; omega))) (by first | (simp only [fStatus, fD, fV, h1, not_true_eq_false, not_false_eq_true, and_true, true_and, and_false, false_and, or_true, true_or, or_false, false_or, if_true, if_false, ne_eq, reduceIte]; done) | (exfalso; omega) | ((unfold fStatus fD; (repeat' split)) <;> first | rfl | (exfalso; omega))) dX3_status_16
set_option maxHeartbeats 400000 in
set_option maxRecDepth 100000 in
theorem cT_feed {b : Int} {n0 : Int} (zb : In32 b) (zn0 : In32 n0) (hta : 0 ≤ ta ∧ ta ≤ 120) : ME l yX3_feed cX3_feed 4 (some .int) 1 22 D k [.ref (a 0), .int (iI b), .int (iI n0)] (wT a k s (lB (wrF s)) y t tw ty kq (lB (wrF kq)) ky tp ta tk sa en nm bi si nu st ik) (fun x : (Int → Int) × Int64 × Int × Int × Int × Int => wT a k s (lB (wrF s)) y x.1 x.2.1 x.2.2.1 kq (lB (wrF kq)) ky ((fFeed st tp ta b n0).2.2.1) ((fFeed st tp ta b n0).2.2.2) x.2.2.2.1 x.2.2.2.2.1 x.2.2.2.2.2 nm bi si nu ((fFeed st tp ta b n0).2.1) ik) (some (.int (iI ((fFeed st tp ta b n0).1)))) := by
  refine ME.mk RX3 rfl (by decide +kernel) (Nat.le_of_ble_eq_true rfl) (fun p e U m0 below meth cd ls C hP hD hS hl => ?_)
  have hl : lv_has ls 4 [(0, .ref (a 0)), (1, .int (iI b)), (2, .int (iI n0))] := hl
  have zb1 := zb.1
  have zb2 := zb.2
  have zn01 := zn0.1
  have zn02 := zn0.2
  refine r_iload_n C dX3_feed_0 rfl (lv_at hl 2 rfl) ?_
  refine r_iconst C dX3_feed_1 ?_
  refine r_iconst C dX3_feed_2 ?_
  refine r_cSR3 C m_X3_44 (cT_outside (by exact ⟨by omega, by omega⟩) ⟨by decide, by decide⟩ ⟨by decide, by decide⟩) pn0 hl.1 dX3_feed_3 ?_
  refine r_ifB_eq C (tgt := 16) dX3_feed_6 (by decide) (fun h1 => ?_) (fun h1 => ?_)
  · have h1 := Classical.not_not.mp h1
    refine r_aload_n C dX3_feed_16 rfl (lv_at hl 0 rfl) ?_
    refine g_X3_25 C hP 0 rfl rfl dX3_feed_17 ?_
    refine g_X3_179 C hP 22 rfl rfl dX3_feed_20 ?_
    refine r_iload_n C dX3_feed_23 rfl (lv_at hl 2 rfl) ?_
    refine r_iadd C dX3_feed_24 ?_
    refine r_bipush C dX3_feed_25 (by decide) ?_
    refine r_icmp_le C (tgt := 37) dX3_feed_27 (by decide) (by exact ⟨by omega, by omega⟩) ⟨by decide, by decide⟩ (fun h2 => ?_) (fun h2 => ?_)
    · refine r_iload_n C dX3_feed_37 rfl (lv_at hl 2 rfl) ?_
      refine r_iconst C dX3_feed_38 ?_
      refine r_isub C dX3_feed_39 ?_
      refine r_istore_n C [(3, .int (iI (n0 - 1))), (0, .ref (a 0)), (1, .int (iI b)), (2, .int (iI n0))] dX3_feed_40 rfl hl (by decide) rfl (fun ls hl => ?_)
      refine r_loopW (fun n : Nat => [(0, .ref (a 0)), (1, .int (iI b)), (2, .int (iI n0)), (3, .int (iI (n0 - 1 - n)))]) (fun n : Nat => wT a k s (lB (wrF s)) y t tw ty kq (lB (wrF kq)) ky (fdT tp ta b n0 n) (ta + n) tk sa en nm bi si nu st ik) (n0.toNat) (lv_eq (lv_sub hl [1, 2, 3, 0] rfl) (by rw [show n0 - 1 - ((0 : Nat) : Int) = n0 - 1 by omega]; rfl)) (va_eq hP (by rw [show ta + ((0 : Nat) : Int) = ta by omega]; rfl)) (va_eqD hD (by rw [show ta + ((0 : Nat) : Int) = ta by omega]; rfl)) hS (fun n hn ihn ls H locs hl hP hD hS => ?_) (fun ls H locs hl hP hD hS => ?_)
      · have hl : lv_has ls 4 [(0, .ref (a 0)), (1, .int (iI b)), (2, .int (iI n0)), (3, .int (iI (n0 - 1 - n)))] := hl
        have hP : va_P D vwCl (wT a k s (lB (wrF s)) y t tw ty kq (lB (wrF kq)) ky (fdT tp ta b n0 n) (ta + n) tk sa en nm bi si nu st ik) H := hP
        have hD : va_D _ (wT a k s (lB (wrF s)) y t tw ty kq (lB (wrF kq)) ky (fdT tp ta b n0 n) (ta + n) tk sa en nm bi si nu st ik) := hD
        refine r_iload_n C dX3_feed_41 rfl (lv_at hl 3 rfl) ?_
        refine r_if_lt C (tgt := 89) dX3_feed_42 (by decide) (by exact ⟨by omega, by omega⟩) (fun h3 => ?_) (fun h3 => ?_)
        · exfalso; omega
        · refine r_aload_n C dX3_feed_45 rfl (lv_at hl 0 rfl) ?_
          refine g_X3_25 C hP 0 rfl rfl dX3_feed_46 ?_
          refine g_X3_182 C hP 22 rfl rfl dX3_feed_49 ?_
          refine r_aload_n C dX3_feed_52 rfl (lv_at hl 0 rfl) ?_
          refine g_X3_25 C hP 0 rfl rfl dX3_feed_53 ?_
          refine g_X3_179 C hP 22 rfl rfl dX3_feed_56 ?_
          refine r_iload_n C dX3_feed_59 rfl (lv_at hl 1 rfl) ?_
          refine r_bipush C dX3_feed_60 (by decide) ?_
          refine r_iload_n C dX3_feed_62 rfl (lv_at hl 3 rfl) ?_
          refine r_imul C dX3_feed_63 ?_
          refine r_bytU C zb (by omega) (by omega) dX3_feed_64 dX3_feed_65 dX3_feed_68 ?_
          refine r_iast C hP hD hS 23 (wT a k s (lB (wrF s)) y t tw ty kq (lB (wrF kq)) ky (up (fdT tp ta b n0 n) (ta + n) (byt b (n0 - 1 - n))) (ta + n) tk sa en nm bi si nu st ik) rfl dX3_feed_69 (by omega) (by omega) (by decide) rfl (fun H locs hP hD hS => ?_)
          refine r_aload_n C dX3_feed_70 rfl (lv_at hl 0 rfl) ?_
          refine g_X3_25 C hP 0 rfl rfl dX3_feed_71 ?_
          refine r_dup C dX3_feed_74 rfl ?_
          refine g_X3_179 C hP 22 rfl rfl dX3_feed_75 ?_
          refine r_iconst C dX3_feed_78 ?_
          refine r_iadd C dX3_feed_79 ?_
          refine p_X3_179 C hP hD hS 22 (wT a k s (lB (wrF s)) y t tw ty kq (lB (wrF kq)) ky (up (fdT tp ta b n0 n) (ta + n) (byt b (n0 - 1 - n))) ((ta + n) + 1) tk sa en nm bi si nu st ik) rfl (Nat.le_of_ble_eq_true rfl) rfl dX3_feed_80 (fun H locs hP hD hS => ?_)
          refine r_iinc C 3 [(3, .int (iI (n0 - 1 - n + (-1)))), (0, .ref (a 0)), (1, .int (iI b)), (2, .int (iI n0))] dX3_feed_83 hl rfl (by decide) rfl (fun ls hl => ?_)
          refine r_goto C (tgt := 41) dX3_feed_86 (by decide) ?_
          have ew1 : wT a k s (lB (wrF s)) y t tw ty kq (lB (wrF kq)) ky (up (fdT tp ta b n0 n) (ta + n) (byt b (n0 - 1 - n))) ((ta + n) + 1) tk sa en nm bi si nu st ik = wT a k s (lB (wrF s)) y t tw ty kq (lB (wrF kq)) ky (fdT tp ta b n0 (n + 1)) (ta + (n + 1)) tk sa en nm bi si nu st ik := (by rw [fdT, show ta + ((n : Int) + 1) = ta + n + 1 by omega])
          exact ihn ls H locs (lv_eq (lv_sub hl [1, 2, 3, 0] rfl) (by rw [show n0 - 1 - ((n + 1 : Nat) : Int) = n0 - 1 - n + (-1) by omega]; rfl)) (va_eq hP ew1) (va_eqD hD ew1) hS
      · have hl : lv_has ls 4 [(0, .ref (a 0)), (1, .int (iI b)), (2, .int (iI n0)), (3, .int (iI (n0 - 1 - n0.toNat)))] := hl
        have hP : va_P D vwCl (wT a k s (lB (wrF s)) y t tw ty kq (lB (wrF kq)) ky (fdT tp ta b n0 n0.toNat) (ta + n0.toNat) tk sa en nm bi si nu st ik) H := hP
        have hD : va_D _ (wT a k s (lB (wrF s)) y t tw ty kq (lB (wrF kq)) ky (fdT tp ta b n0 n0.toNat) (ta + n0.toNat) tk sa en nm bi si nu st ik) := hD
        refine r_iload_n C dX3_feed_41 rfl (lv_at hl 3 rfl) ?_
        refine r_if_lt C (tgt := 89) dX3_feed_42 (by decide) (by exact ⟨by omega, by omega⟩) (fun h4 => ?_) (fun h4 => ?_)
        · refine r_aload_n C dX3_feed_89 rfl (lv_at hl 0 rfl) ?_
          refine g_X3_25 C hP 0 rfl rfl dX3_feed_90 ?_
          refine g_X3_179 C hP 22 rfl rfl dX3_feed_93 ?_
          exact r_iretE C hP hS (t, tw, ty, tk, sa, en) (by first | (simp only [fFeed, h1, h2, h4, not_true_eq_false, not_false_eq_true, and_true, true_and, and_false, false_and, or_true, true_or, or_false, false_or, if_true, if_false, ne_eq, reduceIte]; done) | (simp only [fFeed, h1, h2, h4, not_true_eq_false, not_false_eq_true, and_true, true_and, and_false, false_and, or_true, true_or, or_false, false_or, if_true, if_false, ne_eq, reduceIte, Int.toNat_of_nonneg (show 0 ≤ n0 by omega)]; done) | (simp only [fFeed, show ¬ ta + n0 ≤ 120 by omega, h1, h2, h4, not_true_eq_false, not_false_eq_true, and_true, true_and, and_false, false_and, or_true, true_or, or_false, false_or, if_true, if_false, ne_eq, reduceIte])) (by first | (simp only [fFeed, h1, h2, h4, not_true_eq_false, not_false_eq_true, and_true, true_and, and_false, false_and, or_true, true_or, or_false, false_or, if_true, if_false, ne_eq, reduceIte]; done) | (simp only [fFeed, h1, h2, h4, not_true_eq_false, not_false_eq_true, and_true, true_and, and_false, false_and, or_true, true_or, or_false, false_or, if_true, if_false, ne_eq, reduceIte, Int.toNat_of_nonneg (show 0 ≤ n0 by omega)]; done) | (simp only [fFeed, show ¬ ta + n0 ≤ 120 by omega, h1, h2, h4, not_true_eq_false, not_false_eq_true, and_true, true_and, and_false, false_and, or_true, true_or, or_false, false_or, if_true, if_false, ne_eq, reduceIte])) dX3_feed_96
        · exfalso; omega
    · refine r_aload_n C dX3_feed_30 rfl (lv_at hl 0 rfl) ?_
      refine r_ldc C (-1000000002) ki_X3_97 (by decide) dX3_feed_31 ?_
      refine r_cVWA1 C m_X3_49 (cT_finding (by omega) (by omega)) hP hD hS (wT_ad.trans wT_ad.symm) rfl rfl hl.1 dX3_feed_33 (fun H locs hP hD hS => ?_)
      exact r_iretE C hP hS (t, tw, ty, tk, sa, en) (by first | (simp only [fFeed, h1, h2, not_true_eq_false, not_false_eq_true, and_true, true_and, and_false, false_and, or_true, true_or, or_false, false_or, if_true, if_false, ne_eq, reduceIte]; done) | (simp only [fFeed, h1, h2, not_true_eq_false, not_false_eq_true, and_true, true_and, and_false, false_and, or_true, true_or, or_false, false_or, if_true, if_false, ne_eq, reduceIte, Int.toNat_of_nonneg (show 0 ≤ n0 by omega)]; done) | (simp only [fFeed, show ¬ ta + n0 ≤ 120 by omega, h1, h2, not_true_eq_false, not_false_eq_true, and_true, true_and, and_false, false_and, or_true, true_or, or_false, false_or, if_true, if_false, ne_eq, reduceIte])) (by first | (simp only [fFeed, h1, h2, not_true_eq_false, not_false_eq_true, and_true, true_and, and_false, false_and, or_true, true_or, or_false, false_or, if_true, if_false, ne_eq, reduceIte]; done) | (simp only [fFeed, h1, h2, not_true_eq_false, not_false_eq_true, and_true, true_and, and_false, false_and, or_true, true_or, or_false, false_or, if_true, if_false, ne_eq, reduceIte, Int.toNat_of_nonneg (show 0 ≤ n0 by omega)]; done) | (simp only [fFeed, show ¬ ta + n0 ≤ 120 by omega, h1, h2, not_true_eq_false, not_false_eq_true, and_true, true_and, and_false, false_and, or_true, true_or, or_false, false_or, if_true, if_false, ne_eq, reduceIte])) dX3_feed_36
  · refine r_aload_n C dX3_feed_9 rfl (lv_at hl 0 rfl) ?_
    refine r_ldc C (-1000000001) ki_X3_48 (by decide) dX3_feed_10 ?_
    refine r_cVWA1 C m_X3_49 (cT_finding (by omega) (by omega)) hP hD hS (wT_ad.trans wT_ad.symm) rfl rfl hl.1 dX3_feed_12 (fun H locs hP hD hS => ?_)
    exact r_iretE C hP hS (t, tw, ty, tk, sa, en) (by first | (simp only [fFeed, h1, not_true_eq_false, not_false_eq_true, and_true, true_and, and_false, false_and, or_true, true_or, or_false, false_or, if_true, if_false, ne_eq, reduceIte]; done) | (simp only [fFeed, h1, not_true_eq_false, not_false_eq_true, and_true, true_and, and_false, false_and, or_true, true_or, or_false, false_or, if_true, if_false, ne_eq, reduceIte, Int.toNat_of_nonneg (show 0 ≤ n0 by omega)]; done) | (simp only [fFeed, show ¬ ta + n0 ≤ 120 by omega, h1, not_true_eq_false, not_false_eq_true, and_true, true_and, and_false, false_and, or_true, true_or, or_false, false_or, if_true, if_false, ne_eq, reduceIte])) (by first | (simp only [fFeed, h1, not_true_eq_false, not_false_eq_true, and_true, true_and, and_false, false_and, or_true, true_or, or_false, false_or, if_true, if_false, ne_eq, reduceIte]; done) | (simp only [fFeed, h1, not_true_eq_false, not_false_eq_true, and_true, true_and, and_false, false_and, or_true, true_or, or_false, false_or, if_true, if_false, ne_eq, reduceIte, Int.toNat_of_nonneg (show 0 ≤ n0 by omega)]; done) | (simp only [fFeed, show ¬ ta + n0 ≤ 120 by omega, h1, not_true_eq_false, not_false_eq_true, and_true, true_and, and_false, false_and, or_true, true_or, or_false, false_or, if_true, if_false, ne_eq, reduceIte])) dX3_feed_15
set_option maxHeartbeats 400000 in
set_option maxRecDepth 100000 in
theorem cT_cells {w : Int} (zw : In32 w) (hs : Ok s) : ME l yX3_cells cX3_cells 2 (some .long) 1 24 D k [.ref (a 0), .int (iI w)] (wT a k s (lB (wrF s)) y t tw ty kq (lB (wrF kq)) ky tp ta tk sa en nm bi si nu st ik) (fun x : (Int → Int) × Int64 × Int × Int × Int × Int => wT a k ((fCells s st w).2.1) (lB (wrF ((fCells s st w).2.1))) y x.1 x.2.1 x.2.2.1 kq (lB (wrF kq)) ky tp ta x.2.2.2.1 x.2.2.2.2.1 x.2.2.2.2.2 nm bi si nu ((fCells s st w).2.2) ik) (some (.long (lI ((fCells s st w).1)))) := by
  refine ME.mk RX3 rfl (by decide +kernel) (Nat.le_of_ble_eq_true rfl) (fun p e U m0 below meth cd ls C hP hD hS hl => ?_)
  have hl : lv_has ls 2 [(0, .ref (a 0)), (1, .int (iI w))] := hl
  have zw1 := zw.1
  have zw2 := zw.2
  have h00 := hs.1 0 (by decide)
  have h06 := hs.2.2.1
  refine r_iload_n C dX3_cells_0 rfl (lv_at hl 1 rfl) ?_
  refine r_iconst C dX3_cells_1 ?_
  refine r_bipush C dX3_cells_2 (by decide) ?_
  refine r_cSR3 C m_X3_44 (cT_outside (by exact ⟨by omega, by omega⟩) ⟨by decide, by decide⟩ ⟨by decide, by decide⟩) pn0 hl.1 dX3_cells_4 ?_
  refine r_ifB_eq C (tgt := 18) dX3_cells_7 (by decide) (fun h1 => ?_) (fun h1 => ?_)
  · have h1 := Classical.not_not.mp h1
    refine r_iload_n C dX3_cells_18 rfl (lv_at hl 1 rfl) ?_
    refine r_if_ne C (tgt := 32) dX3_cells_19 (by decide) (by exact ⟨by omega, by omega⟩) (fun h2 => ?_) (fun h2 => ?_)
    · refine r_aload_n C dX3_cells_32 rfl (lv_at hl 0 rfl) ?_
      refine g_X3_10 C hP 0 rfl rfl dX3_cells_33 ?_
      refine r_iload_n C dX3_cells_36 rfl (lv_at hl 1 rfl) ?_
      refine r_iconst C dX3_cells_37 ?_
      refine r_isub C dX3_cells_38 ?_
      refine r_cVR1 C m_X3_83 (cW_landOf (b := (fun i => a (1 + i))) (s := s) (y := y) (by exact ⟨by omega, by omega⟩) hs) (hp_T_s hP) rfl rfl hl.1 dX3_cells_39 ?_
      exact r_lretE C hP hS (t, tw, ty, tk, sa, en) (by first | (simp only [fCells, fD, fV, h1, h2, not_true_eq_false, not_false_eq_true, and_true, true_and, and_false, false_and, or_true, true_or, or_false, false_or, if_true, if_false, ne_eq, reduceIte]; done) | (exfalso; omega) | ((unfold fCells fD; (repeat' split)) <;> first | rfl | (exfalso; omega))) (by rw [show (fCells s st w).1 = csN s w 48 by simp only [fCells, fV, h1, not_true_eq_false, not_false_eq_true, and_true, true_and, and_false, false_and, or_true, true_or, or_false, false_or, if_true, if_false, ne_eq, reduceIte]]; exact (cs_lo s h2 48 (Nat.le_refl 48)).symm) dX3_cells_42
    · refine r_aload_n C dX3_cells_22 rfl (lv_at hl 0 rfl) ?_
      refine g_X3_10 C hP 0 rfl rfl dX3_cells_23 ?_
      refine g_X3_66 C hP 1 rfl rfl dX3_cells_26 ?_
      refine r_goto C (tgt := 42) dX3_cells_29 (by decide) ?_
      exact r_lretE C hP hS (t, tw, ty, tk, sa, en) (by first | (simp only [fCells, fD, fV, h1, eq_true h2, not_true_eq_false, not_false_eq_true, and_true, true_and, and_false, false_and, or_true, true_or, or_false, false_or, if_true, if_false, ne_eq, reduceIte]; done) | (exfalso; omega) | ((unfold fCells fD; (repeat' split)) <;> first | rfl | (exfalso; omega))) (by rw [show (fCells s st w).1 = csN s w 48 by simp only [fCells, fV, h1, not_true_eq_false, not_false_eq_true, and_true, true_and, and_false, false_and, or_true, true_or, or_false, false_or, if_true, if_false, ne_eq, reduceIte]]; rw [h2]; exact (cs_wr48 s).symm) dX3_cells_42
  · refine r_aload_n C dX3_cells_10 rfl (lv_at hl 0 rfl) ?_
    refine r_ldc C (-1000000001) ki_X3_48 (by decide) dX3_cells_11 ?_
    refine r_cVWA1 C m_X3_49 (cT_finding (by omega) (by omega)) hP hD hS (wT_ad.trans wT_ad.symm) rfl rfl hl.1 dX3_cells_13 (fun H locs hP hD hS => ?_)
    refine r_i2l C dX3_cells_16 (by exact ⟨by omega, by omega⟩) ?_
    exact r_lretE C hP hS (t, tw, ty, tk, sa, en) (by first | (simp only [fCells, fD, fV, h1, not_true_eq_false, not_false_eq_true, and_true, true_and, and_false, false_and, or_true, true_or, or_false, false_or, if_true, if_false, ne_eq, reduceIte]; done) | (exfalso; omega) | ((unfold fCells fD; (repeat' split)) <;> first | rfl | (exfalso; omega))) (by first | (simp only [fCells, fD, fV, h1, not_true_eq_false, not_false_eq_true, and_true, true_and, and_false, false_and, or_true, true_or, or_false, false_or, if_true, if_false, ne_eq, reduceIte]; done) | (exfalso; omega) | ((unfold fCells fD; (repeat' split)) <;> first | rfl | (exfalso; omega))) dX3_cells_17
end CLASS
