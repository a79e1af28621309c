section CLASS
variable {l : Launch} {D : va_G} {k : Nat → ClassId} {a c : Nat → Nat} {s t kq tp bi si st : Int → Int} {wr tw kw : Int64} {y ty ky ta tk sa en nm ik bt sz : Int} {nu nf : Int → Int64}
theorem ys_1 (s : Int → Int) (dl : Int) (n : Nat) : ysN (ysN s dl n) dl (1 : Int).toNat = ysN s dl (n + 1) := by
  show year (ysN s dl n) dl = _
  rw [ysN]
set_option maxHeartbeats 400000 in
set_option maxRecDepth 100000 in
theorem cT_firstYearWithout {g : Nat → Bool} (hs : Ok s) : ME l yX3_firstYearWithout cX3_firstYearWithout 4 (some .int) 6 138 D k [.ref (a 0), .long (lB g)] (wT a k s (lB (wrF s)) y t tw ty kq (lB (wrF kq)) ky tp ta tk sa en nm bi si nu st ik) (fun x : (Int → Int) × Int64 × Int => wT a k s (lB (wrF s)) y x.1 x.2.1 x.2.2 kq (lB (wrF kq)) ky tp ta tk sa en nm bi si nu st ik) (some (.int (iI (fyV s g)))) := by
  refine ME.mk RX3 rfl (by decide +kernel) (Nat.le_of_ble_eq_true rfl) (fun p e U m0 below meth cd ls C hP hD hS hl => ?_)
  have hl : lv_has ls 4 [(0, .ref (a 0)), (1, .long (lB g))] := hl
  have h00 := hs.1 0 (by decide)
  have h06 := hs.2.2.1
  refine r_aload_n C dX3_firstYearWithout_0 rfl (lv_at hl 0 rfl) ?_
  refine g_X3_16 C hP 0 rfl rfl dX3_firstYearWithout_1 ?_
  refine r_aload_n C dX3_firstYearWithout_4 rfl (lv_at hl 0 rfl) ?_
  refine g_X3_10 C hP 0 rfl rfl dX3_firstYearWithout_5 ?_
  refine r_cVW1 C m_X3_150 (cW_become (b := (fun i => a (8 + i))) (d := (fun i => a (1 + i))) (s := t) (t := s) (wr := tw) (tw := lB (wrF s)) (y := ty) (ty := y)) hP hD hS [8, 9, 10, 11, 12, 13, 14, 1, 2, 3, 4, 5, 6, 7] (wT a k s (lB (wrF s)) y s (lB (wrF s)) y kq (lB (wrF kq)) ky tp ta tk sa en nm bi si nu st ik) rfl lc_T_t_s rfl lp_T_t_s (wT_ad.trans wT_ad.symm) rfl rfl hl.1 dX3_firstYearWithout_8 (fun H locs hP hD hS => ?_)
  refine r_iconst C dX3_firstYearWithout_11 ?_
  refine r_istore_n C [(3, .int (iI 0)), (0, .ref (a 0)), (1, .long (lB g))] dX3_firstYearWithout_12 rfl hl (by decide) rfl (fun ls hl => ?_)
  refine r_loopWJ (fun n : Nat => [(0, .ref (a 0)), (1, .long (lB g)), (3, .int (iI n))]) (fun n : Nat => wT a k s (lB (wrF s)) y (ysN s (-1) n) (lB (wrF (ysN s (-1) n))) y kq (lB (wrF kq)) ky tp ta tk sa en nm bi si nu st ik) (60) (fun n : Nat => ∀ j : Nat, j < n → ¬ (fyP s g) j) (fun j h => absurd h (Nat.not_lt_zero j)) (lv_eq (lv_sub hl [1, 2, 0] rfl) rfl) (va_eq hP rfl) (va_eqD hD rfl) hS (fun n hn ihn hJn ls H locs hl hP hD hS => ?_) (fun hJn ls H locs hl hP hD hS => ?_)
  · have hl : lv_has ls 4 [(0, .ref (a 0)), (1, .long (lB g)), (3, .int (iI n))] := hl
    have hP : va_P D vwCl (wT a k s (lB (wrF s)) y (ysN s (-1) n) (lB (wrF (ysN s (-1) n))) y kq (lB (wrF kq)) ky tp ta tk sa en nm bi si nu st ik) H := hP
    have hD : va_D _ (wT a k s (lB (wrF s)) y (ysN s (-1) n) (lB (wrF (ysN s (-1) n))) y kq (lB (wrF kq)) ky tp ta tk sa en nm bi si nu st ik) := hD
    have hJn : ∀ j : Nat, j < n → ¬ (fyP s g) j := hJn
    have hsl : Ok (ysN s (-1) n) := ok_ysN hs (-1) n
    refine r_iload_n C dX3_firstYearWithout_13 rfl (lv_at hl 2 rfl) ?_
    refine r_bipush C dX3_firstYearWithout_14 (by decide) ?_
    refine r_icmp_ge C (tgt := 51) dX3_firstYearWithout_16 (by decide) (by exact ⟨by omega, by omega⟩) ⟨by decide, by decide⟩ (fun h1 => ?_) (fun h1 => ?_)
    · exfalso; omega
    · refine r_aload_n C dX3_firstYearWithout_19 rfl (lv_at hl 0 rfl) ?_
      refine g_X3_16 C hP 0 rfl rfl dX3_firstYearWithout_20 ?_
      refine g_X3_66 C hP 8 rfl rfl dX3_firstYearWithout_23 ?_
      refine r_lload_n C dX3_firstYearWithout_26 rfl (lv_at hl 1 rfl) ?_
      refine r_landB C dX3_firstYearWithout_27 ?_
      refine r_lconst C (z := 0) dX3_firstYearWithout_28 (by decide) ?_
      refine r_lzB_ne C (tgt := 35) dX3_firstYearWithout_29 dX3_firstYearWithout_30 (by decide) (fun h2 => ?_) (fun h2 => ?_)
      · refine r_aload_n C dX3_firstYearWithout_35 rfl (lv_at hl 0 rfl) ?_
        refine g_X3_16 C hP 0 rfl rfl dX3_firstYearWithout_36 ?_
        refine r_iconst C dX3_firstYearWithout_39 ?_
        refine r_iconst C dX3_firstYearWithout_40 ?_
        refine r_cVW2 C m_X3_143 (cW_passYears (b := (fun i => a (8 + i))) (s := ysN s (-1) n) (y := y) (by omega) (by omega) (by exact ⟨by omega, by omega⟩) hsl) hP hD hS [8, 9, 10, 11, 12, 13, 14] (wT a k s (lB (wrF s)) y (ysN (ysN s (-1) n) (-1) (1 : Int).toNat) (lB (wrF (ysN (ysN s (-1) n) (-1) (1 : Int).toNat))) y kq (lB (wrF kq)) ky tp ta tk sa en nm bi si nu st ik) rfl lc_T_t rfl lp_T_t (wT_ad.trans wT_ad.symm) rfl rfl hl.1 dX3_firstYearWithout_41 (fun H locs hP hD hS => ?_)
        have ht1 : Ok (ysN (ysN s (-1) n) (-1) (1 : Int).toNat) := ok_ysN hsl ((-1)) _
        refine r_pop C dX3_firstYearWithout_44 rfl ?_
        refine r_iinc C 2 [(3, .int (iI (n + 1))), (0, .ref (a 0)), (1, .long (lB g))] dX3_firstYearWithout_45 hl rfl (by decide) rfl (fun ls hl => ?_)
        refine r_goto C (tgt := 13) dX3_firstYearWithout_48 (by decide) ?_
        have ew2 : wT a k s (lB (wrF s)) y (ysN (ysN s (-1) n) (-1) (1 : Int).toNat) (lB (wrF (ysN (ysN s (-1) n) (-1) (1 : Int).toNat))) y kq (lB (wrF kq)) ky tp ta tk sa en nm bi si nu st ik = wT a k s (lB (wrF s)) y (ysN s (-1) (n + 1)) (lB (wrF (ysN s (-1) (n + 1)))) y kq (lB (wrF kq)) ky tp ta tk sa en nm bi si nu st ik := (by rw [ys_1])
        exact ihn (lt_s hJn h2) ls H locs (lv_eq (lv_sub hl [1, 2, 0] rfl) rfl) (va_eq hP ew2) (va_eqD hD ew2) hS
      · refine r_iload_n C dX3_firstYearWithout_33 rfl (lv_at hl 2 rfl) ?_
        exact r_iretE C hP hS (ysN s (-1) n, lB (wrF (ysN s (-1) n)), y) rfl (congrArg iI (by rw [fyV, fst0_yes (p := fyP s g) h2 hJn (n := 61) (by omega), if_pos (by omega)])) dX3_firstYearWithout_34
  · have hl : lv_has ls 4 [(0, .ref (a 0)), (1, .long (lB g)), (3, .int (iI 60))] := hl
    have hP : va_P D vwCl (wT a k s (lB (wrF s)) y (ysN s (-1) 60) (lB (wrF (ysN s (-1) 60))) y kq (lB (wrF kq)) ky tp ta tk sa en nm bi si nu st ik) H := hP
    have hD : va_D _ (wT a k s (lB (wrF s)) y (ysN s (-1) 60) (lB (wrF (ysN s (-1) 60))) y kq (lB (wrF kq)) ky tp ta tk sa en nm bi si nu st ik) := hD
    have hJn : ∀ j : Nat, j < 60 → ¬ (fyP s g) j := hJn
    have hsl : Ok (ysN s (-1) 60) := ok_ysN hs (-1) 60
    refine r_iload_n C dX3_firstYearWithout_13 rfl (lv_at hl 2 rfl) ?_
    refine r_bipush C dX3_firstYearWithout_14 (by decide) ?_
    refine r_icmp_ge C (tgt := 51) dX3_firstYearWithout_16 (by decide) ⟨by decide, by decide⟩ ⟨by decide, by decide⟩ (fun h3 => ?_) (fun h3 => ?_)
    · refine r_aload_n C dX3_firstYearWithout_51 rfl (lv_at hl 0 rfl) ?_
      refine g_X3_16 C hP 0 rfl rfl dX3_firstYearWithout_52 ?_
      refine g_X3_66 C hP 8 rfl rfl dX3_firstYearWithout_55 ?_
      refine r_lload_n C dX3_firstYearWithout_58 rfl (lv_at hl 1 rfl) ?_
      refine r_landB C dX3_firstYearWithout_59 ?_
      refine r_lconst C (z := 0) dX3_firstYearWithout_60 (by decide) ?_
      refine r_lzB_ne C (tgt := 70) dX3_firstYearWithout_61 dX3_firstYearWithout_62 (by decide) (fun h4 => ?_) (fun h4 => ?_)
      · refine r_iconst C dX3_firstYearWithout_70 ?_
        exact r_iretE C hP hS (ysN s (-1) 60, lB (wrF (ysN s (-1) 60)), y) rfl (congrArg iI (by rw [fyV, fst0_no (p := fyP s g) (n := 61) (lt_s hJn h4), if_neg (by decide)])) dX3_firstYearWithout_71
      · refine r_bipush C dX3_firstYearWithout_65 (by decide) ?_
        refine r_goto C (tgt := 71) dX3_firstYearWithout_67 (by decide) ?_
        exact r_iretE C hP hS (ysN s (-1) 60, lB (wrF (ysN s (-1) 60)), y) rfl (congrArg iI (by rw [fyV, fst0_yes (p := fyP s g) h4 hJn (n := 61) (by omega), if_pos (by decide)]; rfl)) dX3_firstYearWithout_71
    · exfalso; omega
theorem dn_t {s st : Int → Int} (h : fyV s allF < 0) : fDone s st = fD s st (-1000000004) := by
  unfold fyV at h
  rw [fy_done] at h
  unfold fDone
  by_cases q : fst0 (fun n => wrongMany (ysN s (-1) n) ≤ 0) 61 ≤ 60
  · rw [if_pos q] at h; omega
  · rw [if_neg q]
theorem dn_f {s st : Int → Int} (h : ¬ fyV s allF < 0) : fDone s st = fV s st (fyV s allF) := by
  unfold fyV at h ⊢
  rw [fy_done] at h ⊢
  unfold fDone
  by_cases q : fst0 (fun n => wrongMany (ysN s (-1) n) ≤ 0) 61 ≤ 60
  · rw [if_pos q, if_pos q]
  · rw [if_neg q] at h; exact absurd (by decide) h
theorem wn_t {s st : Int → Int} {c : Int} (hc : 0 ≤ c ∧ c ≤ 47) (h : fyV s (onF c) < 0) : fWhen s st c = fD s st (-1000000004) := by
  unfold fyV at h
  rw [fy_when s hc.1 (by omega)] at h
  unfold fWhen
  rw [if_pos hc]
  by_cases q : fst0 (fun n => ¬ untrue (ysN s (-1) n) c) 61 ≤ 60
  · rw [if_pos q] at h; omega
  · rw [if_neg q]
theorem wn_f {s st : Int → Int} {c : Int} (hc : 0 ≤ c ∧ c ≤ 47) (h : ¬ fyV s (onF c) < 0) : fWhen s st c = fV s st (fyV s (onF c)) := by
  unfold fyV at h ⊢
  rw [fy_when s hc.1 (by omega)] at h ⊢
  unfold fWhen
  rw [if_pos hc]
  by_cases q : fst0 (fun n => ¬ untrue (ysN s (-1) n) c) 61 ≤ 60
  · rw [if_pos q, if_pos q]
  · rw [if_neg q] at h; exact absurd (by decide) h
set_option maxHeartbeats 400000 in
set_option maxRecDepth 100000 in
theorem cT_done  (hs : Ok s) : ME l yX3_done cX3_done 2 (some .int) 7 161 D k [.ref (a 0)] (wT a k s (lB (wrF s)) y t tw ty kq (lB (wrF kq)) ky tp ta tk sa en nm bi si nu st ik) (fun x : (Int → Int) × Int64 × Int × Int × Int × Int => wT a k ((fDone s st).2.1) (lB (wrF ((fDone s st).2.1))) y x.1 x.2.1 x.2.2.1 kq (lB (wrF kq)) ky tp ta x.2.2.2.1 x.2.2.2.2.1 x.2.2.2.2.2 nm bi si nu ((fDone s st).2.2) ik) (some (.int (iI ((fDone s st).1)))) := by
  refine ME.mk RX3 rfl (by decide +kernel) (Nat.le_of_ble_eq_true rfl) (fun p e U m0 below meth cd ls C hP hD hS hl => ?_)
  have hl : lv_has ls 2 [(0, .ref (a 0))] := hl
  have h00 := hs.1 0 (by decide)
  have h06 := hs.2.2.1
  refine r_aload_n C dX3_done_0 rfl (lv_at hl 0 rfl) ?_
  refine r_ldc2B C allF kl_X3_154 k_all dX3_done_1 ?_
  refine r_cVEA1 C m_X3_156 (cT_firstYearWithout hs) hP hD hS (fun _ => wT_ad.trans wT_ad.symm) rfl rfl hl.1 dX3_done_4 (fun xe1 H locs hP hD hS => ?_)
  have hP : va_P D vwCl (wT a k s (lB (wrF s)) y xe1.1 xe1.2.1 xe1.2.2 kq (lB (wrF kq)) ky tp ta tk sa en nm bi si nu st ik) H := hP
  have hD : va_D _ (wT a k s (lB (wrF s)) y xe1.1 xe1.2.1 xe1.2.2 kq (lB (wrF kq)) ky tp ta tk sa en nm bi si nu st ik) := hD
  refine r_istore_n C [(1, .int (iI (fyV s allF))), (0, .ref (a 0))] dX3_done_7 rfl hl (by decide) rfl (fun ls hl => ?_)
  refine r_iload_n C dX3_done_8 rfl (lv_at hl 0 rfl) ?_
  refine r_if_ge C (tgt := 21) dX3_done_9 (by decide) (by have := fyV_rg s allF; exact ⟨by omega, by omega⟩) (fun h1 => ?_) (fun h1 => ?_)
  · refine r_iload_n C dX3_done_21 rfl (lv_at hl 0 rfl) ?_
    exact r_iretE C hP hS (xe1.1, xe1.2.1, xe1.2.2, tk, sa, en) (by simp only [dn_f h1, fD, fV]) (by simp only [dn_f h1, fD, fV]) dX3_done_22
  · refine r_aload_n C dX3_done_12 rfl (lv_at hl 1 rfl) ?_
    refine r_ldc C (-1000000004) ki_X3_159 (by decide) dX3_done_13 ?_
    refine r_cVWA1 C m_X3_49 (cT_finding (by omega) (by omega)) hP hD hS (wT_ad.trans wT_ad.symm) rfl rfl hl.1 dX3_done_15 (fun H locs hP hD hS => ?_)
    refine r_goto C (tgt := 22) dX3_done_18 (by decide) ?_
    exact r_iretE C hP hS (xe1.1, xe1.2.1, xe1.2.2, tk, sa, en) (by simp only [dn_t h1, fD, fV]) (by simp only [dn_t h1, fD, fV]) dX3_done_22
set_option maxHeartbeats 400000 in
set_option maxRecDepth 100000 in
theorem cT_when {c0 : Int} (zc0 : In32 c0) (hs : Ok s) : ME l yX3_when cX3_when 3 (some .int) 7 161 D k [.ref (a 0), .int (iI c0)] (wT a k s (lB (wrF s)) y t tw ty kq (lB (wrF kq)) ky tp ta tk sa en nm bi si nu st ik) (fun x : (Int → Int) × Int64 × Int × Int × Int × Int => wT a k ((fWhen s st c0).2.1) (lB (wrF ((fWhen s st c0).2.1))) y x.1 x.2.1 x.2.2.1 kq (lB (wrF kq)) ky tp ta x.2.2.2.1 x.2.2.2.2.1 x.2.2.2.2.2 nm bi si nu ((fWhen s st c0).2.2) ik) (some (.int (iI ((fWhen s st c0).1)))) := by
  refine ME.mk RX3 rfl (by decide +kernel) (Nat.le_of_ble_eq_true rfl) (fun p e U m0 below meth cd ls C hP hD hS hl => ?_)
  have hl : lv_has ls 3 [(0, .ref (a 0)), (1, .int (iI c0))] := hl
  have zc01 := zc0.1
  have zc02 := zc0.2
  have h00 := hs.1 0 (by decide)
  have h06 := hs.2.2.1
  refine r_iload_n C dX3_when_0 rfl (lv_at hl 1 rfl) ?_
  refine r_cSR1 C m_X3_40 (cT_noCell (by exact ⟨by omega, by omega⟩)) pn0 hl.1 dX3_when_1 ?_
  refine r_ifB_eq C (tgt := 14) dX3_when_4 (by decide) (fun h1 => ?_) (fun h1 => ?_)
  · have h1 := Classical.not_not.mp h1
    refine r_aload_n C dX3_when_14 rfl (lv_at hl 0 rfl) ?_
    refine r_lconst C (z := 1) dX3_when_15 (by decide) ?_
    refine r_iload_n C dX3_when_16 rfl (lv_at hl 1 rfl) ?_
    refine r_lone C (by omega) (by omega) dX3_when_17 ?_
    refine r_cVEA1 C m_X3_156 (cT_firstYearWithout hs) hP hD hS (fun _ => wT_ad.trans wT_ad.symm) rfl rfl hl.1 dX3_when_18 (fun xe1 H locs hP hD hS => ?_)
    have hP : va_P D vwCl (wT a k s (lB (wrF s)) y xe1.1 xe1.2.1 xe1.2.2 kq (lB (wrF kq)) ky tp ta tk sa en nm bi si nu st ik) H := hP
    have hD : va_D _ (wT a k s (lB (wrF s)) y xe1.1 xe1.2.1 xe1.2.2 kq (lB (wrF kq)) ky tp ta tk sa en nm bi si nu st ik) := hD
    refine r_istore_n C [(2, .int (iI (fyV s ((onF c0))))), (0, .ref (a 0)), (1, .int (iI c0))] dX3_when_21 rfl hl (by decide) rfl (fun ls hl => ?_)
    refine r_iload_n C dX3_when_22 rfl (lv_at hl 0 rfl) ?_
    refine r_if_ge C (tgt := 35) dX3_when_23 (by decide) (by have := fyV_rg s (((onF c0))); exact ⟨by omega, by omega⟩) (fun h2 => ?_) (fun h2 => ?_)
    · refine r_iload_n C dX3_when_35 rfl (lv_at hl 0 rfl) ?_
      exact r_iretE C hP hS (xe1.1, xe1.2.1, xe1.2.2, tk, sa, en) (by simp only [wn_f h1 h2, fD, fV]) (by simp only [wn_f h1 h2, fD, fV]) dX3_when_36
    · refine r_aload_n C dX3_when_26 rfl (lv_at hl 1 rfl) ?_
      refine r_ldc C (-1000000004) ki_X3_159 (by decide) dX3_when_27 ?_
      refine r_cVWA1 C m_X3_49 (cT_finding (by omega) (by omega)) hP hD hS (wT_ad.trans wT_ad.symm) rfl rfl hl.1 dX3_when_29 (fun H locs hP hD hS => ?_)
      refine r_goto C (tgt := 36) dX3_when_32 (by decide) ?_
      exact r_iretE C hP hS (xe1.1, xe1.2.1, xe1.2.2, tk, sa, en) (by simp only [wn_t h1 h2, fD, fV]) (by simp only [wn_t h1 h2, fD, fV]) dX3_when_36
  · refine r_aload_n C dX3_when_7 rfl (lv_at hl 0 rfl) ?_
    refine r_ldc C (-1000000001) ki_X3_48 (by decide) dX3_when_8 ?_
    refine r_cVWA1 C m_X3_49 (cT_finding (by omega) (by omega)) hP hD hS (wT_ad.trans wT_ad.symm) rfl rfl hl.1 dX3_when_10 (fun H locs hP hD hS => ?_)
    exact r_iretE C hP hS (t, tw, ty, tk, sa, en) (by first | (simp only [fWhen, fD, fV, h1, not_true_eq_false, not_false_eq_true, and_true, true_and, and_false, false_and, or_true, true_or, or_false, false_or, if_true, if_false, ne_eq, reduceIte]; done) | (exfalso; omega) | ((unfold fWhen fD; (repeat' split)) <;> first | rfl | (exfalso; omega))) (by first | (simp only [fWhen, fD, fV, h1, not_true_eq_false, not_false_eq_true, and_true, true_and, and_false, false_and, or_true, true_or, or_false, false_or, if_true, if_false, ne_eq, reduceIte]; done) | (exfalso; omega) | ((unfold fWhen fD; (repeat' split)) <;> first | rfl | (exfalso; omega))) dX3_when_13
end CLASS
