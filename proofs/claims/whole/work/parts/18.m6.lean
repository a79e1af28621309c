section MODEL
variable {l : Launch} {D : va_G} {k : Nat → ClassId} {a : Nat → Nat} {s kp ot sd st sp tp bi si : Int → Int} {nu mo : Int → Int64} {ik dl tl ta fr to va iw : Int}
set_option maxHeartbeats 4000000 in
set_option maxRecDepth 100000 in
theorem cM_done  (hs : Ok s) : ME l yX4_done cX4_done 3 (some .int) 5 122 D k [.ref (a 0)] (wM a k s kp ot sd st sp tp bi si nu mo ik (-1) tl ta fr to va iw) (fun x : (Int → Int) × (Int → Int) × (Int → Int) × (Int → Int64) × Int => wM a k ((fDone s st).2.1) kp x.1 x.2.1 ((fDone s st).2.2) x.2.2.1 tp bi si nu x.2.2.2.1 ik (-1) x.2.2.2.2 ta fr to va iw) (some (.int (iI ((fDone s st).1)))) := by
  refine ME.mk RX4 rfl (by decide +kernel) (Nat.le_of_ble_eq_true rfl) (fun p e U m0 below meth cd ls C hP hD hS hl => ?_)
  have hl : lv_has ls 3 [(0, .ref (a 0))] := hl
  have h00 := hs.1 0 (by decide)
  have h06 := hs.2.2.1
  refine r_aload_n C dX4_done_0 rfl (lv_at hl 0 rfl) ?_
  refine r_cVW0 C m_X4_149 cM_laysAside hP hD hS [0, 1, 2, 3, 4, 5, 6, 7, 8, 9, 10, 11] (wM a k s kp ot (cpN s sd 123) st sp tp bi si nu mo ik (-1) tl ta fr to va iw) rfl rfl rfl rfl rfl rfl rfl hl.1 dX4_done_1 (fun H locs hP hD hS => ?_)
  refine r_iconst C dX4_done_4 ?_
  refine r_istore_n C [(1, .int (iI 0)), (0, .ref (a 0))] dX4_done_5 rfl hl (by decide) rfl (fun ls hl => ?_)
  refine r_loopWJ (fun n : Nat => [(0, .ref (a 0)), (1, .int (iI n))]) (fun n : Nat => wM a k (ysN s (-1) n) kp ot (cpN s sd 123) st sp tp bi si nu mo ik (-1) tl ta fr to va iw) (61) (fun n : Nat => ∀ j : Nat, j < n → ¬ (fun n => wrongMany (ysN s (-1) n) ≤ 0) j) (fun j h => absurd h (Nat.not_lt_zero j)) (lv_eq (lv_sub hl [1, 0] rfl) rfl) (va_eq hP rfl) (va_eqD hD rfl) hS (fun n hn ihn hJn ls H locs hl hP hD hS => ?_) (fun hJn ls H locs hl hP hD hS => ?_)
  · have hl : lv_has ls 3 [(0, .ref (a 0)), (1, .int (iI n))] := hl
    have hP : va_P D vwCl (wM a k (ysN s (-1) n) kp ot (cpN s sd 123) st sp tp bi si nu mo ik (-1) tl ta fr to va iw) H := hP
    have hD : va_D _ (wM a k (ysN s (-1) n) kp ot (cpN s sd 123) st sp tp bi si nu mo ik (-1) tl ta fr to va iw) := hD
    have hJn : ∀ j : Nat, j < n → ¬ (fun n => wrongMany (ysN s (-1) n) ≤ 0) j := hJn
    have hsl : Ok (ysN s (-1) n) := ok_ysN hs (-1) n
    refine r_iload_n C dX4_done_6 rfl (lv_at hl 1 rfl) ?_
    refine r_bipush C dX4_done_7 (by decide) ?_
    refine r_icmp_gt C (tgt := 29) dX4_done_9 (by decide) (by exact ⟨by omega, by omega⟩) ⟨by decide, by decide⟩ (fun h1 => ?_) (fun h1 => ?_)
    · exfalso; omega
    · refine r_aload_n C dX4_done_12 rfl (lv_at hl 0 rfl) ?_
      refine r_cVR0 C m_X4_131 (cM_wrongMany hsl) hP rfl rfl hl.1 dX4_done_13 ?_
      refine r_if_le C (tgt := 29) dX4_done_16 (by decide) (by have := wrongMany_rg ((ysN s (-1) n)); exact ⟨by omega, by omega⟩) (fun h2 => ?_) (fun h2 => ?_)
      · refine r_aload_n C dX4_done_29 rfl (lv_at hl 0 rfl) ?_
        refine r_iload_n C dX4_done_30 rfl (lv_at hl 1 rfl) ?_
        refine r_cVW1 C m_X4_152 (cM_takesBack2 hs.2.1 hsl.2.1) hP hD hS [0, 1, 2, 3, 4, 5, 6, 7, 8, 9, 10, 11] (wM a k s kp ot (cpN s sd 123) st sp tp bi si nu mo ik (-1) tl ta fr to va iw) rfl rfl rfl rfl rfl rfl rfl hl.1 dX4_done_31 (fun H locs hP hD hS => ?_)
        refine r_istore_n C [(2, .int (iI n)), (0, .ref (a 0)), (1, .int (iI n))] dX4_done_34 rfl hl (by decide) rfl (fun ls hl => ?_)
        refine r_iload_n C dX4_done_35 rfl (lv_at hl 0 rfl) ?_
        refine r_bipush C dX4_done_36 (by decide) ?_
        refine r_icmp_le C (tgt := 50) dX4_done_38 (by decide) (by exact ⟨by omega, by omega⟩) ⟨by decide, by decide⟩ (fun h3 => ?_) (fun h3 => ?_)
        · refine r_iload_n C dX4_done_50 rfl (lv_at hl 0 rfl) ?_
          exact r_iretE C hP hS (ot, cpN s sd 123, sp, mo, tl) (by simp only [fDone, fst0_yes (p := fun n => wrongMany (ysN s (-1) n) ≤ 0) h2 hJn (n := 61) (by omega), show n ≤ 60 by omega, h1, h2, h3, not_true_eq_false, not_false_eq_true, and_true, true_and, and_false, false_and, or_true, true_or, or_false, false_or, if_true, if_false, ne_eq, reduceIte, fD, fV]; try rfl) (by simp only [fDone, fst0_yes (p := fun n => wrongMany (ysN s (-1) n) ≤ 0) h2 hJn (n := 61) (by omega), show n ≤ 60 by omega, h1, h2, h3, not_true_eq_false, not_false_eq_true, and_true, true_and, and_false, false_and, or_true, true_or, or_false, false_or, if_true, if_false, ne_eq, reduceIte, fD, fV]; try rfl) dX4_done_51
        · exfalso; omega
      · refine r_aload_n C dX4_done_19 rfl (lv_at hl 0 rfl) ?_
        refine r_cVW0 C m_X4_135 (cM_year hsl (by exact ⟨by omega, by omega⟩)) hP hD hS [0, 1, 2, 3, 4, 5, 6, 7, 8, 9, 10, 11] (wM a k (year (ysN s (-1) n) (-1)) kp ot (cpN s sd 123) st sp tp bi si nu mo ik (-1) tl ta fr to va iw) rfl rfl rfl rfl rfl rfl rfl hl.1 dX4_done_20 (fun H locs hP hD hS => ?_)
        have hs1 : Ok (year (ysN s (-1) n) (-1)) := ok_yearS hsl ((-1))
        refine r_iinc C 1 [(1, .int (iI (n + 1))), (0, .ref (a 0))] dX4_done_23 hl rfl (by decide) rfl (fun ls hl => ?_)
        refine r_goto C (tgt := 6) dX4_done_26 (by decide) ?_
        exact ihn (lt_s hJn h2) ls H locs (lv_eq (lv_sub hl [1, 0] rfl) rfl) (va_eq hP rfl) (va_eqD hD rfl) hS
  · have hl : lv_has ls 3 [(0, .ref (a 0)), (1, .int (iI 61))] := hl
    have hP : va_P D vwCl (wM a k (ysN s (-1) 61) kp ot (cpN s sd 123) st sp tp bi si nu mo ik (-1) tl ta fr to va iw) H := hP
    have hD : va_D _ (wM a k (ysN s (-1) 61) kp ot (cpN s sd 123) st sp tp bi si nu mo ik (-1) tl ta fr to va iw) := hD
    have hJn : ∀ j : Nat, j < 61 → ¬ (fun n => wrongMany (ysN s (-1) n) ≤ 0) j := hJn
    have hsl : Ok (ysN s (-1) 61) := ok_ysN hs (-1) 61
    refine r_iload_n C dX4_done_6 rfl (lv_at hl 1 rfl) ?_
    refine r_bipush C dX4_done_7 (by decide) ?_
    refine r_icmp_gt C (tgt := 29) dX4_done_9 (by decide) ⟨by decide, by decide⟩ ⟨by decide, by decide⟩ (fun h4 => ?_) (fun h4 => ?_)
    · refine r_aload_n C dX4_done_29 rfl (lv_at hl 0 rfl) ?_
      refine r_iload_n C dX4_done_30 rfl (lv_at hl 1 rfl) ?_
      refine r_cVW1 C m_X4_152 (cM_takesBack2 hs.2.1 hsl.2.1) hP hD hS [0, 1, 2, 3, 4, 5, 6, 7, 8, 9, 10, 11] (wM a k s kp ot (cpN s sd 123) st sp tp bi si nu mo ik (-1) tl ta fr to va iw) rfl rfl rfl rfl rfl rfl rfl hl.1 dX4_done_31 (fun H locs hP hD hS => ?_)
      refine r_istore_n C [(2, .int (iI 61)), (0, .ref (a 0)), (1, .int (iI 61))] dX4_done_34 rfl hl (by decide) rfl (fun ls hl => ?_)
      refine r_iload_n C dX4_done_35 rfl (lv_at hl 0 rfl) ?_
      refine r_bipush C dX4_done_36 (by decide) ?_
      refine r_icmp_le C (tgt := 50) dX4_done_38 (by decide) ⟨by decide, by decide⟩ ⟨by decide, by decide⟩ (fun h5 => ?_) (fun h5 => ?_)
      · exfalso; omega
      · refine r_aload_n C dX4_done_41 rfl (lv_at hl 1 rfl) ?_
        refine r_ldc C (-1000000004) ki_X4_158 (by decide) dX4_done_42 ?_
        refine r_cVW1 C m_X4_74 (cM_finds (by omega) (by omega)) hP hD hS [0, 1, 2, 3, 4, 5, 6, 7, 8, 9, 10, 11] (wM a k s kp ot (cpN s sd 123) (fnd st (-1000000004)) sp tp bi si nu mo ik (-1) tl ta fr to va iw) rfl rfl rfl rfl rfl rfl rfl hl.1 dX4_done_44 (fun H locs hP hD hS => ?_)
        refine r_goto C (tgt := 51) dX4_done_47 (by decide) ?_
        exact r_iretE C hP hS (ot, cpN s sd 123, sp, mo, tl) (by simp only [fDone, fst0_no (p := fun n => wrongMany (ysN s (-1) n) ≤ 0) (n := 61) hJn, h4, h5, not_true_eq_false, not_false_eq_true, and_true, true_and, and_false, false_and, or_true, true_or, or_false, false_or, if_true, if_false, ne_eq, reduceIte, fD, fV]; try rfl) (by simp only [fDone, fst0_no (p := fun n => wrongMany (ysN s (-1) n) ≤ 0) (n := 61) hJn, h4, h5, not_true_eq_false, not_false_eq_true, and_true, true_and, and_false, false_and, or_true, true_or, or_false, false_or, if_true, if_false, ne_eq, reduceIte, fD, fV]; try rfl) dX4_done_51
    · exfalso; omega
set_option maxHeartbeats 4000000 in
set_option maxRecDepth 100000 in
theorem cM_when {c : Int} (zc : In32 c) (hs : Ok s) : ME l yX4_when cX4_when 4 (some .int) 5 122 D k [.ref (a 0), .int (iI c)] (wM a k s kp ot sd st sp tp bi si nu mo ik (-1) tl ta fr to va iw) (fun x : (Int → Int) × (Int → Int) × (Int → Int) × (Int → Int64) × Int => wM a k ((fWhen s st c).2.1) kp x.1 x.2.1 ((fWhen s st c).2.2) x.2.2.1 tp bi si nu x.2.2.2.1 ik (-1) x.2.2.2.2 ta fr to va iw) (some (.int (iI ((fWhen s st c).1)))) := by
  refine ME.mk RX4 rfl (by decide +kernel) (Nat.le_of_ble_eq_true rfl) (fun p e U m0 below meth cd ls C hP hD hS hl => ?_)
  have hl : lv_has ls 4 [(0, .ref (a 0)), (1, .int (iI c))] := hl
  have zc1 := zc.1
  have zc2 := zc.2
  have h00 := hs.1 0 (by decide)
  have h06 := hs.2.2.1
  refine r_iload_n C dX4_when_0 rfl (lv_at hl 1 rfl) ?_
  refine r_cSR1 C m_X4_68 (cM_isCell (by exact ⟨by omega, by omega⟩)) pn0 hl.1 dX4_when_1 ?_
  refine r_ifB_ne C (tgt := 14) dX4_when_4 (by decide) (fun h1 => ?_) (fun h1 => ?_)
  · refine r_aload_n C dX4_when_14 rfl (lv_at hl 0 rfl) ?_
    refine r_cVW0 C m_X4_149 cM_laysAside hP hD hS [0, 1, 2, 3, 4, 5, 6, 7, 8, 9, 10, 11] (wM a k s kp ot (cpN s sd 123) st sp tp bi si nu mo ik (-1) tl ta fr to va iw) rfl rfl rfl rfl rfl rfl rfl hl.1 dX4_when_15 (fun H locs hP hD hS => ?_)
    refine r_iconst C dX4_when_18 ?_
    refine r_istore_n C [(2, .int (iI 0)), (0, .ref (a 0)), (1, .int (iI c))] dX4_when_19 rfl hl (by decide) rfl (fun ls hl => ?_)
    refine r_loopWJ (fun n : Nat => [(0, .ref (a 0)), (1, .int (iI c)), (2, .int (iI n))]) (fun n : Nat => wM a k (ysN s (-1) n) kp ot (cpN s sd 123) st sp tp bi si nu mo ik (-1) tl ta fr to va iw) (61) (fun n : Nat => ∀ j : Nat, j < n → ¬ (fun n => ¬ untrue (ysN s (-1) n) c) j) (fun j h => absurd h (Nat.not_lt_zero j)) (lv_eq (lv_sub hl [1, 2, 0] rfl) rfl) (va_eq hP rfl) (va_eqD hD rfl) hS (fun n hn ihn hJn ls H locs hl hP hD hS => ?_) (fun hJn ls H locs hl hP hD hS => ?_)
    · have hl : lv_has ls 4 [(0, .ref (a 0)), (1, .int (iI c)), (2, .int (iI n))] := hl
      have hP : va_P D vwCl (wM a k (ysN s (-1) n) kp ot (cpN s sd 123) st sp tp bi si nu mo ik (-1) tl ta fr to va iw) H := hP
      have hD : va_D _ (wM a k (ysN s (-1) n) kp ot (cpN s sd 123) st sp tp bi si nu mo ik (-1) tl ta fr to va iw) := hD
      have hJn : ∀ j : Nat, j < n → ¬ (fun n => ¬ untrue (ysN s (-1) n) c) j := hJn
      have hsl : Ok (ysN s (-1) n) := ok_ysN hs (-1) n
      refine r_iload_n C dX4_when_20 rfl (lv_at hl 2 rfl) ?_
      refine r_bipush C dX4_when_21 (by decide) ?_
      refine r_icmp_gt C (tgt := 44) dX4_when_23 (by decide) (by exact ⟨by omega, by omega⟩) ⟨by decide, by decide⟩ (fun h2 => ?_) (fun h2 => ?_)
      · exfalso; omega
      · refine r_aload_n C dX4_when_26 rfl (lv_at hl 0 rfl) ?_
        refine r_iload_n C dX4_when_27 rfl (lv_at hl 1 rfl) ?_
        refine r_cVR1 C m_X4_61 (cM_isUntrue (by omega) (by omega) hsl) hP rfl rfl hl.1 dX4_when_28 ?_
        refine r_ifB_eq C (tgt := 44) dX4_when_31 (by decide) (fun h3 => ?_) (fun h3 => ?_)
        · refine r_aload_n C dX4_when_44 rfl (lv_at hl 0 rfl) ?_
          refine r_iload_n C dX4_when_45 rfl (lv_at hl 2 rfl) ?_
          refine r_cVW1 C m_X4_152 (cM_takesBack2 hs.2.1 hsl.2.1) hP hD hS [0, 1, 2, 3, 4, 5, 6, 7, 8, 9, 10, 11] (wM a k s kp ot (cpN s sd 123) st sp tp bi si nu mo ik (-1) tl ta fr to va iw) rfl rfl rfl rfl rfl rfl rfl hl.1 dX4_when_46 (fun H locs hP hD hS => ?_)
          refine r_istore_n C [(3, .int (iI n)), (0, .ref (a 0)), (1, .int (iI c)), (2, .int (iI n))] dX4_when_49 rfl hl (by decide) rfl (fun ls hl => ?_)
          refine r_iload_n C dX4_when_50 rfl (lv_at hl 0 rfl) ?_
          refine r_bipush C dX4_when_51 (by decide) ?_
          refine r_icmp_le C (tgt := 65) dX4_when_53 (by decide) (by exact ⟨by omega, by omega⟩) ⟨by decide, by decide⟩ (fun h4 => ?_) (fun h4 => ?_)
          · refine r_iload_n C dX4_when_65 rfl (lv_at hl 0 rfl) ?_
            exact r_iretE C hP hS (ot, cpN s sd 123, sp, mo, tl) (by simp only [fWhen, fst0_yes (p := fun n => ¬ untrue (ysN s (-1) n) c) h3 hJn (n := 61) (by omega), show n ≤ 60 by omega, h1, h2, h3, h4, not_true_eq_false, not_false_eq_true, and_true, true_and, and_false, false_and, or_true, true_or, or_false, false_or, if_true, if_false, ne_eq, reduceIte, fD, fV]; try rfl) (by simp only [fWhen, fst0_yes (p := fun n => ¬ untrue (ysN s (-1) n) c) h3 hJn (n := 61) (by omega), show n ≤ 60 by omega, h1, h2, h3, h4, not_true_eq_false, not_false_eq_true, and_true, true_and, and_false, false_and, or_true, true_or, or_false, false_or, if_true, if_false, ne_eq, reduceIte, fD, fV]; try rfl) dX4_when_66
          · exfalso; omega
        · refine r_aload_n C dX4_when_34 rfl (lv_at hl 0 rfl) ?_
          refine r_cVW0 C m_X4_135 (cM_year hsl (by exact ⟨by omega, by omega⟩)) hP hD hS [0, 1, 2, 3, 4, 5, 6, 7, 8, 9, 10, 11] (wM a k (year (ysN s (-1) n) (-1)) kp ot (cpN s sd 123) st sp tp bi si nu mo ik (-1) tl ta fr to va iw) rfl rfl rfl rfl rfl rfl rfl hl.1 dX4_when_35 (fun H locs hP hD hS => ?_)
          have hs1 : Ok (year (ysN s (-1) n) (-1)) := ok_yearS hsl ((-1))
          refine r_iinc C 2 [(2, .int (iI (n + 1))), (0, .ref (a 0)), (1, .int (iI c))] dX4_when_38 hl rfl (by decide) rfl (fun ls hl => ?_)
          refine r_goto C (tgt := 20) dX4_when_41 (by decide) ?_
          exact ihn (lt_s hJn (fun q => q h3)) ls H locs (lv_eq (lv_sub hl [1, 2, 0] rfl) rfl) (va_eq hP rfl) (va_eqD hD rfl) hS
    · have hl : lv_has ls 4 [(0, .ref (a 0)), (1, .int (iI c)), (2, .int (iI 61))] := hl
      have hP : va_P D vwCl (wM a k (ysN s (-1) 61) kp ot (cpN s sd 123) st sp tp bi si nu mo ik (-1) tl ta fr to va iw) H := hP
      have hD : va_D _ (wM a k (ysN s (-1) 61) kp ot (cpN s sd 123) st sp tp bi si nu mo ik (-1) tl ta fr to va iw) := hD
      have hJn : ∀ j : Nat, j < 61 → ¬ (fun n => ¬ untrue (ysN s (-1) n) c) j := hJn
      have hsl : Ok (ysN s (-1) 61) := ok_ysN hs (-1) 61
      refine r_iload_n C dX4_when_20 rfl (lv_at hl 2 rfl) ?_
      refine r_bipush C dX4_when_21 (by decide) ?_
      refine r_icmp_gt C (tgt := 44) dX4_when_23 (by decide) ⟨by decide, by decide⟩ ⟨by decide, by decide⟩ (fun h5 => ?_) (fun h5 => ?_)
      · refine r_aload_n C dX4_when_44 rfl (lv_at hl 0 rfl) ?_
        refine r_iload_n C dX4_when_45 rfl (lv_at hl 2 rfl) ?_
        refine r_cVW1 C m_X4_152 (cM_takesBack2 hs.2.1 hsl.2.1) hP hD hS [0, 1, 2, 3, 4, 5, 6, 7, 8, 9, 10, 11] (wM a k s kp ot (cpN s sd 123) st sp tp bi si nu mo ik (-1) tl ta fr to va iw) rfl rfl rfl rfl rfl rfl rfl hl.1 dX4_when_46 (fun H locs hP hD hS => ?_)
        refine r_istore_n C [(3, .int (iI 61)), (0, .ref (a 0)), (1, .int (iI c)), (2, .int (iI 61))] dX4_when_49 rfl hl (by decide) rfl (fun ls hl => ?_)
        refine r_iload_n C dX4_when_50 rfl (lv_at hl 0 rfl) ?_
        refine r_bipush C dX4_when_51 (by decide) ?_
        refine r_icmp_le C (tgt := 65) dX4_when_53 (by decide) ⟨by decide, by decide⟩ ⟨by decide, by decide⟩ (fun h6 => ?_) (fun h6 => ?_)
        · exfalso; omega
        · refine r_aload_n C dX4_when_56 rfl (lv_at hl 1 rfl) ?_
          refine r_ldc C (-1000000004) ki_X4_158 (by decide) dX4_when_57 ?_
          refine r_cVW1 C m_X4_74 (cM_finds (by omega) (by omega)) hP hD hS [0, 1, 2, 3, 4, 5, 6, 7, 8, 9, 10, 11] (wM a k s kp ot (cpN s sd 123) (fnd st (-1000000004)) sp tp bi si nu mo ik (-1) tl ta fr to va iw) rfl rfl rfl rfl rfl rfl rfl hl.1 dX4_when_59 (fun H locs hP hD hS => ?_)
          refine r_goto C (tgt := 66) dX4_when_62 (by decide) ?_
          exact r_iretE C hP hS (ot, cpN s sd 123, sp, mo, tl) (by simp only [fWhen, fst0_no (p := fun n => ¬ untrue (ysN s (-1) n) c) (n := 61) hJn, h1, h5, h6, not_true_eq_false, not_false_eq_true, and_true, true_and, and_false, false_and, or_true, true_or, or_false, false_or, if_true, if_false, ne_eq, reduceIte, fD, fV]; try rfl) (by simp only [fWhen, fst0_no (p := fun n => ¬ untrue (ysN s (-1) n) c) (n := 61) hJn, h1, h5, h6, not_true_eq_false, not_false_eq_true, and_true, true_and, and_false, false_and, or_true, true_or, or_false, false_or, if_true, if_false, ne_eq, reduceIte, fD, fV]; try rfl) dX4_when_66
      · exfalso; omega
  · refine r_aload_n C dX4_when_7 rfl (lv_at hl 0 rfl) ?_
    refine r_ldc C (-1000000001) ki_X4_48 (by decide) dX4_when_8 ?_
    refine r_cVW1 C m_X4_74 (cM_finds (by omega) (by omega)) hP hD hS [0, 1, 2, 3, 4, 5, 6, 7, 8, 9, 10, 11] (wM a k s kp ot sd (fnd st (-1000000001)) sp tp bi si nu mo ik (-1) tl ta fr to va iw) rfl rfl rfl rfl rfl rfl rfl hl.1 dX4_when_10 (fun H locs hP hD hS => ?_)
    exact r_iretE C hP hS (ot, sd, sp, mo, tl) (by simp only [fWhen, h1, not_true_eq_false, not_false_eq_true, and_true, true_and, and_false, false_and, or_true, true_or, or_false, false_or, if_true, if_false, ne_eq, reduceIte, fD, fV]) (by simp only [fWhen, h1, not_true_eq_false, not_false_eq_true, and_true, true_and, and_false, false_and, or_true, true_or, or_false, false_or, if_true, if_false, ne_eq, reduceIte, fD, fV]) dX4_when_13
set_option maxHeartbeats 4000000 in
set_option maxRecDepth 100000 in
theorem cM_cheapest {m : Int} (zm : In32 m) (hs : Ok s) : ME l yX4_cheapest cX4_cheapest 4 (some .int) 3 73 D k [.ref (a 0), .int (iI m)] (wM a k s kp ot sd st sp tp bi si nu mo ik (-1) tl ta fr to va iw) (fun x : (Int → Int) × (Int → Int) × (Int → Int) × (Int → Int64) × Int => wM a k ((fCheap s st m).2.1) kp x.1 x.2.1 ((fCheap s st m).2.2) x.2.2.1 tp bi si nu x.2.2.2.1 ik (-1) x.2.2.2.2 ta fr to va iw) (some (.int (iI ((fCheap s st m).1)))) := by
  refine ME.mk RX4 rfl (by decide +kernel) (Nat.le_of_ble_eq_true rfl) (fun p e U m0 below meth cd ls C hP hD hS hl => ?_)
  have hl : lv_has ls 4 [(0, .ref (a 0)), (1, .int (iI m))] := hl
  have zm1 := zm.1
  have zm2 := zm.2
  have h00 := hs.1 0 (by decide)
  have h06 := hs.2.2.1
  refine r_aload_n C dX4_cheapest_0 rfl (lv_at hl 0 rfl) ?_
  refine r_iload_n C dX4_cheapest_1 rfl (lv_at hl 1 rfl) ?_
  refine r_cVR1 C m_X4_109 (cM_isMender (by exact ⟨by omega, by omega⟩) hs) hP rfl rfl hl.1 dX4_cheapest_2 ?_
  refine r_ifB_ne C (tgt := 15) dX4_cheapest_5 (by decide) (fun h1 => ?_) (fun h1 => ?_)
  · refine r_iconst C dX4_cheapest_15 ?_
    refine r_istore_n C [(2, .int (iI (-1))), (0, .ref (a 0)), (1, .int (iI m))] dX4_cheapest_16 rfl hl (by decide) rfl (fun ls hl => ?_)
    refine r_iconst C dX4_cheapest_17 ?_
    refine r_istore_n C [(3, .int (iI 0)), (2, .int (iI (-1))), (0, .ref (a 0)), (1, .int (iI m))] dX4_cheapest_18 rfl hl (by decide) rfl (fun ls hl => ?_)
    refine r_loopR (fun n : Nat => [(0, .ref (a 0)), (1, .int (iI m)), (2, .int (iI (chN s m n))), (3, .int (iI n))]) (48) (lv_eq (lv_sub hl [2, 3, 1, 0] rfl) rfl) (fun n hn ihn ls hl => ?_) (fun ls hl => ?_)
    · have hl : lv_has ls 4 [(0, .ref (a 0)), (1, .int (iI m)), (2, .int (iI (chN s m n))), (3, .int (iI n))] := hl
      have h9 := chN_rg s m n
      refine r_iload_n C dX4_cheapest_19 rfl (lv_at hl 3 rfl) ?_
      refine r_bipush C dX4_cheapest_20 (by decide) ?_
      refine r_icmp_ge C (tgt := 64) dX4_cheapest_22 (by decide) (by exact ⟨by omega, by omega⟩) ⟨by decide, by decide⟩ (fun h2 => ?_) (fun h2 => ?_)
      · exfalso; omega
      · refine r_aload_n C dX4_cheapest_25 rfl (lv_at hl 0 rfl) ?_
        refine r_iload_n C dX4_cheapest_26 rfl (lv_at hl 3 rfl) ?_
        refine r_cVR1 C m_X4_61 (cM_isUntrue (by omega) (by omega) hs) hP rfl rfl hl.1 dX4_cheapest_27 ?_
        refine r_ifB_eq C (tgt := 56) dX4_cheapest_30 (by decide) (fun h3 => ?_) (fun h3 => ?_)
        · refine r_iload_n C dX4_cheapest_56 rfl (lv_at hl 2 rfl) ?_
          refine r_istore_n C [(2, .int (iI (chN s m n))), (0, .ref (a 0)), (1, .int (iI m)), (3, .int (iI n))] dX4_cheapest_57 rfl hl (by decide) rfl (fun ls hl => ?_)
          refine r_iinc C 3 [(3, .int (iI (n + 1))), (2, .int (iI (chN s m n))), (0, .ref (a 0)), (1, .int (iI m))] dX4_cheapest_58 hl rfl (by decide) rfl (fun ls hl => ?_)
          refine r_goto C (tgt := 19) dX4_cheapest_61 (by decide) ?_
          exact ihn ls (lv_eq (lv_sub hl [2, 3, 1, 0] rfl) (by simp only [chN, h1, h2, h3, not_true_eq_false, not_false_eq_true, and_true, true_and, and_false, false_and, or_true, true_or, or_false, false_or, if_true, if_false, ne_eq, reduceIte]; rfl))
        · refine r_iload_n C dX4_cheapest_33 rfl (lv_at hl 2 rfl) ?_
          refine r_if_lt C (tgt := 52) dX4_cheapest_34 (by decide) (by exact ⟨by omega, by omega⟩) (fun h4 => ?_) (fun h4 => ?_)
          · refine r_iload_n C dX4_cheapest_52 rfl (lv_at hl 3 rfl) ?_
            refine r_goto C (tgt := 57) dX4_cheapest_53 (by decide) ?_
            refine r_istore_n C [(2, .int (iI n)), (0, .ref (a 0)), (1, .int (iI m)), (3, .int (iI n))] dX4_cheapest_57 rfl hl (by decide) rfl (fun ls hl => ?_)
            refine r_iinc C 3 [(3, .int (iI (n + 1))), (2, .int (iI n)), (0, .ref (a 0)), (1, .int (iI m))] dX4_cheapest_58 hl rfl (by decide) rfl (fun ls hl => ?_)
            refine r_goto C (tgt := 19) dX4_cheapest_61 (by decide) ?_
            exact ihn ls (lv_eq (lv_sub hl [2, 3, 1, 0] rfl) (by simp only [chN, h1, h2, h3, h4, not_true_eq_false, not_false_eq_true, and_true, true_and, and_false, false_and, or_true, true_or, or_false, false_or, if_true, if_false, ne_eq, reduceIte]; rfl))
          · refine r_aload_n C dX4_cheapest_37 rfl (lv_at hl 0 rfl) ?_
            refine r_iload_n C dX4_cheapest_38 rfl (lv_at hl 1 rfl) ?_
            refine r_iload_n C dX4_cheapest_39 rfl (lv_at hl 3 rfl) ?_
            refine r_cVR2 C m_X4_103 (cM_costOf (by omega) (by omega) (by omega) (by omega) hs) hP rfl rfl hl.1 dX4_cheapest_40 ?_
            refine r_aload_n C dX4_cheapest_43 rfl (lv_at hl 0 rfl) ?_
            refine r_iload_n C dX4_cheapest_44 rfl (lv_at hl 1 rfl) ?_
            refine r_iload_n C dX4_cheapest_45 rfl (lv_at hl 2 rfl) ?_
            refine r_cVR2 C m_X4_103 (cM_costOf (by omega) (by omega) (by omega) (by omega) hs) hP rfl rfl hl.1 dX4_cheapest_46 ?_
            refine r_icmp_ge C (tgt := 56) dX4_cheapest_49 (by decide) (by have := cost_rg hs (m := m) (c := n) (by omega) (by omega); exact ⟨by omega, by omega⟩) (by have := cost_rg hs (m := m) (c := ((chN s m n))) (by omega) (by omega); exact ⟨by omega, by omega⟩) (fun h5 => ?_) (fun h5 => ?_)
            · refine r_iload_n C dX4_cheapest_56 rfl (lv_at hl 2 rfl) ?_
              refine r_istore_n C [(2, .int (iI (chN s m n))), (0, .ref (a 0)), (1, .int (iI m)), (3, .int (iI n))] dX4_cheapest_57 rfl hl (by decide) rfl (fun ls hl => ?_)
              refine r_iinc C 3 [(3, .int (iI (n + 1))), (2, .int (iI (chN s m n))), (0, .ref (a 0)), (1, .int (iI m))] dX4_cheapest_58 hl rfl (by decide) rfl (fun ls hl => ?_)
              refine r_goto C (tgt := 19) dX4_cheapest_61 (by decide) ?_
              exact ihn ls (lv_eq (lv_sub hl [2, 3, 1, 0] rfl) (by simp only [chN, h1, h2, h3, h4, h5, not_true_eq_false, not_false_eq_true, and_true, true_and, and_false, false_and, or_true, true_or, or_false, false_or, if_true, if_false, ne_eq, reduceIte]; rfl))
            · refine r_iload_n C dX4_cheapest_52 rfl (lv_at hl 3 rfl) ?_
              refine r_goto C (tgt := 57) dX4_cheapest_53 (by decide) ?_
              refine r_istore_n C [(2, .int (iI n)), (0, .ref (a 0)), (1, .int (iI m)), (3, .int (iI n))] dX4_cheapest_57 rfl hl (by decide) rfl (fun ls hl => ?_)
              refine r_iinc C 3 [(3, .int (iI (n + 1))), (2, .int (iI n)), (0, .ref (a 0)), (1, .int (iI m))] dX4_cheapest_58 hl rfl (by decide) rfl (fun ls hl => ?_)
              refine r_goto C (tgt := 19) dX4_cheapest_61 (by decide) ?_
              exact ihn ls (lv_eq (lv_sub hl [2, 3, 1, 0] rfl) (by simp only [chN, h1, h2, h3, h4, h5, not_true_eq_false, not_false_eq_true, and_true, true_and, and_false, false_and, or_true, true_or, or_false, false_or, if_true, if_false, ne_eq, reduceIte]; rfl))
    · have hl : lv_has ls 4 [(0, .ref (a 0)), (1, .int (iI m)), (2, .int (iI (chN s m 48))), (3, .int (iI 48))] := hl
      have h9 := chN_rg s m 48
      refine r_iload_n C dX4_cheapest_19 rfl (lv_at hl 3 rfl) ?_
      refine r_bipush C dX4_cheapest_20 (by decide) ?_
      refine r_icmp_ge C (tgt := 64) dX4_cheapest_22 (by decide) ⟨by decide, by decide⟩ ⟨by decide, by decide⟩ (fun h6 => ?_) (fun h6 => ?_)
      · refine r_iload_n C dX4_cheapest_64 rfl (lv_at hl 2 rfl) ?_
        refine r_if_ge C (tgt := 77) dX4_cheapest_65 (by decide) (by exact ⟨by omega, by omega⟩) (fun h7 => ?_) (fun h7 => ?_)
        · refine r_iload_n C dX4_cheapest_77 rfl (lv_at hl 2 rfl) ?_
          exact r_iretE C hP hS (ot, sd, sp, mo, tl) (by first | (simp only [fCheap, fD, fV, h1, h6, h7, not_true_eq_false, not_false_eq_true, and_true, true_and, and_false, false_and, or_true, true_or, or_false, false_or, if_true, if_false, ne_eq, reduceIte]; done) | (exfalso; omega)) (by first | (simp only [fCheap, fD, fV, h1, h6, h7, not_true_eq_false, not_false_eq_true, and_true, true_and, and_false, false_and, or_true, true_or, or_false, false_or, if_true, if_false, ne_eq, reduceIte]; done) | (exfalso; omega)) dX4_cheapest_78
        · refine r_aload_n C dX4_cheapest_68 rfl (lv_at hl 0 rfl) ?_
          refine r_ldc C (-1000000004) ki_X4_158 (by decide) dX4_cheapest_69 ?_
          refine r_cVW1 C m_X4_74 (cM_finds (by omega) (by omega)) hP hD hS [0, 1, 2, 3, 4, 5, 6, 7, 8, 9, 10, 11] (wM a k s kp ot sd (fnd st (-1000000004)) sp tp bi si nu mo ik (-1) tl ta fr to va iw) rfl rfl rfl rfl rfl rfl rfl hl.1 dX4_cheapest_71 (fun H locs hP hD hS => ?_)
          refine r_goto C (tgt := 78) dX4_cheapest_74 (by decide) ?_
          exact r_iretE C hP hS (ot, sd, sp, mo, tl) (by first | (simp only [fCheap, fD, fV, h1, h6, h7, not_true_eq_false, not_false_eq_true, and_true, true_and, and_false, false_and, or_true, true_or, or_false, false_or, if_true, if_false, ne_eq, reduceIte]; done) | (exfalso; omega)) (by first | (simp only [fCheap, fD, fV, h1, h6, h7, not_true_eq_false, not_false_eq_true, and_true, true_and, and_false, false_and, or_true, true_or, or_false, false_or, if_true, if_false, ne_eq, reduceIte]; done) | (exfalso; omega)) dX4_cheapest_78
      · exfalso; omega
  · refine r_aload_n C dX4_cheapest_8 rfl (lv_at hl 0 rfl) ?_
    refine r_ldc C (-1000000001) ki_X4_48 (by decide) dX4_cheapest_9 ?_
    refine r_cVW1 C m_X4_74 (cM_finds (by omega) (by omega)) hP hD hS [0, 1, 2, 3, 4, 5, 6, 7, 8, 9, 10, 11] (wM a k s kp ot sd (fnd st (-1000000001)) sp tp bi si nu mo ik (-1) tl ta fr to va iw) rfl rfl rfl rfl rfl rfl rfl hl.1 dX4_cheapest_11 (fun H locs hP hD hS => ?_)
    exact r_iretE C hP hS (ot, sd, sp, mo, tl) (by first | (simp only [fCheap, fD, fV, h1, not_true_eq_false, not_false_eq_true, and_true, true_and, and_false, false_and, or_true, true_or, or_false, false_or, if_true, if_false, ne_eq, reduceIte]; done) | (exfalso; omega)) (by first | (simp only [fCheap, fD, fV, h1, not_true_eq_false, not_false_eq_true, and_true, true_and, and_false, false_and, or_true, true_or, or_false, false_or, if_true, if_false, ne_eq, reduceIte]; done) | (exfalso; omega)) dX4_cheapest_14
set_option maxHeartbeats 4000000 in
set_option maxRecDepth 100000 in
theorem cM_best {m : Int} (zm : In32 m) (hs : Ok s) : ME l yX4_best cX4_best 6 (some .int) 3 67 D k [.ref (a 0), .int (iI m)] (wM a k s kp ot sd st sp tp bi si nu mo ik (-1) tl ta fr to va iw) (fun x : (Int → Int) × (Int → Int) × (Int → Int) × (Int → Int64) × Int => wM a k ((fBest s st m).2.1) kp x.1 x.2.1 ((fBest s st m).2.2) x.2.2.1 tp bi si nu x.2.2.2.1 ik (-1) x.2.2.2.2 ta fr to va iw) (some (.int (iI ((fBest s st m).1)))) := by
  refine ME.mk RX4 rfl (by decide +kernel) (Nat.le_of_ble_eq_true rfl) (fun p e U m0 below meth cd ls C hP hD hS hl => ?_)
  have hl : lv_has ls 6 [(0, .ref (a 0)), (1, .int (iI m))] := hl
  have zm1 := zm.1
  have zm2 := zm.2
  have h00 := hs.1 0 (by decide)
  have h06 := hs.2.2.1
  refine r_aload_n C dX4_best_0 rfl (lv_at hl 0 rfl) ?_
  refine r_iload_n C dX4_best_1 rfl (lv_at hl 1 rfl) ?_
  refine r_cVR1 C m_X4_109 (cM_isMender (by exact ⟨by omega, by omega⟩) hs) hP rfl rfl hl.1 dX4_best_2 ?_
  refine r_ifB_ne C (tgt := 15) dX4_best_5 (by decide) (fun h1 => ?_) (fun h1 => ?_)
  · refine r_iconst C dX4_best_15 ?_
    refine r_istore_n C [(2, .int (iI (-1))), (0, .ref (a 0)), (1, .int (iI m))] dX4_best_16 rfl hl (by decide) rfl (fun ls hl => ?_)
    refine r_bipush C dX4_best_17 (by decide) ?_
    refine r_istore_n C [(3, .int (iI 48)), (2, .int (iI (-1))), (0, .ref (a 0)), (1, .int (iI m))] dX4_best_19 rfl hl (by decide) rfl (fun ls hl => ?_)
    refine r_iconst C dX4_best_20 ?_
    refine r_istore C [(4, .int (iI 0)), (3, .int (iI 48)), (2, .int (iI (-1))), (0, .ref (a 0)), (1, .int (iI m))] dX4_best_21 hl (by decide) rfl (fun ls hl => ?_)
    refine r_loopWX (fun n : Nat => [(0, .ref (a 0)), (1, .int (iI m)), (2, .int (iI ((bsN s m n).1))), (3, .int (iI ((bsN s m n).2))), (4, .int (iI n))]) (fun (n : Nat) (xn : (Int → Int)) => wM a k s kp ot xn st sp tp bi si nu mo ik (-1) tl ta fr to va iw) (48) (fun n : Nat => True) trivial (sd) (lv_eq (lv_sub hl [3, 4, 2, 1, 0] rfl) rfl) (va_eq hP rfl) (va_eqD hD rfl) hS (fun n hn ihn _ xn ls H locs hl hP hD hS => ?_) (fun _ xn ls H locs hl hP hD hS => ?_)
    · have hl : lv_has ls 6 [(0, .ref (a 0)), (1, .int (iI m)), (2, .int (iI ((bsN s m n).1))), (3, .int (iI ((bsN s m n).2))), (4, .int (iI n))] := hl
      have hP : va_P D vwCl (wM a k s kp ot xn st sp tp bi si nu mo ik (-1) tl ta fr to va iw) H := hP
      have hD : va_D _ (wM a k s kp ot xn st sp tp bi si nu mo ik (-1) tl ta fr to va iw) := hD
      have h9 := bsN_rg s m n (by omega)
      refine r_iload C dX4_best_23 (lv_at hl 4 rfl) ?_
      refine r_bipush C dX4_best_25 (by decide) ?_
      refine r_icmp_ge C (tgt := 95) dX4_best_27 (by decide) (by exact ⟨by omega, by omega⟩) ⟨by decide, by decide⟩ (fun h2 => ?_) (fun h2 => ?_)
      · exfalso; omega
      · refine r_aload_n C dX4_best_30 rfl (lv_at hl 0 rfl) ?_
        refine r_iload C dX4_best_31 (lv_at hl 4 rfl) ?_
        refine r_cVR1 C m_X4_61 (cM_isUntrue (by omega) (by omega) hs) hP rfl rfl hl.1 dX4_best_33 ?_
        refine r_ifB_ne C (tgt := 42) dX4_best_36 (by decide) (fun h3 => ?_) (fun h3 => ?_)
        · refine r_aload_n C dX4_best_42 rfl (lv_at hl 0 rfl) ?_
          refine r_cVW0 C m_X4_149 cM_laysAside hP hD hS [0, 1, 2, 3, 4, 5, 6, 7, 8, 9, 10, 11] (wM a k s kp ot (cpN s xn 123) st sp tp bi si nu mo ik (-1) tl ta fr to va iw) rfl rfl rfl rfl rfl rfl rfl hl.1 dX4_best_43 (fun H locs hP hD hS => ?_)
          refine r_aload_n C dX4_best_46 rfl (lv_at hl 0 rfl) ?_
          refine r_iload_n C dX4_best_47 rfl (lv_at hl 1 rfl) ?_
          refine r_iload C dX4_best_48 (lv_at hl 4 rfl) ?_
          refine r_cVW2 C m_X4_124 (cM_mends (by omega) (by omega) (by omega) (by omega) hs) hP hD hS [0, 1, 2, 3, 4, 5, 6, 7, 8, 9, 10, 11] (wM a k (mends s m n) kp ot (cpN s xn 123) st sp tp bi si nu mo ik (-1) tl ta fr to va iw) rfl rfl rfl rfl rfl rfl rfl hl.1 dX4_best_50 (fun H locs hP hD hS => ?_)
          have hs1 : Ok (mends s m n) := ok_mends hs (by omega) (by omega) (by omega) (by omega)
          refine r_aload_n C dX4_best_53 rfl (lv_at hl 0 rfl) ?_
          refine r_aload_n C dX4_best_54 rfl (lv_at hl 0 rfl) ?_
          refine r_cVR0 C m_X4_131 (cM_wrongMany hs1) hP rfl rfl hl.1 dX4_best_55 ?_
          refine r_cVW1 C m_X4_152 (cM_takesBack2 hs.2.1 hs1.2.1) hP hD hS [0, 1, 2, 3, 4, 5, 6, 7, 8, 9, 10, 11] (wM a k s kp ot (cpN s xn 123) st sp tp bi si nu mo ik (-1) tl ta fr to va iw) rfl rfl rfl rfl rfl rfl rfl hl.1 dX4_best_58 (fun H locs hP hD hS => ?_)
          refine r_istore C [(5, .int (iI (wrongMany (mends s m n)))), (0, .ref (a 0)), (1, .int (iI m)), (2, .int (iI ((bsN s m n).1))), (3, .int (iI ((bsN s m n).2))), (4, .int (iI n))] dX4_best_61 hl (by decide) rfl (fun ls hl => ?_)
          refine r_iload C dX4_best_63 (lv_at hl 0 rfl) ?_
          refine r_iload_n C dX4_best_65 rfl (lv_at hl 4 rfl) ?_
          refine r_icmp_ge C (tgt := 74) dX4_best_66 (by decide) (by have := wrongMany_rg ((mends s m n)); exact ⟨by omega, by omega⟩) (by exact ⟨by omega, by omega⟩) (fun h4 => ?_) (fun h4 => ?_)
          · refine r_iload_n C dX4_best_74 rfl (lv_at hl 3 rfl) ?_
            refine r_istore_n C [(2, .int (iI ((bsN s m n).1))), (5, .int (iI (wrongMany (mends s m n)))), (0, .ref (a 0)), (1, .int (iI m)), (3, .int (iI ((bsN s m n).2))), (4, .int (iI n))] dX4_best_75 rfl hl (by decide) rfl (fun ls hl => ?_)
            refine r_iload C dX4_best_76 (lv_at hl 1 rfl) ?_
            refine r_iload_n C dX4_best_78 rfl (lv_at hl 4 rfl) ?_
            refine r_icmp_ge C (tgt := 87) dX4_best_79 (by decide) (by have := wrongMany_rg ((mends s m n)); exact ⟨by omega, by omega⟩) (by exact ⟨by omega, by omega⟩) (fun h5 => ?_) (fun h5 => ?_)
            · refine r_iload_n C dX4_best_87 rfl (lv_at hl 4 rfl) ?_
              refine r_istore_n C [(3, .int (iI ((bsN s m n).2))), (2, .int (iI ((bsN s m n).1))), (5, .int (iI (wrongMany (mends s m n)))), (0, .ref (a 0)), (1, .int (iI m)), (4, .int (iI n))] dX4_best_88 rfl hl (by decide) rfl (fun ls hl => ?_)
              refine r_iinc C 5 [(4, .int (iI (n + 1))), (3, .int (iI ((bsN s m n).2))), (2, .int (iI ((bsN s m n).1))), (5, .int (iI (wrongMany (mends s m n)))), (0, .ref (a 0)), (1, .int (iI m))] dX4_best_89 hl rfl (by decide) rfl (fun ls hl => ?_)
              refine r_goto C (tgt := 23) dX4_best_92 (by decide) ?_
              exact ihn trivial (cpN s xn 123) ls H locs (lv_eq (lv_sub hl [4, 5, 2, 1, 0] rfl) (by first | (simp only [bsN, h1, h2, h3, h4, h5, not_true_eq_false, not_false_eq_true, and_true, true_and, and_false, false_and, or_true, true_or, or_false, false_or, if_true, if_false, ne_eq, reduceIte]; rfl) | (exfalso; omega))) (va_eq hP rfl) (va_eqD hD rfl) hS
            · refine r_iload C dX4_best_82 (lv_at hl 1 rfl) ?_
              refine r_goto C (tgt := 88) dX4_best_84 (by decide) ?_
              refine r_istore_n C [(3, .int (iI (wrongMany (mends s m n)))), (2, .int (iI ((bsN s m n).1))), (5, .int (iI (wrongMany (mends s m n)))), (0, .ref (a 0)), (1, .int (iI m)), (4, .int (iI n))] dX4_best_88 rfl hl (by decide) rfl (fun ls hl => ?_)
              refine r_iinc C 5 [(4, .int (iI (n + 1))), (3, .int (iI (wrongMany (mends s m n)))), (2, .int (iI ((bsN s m n).1))), (5, .int (iI (wrongMany (mends s m n)))), (0, .ref (a 0)), (1, .int (iI m))] dX4_best_89 hl rfl (by decide) rfl (fun ls hl => ?_)
              refine r_goto C (tgt := 23) dX4_best_92 (by decide) ?_
              exact ihn trivial (cpN s xn 123) ls H locs (lv_eq (lv_sub hl [4, 5, 2, 1, 0] rfl) (by first | (simp only [bsN, h1, h2, h3, h4, h5, not_true_eq_false, not_false_eq_true, and_true, true_and, and_false, false_and, or_true, true_or, or_false, false_or, if_true, if_false, ne_eq, reduceIte]; rfl) | (exfalso; omega))) (va_eq hP rfl) (va_eqD hD rfl) hS
          · refine r_iload C dX4_best_69 (lv_at hl 5 rfl) ?_
            refine r_goto C (tgt := 75) dX4_best_71 (by decide) ?_
            refine r_istore_n C [(2, .int (iI n)), (5, .int (iI (wrongMany (mends s m n)))), (0, .ref (a 0)), (1, .int (iI m)), (3, .int (iI ((bsN s m n).2))), (4, .int (iI n))] dX4_best_75 rfl hl (by decide) rfl (fun ls hl => ?_)
            refine r_iload C dX4_best_76 (lv_at hl 1 rfl) ?_
            refine r_iload_n C dX4_best_78 rfl (lv_at hl 4 rfl) ?_
            refine r_icmp_ge C (tgt := 87) dX4_best_79 (by decide) (by have := wrongMany_rg ((mends s m n)); exact ⟨by omega, by omega⟩) (by exact ⟨by omega, by omega⟩) (fun h6 => ?_) (fun h6 => ?_)
            · refine r_iload_n C dX4_best_87 rfl (lv_at hl 4 rfl) ?_
              refine r_istore_n C [(3, .int (iI ((bsN s m n).2))), (2, .int (iI n)), (5, .int (iI (wrongMany (mends s m n)))), (0, .ref (a 0)), (1, .int (iI m)), (4, .int (iI n))] dX4_best_88 rfl hl (by decide) rfl (fun ls hl => ?_)
              refine r_iinc C 5 [(4, .int (iI (n + 1))), (3, .int (iI ((bsN s m n).2))), (2, .int (iI n)), (5, .int (iI (wrongMany (mends s m n)))), (0, .ref (a 0)), (1, .int (iI m))] dX4_best_89 hl rfl (by decide) rfl (fun ls hl => ?_)
              refine r_goto C (tgt := 23) dX4_best_92 (by decide) ?_
              exact ihn trivial (cpN s xn 123) ls H locs (lv_eq (lv_sub hl [4, 5, 2, 1, 0] rfl) (by first | (simp only [bsN, h1, h2, h3, h4, h6, not_true_eq_false, not_false_eq_true, and_true, true_and, and_false, false_and, or_true, true_or, or_false, false_or, if_true, if_false, ne_eq, reduceIte]; rfl) | (exfalso; omega))) (va_eq hP rfl) (va_eqD hD rfl) hS
            · refine r_iload C dX4_best_82 (lv_at hl 1 rfl) ?_
              refine r_goto C (tgt := 88) dX4_best_84 (by decide) ?_
              refine r_istore_n C [(3, .int (iI (wrongMany (mends s m n)))), (2, .int (iI n)), (5, .int (iI (wrongMany (mends s m n)))), (0, .ref (a 0)), (1, .int (iI m)), (4, .int (iI n))] dX4_best_88 rfl hl (by decide) rfl (fun ls hl => ?_)
              refine r_iinc C 5 [(4, .int (iI (n + 1))), (3, .int (iI (wrongMany (mends s m n)))), (2, .int (iI n)), (5, .int (iI (wrongMany (mends s m n)))), (0, .ref (a 0)), (1, .int (iI m))] dX4_best_89 hl rfl (by decide) rfl (fun ls hl => ?_)
              refine r_goto C (tgt := 23) dX4_best_92 (by decide) ?_
              exact ihn trivial (cpN s xn 123) ls H locs (lv_eq (lv_sub hl [4, 5, 2, 1, 0] rfl) (by first | (simp only [bsN, h1, h2, h3, h4, h6, not_true_eq_false, not_false_eq_true, and_true, true_and, and_false, false_and, or_true, true_or, or_false, false_or, if_true, if_false, ne_eq, reduceIte]; rfl) | (exfalso; omega))) (va_eq hP rfl) (va_eqD hD rfl) hS
        · refine r_goto C (tgt := 89) dX4_best_39 (by decide) ?_
          refine r_iinc C 4 [(4, .int (iI (n + 1))), (0, .ref (a 0)), (1, .int (iI m)), (2, .int (iI ((bsN s m n).1))), (3, .int (iI ((bsN s m n).2)))] dX4_best_89 hl rfl (by decide) rfl (fun ls hl => ?_)
          refine r_goto C (tgt := 23) dX4_best_92 (by decide) ?_
          exact ihn trivial (xn) ls H locs (lv_eq (lv_sub hl [1, 2, 3, 4, 0] rfl) (by first | (simp only [bsN, h1, h2, h3, not_true_eq_false, not_false_eq_true, and_true, true_and, and_false, false_and, or_true, true_or, or_false, false_or, if_true, if_false, ne_eq, reduceIte]; rfl) | (exfalso; omega))) (va_eq hP rfl) (va_eqD hD rfl) hS
    · have hl : lv_has ls 6 [(0, .ref (a 0)), (1, .int (iI m)), (2, .int (iI ((bsN s m 48).1))), (3, .int (iI ((bsN s m 48).2))), (4, .int (iI 48))] := hl
      have hP : va_P D vwCl (wM a k s kp ot xn st sp tp bi si nu mo ik (-1) tl ta fr to va iw) H := hP
      have hD : va_D _ (wM a k s kp ot xn st sp tp bi si nu mo ik (-1) tl ta fr to va iw) := hD
      have h9 := bsN_rg s m 48 (by omega)
      refine r_iload C dX4_best_23 (lv_at hl 4 rfl) ?_
      refine r_bipush C dX4_best_25 (by decide) ?_
      refine r_icmp_ge C (tgt := 95) dX4_best_27 (by decide) ⟨by decide, by decide⟩ ⟨by decide, by decide⟩ (fun h7 => ?_) (fun h7 => ?_)
      · refine r_iload_n C dX4_best_95 rfl (lv_at hl 2 rfl) ?_
        refine r_if_ge C (tgt := 108) dX4_best_96 (by decide) (by exact ⟨by omega, by omega⟩) (fun h8 => ?_) (fun h8 => ?_)
        · refine r_iload_n C dX4_best_108 rfl (lv_at hl 2 rfl) ?_
          exact r_iretE C hP hS (ot, xn, sp, mo, tl) (by first | (simp only [fBest, fD, fV, h1, h7, h8, not_true_eq_false, not_false_eq_true, and_true, true_and, and_false, false_and, or_true, true_or, or_false, false_or, if_true, if_false, ne_eq, reduceIte]; done) | (exfalso; omega)) (by first | (simp only [fBest, fD, fV, h1, h7, h8, not_true_eq_false, not_false_eq_true, and_true, true_and, and_false, false_and, or_true, true_or, or_false, false_or, if_true, if_false, ne_eq, reduceIte]; done) | (exfalso; omega)) dX4_best_109
        · refine r_aload_n C dX4_best_99 rfl (lv_at hl 0 rfl) ?_
          refine r_ldc C (-1000000004) ki_X4_158 (by decide) dX4_best_100 ?_
          refine r_cVW1 C m_X4_74 (cM_finds (by omega) (by omega)) hP hD hS [0, 1, 2, 3, 4, 5, 6, 7, 8, 9, 10, 11] (wM a k s kp ot xn (fnd st (-1000000004)) sp tp bi si nu mo ik (-1) tl ta fr to va iw) rfl rfl rfl rfl rfl rfl rfl hl.1 dX4_best_102 (fun H locs hP hD hS => ?_)
          refine r_goto C (tgt := 109) dX4_best_105 (by decide) ?_
          exact r_iretE C hP hS (ot, xn, sp, mo, tl) (by first | (simp only [fBest, fD, fV, h1, h7, h8, not_true_eq_false, not_false_eq_true, and_true, true_and, and_false, false_and, or_true, true_or, or_false, false_or, if_true, if_false, ne_eq, reduceIte]; done) | (exfalso; omega)) (by first | (simp only [fBest, fD, fV, h1, h7, h8, not_true_eq_false, not_false_eq_true, and_true, true_and, and_false, false_and, or_true, true_or, or_false, false_or, if_true, if_false, ne_eq, reduceIte]; done) | (exfalso; omega)) dX4_best_109
      · exfalso; omega
  · refine r_aload_n C dX4_best_8 rfl (lv_at hl 0 rfl) ?_
    refine r_ldc C (-1000000001) ki_X4_48 (by decide) dX4_best_9 ?_
    refine r_cVW1 C m_X4_74 (cM_finds (by omega) (by omega)) hP hD hS [0, 1, 2, 3, 4, 5, 6, 7, 8, 9, 10, 11] (wM a k s kp ot sd (fnd st (-1000000001)) sp tp bi si nu mo ik (-1) tl ta fr to va iw) rfl rfl rfl rfl rfl rfl rfl hl.1 dX4_best_11 (fun H locs hP hD hS => ?_)
    exact r_iretE C hP hS (ot, sd, sp, mo, tl) (by first | (simp only [fBest, fD, fV, h1, not_true_eq_false, not_false_eq_true, and_true, true_and, and_false, false_and, or_true, true_or, or_false, false_or, if_true, if_false, ne_eq, reduceIte]; done) | (exfalso; omega)) (by first | (simp only [fBest, fD, fV, h1, not_true_eq_false, not_false_eq_true, and_true, true_and, and_false, false_and, or_true, true_or, or_false, false_or, if_true, if_false, ne_eq, reduceIte]; done) | (exfalso; omega)) dX4_best_14
set_option maxHeartbeats 4000000 in
set_option maxRecDepth 100000 in
theorem cM_findTwo {m : Int} (hm : 0 ≤ m) (hm1 : m < 6) (hs : Ok s) : ME l yX4_findTwo cX4_findTwo 6 (some .int) 3 67 D k [.ref (a 0), .int (iI m)] (wM a k s kp ot sd st sp tp bi si nu mo ik dl tl ta fr to va iw) (fun x : (Int → Int) × (Int → Int) => wM a k s kp x.1 x.2 st sp tp bi si nu mo ik dl ((ft1 s m 48).2) ta fr to va iw) (some (.int (iI ((ft1 s m 48).1)))) := by
  refine ME.mk RX4 rfl (by decide +kernel) (Nat.le_of_ble_eq_true rfl) (fun p e U m0 below meth cd ls C hP hD hS hl => ?_)
  have hl : lv_has ls 6 [(0, .ref (a 0)), (1, .int (iI m))] := hl
  refine r_iconst C dX4_findTwo_0 ?_
  refine r_istore_n C [(2, .int (iI (-1))), (0, .ref (a 0)), (1, .int (iI m))] dX4_findTwo_1 rfl hl (by decide) rfl (fun ls hl => ?_)
  refine r_aload_n C dX4_findTwo_2 rfl (lv_at hl 1 rfl) ?_
  refine r_bipush C dX4_findTwo_3 (by decide) ?_
  refine p_X4_159 C hP hD hS 0 (wM a k s kp ot sd st sp tp bi si nu mo ik dl 49 ta fr to va iw) rfl (Nat.le_of_ble_eq_true rfl) rfl dX4_findTwo_5 (fun H locs hP hD hS => ?_)
  refine r_iconst C dX4_findTwo_8 ?_
  refine r_istore_n C [(3, .int (iI 0)), (2, .int (iI (-1))), (0, .ref (a 0)), (1, .int (iI m))] dX4_findTwo_9 rfl hl (by decide) rfl (fun ls hl => ?_)
  refine r_loopWX (fun n : Nat => [(0, .ref (a 0)), (1, .int (iI m)), (2, .int (iI ((ft1 s m n).1))), (3, .int (iI n))]) (fun (n : Nat) (xn : (Int → Int) × (Int → Int)) => wM a k s kp xn.1 xn.2 st sp tp bi si nu mo ik dl ((ft1 s m n).2) ta fr to va iw) (48) (fun n : Nat => True) trivial (ot, sd) (lv_eq (lv_sub hl [2, 3, 1, 0] rfl) rfl) (va_eq hP rfl) (va_eqD hD rfl) hS (fun n hn ihn _ xn ls H locs hl hP hD hS => ?_) (fun _ xn ls H locs hl hP hD hS => ?_)
  · have hl : lv_has ls 6 [(0, .ref (a 0)), (1, .int (iI m)), (2, .int (iI ((ft1 s m n).1))), (3, .int (iI n))] := hl
    have hP : va_P D vwCl (wM a k s kp xn.1 xn.2 st sp tp bi si nu mo ik dl ((ft1 s m n).2) ta fr to va iw) H := hP
    have hD : va_D _ (wM a k s kp xn.1 xn.2 st sp tp bi si nu mo ik dl ((ft1 s m n).2) ta fr to va iw) := hD
    have h9 := ft1_rg s m n (by omega)
    refine r_iload_n C dX4_findTwo_10 rfl (lv_at hl 3 rfl) ?_
    refine r_bipush C dX4_findTwo_11 (by decide) ?_
    refine r_icmp_ge C (tgt := 139) dX4_findTwo_13 (by decide) (by exact ⟨by omega, by omega⟩) ⟨by decide, by decide⟩ (fun h1 => ?_) (fun h1 => ?_)
    · exfalso; omega
    · refine r_aload_n C dX4_findTwo_16 rfl (lv_at hl 0 rfl) ?_
      refine r_iload_n C dX4_findTwo_17 rfl (lv_at hl 3 rfl) ?_
      refine r_cVR1 C m_X4_61 (cM_isUntrue (by omega) (by omega) hs) hP rfl rfl hl.1 dX4_findTwo_18 ?_
      refine r_ifB_ne C (tgt := 27) dX4_findTwo_21 (by decide) (fun h2 => ?_) (fun h2 => ?_)
      · refine r_aload_n C dX4_findTwo_27 rfl (lv_at hl 0 rfl) ?_
        refine r_cVW0 C m_X4_162 cM_saves hP hD hS [0, 1, 2, 3, 4, 5, 6, 7, 8, 9, 10, 11] (wM a k s kp (cpN s xn.1 123) xn.2 st sp tp bi si nu mo ik dl ((ft1 s m n).2) ta fr to va iw) rfl rfl rfl rfl rfl rfl rfl hl.1 dX4_findTwo_28 (fun H locs hP hD hS => ?_)
        refine r_aload_n C dX4_findTwo_31 rfl (lv_at hl 0 rfl) ?_
        refine r_iload_n C dX4_findTwo_32 rfl (lv_at hl 1 rfl) ?_
        refine r_iload_n C dX4_findTwo_33 rfl (lv_at hl 3 rfl) ?_
        refine r_cVW2 C m_X4_124 (cM_mends (by omega) (by omega) (by omega) (by omega) hs) hP hD hS [0, 1, 2, 3, 4, 5, 6, 7, 8, 9, 10, 11] (wM a k (mends s m n) kp (cpN s xn.1 123) xn.2 st sp tp bi si nu mo ik dl ((ft1 s m n).2) ta fr to va iw) rfl rfl rfl rfl rfl rfl rfl hl.1 dX4_findTwo_34 (fun H locs hP hD hS => ?_)
        have hs1 : Ok (mends s m n) := ok_mends hs (by omega) (by omega) (by omega) (by omega)
        refine r_iconst C dX4_findTwo_37 ?_
        refine r_istore C [(4, .int (iI 0)), (0, .ref (a 0)), (1, .int (iI m)), (2, .int (iI ((ft1 s m n).1))), (3, .int (iI n))] dX4_findTwo_38 hl (by decide) rfl (fun ls hl => ?_)
        refine r_loopWX (fun b : Nat => [(0, .ref (a 0)), (1, .int (iI m)), (2, .int (iI ((ft2 (mends s m n) m n (ft1 s m n) b).1))), (3, .int (iI n)), (4, .int (iI b))]) (fun (b : Nat) (xb : (Int → Int)) => wM a k (mends s m n) kp (cpN s xn.1 123) xb st sp tp bi si nu mo ik dl ((ft2 (mends s m n) m n (ft1 s m n) b).2) ta fr to va iw) (48) (fun b : Nat => True) trivial (xn.2) (lv_eq (lv_sub hl [1, 2, 3, 4, 0] rfl) rfl) (va_eq hP rfl) (va_eqD hD rfl) hS (fun b hb ihb _ xb ls H locs hl hP hD hS => ?_) (fun _ xb ls H locs hl hP hD hS => ?_)
        · have hl : lv_has ls 6 [(0, .ref (a 0)), (1, .int (iI m)), (2, .int (iI ((ft2 (mends s m n) m n (ft1 s m n) b).1))), (3, .int (iI n)), (4, .int (iI b))] := hl
          have hP : va_P D vwCl (wM a k (mends s m n) kp (cpN s xn.1 123) xb st sp tp bi si nu mo ik dl ((ft2 (mends s m n) m n (ft1 s m n) b).2) ta fr to va iw) H := hP
          have hD : va_D _ (wM a k (mends s m n) kp (cpN s xn.1 123) xb st sp tp bi si nu mo ik dl ((ft2 (mends s m n) m n (ft1 s m n) b).2) ta fr to va iw) := hD
          have h8 := ft2_rg (mends s m n) m n (ft1 s m n) h9.1 h9.2 ⟨by omega, by omega⟩ b (by omega)
          refine r_iload C dX4_findTwo_40 (lv_at hl 4 rfl) ?_
          refine r_bipush C dX4_findTwo_42 (by decide) ?_
          refine r_icmp_ge C (tgt := 129) dX4_findTwo_44 (by decide) (by exact ⟨by omega, by omega⟩) ⟨by decide, by decide⟩ (fun h3 => ?_) (fun h3 => ?_)
          · exfalso; omega
          · refine r_aload_n C dX4_findTwo_47 rfl (lv_at hl 0 rfl) ?_
            refine r_iload C dX4_findTwo_48 (lv_at hl 4 rfl) ?_
            refine r_cVR1 C m_X4_61 (cM_isUntrue (by omega) (by omega) hs1) hP rfl rfl hl.1 dX4_findTwo_50 ?_
            refine r_ifB_ne C (tgt := 59) dX4_findTwo_53 (by decide) (fun h4 => ?_) (fun h4 => ?_)
            · refine r_aload_n C dX4_findTwo_59 rfl (lv_at hl 0 rfl) ?_
              refine r_cVW0 C m_X4_149 cM_laysAside hP hD hS [0, 1, 2, 3, 4, 5, 6, 7, 8, 9, 10, 11] (wM a k (mends s m n) kp (cpN s xn.1 123) (cpN (mends s m n) xb 123) st sp tp bi si nu mo ik dl ((ft2 (mends s m n) m n (ft1 s m n) b).2) ta fr to va iw) rfl rfl rfl rfl rfl rfl rfl hl.1 dX4_findTwo_60 (fun H locs hP hD hS => ?_)
              refine r_aload_n C dX4_findTwo_63 rfl (lv_at hl 0 rfl) ?_
              refine r_iload_n C dX4_findTwo_64 rfl (lv_at hl 1 rfl) ?_
              refine r_iload C dX4_findTwo_65 (lv_at hl 4 rfl) ?_
              refine r_cVW2 C m_X4_124 (cM_mends (by omega) (by omega) (by omega) (by omega) hs1) hP hD hS [0, 1, 2, 3, 4, 5, 6, 7, 8, 9, 10, 11] (wM a k (mends (mends s m n) m b) kp (cpN s xn.1 123) (cpN (mends s m n) xb 123) st sp tp bi si nu mo ik dl ((ft2 (mends s m n) m n (ft1 s m n) b).2) ta fr to va iw) rfl rfl rfl rfl rfl rfl rfl hl.1 dX4_findTwo_67 (fun H locs hP hD hS => ?_)
              have hs2 : Ok (mends (mends s m n) m b) := ok_mends hs1 (by omega) (by omega) (by omega) (by omega)
              refine r_aload_n C dX4_findTwo_70 rfl (lv_at hl 0 rfl) ?_
              refine r_aload_n C dX4_findTwo_71 rfl (lv_at hl 0 rfl) ?_
              refine r_cVR0 C m_X4_131 (cM_wrongMany hs2) hP rfl rfl hl.1 dX4_findTwo_72 ?_
              refine r_cVW1 C m_X4_152 (cM_takesBack2 hs1.2.1 hs2.2.1) hP hD hS [0, 1, 2, 3, 4, 5, 6, 7, 8, 9, 10, 11] (wM a k (mends s m n) kp (cpN s xn.1 123) (cpN (mends s m n) xb 123) st sp tp bi si nu mo ik dl ((ft2 (mends s m n) m n (ft1 s m n) b).2) ta fr to va iw) rfl rfl rfl rfl rfl rfl rfl hl.1 dX4_findTwo_75 (fun H locs hP hD hS => ?_)
              refine r_istore C [(5, .int (iI (wrongMany (mends (mends s m n) m b)))), (0, .ref (a 0)), (1, .int (iI m)), (2, .int (iI ((ft2 (mends s m n) m n (ft1 s m n) b).1))), (3, .int (iI n)), (4, .int (iI b))] dX4_findTwo_78 hl (by decide) rfl (fun ls hl => ?_)
              refine r_iload C dX4_findTwo_80 (lv_at hl 0 rfl) ?_
              refine r_aload_n C dX4_findTwo_82 rfl (lv_at hl 1 rfl) ?_
              refine g_X4_159 C hP 0 rfl rfl dX4_findTwo_83 ?_
              refine r_icmp_ge C (tgt := 99) dX4_findTwo_86 (by decide) (by have := wrongMany_rg ((mends (mends s m n) m b)); exact ⟨by omega, by omega⟩) (by exact ⟨by omega, by omega⟩) (fun h5 => ?_) (fun h5 => ?_)
              · refine r_iload_n C dX4_findTwo_99 rfl (lv_at hl 3 rfl) ?_
                refine r_istore_n C [(2, .int (iI ((ft2 (mends s m n) m n (ft1 s m n) b).1))), (5, .int (iI (wrongMany (mends (mends s m n) m b)))), (0, .ref (a 0)), (1, .int (iI m)), (3, .int (iI n)), (4, .int (iI b))] dX4_findTwo_100 rfl hl (by decide) rfl (fun ls hl => ?_)
                refine r_aload_n C dX4_findTwo_101 rfl (lv_at hl 2 rfl) ?_
                refine r_iload C dX4_findTwo_102 (lv_at hl 1 rfl) ?_
                refine r_aload_n C dX4_findTwo_104 rfl (lv_at hl 2 rfl) ?_
                refine g_X4_159 C hP 0 rfl rfl dX4_findTwo_105 ?_
                refine r_icmp_ge C (tgt := 116) dX4_findTwo_108 (by decide) (by have := wrongMany_rg ((mends (mends s m n) m b)); exact ⟨by omega, by omega⟩) (by exact ⟨by omega, by omega⟩) (fun h6 => ?_) (fun h6 => ?_)
                · refine r_aload_n C dX4_findTwo_116 rfl (lv_at hl 2 rfl) ?_
                  refine g_X4_159 C hP 0 rfl rfl dX4_findTwo_117 ?_
                  refine p_X4_159 C hP hD hS 0 (wM a k (mends s m n) kp (cpN s xn.1 123) (cpN (mends s m n) xb 123) st sp tp bi si nu mo ik dl ((ft2 (mends s m n) m n (ft1 s m n) b).2) ta fr to va iw) rfl (Nat.le_of_ble_eq_true rfl) rfl dX4_findTwo_120 (fun H locs hP hD hS => ?_)
                  refine r_iinc C 5 [(4, .int (iI (b + 1))), (2, .int (iI ((ft2 (mends s m n) m n (ft1 s m n) b).1))), (5, .int (iI (wrongMany (mends (mends s m n) m b)))), (0, .ref (a 0)), (1, .int (iI m)), (3, .int (iI n))] dX4_findTwo_123 hl rfl (by decide) rfl (fun ls hl => ?_)
                  refine r_goto C (tgt := 40) dX4_findTwo_126 (by decide) ?_
                  have ew3 : wM a k (mends s m n) kp (cpN s xn.1 123) (cpN (mends s m n) xb 123) st sp tp bi si nu mo ik dl ((ft2 (mends s m n) m n (ft1 s m n) b).2) ta fr to va iw = wM a k (mends s m n) kp (cpN s xn.1 123) (cpN (mends s m n) xb 123) st sp tp bi si nu mo ik dl ((ft2 (mends s m n) m n (ft1 s m n) (b + 1)).2) ta fr to va iw := (by first | (simp only [ft2, h1, h2, h3, h4, h5, h6, not_true_eq_false, not_false_eq_true, and_true, true_and, and_false, false_and, or_true, true_or, or_false, false_or, if_true, if_false, ne_eq, reduceIte]; done) | (simp only [ft2, h1, h2, h3, h4, h5, h6, not_true_eq_false, not_false_eq_true, and_true, true_and, and_false, false_and, or_true, true_or, or_false, false_or, if_true, if_false, ne_eq, reduceIte]; rfl) | (exfalso; omega))
                  exact ihb trivial (cpN (mends s m n) xb 123) ls H locs (lv_eq (lv_sub hl [3, 4, 1, 5, 0] rfl) (by first | (simp only [ft2, h1, h2, h3, h4, h5, h6, not_true_eq_false, not_false_eq_true, and_true, true_and, and_false, false_and, or_true, true_or, or_false, false_or, if_true, if_false, ne_eq, reduceIte]; done) | (simp only [ft2, h1, h2, h3, h4, h5, h6, not_true_eq_false, not_false_eq_true, and_true, true_and, and_false, false_and, or_true, true_or, or_false, false_or, if_true, if_false, ne_eq, reduceIte]; rfl) | (exfalso; omega))) (va_eq hP ew3) (va_eqD hD ew3) hS
                · refine r_iload C dX4_findTwo_111 (lv_at hl 1 rfl) ?_
                  refine r_goto C (tgt := 120) dX4_findTwo_113 (by decide) ?_
                  refine p_X4_159 C hP hD hS 0 (wM a k (mends s m n) kp (cpN s xn.1 123) (cpN (mends s m n) xb 123) st sp tp bi si nu mo ik dl (wrongMany (mends (mends s m n) m b)) ta fr to va iw) rfl (Nat.le_of_ble_eq_true rfl) rfl dX4_findTwo_120 (fun H locs hP hD hS => ?_)
                  refine r_iinc C 5 [(4, .int (iI (b + 1))), (2, .int (iI ((ft2 (mends s m n) m n (ft1 s m n) b).1))), (5, .int (iI (wrongMany (mends (mends s m n) m b)))), (0, .ref (a 0)), (1, .int (iI m)), (3, .int (iI n))] dX4_findTwo_123 hl rfl (by decide) rfl (fun ls hl => ?_)
                  refine r_goto C (tgt := 40) dX4_findTwo_126 (by decide) ?_
                  have ew4 : wM a k (mends s m n) kp (cpN s xn.1 123) (cpN (mends s m n) xb 123) st sp tp bi si nu mo ik dl (wrongMany (mends (mends s m n) m b)) ta fr to va iw = wM a k (mends s m n) kp (cpN s xn.1 123) (cpN (mends s m n) xb 123) st sp tp bi si nu mo ik dl ((ft2 (mends s m n) m n (ft1 s m n) (b + 1)).2) ta fr to va iw := (by first | (simp only [ft2, h1, h2, h3, h4, h5, h6, not_true_eq_false, not_false_eq_true, and_true, true_and, and_false, false_and, or_true, true_or, or_false, false_or, if_true, if_false, ne_eq, reduceIte]; done) | (simp only [ft2, h1, h2, h3, h4, h5, h6, not_true_eq_false, not_false_eq_true, and_true, true_and, and_false, false_and, or_true, true_or, or_false, false_or, if_true, if_false, ne_eq, reduceIte]; rfl) | (exfalso; omega))
                  exact ihb trivial (cpN (mends s m n) xb 123) ls H locs (lv_eq (lv_sub hl [3, 4, 1, 5, 0] rfl) (by first | (simp only [ft2, h1, h2, h3, h4, h5, h6, not_true_eq_false, not_false_eq_true, and_true, true_and, and_false, false_and, or_true, true_or, or_false, false_or, if_true, if_false, ne_eq, reduceIte]; done) | (simp only [ft2, h1, h2, h3, h4, h5, h6, not_true_eq_false, not_false_eq_true, and_true, true_and, and_false, false_and, or_true, true_or, or_false, false_or, if_true, if_false, ne_eq, reduceIte]; rfl) | (exfalso; omega))) (va_eq hP ew4) (va_eqD hD ew4) hS
              · refine r_bipush C dX4_findTwo_89 (by decide) ?_
                refine r_iload_n C dX4_findTwo_91 rfl (lv_at hl 4 rfl) ?_
                refine r_imul C dX4_findTwo_92 ?_
                refine r_iload C dX4_findTwo_93 (lv_at hl 5 rfl) ?_
                refine r_iadd C dX4_findTwo_95 ?_
                refine r_goto C (tgt := 100) dX4_findTwo_96 (by decide) ?_
                refine r_istore_n C [(2, .int (iI ((100 * n) + b))), (5, .int (iI (wrongMany (mends (mends s m n) m b)))), (0, .ref (a 0)), (1, .int (iI m)), (3, .int (iI n)), (4, .int (iI b))] dX4_findTwo_100 rfl hl (by decide) rfl (fun ls hl => ?_)
                refine r_aload_n C dX4_findTwo_101 rfl (lv_at hl 2 rfl) ?_
                refine r_iload C dX4_findTwo_102 (lv_at hl 1 rfl) ?_
                refine r_aload_n C dX4_findTwo_104 rfl (lv_at hl 2 rfl) ?_
                refine g_X4_159 C hP 0 rfl rfl dX4_findTwo_105 ?_
                refine r_icmp_ge C (tgt := 116) dX4_findTwo_108 (by decide) (by have := wrongMany_rg ((mends (mends s m n) m b)); exact ⟨by omega, by omega⟩) (by exact ⟨by omega, by omega⟩) (fun h7 => ?_) (fun h7 => ?_)
                · refine r_aload_n C dX4_findTwo_116 rfl (lv_at hl 2 rfl) ?_
                  refine g_X4_159 C hP 0 rfl rfl dX4_findTwo_117 ?_
                  refine p_X4_159 C hP hD hS 0 (wM a k (mends s m n) kp (cpN s xn.1 123) (cpN (mends s m n) xb 123) st sp tp bi si nu mo ik dl ((ft2 (mends s m n) m n (ft1 s m n) b).2) ta fr to va iw) rfl (Nat.le_of_ble_eq_true rfl) rfl dX4_findTwo_120 (fun H locs hP hD hS => ?_)
                  refine r_iinc C 5 [(4, .int (iI (b + 1))), (2, .int (iI ((100 * n) + b))), (5, .int (iI (wrongMany (mends (mends s m n) m b)))), (0, .ref (a 0)), (1, .int (iI m)), (3, .int (iI n))] dX4_findTwo_123 hl rfl (by decide) rfl (fun ls hl => ?_)
                  refine r_goto C (tgt := 40) dX4_findTwo_126 (by decide) ?_
                  have ew5 : wM a k (mends s m n) kp (cpN s xn.1 123) (cpN (mends s m n) xb 123) st sp tp bi si nu mo ik dl ((ft2 (mends s m n) m n (ft1 s m n) b).2) ta fr to va iw = wM a k (mends s m n) kp (cpN s xn.1 123) (cpN (mends s m n) xb 123) st sp tp bi si nu mo ik dl ((ft2 (mends s m n) m n (ft1 s m n) (b + 1)).2) ta fr to va iw := (by first | (simp only [ft2, h1, h2, h3, h4, h5, h7, not_true_eq_false, not_false_eq_true, and_true, true_and, and_false, false_and, or_true, true_or, or_false, false_or, if_true, if_false, ne_eq, reduceIte]; done) | (simp only [ft2, h1, h2, h3, h4, h5, h7, not_true_eq_false, not_false_eq_true, and_true, true_and, and_false, false_and, or_true, true_or, or_false, false_or, if_true, if_false, ne_eq, reduceIte]; rfl) | (exfalso; omega))
                  exact ihb trivial (cpN (mends s m n) xb 123) ls H locs (lv_eq (lv_sub hl [3, 4, 1, 5, 0] rfl) (by first | (simp only [ft2, h1, h2, h3, h4, h5, h7, not_true_eq_false, not_false_eq_true, and_true, true_and, and_false, false_and, or_true, true_or, or_false, false_or, if_true, if_false, ne_eq, reduceIte]; done) | (simp only [ft2, h1, h2, h3, h4, h5, h7, not_true_eq_false, not_false_eq_true, and_true, true_and, and_false, false_and, or_true, true_or, or_false, false_or, if_true, if_false, ne_eq, reduceIte]; rfl) | (exfalso; omega))) (va_eq hP ew5) (va_eqD hD ew5) hS
                · refine r_iload C dX4_findTwo_111 (lv_at hl 1 rfl) ?_
                  refine r_goto C (tgt := 120) dX4_findTwo_113 (by decide) ?_
                  refine p_X4_159 C hP hD hS 0 (wM a k (mends s m n) kp (cpN s xn.1 123) (cpN (mends s m n) xb 123) st sp tp bi si nu mo ik dl (wrongMany (mends (mends s m n) m b)) ta fr to va iw) rfl (Nat.le_of_ble_eq_true rfl) rfl dX4_findTwo_120 (fun H locs hP hD hS => ?_)
                  refine r_iinc C 5 [(4, .int (iI (b + 1))), (2, .int (iI ((100 * n) + b))), (5, .int (iI (wrongMany (mends (mends s m n) m b)))), (0, .ref (a 0)), (1, .int (iI m)), (3, .int (iI n))] dX4_findTwo_123 hl rfl (by decide) rfl (fun ls hl => ?_)
                  refine r_goto C (tgt := 40) dX4_findTwo_126 (by decide) ?_
                  have ew6 : wM a k (mends s m n) kp (cpN s xn.1 123) (cpN (mends s m n) xb 123) st sp tp bi si nu mo ik dl (wrongMany (mends (mends s m n) m b)) ta fr to va iw = wM a k (mends s m n) kp (cpN s xn.1 123) (cpN (mends s m n) xb 123) st sp tp bi si nu mo ik dl ((ft2 (mends s m n) m n (ft1 s m n) (b + 1)).2) ta fr to va iw := (by first | (simp only [ft2, h1, h2, h3, h4, h5, h7, not_true_eq_false, not_false_eq_true, and_true, true_and, and_false, false_and, or_true, true_or, or_false, false_or, if_true, if_false, ne_eq, reduceIte]; done) | (simp only [ft2, h1, h2, h3, h4, h5, h7, not_true_eq_false, not_false_eq_true, and_true, true_and, and_false, false_and, or_true, true_or, or_false, false_or, if_true, if_false, ne_eq, reduceIte]; rfl) | (exfalso; omega))
                  exact ihb trivial (cpN (mends s m n) xb 123) ls H locs (lv_eq (lv_sub hl [3, 4, 1, 5, 0] rfl) (by first | (simp only [ft2, h1, h2, h3, h4, h5, h7, not_true_eq_false, not_false_eq_true, and_true, true_and, and_false, false_and, or_true, true_or, or_false, false_or, if_true, if_false, ne_eq, reduceIte]; done) | (simp only [ft2, h1, h2, h3, h4, h5, h7, not_true_eq_false, not_false_eq_true, and_true, true_and, and_false, false_and, or_true, true_or, or_false, false_or, if_true, if_false, ne_eq, reduceIte]; rfl) | (exfalso; omega))) (va_eq hP ew6) (va_eqD hD ew6) hS
            · refine r_goto C (tgt := 123) dX4_findTwo_56 (by decide) ?_
              refine r_iinc C 4 [(4, .int (iI (b + 1))), (0, .ref (a 0)), (1, .int (iI m)), (2, .int (iI ((ft2 (mends s m n) m n (ft1 s m n) b).1))), (3, .int (iI n))] dX4_findTwo_123 hl rfl (by decide) rfl (fun ls hl => ?_)
              refine r_goto C (tgt := 40) dX4_findTwo_126 (by decide) ?_
              have ew7 : wM a k (mends s m n) kp (cpN s xn.1 123) xb st sp tp bi si nu mo ik dl ((ft2 (mends s m n) m n (ft1 s m n) b).2) ta fr to va iw = wM a k (mends s m n) kp (cpN s xn.1 123) xb st sp tp bi si nu mo ik dl ((ft2 (mends s m n) m n (ft1 s m n) (b + 1)).2) ta fr to va iw := (by first | (simp only [ft2, h1, h2, h3, h4, not_true_eq_false, not_false_eq_true, and_true, true_and, and_false, false_and, or_true, true_or, or_false, false_or, if_true, if_false, ne_eq, reduceIte]; done) | (simp only [ft2, h1, h2, h3, h4, not_true_eq_false, not_false_eq_true, and_true, true_and, and_false, false_and, or_true, true_or, or_false, false_or, if_true, if_false, ne_eq, reduceIte]; rfl) | (exfalso; omega))
              exact ihb trivial (xb) ls H locs (lv_eq (lv_sub hl [1, 2, 3, 4, 0] rfl) (by first | (simp only [ft2, h1, h2, h3, h4, not_true_eq_false, not_false_eq_true, and_true, true_and, and_false, false_and, or_true, true_or, or_false, false_or, if_true, if_false, ne_eq, reduceIte]; done) | (simp only [ft2, h1, h2, h3, h4, not_true_eq_false, not_false_eq_true, and_true, true_and, and_false, false_and, or_true, true_or, or_false, false_or, if_true, if_false, ne_eq, reduceIte]; rfl) | (exfalso; omega))) (va_eq hP ew7) (va_eqD hD ew7) hS
        · have hl : lv_has ls 6 [(0, .ref (a 0)), (1, .int (iI m)), (2, .int (iI ((ft2 (mends s m n) m n (ft1 s m n) 48).1))), (3, .int (iI n)), (4, .int (iI 48))] := hl
          have hP : va_P D vwCl (wM a k (mends s m n) kp (cpN s xn.1 123) xb st sp tp bi si nu mo ik dl ((ft2 (mends s m n) m n (ft1 s m n) 48).2) ta fr to va iw) H := hP
          have hD : va_D _ (wM a k (mends s m n) kp (cpN s xn.1 123) xb st sp tp bi si nu mo ik dl ((ft2 (mends s m n) m n (ft1 s m n) 48).2) ta fr to va iw) := hD
          have h8 := ft2_rg (mends s m n) m n (ft1 s m n) h9.1 h9.2 ⟨by omega, by omega⟩ 48 (by omega)
          refine r_iload C dX4_findTwo_40 (lv_at hl 4 rfl) ?_
          refine r_bipush C dX4_findTwo_42 (by decide) ?_
          refine r_icmp_ge C (tgt := 129) dX4_findTwo_44 (by decide) ⟨by decide, by decide⟩ ⟨by decide, by decide⟩ (fun h8 => ?_) (fun h8 => ?_)
          · refine r_aload_n C dX4_findTwo_129 rfl (lv_at hl 0 rfl) ?_
            refine r_cVW0 C m_X4_165 (cM_putsBack2 hs.2.1 hs1.2.1) hP hD hS [0, 1, 2, 3, 4, 5, 6, 7, 8, 9, 10, 11] (wM a k s kp (cpN s xn.1 123) xb st sp tp bi si nu mo ik dl ((ft2 (mends s m n) m n (ft1 s m n) 48).2) ta fr to va iw) rfl rfl rfl rfl rfl rfl rfl hl.1 dX4_findTwo_130 (fun H locs hP hD hS => ?_)
            refine r_iinc C 3 [(3, .int (iI (n + 1))), (0, .ref (a 0)), (1, .int (iI m)), (2, .int (iI ((ft2 (mends s m n) m n (ft1 s m n) 48).1))), (4, .int (iI 48))] dX4_findTwo_133 hl rfl (by decide) rfl (fun ls hl => ?_)
            refine r_goto C (tgt := 10) dX4_findTwo_136 (by decide) ?_
            have ew8 : wM a k s kp (cpN s xn.1 123) xb st sp tp bi si nu mo ik dl ((ft2 (mends s m n) m n (ft1 s m n) 48).2) ta fr to va iw = wM a k s kp (cpN s xn.1 123) xb st sp tp bi si nu mo ik dl ((ft1 s m (n + 1)).2) ta fr to va iw := (by first | (simp only [ft1, h1, h2, h8, not_true_eq_false, not_false_eq_true, and_true, true_and, and_false, false_and, or_true, true_or, or_false, false_or, if_true, if_false, ne_eq, reduceIte]; done) | (simp only [ft1, h1, h2, h8, not_true_eq_false, not_false_eq_true, and_true, true_and, and_false, false_and, or_true, true_or, or_false, false_or, if_true, if_false, ne_eq, reduceIte]; rfl) | (exfalso; omega))
            exact ihn trivial (cpN s xn.1 123, xb) ls H locs (lv_eq (lv_sub hl [1, 2, 3, 0] rfl) (by first | (simp only [ft1, h1, h2, h8, not_true_eq_false, not_false_eq_true, and_true, true_and, and_false, false_and, or_true, true_or, or_false, false_or, if_true, if_false, ne_eq, reduceIte]; done) | (simp only [ft1, h1, h2, h8, not_true_eq_false, not_false_eq_true, and_true, true_and, and_false, false_and, or_true, true_or, or_false, false_or, if_true, if_false, ne_eq, reduceIte]; rfl) | (exfalso; omega))) (va_eq hP ew8) (va_eqD hD ew8) hS
          · exfalso; omega
      · refine r_goto C (tgt := 133) dX4_findTwo_24 (by decide) ?_
        refine r_iinc C 3 [(3, .int (iI (n + 1))), (0, .ref (a 0)), (1, .int (iI m)), (2, .int (iI ((ft1 s m n).1)))] dX4_findTwo_133 hl rfl (by decide) rfl (fun ls hl => ?_)
        refine r_goto C (tgt := 10) dX4_findTwo_136 (by decide) ?_
        have ew9 : wM a k s kp xn.1 xn.2 st sp tp bi si nu mo ik dl ((ft1 s m n).2) ta fr to va iw = wM a k s kp xn.1 xn.2 st sp tp bi si nu mo ik dl ((ft1 s m (n + 1)).2) ta fr to va iw := (by first | (simp only [ft1, h1, h2, not_true_eq_false, not_false_eq_true, and_true, true_and, and_false, false_and, or_true, true_or, or_false, false_or, if_true, if_false, ne_eq, reduceIte]; done) | (simp only [ft1, h1, h2, not_true_eq_false, not_false_eq_true, and_true, true_and, and_false, false_and, or_true, true_or, or_false, false_or, if_true, if_false, ne_eq, reduceIte]; rfl) | (exfalso; omega))
        exact ihn trivial (xn.1, xn.2) ls H locs (lv_eq (lv_sub hl [1, 2, 3, 0] rfl) (by first | (simp only [ft1, h1, h2, not_true_eq_false, not_false_eq_true, and_true, true_and, and_false, false_and, or_true, true_or, or_false, false_or, if_true, if_false, ne_eq, reduceIte]; done) | (simp only [ft1, h1, h2, not_true_eq_false, not_false_eq_true, and_true, true_and, and_false, false_and, or_true, true_or, or_false, false_or, if_true, if_false, ne_eq, reduceIte]; rfl) | (exfalso; omega))) (va_eq hP ew9) (va_eqD hD ew9) hS
  · have hl : lv_has ls 6 [(0, .ref (a 0)), (1, .int (iI m)), (2, .int (iI ((ft1 s m 48).1))), (3, .int (iI 48))] := hl
    have hP : va_P D vwCl (wM a k s kp xn.1 xn.2 st sp tp bi si nu mo ik dl ((ft1 s m 48).2) ta fr to va iw) H := hP
    have hD : va_D _ (wM a k s kp xn.1 xn.2 st sp tp bi si nu mo ik dl ((ft1 s m 48).2) ta fr to va iw) := hD
    have h9 := ft1_rg s m 48 (by omega)
    refine r_iload_n C dX4_findTwo_10 rfl (lv_at hl 3 rfl) ?_
    refine r_bipush C dX4_findTwo_11 (by decide) ?_
    refine r_icmp_ge C (tgt := 139) dX4_findTwo_13 (by decide) ⟨by decide, by decide⟩ ⟨by decide, by decide⟩ (fun h9 => ?_) (fun h9 => ?_)
    · refine r_iload_n C dX4_findTwo_139 rfl (lv_at hl 2 rfl) ?_
      exact r_iretE C hP hS (xn.1, xn.2) rfl rfl dX4_findTwo_140
    · exfalso; omega
set_option maxHeartbeats 4000000 in
set_option maxRecDepth 100000 in
theorem cM_two {m : Int} (zm : In32 m) (hs : Ok s) : ME l yX4_two cX4_two 3 (some .int) 4 92 D k [.ref (a 0), .int (iI m)] (wM a k s kp ot sd st sp tp bi si nu mo ik (-1) tl ta fr to va iw) (fun x : (Int → Int) × (Int → Int) × (Int → Int) × (Int → Int64) × Int => wM a k ((fTwo s st m).2.1) kp x.1 x.2.1 ((fTwo s st m).2.2) x.2.2.1 tp bi si nu x.2.2.2.1 ik (-1) x.2.2.2.2 ta fr to va iw) (some (.int (iI ((fTwo s st m).1)))) := by
  refine ME.mk RX4 rfl (by decide +kernel) (Nat.le_of_ble_eq_true rfl) (fun p e U m0 below meth cd ls C hP hD hS hl => ?_)
  have hl : lv_has ls 3 [(0, .ref (a 0)), (1, .int (iI m))] := hl
  have zm1 := zm.1
  have zm2 := zm.2
  have h00 := hs.1 0 (by decide)
  have h06 := hs.2.2.1
  refine r_aload_n C dX4_two_0 rfl (lv_at hl 0 rfl) ?_
  refine r_iload_n C dX4_two_1 rfl (lv_at hl 1 rfl) ?_
  refine r_cVR1 C m_X4_109 (cM_isMender (by exact ⟨by omega, by omega⟩) hs) hP rfl rfl hl.1 dX4_two_2 ?_
  refine r_ifB_ne C (tgt := 15) dX4_two_5 (by decide) (fun h1 => ?_) (fun h1 => ?_)
  · refine r_aload_n C dX4_two_15 rfl (lv_at hl 0 rfl) ?_
    refine r_iload_n C dX4_two_16 rfl (lv_at hl 1 rfl) ?_
    refine r_cVE1 C m_X4_168 (cM_findTwo (by omega) (by omega) hs) hP hD hS [0, 1, 2, 3, 4, 5, 6, 7, 8, 9, 10, 11] (fun xe1 : (Int → Int) × (Int → Int) => wM a k s kp xe1.1 xe1.2 st sp tp bi si nu mo ik (-1) ((ft1 s m 48).2) ta fr to va iw) rfl rfl (fun _ => rfl) (fun _ => rfl) (fun _ => rfl) rfl rfl hl.1 dX4_two_17 (fun xe1 H locs hP hD hS => ?_)
    refine r_istore_n C [(2, .int (iI ((ft1 s m 48).1))), (0, .ref (a 0)), (1, .int (iI m))] dX4_two_20 rfl hl (by decide) rfl (fun ls hl => ?_)
    refine r_iload_n C dX4_two_21 rfl (lv_at hl 0 rfl) ?_
    refine r_if_ge C (tgt := 34) dX4_two_22 (by decide) (by have := ft1_rg s m 48 (Nat.le_refl 48); exact ⟨by omega, by omega⟩) (fun h2 => ?_) (fun h2 => ?_)
    · refine r_iload_n C dX4_two_34 rfl (lv_at hl 0 rfl) ?_
      exact r_iretE C hP hS (xe1.1, xe1.2, sp, mo, (ft1 s m 48).2) (by first | (simp only [fTwo, fD, fV, h1, h2, not_true_eq_false, not_false_eq_true, and_true, true_and, and_false, false_and, or_true, true_or, or_false, false_or, if_true, if_false, ne_eq, reduceIte]; done) | (exfalso; omega)) (by first | (simp only [fTwo, fD, fV, h1, h2, not_true_eq_false, not_false_eq_true, and_true, true_and, and_false, false_and, or_true, true_or, or_false, false_or, if_true, if_false, ne_eq, reduceIte]; done) | (exfalso; omega)) dX4_two_35
    · refine r_aload_n C dX4_two_25 rfl (lv_at hl 1 rfl) ?_
      refine r_ldc C (-1000000004) ki_X4_158 (by decide) dX4_two_26 ?_
      refine r_cVW1 C m_X4_74 (cM_finds (by omega) (by omega)) hP hD hS [0, 1, 2, 3, 4, 5, 6, 7, 8, 9, 10, 11] (wM a k s kp xe1.1 xe1.2 (fnd st (-1000000004)) sp tp bi si nu mo ik (-1) ((ft1 s m 48).2) ta fr to va iw) rfl rfl rfl rfl rfl rfl rfl hl.1 dX4_two_28 (fun H locs hP hD hS => ?_)
      refine r_goto C (tgt := 35) dX4_two_31 (by decide) ?_
      exact r_iretE C hP hS (xe1.1, xe1.2, sp, mo, (ft1 s m 48).2) (by first | (simp only [fTwo, fD, fV, h1, h2, not_true_eq_false, not_false_eq_true, and_true, true_and, and_false, false_and, or_true, true_or, or_false, false_or, if_true, if_false, ne_eq, reduceIte]; done) | (exfalso; omega)) (by first | (simp only [fTwo, fD, fV, h1, h2, not_true_eq_false, not_false_eq_true, and_true, true_and, and_false, false_and, or_true, true_or, or_false, false_or, if_true, if_false, ne_eq, reduceIte]; done) | (exfalso; omega)) dX4_two_35
  · refine r_aload_n C dX4_two_8 rfl (lv_at hl 0 rfl) ?_
    refine r_ldc C (-1000000001) ki_X4_48 (by decide) dX4_two_9 ?_
    refine r_cVW1 C m_X4_74 (cM_finds (by omega) (by omega)) hP hD hS [0, 1, 2, 3, 4, 5, 6, 7, 8, 9, 10, 11] (wM a k s kp ot sd (fnd st (-1000000001)) sp tp bi si nu mo ik (-1) tl ta fr to va iw) rfl rfl rfl rfl rfl rfl rfl hl.1 dX4_two_11 (fun H locs hP hD hS => ?_)
    exact r_iretE C hP hS (ot, sd, sp, mo, tl) (by first | (simp only [fTwo, fD, fV, h1, not_true_eq_false, not_false_eq_true, and_true, true_and, and_false, false_and, or_true, true_or, or_false, false_or, if_true, if_false, ne_eq, reduceIte]; done) | (exfalso; omega)) (by first | (simp only [fTwo, fD, fV, h1, not_true_eq_false, not_false_eq_true, and_true, true_and, and_false, false_and, or_true, true_or, or_false, false_or, if_true, if_false, ne_eq, reduceIte]; done) | (exfalso; omega)) dX4_two_14
set_option maxHeartbeats 4000000 in
set_option maxRecDepth 100000 in
theorem cM_left {m : Int} (zm : In32 m) (hs : Ok s) : ME l yX4_left cX4_left 2 (some .int) 4 92 D k [.ref (a 0), .int (iI m)] (wM a k s kp ot sd st sp tp bi si nu mo ik (-1) tl ta fr to va iw) (fun x : (Int → Int) × (Int → Int) × (Int → Int) × (Int → Int64) × Int => wM a k ((fLeft s st m).2.1) kp x.1 x.2.1 ((fLeft s st m).2.2) x.2.2.1 tp bi si nu x.2.2.2.1 ik (-1) x.2.2.2.2 ta fr to va iw) (some (.int (iI ((fLeft s st m).1)))) := by
  refine ME.mk RX4 rfl (by decide +kernel) (Nat.le_of_ble_eq_true rfl) (fun p e U m0 below meth cd ls C hP hD hS hl => ?_)
  have hl : lv_has ls 2 [(0, .ref (a 0)), (1, .int (iI m))] := hl
  have zm1 := zm.1
  have zm2 := zm.2
  have h00 := hs.1 0 (by decide)
  have h06 := hs.2.2.1
  refine r_aload_n C dX4_left_0 rfl (lv_at hl 0 rfl) ?_
  refine r_iload_n C dX4_left_1 rfl (lv_at hl 1 rfl) ?_
  refine r_cVR1 C m_X4_109 (cM_isMender (by exact ⟨by omega, by omega⟩) hs) hP rfl rfl hl.1 dX4_left_2 ?_
  refine r_ifB_ne C (tgt := 15) dX4_left_5 (by decide) (fun h1 => ?_) (fun h1 => ?_)
  · refine r_aload_n C dX4_left_15 rfl (lv_at hl 0 rfl) ?_
    refine r_iload_n C dX4_left_16 rfl (lv_at hl 1 rfl) ?_
    refine r_cVE1 C m_X4_168 (cM_findTwo (by omega) (by omega) hs) hP hD hS [0, 1, 2, 3, 4, 5, 6, 7, 8, 9, 10, 11] (fun xe1 : (Int → Int) × (Int → Int) => wM a k s kp xe1.1 xe1.2 st sp tp bi si nu mo ik (-1) ((ft1 s m 48).2) ta fr to va iw) rfl rfl (fun _ => rfl) (fun _ => rfl) (fun _ => rfl) rfl rfl hl.1 dX4_left_17 (fun xe1 H locs hP hD hS => ?_)
    refine r_if_ge C (tgt := 32) dX4_left_20 (by decide) (by have := ft1_rg s m 48 (Nat.le_refl 48); exact ⟨by omega, by omega⟩) (fun h2 => ?_) (fun h2 => ?_)
    · refine r_aload_n C dX4_left_32 rfl (lv_at hl 0 rfl) ?_
      refine g_X4_159 C hP 0 rfl rfl dX4_left_33 ?_
      exact r_iretE C hP hS (xe1.1, xe1.2, sp, mo, (ft1 s m 48).2) (by first | (simp only [fLeft, fD, fV, h1, h2, not_true_eq_false, not_false_eq_true, and_true, true_and, and_false, false_and, or_true, true_or, or_false, false_or, if_true, if_false, ne_eq, reduceIte]; done) | (exfalso; omega)) (by first | (simp only [fLeft, fD, fV, h1, h2, not_true_eq_false, not_false_eq_true, and_true, true_and, and_false, false_and, or_true, true_or, or_false, false_or, if_true, if_false, ne_eq, reduceIte]; done) | (exfalso; omega)) dX4_left_36
    · refine r_aload_n C dX4_left_23 rfl (lv_at hl 0 rfl) ?_
      refine r_ldc C (-1000000004) ki_X4_158 (by decide) dX4_left_24 ?_
      refine r_cVW1 C m_X4_74 (cM_finds (by omega) (by omega)) hP hD hS [0, 1, 2, 3, 4, 5, 6, 7, 8, 9, 10, 11] (wM a k s kp xe1.1 xe1.2 (fnd st (-1000000004)) sp tp bi si nu mo ik (-1) ((ft1 s m 48).2) ta fr to va iw) rfl rfl rfl rfl rfl rfl rfl hl.1 dX4_left_26 (fun H locs hP hD hS => ?_)
      refine r_goto C (tgt := 36) dX4_left_29 (by decide) ?_
      exact r_iretE C hP hS (xe1.1, xe1.2, sp, mo, (ft1 s m 48).2) (by first | (simp only [fLeft, fD, fV, h1, h2, not_true_eq_false, not_false_eq_true, and_true, true_and, and_false, false_and, or_true, true_or, or_false, false_or, if_true, if_false, ne_eq, reduceIte]; done) | (exfalso; omega)) (by first | (simp only [fLeft, fD, fV, h1, h2, not_true_eq_false, not_false_eq_true, and_true, true_and, and_false, false_and, or_true, true_or, or_false, false_or, if_true, if_false, ne_eq, reduceIte]; done) | (exfalso; omega)) dX4_left_36
  · refine r_aload_n C dX4_left_8 rfl (lv_at hl 0 rfl) ?_
    refine r_ldc C (-1000000001) ki_X4_48 (by decide) dX4_left_9 ?_
    refine r_cVW1 C m_X4_74 (cM_finds (by omega) (by omega)) hP hD hS [0, 1, 2, 3, 4, 5, 6, 7, 8, 9, 10, 11] (wM a k s kp ot sd (fnd st (-1000000001)) sp tp bi si nu mo ik (-1) tl ta fr to va iw) rfl rfl rfl rfl rfl rfl rfl hl.1 dX4_left_11 (fun H locs hP hD hS => ?_)
    exact r_iretE C hP hS (ot, sd, sp, mo, tl) (by first | (simp only [fLeft, fD, fV, h1, not_true_eq_false, not_false_eq_true, and_true, true_and, and_false, false_and, or_true, true_or, or_false, false_or, if_true, if_false, ne_eq, reduceIte]; done) | (exfalso; omega)) (by first | (simp only [fLeft, fD, fV, h1, not_true_eq_false, not_false_eq_true, and_true, true_and, and_false, false_and, or_true, true_or, or_false, false_or, if_true, if_false, ne_eq, reduceIte]; done) | (exfalso; omega)) dX4_left_14
set_option maxHeartbeats 4000000 in
set_option maxRecDepth 100000 in
theorem cM_kind {m : Int} {y : Int} (zm : In32 m) (zy : In32 y) (hs : Ok s) : ME l yX4_kind cX4_kind 8 (some .int) 7 165 D k [.ref (a 0), .int (iI m), .int (iI y)] (wM a k s kp ot sd st sp tp bi si nu mo ik (-1) tl ta fr to va iw) (fun x : (Int → Int) × (Int → Int) × (Int → Int) × (Int → Int64) × Int => wM a k ((fKind s st m y).2.1) kp x.1 x.2.1 ((fKind s st m y).2.2) x.2.2.1 tp bi si nu x.2.2.2.1 ik (-1) x.2.2.2.2 ta fr to va iw) (some (.int (iI ((fKind s st m y).1)))) := by
  refine ME.mk RX4 rfl (by decide +kernel) (Nat.le_of_ble_eq_true rfl) (fun p e U m0 below meth cd ls C hP hD hS hl => ?_)
  have hl : lv_has ls 8 [(0, .ref (a 0)), (1, .int (iI m)), (2, .int (iI y))] := hl
  have zm1 := zm.1
  have zm2 := zm.2
  have zy1 := zy.1
  have zy2 := zy.2
  have h00 := hs.1 0 (by decide)
  have h06 := hs.2.2.1
  refine r_aload_n C dX4_kind_0 rfl (lv_at hl 0 rfl) ?_
  refine r_iload_n C dX4_kind_1 rfl (lv_at hl 1 rfl) ?_
  refine r_cVR1 C m_X4_109 (cM_isMender (by exact ⟨by omega, by omega⟩) hs) hP rfl rfl hl.1 dX4_kind_2 ?_
  refine r_ifB_eq C (tgt := 20) dX4_kind_5 (by decide) (fun h1 => ?_) (fun h1 => ?_)
  · refine r_aload_n C dX4_kind_20 rfl (lv_at hl 0 rfl) ?_
    refine r_ldc C (-1000000001) ki_X4_48 (by decide) dX4_kind_21 ?_
    refine r_cVW1 C m_X4_74 (cM_finds (by omega) (by omega)) hP hD hS [0, 1, 2, 3, 4, 5, 6, 7, 8, 9, 10, 11] (wM a k s kp ot sd (fnd st (-1000000001)) sp tp bi si nu mo ik (-1) tl ta fr to va iw) rfl rfl rfl rfl rfl rfl rfl hl.1 dX4_kind_23 (fun H locs hP hD hS => ?_)
    exact r_iretE C hP hS (ot, sd, sp, mo, tl) (by first | (simp only [fKind, fD, fV, h1, not_true_eq_false, not_false_eq_true, and_true, true_and, and_false, false_and, or_true, true_or, or_false, false_or, if_true, if_false, ne_eq, reduceIte]; done) | (exfalso; omega)) (by first | (simp only [fKind, fD, fV, h1, not_true_eq_false, not_false_eq_true, and_true, true_and, and_false, false_and, or_true, true_or, or_false, false_or, if_true, if_false, ne_eq, reduceIte]; done) | (exfalso; omega)) dX4_kind_26
  · refine r_iload_n C dX4_kind_8 rfl (lv_at hl 2 rfl) ?_
    refine r_i2l C dX4_kind_9 (by exact ⟨by omega, by omega⟩) ?_
    refine r_lconst C (z := 0) dX4_kind_10 (by decide) ?_
    refine r_ldc2 C (60) kl_X4_138 (by decide) dX4_kind_11 ?_
    refine r_cSR3 C m_X4_51 (cM_in (by exact ⟨by omega, by omega⟩) ⟨by decide, by decide⟩ ⟨by decide, by decide⟩) pn0 hl.1 dX4_kind_14 ?_
    refine r_ifB_ne C (tgt := 27) dX4_kind_17 (by decide) (fun h2 => ?_) (fun h2 => ?_)
    · refine r_aload_n C dX4_kind_27 rfl (lv_at hl 0 rfl) ?_
      refine r_iload_n C dX4_kind_28 rfl (lv_at hl 1 rfl) ?_
      refine r_iconst C dX4_kind_29 ?_
      refine r_cVR2 C m_X4_86 (cM_its (by omega) (by omega) (by omega) (by omega)) hP rfl rfl hl.1 dX4_kind_30 ?_
      refine r_istore_n C [(3, .int (iI (s (99 + 4 * m + 0)))), (0, .ref (a 0)), (1, .int (iI m)), (2, .int (iI y))] dX4_kind_33 rfl hl (by decide) rfl (fun ls hl => ?_)
      refine r_iconst C dX4_kind_34 ?_
      refine r_istore C [(4, .int (iI 0)), (3, .int (iI (s (99 + 4 * m + 0)))), (0, .ref (a 0)), (1, .int (iI m)), (2, .int (iI y))] dX4_kind_35 hl (by decide) rfl (fun ls hl => ?_)
      refine r_bipush C dX4_kind_37 (by decide) ?_
      refine r_istore C [(5, .int (iI 49)), (4, .int (iI 0)), (3, .int (iI (s (99 + 4 * m + 0)))), (0, .ref (a 0)), (1, .int (iI m)), (2, .int (iI y))] dX4_kind_39 hl (by decide) rfl (fun ls hl => ?_)
      refine r_iconst C dX4_kind_41 ?_
      refine r_istore C [(6, .int (iI 0)), (5, .int (iI 49)), (4, .int (iI 0)), (3, .int (iI (s (99 + 4 * m + 0)))), (0, .ref (a 0)), (1, .int (iI m)), (2, .int (iI y))] dX4_kind_42 hl (by decide) rfl (fun ls hl => ?_)
      refine r_loopWX (fun n : Nat => [(0, .ref (a 0)), (1, .int (iI m)), (2, .int (iI y)), (3, .int (iI (s (99 + 4 * m + 0)))), (4, .int (iI ((kdN s m y n).1))), (5, .int (iI ((kdN s m y n).2))), (6, .int (iI n))]) (fun (n : Nat) (xn : (Int → Int)) => wM a k (up s (99 + 4 * m + 0) (kdV (s (99 + 4 * m + 0)) n)) kp ot xn st sp tp bi si nu mo ik (-1) tl ta fr to va iw) (6) (fun n : Nat => True) trivial (sd) (lv_eq (lv_sub hl [4, 5, 6, 3, 2, 1, 0] rfl) rfl) (va_eq hP (by rw [kdV, up_self])) (va_eqD hD (by rw [kdV, up_self])) hS (fun n hn ihn _ xn ls H locs hl hP hD hS => ?_) (fun _ xn ls H locs hl hP hD hS => ?_)
      · have hl : lv_has ls 8 [(0, .ref (a 0)), (1, .int (iI m)), (2, .int (iI y)), (3, .int (iI (s (99 + 4 * m + 0)))), (4, .int (iI ((kdN s m y n).1))), (5, .int (iI ((kdN s m y n).2))), (6, .int (iI n))] := hl
        have hP : va_P D vwCl (wM a k (up s (99 + 4 * m + 0) (kdV (s (99 + 4 * m + 0)) n)) kp ot xn st sp tp bi si nu mo ik (-1) tl ta fr to va iw) H := hP
        have hD : va_D _ (wM a k (up s (99 + 4 * m + 0) (kdV (s (99 + 4 * m + 0)) n)) kp ot xn st sp tp bi si nu mo ik (-1) tl ta fr to va iw) := hD
        have h9 := kdN_rg s m y n (by omega)
        refine r_iload C dX4_kind_44 (lv_at hl 6 rfl) ?_
        refine r_iconst C dX4_kind_46 ?_
        refine r_icmp_gt C (tgt := 107) dX4_kind_47 (by decide) (by exact ⟨by omega, by omega⟩) ⟨by decide, by decide⟩ (fun h3 => ?_) (fun h3 => ?_)
        · exfalso; omega
        · refine r_aload_n C dX4_kind_50 rfl (lv_at hl 0 rfl) ?_
          refine g_X4_7 C hP 0 rfl rfl dX4_kind_51 ?_
          refine r_iload_n C dX4_kind_54 rfl (lv_at hl 1 rfl) ?_
          refine r_iconst C dX4_kind_55 ?_
          refine r_cSR2 C m_X4_57 cM_spot pn0 hl.1 dX4_kind_56 ?_
          refine r_iload C dX4_kind_59 (lv_at hl 6 rfl) ?_
          refine r_iast C hP hD hS 1 (wM a k (up s (99 + 4 * m + 0) n) kp ot xn st sp tp bi si nu mo ik (-1) tl ta fr to va iw) rfl dX4_kind_61 (by omega) (by omega) (by decide) (by rw [upup]; rfl) (fun H locs hP hD hS => ?_)
          have hs1 : Ok (up s (99 + 4 * m + 0) n) := ok_up hs ⟨by omega, by omega⟩ ⟨by omega, by omega⟩ (fun _ => by omega) (fun _ _ _ _ => by omega)
          refine r_aload_n C dX4_kind_62 rfl (lv_at hl 0 rfl) ?_
          refine r_iload_n C dX4_kind_63 rfl (lv_at hl 2 rfl) ?_
          refine r_cVW1 C m_X4_155 (cM_wrongOn (by omega) (by omega) hs1 (by exact ⟨by omega, by omega⟩)) hP hD hS [0, 1, 2, 3, 4, 5, 6, 7, 8, 9, 10, 11] (wM a k (up s (99 + 4 * m + 0) n) kp ot (cpN (up s (99 + 4 * m + 0) n) xn 123) st sp tp bi si nu mo ik (-1) tl ta fr to va iw) rfl rfl rfl rfl rfl rfl rfl hl.1 dX4_kind_64 (fun H locs hP hD hS => ?_)
          refine r_istore C [(7, .int (iI (wrongMany (ysN (up s (99 + 4 * m + 0) n) (-1) y.toNat)))), (0, .ref (a 0)), (1, .int (iI m)), (2, .int (iI y)), (3, .int (iI (s (99 + 4 * m + 0)))), (4, .int (iI ((kdN s m y n).1))), (5, .int (iI ((kdN s m y n).2))), (6, .int (iI n))] dX4_kind_67 hl (by decide) rfl (fun ls hl => ?_)
          refine r_iload C dX4_kind_69 (lv_at hl 0 rfl) ?_
          refine r_iload C dX4_kind_71 (lv_at hl 6 rfl) ?_
          refine r_icmp_ge C (tgt := 81) dX4_kind_73 (by decide) (by have := hs.1 (99 + 4 * m + 0) (by omega); have := wrongMany_rg (ysN (up s (99 + 4 * m + 0) n) (-1) y.toNat); exact ⟨by omega, by omega⟩) (by exact ⟨by omega, by omega⟩) (fun h4 => ?_) (fun h4 => ?_)
          · refine r_iload C dX4_kind_81 (lv_at hl 5 rfl) ?_
            refine r_istore C [(4, .int (iI ((kdN s m y n).1))), (7, .int (iI (wrongMany (ysN (up s (99 + 4 * m + 0) n) (-1) y.toNat)))), (0, .ref (a 0)), (1, .int (iI m)), (2, .int (iI y)), (3, .int (iI (s (99 + 4 * m + 0)))), (5, .int (iI ((kdN s m y n).2))), (6, .int (iI n))] dX4_kind_83 hl (by decide) rfl (fun ls hl => ?_)
            refine r_iload C dX4_kind_85 (lv_at hl 1 rfl) ?_
            refine r_iload C dX4_kind_87 (lv_at hl 6 rfl) ?_
            refine r_icmp_ge C (tgt := 97) dX4_kind_89 (by decide) (by have := hs.1 (99 + 4 * m + 0) (by omega); have := wrongMany_rg (ysN (up s (99 + 4 * m + 0) n) (-1) y.toNat); exact ⟨by omega, by omega⟩) (by exact ⟨by omega, by omega⟩) (fun h5 => ?_) (fun h5 => ?_)
            · refine r_iload C dX4_kind_97 (lv_at hl 6 rfl) ?_
              refine r_istore C [(5, .int (iI ((kdN s m y n).2))), (4, .int (iI ((kdN s m y n).1))), (7, .int (iI (wrongMany (ysN (up s (99 + 4 * m + 0) n) (-1) y.toNat)))), (0, .ref (a 0)), (1, .int (iI m)), (2, .int (iI y)), (3, .int (iI (s (99 + 4 * m + 0)))), (6, .int (iI n))] dX4_kind_99 hl (by decide) rfl (fun ls hl => ?_)
              refine r_iinc C 7 [(6, .int (iI (n + 1))), (5, .int (iI ((kdN s m y n).2))), (4, .int (iI ((kdN s m y n).1))), (7, .int (iI (wrongMany (ysN (up s (99 + 4 * m + 0) n) (-1) y.toNat)))), (0, .ref (a 0)), (1, .int (iI m)), (2, .int (iI y)), (3, .int (iI (s (99 + 4 * m + 0))))] dX4_kind_101 hl rfl (by decide) rfl (fun ls hl => ?_)
              refine r_goto C (tgt := 44) dX4_kind_104 (by decide) ?_
              exact ihn trivial (cpN (up s (99 + 4 * m + 0) n) xn 123) ls H locs (lv_eq (lv_sub hl [4, 5, 6, 7, 2, 1, 0] rfl) (by first | (simp only [kdN, h1, h2, h3, h4, h5, not_true_eq_false, not_false_eq_true, and_true, true_and, and_false, false_and, or_true, true_or, or_false, false_or, if_true, if_false, ne_eq, reduceIte]; done) | (simp only [kdN, h1, h2, h3, h4, h5, not_true_eq_false, not_false_eq_true, and_true, true_and, and_false, false_and, or_true, true_or, or_false, false_or, if_true, if_false, ne_eq, reduceIte]; rfl) | (exfalso; omega))) (va_eq hP rfl) (va_eqD hD rfl) hS
            · refine r_iload C dX4_kind_92 (lv_at hl 1 rfl) ?_
              refine r_goto C (tgt := 99) dX4_kind_94 (by decide) ?_
              refine r_istore C [(5, .int (iI (wrongMany (ysN (up s (99 + 4 * m + 0) n) (-1) y.toNat)))), (4, .int (iI ((kdN s m y n).1))), (7, .int (iI (wrongMany (ysN (up s (99 + 4 * m + 0) n) (-1) y.toNat)))), (0, .ref (a 0)), (1, .int (iI m)), (2, .int (iI y)), (3, .int (iI (s (99 + 4 * m + 0)))), (6, .int (iI n))] dX4_kind_99 hl (by decide) rfl (fun ls hl => ?_)
              refine r_iinc C 7 [(6, .int (iI (n + 1))), (5, .int (iI (wrongMany (ysN (up s (99 + 4 * m + 0) n) (-1) y.toNat)))), (4, .int (iI ((kdN s m y n).1))), (7, .int (iI (wrongMany (ysN (up s (99 + 4 * m + 0) n) (-1) y.toNat)))), (0, .ref (a 0)), (1, .int (iI m)), (2, .int (iI y)), (3, .int (iI (s (99 + 4 * m + 0))))] dX4_kind_101 hl rfl (by decide) rfl (fun ls hl => ?_)
              refine r_goto C (tgt := 44) dX4_kind_104 (by decide) ?_
              exact ihn trivial (cpN (up s (99 + 4 * m + 0) n) xn 123) ls H locs (lv_eq (lv_sub hl [4, 5, 6, 7, 2, 1, 0] rfl) (by first | (simp only [kdN, h1, h2, h3, h4, h5, not_true_eq_false, not_false_eq_true, and_true, true_and, and_false, false_and, or_true, true_or, or_false, false_or, if_true, if_false, ne_eq, reduceIte]; done) | (simp only [kdN, h1, h2, h3, h4, h5, not_true_eq_false, not_false_eq_true, and_true, true_and, and_false, false_and, or_true, true_or, or_false, false_or, if_true, if_false, ne_eq, reduceIte]; rfl) | (exfalso; omega))) (va_eq hP rfl) (va_eqD hD rfl) hS
          · refine r_iload C dX4_kind_76 (lv_at hl 7 rfl) ?_
            refine r_goto C (tgt := 83) dX4_kind_78 (by decide) ?_
            refine r_istore C [(4, .int (iI n)), (7, .int (iI (wrongMany (ysN (up s (99 + 4 * m + 0) n) (-1) y.toNat)))), (0, .ref (a 0)), (1, .int (iI m)), (2, .int (iI y)), (3, .int (iI (s (99 + 4 * m + 0)))), (5, .int (iI ((kdN s m y n).2))), (6, .int (iI n))] dX4_kind_83 hl (by decide) rfl (fun ls hl => ?_)
            refine r_iload C dX4_kind_85 (lv_at hl 1 rfl) ?_
            refine r_iload C dX4_kind_87 (lv_at hl 6 rfl) ?_
            refine r_icmp_ge C (tgt := 97) dX4_kind_89 (by decide) (by have := hs.1 (99 + 4 * m + 0) (by omega); have := wrongMany_rg (ysN (up s (99 + 4 * m + 0) n) (-1) y.toNat); exact ⟨by omega, by omega⟩) (by exact ⟨by omega, by omega⟩) (fun h6 => ?_) (fun h6 => ?_)
            · refine r_iload C dX4_kind_97 (lv_at hl 6 rfl) ?_
              refine r_istore C [(5, .int (iI ((kdN s m y n).2))), (4, .int (iI n)), (7, .int (iI (wrongMany (ysN (up s (99 + 4 * m + 0) n) (-1) y.toNat)))), (0, .ref (a 0)), (1, .int (iI m)), (2, .int (iI y)), (3, .int (iI (s (99 + 4 * m + 0)))), (6, .int (iI n))] dX4_kind_99 hl (by decide) rfl (fun ls hl => ?_)
              refine r_iinc C 7 [(6, .int (iI (n + 1))), (5, .int (iI ((kdN s m y n).2))), (4, .int (iI n)), (7, .int (iI (wrongMany (ysN (up s (99 + 4 * m + 0) n) (-1) y.toNat)))), (0, .ref (a 0)), (1, .int (iI m)), (2, .int (iI y)), (3, .int (iI (s (99 + 4 * m + 0))))] dX4_kind_101 hl rfl (by decide) rfl (fun ls hl => ?_)
              refine r_goto C (tgt := 44) dX4_kind_104 (by decide) ?_
              exact ihn trivial (cpN (up s (99 + 4 * m + 0) n) xn 123) ls H locs (lv_eq (lv_sub hl [4, 5, 6, 7, 2, 1, 0] rfl) (by first | (simp only [kdN, h1, h2, h3, h4, h6, not_true_eq_false, not_false_eq_true, and_true, true_and, and_false, false_and, or_true, true_or, or_false, false_or, if_true, if_false, ne_eq, reduceIte]; done) | (simp only [kdN, h1, h2, h3, h4, h6, not_true_eq_false, not_false_eq_true, and_true, true_and, and_false, false_and, or_true, true_or, or_false, false_or, if_true, if_false, ne_eq, reduceIte]; rfl) | (exfalso; omega))) (va_eq hP rfl) (va_eqD hD rfl) hS
            · refine r_iload C dX4_kind_92 (lv_at hl 1 rfl) ?_
              refine r_goto C (tgt := 99) dX4_kind_94 (by decide) ?_
              refine r_istore C [(5, .int (iI (wrongMany (ysN (up s (99 + 4 * m + 0) n) (-1) y.toNat)))), (4, .int (iI n)), (7, .int (iI (wrongMany (ysN (up s (99 + 4 * m + 0) n) (-1) y.toNat)))), (0, .ref (a 0)), (1, .int (iI m)), (2, .int (iI y)), (3, .int (iI (s (99 + 4 * m + 0)))), (6, .int (iI n))] dX4_kind_99 hl (by decide) rfl (fun ls hl => ?_)
              refine r_iinc C 7 [(6, .int (iI (n + 1))), (5, .int (iI (wrongMany (ysN (up s (99 + 4 * m + 0) n) (-1) y.toNat)))), (4, .int (iI n)), (7, .int (iI (wrongMany (ysN (up s (99 + 4 * m + 0) n) (-1) y.toNat)))), (0, .ref (a 0)), (1, .int (iI m)), (2, .int (iI y)), (3, .int (iI (s (99 + 4 * m + 0))))] dX4_kind_101 hl rfl (by decide) rfl (fun ls hl => ?_)
              refine r_goto C (tgt := 44) dX4_kind_104 (by decide) ?_
              exact ihn trivial (cpN (up s (99 + 4 * m + 0) n) xn 123) ls H locs (lv_eq (lv_sub hl [4, 5, 6, 7, 2, 1, 0] rfl) (by first | (simp only [kdN, h1, h2, h3, h4, h6, not_true_eq_false, not_false_eq_true, and_true, true_and, and_false, false_and, or_true, true_or, or_false, false_or, if_true, if_false, ne_eq, reduceIte]; done) | (simp only [kdN, h1, h2, h3, h4, h6, not_true_eq_false, not_false_eq_true, and_true, true_and, and_false, false_and, or_true, true_or, or_false, false_or, if_true, if_false, ne_eq, reduceIte]; rfl) | (exfalso; omega))) (va_eq hP rfl) (va_eqD hD rfl) hS
      · have hl : lv_has ls 8 [(0, .ref (a 0)), (1, .int (iI m)), (2, .int (iI y)), (3, .int (iI (s (99 + 4 * m + 0)))), (4, .int (iI ((kdN s m y 6).1))), (5, .int (iI ((kdN s m y 6).2))), (6, .int (iI 6))] := hl
        have hP : va_P D vwCl (wM a k (up s (99 + 4 * m + 0) (kdV (s (99 + 4 * m + 0)) 6)) kp ot xn st sp tp bi si nu mo ik (-1) tl ta fr to va iw) H := hP
        have hD : va_D _ (wM a k (up s (99 + 4 * m + 0) (kdV (s (99 + 4 * m + 0)) 6)) kp ot xn st sp tp bi si nu mo ik (-1) tl ta fr to va iw) := hD
        have h9 := kdN_rg s m y 6 (by omega)
        refine r_iload C dX4_kind_44 (lv_at hl 6 rfl) ?_
        refine r_iconst C dX4_kind_46 ?_
        refine r_icmp_gt C (tgt := 107) dX4_kind_47 (by decide) ⟨by decide, by decide⟩ ⟨by decide, by decide⟩ (fun h7 => ?_) (fun h7 => ?_)
        · refine r_aload_n C dX4_kind_107 rfl (lv_at hl 0 rfl) ?_
          refine g_X4_7 C hP 0 rfl rfl dX4_kind_108 ?_
          refine r_iload_n C dX4_kind_111 rfl (lv_at hl 1 rfl) ?_
          refine r_iconst C dX4_kind_112 ?_
          refine r_cSR2 C m_X4_57 cM_spot pn0 hl.1 dX4_kind_113 ?_
          refine r_iload_n C dX4_kind_116 rfl (lv_at hl 3 rfl) ?_
          refine r_iast C hP hD hS 1 (wM a k s kp ot xn st sp tp bi si nu mo ik (-1) tl ta fr to va iw) rfl dX4_kind_117 (by omega) (by omega) (by decide) (by rw [upup, up_self]; rfl) (fun H locs hP hD hS => ?_)
          refine r_iload C dX4_kind_118 (lv_at hl 4 rfl) ?_
          exact r_iretE C hP hS (ot, xn, sp, mo, tl) (by first | (simp only [fKind, fD, fV, h1, h2, h7, not_true_eq_false, not_false_eq_true, and_true, true_and, and_false, false_and, or_true, true_or, or_false, false_or, if_true, if_false, ne_eq, reduceIte]; done) | (exfalso; omega)) (by first | (simp only [fKind, fD, fV, h1, h2, h7, not_true_eq_false, not_false_eq_true, and_true, true_and, and_false, false_and, or_true, true_or, or_false, false_or, if_true, if_false, ne_eq, reduceIte]; done) | (exfalso; omega)) dX4_kind_120
        · exfalso; omega
    · refine r_aload_n C dX4_kind_20 rfl (lv_at hl 0 rfl) ?_
      refine r_ldc C (-1000000001) ki_X4_48 (by decide) dX4_kind_21 ?_
      refine r_cVW1 C m_X4_74 (cM_finds (by omega) (by omega)) hP hD hS [0, 1, 2, 3, 4, 5, 6, 7, 8, 9, 10, 11] (wM a k s kp ot sd (fnd st (-1000000001)) sp tp bi si nu mo ik (-1) tl ta fr to va iw) rfl rfl rfl rfl rfl rfl rfl hl.1 dX4_kind_23 (fun H locs hP hD hS => ?_)
      exact r_iretE C hP hS (ot, sd, sp, mo, tl) (by first | (simp only [fKind, fD, fV, h1, h2, not_true_eq_false, not_false_eq_true, and_true, true_and, and_false, false_and, or_true, true_or, or_false, false_or, if_true, if_false, ne_eq, reduceIte]; done) | (exfalso; omega)) (by first | (simp only [fKind, fD, fV, h1, h2, not_true_eq_false, not_false_eq_true, and_true, true_and, and_false, false_and, or_true, true_or, or_false, false_or, if_true, if_false, ne_eq, reduceIte]; done) | (exfalso; omega)) dX4_kind_26
set_option maxHeartbeats 4000000 in
set_option maxRecDepth 100000 in
theorem cM_purse {m : Int} {y : Int} (zm : In32 m) (zy : In32 y) (hs : Ok s) : ME l yX4_purse cX4_purse 6 (some .int) 7 165 D k [.ref (a 0), .int (iI m), .int (iI y)] (wM a k s kp ot sd st sp tp bi si nu mo ik (-1) tl ta fr to va iw) (fun x : (Int → Int) × (Int → Int) × (Int → Int) × (Int → Int64) × Int => wM a k ((fPurse s st m y).2.1) kp x.1 x.2.1 ((fPurse s st m y).2.2) x.2.2.1 tp bi si nu x.2.2.2.1 ik (-1) x.2.2.2.2 ta fr to va iw) (some (.int (iI ((fPurse s st m y).1)))) := by
  refine ME.mk RX4 rfl (by decide +kernel) (Nat.le_of_ble_eq_true rfl) (fun p e U m0 below meth cd ls C hP hD hS hl => ?_)
  have hl : lv_has ls 6 [(0, .ref (a 0)), (1, .int (iI m)), (2, .int (iI y))] := hl
  have zm1 := zm.1
  have zm2 := zm.2
  have zy1 := zy.1
  have zy2 := zy.2
  have h00 := hs.1 0 (by decide)
  have h06 := hs.2.2.1
  refine r_aload_n C dX4_purse_0 rfl (lv_at hl 0 rfl) ?_
  refine r_iload_n C dX4_purse_1 rfl (lv_at hl 1 rfl) ?_
  refine r_cVR1 C m_X4_109 (cM_isMender (by exact ⟨by omega, by omega⟩) hs) hP rfl rfl hl.1 dX4_purse_2 ?_
  refine r_ifB_eq C (tgt := 20) dX4_purse_5 (by decide) (fun h1 => ?_) (fun h1 => ?_)
  · refine r_aload_n C dX4_purse_20 rfl (lv_at hl 0 rfl) ?_
    refine r_ldc C (-1000000001) ki_X4_48 (by decide) dX4_purse_21 ?_
    refine r_cVW1 C m_X4_74 (cM_finds (by omega) (by omega)) hP hD hS [0, 1, 2, 3, 4, 5, 6, 7, 8, 9, 10, 11] (wM a k s kp ot sd (fnd st (-1000000001)) sp tp bi si nu mo ik (-1) tl ta fr to va iw) rfl rfl rfl rfl rfl rfl rfl hl.1 dX4_purse_23 (fun H locs hP hD hS => ?_)
    exact r_iretE C hP hS (ot, sd, sp, mo, tl) (by simp only [fPurse, h1, not_true_eq_false, not_false_eq_true, and_true, true_and, and_false, false_and, or_true, true_or, or_false, false_or, if_true, if_false, ne_eq, reduceIte, fD, fV]) (by simp only [fPurse, h1, not_true_eq_false, not_false_eq_true, and_true, true_and, and_false, false_and, or_true, true_or, or_false, false_or, if_true, if_false, ne_eq, reduceIte, fD, fV]) dX4_purse_26
  · refine r_iload_n C dX4_purse_8 rfl (lv_at hl 2 rfl) ?_
    refine r_i2l C dX4_purse_9 (by exact ⟨by omega, by omega⟩) ?_
    refine r_lconst C (z := 0) dX4_purse_10 (by decide) ?_
    refine r_ldc2 C (20) kl_X4_91 (by decide) dX4_purse_11 ?_
    refine r_cSR3 C m_X4_51 (cM_in (by exact ⟨by omega, by omega⟩) ⟨by decide, by decide⟩ ⟨by decide, by decide⟩) pn0 hl.1 dX4_purse_14 ?_
    refine r_ifB_ne C (tgt := 27) dX4_purse_17 (by decide) (fun h2 => ?_) (fun h2 => ?_)
    · refine r_aload_n C dX4_purse_27 rfl (lv_at hl 0 rfl) ?_
      refine r_iload_n C dX4_purse_28 rfl (lv_at hl 1 rfl) ?_
      refine r_iconst C dX4_purse_29 ?_
      refine r_cVR2 C m_X4_86 (cM_its (by omega) (by omega) (by omega) (by omega)) hP rfl rfl hl.1 dX4_purse_30 ?_
      refine r_istore_n C [(3, .int (iI (s (99 + 4 * m + 2)))), (0, .ref (a 0)), (1, .int (iI m)), (2, .int (iI y))] dX4_purse_33 rfl hl (by decide) rfl (fun ls hl => ?_)
      refine r_aload_n C dX4_purse_34 rfl (lv_at hl 1 rfl) ?_
      refine g_X4_7 C hP 0 rfl rfl dX4_purse_35 ?_
      refine r_iload_n C dX4_purse_38 rfl (lv_at hl 2 rfl) ?_
      refine r_iconst C dX4_purse_39 ?_
      refine r_cSR2 C m_X4_57 cM_spot pn0 hl.1 dX4_purse_40 ?_
      refine r_sipush C dX4_purse_43 (by decide) ?_
      refine r_iast C hP hD hS 1 (wM a k (up s (99 + 4 * m + 2) 255) kp ot sd st sp tp bi si nu mo ik (-1) tl ta fr to va iw) rfl dX4_purse_46 (by omega) (by omega) (by decide) rfl (fun H locs hP hD hS => ?_)
      have hs1 : Ok (up s (99 + 4 * m + 2) 255) := ok_up hs ⟨by omega, by omega⟩ ⟨by omega, by omega⟩ (fun _ => by omega) (fun _ _ _ _ => by omega)
      refine r_aload_n C dX4_purse_47 rfl (lv_at hl 1 rfl) ?_
      refine r_iload_n C dX4_purse_48 rfl (lv_at hl 3 rfl) ?_
      refine r_cVW1 C m_X4_155 (cM_wrongOn (by omega) (by omega) hs1 (by exact ⟨by omega, by omega⟩)) hP hD hS [0, 1, 2, 3, 4, 5, 6, 7, 8, 9, 10, 11] (wM a k (up s (99 + 4 * m + 2) 255) kp ot (cpN (up s (99 + 4 * m + 2) 255) sd 123) st sp tp bi si nu mo ik (-1) tl ta fr to va iw) rfl rfl rfl rfl rfl rfl rfl hl.1 dX4_purse_49 (fun H locs hP hD hS => ?_)
      refine r_istore C [(4, .int (iI (wrongMany (ysN (up s (99 + 4 * m + 2) 255) (-1) y.toNat)))), (3, .int (iI (s (99 + 4 * m + 2)))), (0, .ref (a 0)), (1, .int (iI m)), (2, .int (iI y))] dX4_purse_52 hl (by decide) rfl (fun ls hl => ?_)
      refine r_iconst C dX4_purse_54 ?_
      refine r_istore C [(5, .int (iI 0)), (4, .int (iI (wrongMany (ysN (up s (99 + 4 * m + 2) 255) (-1) y.toNat)))), (3, .int (iI (s (99 + 4 * m + 2)))), (0, .ref (a 0)), (1, .int (iI m)), (2, .int (iI y))] dX4_purse_55 hl (by decide) rfl (fun ls hl => ?_)
      refine r_aload_n C dX4_purse_57 rfl (lv_at hl 3 rfl) ?_
      refine g_X4_7 C hP 0 rfl rfl dX4_purse_58 ?_
      refine r_iload_n C dX4_purse_61 rfl (lv_at hl 4 rfl) ?_
      refine r_iconst C dX4_purse_62 ?_
      refine r_cSR2 C m_X4_57 cM_spot pn0 hl.1 dX4_purse_63 ?_
      refine r_iconst C dX4_purse_66 ?_
      refine r_iast C hP hD hS 1 (wM a k (up s (99 + 4 * m + 2) 0) kp ot (cpN (up s (99 + 4 * m + 2) 255) sd 123) st sp tp bi si nu mo ik (-1) tl ta fr to va iw) rfl dX4_purse_67 (by omega) (by omega) (by decide) (by rw [upup]; rfl) (fun H locs hP hD hS => ?_)
      have hs2 : Ok (up s (99 + 4 * m + 2) 0) := ok_up hs ⟨by omega, by omega⟩ ⟨by omega, by omega⟩ (fun _ => by omega) (fun _ _ _ _ => by omega)
      refine r_loopWX (fun n : Nat => [(0, .ref (a 0)), (1, .int (iI m)), (2, .int (iI y)), (3, .int (iI (s (99 + 4 * m + 2)))), (4, .int (iI (puW s m y 255))), (5, .int (iI n))]) (fun (n : Nat) (xn : (Int → Int)) => wM a k (up s (99 + 4 * m + 2) n) kp ot xn st sp tp bi si nu mo ik (-1) tl ta fr to va iw) (255) (fun n : Nat => ∀ j : Nat, j < n → ¬ (fun v => puW s m y v ≤ puW s m y 255) j) (fun j h => absurd h (Nat.not_lt_zero j)) (cpN (up s (99 + 4 * m + 2) 255) sd 123) (lv_eq (lv_sub hl [3, 4, 5, 2, 1, 0] rfl) rfl) (va_eq hP rfl) (va_eqD hD rfl) hS (fun n hn ihn hJn xn ls H locs hl hP hD hS => ?_) (fun hJn xn ls H locs hl hP hD hS => ?_)
      · have hl : lv_has ls 6 [(0, .ref (a 0)), (1, .int (iI m)), (2, .int (iI y)), (3, .int (iI (s (99 + 4 * m + 2)))), (4, .int (iI (puW s m y 255))), (5, .int (iI n))] := hl
        have hP : va_P D vwCl (wM a k (up s (99 + 4 * m + 2) n) kp ot xn st sp tp bi si nu mo ik (-1) tl ta fr to va iw) H := hP
        have hD : va_D _ (wM a k (up s (99 + 4 * m + 2) n) kp ot xn st sp tp bi si nu mo ik (-1) tl ta fr to va iw) := hD
        have hJn : ∀ j : Nat, j < n → ¬ (fun v => puW s m y v ≤ puW s m y 255) j := hJn
        have hsl : Ok (up s (99 + 4 * m + 2) n) := ok_up hs ⟨by omega, by omega⟩ ⟨by omega, by omega⟩ (fun _ => by omega) (fun _ _ _ _ => by omega)
        have h8 : 0 ≤ puW s m y 255 ∧ puW s m y 255 ≤ 48 := wrongMany_rg _
        refine r_aload_n C dX4_purse_68 rfl (lv_at hl 0 rfl) ?_
        refine r_iload_n C dX4_purse_69 rfl (lv_at hl 2 rfl) ?_
        refine r_cVW1 C m_X4_155 (cM_wrongOn (by omega) (by omega) hsl (by exact ⟨by omega, by omega⟩)) hP hD hS [0, 1, 2, 3, 4, 5, 6, 7, 8, 9, 10, 11] (wM a k (up s (99 + 4 * m + 2) n) kp ot (cpN (up s (99 + 4 * m + 2) n) xn 123) st sp tp bi si nu mo ik (-1) tl ta fr to va iw) rfl rfl rfl rfl rfl rfl rfl hl.1 dX4_purse_70 (fun H locs hP hD hS => ?_)
        refine r_iload C dX4_purse_73 (lv_at hl 4 rfl) ?_
        refine r_icmp_le C (tgt := 96) dX4_purse_75 (by decide) (by have := hs.1 (99 + 4 * m + 2) (by omega); have := wrongMany_rg (ysN (up s (99 + 4 * m + 2) n) (-1) y.toNat); exact ⟨by omega, by omega⟩) (by exact ⟨by omega, by omega⟩) (fun h3 => ?_) (fun h3 => ?_)
        · refine r_aload_n C dX4_purse_96 rfl (lv_at hl 0 rfl) ?_
          refine g_X4_7 C hP 0 rfl rfl dX4_purse_97 ?_
          refine r_iload_n C dX4_purse_100 rfl (lv_at hl 1 rfl) ?_
          refine r_iconst C dX4_purse_101 ?_
          refine r_cSR2 C m_X4_57 cM_spot pn0 hl.1 dX4_purse_102 ?_
          refine r_iload_n C dX4_purse_105 rfl (lv_at hl 3 rfl) ?_
          refine r_iast C hP hD hS 1 (wM a k s kp ot (cpN (up s (99 + 4 * m + 2) n) xn 123) st sp tp bi si nu mo ik (-1) tl ta fr to va iw) rfl dX4_purse_106 (by omega) (by omega) (by decide) (by rw [upup, up_self]; rfl) (fun H locs hP hD hS => ?_)
          refine r_iload C dX4_purse_107 (lv_at hl 5 rfl) ?_
          exact r_iretE C hP hS (ot, cpN (up s (99 + 4 * m + 2) n) xn 123, sp, mo, tl) (by simp only [fPurse, fst0_yes (p := fun v => puW s m y v ≤ puW s m y 255) h3 hJn (n := 255) (by omega), h1, h2, h3, not_true_eq_false, not_false_eq_true, and_true, true_and, and_false, false_and, or_true, true_or, or_false, false_or, if_true, if_false, ne_eq, reduceIte, fD, fV]; try rfl) (by simp only [fPurse, fst0_yes (p := fun v => puW s m y v ≤ puW s m y 255) h3 hJn (n := 255) (by omega), h1, h2, h3, not_true_eq_false, not_false_eq_true, and_true, true_and, and_false, false_and, or_true, true_or, or_false, false_or, if_true, if_false, ne_eq, reduceIte, fD, fV]; try rfl) dX4_purse_109
        · refine r_iinc C 5 [(5, .int (iI (n + 1))), (0, .ref (a 0)), (1, .int (iI m)), (2, .int (iI y)), (3, .int (iI (s (99 + 4 * m + 2)))), (4, .int (iI (puW s m y 255)))] dX4_purse_78 hl rfl (by decide) rfl (fun ls hl => ?_)
          refine r_aload_n C dX4_purse_81 rfl (lv_at hl 1 rfl) ?_
          refine g_X4_7 C hP 0 rfl rfl dX4_purse_82 ?_
          refine r_iload_n C dX4_purse_85 rfl (lv_at hl 2 rfl) ?_
          refine r_iconst C dX4_purse_86 ?_
          refine r_cSR2 C m_X4_57 cM_spot pn0 hl.1 dX4_purse_87 ?_
          refine r_iload C dX4_purse_90 (lv_at hl 0 rfl) ?_
          refine r_iast C hP hD hS 1 (wM a k (up s (99 + 4 * m + 2) (n + 1)) kp ot (cpN (up s (99 + 4 * m + 2) n) xn 123) st sp tp bi si nu mo ik (-1) tl ta fr to va iw) rfl dX4_purse_92 (by omega) (by omega) (by decide) (by rw [upup]; rfl) (fun H locs hP hD hS => ?_)
          have hs4 : Ok (up s (99 + 4 * m + 2) (n + 1)) := ok_up hs ⟨by omega, by omega⟩ ⟨by omega, by omega⟩ (fun _ => by omega) (fun _ _ _ _ => by omega)
          refine r_goto C (tgt := 68) dX4_purse_93 (by decide) ?_
          exact ihn (lt_s hJn h3) (cpN (up s (99 + 4 * m + 2) n) xn 123) ls H locs (lv_eq (lv_sub hl [1, 2, 3, 4, 5, 0] rfl) rfl) (va_eq hP rfl) (va_eqD hD rfl) hS
      · have hl : lv_has ls 6 [(0, .ref (a 0)), (1, .int (iI m)), (2, .int (iI y)), (3, .int (iI (s (99 + 4 * m + 2)))), (4, .int (iI (puW s m y 255))), (5, .int (iI 255))] := hl
        have hP : va_P D vwCl (wM a k (up s (99 + 4 * m + 2) 255) kp ot xn st sp tp bi si nu mo ik (-1) tl ta fr to va iw) H := hP
        have hD : va_D _ (wM a k (up s (99 + 4 * m + 2) 255) kp ot xn st sp tp bi si nu mo ik (-1) tl ta fr to va iw) := hD
        have hJn : ∀ j : Nat, j < 255 → ¬ (fun v => puW s m y v ≤ puW s m y 255) j := hJn
        have hsl : Ok (up s (99 + 4 * m + 2) 255) := ok_up hs ⟨by omega, by omega⟩ ⟨by omega, by omega⟩ (fun _ => by omega) (fun _ _ _ _ => by omega)
        have h8 : 0 ≤ puW s m y 255 ∧ puW s m y 255 ≤ 48 := wrongMany_rg _
        refine r_aload_n C dX4_purse_68 rfl (lv_at hl 0 rfl) ?_
        refine r_iload_n C dX4_purse_69 rfl (lv_at hl 2 rfl) ?_
        refine r_cVW1 C m_X4_155 (cM_wrongOn (by omega) (by omega) hsl (by exact ⟨by omega, by omega⟩)) hP hD hS [0, 1, 2, 3, 4, 5, 6, 7, 8, 9, 10, 11] (wM a k (up s (99 + 4 * m + 2) 255) kp ot (cpN (up s (99 + 4 * m + 2) 255) xn 123) st sp tp bi si nu mo ik (-1) tl ta fr to va iw) rfl rfl rfl rfl rfl rfl rfl hl.1 dX4_purse_70 (fun H locs hP hD hS => ?_)
        refine r_iload C dX4_purse_73 (lv_at hl 4 rfl) ?_
        refine r_icmp_le C (tgt := 96) dX4_purse_75 (by decide) (by have := hs.1 (99 + 4 * m + 2) (by omega); have := wrongMany_rg (ysN (up s (99 + 4 * m + 2) 255) (-1) y.toNat); exact ⟨by omega, by omega⟩) (by exact ⟨by omega, by omega⟩) (fun h4 => ?_) (fun h4 => ?_)
        · refine r_aload_n C dX4_purse_96 rfl (lv_at hl 0 rfl) ?_
          refine g_X4_7 C hP 0 rfl rfl dX4_purse_97 ?_
          refine r_iload_n C dX4_purse_100 rfl (lv_at hl 1 rfl) ?_
          refine r_iconst C dX4_purse_101 ?_
          refine r_cSR2 C m_X4_57 cM_spot pn0 hl.1 dX4_purse_102 ?_
          refine r_iload_n C dX4_purse_105 rfl (lv_at hl 3 rfl) ?_
          refine r_iast C hP hD hS 1 (wM a k s kp ot (cpN (up s (99 + 4 * m + 2) 255) xn 123) st sp tp bi si nu mo ik (-1) tl ta fr to va iw) rfl dX4_purse_106 (by omega) (by omega) (by decide) (by rw [upup, up_self]; rfl) (fun H locs hP hD hS => ?_)
          refine r_iload C dX4_purse_107 (lv_at hl 5 rfl) ?_
          exact r_iretE C hP hS (ot, cpN (up s (99 + 4 * m + 2) 255) xn 123, sp, mo, tl) (by simp only [fPurse, fst0_no (p := fun v => puW s m y v ≤ puW s m y 255) (n := 255) hJn, h1, h2, h4, not_true_eq_false, not_false_eq_true, and_true, true_and, and_false, false_and, or_true, true_or, or_false, false_or, if_true, if_false, ne_eq, reduceIte, fD, fV]; try rfl) (by simp only [fPurse, fst0_no (p := fun v => puW s m y v ≤ puW s m y 255) (n := 255) hJn, h1, h2, h4, not_true_eq_false, not_false_eq_true, and_true, true_and, and_false, false_and, or_true, true_or, or_false, false_or, if_true, if_false, ne_eq, reduceIte, fD, fV]; try rfl) dX4_purse_109
        · exact absurd h4 (by exact fun q => q (Int.le_refl _))
    · refine r_aload_n C dX4_purse_20 rfl (lv_at hl 0 rfl) ?_
      refine r_ldc C (-1000000001) ki_X4_48 (by decide) dX4_purse_21 ?_
      refine r_cVW1 C m_X4_74 (cM_finds (by omega) (by omega)) hP hD hS [0, 1, 2, 3, 4, 5, 6, 7, 8, 9, 10, 11] (wM a k s kp ot sd (fnd st (-1000000001)) sp tp bi si nu mo ik (-1) tl ta fr to va iw) rfl rfl rfl rfl rfl rfl rfl hl.1 dX4_purse_23 (fun H locs hP hD hS => ?_)
      exact r_iretE C hP hS (ot, sd, sp, mo, tl) (by simp only [fPurse, h1, h2, not_true_eq_false, not_false_eq_true, and_true, true_and, and_false, false_and, or_true, true_or, or_false, false_or, if_true, if_false, ne_eq, reduceIte, fD, fV]) (by simp only [fPurse, h1, h2, not_true_eq_false, not_false_eq_true, and_true, true_and, and_false, false_and, or_true, true_or, or_false, false_or, if_true, if_false, ne_eq, reduceIte, fD, fV]) dX4_purse_26
set_option maxHeartbeats 4000000 in
set_option maxRecDepth 100000 in
theorem cM_needed {y : Int} (zy : In32 y) (hs : Ok s) : ME l yX4_needed cX4_needed 5 (some .int) 7 165 D k [.ref (a 0), .int (iI y)] (wM a k s kp ot sd st sp tp bi si nu mo ik (-1) tl ta fr to va iw) (fun x : (Int → Int) × (Int → Int) × (Int → Int) × (Int → Int64) × Int => wM a k ((fNeed s st y).2.1) kp x.1 x.2.1 ((fNeed s st y).2.2) x.2.2.1 tp bi si nu x.2.2.2.1 ik (-1) x.2.2.2.2 ta fr to va iw) (some (.int (iI ((fNeed s st y).1)))) := by
  refine ME.mk RX4 rfl (by decide +kernel) (Nat.le_of_ble_eq_true rfl) (fun p e U m0 below meth cd ls C hP hD hS hl => ?_)
  have hl : lv_has ls 5 [(0, .ref (a 0)), (1, .int (iI y))] := hl
  have zy1 := zy.1
  have zy2 := zy.2
  have h00 := hs.1 0 (by decide)
  have h06 := hs.2.2.1
  refine r_iload_n C dX4_needed_0 rfl (lv_at hl 1 rfl) ?_
  refine r_i2l C dX4_needed_1 (by exact ⟨by omega, by omega⟩) ?_
  refine r_lconst C (z := 0) dX4_needed_2 (by decide) ?_
  refine r_ldc2 C (60) kl_X4_138 (by decide) dX4_needed_3 ?_
  refine r_cSR3 C m_X4_51 (cM_in (by exact ⟨by omega, by omega⟩) ⟨by decide, by decide⟩ ⟨by decide, by decide⟩) pn0 hl.1 dX4_needed_6 ?_
  refine r_ifB_ne C (tgt := 19) dX4_needed_9 (by decide) (fun h1 => ?_) (fun h1 => ?_)
  · refine r_iconst C dX4_needed_19 ?_
    refine r_istore_n C [(2, .int (iI (-1))), (0, .ref (a 0)), (1, .int (iI y))] dX4_needed_20 rfl hl (by decide) rfl (fun ls hl => ?_)
    refine r_iconst C dX4_needed_21 ?_
    refine r_istore_n C [(3, .int (iI (-1))), (2, .int (iI (-1))), (0, .ref (a 0)), (1, .int (iI y))] dX4_needed_22 rfl hl (by decide) rfl (fun ls hl => ?_)
    refine r_aload_n C dX4_needed_23 rfl (lv_at hl 2 rfl) ?_
    refine r_iconst C dX4_needed_24 ?_
    refine p_X4_25 C hP hD hS 0 (wM a k s kp ot sd st sp tp bi si nu mo ik 0 tl ta fr to va iw) rfl (Nat.le_of_ble_eq_true rfl) rfl dX4_needed_25 (fun H locs hP hD hS => ?_)
    refine r_loopWX (fun n : Nat => [(0, .ref (a 0)), (1, .int (iI y)), (2, .int (iI ((ndN s y n).1))), (3, .int (iI ((ndN s y n).2)))]) (fun (n : Nat) (xn : (Int → Int)) => wM a k s kp ot xn st sp tp bi si nu mo ik n tl ta fr to va iw) ((s 0).toNat) (fun n : Nat => True) trivial (sd) (lv_eq (lv_sub hl [2, 3, 1, 0] rfl) rfl) (va_eq hP rfl) (va_eqD hD rfl) hS (fun n hn ihn _ xn ls H locs hl hP hD hS => ?_) (fun _ xn ls H locs hl hP hD hS => ?_)
    · have hl : lv_has ls 5 [(0, .ref (a 0)), (1, .int (iI y)), (2, .int (iI ((ndN s y n).1))), (3, .int (iI ((ndN s y n).2)))] := hl
      have hP : va_P D vwCl (wM a k s kp ot xn st sp tp bi si nu mo ik n tl ta fr to va iw) H := hP
      have hD : va_D _ (wM a k s kp ot xn st sp tp bi si nu mo ik n tl ta fr to va iw) := hD
      have h9 := ndN_rg s y n (by omega)
      refine r_aload_n C dX4_needed_28 rfl (lv_at hl 0 rfl) ?_
      refine g_X4_25 C hP 0 rfl rfl dX4_needed_29 ?_
      refine r_aload_n C dX4_needed_32 rfl (lv_at hl 0 rfl) ?_
      refine g_X4_7 C hP 0 rfl rfl dX4_needed_33 ?_
      refine r_iconst C dX4_needed_36 ?_
      refine r_iald C hP 1 rfl dX4_needed_37 (by omega) (by omega) (by decide) ?_
      refine r_icmp_ge C (tgt := 89) dX4_needed_38 (by decide) (by exact ⟨by omega, by omega⟩) (by have := hs.1 (0) (by omega); exact ⟨by omega, by omega⟩) (fun h2 => ?_) (fun h2 => ?_)
      · exfalso; omega
      · refine r_aload_n C dX4_needed_41 rfl (lv_at hl 0 rfl) ?_
        refine r_iload_n C dX4_needed_42 rfl (lv_at hl 1 rfl) ?_
        refine r_cVW1 C m_X4_155 (cM_wrongOn (by omega) (by omega) hs (by exact ⟨by omega, by omega⟩)) hP hD hS [0, 1, 2, 3, 4, 5, 6, 7, 8, 9, 10, 11] (wM a k s kp ot (cpN s xn 123) st sp tp bi si nu mo ik n tl ta fr to va iw) rfl rfl rfl rfl rfl rfl rfl hl.1 dX4_needed_43 (fun H locs hP hD hS => ?_)
        refine r_istore C [(4, .int (iI (wrongMany (ysN s n y.toNat)))), (0, .ref (a 0)), (1, .int (iI y)), (2, .int (iI ((ndN s y n).1))), (3, .int (iI ((ndN s y n).2)))] dX4_needed_46 hl (by decide) rfl (fun ls hl => ?_)
        refine r_iload C dX4_needed_48 (lv_at hl 0 rfl) ?_
        refine r_iload_n C dX4_needed_50 rfl (lv_at hl 4 rfl) ?_
        refine r_icmp_le C (tgt := 61) dX4_needed_51 (by decide) (by have := wrongMany_rg (ysN s n y.toNat); exact ⟨by omega, by omega⟩) (by exact ⟨by omega, by omega⟩) (fun h3 => ?_) (fun h3 => ?_)
        · refine r_iload_n C dX4_needed_61 rfl (lv_at hl 3 rfl) ?_
          refine r_istore_n C [(2, .int (iI ((ndN s y n).1))), (4, .int (iI (wrongMany (ysN s n y.toNat)))), (0, .ref (a 0)), (1, .int (iI y)), (3, .int (iI ((ndN s y n).2)))] dX4_needed_62 rfl hl (by decide) rfl (fun ls hl => ?_)
          refine r_iload C dX4_needed_63 (lv_at hl 1 rfl) ?_
          refine r_iload_n C dX4_needed_65 rfl (lv_at hl 4 rfl) ?_
          refine r_icmp_le C (tgt := 74) dX4_needed_66 (by decide) (by have := wrongMany_rg (ysN s n y.toNat); exact ⟨by omega, by omega⟩) (by exact ⟨by omega, by omega⟩) (fun h4 => ?_) (fun h4 => ?_)
          · refine r_iload_n C dX4_needed_74 rfl (lv_at hl 4 rfl) ?_
            refine r_istore_n C [(3, .int (iI ((ndN s y n).2))), (2, .int (iI ((ndN s y n).1))), (4, .int (iI (wrongMany (ysN s n y.toNat)))), (0, .ref (a 0)), (1, .int (iI y))] dX4_needed_75 rfl hl (by decide) rfl (fun ls hl => ?_)
            refine r_aload_n C dX4_needed_76 rfl (lv_at hl 3 rfl) ?_
            refine r_dup C dX4_needed_77 rfl ?_
            refine g_X4_25 C hP 0 rfl rfl dX4_needed_78 ?_
            refine r_iconst C dX4_needed_81 ?_
            refine r_iadd C dX4_needed_82 ?_
            refine p_X4_25 C hP hD hS 0 (wM a k s kp ot (cpN s xn 123) st sp tp bi si nu mo ik (n + 1) tl ta fr to va iw) rfl (Nat.le_of_ble_eq_true rfl) rfl dX4_needed_83 (fun H locs hP hD hS => ?_)
            refine r_goto C (tgt := 28) dX4_needed_86 (by decide) ?_
            exact ihn trivial (cpN s xn 123) ls H locs (lv_eq (lv_sub hl [3, 4, 1, 0] rfl) (by first | (simp only [ndN, h1, h2, h3, h4, not_true_eq_false, not_false_eq_true, and_true, true_and, and_false, false_and, or_true, true_or, or_false, false_or, if_true, if_false, ne_eq, reduceIte]; done) | (simp only [ndN, h1, h2, h3, h4, not_true_eq_false, not_false_eq_true, and_true, true_and, and_false, false_and, or_true, true_or, or_false, false_or, if_true, if_false, ne_eq, reduceIte]; rfl) | (exfalso; omega))) (va_eq hP rfl) (va_eqD hD rfl) hS
          · refine r_iload C dX4_needed_69 (lv_at hl 1 rfl) ?_
            refine r_goto C (tgt := 75) dX4_needed_71 (by decide) ?_
            refine r_istore_n C [(3, .int (iI (wrongMany (ysN s n y.toNat)))), (2, .int (iI ((ndN s y n).1))), (4, .int (iI (wrongMany (ysN s n y.toNat)))), (0, .ref (a 0)), (1, .int (iI y))] dX4_needed_75 rfl hl (by decide) rfl (fun ls hl => ?_)
            refine r_aload_n C dX4_needed_76 rfl (lv_at hl 3 rfl) ?_
            refine r_dup C dX4_needed_77 rfl ?_
            refine g_X4_25 C hP 0 rfl rfl dX4_needed_78 ?_
            refine r_iconst C dX4_needed_81 ?_
            refine r_iadd C dX4_needed_82 ?_
            refine p_X4_25 C hP hD hS 0 (wM a k s kp ot (cpN s xn 123) st sp tp bi si nu mo ik (n + 1) tl ta fr to va iw) rfl (Nat.le_of_ble_eq_true rfl) rfl dX4_needed_83 (fun H locs hP hD hS => ?_)
            refine r_goto C (tgt := 28) dX4_needed_86 (by decide) ?_
            exact ihn trivial (cpN s xn 123) ls H locs (lv_eq (lv_sub hl [3, 4, 1, 0] rfl) (by first | (simp only [ndN, h1, h2, h3, h4, not_true_eq_false, not_false_eq_true, and_true, true_and, and_false, false_and, or_true, true_or, or_false, false_or, if_true, if_false, ne_eq, reduceIte]; done) | (simp only [ndN, h1, h2, h3, h4, not_true_eq_false, not_false_eq_true, and_true, true_and, and_false, false_and, or_true, true_or, or_false, false_or, if_true, if_false, ne_eq, reduceIte]; rfl) | (exfalso; omega))) (va_eq hP rfl) (va_eqD hD rfl) hS
        · refine r_aload_n C dX4_needed_54 rfl (lv_at hl 1 rfl) ?_
          refine g_X4_25 C hP 0 rfl rfl dX4_needed_55 ?_
          refine r_goto C (tgt := 62) dX4_needed_58 (by decide) ?_
          refine r_istore_n C [(2, .int (iI n)), (4, .int (iI (wrongMany (ysN s n y.toNat)))), (0, .ref (a 0)), (1, .int (iI y)), (3, .int (iI ((ndN s y n).2)))] dX4_needed_62 rfl hl (by decide) rfl (fun ls hl => ?_)
          refine r_iload C dX4_needed_63 (lv_at hl 1 rfl) ?_
          refine r_iload_n C dX4_needed_65 rfl (lv_at hl 4 rfl) ?_
          refine r_icmp_le C (tgt := 74) dX4_needed_66 (by decide) (by have := wrongMany_rg (ysN s n y.toNat); exact ⟨by omega, by omega⟩) (by exact ⟨by omega, by omega⟩) (fun h5 => ?_) (fun h5 => ?_)
          · refine r_iload_n C dX4_needed_74 rfl (lv_at hl 4 rfl) ?_
            refine r_istore_n C [(3, .int (iI ((ndN s y n).2))), (2, .int (iI n)), (4, .int (iI (wrongMany (ysN s n y.toNat)))), (0, .ref (a 0)), (1, .int (iI y))] dX4_needed_75 rfl hl (by decide) rfl (fun ls hl => ?_)
            refine r_aload_n C dX4_needed_76 rfl (lv_at hl 3 rfl) ?_
            refine r_dup C dX4_needed_77 rfl ?_
            refine g_X4_25 C hP 0 rfl rfl dX4_needed_78 ?_
            refine r_iconst C dX4_needed_81 ?_
            refine r_iadd C dX4_needed_82 ?_
            refine p_X4_25 C hP hD hS 0 (wM a k s kp ot (cpN s xn 123) st sp tp bi si nu mo ik (n + 1) tl ta fr to va iw) rfl (Nat.le_of_ble_eq_true rfl) rfl dX4_needed_83 (fun H locs hP hD hS => ?_)
            refine r_goto C (tgt := 28) dX4_needed_86 (by decide) ?_
            exact ihn trivial (cpN s xn 123) ls H locs (lv_eq (lv_sub hl [3, 4, 1, 0] rfl) (by first | (simp only [ndN, h1, h2, h3, h5, not_true_eq_false, not_false_eq_true, and_true, true_and, and_false, false_and, or_true, true_or, or_false, false_or, if_true, if_false, ne_eq, reduceIte]; done) | (simp only [ndN, h1, h2, h3, h5, not_true_eq_false, not_false_eq_true, and_true, true_and, and_false, false_and, or_true, true_or, or_false, false_or, if_true, if_false, ne_eq, reduceIte]; rfl) | (exfalso; omega))) (va_eq hP rfl) (va_eqD hD rfl) hS
          · refine r_iload C dX4_needed_69 (lv_at hl 1 rfl) ?_
            refine r_goto C (tgt := 75) dX4_needed_71 (by decide) ?_
            refine r_istore_n C [(3, .int (iI (wrongMany (ysN s n y.toNat)))), (2, .int (iI n)), (4, .int (iI (wrongMany (ysN s n y.toNat)))), (0, .ref (a 0)), (1, .int (iI y))] dX4_needed_75 rfl hl (by decide) rfl (fun ls hl => ?_)
            refine r_aload_n C dX4_needed_76 rfl (lv_at hl 3 rfl) ?_
            refine r_dup C dX4_needed_77 rfl ?_
            refine g_X4_25 C hP 0 rfl rfl dX4_needed_78 ?_
            refine r_iconst C dX4_needed_81 ?_
            refine r_iadd C dX4_needed_82 ?_
            refine p_X4_25 C hP hD hS 0 (wM a k s kp ot (cpN s xn 123) st sp tp bi si nu mo ik (n + 1) tl ta fr to va iw) rfl (Nat.le_of_ble_eq_true rfl) rfl dX4_needed_83 (fun H locs hP hD hS => ?_)
            refine r_goto C (tgt := 28) dX4_needed_86 (by decide) ?_
            exact ihn trivial (cpN s xn 123) ls H locs (lv_eq (lv_sub hl [3, 4, 1, 0] rfl) (by first | (simp only [ndN, h1, h2, h3, h5, not_true_eq_false, not_false_eq_true, and_true, true_and, and_false, false_and, or_true, true_or, or_false, false_or, if_true, if_false, ne_eq, reduceIte]; done) | (simp only [ndN, h1, h2, h3, h5, not_true_eq_false, not_false_eq_true, and_true, true_and, and_false, false_and, or_true, true_or, or_false, false_or, if_true, if_false, ne_eq, reduceIte]; rfl) | (exfalso; omega))) (va_eq hP rfl) (va_eqD hD rfl) hS
    · have hl : lv_has ls 5 [(0, .ref (a 0)), (1, .int (iI y)), (2, .int (iI ((ndN s y (s 0).toNat).1))), (3, .int (iI ((ndN s y (s 0).toNat).2)))] := hl
      have hP : va_P D vwCl (wM a k s kp ot xn st sp tp bi si nu mo ik ((s 0).toNat) tl ta fr to va iw) H := hP
      have hD : va_D _ (wM a k s kp ot xn st sp tp bi si nu mo ik ((s 0).toNat) tl ta fr to va iw) := hD
      have h9 := ndN_rg s y ((s 0).toNat) (by omega)
      refine r_aload_n C dX4_needed_28 rfl (lv_at hl 0 rfl) ?_
      refine g_X4_25 C hP 0 rfl rfl dX4_needed_29 ?_
      refine r_aload_n C dX4_needed_32 rfl (lv_at hl 0 rfl) ?_
      refine g_X4_7 C hP 0 rfl rfl dX4_needed_33 ?_
      refine r_iconst C dX4_needed_36 ?_
      refine r_iald C hP 1 rfl dX4_needed_37 (by omega) (by omega) (by decide) ?_
      refine r_icmp_ge C (tgt := 89) dX4_needed_38 (by decide) (by exact ⟨by omega, by omega⟩) (by have := hs.1 (0) (by omega); exact ⟨by omega, by omega⟩) (fun h6 => ?_) (fun h6 => ?_)
      · refine r_aload_n C dX4_needed_89 rfl (lv_at hl 0 rfl) ?_
        refine r_iconst C dX4_needed_90 ?_
        refine p_X4_25 C hP hD hS 0 (wM a k s kp ot xn st sp tp bi si nu mo ik (-1) tl ta fr to va iw) rfl (Nat.le_of_ble_eq_true rfl) rfl dX4_needed_91 (fun H locs hP hD hS => ?_)
        refine r_iload_n C dX4_needed_94 rfl (lv_at hl 2 rfl) ?_
        refine r_if_ge C (tgt := 107) dX4_needed_95 (by decide) (by exact ⟨by omega, by omega⟩) (fun h7 => ?_) (fun h7 => ?_)
        · refine r_iload_n C dX4_needed_107 rfl (lv_at hl 2 rfl) ?_
          exact r_iretE C hP hS (ot, xn, sp, mo, tl) (by first | (simp only [fNeed, fD, fV, h1, h6, h7, not_true_eq_false, not_false_eq_true, and_true, true_and, and_false, false_and, or_true, true_or, or_false, false_or, if_true, if_false, ne_eq, reduceIte]; done) | (exfalso; omega)) (by first | (simp only [fNeed, fD, fV, h1, h6, h7, not_true_eq_false, not_false_eq_true, and_true, true_and, and_false, false_and, or_true, true_or, or_false, false_or, if_true, if_false, ne_eq, reduceIte]; done) | (exfalso; omega)) dX4_needed_108
        · refine r_aload_n C dX4_needed_98 rfl (lv_at hl 0 rfl) ?_
          refine r_ldc C (-1000000004) ki_X4_158 (by decide) dX4_needed_99 ?_
          refine r_cVW1 C m_X4_74 (cM_finds (by omega) (by omega)) hP hD hS [0, 1, 2, 3, 4, 5, 6, 7, 8, 9, 10, 11] (wM a k s kp ot xn (fnd st (-1000000004)) sp tp bi si nu mo ik (-1) tl ta fr to va iw) rfl rfl rfl rfl rfl rfl rfl hl.1 dX4_needed_101 (fun H locs hP hD hS => ?_)
          refine r_goto C (tgt := 108) dX4_needed_104 (by decide) ?_
          exact r_iretE C hP hS (ot, xn, sp, mo, tl) (by first | (simp only [fNeed, fD, fV, h1, h6, h7, not_true_eq_false, not_false_eq_true, and_true, true_and, and_false, false_and, or_true, true_or, or_false, false_or, if_true, if_false, ne_eq, reduceIte]; done) | (exfalso; omega)) (by first | (simp only [fNeed, fD, fV, h1, h6, h7, not_true_eq_false, not_false_eq_true, and_true, true_and, and_false, false_and, or_true, true_or, or_false, false_or, if_true, if_false, ne_eq, reduceIte]; done) | (exfalso; omega)) dX4_needed_108
      · exfalso; omega
  · refine r_aload_n C dX4_needed_12 rfl (lv_at hl 0 rfl) ?_
    refine r_ldc C (-1000000001) ki_X4_48 (by decide) dX4_needed_13 ?_
    refine r_cVW1 C m_X4_74 (cM_finds (by omega) (by omega)) hP hD hS [0, 1, 2, 3, 4, 5, 6, 7, 8, 9, 10, 11] (wM a k s kp ot sd (fnd st (-1000000001)) sp tp bi si nu mo ik (-1) tl ta fr to va iw) rfl rfl rfl rfl rfl rfl rfl hl.1 dX4_needed_15 (fun H locs hP hD hS => ?_)
    exact r_iretE C hP hS (ot, sd, sp, mo, tl) (by first | (simp only [fNeed, fD, fV, h1, not_true_eq_false, not_false_eq_true, and_true, true_and, and_false, false_and, or_true, true_or, or_false, false_or, if_true, if_false, ne_eq, reduceIte]; done) | (exfalso; omega)) (by first | (simp only [fNeed, fD, fV, h1, not_true_eq_false, not_false_eq_true, and_true, true_and, and_false, false_and, or_true, true_or, or_false, false_or, if_true, if_false, ne_eq, reduceIte]; done) | (exfalso; omega)) dX4_needed_18
end MODEL
