section CLASS
variable {l : Launch} {D : va_G} {k : Nat → ClassId} {b d : Nat → Nat} {s t : Int → Int} {y ty : Int}
set_option maxHeartbeats 4000000 in
set_option maxRecDepth 100000 in
theorem cW_payAndMend {m : Int} {c : Int} {pr : Int} (hm : 0 ≤ m) (hm1 : m < 6) (hc : 0 ≤ c) (hc1 : c < 48) (hpr : pr = cost s m c) (hle : cost s m c ≤ s (99 + 4 * m + 2)) (hs : Ok s) : MW l yX2_payAndMend cX2_payAndMend 4 none 2 52 D k [.ref (b 0), .int (iI m), .int (iI c), .int (iI pr)] (wW b k s (lB (wrF s)) y) (wW b k (mends (pay2 s m c) m c) (lB (wrF (mends (pay2 s m c) m c))) y) none := by
  refine MW.mk RX2 rfl (by decide +kernel) (Nat.le_of_ble_eq_true rfl) (fun p e U m0 below meth cd ls C hP hD hS hl => ?_)
  have hl : lv_has ls 4 [(0, .ref (b 0)), (1, .int (iI m)), (2, .int (iI c)), (3, .int (iI pr))] := hl
  have hcr := cost_rg hs (m := m) hc hm
  have hpp := hs.1 (99 + 4 * m + 2) (by omega)
  have hpa := hs.1 (99 + 4 * m + 3) (by omega)
  refine r_aload_n C dX2_payAndMend_0 rfl (lv_at hl 0 rfl) ?_
  refine g_X2_24 C hP 0 rfl rfl dX2_payAndMend_1 ?_
  refine r_iload_n C dX2_payAndMend_4 rfl (lv_at hl 1 rfl) ?_
  refine r_dup2 C dX2_payAndMend_5 rfl rfl ?_
  refine r_ialdV C hP 5 (s (99 + 4 * m + 2)) rfl dX2_payAndMend_6 (by omega) (by omega) (by decide) (pu_at (by omega) (by omega)) ?_
  refine r_iload_n C dX2_payAndMend_7 rfl (lv_at hl 3 rfl) ?_
  refine r_isub C dX2_payAndMend_8 ?_
  refine r_top (s (99 + 4 * m + 2) - cost s m c) (by rw [hpr]) ?_
  refine r_iast C hP hD hS 5 (wW b k (up s (99 + 4 * m + 2) (s (99 + 4 * m + 2) - cost s m c)) (lB (wrF s)) y) rfl dX2_payAndMend_9 (by omega) (by omega) (by decide) (wW_pu (by omega) (by omega)) (fun H locs hP hD hS => ?_)
  have hs1 : Ok (up s (99 + 4 * m + 2) (s (99 + 4 * m + 2) - cost s m c)) := ok_up hs ⟨by have := hs.1 (99 + 4 * m + 2) (by omega); omega, by have := hs.1 (99 + 4 * m + 2) (by omega); omega⟩ ⟨by have := hs.1 (99 + 4 * m + 2) (by omega); omega, by have := hs.1 (99 + 4 * m + 2) (by omega); omega⟩ (fun _ => by have := hs.1 (99 + 4 * m + 2) (by omega); omega) (fun _ _ _ _ => by have := hs.1 (99 + 4 * m + 2) (by omega); omega)
  refine r_aload_n C dX2_payAndMend_10 rfl (lv_at hl 0 rfl) ?_
  refine g_X2_27 C hP 0 rfl rfl dX2_payAndMend_11 ?_
  refine r_iload_n C dX2_payAndMend_14 rfl (lv_at hl 1 rfl) ?_
  refine r_ldc C (99999) ki_X2_105 (by decide) dX2_payAndMend_15 ?_
  refine r_aload_n C dX2_payAndMend_17 rfl (lv_at hl 0 rfl) ?_
  refine g_X2_27 C hP 0 rfl rfl dX2_payAndMend_18 ?_
  refine r_iload_n C dX2_payAndMend_21 rfl (lv_at hl 1 rfl) ?_
  refine r_ialdV C hP 6 ((up s (99 + 4 * m + 2) (s (99 + 4 * m + 2) - cost s m c)) (99 + 4 * m + 3)) rfl dX2_payAndMend_22 (by omega) (by omega) (by decide) (pa_at (by omega) (by omega)) ?_
  refine r_iload_n C dX2_payAndMend_23 rfl (lv_at hl 3 rfl) ?_
  refine r_iadd C dX2_payAndMend_24 ?_
  refine r_mmin C m_X2_106 ⟨by decide, by decide⟩ (by have := hs.1 (99 + 4 * m + 2) (by omega); have := hs1.1 (99 + 4 * m + 3) (by omega); exact ⟨by omega, by omega⟩) hl.1 dX2_payAndMend_25 ?_
  refine r_top (if s (99 + 4 * m + 3) + cost s m c ≤ 99999 then s (99 + 4 * m + 3) + cost s m c else 99999) (by rw [up_n (by omega), hpr]; split <;> split <;> omega) ?_
  refine r_iast C hP hD hS 6 (wW b k (up (up s (99 + 4 * m + 2) (s (99 + 4 * m + 2) - cost s m c)) (99 + 4 * m + 3) (if s (99 + 4 * m + 3) + cost s m c ≤ 99999 then s (99 + 4 * m + 3) + cost s m c else 99999)) (lB (wrF s)) y) rfl dX2_payAndMend_28 (by omega) (by omega) (by decide) (wW_pa (by omega) (by omega)) (fun H locs hP hD hS => ?_)
  have hs2 : Ok (pay2 s m c) := ok_pay2 hs hc hm hm1 (by omega)
  have er9 : wW b k (up (up s (99 + 4 * m + 2) (s (99 + 4 * m + 2) - cost s m c)) (99 + 4 * m + 3) (if s (99 + 4 * m + 3) + cost s m c ≤ 99999 then s (99 + 4 * m + 3) + cost s m c else 99999)) (lB (wrF s)) y = wW b k (pay2 s m c) (lB (wrF (pay2 s m c))) y := by rw [wr_pay2 hm, pay2]
  have hP := va_eq hP er9
  have hD := va_eqD hD er9
  refine r_aload_n C dX2_payAndMend_29 rfl (lv_at hl 0 rfl) ?_
  refine r_iload_n C dX2_payAndMend_30 rfl (lv_at hl 1 rfl) ?_
  refine r_iload_n C dX2_payAndMend_31 rfl (lv_at hl 2 rfl) ?_
  refine r_cVWA2 C m_X2_109 (cW_mendFree (b := b) (s := pay2 s m c) (y := y) (by omega) (by omega) (by omega) (by omega) hs2) hP hD hS (wW_ad.trans wW_ad.symm) rfl rfl hl.1 dX2_payAndMend_32 (fun H locs hP hD hS => ?_)
  have hs2 : Ok (mends (pay2 s m c) m c) := ok_mends hs2 (by omega) (by omega) (by omega) (by omega)
  exact r_vretW C hP hS rfl dX2_payAndMend_35
set_option maxHeartbeats 4000000 in
set_option maxRecDepth 100000 in
theorem cW_bestFor {m : Int} (hm : 0 ≤ m) (hm1 : m < 6) (hs : Ok s) : MR l yX2_bestFor cX2_bestFor 6 (some .int) 2 52 D k [.ref (b 0), .int (iI m)] (wW b k s (lB (wrF s)) y) (.int (iI ((bsN s m 48).1))) := by
  refine MR.mk RX2 rfl (by decide +kernel) (Nat.le_of_ble_eq_true rfl) (fun p e U m0 below meth cd ls C hP hl => ?_)
  have hl : lv_has ls 6 [(0, .ref (b 0)), (1, .int (iI m))] := hl
  refine r_iconst C dX2_bestFor_0 ?_
  refine r_istore_n C [(2, .int (iI (-1))), (0, .ref (b 0)), (1, .int (iI m))] dX2_bestFor_1 rfl hl (by decide) rfl (fun ls hl => ?_)
  refine r_bipush C dX2_bestFor_2 (by decide) ?_
  refine r_istore_n C [(3, .int (iI 49)), (2, .int (iI (-1))), (0, .ref (b 0)), (1, .int (iI m))] dX2_bestFor_4 rfl hl (by decide) rfl (fun ls hl => ?_)
  refine r_iconst C dX2_bestFor_5 ?_
  refine r_istore C [(4, .int (iI 0)), (3, .int (iI 49)), (2, .int (iI (-1))), (0, .ref (b 0)), (1, .int (iI m))] dX2_bestFor_6 hl (by decide) rfl (fun ls hl => ?_)
  refine r_loopR (fun n : Nat => [(0, .ref (b 0)), (1, .int (iI m)), (2, .int (iI ((bfN s m n).1))), (3, .int (iI ((bfN s m n).2))), (4, .int (iI n))]) (48) (lv_eq (lv_sub hl [3, 4, 2, 1, 0] rfl) rfl) (fun n hn ihn ls hl => ?_) (fun ls hl => ?_)
  · have hl : lv_has ls 6 [(0, .ref (b 0)), (1, .int (iI m)), (2, .int (iI ((bfN s m n).1))), (3, .int (iI ((bfN s m n).2))), (4, .int (iI n))] := hl
    have h9 := bf_rg (s := s) hm n (by omega)
    refine r_iload C dX2_bestFor_8 (lv_at hl 4 rfl) ?_
    refine r_bipush C dX2_bestFor_10 (by decide) ?_
    refine r_icmp_ge C (tgt := 57) dX2_bestFor_12 (by decide) (by exact ⟨by omega, by omega⟩) ⟨by decide, by decide⟩ (fun h1 => ?_) (fun h1 => ?_)
    · exfalso; omega
    · refine r_aload_n C dX2_bestFor_15 rfl (lv_at hl 0 rfl) ?_
      refine g_X2_46 C hP 0 rfl rfl dX2_bestFor_16 ?_
      refine r_iload C dX2_bestFor_19 (lv_at hl 4 rfl) ?_
      refine r_cNR2 C m_X2_52 (cT_hasW s (by omega) (by omega)) pn0 hl.1 dX2_bestFor_21 ?_
      refine r_ifB_eq C (tgt := 51) dX2_bestFor_24 (by decide) (fun h2 => ?_) (fun h2 => ?_)
      · refine r_iinc C 4 [(4, .int (iI (n + 1))), (0, .ref (b 0)), (1, .int (iI m)), (2, .int (iI ((bfN s m n).1))), (3, .int (iI ((bfN s m n).2)))] dX2_bestFor_51 hl rfl (by decide) rfl (fun ls hl => ?_)
        refine r_goto C (tgt := 8) dX2_bestFor_54 (by decide) ?_
        exact ihn ls (lv_eq (lv_sub hl [1, 2, 3, 4, 0] rfl) (by first | (simp only [bfN, h1, h2, not_true_eq_false, not_false_eq_true, and_true, true_and, and_false, false_and, or_true, true_or, or_false, false_or, if_true, if_false, ne_eq, reduceIte]; done) | (simp only [bfN, h1, h2, not_true_eq_false, not_false_eq_true, and_true, true_and, and_false, false_and, or_true, true_or, or_false, false_or, if_true, if_false, ne_eq, reduceIte]; rfl) | (exfalso; omega)))
      · refine r_aload_n C dX2_bestFor_27 rfl (lv_at hl 0 rfl) ?_
        refine r_iload_n C dX2_bestFor_28 rfl (lv_at hl 1 rfl) ?_
        refine r_iload C dX2_bestFor_29 (lv_at hl 4 rfl) ?_
        refine r_cVR2 C m_X2_113 (cW_wrongOnceMended (b := b) (s := s) (y := y) (by omega) (by omega) (by omega) (by omega) hs) hP rfl rfl hl.1 dX2_bestFor_31 ?_
        refine r_cSR1 C m_X2_56 (cJ_bitCountW (mends s m n)) pn0 hl.1 dX2_bestFor_34 ?_
        refine r_istore C [(5, .int (iI (wrongMany (mends s m n)))), (0, .ref (b 0)), (1, .int (iI m)), (2, .int (iI ((bfN s m n).1))), (3, .int (iI ((bfN s m n).2))), (4, .int (iI n))] dX2_bestFor_37 hl (by decide) rfl (fun ls hl => ?_)
        refine r_iload C dX2_bestFor_39 (lv_at hl 0 rfl) ?_
        refine r_iload_n C dX2_bestFor_41 rfl (lv_at hl 4 rfl) ?_
        refine r_icmp_ge C (tgt := 51) dX2_bestFor_42 (by decide) (by have := wrongMany_rg (mends s m n); exact ⟨by omega, by omega⟩) (by exact ⟨by omega, by omega⟩) (fun h3 => ?_) (fun h3 => ?_)
        · refine r_iinc C 5 [(4, .int (iI (n + 1))), (5, .int (iI (wrongMany (mends s m n)))), (0, .ref (b 0)), (1, .int (iI m)), (2, .int (iI ((bfN s m n).1))), (3, .int (iI ((bfN s m n).2)))] dX2_bestFor_51 hl rfl (by decide) rfl (fun ls hl => ?_)
          refine r_goto C (tgt := 8) dX2_bestFor_54 (by decide) ?_
          exact ihn ls (lv_eq (lv_sub hl [2, 3, 4, 5, 0] rfl) (by first | (simp only [bfN, h1, h2, h3, not_true_eq_false, not_false_eq_true, and_true, true_and, and_false, false_and, or_true, true_or, or_false, false_or, if_true, if_false, ne_eq, reduceIte]; done) | (simp only [bfN, h1, h2, h3, not_true_eq_false, not_false_eq_true, and_true, true_and, and_false, false_and, or_true, true_or, or_false, false_or, if_true, if_false, ne_eq, reduceIte]; rfl) | (exfalso; omega)))
        · refine r_iload C dX2_bestFor_45 (lv_at hl 0 rfl) ?_
          refine r_istore_n C [(3, .int (iI (wrongMany (mends s m n)))), (5, .int (iI (wrongMany (mends s m n)))), (0, .ref (b 0)), (1, .int (iI m)), (2, .int (iI ((bfN s m n).1))), (4, .int (iI n))] dX2_bestFor_47 rfl hl (by decide) rfl (fun ls hl => ?_)
          refine r_iload C dX2_bestFor_48 (lv_at hl 5 rfl) ?_
          refine r_istore_n C [(2, .int (iI n)), (3, .int (iI (wrongMany (mends s m n)))), (5, .int (iI (wrongMany (mends s m n)))), (0, .ref (b 0)), (1, .int (iI m)), (4, .int (iI n))] dX2_bestFor_50 rfl hl (by decide) rfl (fun ls hl => ?_)
          refine r_iinc C 5 [(4, .int (iI (n + 1))), (2, .int (iI n)), (3, .int (iI (wrongMany (mends s m n)))), (5, .int (iI (wrongMany (mends s m n)))), (0, .ref (b 0)), (1, .int (iI m))] dX2_bestFor_51 hl rfl (by decide) rfl (fun ls hl => ?_)
          refine r_goto C (tgt := 8) dX2_bestFor_54 (by decide) ?_
          exact ihn ls (lv_eq (lv_sub hl [4, 5, 1, 2, 0] rfl) (by first | (simp only [bfN, h1, h2, h3, not_true_eq_false, not_false_eq_true, and_true, true_and, and_false, false_and, or_true, true_or, or_false, false_or, if_true, if_false, ne_eq, reduceIte]; done) | (simp only [bfN, h1, h2, h3, not_true_eq_false, not_false_eq_true, and_true, true_and, and_false, false_and, or_true, true_or, or_false, false_or, if_true, if_false, ne_eq, reduceIte]; rfl) | (exfalso; omega)))
  · have hl : lv_has ls 6 [(0, .ref (b 0)), (1, .int (iI m)), (2, .int (iI ((bfN s m 48).1))), (3, .int (iI ((bfN s m 48).2))), (4, .int (iI 48))] := hl
    have h9 := bf_rg (s := s) hm 48 (by omega)
    refine r_iload C dX2_bestFor_8 (lv_at hl 4 rfl) ?_
    refine r_bipush C dX2_bestFor_10 (by decide) ?_
    refine r_icmp_ge C (tgt := 57) dX2_bestFor_12 (by decide) ⟨by decide, by decide⟩ ⟨by decide, by decide⟩ (fun h4 => ?_) (fun h4 => ?_)
    · refine r_iload_n C dX2_bestFor_57 rfl (lv_at hl 2 rfl) ?_
      exact r_iretR C (congrArg iI (bf_best hm)) dX2_bestFor_58
    · exfalso; omega
set_option maxHeartbeats 4000000 in
set_option maxRecDepth 100000 in
theorem cW_workOneYear {m : Int} (hm : 0 ≤ m) (hm1 : m < 6) (hs : Ok s) : MW l yX2_workOneYear cX2_workOneYear 4 none 4 91 D k [.ref (b 0), .int (iI m)] (wW b k s (lB (wrF s)) y) (wW b k (yrW s m) (lB (wrF (yrW s m))) y) none := by
  refine MW.mk RX2 rfl (by decide +kernel) (Nat.le_of_ble_eq_true rfl) (fun p e U m0 below meth cd ls C hP hD hS hl => ?_)
  have hl : lv_has ls 4 [(0, .ref (b 0)), (1, .int (iI m))] := hl
  refine r_aload_n C dX2_workOneYear_0 rfl (lv_at hl 0 rfl) ?_
  refine r_iload_n C dX2_workOneYear_1 rfl (lv_at hl 1 rfl) ?_
  refine r_cVR1 C m_X2_89 (cW_goalOf (b := b) (s := s) (y := y) (by omega) (by omega) hs) hP rfl rfl hl.1 dX2_workOneYear_2 ?_
  refine r_istore_n C [(2, .int (iI (goesFor s m))), (0, .ref (b 0)), (1, .int (iI m))] dX2_workOneYear_5 rfl hl (by decide) rfl (fun ls hl => ?_)
  refine r_iload_n C dX2_workOneYear_6 rfl (lv_at hl 0 rfl) ?_
  refine r_if_ge C (tgt := 11) dX2_workOneYear_7 (by decide) (by have := goesFor_rg hs (m := m) (by omega) (by omega); exact ⟨by omega, by omega⟩) (fun h1 => ?_) (fun h1 => ?_)
  · refine r_aload_n C dX2_workOneYear_11 rfl (lv_at hl 1 rfl) ?_
    refine r_iload_n C dX2_workOneYear_12 rfl (lv_at hl 2 rfl) ?_
    refine r_iload_n C dX2_workOneYear_13 rfl (lv_at hl 0 rfl) ?_
    refine r_cVR2 C m_X2_83 (cW_costOf (b := b) (s := s) (y := y) (by omega) (by omega) (by have := goesFor_rg hs (m := m) (by omega) (by omega); omega) (by have := goesFor_rg hs (m := m) (by omega) (by omega); omega) hs) hP rfl rfl hl.1 dX2_workOneYear_14 ?_
    refine r_istore_n C [(3, .int (iI (cost s m (goesFor s m)))), (2, .int (iI (goesFor s m))), (0, .ref (b 0)), (1, .int (iI m))] dX2_workOneYear_17 rfl hl (by decide) rfl (fun ls hl => ?_)
    refine r_aload_n C dX2_workOneYear_18 rfl (lv_at hl 2 rfl) ?_
    refine g_X2_24 C hP 0 rfl rfl dX2_workOneYear_19 ?_
    refine r_iload_n C dX2_workOneYear_22 rfl (lv_at hl 3 rfl) ?_
    refine r_ialdV C hP 5 (s (99 + 4 * m + 2)) rfl dX2_workOneYear_23 (by omega) (by omega) (by decide) (pu_at (by omega) (by omega)) ?_
    refine r_iload_n C dX2_workOneYear_24 rfl (lv_at hl 0 rfl) ?_
    refine r_icmp_lt C (tgt := 35) dX2_workOneYear_25 (by decide) (by have := hs.1 (99 + 4 * m + 2) (by omega); exact ⟨by omega, by omega⟩) (by have := goesFor_rg hs (m := m) (by omega) (by omega); have := cost_rg hs (m := m) (c := ((goesFor s m))) (by have := goesFor_rg hs (m := m) (by omega) (by omega); omega) (by omega); exact ⟨by omega, by omega⟩) (fun h2 => ?_) (fun h2 => ?_)
    · have hi2 := hs.1 2 (by decide)
      refine r_aload_n C dX2_workOneYear_35 rfl (lv_at hl 2 rfl) ?_
      refine g_X2_24 C hP 0 rfl rfl dX2_workOneYear_36 ?_
      refine r_iload_n C dX2_workOneYear_39 rfl (lv_at hl 3 rfl) ?_
      refine r_sipush C dX2_workOneYear_40 (by decide) ?_
      refine r_aload_n C dX2_workOneYear_43 rfl (lv_at hl 2 rfl) ?_
      refine g_X2_24 C hP 0 rfl rfl dX2_workOneYear_44 ?_
      refine r_iload_n C dX2_workOneYear_47 rfl (lv_at hl 3 rfl) ?_
      refine r_ialdV C hP 5 (s (99 + 4 * m + 2)) rfl dX2_workOneYear_48 (by omega) (by omega) (by decide) (pu_at (by omega) (by omega)) ?_
      refine r_aload_n C dX2_workOneYear_49 rfl (lv_at hl 2 rfl) ?_
      refine g_X2_30 C hP 0 rfl rfl dX2_workOneYear_50 ?_
      refine r_iadd C dX2_workOneYear_53 ?_
      refine r_mmin C m_X2_106 ⟨by decide, by decide⟩ (by have := hs.1 (99 + 4 * m + 2) (by omega); have := hi2; exact ⟨by omega, by omega⟩) hl.1 dX2_workOneYear_54 ?_
      refine r_top (if s (99 + 4 * m + 2) + s 2 ≤ 9999 then s (99 + 4 * m + 2) + s 2 else 9999) (by split <;> split <;> omega) ?_
      refine r_iast C hP hD hS 5 (wW b k (up s (99 + 4 * m + 2) (if s (99 + 4 * m + 2) + s 2 ≤ 9999 then s (99 + 4 * m + 2) + s 2 else 9999)) (lB (wrF s)) y) rfl dX2_workOneYear_57 (by omega) (by omega) (by decide) (wW_pu (by omega) (by omega)) (fun H locs hP hD hS => ?_)
      have er1 : wW b k (up s (99 + 4 * m + 2) (if s (99 + 4 * m + 2) + s 2 ≤ 9999 then s (99 + 4 * m + 2) + s 2 else 9999)) (lB (wrF s)) y = wW b k (up s (99 + 4 * m + 2) (if s (99 + 4 * m + 2) + s 2 ≤ 9999 then s (99 + 4 * m + 2) + s 2 else 9999)) (lB (wrF (up s (99 + 4 * m + 2) (if s (99 + 4 * m + 2) + s 2 ≤ 9999 then s (99 + 4 * m + 2) + s 2 else 9999)))) y := by rw [show wrF s = wrF (up s (99 + 4 * m + 2) (if s (99 + 4 * m + 2) + s 2 ≤ 9999 then s (99 + 4 * m + 2) + s 2 else 9999)) from (wrF_o (by omega)).symm]
      have hP := va_eq hP er1
      have hD := va_eqD hD er1
      exact r_vretW C hP hS (by first | (simp only [yrW, yrG, payS, ← Int.not_lt, h1, h2, not_true_eq_false, not_false_eq_true, and_true, true_and, and_false, false_and, or_true, true_or, or_false, false_or, if_true, if_false, ne_eq, reduceIte]; done) | (exfalso; omega)) dX2_workOneYear_58
    · refine r_aload_n C dX2_workOneYear_28 rfl (lv_at hl 2 rfl) ?_
      refine r_iload_n C dX2_workOneYear_29 rfl (lv_at hl 3 rfl) ?_
      refine r_iload_n C dX2_workOneYear_30 rfl (lv_at hl 1 rfl) ?_
      refine r_iload_n C dX2_workOneYear_31 rfl (lv_at hl 0 rfl) ?_
      refine r_cVWA3 C m_X2_125 (cW_payAndMend (b := b) (s := s) (y := y) (by omega) (by omega) (by have := goesFor_rg hs (m := m) (by omega) (by omega); omega) (by have := goesFor_rg hs (m := m) (by omega) (by omega); omega) rfl (by have := goesFor_rg hs (m := m) (by omega) (by omega); have := cost_rg hs (m := m) (c := ((goesFor s m))) (by have := goesFor_rg hs (m := m) (by omega) (by omega); omega) (by omega); have := hs.1 (99 + 4 * m + 2) (by omega); omega) hs) hP hD hS (wW_ad.trans wW_ad.symm) rfl rfl hl.1 dX2_workOneYear_32 (fun H locs hP hD hS => ?_)
      have hs2 : Ok (mends (pay2 s m (goesFor s m)) m (goesFor s m)) := ok_mends (ok_pay2 hs (by have := goesFor_rg hs (m := m) (by omega) (by omega); omega) (by omega) (by omega) (by omega)) (by have := goesFor_rg hs (m := m) (by omega) (by omega); omega) (by have := goesFor_rg hs (m := m) (by omega) (by omega); omega) (by omega) (by omega)
      have hi2 := hs2.1 2 (by decide)
      refine r_aload_n C dX2_workOneYear_35 rfl (lv_at hl 2 rfl) ?_
      refine g_X2_24 C hP 0 rfl rfl dX2_workOneYear_36 ?_
      refine r_iload_n C dX2_workOneYear_39 rfl (lv_at hl 3 rfl) ?_
      refine r_sipush C dX2_workOneYear_40 (by decide) ?_
      refine r_aload_n C dX2_workOneYear_43 rfl (lv_at hl 2 rfl) ?_
      refine g_X2_24 C hP 0 rfl rfl dX2_workOneYear_44 ?_
      refine r_iload_n C dX2_workOneYear_47 rfl (lv_at hl 3 rfl) ?_
      refine r_ialdV C hP 5 ((mends (pay2 s m (goesFor s m)) m (goesFor s m)) (99 + 4 * m + 2)) rfl dX2_workOneYear_48 (by omega) (by omega) (by decide) (pu_at (by omega) (by omega)) ?_
      refine r_aload_n C dX2_workOneYear_49 rfl (lv_at hl 2 rfl) ?_
      refine g_X2_30 C hP 0 rfl rfl dX2_workOneYear_50 ?_
      refine r_iadd C dX2_workOneYear_53 ?_
      refine r_mmin C m_X2_106 ⟨by decide, by decide⟩ (by have := goesFor_rg hs (m := m) (by omega) (by omega); have := hi2; have := hs2.1 (99 + 4 * m + 2) (by omega); exact ⟨by omega, by omega⟩) hl.1 dX2_workOneYear_54 ?_
      refine r_top (if (mends (pay2 s m (goesFor s m)) m (goesFor s m)) (99 + 4 * m + 2) + (mends (pay2 s m (goesFor s m)) m (goesFor s m)) 2 ≤ 9999 then (mends (pay2 s m (goesFor s m)) m (goesFor s m)) (99 + 4 * m + 2) + (mends (pay2 s m (goesFor s m)) m (goesFor s m)) 2 else 9999) (by split <;> split <;> omega) ?_
      refine r_iast C hP hD hS 5 (wW b k (up (mends (pay2 s m (goesFor s m)) m (goesFor s m)) (99 + 4 * m + 2) (if (mends (pay2 s m (goesFor s m)) m (goesFor s m)) (99 + 4 * m + 2) + (mends (pay2 s m (goesFor s m)) m (goesFor s m)) 2 ≤ 9999 then (mends (pay2 s m (goesFor s m)) m (goesFor s m)) (99 + 4 * m + 2) + (mends (pay2 s m (goesFor s m)) m (goesFor s m)) 2 else 9999)) (lB (wrF (mends (pay2 s m (goesFor s m)) m (goesFor s m)))) y) rfl dX2_workOneYear_57 (by omega) (by omega) (by decide) (wW_pu (by omega) (by omega)) (fun H locs hP hD hS => ?_)
      have er3 : wW b k (up (mends (pay2 s m (goesFor s m)) m (goesFor s m)) (99 + 4 * m + 2) (if (mends (pay2 s m (goesFor s m)) m (goesFor s m)) (99 + 4 * m + 2) + (mends (pay2 s m (goesFor s m)) m (goesFor s m)) 2 ≤ 9999 then (mends (pay2 s m (goesFor s m)) m (goesFor s m)) (99 + 4 * m + 2) + (mends (pay2 s m (goesFor s m)) m (goesFor s m)) 2 else 9999)) (lB (wrF (mends (pay2 s m (goesFor s m)) m (goesFor s m)))) y = wW b k (up (mends (pay2 s m (goesFor s m)) m (goesFor s m)) (99 + 4 * m + 2) (if (mends (pay2 s m (goesFor s m)) m (goesFor s m)) (99 + 4 * m + 2) + (mends (pay2 s m (goesFor s m)) m (goesFor s m)) 2 ≤ 9999 then (mends (pay2 s m (goesFor s m)) m (goesFor s m)) (99 + 4 * m + 2) + (mends (pay2 s m (goesFor s m)) m (goesFor s m)) 2 else 9999)) (lB (wrF (up (mends (pay2 s m (goesFor s m)) m (goesFor s m)) (99 + 4 * m + 2) (if (mends (pay2 s m (goesFor s m)) m (goesFor s m)) (99 + 4 * m + 2) + (mends (pay2 s m (goesFor s m)) m (goesFor s m)) 2 ≤ 9999 then (mends (pay2 s m (goesFor s m)) m (goesFor s m)) (99 + 4 * m + 2) + (mends (pay2 s m (goesFor s m)) m (goesFor s m)) 2 else 9999)))) y := by rw [show wrF (mends (pay2 s m (goesFor s m)) m (goesFor s m)) = wrF (up (mends (pay2 s m (goesFor s m)) m (goesFor s m)) (99 + 4 * m + 2) (if (mends (pay2 s m (goesFor s m)) m (goesFor s m)) (99 + 4 * m + 2) + (mends (pay2 s m (goesFor s m)) m (goesFor s m)) 2 ≤ 9999 then (mends (pay2 s m (goesFor s m)) m (goesFor s m)) (99 + 4 * m + 2) + (mends (pay2 s m (goesFor s m)) m (goesFor s m)) 2 else 9999)) from (wrF_o (by omega)).symm]
      have hP := va_eq hP er3
      have hD := va_eqD hD er3
      exact r_vretW C hP hS (by first | (simp only [yrW, yrG, payS, ← Int.not_lt, h1, h2, not_true_eq_false, not_false_eq_true, and_true, true_and, and_false, false_and, or_true, true_or, or_false, false_or, if_true, if_false, ne_eq, reduceIte]; done) | (exfalso; omega)) dX2_workOneYear_58
  · exact r_vretW C hP hS (by first | (simp only [yrW, yrG, payS, ← Int.not_lt, h1, not_true_eq_false, not_false_eq_true, and_true, true_and, and_false, false_and, or_true, true_or, or_false, false_or, if_true, if_false, ne_eq, reduceIte]; done) | (exfalso; omega)) dX2_workOneYear_10
set_option maxHeartbeats 4000000 in
set_option maxRecDepth 100000 in
theorem cW_passYears {n0 : Int} {dl : Int} (hn0 : 0 ≤ n0) (hn1 : n0 ≤ 100) (hdl : In32 dl) (hs : Ok s) : MW l yX2_passYears cX2_passYears 5 (some .int) 5 114 D k [.ref (b 0), .int (iI n0), .int (iI dl)] (wW b k s (lB (wrF s)) y) (wW b k (ysN s dl n0.toNat) (lB (wrF (ysN s dl n0.toNat))) y) (some (.int (iI (wrongMany (ysN s dl n0.toNat))))) := by
  refine MW.mk RX2 rfl (by decide +kernel) (Nat.le_of_ble_eq_true rfl) (fun p e U m0 below meth cd ls C hP hD hS hl => ?_)
  have hl : lv_has ls 5 [(0, .ref (b 0)), (1, .int (iI n0)), (2, .int (iI dl))] := hl
  have hdl1 := hdl.1
  have hdl2 := hdl.2
  refine r_iconst C dX2_passYears_0 ?_
  refine r_istore_n C [(3, .int (iI 0)), (0, .ref (b 0)), (1, .int (iI n0)), (2, .int (iI dl))] dX2_passYears_1 rfl hl (by decide) rfl (fun ls hl => ?_)
  refine r_loopW (fun n : Nat => [(0, .ref (b 0)), (1, .int (iI n0)), (2, .int (iI dl)), (3, .int (iI n))]) (fun n : Nat => wW b k (ysN s dl n) (lB (wrF (ysN s dl n))) y) (n0.toNat) (lv_eq (lv_sub hl [1, 2, 3, 0] rfl) rfl) (va_eq hP rfl) (va_eqD hD rfl) hS (fun n hn ihn ls H locs hl hP hD hS => ?_) (fun ls H locs hl hP hD hS => ?_)
  · have hl : lv_has ls 5 [(0, .ref (b 0)), (1, .int (iI n0)), (2, .int (iI dl)), (3, .int (iI n))] := hl
    have hP : va_P D vwCl (wW b k (ysN s dl n) (lB (wrF (ysN s dl n))) y) H := hP
    have hD : va_D _ (wW b k (ysN s dl n) (lB (wrF (ysN s dl n))) y) := hD
    have hsl : Ok (ysN s dl n) := ok_ysN hs dl n
    have h00 := hsl.1 0 (by decide)
    have h06 := hsl.2.2.1
    refine r_iload_n C dX2_passYears_2 rfl (lv_at hl 3 rfl) ?_
    refine r_iload_n C dX2_passYears_3 rfl (lv_at hl 1 rfl) ?_
    refine r_icmp_ge C (tgt := 52) dX2_passYears_4 (by decide) (by exact ⟨by omega, by omega⟩) (by exact ⟨by omega, by omega⟩) (fun h1 => ?_) (fun h1 => ?_)
    · exfalso; omega
    · refine r_aload_n C dX2_passYears_7 rfl (lv_at hl 0 rfl) ?_
      refine g_X2_46 C hP 0 rfl rfl dX2_passYears_8 ?_
      refine r_lconst C (z := 0) dX2_passYears_11 (by decide) ?_
      refine r_lzB_eq C (tgt := 52) dX2_passYears_12 dX2_passYears_13 (by decide) (fun h2 => ?_) (fun h2 => ?_)
      · have ea : Ay (ysN s dl n0.toNat) (ysN s dl n) := by
          have h8 := ys_stop (s := s) (dl := dl) (n := n) (wr_none h2) (n0.toNat - n)
          rw [show n + (n0.toNat - n) = n0.toNat by omega] at h8
          exact h8
        refine r_aload_n C dX2_passYears_52 rfl (lv_at hl 0 rfl) ?_
        refine r_cVR0 C m_X2_121 (cW_howManyWrong (b := b) (s := ysN s dl n) (y := y) ) hP rfl rfl hl.1 dX2_passYears_53 ?_
        exact r_iretW C hP hS (wW_ay ea).symm (congrArg iI (cnt_ay ea 48).symm) dX2_passYears_56
      · refine r_iconst C dX2_passYears_16 ?_
        refine r_istore C [(4, .int (iI 0)), (0, .ref (b 0)), (1, .int (iI n0)), (2, .int (iI dl)), (3, .int (iI n))] dX2_passYears_17 hl (by decide) rfl (fun ls hl => ?_)
        refine r_loopW (fun j : Nat => [(0, .ref (b 0)), (1, .int (iI n0)), (2, .int (iI dl)), (3, .int (iI n)), (4, .int (iI j))]) (fun j : Nat => wW b k (yrL (ysN s dl n) dl j) (lB (wrF (yrL (ysN s dl n) dl j))) y) (((ysN s dl n) 0).toNat) (lv_eq (lv_sub hl [1, 2, 3, 4, 0] rfl) rfl) (va_eq hP rfl) (va_eqD hD rfl) hS (fun j hj ihj ls H locs hl hP hD hS => ?_) (fun ls H locs hl hP hD hS => ?_)
        · have hl : lv_has ls 5 [(0, .ref (b 0)), (1, .int (iI n0)), (2, .int (iI dl)), (3, .int (iI n)), (4, .int (iI j))] := hl
          have hP : va_P D vwCl (wW b k (yrL (ysN s dl n) dl j) (lB (wrF (yrL (ysN s dl n) dl j))) y) H := hP
          have hD : va_D _ (wW b k (yrL (ysN s dl n) dl j) (lB (wrF (yrL (ysN s dl n) dl j))) y) := hD
          have hsj : Ok (yrL (ysN s dl n) dl j) := ok_yrL hsl dl j (by omega)
          have h01 : (yrL (ysN s dl n) dl j) 0 = (ysN s dl n) 0 := yrL_lo (by decide) j
          refine r_iload C dX2_passYears_19 (lv_at hl 4 rfl) ?_
          refine r_aload_n C dX2_passYears_21 rfl (lv_at hl 0 rfl) ?_
          refine g_X2_40 C hP 0 rfl rfl dX2_passYears_22 ?_
          refine r_icmp_ge C (tgt := 46) dX2_passYears_25 (by decide) (by exact ⟨by omega, by omega⟩) (by exact ⟨by omega, by omega⟩) (fun h3 => ?_) (fun h3 => ?_)
          · exfalso; omega
          · refine r_iload C dX2_passYears_28 (lv_at hl 4 rfl) ?_
            refine r_iload_n C dX2_passYears_30 rfl (lv_at hl 2 rfl) ?_
            refine r_icmp_eq C (tgt := 40) dX2_passYears_31 (by decide) (by exact ⟨by omega, by omega⟩) (by exact ⟨by omega, by omega⟩) (fun h4 => ?_) (fun h4 => ?_)
            · refine r_iinc C 4 [(4, .int (iI (j + 1))), (0, .ref (b 0)), (1, .int (iI n0)), (2, .int (iI dl)), (3, .int (iI n))] dX2_passYears_40 hl rfl (by decide) rfl (fun ls hl => ?_)
              refine r_goto C (tgt := 19) dX2_passYears_43 (by decide) ?_
              have ew1 : wW b k (yrL (ysN s dl n) dl j) (lB (wrF (yrL (ysN s dl n) dl j))) y = wW b k (yrL (ysN s dl n) dl (j + 1)) (lB (wrF (yrL (ysN s dl n) dl (j + 1)))) y := (by first | (simp only [yrL, yrM_w, h1, h2, h3, eq_true h4, not_true_eq_false, not_false_eq_true, and_true, true_and, and_false, false_and, or_true, true_or, or_false, false_or, if_true, if_false, ne_eq, reduceIte]; done) | (exfalso; omega))
              exact ihj ls H locs (lv_eq (lv_sub hl [1, 2, 3, 4, 0] rfl) rfl) (va_eq hP ew1) (va_eqD hD ew1) hS
            · refine r_aload_n C dX2_passYears_34 rfl (lv_at hl 0 rfl) ?_
              refine r_iload C dX2_passYears_35 (lv_at hl 4 rfl) ?_
              refine r_cVWA1 C m_X2_117 (cW_workOneYear (b := b) (s := yrL (ysN s dl n) dl j) (y := y) (by omega) (by omega) hsj) hP hD hS (wW_ad.trans wW_ad.symm) rfl rfl hl.1 dX2_passYears_37 (fun H locs hP hD hS => ?_)
              have hs2 : Ok (yrW (yrL (ysN s dl n) dl j) j) := ok_yrW hsj (by omega) (by omega)
              refine r_iinc C 4 [(4, .int (iI (j + 1))), (0, .ref (b 0)), (1, .int (iI n0)), (2, .int (iI dl)), (3, .int (iI n))] dX2_passYears_40 hl rfl (by decide) rfl (fun ls hl => ?_)
              refine r_goto C (tgt := 19) dX2_passYears_43 (by decide) ?_
              have ew3 : wW b k (yrW (yrL (ysN s dl n) dl j) j) (lB (wrF (yrW (yrL (ysN s dl n) dl j) j))) y = wW b k (yrL (ysN s dl n) dl (j + 1)) (lB (wrF (yrL (ysN s dl n) dl (j + 1)))) y := (by first | (simp only [yrL, yrM_w, h1, h2, h3, h4, not_true_eq_false, not_false_eq_true, and_true, true_and, and_false, false_and, or_true, true_or, or_false, false_or, if_true, if_false, ne_eq, reduceIte]; done) | (exfalso; omega))
              exact ihj ls H locs (lv_eq (lv_sub hl [1, 2, 3, 4, 0] rfl) rfl) (va_eq hP ew3) (va_eqD hD ew3) hS
        · have hl : lv_has ls 5 [(0, .ref (b 0)), (1, .int (iI n0)), (2, .int (iI dl)), (3, .int (iI n)), (4, .int (iI (((ysN s dl n) 0).toNat)))] := hl
          have hP : va_P D vwCl (wW b k (yrL (ysN s dl n) dl ((ysN s dl n) 0).toNat) (lB (wrF (yrL (ysN s dl n) dl ((ysN s dl n) 0).toNat))) y) H := hP
          have hD : va_D _ (wW b k (yrL (ysN s dl n) dl ((ysN s dl n) 0).toNat) (lB (wrF (yrL (ysN s dl n) dl ((ysN s dl n) 0).toNat))) y) := hD
          have hsj : Ok (yrL (ysN s dl n) dl ((ysN s dl n) 0).toNat) := ok_yrL hsl dl (((ysN s dl n) 0).toNat) (by omega)
          have h01 : (yrL (ysN s dl n) dl ((ysN s dl n) 0).toNat) 0 = (ysN s dl n) 0 := yrL_lo (by decide) (((ysN s dl n) 0).toNat)
          refine r_iload C dX2_passYears_19 (lv_at hl 4 rfl) ?_
          refine r_aload_n C dX2_passYears_21 rfl (lv_at hl 0 rfl) ?_
          refine g_X2_40 C hP 0 rfl rfl dX2_passYears_22 ?_
          refine r_icmp_ge C (tgt := 46) dX2_passYears_25 (by decide) (by exact ⟨by omega, by omega⟩) (by exact ⟨by omega, by omega⟩) (fun h5 => ?_) (fun h5 => ?_)
          · refine r_iinc C 3 [(3, .int (iI (n + 1))), (0, .ref (b 0)), (1, .int (iI n0)), (2, .int (iI dl)), (4, .int (iI (((ysN s dl n) 0).toNat)))] dX2_passYears_46 hl rfl (by decide) rfl (fun ls hl => ?_)
            refine r_goto C (tgt := 2) dX2_passYears_49 (by decide) ?_
            have ew4 : wW b k (yrL (ysN s dl n) dl ((ysN s dl n) 0).toNat) (lB (wrF (yrL (ysN s dl n) dl ((ysN s dl n) 0).toNat))) y = wW b k (ysN s dl (n + 1)) (lB (wrF (ysN s dl (n + 1)))) y := wW_year.symm
            exact ihn ls H locs (lv_eq (lv_sub hl [1, 2, 3, 0] rfl) rfl) (va_eq hP ew4) (va_eqD hD ew4) hS
          · exfalso; omega
  · have hl : lv_has ls 5 [(0, .ref (b 0)), (1, .int (iI n0)), (2, .int (iI dl)), (3, .int (iI n0.toNat))] := hl
    have hP : va_P D vwCl (wW b k (ysN s dl n0.toNat) (lB (wrF (ysN s dl n0.toNat))) y) H := hP
    have hD : va_D _ (wW b k (ysN s dl n0.toNat) (lB (wrF (ysN s dl n0.toNat))) y) := hD
    have hsl : Ok (ysN s dl n0.toNat) := ok_ysN hs dl n0.toNat
    refine r_iload_n C dX2_passYears_2 rfl (lv_at hl 3 rfl) ?_
    refine r_iload_n C dX2_passYears_3 rfl (lv_at hl 1 rfl) ?_
    refine r_icmp_ge C (tgt := 52) dX2_passYears_4 (by decide) (by exact ⟨by omega, by omega⟩) (by exact ⟨by omega, by omega⟩) (fun h6 => ?_) (fun h6 => ?_)
    · refine r_aload_n C dX2_passYears_52 rfl (lv_at hl 0 rfl) ?_
      refine r_cVR0 C m_X2_121 (cW_howManyWrong (b := b) (s := ysN s dl n0.toNat) (y := y) ) hP rfl rfl hl.1 dX2_passYears_53 ?_
      exact r_iretW C hP hS rfl rfl dX2_passYears_56
    · exfalso; omega
theorem cW_become {wr tw : Int64} : MW l yX2_become cX2_become 2 none 1 64 D k [.ref (b 0), .ref (d 0)] (wW b k s wr y ++ wW d k t tw ty) (wW b k t tw ty ++ wW d k t tw ty) none := by
  refine MW.mk RX2 rfl (by decide +kernel) (Nat.le_of_ble_eq_true rfl) (fun p e U m0 below meth cd ls C hP hD hS hl => ?_)
  have hl : lv_has ls 2 [(0, .ref (b 0)), (1, .ref (d 0))] := hl
  have hP : va_P D vwCl (wG b k (laF s) (maF s) (kiF s) (plF s) (puF s) (paF s) (s 0) y (s 2) wr ++ wW d k t tw ty) U.heap := hP
  have hD : va_D _ (wG b k (laF s) (maF s) (kiF s) (plF s) (puF s) (paF s) (s 0) y (s 2) wr ++ wW d k t tw ty) := hD
  refine r_aload_n C dX2_become_0 rfl (lv_at hl 1 rfl) ?_
  refine g_X2_9 C hP 7 rfl rfl dX2_become_1 ?_
  refine r_iconst C dX2_become_4 ?_
  refine r_aload_n C dX2_become_5 rfl (lv_at hl 0 rfl) ?_
  refine g_X2_9 C hP 0 rfl rfl dX2_become_6 ?_
  refine r_iconst C dX2_become_9 ?_
  refine r_bipush C dX2_become_10 (by decide) ?_
  refine r_acpy C hP hD hS 8 1 (wG b k (laF t) (maF s) (kiF s) (plF s) (puF s) (paF s) (s 0) y (s 2) wr ++ wW d k t tw ty) rfl rfl (la_hi t s) rfl rfl (by decide) ac_X2 hl.1 dX2_become_12 (fun H locs hP hD hS => ?_)
  refine r_aload_n C dX2_become_15 rfl (lv_at hl 1 rfl) ?_
  refine g_X2_15 C hP 7 rfl rfl dX2_become_16 ?_
  refine r_iconst C dX2_become_19 ?_
  refine r_aload_n C dX2_become_20 rfl (lv_at hl 0 rfl) ?_
  refine g_X2_15 C hP 0 rfl rfl dX2_become_21 ?_
  refine r_iconst C dX2_become_24 ?_
  refine r_bipush C dX2_become_25 (by decide) ?_
  refine r_acpy C hP hD hS 9 2 (wG b k (laF t) (maF t) (kiF s) (plF s) (puF s) (paF s) (s 0) y (s 2) wr ++ wW d k t tw ty) rfl rfl (ma_hi t s) rfl rfl (by decide) ac_X2 hl.1 dX2_become_27 (fun H locs hP hD hS => ?_)
  refine r_aload_n C dX2_become_30 rfl (lv_at hl 1 rfl) ?_
  refine g_X2_18 C hP 7 rfl rfl dX2_become_31 ?_
  refine r_iconst C dX2_become_34 ?_
  refine r_aload_n C dX2_become_35 rfl (lv_at hl 0 rfl) ?_
  refine g_X2_18 C hP 0 rfl rfl dX2_become_36 ?_
  refine r_iconst C dX2_become_39 ?_
  refine r_bipush C dX2_become_40 (by decide) ?_
  refine r_acpy C hP hD hS 10 3 (wG b k (laF t) (maF t) (kiF t) (plF s) (puF s) (paF s) (s 0) y (s 2) wr ++ wW d k t tw ty) rfl rfl (ki_hi t s) rfl rfl (by decide) ac_X2 hl.1 dX2_become_42 (fun H locs hP hD hS => ?_)
  refine r_aload_n C dX2_become_45 rfl (lv_at hl 1 rfl) ?_
  refine g_X2_21 C hP 7 rfl rfl dX2_become_46 ?_
  refine r_iconst C dX2_become_49 ?_
  refine r_aload_n C dX2_become_50 rfl (lv_at hl 0 rfl) ?_
  refine g_X2_21 C hP 0 rfl rfl dX2_become_51 ?_
  refine r_iconst C dX2_become_54 ?_
  refine r_bipush C dX2_become_55 (by decide) ?_
  refine r_acpy C hP hD hS 11 4 (wG b k (laF t) (maF t) (kiF t) (plF t) (puF s) (paF s) (s 0) y (s 2) wr ++ wW d k t tw ty) rfl rfl (pl_hi t s) rfl rfl (by decide) ac_X2 hl.1 dX2_become_57 (fun H locs hP hD hS => ?_)
  refine r_aload_n C dX2_become_60 rfl (lv_at hl 1 rfl) ?_
  refine g_X2_24 C hP 7 rfl rfl dX2_become_61 ?_
  refine r_iconst C dX2_become_64 ?_
  refine r_aload_n C dX2_become_65 rfl (lv_at hl 0 rfl) ?_
  refine g_X2_24 C hP 0 rfl rfl dX2_become_66 ?_
  refine r_iconst C dX2_become_69 ?_
  refine r_bipush C dX2_become_70 (by decide) ?_
  refine r_acpy C hP hD hS 12 5 (wG b k (laF t) (maF t) (kiF t) (plF t) (puF t) (paF s) (s 0) y (s 2) wr ++ wW d k t tw ty) rfl rfl (pu_hi t s) rfl rfl (by decide) ac_X2 hl.1 dX2_become_72 (fun H locs hP hD hS => ?_)
  refine r_aload_n C dX2_become_75 rfl (lv_at hl 1 rfl) ?_
  refine g_X2_27 C hP 7 rfl rfl dX2_become_76 ?_
  refine r_iconst C dX2_become_79 ?_
  refine r_aload_n C dX2_become_80 rfl (lv_at hl 0 rfl) ?_
  refine g_X2_27 C hP 0 rfl rfl dX2_become_81 ?_
  refine r_iconst C dX2_become_84 ?_
  refine r_bipush C dX2_become_85 (by decide) ?_
  refine r_acpy C hP hD hS 13 6 (wG b k (laF t) (maF t) (kiF t) (plF t) (puF t) (paF t) (s 0) y (s 2) wr ++ wW d k t tw ty) rfl rfl (pa_hi t s) rfl rfl (by decide) ac_X2 hl.1 dX2_become_87 (fun H locs hP hD hS => ?_)
  refine r_aload_n C dX2_become_90 rfl (lv_at hl 0 rfl) ?_
  refine r_aload_n C dX2_become_91 rfl (lv_at hl 1 rfl) ?_
  refine g_X2_40 C hP 7 rfl rfl dX2_become_92 ?_
  refine p_X2_40 C hP hD hS 0 (wG b k (laF t) (maF t) (kiF t) (plF t) (puF t) (paF t) (t 0) y (s 2) wr ++ wW d k t tw ty) rfl (Nat.le_of_ble_eq_true rfl) rfl dX2_become_95 (fun H locs hP hD hS => ?_)
  refine r_aload_n C dX2_become_98 rfl (lv_at hl 0 rfl) ?_
  refine r_aload_n C dX2_become_99 rfl (lv_at hl 1 rfl) ?_
  refine g_X2_43 C hP 7 rfl rfl dX2_become_100 ?_
  refine p_X2_43 C hP hD hS 0 (wG b k (laF t) (maF t) (kiF t) (plF t) (puF t) (paF t) (t 0) ty (s 2) wr ++ wW d k t tw ty) rfl (Nat.le_of_ble_eq_true rfl) rfl dX2_become_103 (fun H locs hP hD hS => ?_)
  refine r_aload_n C dX2_become_106 rfl (lv_at hl 0 rfl) ?_
  refine r_aload_n C dX2_become_107 rfl (lv_at hl 1 rfl) ?_
  refine g_X2_30 C hP 7 rfl rfl dX2_become_108 ?_
  refine p_X2_30 C hP hD hS 0 (wG b k (laF t) (maF t) (kiF t) (plF t) (puF t) (paF t) (t 0) ty (t 2) wr ++ wW d k t tw ty) rfl (Nat.le_of_ble_eq_true rfl) rfl dX2_become_111 (fun H locs hP hD hS => ?_)
  refine r_aload_n C dX2_become_114 rfl (lv_at hl 0 rfl) ?_
  refine r_aload_n C dX2_become_115 rfl (lv_at hl 1 rfl) ?_
  refine g_X2_46 C hP 7 rfl rfl dX2_become_116 ?_
  refine p_X2_46 C hP hD hS 0 (wG b k (laF t) (maF t) (kiF t) (plF t) (puF t) (paF t) (t 0) ty (t 2) tw ++ wW d k t tw ty) rfl (Nat.le_of_ble_eq_true rfl) rfl dX2_become_119 (fun H locs hP hD hS => ?_)
  exact r_vretW C hP hS rfl dX2_become_122
end CLASS
