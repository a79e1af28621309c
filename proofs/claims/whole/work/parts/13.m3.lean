section MODEL
variable {l : Launch} {D : va_G} {k : Nat → ClassId} {a : Nat → Nat} {s kp ot sd st sp tp bi si : Int → Int} {nu mo : Int → Int64} {ik dl tl ta fr to va iw : Int}
set_option maxHeartbeats 4000000 in
set_option maxRecDepth 100000 in
theorem cM_finds {f : Int} (hf : -1000000007 ≤ f) (hf1 : f ≤ -1000000001) : MW l yX4_finds cX4_finds 2 (some .int) 0 0 D k [.ref (a 0), .int (iI f)] (wM a k s kp ot sd st sp tp bi si nu mo ik dl tl ta fr to va iw) (wM a k s kp ot sd (fnd st f) sp tp bi si nu mo ik dl tl ta fr to va iw) (some (.int (iI f))) := by
  refine MW.mk RX4 rfl (by decide +kernel) (Nat.le_of_ble_eq_true rfl) (fun p e U m0 below meth cd ls C hP hD hS hl => ?_)
  have hl : lv_has ls 2 [(0, .ref (a 0)), (1, .int (iI f))] := hl
  refine r_aload_n C dX4_finds_0 rfl (lv_at hl 0 rfl) ?_
  refine g_X4_22 C hP 0 rfl rfl dX4_finds_1 ?_
  refine r_ldc C (-1000000001) ki_X4_48 (by decide) dX4_finds_4 ?_
  refine r_iload_n C dX4_finds_6 rfl (lv_at hl 1 rfl) ?_
  refine r_isub C dX4_finds_7 ?_
  refine r_dup2 C dX4_finds_8 rfl rfl ?_
  refine r_iald C hP 5 rfl dX4_finds_9 (by omega) (by omega) (by decide) ?_
  refine r_iconst C dX4_finds_10 ?_
  refine r_iadd C dX4_finds_11 ?_
  refine r_iast C hP hD hS 5 (wM a k s kp ot sd (up st ((-1000000001) - f) ((st ((-1000000001) - f)) + 1)) sp tp bi si nu mo ik dl tl ta fr to va iw) rfl dX4_finds_12 (by omega) (by omega) (by decide) rfl (fun H locs hP hD hS => ?_)
  refine r_iload_n C dX4_finds_13 rfl (lv_at hl 1 rfl) ?_
  exact r_iretW C hP hS (by rw [fnd]) rfl dX4_finds_14
set_option maxHeartbeats 4000000 in
set_option maxRecDepth 100000 in
theorem cM_becomes {z : Int} {v : Int} (hz : 0 ≤ z) (hz1 : z < 123) : MW l yX4_becomes cX4_becomes 4 (some .int) 0 0 D k [.ref (a 0), .int (iI z), .int (iI v)] (wM a k s kp ot sd st sp tp bi si nu mo ik dl tl ta fr to va iw) (wM a k (up s z v) kp ot sd st sp tp bi si nu mo ik dl tl ta fr to va iw) (some (.int (iI (s z)))) := by
  refine MW.mk RX4 rfl (by decide +kernel) (Nat.le_of_ble_eq_true rfl) (fun p e U m0 below meth cd ls C hP hD hS hl => ?_)
  have hl : lv_has ls 4 [(0, .ref (a 0)), (1, .int (iI z)), (2, .int (iI v))] := hl
  refine r_aload_n C dX4_becomes_0 rfl (lv_at hl 0 rfl) ?_
  refine g_X4_7 C hP 0 rfl rfl dX4_becomes_1 ?_
  refine r_iload_n C dX4_becomes_4 rfl (lv_at hl 1 rfl) ?_
  refine r_iald C hP 1 rfl dX4_becomes_5 (by omega) (by omega) (by decide) ?_
  refine r_istore_n C [(3, .int (iI (s (z)))), (0, .ref (a 0)), (1, .int (iI z)), (2, .int (iI v))] dX4_becomes_6 rfl hl (by decide) rfl (fun ls hl => ?_)
  refine r_aload_n C dX4_becomes_7 rfl (lv_at hl 1 rfl) ?_
  refine g_X4_7 C hP 0 rfl rfl dX4_becomes_8 ?_
  refine r_iload_n C dX4_becomes_11 rfl (lv_at hl 2 rfl) ?_
  refine r_iload_n C dX4_becomes_12 rfl (lv_at hl 3 rfl) ?_
  refine r_iast C hP hD hS 1 (wM a k (up s z v) kp ot sd st sp tp bi si nu mo ik dl tl ta fr to va iw) rfl dX4_becomes_13 (by omega) (by omega) (by decide) rfl (fun H locs hP hD hS => ?_)
  refine r_iload_n C dX4_becomes_14 rfl (lv_at hl 0 rfl) ?_
  exact r_iretW C hP hS rfl rfl dX4_becomes_15
set_option maxHeartbeats 4000000 in
set_option maxRecDepth 100000 in
theorem cM_thoseAt {c : Int} (hc : 0 ≤ c) (hc1 : c < 48) (hs : Ok s) : MR l yX4_thoseAt cX4_thoseAt 4 (some .int) 2 43 D k [.ref (a 0), .int (iI c)] (wM a k s kp ot sd st sp tp bi si nu mo ik dl tl ta fr to va iw) (.int (iI (thA s c (s 0).toNat))) := by
  refine MR.mk RX4 rfl (by decide +kernel) (Nat.le_of_ble_eq_true rfl) (fun p e U m0 below meth cd ls C hP hl => ?_)
  have hl : lv_has ls 4 [(0, .ref (a 0)), (1, .int (iI c))] := hl
  have h00 := hs.1 0 (by decide)
  have h06 := hs.2.2.1
  refine r_iconst C dX4_thoseAt_0 ?_
  refine r_istore_n C [(2, .int (iI 0)), (0, .ref (a 0)), (1, .int (iI c))] dX4_thoseAt_1 rfl hl (by decide) rfl (fun ls hl => ?_)
  refine r_iconst C dX4_thoseAt_2 ?_
  refine r_istore_n C [(3, .int (iI 0)), (2, .int (iI 0)), (0, .ref (a 0)), (1, .int (iI c))] dX4_thoseAt_3 rfl hl (by decide) rfl (fun ls hl => ?_)
  refine r_loopR (fun n : Nat => [(0, .ref (a 0)), (1, .int (iI c)), (2, .int (iI (thA s c n))), (3, .int (iI n))]) ((s 0).toNat) (lv_eq (lv_sub hl [2, 3, 1, 0] rfl) rfl) (fun n hn ihn ls hl => ?_) (fun ls hl => ?_)
  · have hl : lv_has ls 4 [(0, .ref (a 0)), (1, .int (iI c)), (2, .int (iI (thA s c n))), (3, .int (iI n))] := hl
    refine r_iload_n C dX4_thoseAt_4 rfl (lv_at hl 3 rfl) ?_
    refine r_aload_n C dX4_thoseAt_5 rfl (lv_at hl 0 rfl) ?_
    refine g_X4_7 C hP 0 rfl rfl dX4_thoseAt_6 ?_
    refine r_iconst C dX4_thoseAt_9 ?_
    refine r_iald C hP 1 rfl dX4_thoseAt_10 (by omega) (by omega) (by decide) ?_
    refine r_icmp_ge C (tgt := 40) dX4_thoseAt_11 (by decide) (by exact ⟨by omega, by omega⟩) (by have := hs.1 (0) (by omega); exact ⟨by omega, by omega⟩) (fun h1 => ?_) (fun h1 => ?_)
    · exfalso; omega
    · refine r_iload_n C dX4_thoseAt_14 rfl (lv_at hl 2 rfl) ?_
      refine r_aload_n C dX4_thoseAt_15 rfl (lv_at hl 0 rfl) ?_
      refine r_iload_n C dX4_thoseAt_16 rfl (lv_at hl 3 rfl) ?_
      refine r_iconst C dX4_thoseAt_17 ?_
      refine r_cVR2 C m_X4_86 (cM_its (by omega) (by omega) (by omega) (by omega)) hP rfl rfl hl.1 dX4_thoseAt_18 ?_
      refine r_iload_n C dX4_thoseAt_21 rfl (lv_at hl 1 rfl) ?_
      refine r_icmp_ne C (tgt := 31) dX4_thoseAt_22 (by decide) (by have := hs.1 (99 + 4 * n + 1) (by omega); exact ⟨by omega, by omega⟩) (by exact ⟨by omega, by omega⟩) (fun h2 => ?_) (fun h2 => ?_)
      · refine r_iconst C dX4_thoseAt_31 ?_
        refine r_ior0 C dX4_thoseAt_32 ?_
        refine r_istore_n C [(2, .int (iI (thA s c n))), (0, .ref (a 0)), (1, .int (iI c)), (3, .int (iI n))] dX4_thoseAt_33 rfl hl (by decide) rfl (fun ls hl => ?_)
        refine r_iinc C 3 [(3, .int (iI (n + 1))), (2, .int (iI (thA s c n))), (0, .ref (a 0)), (1, .int (iI c))] dX4_thoseAt_34 hl rfl (by decide) rfl (fun ls hl => ?_)
        refine r_goto C (tgt := 4) dX4_thoseAt_37 (by decide) ?_
        exact ihn ls (lv_eq (lv_sub hl [2, 3, 1, 0] rfl) (by simp only [thA, h1, h2, not_true_eq_false, not_false_eq_true, and_true, true_and, and_false, false_and, or_true, true_or, or_false, false_or, if_true, if_false, ne_eq, reduceIte, Int.add_zero]; rfl))
      · refine r_iconst C dX4_thoseAt_25 ?_
        refine r_iload_n C dX4_thoseAt_26 rfl (lv_at hl 3 rfl) ?_
        refine r_ishl1 C dX4_thoseAt_27 (by omega) (by omega) ?_
        refine r_goto C (tgt := 32) dX4_thoseAt_28 (by decide) ?_
        refine r_iorP C dX4_thoseAt_32 (by exact (thA_rg s c n).1) (by have := (thA_rg s c n).2; exact this) (by omega) ?_
        refine r_istore_n C [(2, .int (iI ((thA s c n) + (2 ^ (n : Int).toNat)))), (0, .ref (a 0)), (1, .int (iI c)), (3, .int (iI n))] dX4_thoseAt_33 rfl hl (by decide) rfl (fun ls hl => ?_)
        refine r_iinc C 3 [(3, .int (iI (n + 1))), (2, .int (iI ((thA s c n) + (2 ^ (n : Int).toNat)))), (0, .ref (a 0)), (1, .int (iI c))] dX4_thoseAt_34 hl rfl (by decide) rfl (fun ls hl => ?_)
        refine r_goto C (tgt := 4) dX4_thoseAt_37 (by decide) ?_
        exact ihn ls (lv_eq (lv_sub hl [2, 3, 1, 0] rfl) (by simp only [thA, h1, eq_true h2, not_true_eq_false, not_false_eq_true, and_true, true_and, and_false, false_and, or_true, true_or, or_false, false_or, if_true, if_false, ne_eq, reduceIte, Int.add_zero]; rfl))
  · have hl : lv_has ls 4 [(0, .ref (a 0)), (1, .int (iI c)), (2, .int (iI (thA s c (s 0).toNat))), (3, .int (iI ((s 0).toNat)))] := hl
    refine r_iload_n C dX4_thoseAt_4 rfl (lv_at hl 3 rfl) ?_
    refine r_aload_n C dX4_thoseAt_5 rfl (lv_at hl 0 rfl) ?_
    refine g_X4_7 C hP 0 rfl rfl dX4_thoseAt_6 ?_
    refine r_iconst C dX4_thoseAt_9 ?_
    refine r_iald C hP 1 rfl dX4_thoseAt_10 (by omega) (by omega) (by decide) ?_
    refine r_icmp_ge C (tgt := 40) dX4_thoseAt_11 (by decide) (by exact ⟨by omega, by omega⟩) (by have := hs.1 (0) (by omega); exact ⟨by omega, by omega⟩) (fun h3 => ?_) (fun h3 => ?_)
    · refine r_iload_n C dX4_thoseAt_40 rfl (lv_at hl 2 rfl) ?_
      exact r_iretR C rfl dX4_thoseAt_41
    · exfalso; omega
set_option maxHeartbeats 4000000 in
set_option maxRecDepth 100000 in
theorem cM_costOf {m : Int} {c : Int} (hm : 0 ≤ m) (hm1 : m < 6) (hc : 0 ≤ c) (hc1 : c < 48) (hs : Ok s) : MR l yX4_costOf cX4_costOf 7 (some .int) 2 47 D k [.ref (a 0), .int (iI m), .int (iI c)] (wM a k s kp ot sd st sp tp bi si nu mo ik dl tl ta fr to va iw) (.int (iI (cost s m c))) := by
  refine MR.mk RX4 rfl (by decide +kernel) (Nat.le_of_ble_eq_true rfl) (fun p e U m0 below meth cd ls C hP hl => ?_)
  have hl : lv_has ls 7 [(0, .ref (a 0)), (1, .int (iI m)), (2, .int (iI c))] := hl
  refine r_aload_n C dX4_costOf_0 rfl (lv_at hl 0 rfl) ?_
  refine g_X4_7 C hP 0 rfl rfl dX4_costOf_1 ?_
  refine r_iconst C dX4_costOf_4 ?_
  refine r_iload_n C dX4_costOf_5 rfl (lv_at hl 2 rfl) ?_
  refine r_iadd C dX4_costOf_6 ?_
  refine r_iald C hP 1 rfl dX4_costOf_7 (by omega) (by omega) (by decide) ?_
  refine r_istore_n C [(3, .int (iI (s (3 + c)))), (0, .ref (a 0)), (1, .int (iI m)), (2, .int (iI c))] dX4_costOf_8 rfl hl (by decide) rfl (fun ls hl => ?_)
  refine r_aload_n C dX4_costOf_9 rfl (lv_at hl 1 rfl) ?_
  refine g_X4_7 C hP 0 rfl rfl dX4_costOf_10 ?_
  refine r_bipush C dX4_costOf_13 (by decide) ?_
  refine r_iload_n C dX4_costOf_15 rfl (lv_at hl 3 rfl) ?_
  refine r_iadd C dX4_costOf_16 ?_
  refine r_iald C hP 1 rfl dX4_costOf_17 (by omega) (by omega) (by decide) ?_
  refine r_istore C [(4, .int (iI (s (51 + c)))), (3, .int (iI (s (3 + c)))), (0, .ref (a 0)), (1, .int (iI m)), (2, .int (iI c))] dX4_costOf_18 hl (by decide) rfl (fun ls hl => ?_)
  refine r_iconst C dX4_costOf_20 ?_
  refine r_iload_n C dX4_costOf_21 rfl (lv_at hl 1 rfl) ?_
  refine r_iload C dX4_costOf_22 (lv_at hl 0 rfl) ?_
  refine r_icmp_ge C (tgt := 34) dX4_costOf_24 (by decide) (by have := hs.1 (3 + c) (by omega); exact ⟨by omega, by omega⟩) (by have := hs.1 (51 + c) (by omega); exact ⟨by omega, by omega⟩) (fun h1 => ?_) (fun h1 => ?_)
  · refine r_iload_n C dX4_costOf_34 rfl (lv_at hl 1 rfl) ?_
    refine r_iload C dX4_costOf_35 (lv_at hl 0 rfl) ?_
    refine r_isub C dX4_costOf_37 ?_
    refine r_imul C dX4_costOf_38 ?_
    refine r_iconst C dX4_costOf_39 ?_
    refine r_iadd C dX4_costOf_40 ?_
    refine r_istore C [(5, .int (iI ((3 * ((s (3 + c)) - (s (51 + c)))) + 2))), (4, .int (iI (s (51 + c)))), (3, .int (iI (s (3 + c)))), (0, .ref (a 0)), (1, .int (iI m)), (2, .int (iI c))] dX4_costOf_41 hl (by decide) rfl (fun ls hl => ?_)
    refine r_iload_n C dX4_costOf_43 rfl (lv_at hl 2 rfl) ?_
    refine r_iconst C dX4_costOf_44 ?_
    refine r_icmp_eq C (tgt := 54) dX4_costOf_45 (by decide) (by have := hs.1 (3 + c) (by omega); exact ⟨by omega, by omega⟩) ⟨by decide, by decide⟩ (fun h2 => ?_) (fun h2 => ?_)
    · refine r_iload C dX4_costOf_54 (lv_at hl 0 rfl) ?_
      refine r_iconst C dX4_costOf_56 ?_
      refine r_idiv C dX4_costOf_57 (by have := hs.1 (3 + c) (by omega); have := hs.1 (51 + c) (by omega); omega) (by have := hs.1 (3 + c) (by omega); have := hs.1 (51 + c) (by omega); omega) (by omega) (by omega) ?_
      refine r_goto C (tgt := 63) dX4_costOf_58 (by decide) ?_
      refine r_istore C [(6, .int (iI (((3 * ((s (3 + c)) - (s (51 + c)))) + 2) / 2))), (5, .int (iI ((3 * ((s (3 + c)) - (s (51 + c)))) + 2))), (4, .int (iI (s (51 + c)))), (3, .int (iI (s (3 + c)))), (0, .ref (a 0)), (1, .int (iI m)), (2, .int (iI c))] dX4_costOf_63 hl (by decide) rfl (fun ls hl => ?_)
      refine r_aload_n C dX4_costOf_65 rfl (lv_at hl 4 rfl) ?_
      refine r_iload_n C dX4_costOf_66 rfl (lv_at hl 5 rfl) ?_
      refine r_iconst C dX4_costOf_67 ?_
      refine r_cVR2 C m_X4_86 (cM_its (by omega) (by omega) (by omega) (by omega)) hP rfl rfl hl.1 dX4_costOf_68 ?_
      by_cases h3 : s (99 + 4 * m + 0) = 1
      · refine r_tableIn C (1) h3 dX4_costOf_71 (by decide) (by decide) rfl (tgt := 104) (by decide) ?_
        refine r_iload C dX4_costOf_104 (lv_at hl 0 rfl) ?_
        exact r_iretR C (congrArg iI (by simp only [cost, dugC, plainC, h1, eq_true h2, eq_true h3, not_true_eq_false, not_false_eq_true, and_true, true_and, and_false, false_and, or_true, true_or, or_false, false_or, if_true, if_false, ne_eq, reduceIte])) dX4_costOf_106
      by_cases h4 : s (99 + 4 * m + 0) = 2
      · refine r_tableIn C (2) h4 dX4_costOf_71 (by decide) (by decide) rfl (tgt := 107) (by decide) ?_
        refine r_iload C dX4_costOf_107 (lv_at hl 1 rfl) ?_
        refine r_aload_n C dX4_costOf_109 rfl (lv_at hl 4 rfl) ?_
        refine r_iload_n C dX4_costOf_110 rfl (lv_at hl 6 rfl) ?_
        refine r_cVR1 C m_X4_80 (cM_wrongBeside (by omega) (by omega) hs) hP rfl rfl hl.1 dX4_costOf_111 ?_
        refine r_iadd C dX4_costOf_114 ?_
        exact r_iretR C (congrArg iI (by simp only [cost, dugC, plainC, h1, eq_true h2, h3, eq_true h4, not_true_eq_false, not_false_eq_true, and_true, true_and, and_false, false_and, or_true, true_or, or_false, false_or, if_true, if_false, ne_eq, reduceIte])) dX4_costOf_115
      by_cases h5 : s (99 + 4 * m + 0) = 3
      · refine r_tableIn C (3) h5 dX4_costOf_71 (by decide) (by decide) rfl (tgt := 116) (by decide) ?_
        refine r_iconst C dX4_costOf_116 ?_
        refine r_iconst C dX4_costOf_117 ?_
        refine r_aload_n C dX4_costOf_118 rfl (lv_at hl 4 rfl) ?_
        refine r_iload_n C dX4_costOf_119 rfl (lv_at hl 6 rfl) ?_
        refine r_cVR1 C m_X4_80 (cM_wrongBeside (by omega) (by omega) hs) hP rfl rfl hl.1 dX4_costOf_120 ?_
        refine r_iadd C dX4_costOf_123 ?_
        refine r_imul C dX4_costOf_124 ?_
        exact r_iretR C (congrArg iI (by simp only [cost, dugC, plainC, h1, eq_true h2, h3, h4, eq_true h5, not_true_eq_false, not_false_eq_true, and_true, true_and, and_false, false_and, or_true, true_or, or_false, false_or, if_true, if_false, ne_eq, reduceIte])) dX4_costOf_125
      by_cases h6 : s (99 + 4 * m + 0) = 4
      · refine r_tableIn C (4) h6 dX4_costOf_71 (by decide) (by decide) rfl (tgt := 126) (by decide) ?_
        refine r_iload_n C dX4_costOf_126 rfl (lv_at hl 3 rfl) ?_
        refine r_iconst C dX4_costOf_127 ?_
        refine r_icmp_eq C (tgt := 137) dX4_costOf_128 (by decide) (by have := hs.1 (3 + c) (by omega); exact ⟨by omega, by omega⟩) ⟨by decide, by decide⟩ (fun h7 => ?_) (fun h7 => ?_)
        · refine r_iload C dX4_costOf_137 (lv_at hl 0 rfl) ?_
          refine r_iconst C dX4_costOf_139 ?_
          refine r_isub C dX4_costOf_140 ?_
          refine r_cSR1 C m_X4_100 (cM_atLeastOne (by have := hs.1 (3 + c) (by omega); have := hs.1 (51 + c) (by omega); exact ⟨by omega, by omega⟩)) pn0 hl.1 dX4_costOf_141 ?_
          refine r_goto C (tgt := 149) dX4_costOf_144 (by decide) ?_
          exact r_iretR C (congrArg iI (by simp only [cost, dugC, plainC, h1, eq_true h2, h3, h4, h5, eq_true h6, eq_true h7, not_true_eq_false, not_false_eq_true, and_true, true_and, and_false, false_and, or_true, true_or, or_false, false_or, if_true, if_false, ne_eq, reduceIte])) dX4_costOf_149
        · refine r_iload C dX4_costOf_131 (lv_at hl 2 rfl) ?_
          refine r_iconst C dX4_costOf_133 ?_
          refine r_icmp_ne C (tgt := 147) dX4_costOf_134 (by decide) (by have := hs.1 (51 + c) (by omega); exact ⟨by omega, by omega⟩) ⟨by decide, by decide⟩ (fun h8 => ?_) (fun h8 => ?_)
          · refine r_iload C dX4_costOf_147 (lv_at hl 0 rfl) ?_
            exact r_iretR C (congrArg iI (by simp only [cost, dugC, plainC, h1, eq_true h2, h3, h4, h5, eq_true h6, h7, h8, not_true_eq_false, not_false_eq_true, and_true, true_and, and_false, false_and, or_true, true_or, or_false, false_or, if_true, if_false, ne_eq, reduceIte])) dX4_costOf_149
          · refine r_iload C dX4_costOf_137 (lv_at hl 0 rfl) ?_
            refine r_iconst C dX4_costOf_139 ?_
            refine r_isub C dX4_costOf_140 ?_
            refine r_cSR1 C m_X4_100 (cM_atLeastOne (by have := hs.1 (3 + c) (by omega); have := hs.1 (51 + c) (by omega); exact ⟨by omega, by omega⟩)) pn0 hl.1 dX4_costOf_141 ?_
            refine r_goto C (tgt := 149) dX4_costOf_144 (by decide) ?_
            exact r_iretR C (congrArg iI (by simp only [cost, dugC, plainC, h1, eq_true h2, h3, h4, h5, eq_true h6, h7, eq_true h8, not_true_eq_false, not_false_eq_true, and_true, true_and, and_false, false_and, or_true, true_or, or_false, false_or, if_true, if_false, ne_eq, reduceIte])) dX4_costOf_149
      by_cases h9 : s (99 + 4 * m + 0) = 5
      · refine r_tableIn C (5) h9 dX4_costOf_71 (by decide) (by decide) rfl (tgt := 150) (by decide) ?_
        refine r_iload C dX4_costOf_150 (lv_at hl 1 rfl) ?_
        refine r_aload_n C dX4_costOf_152 rfl (lv_at hl 4 rfl) ?_
        refine r_iload_n C dX4_costOf_153 rfl (lv_at hl 6 rfl) ?_
        refine r_cVR1 C m_X4_80 (cM_wrongBeside (by omega) (by omega) hs) hP rfl rfl hl.1 dX4_costOf_154 ?_
        refine r_iadd C dX4_costOf_157 ?_
        refine r_aload_n C dX4_costOf_158 rfl (lv_at hl 4 rfl) ?_
        refine r_iload_n C dX4_costOf_159 rfl (lv_at hl 5 rfl) ?_
        refine r_iconst C dX4_costOf_160 ?_
        refine r_cVR2 C m_X4_86 (cM_its (by omega) (by omega) (by omega) (by omega)) hP rfl rfl hl.1 dX4_costOf_161 ?_
        refine r_bipush C dX4_costOf_164 (by decide) ?_
        refine r_idiv C dX4_costOf_166 (by have := hs.1 (99 + 4 * m + 2) (by omega); omega) (by have := hs.1 (99 + 4 * m + 2) (by omega); omega) (by omega) (by omega) ?_
        refine r_isub C dX4_costOf_167 ?_
        refine r_cSR1 C m_X4_100 (cM_atLeastOne (by have := hs.1 (3 + c) (by omega); have := hs.1 (51 + c) (by omega); have := wrongBeside_rg s c; have := hs.1 (99 + 4 * m + 2) (by omega); exact ⟨by omega, by omega⟩)) pn0 hl.1 dX4_costOf_168 ?_
        exact r_iretR C (congrArg iI (by simp only [cost, dugC, plainC, h1, eq_true h2, h3, h4, h5, h6, eq_true h9, not_true_eq_false, not_false_eq_true, and_true, true_and, and_false, false_and, or_true, true_or, or_false, false_or, if_true, if_false, ne_eq, reduceIte])) dX4_costOf_171
      refine r_tableOut C dX4_costOf_71 (by have := hs.1 (99 + 4 * m + 0) (by omega); exact ⟨by omega, by omega⟩) (by omega) (tgt := 172) (by decide) ?_
      refine r_iload C dX4_costOf_172 (lv_at hl 1 rfl) ?_
      exact r_iretR C (congrArg iI (by simp only [cost, dugC, plainC, h1, eq_true h2, h3, h4, h5, h6, h9, not_true_eq_false, not_false_eq_true, and_true, true_and, and_false, false_and, or_true, true_or, or_false, false_or, if_true, if_false, ne_eq, reduceIte])) dX4_costOf_174
    · refine r_iload C dX4_costOf_48 (lv_at hl 1 rfl) ?_
      refine r_iconst C dX4_costOf_50 ?_
      refine r_icmp_ne C (tgt := 61) dX4_costOf_51 (by decide) (by have := hs.1 (51 + c) (by omega); exact ⟨by omega, by omega⟩) ⟨by decide, by decide⟩ (fun h10 => ?_) (fun h10 => ?_)
      · refine r_iload C dX4_costOf_61 (lv_at hl 0 rfl) ?_
        refine r_istore C [(6, .int (iI ((3 * ((s (3 + c)) - (s (51 + c)))) + 2))), (5, .int (iI ((3 * ((s (3 + c)) - (s (51 + c)))) + 2))), (4, .int (iI (s (51 + c)))), (3, .int (iI (s (3 + c)))), (0, .ref (a 0)), (1, .int (iI m)), (2, .int (iI c))] dX4_costOf_63 hl (by decide) rfl (fun ls hl => ?_)
        refine r_aload_n C dX4_costOf_65 rfl (lv_at hl 4 rfl) ?_
        refine r_iload_n C dX4_costOf_66 rfl (lv_at hl 5 rfl) ?_
        refine r_iconst C dX4_costOf_67 ?_
        refine r_cVR2 C m_X4_86 (cM_its (by omega) (by omega) (by omega) (by omega)) hP rfl rfl hl.1 dX4_costOf_68 ?_
        by_cases h11 : s (99 + 4 * m + 0) = 1
        · refine r_tableIn C (1) h11 dX4_costOf_71 (by decide) (by decide) rfl (tgt := 104) (by decide) ?_
          refine r_iload C dX4_costOf_104 (lv_at hl 0 rfl) ?_
          exact r_iretR C (congrArg iI (by simp only [cost, dugC, plainC, h1, h2, h10, eq_true h11, not_true_eq_false, not_false_eq_true, and_true, true_and, and_false, false_and, or_true, true_or, or_false, false_or, if_true, if_false, ne_eq, reduceIte])) dX4_costOf_106
        by_cases h12 : s (99 + 4 * m + 0) = 2
        · refine r_tableIn C (2) h12 dX4_costOf_71 (by decide) (by decide) rfl (tgt := 107) (by decide) ?_
          refine r_iload C dX4_costOf_107 (lv_at hl 1 rfl) ?_
          refine r_aload_n C dX4_costOf_109 rfl (lv_at hl 4 rfl) ?_
          refine r_iload_n C dX4_costOf_110 rfl (lv_at hl 6 rfl) ?_
          refine r_cVR1 C m_X4_80 (cM_wrongBeside (by omega) (by omega) hs) hP rfl rfl hl.1 dX4_costOf_111 ?_
          refine r_iadd C dX4_costOf_114 ?_
          exact r_iretR C (congrArg iI (by simp only [cost, dugC, plainC, h1, h2, h10, h11, eq_true h12, not_true_eq_false, not_false_eq_true, and_true, true_and, and_false, false_and, or_true, true_or, or_false, false_or, if_true, if_false, ne_eq, reduceIte])) dX4_costOf_115
        by_cases h13 : s (99 + 4 * m + 0) = 3
        · refine r_tableIn C (3) h13 dX4_costOf_71 (by decide) (by decide) rfl (tgt := 116) (by decide) ?_
          refine r_iconst C dX4_costOf_116 ?_
          refine r_iconst C dX4_costOf_117 ?_
          refine r_aload_n C dX4_costOf_118 rfl (lv_at hl 4 rfl) ?_
          refine r_iload_n C dX4_costOf_119 rfl (lv_at hl 6 rfl) ?_
          refine r_cVR1 C m_X4_80 (cM_wrongBeside (by omega) (by omega) hs) hP rfl rfl hl.1 dX4_costOf_120 ?_
          refine r_iadd C dX4_costOf_123 ?_
          refine r_imul C dX4_costOf_124 ?_
          exact r_iretR C (congrArg iI (by simp only [cost, dugC, plainC, h1, h2, h10, h11, h12, eq_true h13, not_true_eq_false, not_false_eq_true, and_true, true_and, and_false, false_and, or_true, true_or, or_false, false_or, if_true, if_false, ne_eq, reduceIte])) dX4_costOf_125
        by_cases h14 : s (99 + 4 * m + 0) = 4
        · refine r_tableIn C (4) h14 dX4_costOf_71 (by decide) (by decide) rfl (tgt := 126) (by decide) ?_
          refine r_iload_n C dX4_costOf_126 rfl (lv_at hl 3 rfl) ?_
          refine r_iconst C dX4_costOf_127 ?_
          refine r_icmp_eq C (tgt := 137) dX4_costOf_128 (by decide) (by have := hs.1 (3 + c) (by omega); exact ⟨by omega, by omega⟩) ⟨by decide, by decide⟩ (fun h15 => ?_) (fun h15 => ?_)
          · refine r_iload C dX4_costOf_137 (lv_at hl 0 rfl) ?_
            refine r_iconst C dX4_costOf_139 ?_
            refine r_isub C dX4_costOf_140 ?_
            refine r_cSR1 C m_X4_100 (cM_atLeastOne (by have := hs.1 (3 + c) (by omega); have := hs.1 (51 + c) (by omega); exact ⟨by omega, by omega⟩)) pn0 hl.1 dX4_costOf_141 ?_
            refine r_goto C (tgt := 149) dX4_costOf_144 (by decide) ?_
            exact r_iretR C (congrArg iI (by simp only [cost, dugC, plainC, h1, h2, h10, h11, h12, h13, eq_true h14, eq_true h15, not_true_eq_false, not_false_eq_true, and_true, true_and, and_false, false_and, or_true, true_or, or_false, false_or, if_true, if_false, ne_eq, reduceIte])) dX4_costOf_149
          · refine r_iload C dX4_costOf_131 (lv_at hl 2 rfl) ?_
            refine r_iconst C dX4_costOf_133 ?_
            refine r_icmp_ne C (tgt := 147) dX4_costOf_134 (by decide) (by have := hs.1 (51 + c) (by omega); exact ⟨by omega, by omega⟩) ⟨by decide, by decide⟩ (fun h16 => ?_) (fun h16 => ?_)
            · refine r_iload C dX4_costOf_147 (lv_at hl 0 rfl) ?_
              exact r_iretR C (congrArg iI (by simp only [cost, dugC, plainC, h1, h2, h10, h11, h12, h13, eq_true h14, h15, h16, not_true_eq_false, not_false_eq_true, and_true, true_and, and_false, false_and, or_true, true_or, or_false, false_or, if_true, if_false, ne_eq, reduceIte])) dX4_costOf_149
            · refine r_iload C dX4_costOf_137 (lv_at hl 0 rfl) ?_
              refine r_iconst C dX4_costOf_139 ?_
              refine r_isub C dX4_costOf_140 ?_
              refine r_cSR1 C m_X4_100 (cM_atLeastOne (by have := hs.1 (3 + c) (by omega); have := hs.1 (51 + c) (by omega); exact ⟨by omega, by omega⟩)) pn0 hl.1 dX4_costOf_141 ?_
              refine r_goto C (tgt := 149) dX4_costOf_144 (by decide) ?_
              exact r_iretR C (congrArg iI (by simp only [cost, dugC, plainC, h1, h2, h10, h11, h12, h13, eq_true h14, h15, eq_true h16, not_true_eq_false, not_false_eq_true, and_true, true_and, and_false, false_and, or_true, true_or, or_false, false_or, if_true, if_false, ne_eq, reduceIte])) dX4_costOf_149
        by_cases h17 : s (99 + 4 * m + 0) = 5
        · refine r_tableIn C (5) h17 dX4_costOf_71 (by decide) (by decide) rfl (tgt := 150) (by decide) ?_
          refine r_iload C dX4_costOf_150 (lv_at hl 1 rfl) ?_
          refine r_aload_n C dX4_costOf_152 rfl (lv_at hl 4 rfl) ?_
          refine r_iload_n C dX4_costOf_153 rfl (lv_at hl 6 rfl) ?_
          refine r_cVR1 C m_X4_80 (cM_wrongBeside (by omega) (by omega) hs) hP rfl rfl hl.1 dX4_costOf_154 ?_
          refine r_iadd C dX4_costOf_157 ?_
          refine r_aload_n C dX4_costOf_158 rfl (lv_at hl 4 rfl) ?_
          refine r_iload_n C dX4_costOf_159 rfl (lv_at hl 5 rfl) ?_
          refine r_iconst C dX4_costOf_160 ?_
          refine r_cVR2 C m_X4_86 (cM_its (by omega) (by omega) (by omega) (by omega)) hP rfl rfl hl.1 dX4_costOf_161 ?_
          refine r_bipush C dX4_costOf_164 (by decide) ?_
          refine r_idiv C dX4_costOf_166 (by have := hs.1 (99 + 4 * m + 2) (by omega); omega) (by have := hs.1 (99 + 4 * m + 2) (by omega); omega) (by omega) (by omega) ?_
          refine r_isub C dX4_costOf_167 ?_
          refine r_cSR1 C m_X4_100 (cM_atLeastOne (by have := hs.1 (3 + c) (by omega); have := hs.1 (51 + c) (by omega); have := wrongBeside_rg s c; have := hs.1 (99 + 4 * m + 2) (by omega); exact ⟨by omega, by omega⟩)) pn0 hl.1 dX4_costOf_168 ?_
          exact r_iretR C (congrArg iI (by simp only [cost, dugC, plainC, h1, h2, h10, h11, h12, h13, h14, eq_true h17, not_true_eq_false, not_false_eq_true, and_true, true_and, and_false, false_and, or_true, true_or, or_false, false_or, if_true, if_false, ne_eq, reduceIte])) dX4_costOf_171
        refine r_tableOut C dX4_costOf_71 (by have := hs.1 (99 + 4 * m + 0) (by omega); exact ⟨by omega, by omega⟩) (by omega) (tgt := 172) (by decide) ?_
        refine r_iload C dX4_costOf_172 (lv_at hl 1 rfl) ?_
        exact r_iretR C (congrArg iI (by simp only [cost, dugC, plainC, h1, h2, h10, h11, h12, h13, h14, h17, not_true_eq_false, not_false_eq_true, and_true, true_and, and_false, false_and, or_true, true_or, or_false, false_or, if_true, if_false, ne_eq, reduceIte])) dX4_costOf_174
      · refine r_iload C dX4_costOf_54 (lv_at hl 0 rfl) ?_
        refine r_iconst C dX4_costOf_56 ?_
        refine r_idiv C dX4_costOf_57 (by have := hs.1 (3 + c) (by omega); have := hs.1 (51 + c) (by omega); omega) (by have := hs.1 (3 + c) (by omega); have := hs.1 (51 + c) (by omega); omega) (by omega) (by omega) ?_
        refine r_goto C (tgt := 63) dX4_costOf_58 (by decide) ?_
        refine r_istore C [(6, .int (iI (((3 * ((s (3 + c)) - (s (51 + c)))) + 2) / 2))), (5, .int (iI ((3 * ((s (3 + c)) - (s (51 + c)))) + 2))), (4, .int (iI (s (51 + c)))), (3, .int (iI (s (3 + c)))), (0, .ref (a 0)), (1, .int (iI m)), (2, .int (iI c))] dX4_costOf_63 hl (by decide) rfl (fun ls hl => ?_)
        refine r_aload_n C dX4_costOf_65 rfl (lv_at hl 4 rfl) ?_
        refine r_iload_n C dX4_costOf_66 rfl (lv_at hl 5 rfl) ?_
        refine r_iconst C dX4_costOf_67 ?_
        refine r_cVR2 C m_X4_86 (cM_its (by omega) (by omega) (by omega) (by omega)) hP rfl rfl hl.1 dX4_costOf_68 ?_
        by_cases h18 : s (99 + 4 * m + 0) = 1
        · refine r_tableIn C (1) h18 dX4_costOf_71 (by decide) (by decide) rfl (tgt := 104) (by decide) ?_
          refine r_iload C dX4_costOf_104 (lv_at hl 0 rfl) ?_
          exact r_iretR C (congrArg iI (by simp only [cost, dugC, plainC, h1, h2, eq_true h10, eq_true h18, not_true_eq_false, not_false_eq_true, and_true, true_and, and_false, false_and, or_true, true_or, or_false, false_or, if_true, if_false, ne_eq, reduceIte])) dX4_costOf_106
        by_cases h19 : s (99 + 4 * m + 0) = 2
        · refine r_tableIn C (2) h19 dX4_costOf_71 (by decide) (by decide) rfl (tgt := 107) (by decide) ?_
          refine r_iload C dX4_costOf_107 (lv_at hl 1 rfl) ?_
          refine r_aload_n C dX4_costOf_109 rfl (lv_at hl 4 rfl) ?_
          refine r_iload_n C dX4_costOf_110 rfl (lv_at hl 6 rfl) ?_
          refine r_cVR1 C m_X4_80 (cM_wrongBeside (by omega) (by omega) hs) hP rfl rfl hl.1 dX4_costOf_111 ?_
          refine r_iadd C dX4_costOf_114 ?_
          exact r_iretR C (congrArg iI (by simp only [cost, dugC, plainC, h1, h2, eq_true h10, h18, eq_true h19, not_true_eq_false, not_false_eq_true, and_true, true_and, and_false, false_and, or_true, true_or, or_false, false_or, if_true, if_false, ne_eq, reduceIte])) dX4_costOf_115
        by_cases h20 : s (99 + 4 * m + 0) = 3
        · refine r_tableIn C (3) h20 dX4_costOf_71 (by decide) (by decide) rfl (tgt := 116) (by decide) ?_
          refine r_iconst C dX4_costOf_116 ?_
          refine r_iconst C dX4_costOf_117 ?_
          refine r_aload_n C dX4_costOf_118 rfl (lv_at hl 4 rfl) ?_
          refine r_iload_n C dX4_costOf_119 rfl (lv_at hl 6 rfl) ?_
          refine r_cVR1 C m_X4_80 (cM_wrongBeside (by omega) (by omega) hs) hP rfl rfl hl.1 dX4_costOf_120 ?_
          refine r_iadd C dX4_costOf_123 ?_
          refine r_imul C dX4_costOf_124 ?_
          exact r_iretR C (congrArg iI (by simp only [cost, dugC, plainC, h1, h2, eq_true h10, h18, h19, eq_true h20, not_true_eq_false, not_false_eq_true, and_true, true_and, and_false, false_and, or_true, true_or, or_false, false_or, if_true, if_false, ne_eq, reduceIte])) dX4_costOf_125
        by_cases h21 : s (99 + 4 * m + 0) = 4
        · refine r_tableIn C (4) h21 dX4_costOf_71 (by decide) (by decide) rfl (tgt := 126) (by decide) ?_
          refine r_iload_n C dX4_costOf_126 rfl (lv_at hl 3 rfl) ?_
          refine r_iconst C dX4_costOf_127 ?_
          refine r_icmp_eq C (tgt := 137) dX4_costOf_128 (by decide) (by have := hs.1 (3 + c) (by omega); exact ⟨by omega, by omega⟩) ⟨by decide, by decide⟩ (fun h22 => ?_) (fun h22 => ?_)
          · refine r_iload C dX4_costOf_137 (lv_at hl 0 rfl) ?_
            refine r_iconst C dX4_costOf_139 ?_
            refine r_isub C dX4_costOf_140 ?_
            refine r_cSR1 C m_X4_100 (cM_atLeastOne (by have := hs.1 (3 + c) (by omega); have := hs.1 (51 + c) (by omega); exact ⟨by omega, by omega⟩)) pn0 hl.1 dX4_costOf_141 ?_
            refine r_goto C (tgt := 149) dX4_costOf_144 (by decide) ?_
            exact r_iretR C (congrArg iI (by simp only [cost, dugC, plainC, h1, h2, eq_true h10, h18, h19, h20, eq_true h21, eq_true h22, not_true_eq_false, not_false_eq_true, and_true, true_and, and_false, false_and, or_true, true_or, or_false, false_or, if_true, if_false, ne_eq, reduceIte])) dX4_costOf_149
          · refine r_iload C dX4_costOf_131 (lv_at hl 2 rfl) ?_
            refine r_iconst C dX4_costOf_133 ?_
            refine r_icmp_ne C (tgt := 147) dX4_costOf_134 (by decide) (by have := hs.1 (51 + c) (by omega); exact ⟨by omega, by omega⟩) ⟨by decide, by decide⟩ (fun h23 => ?_) (fun h23 => ?_)
            · refine r_iload C dX4_costOf_147 (lv_at hl 0 rfl) ?_
              exact r_iretR C (congrArg iI (by simp only [cost, dugC, plainC, h1, h2, eq_true h10, h18, h19, h20, eq_true h21, h22, h23, not_true_eq_false, not_false_eq_true, and_true, true_and, and_false, false_and, or_true, true_or, or_false, false_or, if_true, if_false, ne_eq, reduceIte])) dX4_costOf_149
            · refine r_iload C dX4_costOf_137 (lv_at hl 0 rfl) ?_
              refine r_iconst C dX4_costOf_139 ?_
              refine r_isub C dX4_costOf_140 ?_
              refine r_cSR1 C m_X4_100 (cM_atLeastOne (by have := hs.1 (3 + c) (by omega); have := hs.1 (51 + c) (by omega); exact ⟨by omega, by omega⟩)) pn0 hl.1 dX4_costOf_141 ?_
              refine r_goto C (tgt := 149) dX4_costOf_144 (by decide) ?_
              exact r_iretR C (congrArg iI (by simp only [cost, dugC, plainC, h1, h2, eq_true h10, h18, h19, h20, eq_true h21, h22, eq_true h23, not_true_eq_false, not_false_eq_true, and_true, true_and, and_false, false_and, or_true, true_or, or_false, false_or, if_true, if_false, ne_eq, reduceIte])) dX4_costOf_149
        by_cases h24 : s (99 + 4 * m + 0) = 5
        · refine r_tableIn C (5) h24 dX4_costOf_71 (by decide) (by decide) rfl (tgt := 150) (by decide) ?_
          refine r_iload C dX4_costOf_150 (lv_at hl 1 rfl) ?_
          refine r_aload_n C dX4_costOf_152 rfl (lv_at hl 4 rfl) ?_
          refine r_iload_n C dX4_costOf_153 rfl (lv_at hl 6 rfl) ?_
          refine r_cVR1 C m_X4_80 (cM_wrongBeside (by omega) (by omega) hs) hP rfl rfl hl.1 dX4_costOf_154 ?_
          refine r_iadd C dX4_costOf_157 ?_
          refine r_aload_n C dX4_costOf_158 rfl (lv_at hl 4 rfl) ?_
          refine r_iload_n C dX4_costOf_159 rfl (lv_at hl 5 rfl) ?_
          refine r_iconst C dX4_costOf_160 ?_
          refine r_cVR2 C m_X4_86 (cM_its (by omega) (by omega) (by omega) (by omega)) hP rfl rfl hl.1 dX4_costOf_161 ?_
          refine r_bipush C dX4_costOf_164 (by decide) ?_
          refine r_idiv C dX4_costOf_166 (by have := hs.1 (99 + 4 * m + 2) (by omega); omega) (by have := hs.1 (99 + 4 * m + 2) (by omega); omega) (by omega) (by omega) ?_
          refine r_isub C dX4_costOf_167 ?_
          refine r_cSR1 C m_X4_100 (cM_atLeastOne (by have := hs.1 (3 + c) (by omega); have := hs.1 (51 + c) (by omega); have := wrongBeside_rg s c; have := hs.1 (99 + 4 * m + 2) (by omega); exact ⟨by omega, by omega⟩)) pn0 hl.1 dX4_costOf_168 ?_
          exact r_iretR C (congrArg iI (by simp only [cost, dugC, plainC, h1, h2, eq_true h10, h18, h19, h20, h21, eq_true h24, not_true_eq_false, not_false_eq_true, and_true, true_and, and_false, false_and, or_true, true_or, or_false, false_or, if_true, if_false, ne_eq, reduceIte])) dX4_costOf_171
        refine r_tableOut C dX4_costOf_71 (by have := hs.1 (99 + 4 * m + 0) (by omega); exact ⟨by omega, by omega⟩) (by omega) (tgt := 172) (by decide) ?_
        refine r_iload C dX4_costOf_172 (lv_at hl 1 rfl) ?_
        exact r_iretR C (congrArg iI (by simp only [cost, dugC, plainC, h1, h2, eq_true h10, h18, h19, h20, h21, h24, not_true_eq_false, not_false_eq_true, and_true, true_and, and_false, false_and, or_true, true_or, or_false, false_or, if_true, if_false, ne_eq, reduceIte])) dX4_costOf_174
  · refine r_iload C dX4_costOf_27 (lv_at hl 0 rfl) ?_
    refine r_iload_n C dX4_costOf_29 rfl (lv_at hl 1 rfl) ?_
    refine r_isub C dX4_costOf_30 ?_
    refine r_goto C (tgt := 38) dX4_costOf_31 (by decide) ?_
    refine r_imul C dX4_costOf_38 ?_
    refine r_iconst C dX4_costOf_39 ?_
    refine r_iadd C dX4_costOf_40 ?_
    refine r_istore C [(5, .int (iI ((3 * ((s (51 + c)) - (s (3 + c)))) + 2))), (4, .int (iI (s (51 + c)))), (3, .int (iI (s (3 + c)))), (0, .ref (a 0)), (1, .int (iI m)), (2, .int (iI c))] dX4_costOf_41 hl (by decide) rfl (fun ls hl => ?_)
    refine r_iload_n C dX4_costOf_43 rfl (lv_at hl 2 rfl) ?_
    refine r_iconst C dX4_costOf_44 ?_
    refine r_icmp_eq C (tgt := 54) dX4_costOf_45 (by decide) (by have := hs.1 (3 + c) (by omega); exact ⟨by omega, by omega⟩) ⟨by decide, by decide⟩ (fun h25 => ?_) (fun h25 => ?_)
    · refine r_iload C dX4_costOf_54 (lv_at hl 0 rfl) ?_
      refine r_iconst C dX4_costOf_56 ?_
      refine r_idiv C dX4_costOf_57 (by have := hs.1 (3 + c) (by omega); have := hs.1 (51 + c) (by omega); omega) (by have := hs.1 (3 + c) (by omega); have := hs.1 (51 + c) (by omega); omega) (by omega) (by omega) ?_
      refine r_goto C (tgt := 63) dX4_costOf_58 (by decide) ?_
      refine r_istore C [(6, .int (iI (((3 * ((s (51 + c)) - (s (3 + c)))) + 2) / 2))), (5, .int (iI ((3 * ((s (51 + c)) - (s (3 + c)))) + 2))), (4, .int (iI (s (51 + c)))), (3, .int (iI (s (3 + c)))), (0, .ref (a 0)), (1, .int (iI m)), (2, .int (iI c))] dX4_costOf_63 hl (by decide) rfl (fun ls hl => ?_)
      refine r_aload_n C dX4_costOf_65 rfl (lv_at hl 4 rfl) ?_
      refine r_iload_n C dX4_costOf_66 rfl (lv_at hl 5 rfl) ?_
      refine r_iconst C dX4_costOf_67 ?_
      refine r_cVR2 C m_X4_86 (cM_its (by omega) (by omega) (by omega) (by omega)) hP rfl rfl hl.1 dX4_costOf_68 ?_
      by_cases h26 : s (99 + 4 * m + 0) = 1
      · refine r_tableIn C (1) h26 dX4_costOf_71 (by decide) (by decide) rfl (tgt := 104) (by decide) ?_
        refine r_iload C dX4_costOf_104 (lv_at hl 0 rfl) ?_
        exact r_iretR C (congrArg iI (by simp only [cost, dugC, plainC, h1, eq_true h25, eq_true h26, not_true_eq_false, not_false_eq_true, and_true, true_and, and_false, false_and, or_true, true_or, or_false, false_or, if_true, if_false, ne_eq, reduceIte])) dX4_costOf_106
      by_cases h27 : s (99 + 4 * m + 0) = 2
      · refine r_tableIn C (2) h27 dX4_costOf_71 (by decide) (by decide) rfl (tgt := 107) (by decide) ?_
        refine r_iload C dX4_costOf_107 (lv_at hl 1 rfl) ?_
        refine r_aload_n C dX4_costOf_109 rfl (lv_at hl 4 rfl) ?_
        refine r_iload_n C dX4_costOf_110 rfl (lv_at hl 6 rfl) ?_
        refine r_cVR1 C m_X4_80 (cM_wrongBeside (by omega) (by omega) hs) hP rfl rfl hl.1 dX4_costOf_111 ?_
        refine r_iadd C dX4_costOf_114 ?_
        exact r_iretR C (congrArg iI (by simp only [cost, dugC, plainC, h1, eq_true h25, h26, eq_true h27, not_true_eq_false, not_false_eq_true, and_true, true_and, and_false, false_and, or_true, true_or, or_false, false_or, if_true, if_false, ne_eq, reduceIte])) dX4_costOf_115
      by_cases h28 : s (99 + 4 * m + 0) = 3
      · refine r_tableIn C (3) h28 dX4_costOf_71 (by decide) (by decide) rfl (tgt := 116) (by decide) ?_
        refine r_iconst C dX4_costOf_116 ?_
        refine r_iconst C dX4_costOf_117 ?_
        refine r_aload_n C dX4_costOf_118 rfl (lv_at hl 4 rfl) ?_
        refine r_iload_n C dX4_costOf_119 rfl (lv_at hl 6 rfl) ?_
        refine r_cVR1 C m_X4_80 (cM_wrongBeside (by omega) (by omega) hs) hP rfl rfl hl.1 dX4_costOf_120 ?_
        refine r_iadd C dX4_costOf_123 ?_
        refine r_imul C dX4_costOf_124 ?_
        exact r_iretR C (congrArg iI (by simp only [cost, dugC, plainC, h1, eq_true h25, h26, h27, eq_true h28, not_true_eq_false, not_false_eq_true, and_true, true_and, and_false, false_and, or_true, true_or, or_false, false_or, if_true, if_false, ne_eq, reduceIte])) dX4_costOf_125
      by_cases h29 : s (99 + 4 * m + 0) = 4
      · refine r_tableIn C (4) h29 dX4_costOf_71 (by decide) (by decide) rfl (tgt := 126) (by decide) ?_
        refine r_iload_n C dX4_costOf_126 rfl (lv_at hl 3 rfl) ?_
        refine r_iconst C dX4_costOf_127 ?_
        refine r_icmp_eq C (tgt := 137) dX4_costOf_128 (by decide) (by have := hs.1 (3 + c) (by omega); exact ⟨by omega, by omega⟩) ⟨by decide, by decide⟩ (fun h30 => ?_) (fun h30 => ?_)
        · refine r_iload C dX4_costOf_137 (lv_at hl 0 rfl) ?_
          refine r_iconst C dX4_costOf_139 ?_
          refine r_isub C dX4_costOf_140 ?_
          refine r_cSR1 C m_X4_100 (cM_atLeastOne (by have := hs.1 (3 + c) (by omega); have := hs.1 (51 + c) (by omega); exact ⟨by omega, by omega⟩)) pn0 hl.1 dX4_costOf_141 ?_
          refine r_goto C (tgt := 149) dX4_costOf_144 (by decide) ?_
          exact r_iretR C (congrArg iI (by simp only [cost, dugC, plainC, h1, eq_true h25, h26, h27, h28, eq_true h29, eq_true h30, not_true_eq_false, not_false_eq_true, and_true, true_and, and_false, false_and, or_true, true_or, or_false, false_or, if_true, if_false, ne_eq, reduceIte])) dX4_costOf_149
        · refine r_iload C dX4_costOf_131 (lv_at hl 2 rfl) ?_
          refine r_iconst C dX4_costOf_133 ?_
          refine r_icmp_ne C (tgt := 147) dX4_costOf_134 (by decide) (by have := hs.1 (51 + c) (by omega); exact ⟨by omega, by omega⟩) ⟨by decide, by decide⟩ (fun h31 => ?_) (fun h31 => ?_)
          · refine r_iload C dX4_costOf_147 (lv_at hl 0 rfl) ?_
            exact r_iretR C (congrArg iI (by simp only [cost, dugC, plainC, h1, eq_true h25, h26, h27, h28, eq_true h29, h30, h31, not_true_eq_false, not_false_eq_true, and_true, true_and, and_false, false_and, or_true, true_or, or_false, false_or, if_true, if_false, ne_eq, reduceIte])) dX4_costOf_149
          · refine r_iload C dX4_costOf_137 (lv_at hl 0 rfl) ?_
            refine r_iconst C dX4_costOf_139 ?_
            refine r_isub C dX4_costOf_140 ?_
            refine r_cSR1 C m_X4_100 (cM_atLeastOne (by have := hs.1 (3 + c) (by omega); have := hs.1 (51 + c) (by omega); exact ⟨by omega, by omega⟩)) pn0 hl.1 dX4_costOf_141 ?_
            refine r_goto C (tgt := 149) dX4_costOf_144 (by decide) ?_
            exact r_iretR C (congrArg iI (by simp only [cost, dugC, plainC, h1, eq_true h25, h26, h27, h28, eq_true h29, h30, eq_true h31, not_true_eq_false, not_false_eq_true, and_true, true_and, and_false, false_and, or_true, true_or, or_false, false_or, if_true, if_false, ne_eq, reduceIte])) dX4_costOf_149
      by_cases h32 : s (99 + 4 * m + 0) = 5
      · refine r_tableIn C (5) h32 dX4_costOf_71 (by decide) (by decide) rfl (tgt := 150) (by decide) ?_
        refine r_iload C dX4_costOf_150 (lv_at hl 1 rfl) ?_
        refine r_aload_n C dX4_costOf_152 rfl (lv_at hl 4 rfl) ?_
        refine r_iload_n C dX4_costOf_153 rfl (lv_at hl 6 rfl) ?_
        refine r_cVR1 C m_X4_80 (cM_wrongBeside (by omega) (by omega) hs) hP rfl rfl hl.1 dX4_costOf_154 ?_
        refine r_iadd C dX4_costOf_157 ?_
        refine r_aload_n C dX4_costOf_158 rfl (lv_at hl 4 rfl) ?_
        refine r_iload_n C dX4_costOf_159 rfl (lv_at hl 5 rfl) ?_
        refine r_iconst C dX4_costOf_160 ?_
        refine r_cVR2 C m_X4_86 (cM_its (by omega) (by omega) (by omega) (by omega)) hP rfl rfl hl.1 dX4_costOf_161 ?_
        refine r_bipush C dX4_costOf_164 (by decide) ?_
        refine r_idiv C dX4_costOf_166 (by have := hs.1 (99 + 4 * m + 2) (by omega); omega) (by have := hs.1 (99 + 4 * m + 2) (by omega); omega) (by omega) (by omega) ?_
        refine r_isub C dX4_costOf_167 ?_
        refine r_cSR1 C m_X4_100 (cM_atLeastOne (by have := hs.1 (3 + c) (by omega); have := hs.1 (51 + c) (by omega); have := wrongBeside_rg s c; have := hs.1 (99 + 4 * m + 2) (by omega); exact ⟨by omega, by omega⟩)) pn0 hl.1 dX4_costOf_168 ?_
        exact r_iretR C (congrArg iI (by simp only [cost, dugC, plainC, h1, eq_true h25, h26, h27, h28, h29, eq_true h32, not_true_eq_false, not_false_eq_true, and_true, true_and, and_false, false_and, or_true, true_or, or_false, false_or, if_true, if_false, ne_eq, reduceIte])) dX4_costOf_171
      refine r_tableOut C dX4_costOf_71 (by have := hs.1 (99 + 4 * m + 0) (by omega); exact ⟨by omega, by omega⟩) (by omega) (tgt := 172) (by decide) ?_
      refine r_iload C dX4_costOf_172 (lv_at hl 1 rfl) ?_
      exact r_iretR C (congrArg iI (by simp only [cost, dugC, plainC, h1, eq_true h25, h26, h27, h28, h29, h32, not_true_eq_false, not_false_eq_true, and_true, true_and, and_false, false_and, or_true, true_or, or_false, false_or, if_true, if_false, ne_eq, reduceIte])) dX4_costOf_174
    · refine r_iload C dX4_costOf_48 (lv_at hl 1 rfl) ?_
      refine r_iconst C dX4_costOf_50 ?_
      refine r_icmp_ne C (tgt := 61) dX4_costOf_51 (by decide) (by have := hs.1 (51 + c) (by omega); exact ⟨by omega, by omega⟩) ⟨by decide, by decide⟩ (fun h33 => ?_) (fun h33 => ?_)
      · refine r_iload C dX4_costOf_61 (lv_at hl 0 rfl) ?_
        refine r_istore C [(6, .int (iI ((3 * ((s (51 + c)) - (s (3 + c)))) + 2))), (5, .int (iI ((3 * ((s (51 + c)) - (s (3 + c)))) + 2))), (4, .int (iI (s (51 + c)))), (3, .int (iI (s (3 + c)))), (0, .ref (a 0)), (1, .int (iI m)), (2, .int (iI c))] dX4_costOf_63 hl (by decide) rfl (fun ls hl => ?_)
        refine r_aload_n C dX4_costOf_65 rfl (lv_at hl 4 rfl) ?_
        refine r_iload_n C dX4_costOf_66 rfl (lv_at hl 5 rfl) ?_
        refine r_iconst C dX4_costOf_67 ?_
        refine r_cVR2 C m_X4_86 (cM_its (by omega) (by omega) (by omega) (by omega)) hP rfl rfl hl.1 dX4_costOf_68 ?_
        by_cases h34 : s (99 + 4 * m + 0) = 1
        · refine r_tableIn C (1) h34 dX4_costOf_71 (by decide) (by decide) rfl (tgt := 104) (by decide) ?_
          refine r_iload C dX4_costOf_104 (lv_at hl 0 rfl) ?_
          exact r_iretR C (congrArg iI (by simp only [cost, dugC, plainC, h1, h25, h33, eq_true h34, not_true_eq_false, not_false_eq_true, and_true, true_and, and_false, false_and, or_true, true_or, or_false, false_or, if_true, if_false, ne_eq, reduceIte])) dX4_costOf_106
        by_cases h35 : s (99 + 4 * m + 0) = 2
        · refine r_tableIn C (2) h35 dX4_costOf_71 (by decide) (by decide) rfl (tgt := 107) (by decide) ?_
          refine r_iload C dX4_costOf_107 (lv_at hl 1 rfl) ?_
          refine r_aload_n C dX4_costOf_109 rfl (lv_at hl 4 rfl) ?_
          refine r_iload_n C dX4_costOf_110 rfl (lv_at hl 6 rfl) ?_
          refine r_cVR1 C m_X4_80 (cM_wrongBeside (by omega) (by omega) hs) hP rfl rfl hl.1 dX4_costOf_111 ?_
          refine r_iadd C dX4_costOf_114 ?_
          exact r_iretR C (congrArg iI (by simp only [cost, dugC, plainC, h1, h25, h33, h34, eq_true h35, not_true_eq_false, not_false_eq_true, and_true, true_and, and_false, false_and, or_true, true_or, or_false, false_or, if_true, if_false, ne_eq, reduceIte])) dX4_costOf_115
        by_cases h36 : s (99 + 4 * m + 0) = 3
        · refine r_tableIn C (3) h36 dX4_costOf_71 (by decide) (by decide) rfl (tgt := 116) (by decide) ?_
          refine r_iconst C dX4_costOf_116 ?_
          refine r_iconst C dX4_costOf_117 ?_
          refine r_aload_n C dX4_costOf_118 rfl (lv_at hl 4 rfl) ?_
          refine r_iload_n C dX4_costOf_119 rfl (lv_at hl 6 rfl) ?_
          refine r_cVR1 C m_X4_80 (cM_wrongBeside (by omega) (by omega) hs) hP rfl rfl hl.1 dX4_costOf_120 ?_
          refine r_iadd C dX4_costOf_123 ?_
          refine r_imul C dX4_costOf_124 ?_
          exact r_iretR C (congrArg iI (by simp only [cost, dugC, plainC, h1, h25, h33, h34, h35, eq_true h36, not_true_eq_false, not_false_eq_true, and_true, true_and, and_false, false_and, or_true, true_or, or_false, false_or, if_true, if_false, ne_eq, reduceIte])) dX4_costOf_125
        by_cases h37 : s (99 + 4 * m + 0) = 4
        · refine r_tableIn C (4) h37 dX4_costOf_71 (by decide) (by decide) rfl (tgt := 126) (by decide) ?_
          refine r_iload_n C dX4_costOf_126 rfl (lv_at hl 3 rfl) ?_
          refine r_iconst C dX4_costOf_127 ?_
          refine r_icmp_eq C (tgt := 137) dX4_costOf_128 (by decide) (by have := hs.1 (3 + c) (by omega); exact ⟨by omega, by omega⟩) ⟨by decide, by decide⟩ (fun h38 => ?_) (fun h38 => ?_)
          · refine r_iload C dX4_costOf_137 (lv_at hl 0 rfl) ?_
            refine r_iconst C dX4_costOf_139 ?_
            refine r_isub C dX4_costOf_140 ?_
            refine r_cSR1 C m_X4_100 (cM_atLeastOne (by have := hs.1 (3 + c) (by omega); have := hs.1 (51 + c) (by omega); exact ⟨by omega, by omega⟩)) pn0 hl.1 dX4_costOf_141 ?_
            refine r_goto C (tgt := 149) dX4_costOf_144 (by decide) ?_
            exact r_iretR C (congrArg iI (by simp only [cost, dugC, plainC, h1, h25, h33, h34, h35, h36, eq_true h37, eq_true h38, not_true_eq_false, not_false_eq_true, and_true, true_and, and_false, false_and, or_true, true_or, or_false, false_or, if_true, if_false, ne_eq, reduceIte])) dX4_costOf_149
          · refine r_iload C dX4_costOf_131 (lv_at hl 2 rfl) ?_
            refine r_iconst C dX4_costOf_133 ?_
            refine r_icmp_ne C (tgt := 147) dX4_costOf_134 (by decide) (by have := hs.1 (51 + c) (by omega); exact ⟨by omega, by omega⟩) ⟨by decide, by decide⟩ (fun h39 => ?_) (fun h39 => ?_)
            · refine r_iload C dX4_costOf_147 (lv_at hl 0 rfl) ?_
              exact r_iretR C (congrArg iI (by simp only [cost, dugC, plainC, h1, h25, h33, h34, h35, h36, eq_true h37, h38, h39, not_true_eq_false, not_false_eq_true, and_true, true_and, and_false, false_and, or_true, true_or, or_false, false_or, if_true, if_false, ne_eq, reduceIte])) dX4_costOf_149
            · refine r_iload C dX4_costOf_137 (lv_at hl 0 rfl) ?_
              refine r_iconst C dX4_costOf_139 ?_
              refine r_isub C dX4_costOf_140 ?_
              refine r_cSR1 C m_X4_100 (cM_atLeastOne (by have := hs.1 (3 + c) (by omega); have := hs.1 (51 + c) (by omega); exact ⟨by omega, by omega⟩)) pn0 hl.1 dX4_costOf_141 ?_
              refine r_goto C (tgt := 149) dX4_costOf_144 (by decide) ?_
              exact r_iretR C (congrArg iI (by simp only [cost, dugC, plainC, h1, h25, h33, h34, h35, h36, eq_true h37, h38, eq_true h39, not_true_eq_false, not_false_eq_true, and_true, true_and, and_false, false_and, or_true, true_or, or_false, false_or, if_true, if_false, ne_eq, reduceIte])) dX4_costOf_149
        by_cases h40 : s (99 + 4 * m + 0) = 5
        · refine r_tableIn C (5) h40 dX4_costOf_71 (by decide) (by decide) rfl (tgt := 150) (by decide) ?_
          refine r_iload C dX4_costOf_150 (lv_at hl 1 rfl) ?_
          refine r_aload_n C dX4_costOf_152 rfl (lv_at hl 4 rfl) ?_
          refine r_iload_n C dX4_costOf_153 rfl (lv_at hl 6 rfl) ?_
          refine r_cVR1 C m_X4_80 (cM_wrongBeside (by omega) (by omega) hs) hP rfl rfl hl.1 dX4_costOf_154 ?_
          refine r_iadd C dX4_costOf_157 ?_
          refine r_aload_n C dX4_costOf_158 rfl (lv_at hl 4 rfl) ?_
          refine r_iload_n C dX4_costOf_159 rfl (lv_at hl 5 rfl) ?_
          refine r_iconst C dX4_costOf_160 ?_
          refine r_cVR2 C m_X4_86 (cM_its (by omega) (by omega) (by omega) (by omega)) hP rfl rfl hl.1 dX4_costOf_161 ?_
          refine r_bipush C dX4_costOf_164 (by decide) ?_
          refine r_idiv C dX4_costOf_166 (by have := hs.1 (99 + 4 * m + 2) (by omega); omega) (by have := hs.1 (99 + 4 * m + 2) (by omega); omega) (by omega) (by omega) ?_
          refine r_isub C dX4_costOf_167 ?_
          refine r_cSR1 C m_X4_100 (cM_atLeastOne (by have := hs.1 (3 + c) (by omega); have := hs.1 (51 + c) (by omega); have := wrongBeside_rg s c; have := hs.1 (99 + 4 * m + 2) (by omega); exact ⟨by omega, by omega⟩)) pn0 hl.1 dX4_costOf_168 ?_
          exact r_iretR C (congrArg iI (by simp only [cost, dugC, plainC, h1, h25, h33, h34, h35, h36, h37, eq_true h40, not_true_eq_false, not_false_eq_true, and_true, true_and, and_false, false_and, or_true, true_or, or_false, false_or, if_true, if_false, ne_eq, reduceIte])) dX4_costOf_171
        refine r_tableOut C dX4_costOf_71 (by have := hs.1 (99 + 4 * m + 0) (by omega); exact ⟨by omega, by omega⟩) (by omega) (tgt := 172) (by decide) ?_
        refine r_iload C dX4_costOf_172 (lv_at hl 1 rfl) ?_
        exact r_iretR C (congrArg iI (by simp only [cost, dugC, plainC, h1, h25, h33, h34, h35, h36, h37, h40, not_true_eq_false, not_false_eq_true, and_true, true_and, and_false, false_and, or_true, true_or, or_false, false_or, if_true, if_false, ne_eq, reduceIte])) dX4_costOf_174
      · refine r_iload C dX4_costOf_54 (lv_at hl 0 rfl) ?_
        refine r_iconst C dX4_costOf_56 ?_
        refine r_idiv C dX4_costOf_57 (by have := hs.1 (3 + c) (by omega); have := hs.1 (51 + c) (by omega); omega) (by have := hs.1 (3 + c) (by omega); have := hs.1 (51 + c) (by omega); omega) (by omega) (by omega) ?_
        refine r_goto C (tgt := 63) dX4_costOf_58 (by decide) ?_
        refine r_istore C [(6, .int (iI (((3 * ((s (51 + c)) - (s (3 + c)))) + 2) / 2))), (5, .int (iI ((3 * ((s (51 + c)) - (s (3 + c)))) + 2))), (4, .int (iI (s (51 + c)))), (3, .int (iI (s (3 + c)))), (0, .ref (a 0)), (1, .int (iI m)), (2, .int (iI c))] dX4_costOf_63 hl (by decide) rfl (fun ls hl => ?_)
        refine r_aload_n C dX4_costOf_65 rfl (lv_at hl 4 rfl) ?_
        refine r_iload_n C dX4_costOf_66 rfl (lv_at hl 5 rfl) ?_
        refine r_iconst C dX4_costOf_67 ?_
        refine r_cVR2 C m_X4_86 (cM_its (by omega) (by omega) (by omega) (by omega)) hP rfl rfl hl.1 dX4_costOf_68 ?_
        by_cases h41 : s (99 + 4 * m + 0) = 1
        · refine r_tableIn C (1) h41 dX4_costOf_71 (by decide) (by decide) rfl (tgt := 104) (by decide) ?_
          refine r_iload C dX4_costOf_104 (lv_at hl 0 rfl) ?_
          exact r_iretR C (congrArg iI (by simp only [cost, dugC, plainC, h1, h25, eq_true h33, eq_true h41, not_true_eq_false, not_false_eq_true, and_true, true_and, and_false, false_and, or_true, true_or, or_false, false_or, if_true, if_false, ne_eq, reduceIte])) dX4_costOf_106
        by_cases h42 : s (99 + 4 * m + 0) = 2
        · refine r_tableIn C (2) h42 dX4_costOf_71 (by decide) (by decide) rfl (tgt := 107) (by decide) ?_
          refine r_iload C dX4_costOf_107 (lv_at hl 1 rfl) ?_
          refine r_aload_n C dX4_costOf_109 rfl (lv_at hl 4 rfl) ?_
          refine r_iload_n C dX4_costOf_110 rfl (lv_at hl 6 rfl) ?_
          refine r_cVR1 C m_X4_80 (cM_wrongBeside (by omega) (by omega) hs) hP rfl rfl hl.1 dX4_costOf_111 ?_
          refine r_iadd C dX4_costOf_114 ?_
          exact r_iretR C (congrArg iI (by simp only [cost, dugC, plainC, h1, h25, eq_true h33, h41, eq_true h42, not_true_eq_false, not_false_eq_true, and_true, true_and, and_false, false_and, or_true, true_or, or_false, false_or, if_true, if_false, ne_eq, reduceIte])) dX4_costOf_115
        by_cases h43 : s (99 + 4 * m + 0) = 3
        · refine r_tableIn C (3) h43 dX4_costOf_71 (by decide) (by decide) rfl (tgt := 116) (by decide) ?_
          refine r_iconst C dX4_costOf_116 ?_
          refine r_iconst C dX4_costOf_117 ?_
          refine r_aload_n C dX4_costOf_118 rfl (lv_at hl 4 rfl) ?_
          refine r_iload_n C dX4_costOf_119 rfl (lv_at hl 6 rfl) ?_
          refine r_cVR1 C m_X4_80 (cM_wrongBeside (by omega) (by omega) hs) hP rfl rfl hl.1 dX4_costOf_120 ?_
          refine r_iadd C dX4_costOf_123 ?_
          refine r_imul C dX4_costOf_124 ?_
          exact r_iretR C (congrArg iI (by simp only [cost, dugC, plainC, h1, h25, eq_true h33, h41, h42, eq_true h43, not_true_eq_false, not_false_eq_true, and_true, true_and, and_false, false_and, or_true, true_or, or_false, false_or, if_true, if_false, ne_eq, reduceIte])) dX4_costOf_125
        by_cases h44 : s (99 + 4 * m + 0) = 4
        · refine r_tableIn C (4) h44 dX4_costOf_71 (by decide) (by decide) rfl (tgt := 126) (by decide) ?_
          refine r_iload_n C dX4_costOf_126 rfl (lv_at hl 3 rfl) ?_
          refine r_iconst C dX4_costOf_127 ?_
          refine r_icmp_eq C (tgt := 137) dX4_costOf_128 (by decide) (by have := hs.1 (3 + c) (by omega); exact ⟨by omega, by omega⟩) ⟨by decide, by decide⟩ (fun h45 => ?_) (fun h45 => ?_)
          · refine r_iload C dX4_costOf_137 (lv_at hl 0 rfl) ?_
            refine r_iconst C dX4_costOf_139 ?_
            refine r_isub C dX4_costOf_140 ?_
            refine r_cSR1 C m_X4_100 (cM_atLeastOne (by have := hs.1 (3 + c) (by omega); have := hs.1 (51 + c) (by omega); exact ⟨by omega, by omega⟩)) pn0 hl.1 dX4_costOf_141 ?_
            refine r_goto C (tgt := 149) dX4_costOf_144 (by decide) ?_
            exact r_iretR C (congrArg iI (by simp only [cost, dugC, plainC, h1, h25, eq_true h33, h41, h42, h43, eq_true h44, eq_true h45, not_true_eq_false, not_false_eq_true, and_true, true_and, and_false, false_and, or_true, true_or, or_false, false_or, if_true, if_false, ne_eq, reduceIte])) dX4_costOf_149
          · refine r_iload C dX4_costOf_131 (lv_at hl 2 rfl) ?_
            refine r_iconst C dX4_costOf_133 ?_
            refine r_icmp_ne C (tgt := 147) dX4_costOf_134 (by decide) (by have := hs.1 (51 + c) (by omega); exact ⟨by omega, by omega⟩) ⟨by decide, by decide⟩ (fun h46 => ?_) (fun h46 => ?_)
            · refine r_iload C dX4_costOf_147 (lv_at hl 0 rfl) ?_
              exact r_iretR C (congrArg iI (by simp only [cost, dugC, plainC, h1, h25, eq_true h33, h41, h42, h43, eq_true h44, h45, h46, not_true_eq_false, not_false_eq_true, and_true, true_and, and_false, false_and, or_true, true_or, or_false, false_or, if_true, if_false, ne_eq, reduceIte])) dX4_costOf_149
            · refine r_iload C dX4_costOf_137 (lv_at hl 0 rfl) ?_
              refine r_iconst C dX4_costOf_139 ?_
              refine r_isub C dX4_costOf_140 ?_
              refine r_cSR1 C m_X4_100 (cM_atLeastOne (by have := hs.1 (3 + c) (by omega); have := hs.1 (51 + c) (by omega); exact ⟨by omega, by omega⟩)) pn0 hl.1 dX4_costOf_141 ?_
              refine r_goto C (tgt := 149) dX4_costOf_144 (by decide) ?_
              exact r_iretR C (congrArg iI (by simp only [cost, dugC, plainC, h1, h25, eq_true h33, h41, h42, h43, eq_true h44, h45, eq_true h46, not_true_eq_false, not_false_eq_true, and_true, true_and, and_false, false_and, or_true, true_or, or_false, false_or, if_true, if_false, ne_eq, reduceIte])) dX4_costOf_149
        by_cases h47 : s (99 + 4 * m + 0) = 5
        · refine r_tableIn C (5) h47 dX4_costOf_71 (by decide) (by decide) rfl (tgt := 150) (by decide) ?_
          refine r_iload C dX4_costOf_150 (lv_at hl 1 rfl) ?_
          refine r_aload_n C dX4_costOf_152 rfl (lv_at hl 4 rfl) ?_
          refine r_iload_n C dX4_costOf_153 rfl (lv_at hl 6 rfl) ?_
          refine r_cVR1 C m_X4_80 (cM_wrongBeside (by omega) (by omega) hs) hP rfl rfl hl.1 dX4_costOf_154 ?_
          refine r_iadd C dX4_costOf_157 ?_
          refine r_aload_n C dX4_costOf_158 rfl (lv_at hl 4 rfl) ?_
          refine r_iload_n C dX4_costOf_159 rfl (lv_at hl 5 rfl) ?_
          refine r_iconst C dX4_costOf_160 ?_
          refine r_cVR2 C m_X4_86 (cM_its (by omega) (by omega) (by omega) (by omega)) hP rfl rfl hl.1 dX4_costOf_161 ?_
          refine r_bipush C dX4_costOf_164 (by decide) ?_
          refine r_idiv C dX4_costOf_166 (by have := hs.1 (99 + 4 * m + 2) (by omega); omega) (by have := hs.1 (99 + 4 * m + 2) (by omega); omega) (by omega) (by omega) ?_
          refine r_isub C dX4_costOf_167 ?_
          refine r_cSR1 C m_X4_100 (cM_atLeastOne (by have := hs.1 (3 + c) (by omega); have := hs.1 (51 + c) (by omega); have := wrongBeside_rg s c; have := hs.1 (99 + 4 * m + 2) (by omega); exact ⟨by omega, by omega⟩)) pn0 hl.1 dX4_costOf_168 ?_
          exact r_iretR C (congrArg iI (by simp only [cost, dugC, plainC, h1, h25, eq_true h33, h41, h42, h43, h44, eq_true h47, not_true_eq_false, not_false_eq_true, and_true, true_and, and_false, false_and, or_true, true_or, or_false, false_or, if_true, if_false, ne_eq, reduceIte])) dX4_costOf_171
        refine r_tableOut C dX4_costOf_71 (by have := hs.1 (99 + 4 * m + 0) (by omega); exact ⟨by omega, by omega⟩) (by omega) (tgt := 172) (by decide) ?_
        refine r_iload C dX4_costOf_172 (lv_at hl 1 rfl) ?_
        exact r_iretR C (congrArg iI (by simp only [cost, dugC, plainC, h1, h25, eq_true h33, h41, h42, h43, h44, h47, not_true_eq_false, not_false_eq_true, and_true, true_and, and_false, false_and, or_true, true_or, or_false, false_or, if_true, if_false, ne_eq, reduceIte])) dX4_costOf_174
set_option maxHeartbeats 4000000 in
set_option maxRecDepth 100000 in
theorem cM_goesFor {m : Int} (hm : 0 ≤ m) (hm1 : m < 6) (hs : Ok s) : MR l yX4_goesFor cX4_goesFor 6 (some .int) 3 73 D k [.ref (a 0), .int (iI m)] (wM a k s kp ot sd st sp tp bi si nu mo ik dl tl ta fr to va iw) (.int (iI (goesFor s m))) := by
  refine MR.mk RX4 rfl (by decide +kernel) (Nat.le_of_ble_eq_true rfl) (fun p e U m0 below meth cd ls C hP hl => ?_)
  have hl : lv_has ls 6 [(0, .ref (a 0)), (1, .int (iI m))] := hl
  refine r_iconst C dX4_goesFor_0 ?_
  refine r_istore_n C [(2, .int (iI (-1))), (0, .ref (a 0)), (1, .int (iI m))] dX4_goesFor_1 rfl hl (by decide) rfl (fun ls hl => ?_)
  refine r_iconst C dX4_goesFor_2 ?_
  refine r_istore_n C [(3, .int (iI 0)), (2, .int (iI (-1))), (0, .ref (a 0)), (1, .int (iI m))] dX4_goesFor_3 rfl hl (by decide) rfl (fun ls hl => ?_)
  refine r_iconst C dX4_goesFor_4 ?_
  refine r_istore C [(4, .int (iI 0)), (3, .int (iI 0)), (2, .int (iI (-1))), (0, .ref (a 0)), (1, .int (iI m))] dX4_goesFor_5 hl (by decide) rfl (fun ls hl => ?_)
  refine r_loopR (fun n : Nat => [(0, .ref (a 0)), (1, .int (iI m)), (2, .int (iI ((gf s m n).1))), (3, .int (iI ((gf s m n).2))), (4, .int (iI n))]) (48) (lv_eq (lv_sub hl [3, 4, 2, 1, 0] rfl) rfl) (fun n hn ihn ls hl => ?_) (fun ls hl => ?_)
  · have hl : lv_has ls 6 [(0, .ref (a 0)), (1, .int (iI m)), (2, .int (iI ((gf s m n).1))), (3, .int (iI ((gf s m n).2))), (4, .int (iI n))] := hl
    have h9 := gf_rg hs hm hm1 n (by omega)
    have h8 := hs.2.2.2 m hm hm1
    refine r_iload C dX4_goesFor_7 (lv_at hl 4 rfl) ?_
    refine r_bipush C dX4_goesFor_9 (by decide) ?_
    refine r_icmp_ge C (tgt := 95) dX4_goesFor_11 (by decide) (by exact ⟨by omega, by omega⟩) ⟨by decide, by decide⟩ (fun h1 => ?_) (fun h1 => ?_)
    · exfalso; omega
    · refine r_aload_n C dX4_goesFor_14 rfl (lv_at hl 0 rfl) ?_
      refine r_iload C dX4_goesFor_15 (lv_at hl 4 rfl) ?_
      refine r_cVR1 C m_X4_61 (cM_isUntrue (by omega) (by omega) hs) hP rfl rfl hl.1 dX4_goesFor_17 ?_
      refine r_ifB_ne C (tgt := 27) dX4_goesFor_20 (by decide) (fun h2 => ?_) (fun h2 => ?_)
      · refine r_aload_n C dX4_goesFor_27 rfl (lv_at hl 0 rfl) ?_
        refine r_iload_n C dX4_goesFor_28 rfl (lv_at hl 1 rfl) ?_
        refine r_iconst C dX4_goesFor_29 ?_
        refine r_cVR2 C m_X4_86 (cM_its (by omega) (by omega) (by omega) (by omega)) hP rfl rfl hl.1 dX4_goesFor_30 ?_
        refine r_iconst C dX4_goesFor_33 ?_
        refine r_icmp_ne C (tgt := 47) dX4_goesFor_34 (by decide) (by have := hs.1 (99 + 4 * m + 0) (by omega); exact ⟨by omega, by omega⟩) ⟨by decide, by decide⟩ (fun h3 => ?_) (fun h3 => ?_)
        · refine r_bipush C dX4_goesFor_47 (by decide) ?_
          refine r_aload_n C dX4_goesFor_49 rfl (lv_at hl 0 rfl) ?_
          refine r_iload_n C dX4_goesFor_50 rfl (lv_at hl 1 rfl) ?_
          refine r_iconst C dX4_goesFor_51 ?_
          refine r_cVR2 C m_X4_86 (cM_its (by omega) (by omega) (by omega) (by omega)) hP rfl rfl hl.1 dX4_goesFor_52 ?_
          refine r_iload C dX4_goesFor_55 (lv_at hl 4 rfl) ?_
          refine r_cSR2 C m_X4_106 (cM_apart (by have := hs.1 (99 + 4 * m + 1) (by omega); omega) (by have := hs.1 (99 + 4 * m + 1) (by omega); omega) (by omega) (by omega)) pn0 hl.1 dX4_goesFor_57 ?_
          refine r_isub C dX4_goesFor_60 ?_
          refine r_istore C [(5, .int (iI (100 - (apt (s (99 + 4 * m + 1)) n)))), (0, .ref (a 0)), (1, .int (iI m)), (2, .int (iI ((gf s m n).1))), (3, .int (iI ((gf s m n).2))), (4, .int (iI n))] dX4_goesFor_61 hl (by decide) rfl (fun ls hl => ?_)
          refine r_iload C dX4_goesFor_63 (lv_at hl 0 rfl) ?_
          refine r_iload_n C dX4_goesFor_65 rfl (lv_at hl 4 rfl) ?_
          refine r_icmp_le C (tgt := 74) dX4_goesFor_66 (by decide) (by have := hs.1 (99 + 4 * m + 1) (by omega); have := apt_rg (a := ((s (99 + 4 * m + 1)))) (b := n) (by have := hs.1 (99 + 4 * m + 1) (by omega); omega) (by have := hs.1 (99 + 4 * m + 1) (by omega); omega) (by have := hs.1 (99 + 4 * m + 1) (by omega); omega) (by have := hs.1 (99 + 4 * m + 1) (by omega); omega) ; exact ⟨by omega, by omega⟩) (by exact ⟨by omega, by omega⟩) (fun h4 => ?_) (fun h4 => ?_)
          · refine r_iload_n C dX4_goesFor_74 rfl (lv_at hl 3 rfl) ?_
            refine r_istore_n C [(2, .int (iI ((gf s m n).1))), (5, .int (iI (100 - (apt (s (99 + 4 * m + 1)) n)))), (0, .ref (a 0)), (1, .int (iI m)), (3, .int (iI ((gf s m n).2))), (4, .int (iI n))] dX4_goesFor_75 rfl hl (by decide) rfl (fun ls hl => ?_)
            refine r_iload C dX4_goesFor_76 (lv_at hl 1 rfl) ?_
            refine r_iload_n C dX4_goesFor_78 rfl (lv_at hl 4 rfl) ?_
            refine r_icmp_le C (tgt := 87) dX4_goesFor_79 (by decide) (by have := hs.1 (99 + 4 * m + 1) (by omega); have := apt_rg (a := ((s (99 + 4 * m + 1)))) (b := n) (by have := hs.1 (99 + 4 * m + 1) (by omega); omega) (by have := hs.1 (99 + 4 * m + 1) (by omega); omega) (by have := hs.1 (99 + 4 * m + 1) (by omega); omega) (by have := hs.1 (99 + 4 * m + 1) (by omega); omega) ; exact ⟨by omega, by omega⟩) (by exact ⟨by omega, by omega⟩) (fun h5 => ?_) (fun h5 => ?_)
            · refine r_iload_n C dX4_goesFor_87 rfl (lv_at hl 4 rfl) ?_
              refine r_istore_n C [(3, .int (iI ((gf s m n).2))), (2, .int (iI ((gf s m n).1))), (5, .int (iI (100 - (apt (s (99 + 4 * m + 1)) n)))), (0, .ref (a 0)), (1, .int (iI m)), (4, .int (iI n))] dX4_goesFor_88 rfl hl (by decide) rfl (fun ls hl => ?_)
              refine r_iinc C 5 [(4, .int (iI (n + 1))), (3, .int (iI ((gf s m n).2))), (2, .int (iI ((gf s m n).1))), (5, .int (iI (100 - (apt (s (99 + 4 * m + 1)) n)))), (0, .ref (a 0)), (1, .int (iI m))] dX4_goesFor_89 hl rfl (by decide) rfl (fun ls hl => ?_)
              refine r_goto C (tgt := 7) dX4_goesFor_92 (by decide) ?_
              exact ihn ls (lv_eq (lv_sub hl [4, 5, 2, 1, 0] rfl) (by first | (simp only [gf, gfv, h1, h2, h3, h4, h5, not_true_eq_false, not_false_eq_true, and_true, true_and, and_false, false_and, or_true, true_or, or_false, false_or, if_true, if_false, ne_eq, reduceIte]; rfl) | (exfalso; omega)))
            · refine r_iload C dX4_goesFor_82 (lv_at hl 1 rfl) ?_
              refine r_goto C (tgt := 88) dX4_goesFor_84 (by decide) ?_
              refine r_istore_n C [(3, .int (iI (100 - (apt (s (99 + 4 * m + 1)) n)))), (2, .int (iI ((gf s m n).1))), (5, .int (iI (100 - (apt (s (99 + 4 * m + 1)) n)))), (0, .ref (a 0)), (1, .int (iI m)), (4, .int (iI n))] dX4_goesFor_88 rfl hl (by decide) rfl (fun ls hl => ?_)
              refine r_iinc C 5 [(4, .int (iI (n + 1))), (3, .int (iI (100 - (apt (s (99 + 4 * m + 1)) n)))), (2, .int (iI ((gf s m n).1))), (5, .int (iI (100 - (apt (s (99 + 4 * m + 1)) n)))), (0, .ref (a 0)), (1, .int (iI m))] dX4_goesFor_89 hl rfl (by decide) rfl (fun ls hl => ?_)
              refine r_goto C (tgt := 7) dX4_goesFor_92 (by decide) ?_
              exact ihn ls (lv_eq (lv_sub hl [4, 5, 2, 1, 0] rfl) (by first | (simp only [gf, gfv, h1, h2, h3, h4, h5, not_true_eq_false, not_false_eq_true, and_true, true_and, and_false, false_and, or_true, true_or, or_false, false_or, if_true, if_false, ne_eq, reduceIte]; rfl) | (exfalso; omega)))
          · refine r_iload C dX4_goesFor_69 (lv_at hl 5 rfl) ?_
            refine r_goto C (tgt := 75) dX4_goesFor_71 (by decide) ?_
            refine r_istore_n C [(2, .int (iI n)), (5, .int (iI (100 - (apt (s (99 + 4 * m + 1)) n)))), (0, .ref (a 0)), (1, .int (iI m)), (3, .int (iI ((gf s m n).2))), (4, .int (iI n))] dX4_goesFor_75 rfl hl (by decide) rfl (fun ls hl => ?_)
            refine r_iload C dX4_goesFor_76 (lv_at hl 1 rfl) ?_
            refine r_iload_n C dX4_goesFor_78 rfl (lv_at hl 4 rfl) ?_
            refine r_icmp_le C (tgt := 87) dX4_goesFor_79 (by decide) (by have := hs.1 (99 + 4 * m + 1) (by omega); have := apt_rg (a := ((s (99 + 4 * m + 1)))) (b := n) (by have := hs.1 (99 + 4 * m + 1) (by omega); omega) (by have := hs.1 (99 + 4 * m + 1) (by omega); omega) (by have := hs.1 (99 + 4 * m + 1) (by omega); omega) (by have := hs.1 (99 + 4 * m + 1) (by omega); omega) ; exact ⟨by omega, by omega⟩) (by exact ⟨by omega, by omega⟩) (fun h6 => ?_) (fun h6 => ?_)
            · refine r_iload_n C dX4_goesFor_87 rfl (lv_at hl 4 rfl) ?_
              refine r_istore_n C [(3, .int (iI ((gf s m n).2))), (2, .int (iI n)), (5, .int (iI (100 - (apt (s (99 + 4 * m + 1)) n)))), (0, .ref (a 0)), (1, .int (iI m)), (4, .int (iI n))] dX4_goesFor_88 rfl hl (by decide) rfl (fun ls hl => ?_)
              refine r_iinc C 5 [(4, .int (iI (n + 1))), (3, .int (iI ((gf s m n).2))), (2, .int (iI n)), (5, .int (iI (100 - (apt (s (99 + 4 * m + 1)) n)))), (0, .ref (a 0)), (1, .int (iI m))] dX4_goesFor_89 hl rfl (by decide) rfl (fun ls hl => ?_)
              refine r_goto C (tgt := 7) dX4_goesFor_92 (by decide) ?_
              exact ihn ls (lv_eq (lv_sub hl [4, 5, 2, 1, 0] rfl) (by first | (simp only [gf, gfv, h1, h2, h3, h4, h6, not_true_eq_false, not_false_eq_true, and_true, true_and, and_false, false_and, or_true, true_or, or_false, false_or, if_true, if_false, ne_eq, reduceIte]; rfl) | (exfalso; omega)))
            · refine r_iload C dX4_goesFor_82 (lv_at hl 1 rfl) ?_
              refine r_goto C (tgt := 88) dX4_goesFor_84 (by decide) ?_
              refine r_istore_n C [(3, .int (iI (100 - (apt (s (99 + 4 * m + 1)) n)))), (2, .int (iI n)), (5, .int (iI (100 - (apt (s (99 + 4 * m + 1)) n)))), (0, .ref (a 0)), (1, .int (iI m)), (4, .int (iI n))] dX4_goesFor_88 rfl hl (by decide) rfl (fun ls hl => ?_)
              refine r_iinc C 5 [(4, .int (iI (n + 1))), (3, .int (iI (100 - (apt (s (99 + 4 * m + 1)) n)))), (2, .int (iI n)), (5, .int (iI (100 - (apt (s (99 + 4 * m + 1)) n)))), (0, .ref (a 0)), (1, .int (iI m))] dX4_goesFor_89 hl rfl (by decide) rfl (fun ls hl => ?_)
              refine r_goto C (tgt := 7) dX4_goesFor_92 (by decide) ?_
              exact ihn ls (lv_eq (lv_sub hl [4, 5, 2, 1, 0] rfl) (by first | (simp only [gf, gfv, h1, h2, h3, h4, h6, not_true_eq_false, not_false_eq_true, and_true, true_and, and_false, false_and, or_true, true_or, or_false, false_or, if_true, if_false, ne_eq, reduceIte]; rfl) | (exfalso; omega)))
        · refine r_aload_n C dX4_goesFor_37 rfl (lv_at hl 0 rfl) ?_
          refine r_iload_n C dX4_goesFor_38 rfl (lv_at hl 1 rfl) ?_
          refine r_iload C dX4_goesFor_39 (lv_at hl 4 rfl) ?_
          refine r_cVR2 C m_X4_103 (cM_costOf (by omega) (by omega) (by omega) (by omega) hs) hP rfl rfl hl.1 dX4_goesFor_41 ?_
          refine r_goto C (tgt := 61) dX4_goesFor_44 (by decide) ?_
          refine r_istore C [(5, .int (iI (cost s m n))), (0, .ref (a 0)), (1, .int (iI m)), (2, .int (iI ((gf s m n).1))), (3, .int (iI ((gf s m n).2))), (4, .int (iI n))] dX4_goesFor_61 hl (by decide) rfl (fun ls hl => ?_)
          refine r_iload C dX4_goesFor_63 (lv_at hl 0 rfl) ?_
          refine r_iload_n C dX4_goesFor_65 rfl (lv_at hl 4 rfl) ?_
          refine r_icmp_le C (tgt := 74) dX4_goesFor_66 (by decide) (by have := cost_rg hs (m := m) (c := n) (by omega) (by omega); exact ⟨by omega, by omega⟩) (by exact ⟨by omega, by omega⟩) (fun h7 => ?_) (fun h7 => ?_)
          · refine r_iload_n C dX4_goesFor_74 rfl (lv_at hl 3 rfl) ?_
            refine r_istore_n C [(2, .int (iI ((gf s m n).1))), (5, .int (iI (cost s m n))), (0, .ref (a 0)), (1, .int (iI m)), (3, .int (iI ((gf s m n).2))), (4, .int (iI n))] dX4_goesFor_75 rfl hl (by decide) rfl (fun ls hl => ?_)
            refine r_iload C dX4_goesFor_76 (lv_at hl 1 rfl) ?_
            refine r_iload_n C dX4_goesFor_78 rfl (lv_at hl 4 rfl) ?_
            refine r_icmp_le C (tgt := 87) dX4_goesFor_79 (by decide) (by have := cost_rg hs (m := m) (c := n) (by omega) (by omega); exact ⟨by omega, by omega⟩) (by exact ⟨by omega, by omega⟩) (fun h8 => ?_) (fun h8 => ?_)
            · refine r_iload_n C dX4_goesFor_87 rfl (lv_at hl 4 rfl) ?_
              refine r_istore_n C [(3, .int (iI ((gf s m n).2))), (2, .int (iI ((gf s m n).1))), (5, .int (iI (cost s m n))), (0, .ref (a 0)), (1, .int (iI m)), (4, .int (iI n))] dX4_goesFor_88 rfl hl (by decide) rfl (fun ls hl => ?_)
              refine r_iinc C 5 [(4, .int (iI (n + 1))), (3, .int (iI ((gf s m n).2))), (2, .int (iI ((gf s m n).1))), (5, .int (iI (cost s m n))), (0, .ref (a 0)), (1, .int (iI m))] dX4_goesFor_89 hl rfl (by decide) rfl (fun ls hl => ?_)
              refine r_goto C (tgt := 7) dX4_goesFor_92 (by decide) ?_
              exact ihn ls (lv_eq (lv_sub hl [4, 5, 2, 1, 0] rfl) (by first | (simp only [gf, gfv, h1, h2, eq_true h3, h7, h8, not_true_eq_false, not_false_eq_true, and_true, true_and, and_false, false_and, or_true, true_or, or_false, false_or, if_true, if_false, ne_eq, reduceIte]; rfl) | (exfalso; omega)))
            · refine r_iload C dX4_goesFor_82 (lv_at hl 1 rfl) ?_
              refine r_goto C (tgt := 88) dX4_goesFor_84 (by decide) ?_
              refine r_istore_n C [(3, .int (iI (cost s m n))), (2, .int (iI ((gf s m n).1))), (5, .int (iI (cost s m n))), (0, .ref (a 0)), (1, .int (iI m)), (4, .int (iI n))] dX4_goesFor_88 rfl hl (by decide) rfl (fun ls hl => ?_)
              refine r_iinc C 5 [(4, .int (iI (n + 1))), (3, .int (iI (cost s m n))), (2, .int (iI ((gf s m n).1))), (5, .int (iI (cost s m n))), (0, .ref (a 0)), (1, .int (iI m))] dX4_goesFor_89 hl rfl (by decide) rfl (fun ls hl => ?_)
              refine r_goto C (tgt := 7) dX4_goesFor_92 (by decide) ?_
              exact ihn ls (lv_eq (lv_sub hl [4, 5, 2, 1, 0] rfl) (by first | (simp only [gf, gfv, h1, h2, eq_true h3, h7, h8, not_true_eq_false, not_false_eq_true, and_true, true_and, and_false, false_and, or_true, true_or, or_false, false_or, if_true, if_false, ne_eq, reduceIte]; rfl) | (exfalso; omega)))
          · refine r_iload C dX4_goesFor_69 (lv_at hl 5 rfl) ?_
            refine r_goto C (tgt := 75) dX4_goesFor_71 (by decide) ?_
            refine r_istore_n C [(2, .int (iI n)), (5, .int (iI (cost s m n))), (0, .ref (a 0)), (1, .int (iI m)), (3, .int (iI ((gf s m n).2))), (4, .int (iI n))] dX4_goesFor_75 rfl hl (by decide) rfl (fun ls hl => ?_)
            refine r_iload C dX4_goesFor_76 (lv_at hl 1 rfl) ?_
            refine r_iload_n C dX4_goesFor_78 rfl (lv_at hl 4 rfl) ?_
            refine r_icmp_le C (tgt := 87) dX4_goesFor_79 (by decide) (by have := cost_rg hs (m := m) (c := n) (by omega) (by omega); exact ⟨by omega, by omega⟩) (by exact ⟨by omega, by omega⟩) (fun h9 => ?_) (fun h9 => ?_)
            · refine r_iload_n C dX4_goesFor_87 rfl (lv_at hl 4 rfl) ?_
              refine r_istore_n C [(3, .int (iI ((gf s m n).2))), (2, .int (iI n)), (5, .int (iI (cost s m n))), (0, .ref (a 0)), (1, .int (iI m)), (4, .int (iI n))] dX4_goesFor_88 rfl hl (by decide) rfl (fun ls hl => ?_)
              refine r_iinc C 5 [(4, .int (iI (n + 1))), (3, .int (iI ((gf s m n).2))), (2, .int (iI n)), (5, .int (iI (cost s m n))), (0, .ref (a 0)), (1, .int (iI m))] dX4_goesFor_89 hl rfl (by decide) rfl (fun ls hl => ?_)
              refine r_goto C (tgt := 7) dX4_goesFor_92 (by decide) ?_
              exact ihn ls (lv_eq (lv_sub hl [4, 5, 2, 1, 0] rfl) (by first | (simp only [gf, gfv, h1, h2, eq_true h3, h7, h9, not_true_eq_false, not_false_eq_true, and_true, true_and, and_false, false_and, or_true, true_or, or_false, false_or, if_true, if_false, ne_eq, reduceIte]; rfl) | (exfalso; omega)))
            · refine r_iload C dX4_goesFor_82 (lv_at hl 1 rfl) ?_
              refine r_goto C (tgt := 88) dX4_goesFor_84 (by decide) ?_
              refine r_istore_n C [(3, .int (iI (cost s m n))), (2, .int (iI n)), (5, .int (iI (cost s m n))), (0, .ref (a 0)), (1, .int (iI m)), (4, .int (iI n))] dX4_goesFor_88 rfl hl (by decide) rfl (fun ls hl => ?_)
              refine r_iinc C 5 [(4, .int (iI (n + 1))), (3, .int (iI (cost s m n))), (2, .int (iI n)), (5, .int (iI (cost s m n))), (0, .ref (a 0)), (1, .int (iI m))] dX4_goesFor_89 hl rfl (by decide) rfl (fun ls hl => ?_)
              refine r_goto C (tgt := 7) dX4_goesFor_92 (by decide) ?_
              exact ihn ls (lv_eq (lv_sub hl [4, 5, 2, 1, 0] rfl) (by first | (simp only [gf, gfv, h1, h2, eq_true h3, h7, h9, not_true_eq_false, not_false_eq_true, and_true, true_and, and_false, false_and, or_true, true_or, or_false, false_or, if_true, if_false, ne_eq, reduceIte]; rfl) | (exfalso; omega)))
      · refine r_iconst C dX4_goesFor_23 ?_
        refine r_goto C (tgt := 61) dX4_goesFor_24 (by decide) ?_
        refine r_istore C [(5, .int (iI 0)), (0, .ref (a 0)), (1, .int (iI m)), (2, .int (iI ((gf s m n).1))), (3, .int (iI ((gf s m n).2))), (4, .int (iI n))] dX4_goesFor_61 hl (by decide) rfl (fun ls hl => ?_)
        refine r_iload C dX4_goesFor_63 (lv_at hl 0 rfl) ?_
        refine r_iload_n C dX4_goesFor_65 rfl (lv_at hl 4 rfl) ?_
        refine r_icmp_le C (tgt := 74) dX4_goesFor_66 (by decide) ⟨by decide, by decide⟩ (by exact ⟨by omega, by omega⟩) (fun h10 => ?_) (fun h10 => ?_)
        · refine r_iload_n C dX4_goesFor_74 rfl (lv_at hl 3 rfl) ?_
          refine r_istore_n C [(2, .int (iI ((gf s m n).1))), (5, .int (iI 0)), (0, .ref (a 0)), (1, .int (iI m)), (3, .int (iI ((gf s m n).2))), (4, .int (iI n))] dX4_goesFor_75 rfl hl (by decide) rfl (fun ls hl => ?_)
          refine r_iload C dX4_goesFor_76 (lv_at hl 1 rfl) ?_
          refine r_iload_n C dX4_goesFor_78 rfl (lv_at hl 4 rfl) ?_
          refine r_icmp_le C (tgt := 87) dX4_goesFor_79 (by decide) ⟨by decide, by decide⟩ (by exact ⟨by omega, by omega⟩) (fun h11 => ?_) (fun h11 => ?_)
          · refine r_iload_n C dX4_goesFor_87 rfl (lv_at hl 4 rfl) ?_
            refine r_istore_n C [(3, .int (iI ((gf s m n).2))), (2, .int (iI ((gf s m n).1))), (5, .int (iI 0)), (0, .ref (a 0)), (1, .int (iI m)), (4, .int (iI n))] dX4_goesFor_88 rfl hl (by decide) rfl (fun ls hl => ?_)
            refine r_iinc C 5 [(4, .int (iI (n + 1))), (3, .int (iI ((gf s m n).2))), (2, .int (iI ((gf s m n).1))), (5, .int (iI 0)), (0, .ref (a 0)), (1, .int (iI m))] dX4_goesFor_89 hl rfl (by decide) rfl (fun ls hl => ?_)
            refine r_goto C (tgt := 7) dX4_goesFor_92 (by decide) ?_
            exact ihn ls (lv_eq (lv_sub hl [4, 5, 2, 1, 0] rfl) (by first | (simp only [gf, gfv, h1, h2, h10, h11, not_true_eq_false, not_false_eq_true, and_true, true_and, and_false, false_and, or_true, true_or, or_false, false_or, if_true, if_false, ne_eq, reduceIte]; rfl) | (exfalso; omega)))
          · refine r_iload C dX4_goesFor_82 (lv_at hl 1 rfl) ?_
            refine r_goto C (tgt := 88) dX4_goesFor_84 (by decide) ?_
            refine r_istore_n C [(3, .int (iI 0)), (2, .int (iI ((gf s m n).1))), (5, .int (iI 0)), (0, .ref (a 0)), (1, .int (iI m)), (4, .int (iI n))] dX4_goesFor_88 rfl hl (by decide) rfl (fun ls hl => ?_)
            refine r_iinc C 5 [(4, .int (iI (n + 1))), (3, .int (iI 0)), (2, .int (iI ((gf s m n).1))), (5, .int (iI 0)), (0, .ref (a 0)), (1, .int (iI m))] dX4_goesFor_89 hl rfl (by decide) rfl (fun ls hl => ?_)
            refine r_goto C (tgt := 7) dX4_goesFor_92 (by decide) ?_
            exact ihn ls (lv_eq (lv_sub hl [4, 5, 2, 1, 0] rfl) (by first | (simp only [gf, gfv, h1, h2, h10, h11, not_true_eq_false, not_false_eq_true, and_true, true_and, and_false, false_and, or_true, true_or, or_false, false_or, if_true, if_false, ne_eq, reduceIte]; rfl) | (exfalso; omega)))
        · refine r_iload C dX4_goesFor_69 (lv_at hl 5 rfl) ?_
          refine r_goto C (tgt := 75) dX4_goesFor_71 (by decide) ?_
          refine r_istore_n C [(2, .int (iI n)), (5, .int (iI 0)), (0, .ref (a 0)), (1, .int (iI m)), (3, .int (iI ((gf s m n).2))), (4, .int (iI n))] dX4_goesFor_75 rfl hl (by decide) rfl (fun ls hl => ?_)
          refine r_iload C dX4_goesFor_76 (lv_at hl 1 rfl) ?_
          refine r_iload_n C dX4_goesFor_78 rfl (lv_at hl 4 rfl) ?_
          refine r_icmp_le C (tgt := 87) dX4_goesFor_79 (by decide) ⟨by decide, by decide⟩ (by exact ⟨by omega, by omega⟩) (fun h12 => ?_) (fun h12 => ?_)
          · refine r_iload_n C dX4_goesFor_87 rfl (lv_at hl 4 rfl) ?_
            refine r_istore_n C [(3, .int (iI ((gf s m n).2))), (2, .int (iI n)), (5, .int (iI 0)), (0, .ref (a 0)), (1, .int (iI m)), (4, .int (iI n))] dX4_goesFor_88 rfl hl (by decide) rfl (fun ls hl => ?_)
            refine r_iinc C 5 [(4, .int (iI (n + 1))), (3, .int (iI ((gf s m n).2))), (2, .int (iI n)), (5, .int (iI 0)), (0, .ref (a 0)), (1, .int (iI m))] dX4_goesFor_89 hl rfl (by decide) rfl (fun ls hl => ?_)
            refine r_goto C (tgt := 7) dX4_goesFor_92 (by decide) ?_
            exact ihn ls (lv_eq (lv_sub hl [4, 5, 2, 1, 0] rfl) (by first | (simp only [gf, gfv, h1, h2, h10, h12, not_true_eq_false, not_false_eq_true, and_true, true_and, and_false, false_and, or_true, true_or, or_false, false_or, if_true, if_false, ne_eq, reduceIte]; rfl) | (exfalso; omega)))
          · refine r_iload C dX4_goesFor_82 (lv_at hl 1 rfl) ?_
            refine r_goto C (tgt := 88) dX4_goesFor_84 (by decide) ?_
            refine r_istore_n C [(3, .int (iI 0)), (2, .int (iI n)), (5, .int (iI 0)), (0, .ref (a 0)), (1, .int (iI m)), (4, .int (iI n))] dX4_goesFor_88 rfl hl (by decide) rfl (fun ls hl => ?_)
            refine r_iinc C 5 [(4, .int (iI (n + 1))), (3, .int (iI 0)), (2, .int (iI n)), (5, .int (iI 0)), (0, .ref (a 0)), (1, .int (iI m))] dX4_goesFor_89 hl rfl (by decide) rfl (fun ls hl => ?_)
            refine r_goto C (tgt := 7) dX4_goesFor_92 (by decide) ?_
            exact ihn ls (lv_eq (lv_sub hl [4, 5, 2, 1, 0] rfl) (by first | (simp only [gf, gfv, h1, h2, h10, h12, not_true_eq_false, not_false_eq_true, and_true, true_and, and_false, false_and, or_true, true_or, or_false, false_or, if_true, if_false, ne_eq, reduceIte]; rfl) | (exfalso; omega)))
  · have hl : lv_has ls 6 [(0, .ref (a 0)), (1, .int (iI m)), (2, .int (iI ((gf s m 48).1))), (3, .int (iI ((gf s m 48).2))), (4, .int (iI 48))] := hl
    have h9 := gf_rg hs hm hm1 48 (by omega)
    have h8 := hs.2.2.2 m hm hm1
    refine r_iload C dX4_goesFor_7 (lv_at hl 4 rfl) ?_
    refine r_bipush C dX4_goesFor_9 (by decide) ?_
    refine r_icmp_ge C (tgt := 95) dX4_goesFor_11 (by decide) ⟨by decide, by decide⟩ ⟨by decide, by decide⟩ (fun h13 => ?_) (fun h13 => ?_)
    · refine r_iload_n C dX4_goesFor_95 rfl (lv_at hl 2 rfl) ?_
      exact r_iretR C rfl dX4_goesFor_96
    · exfalso; omega
end MODEL
