section CLASS
variable {l : Launch} {D : va_G} {k : Nat → ClassId} {b d : Nat → Nat} {s t : Int → Int} {y ty : Int}
theorem ok_paint {s : Int → Int} (hs : Ok s) {w c v : Int} (hc : 0 ≤ c) (hc1 : c < 48) (hv : 0 ≤ v) (hv1 : v < 100000) : Ok (up s ((if w = 0 then 3 else 51) + c) v) := by
  by_cases h : w = 0
  · rw [if_pos h]; exact ok_up hs ⟨by omega, by omega⟩ ⟨hv, hv1⟩ (fun _ => by omega) (fun _ _ _ _ => by omega)
  · rw [if_neg h]; exact ok_up hs ⟨by omega, by omega⟩ ⟨hv, hv1⟩ (fun _ => by omega) (fun _ _ _ _ => by omega)
set_option maxHeartbeats 4000000 in
set_option maxRecDepth 100000 in
theorem cW_sortSpoiltBy {v : Int} (hv : 0 ≤ v) (hv1 : v < 100000) : MR l yX2_sortSpoiltBy cX2_sortSpoiltBy 1 (some .int) 0 0 D k [.int (iI v)] [] (.int (iI (spB v))) := by
  refine MR.mk RX2 rfl (by decide +kernel) (Nat.le_of_ble_eq_true rfl) (fun p e U m0 below meth cd ls C hP hl => ?_)
  have hl : lv_has ls 1 [(0, .int (iI v))] := hl
  refine r_iload_n C dX2_sortSpoiltBy_0 rfl (lv_at hl 0 rfl) ?_
  refine r_iconst C dX2_sortSpoiltBy_1 ?_
  refine r_icmp_ne C (tgt := 7) dX2_sortSpoiltBy_2 (by decide) (by exact ⟨by omega, by omega⟩) ⟨by decide, by decide⟩ (fun h1 => ?_) (fun h1 => ?_)
  · refine r_iload_n C dX2_sortSpoiltBy_7 rfl (lv_at hl 0 rfl) ?_
    refine r_iconst C dX2_sortSpoiltBy_8 ?_
    refine r_icmp_ne C (tgt := 16) dX2_sortSpoiltBy_9 (by decide) (by exact ⟨by omega, by omega⟩) ⟨by decide, by decide⟩ (fun h2 => ?_) (fun h2 => ?_)
    · refine r_iconst C dX2_sortSpoiltBy_16 ?_
      exact r_iretR C (congrArg iI (by simp only [spB, h1, h2, not_true_eq_false, not_false_eq_true, and_true, true_and, and_false, false_and, or_true, true_or, or_false, false_or, if_true, if_false, ne_eq, reduceIte])) dX2_sortSpoiltBy_17
    · refine r_iconst C dX2_sortSpoiltBy_12 ?_
      refine r_goto C (tgt := 17) dX2_sortSpoiltBy_13 (by decide) ?_
      exact r_iretR C (congrArg iI (by simp only [spB, h1, eq_true h2, not_true_eq_false, not_false_eq_true, and_true, true_and, and_false, false_and, or_true, true_or, or_false, false_or, if_true, if_false, ne_eq, reduceIte])) dX2_sortSpoiltBy_17
  · refine r_iconst C dX2_sortSpoiltBy_5 ?_
    exact r_iretR C (congrArg iI (by simp only [spB, eq_true h1, not_true_eq_false, not_false_eq_true, and_true, true_and, and_false, false_and, or_true, true_or, or_false, false_or, if_true, if_false, ne_eq, reduceIte])) dX2_sortSpoiltBy_6
set_option maxHeartbeats 4000000 in
set_option maxRecDepth 100000 in
theorem cW_sortSpoiltTo {v : Int} (hv : 0 ≤ v) (hv1 : v < 100000) : MR l yX2_sortSpoiltTo cX2_sortSpoiltTo 1 (some .int) 0 0 D k [.int (iI v)] [] (.int (iI (spT v))) := by
  refine MR.mk RX2 rfl (by decide +kernel) (Nat.le_of_ble_eq_true rfl) (fun p e U m0 below meth cd ls C hP hl => ?_)
  have hl : lv_has ls 1 [(0, .int (iI v))] := hl
  refine r_iload_n C dX2_sortSpoiltTo_0 rfl (lv_at hl 0 rfl) ?_
  refine r_iconst C dX2_sortSpoiltTo_1 ?_
  refine r_icmp_ne C (tgt := 9) dX2_sortSpoiltTo_2 (by decide) (by exact ⟨by omega, by omega⟩) ⟨by decide, by decide⟩ (fun h1 => ?_) (fun h1 => ?_)
  · refine r_iconst C dX2_sortSpoiltTo_9 ?_
    exact r_iretR C (congrArg iI (by simp only [spT, h1, not_true_eq_false, not_false_eq_true, and_true, true_and, and_false, false_and, or_true, true_or, or_false, false_or, if_true, if_false, ne_eq, reduceIte])) dX2_sortSpoiltTo_10
  · refine r_iconst C dX2_sortSpoiltTo_5 ?_
    refine r_goto C (tgt := 10) dX2_sortSpoiltTo_6 (by decide) ?_
    exact r_iretR C (congrArg iI (by simp only [spT, eq_true h1, not_true_eq_false, not_false_eq_true, and_true, true_and, and_false, false_and, or_true, true_or, or_false, false_or, if_true, if_false, ne_eq, reduceIte])) dX2_sortSpoiltTo_10
set_option maxHeartbeats 4000000 in
set_option maxRecDepth 100000 in
theorem cW_cellAtSide {c : Int} {w : Int} (hc : 0 ≤ c) (hc1 : c < 48) (hw : 0 ≤ w) (hw1 : w < 4) : MR l yX2_cellAtSide cX2_cellAtSide 3 (some .int) 0 0 D k [.int (iI c), .int (iI w)] [] (.int (iI (besd c w))) := by
  refine MR.mk RX2 rfl (by decide +kernel) (Nat.le_of_ble_eq_true rfl) (fun p e U m0 below meth cd ls C hP hl => ?_)
  have hl : lv_has ls 3 [(0, .int (iI c)), (1, .int (iI w))] := hl
  refine r_iload_n C dX2_cellAtSide_0 rfl (lv_at hl 0 rfl) ?_
  refine r_bipush C dX2_cellAtSide_1 (by decide) ?_
  refine r_irem C dX2_cellAtSide_3 (by omega) (by omega) (by omega) (by omega) ?_
  refine r_istore_n C [(2, .int (iI (c % 8))), (0, .int (iI c)), (1, .int (iI w))] dX2_cellAtSide_4 rfl hl (by decide) rfl (fun ls hl => ?_)
  refine r_iload_n C dX2_cellAtSide_5 rfl (lv_at hl 2 rfl) ?_
  by_cases h1 : w = 0
  · refine r_tableIn C (0) h1 dX2_cellAtSide_6 (by decide) (by decide) rfl (tgt := 32) (by decide) ?_
    refine r_iload_n C dX2_cellAtSide_32 rfl (lv_at hl 1 rfl) ?_
    refine r_bipush C dX2_cellAtSide_33 (by decide) ?_
    refine r_icmp_lt C (tgt := 45) dX2_cellAtSide_35 (by decide) (by exact ⟨by omega, by omega⟩) ⟨by decide, by decide⟩ (fun h2 => ?_) (fun h2 => ?_)
    · refine r_iconst C dX2_cellAtSide_45 ?_
      exact r_iretR C (congrArg iI (by unfold besd; repeat' split; all_goals omega)) dX2_cellAtSide_46
    · refine r_iload_n C dX2_cellAtSide_38 rfl (lv_at hl 1 rfl) ?_
      refine r_bipush C dX2_cellAtSide_39 (by decide) ?_
      refine r_isub C dX2_cellAtSide_41 ?_
      refine r_goto C (tgt := 46) dX2_cellAtSide_42 (by decide) ?_
      exact r_iretR C (congrArg iI (by unfold besd; repeat' split; all_goals omega)) dX2_cellAtSide_46
  by_cases h3 : w = 1
  · refine r_tableIn C (1) h3 dX2_cellAtSide_6 (by decide) (by decide) rfl (tgt := 47) (by decide) ?_
    refine r_iload_n C dX2_cellAtSide_47 rfl (lv_at hl 0 rfl) ?_
    refine r_bipush C dX2_cellAtSide_48 (by decide) ?_
    refine r_icmp_ge C (tgt := 59) dX2_cellAtSide_50 (by decide) (by exact ⟨by omega, by omega⟩) ⟨by decide, by decide⟩ (fun h4 => ?_) (fun h4 => ?_)
    · refine r_iconst C dX2_cellAtSide_59 ?_
      exact r_iretR C (congrArg iI (by unfold besd; repeat' split; all_goals omega)) dX2_cellAtSide_60
    · refine r_iload_n C dX2_cellAtSide_53 rfl (lv_at hl 1 rfl) ?_
      refine r_iconst C dX2_cellAtSide_54 ?_
      refine r_iadd C dX2_cellAtSide_55 ?_
      refine r_goto C (tgt := 60) dX2_cellAtSide_56 (by decide) ?_
      exact r_iretR C (congrArg iI (by unfold besd; repeat' split; all_goals omega)) dX2_cellAtSide_60
  by_cases h5 : w = 2
  · refine r_tableIn C (2) h5 dX2_cellAtSide_6 (by decide) (by decide) rfl (tgt := 61) (by decide) ?_
    refine r_iload_n C dX2_cellAtSide_61 rfl (lv_at hl 1 rfl) ?_
    refine r_bipush C dX2_cellAtSide_62 (by decide) ?_
    refine r_icmp_ge C (tgt := 74) dX2_cellAtSide_64 (by decide) (by exact ⟨by omega, by omega⟩) ⟨by decide, by decide⟩ (fun h6 => ?_) (fun h6 => ?_)
    · refine r_iconst C dX2_cellAtSide_74 ?_
      exact r_iretR C (congrArg iI (by unfold besd; repeat' split; all_goals omega)) dX2_cellAtSide_75
    · refine r_iload_n C dX2_cellAtSide_67 rfl (lv_at hl 1 rfl) ?_
      refine r_bipush C dX2_cellAtSide_68 (by decide) ?_
      refine r_iadd C dX2_cellAtSide_70 ?_
      refine r_goto C (tgt := 75) dX2_cellAtSide_71 (by decide) ?_
      exact r_iretR C (congrArg iI (by unfold besd; repeat' split; all_goals omega)) dX2_cellAtSide_75
  refine r_tableOut C dX2_cellAtSide_6 (by exact ⟨by omega, by omega⟩) (by omega) (tgt := 76) (by decide) ?_
  refine r_iload_n C dX2_cellAtSide_76 rfl (lv_at hl 0 rfl) ?_
  refine r_if_le C (tgt := 86) dX2_cellAtSide_77 (by decide) (by exact ⟨by omega, by omega⟩) (fun h7 => ?_) (fun h7 => ?_)
  · refine r_iconst C dX2_cellAtSide_86 ?_
    exact r_iretR C (congrArg iI (by unfold besd; repeat' split; all_goals omega)) dX2_cellAtSide_87
  · refine r_iload_n C dX2_cellAtSide_80 rfl (lv_at hl 1 rfl) ?_
    refine r_iconst C dX2_cellAtSide_81 ?_
    refine r_isub C dX2_cellAtSide_82 ?_
    refine r_goto C (tgt := 87) dX2_cellAtSide_83 (by decide) ?_
    exact r_iretR C (congrArg iI (by unfold besd; repeat' split; all_goals omega)) dX2_cellAtSide_87
set_option maxHeartbeats 4000000 in
set_option maxRecDepth 100000 in
theorem cW_paint {w : Int} {c : Int} {v : Int} (zw : In32 w) (hc : 0 ≤ c) (hc1 : c < 48) (hv : 0 ≤ v) (hv1 : v < 100000) (hs : Ok s) : MW l yX2_paint cX2_paint 8 (some .int) 0 0 D k [.ref (b 0), .int (iI w), .int (iI c), .int (iI v)] (wW b k s (lB (wrF s)) y) (wW b k (up s ((if w = 0 then 3 else 51) + c) v) (lB (wrF (up s ((if w = 0 then 3 else 51) + c) v))) y) (some (.int (iI (s ((if w = 0 then 3 else 51) + c))))) := by
  refine MW.mk RX2 rfl (by decide +kernel) (Nat.le_of_ble_eq_true rfl) (fun p e U m0 below meth cd ls C hP hD hS hl => ?_)
  have hl : lv_has ls 8 [(0, .ref (b 0)), (1, .int (iI w)), (2, .int (iI c)), (3, .int (iI v))] := hl
  have zw1 := zw.1
  have zw2 := zw.2
  refine r_iload_n C dX2_paint_0 rfl (lv_at hl 1 rfl) ?_
  refine r_if_ne C (tgt := 11) dX2_paint_1 (by decide) (by exact ⟨by omega, by omega⟩) (fun h1 => ?_) (fun h1 => ?_)
  · refine r_aload_n C dX2_paint_11 rfl (lv_at hl 0 rfl) ?_
    refine g_X2_15 C hP 0 rfl rfl dX2_paint_12 ?_
    refine r_astore C [(4, .ref (b 2)), (0, .ref (b 0)), (1, .int (iI w)), (2, .int (iI c)), (3, .int (iI v))] dX2_paint_15 hl (by decide) rfl (fun ls hl => ?_)
    refine r_aload C dX2_paint_17 (lv_at hl 0 rfl) ?_
    refine r_iload_n C dX2_paint_19 rfl (lv_at hl 3 rfl) ?_
    refine r_ialdV C hP 2 (s (51 + c)) rfl dX2_paint_20 (by omega) (by omega) (by decide) (ma_at (by omega) (by omega)) ?_
    refine r_istore C [(5, .int (iI (s (51 + c)))), (4, .ref (b 2)), (0, .ref (b 0)), (1, .int (iI w)), (2, .int (iI c)), (3, .int (iI v))] dX2_paint_21 hl (by decide) rfl (fun ls hl => ?_)
    refine r_aload C dX2_paint_23 (lv_at hl 1 rfl) ?_
    refine r_iload_n C dX2_paint_25 rfl (lv_at hl 4 rfl) ?_
    refine r_iload_n C dX2_paint_26 rfl (lv_at hl 5 rfl) ?_
    refine r_iast C hP hD hS 2 (wW b k (up s (51 + c) v) (lB (wrF s)) y) rfl dX2_paint_27 (by omega) (by omega) (by decide) (wW_ma (by omega) (by omega)) (fun H locs hP hD hS => ?_)
    have hs1 : Ok (up s (51 + c) v) := ok_up hs ⟨by omega, by omega⟩ ⟨by omega, by omega⟩ (fun _ => by omega) (fun _ _ _ _ => by omega)
    refine r_lconst C (z := 1) dX2_paint_28 (by decide) ?_
    refine r_iload_n C dX2_paint_29 rfl (lv_at hl 4 rfl) ?_
    refine r_lone C (by omega) (by omega) dX2_paint_30 ?_
    refine r_lstore C [(6, .long (lB (onF c))), (5, .int (iI (s (51 + c)))), (4, .ref (b 2)), (0, .ref (b 0)), (1, .int (iI w)), (2, .int (iI c)), (3, .int (iI v))] dX2_paint_31 hl (by decide) rfl (fun ls hl => ?_)
    refine r_aload_n C dX2_paint_33 rfl (lv_at hl 3 rfl) ?_
    refine r_aload_n C dX2_paint_34 rfl (lv_at hl 3 rfl) ?_
    refine g_X2_9 C hP 0 rfl rfl dX2_paint_35 ?_
    refine r_iload_n C dX2_paint_38 rfl (lv_at hl 5 rfl) ?_
    refine r_ialdV C hP 1 ((up s (51 + c) v) (3 + c)) rfl dX2_paint_39 (by omega) (by omega) (by decide) (la_at (by omega) (by omega)) ?_
    refine r_aload_n C dX2_paint_40 rfl (lv_at hl 3 rfl) ?_
    refine g_X2_15 C hP 0 rfl rfl dX2_paint_41 ?_
    refine r_iload_n C dX2_paint_44 rfl (lv_at hl 5 rfl) ?_
    refine r_ialdV C hP 2 ((up s (51 + c) v) (51 + c)) rfl dX2_paint_45 (by omega) (by omega) (by decide) (ma_at (by omega) (by omega)) ?_
    refine r_icmp_ne C (tgt := 63) dX2_paint_46 (by decide) (by have := hs.1 (51 + c) (by omega); have := hs1.1 (3 + c) (by omega); exact ⟨by omega, by omega⟩) (by have := hs.1 (51 + c) (by omega); have := hs1.1 (51 + c) (by omega); exact ⟨by omega, by omega⟩) (fun h2 => ?_) (fun h2 => ?_)
    · refine r_aload_n C dX2_paint_63 rfl (lv_at hl 3 rfl) ?_
      refine g_X2_46 C hP 0 rfl rfl dX2_paint_64 ?_
      refine r_lload C dX2_paint_67 (lv_at hl 0 rfl) ?_
      refine r_lorB C dX2_paint_69 ?_
      refine p_X2_46 C hP hD hS 0 (wW b k (up s (51 + c) v) (lB (orF (wrF s) (onF c))) y) rfl (Nat.le_of_ble_eq_true rfl) rfl dX2_paint_70 (fun H locs hP hD hS => ?_)
      refine r_iload C dX2_paint_73 (lv_at hl 1 rfl) ?_
      exact r_iretW C hP hS (by rw [if_neg h1, wr_ma1 hc hc1 h2]) (by rw [if_neg h1]) dX2_paint_75
    · refine r_aload_n C dX2_paint_49 rfl (lv_at hl 3 rfl) ?_
      refine g_X2_46 C hP 0 rfl rfl dX2_paint_50 ?_
      refine r_lload C dX2_paint_53 (lv_at hl 0 rfl) ?_
      refine r_ldc2 C (-1) kl_X2_50 (by decide) dX2_paint_55 ?_
      refine r_lnotB C dX2_paint_58 ?_
      refine r_landB C dX2_paint_59 ?_
      refine r_goto C (tgt := 70) dX2_paint_60 (by decide) ?_
      refine p_X2_46 C hP hD hS 0 (wW b k (up s (51 + c) v) (lB (anF (wrF s) (noF (onF c)))) y) rfl (Nat.le_of_ble_eq_true rfl) rfl dX2_paint_70 (fun H locs hP hD hS => ?_)
      refine r_iload C dX2_paint_73 (lv_at hl 1 rfl) ?_
      exact r_iretW C hP hS (by rw [if_neg h1, wr_ma0 hc hc1 h2]) (by rw [if_neg h1]) dX2_paint_75
  · refine r_aload_n C dX2_paint_4 rfl (lv_at hl 0 rfl) ?_
    refine g_X2_9 C hP 0 rfl rfl dX2_paint_5 ?_
    refine r_goto C (tgt := 15) dX2_paint_8 (by decide) ?_
    refine r_astore C [(4, .ref (b 1)), (0, .ref (b 0)), (1, .int (iI w)), (2, .int (iI c)), (3, .int (iI v))] dX2_paint_15 hl (by decide) rfl (fun ls hl => ?_)
    refine r_aload C dX2_paint_17 (lv_at hl 0 rfl) ?_
    refine r_iload_n C dX2_paint_19 rfl (lv_at hl 3 rfl) ?_
    refine r_ialdV C hP 1 (s (3 + c)) rfl dX2_paint_20 (by omega) (by omega) (by decide) (la_at (by omega) (by omega)) ?_
    refine r_istore C [(5, .int (iI (s (3 + c)))), (4, .ref (b 1)), (0, .ref (b 0)), (1, .int (iI w)), (2, .int (iI c)), (3, .int (iI v))] dX2_paint_21 hl (by decide) rfl (fun ls hl => ?_)
    refine r_aload C dX2_paint_23 (lv_at hl 1 rfl) ?_
    refine r_iload_n C dX2_paint_25 rfl (lv_at hl 4 rfl) ?_
    refine r_iload_n C dX2_paint_26 rfl (lv_at hl 5 rfl) ?_
    refine r_iast C hP hD hS 1 (wW b k (up s (3 + c) v) (lB (wrF s)) y) rfl dX2_paint_27 (by omega) (by omega) (by decide) (wW_la (by omega) (by omega)) (fun H locs hP hD hS => ?_)
    have hs2 : Ok (up s (3 + c) v) := ok_up hs ⟨by omega, by omega⟩ ⟨by omega, by omega⟩ (fun _ => by omega) (fun _ _ _ _ => by omega)
    refine r_lconst C (z := 1) dX2_paint_28 (by decide) ?_
    refine r_iload_n C dX2_paint_29 rfl (lv_at hl 4 rfl) ?_
    refine r_lone C (by omega) (by omega) dX2_paint_30 ?_
    refine r_lstore C [(6, .long (lB (onF c))), (5, .int (iI (s (3 + c)))), (4, .ref (b 1)), (0, .ref (b 0)), (1, .int (iI w)), (2, .int (iI c)), (3, .int (iI v))] dX2_paint_31 hl (by decide) rfl (fun ls hl => ?_)
    refine r_aload_n C dX2_paint_33 rfl (lv_at hl 3 rfl) ?_
    refine r_aload_n C dX2_paint_34 rfl (lv_at hl 3 rfl) ?_
    refine g_X2_9 C hP 0 rfl rfl dX2_paint_35 ?_
    refine r_iload_n C dX2_paint_38 rfl (lv_at hl 5 rfl) ?_
    refine r_ialdV C hP 1 ((up s (3 + c) v) (3 + c)) rfl dX2_paint_39 (by omega) (by omega) (by decide) (la_at (by omega) (by omega)) ?_
    refine r_aload_n C dX2_paint_40 rfl (lv_at hl 3 rfl) ?_
    refine g_X2_15 C hP 0 rfl rfl dX2_paint_41 ?_
    refine r_iload_n C dX2_paint_44 rfl (lv_at hl 5 rfl) ?_
    refine r_ialdV C hP 2 ((up s (3 + c) v) (51 + c)) rfl dX2_paint_45 (by omega) (by omega) (by decide) (ma_at (by omega) (by omega)) ?_
    refine r_icmp_ne C (tgt := 63) dX2_paint_46 (by decide) (by have := hs.1 (3 + c) (by omega); have := hs2.1 (3 + c) (by omega); exact ⟨by omega, by omega⟩) (by have := hs.1 (3 + c) (by omega); have := hs2.1 (51 + c) (by omega); exact ⟨by omega, by omega⟩) (fun h3 => ?_) (fun h3 => ?_)
    · refine r_aload_n C dX2_paint_63 rfl (lv_at hl 3 rfl) ?_
      refine g_X2_46 C hP 0 rfl rfl dX2_paint_64 ?_
      refine r_lload C dX2_paint_67 (lv_at hl 0 rfl) ?_
      refine r_lorB C dX2_paint_69 ?_
      refine p_X2_46 C hP hD hS 0 (wW b k (up s (3 + c) v) (lB (orF (wrF s) (onF c))) y) rfl (Nat.le_of_ble_eq_true rfl) rfl dX2_paint_70 (fun H locs hP hD hS => ?_)
      refine r_iload C dX2_paint_73 (lv_at hl 1 rfl) ?_
      exact r_iretW C hP hS (by rw [if_pos h1, wr_la1 hc hc1 h3]) (by rw [if_pos h1]) dX2_paint_75
    · refine r_aload_n C dX2_paint_49 rfl (lv_at hl 3 rfl) ?_
      refine g_X2_46 C hP 0 rfl rfl dX2_paint_50 ?_
      refine r_lload C dX2_paint_53 (lv_at hl 0 rfl) ?_
      refine r_ldc2 C (-1) kl_X2_50 (by decide) dX2_paint_55 ?_
      refine r_lnotB C dX2_paint_58 ?_
      refine r_landB C dX2_paint_59 ?_
      refine r_goto C (tgt := 70) dX2_paint_60 (by decide) ?_
      refine p_X2_46 C hP hD hS 0 (wW b k (up s (3 + c) v) (lB (anF (wrF s) (noF (onF c)))) y) rfl (Nat.le_of_ble_eq_true rfl) rfl dX2_paint_70 (fun H locs hP hD hS => ?_)
      refine r_iload C dX2_paint_73 (lv_at hl 1 rfl) ?_
      exact r_iretW C hP hS (by rw [if_pos h1, wr_la0 hc hc1 h3]) (by rw [if_pos h1]) dX2_paint_75
theorem cW_paint0 {c v : Int} (hc : 0 ≤ c) (hc1 : c < 48) (hv : 0 ≤ v) (hv1 : v < 100000) (hs : Ok s) : MW l yX2_paint cX2_paint 8 (some .int) 0 0 D k [.ref (b 0), .int (iI 0), .int (iI c), .int (iI v)] (wW b k s (lB (wrF s)) y) (wW b k (up s (3 + c) v) (lB (wrF (up s (3 + c) v))) y) (some (.int (iI (s (3 + c))))) := cW_paint (w := 0) ⟨by decide, by decide⟩ hc hc1 hv hv1 hs
theorem cW_paint1 {c v : Int} (hc : 0 ≤ c) (hc1 : c < 48) (hv : 0 ≤ v) (hv1 : v < 100000) (hs : Ok s) : MW l yX2_paint cX2_paint 8 (some .int) 0 0 D k [.ref (b 0), .int (iI 1), .int (iI c), .int (iI v)] (wW b k s (lB (wrF s)) y) (wW b k (up s (51 + c) v) (lB (wrF (up s (51 + c) v))) y) (some (.int (iI (s (51 + c))))) := cW_paint (w := 1) ⟨by decide, by decide⟩ hc hc1 hv hv1 hs
set_option maxHeartbeats 4000000 in
set_option maxRecDepth 100000 in
theorem cW_addMender {kd : Int} {c : Int} {pu : Int} (hk : 0 ≤ kd) (hk1 : kd < 6) (hc : 0 ≤ c) (hc1 : c < 48) (hp : 0 ≤ pu) (hp1 : pu < 10000) (hs : Ok s) (h6 : s 0 < 6) : MW l yX2_addMender cX2_addMender 5 (some .int) 0 0 D k [.ref (b 0), .int (iI kd), .int (iI c), .int (iI pu)] (wW b k s (lB (wrF s)) y) (wW b k (addS s kd c pu) (lB (wrF (addS s kd c pu))) y) (some (.int (iI (s 0)))) := by
  refine MW.mk RX2 rfl (by decide +kernel) (Nat.le_of_ble_eq_true rfl) (fun p e U m0 below meth cd ls C hP hD hS hl => ?_)
  have hl : lv_has ls 5 [(0, .ref (b 0)), (1, .int (iI kd)), (2, .int (iI c)), (3, .int (iI pu))] := hl
  have h00 := hs.1 0 (by decide)
  refine r_aload_n C dX2_addMender_0 rfl (lv_at hl 0 rfl) ?_
  refine g_X2_40 C hP 0 rfl rfl dX2_addMender_1 ?_
  refine r_istore C [(4, .int (iI (s 0))), (0, .ref (b 0)), (1, .int (iI kd)), (2, .int (iI c)), (3, .int (iI pu))] dX2_addMender_4 hl (by decide) rfl (fun ls hl => ?_)
  refine r_aload_n C dX2_addMender_6 rfl (lv_at hl 1 rfl) ?_
  refine g_X2_18 C hP 0 rfl rfl dX2_addMender_7 ?_
  refine r_iload C dX2_addMender_10 (lv_at hl 0 rfl) ?_
  refine r_iload_n C dX2_addMender_12 rfl (lv_at hl 2 rfl) ?_
  refine r_iast C hP hD hS 3 (wW b k (up s (99 + 4 * (s 0) + 0) kd) (lB (wrF s)) y) rfl dX2_addMender_13 (by omega) (by omega) (by decide) (wW_ki (by omega) (by omega)) (fun H locs hP hD hS => ?_)
  have hs1 : Ok (up s (99 + 4 * (s 0) + 0) kd) := ok_up hs ⟨by omega, by omega⟩ ⟨by omega, by omega⟩ (fun _ => by omega) (fun _ _ _ _ => by omega)
  refine r_aload_n C dX2_addMender_14 rfl (lv_at hl 1 rfl) ?_
  refine g_X2_21 C hP 0 rfl rfl dX2_addMender_15 ?_
  refine r_iload C dX2_addMender_18 (lv_at hl 0 rfl) ?_
  refine r_iload_n C dX2_addMender_20 rfl (lv_at hl 3 rfl) ?_
  refine r_iast C hP hD hS 4 (wW b k (up (up s (99 + 4 * (s 0) + 0) kd) (99 + 4 * (s 0) + 1) c) (lB (wrF s)) y) rfl dX2_addMender_21 (by omega) (by omega) (by decide) (wW_pl (by omega) (by omega)) (fun H locs hP hD hS => ?_)
  have hs2 : Ok (up (up s (99 + 4 * (s 0) + 0) kd) (99 + 4 * (s 0) + 1) c) := ok_up hs1 ⟨by omega, by omega⟩ ⟨by omega, by omega⟩ (fun _ => by omega) (fun _ _ _ _ => by omega)
  refine r_aload_n C dX2_addMender_22 rfl (lv_at hl 1 rfl) ?_
  refine g_X2_24 C hP 0 rfl rfl dX2_addMender_23 ?_
  refine r_iload C dX2_addMender_26 (lv_at hl 0 rfl) ?_
  refine r_iload_n C dX2_addMender_28 rfl (lv_at hl 4 rfl) ?_
  refine r_iast C hP hD hS 5 (wW b k (up (up (up s (99 + 4 * (s 0) + 0) kd) (99 + 4 * (s 0) + 1) c) (99 + 4 * (s 0) + 2) pu) (lB (wrF s)) y) rfl dX2_addMender_29 (by omega) (by omega) (by decide) (wW_pu (by omega) (by omega)) (fun H locs hP hD hS => ?_)
  have hs3 : Ok (up (up (up s (99 + 4 * (s 0) + 0) kd) (99 + 4 * (s 0) + 1) c) (99 + 4 * (s 0) + 2) pu) := ok_up hs2 ⟨by omega, by omega⟩ ⟨by omega, by omega⟩ (fun _ => by omega) (fun _ _ _ _ => by omega)
  refine r_aload_n C dX2_addMender_30 rfl (lv_at hl 1 rfl) ?_
  refine g_X2_27 C hP 0 rfl rfl dX2_addMender_31 ?_
  refine r_iload C dX2_addMender_34 (lv_at hl 0 rfl) ?_
  refine r_iconst C dX2_addMender_36 ?_
  refine r_iast C hP hD hS 6 (wW b k (up (up (up (up s (99 + 4 * (s 0) + 0) kd) (99 + 4 * (s 0) + 1) c) (99 + 4 * (s 0) + 2) pu) (99 + 4 * (s 0) + 3) 0) (lB (wrF s)) y) rfl dX2_addMender_37 (by omega) (by omega) (by decide) (wW_pa (by omega) (by omega)) (fun H locs hP hD hS => ?_)
  have hs4 : Ok (up (up (up (up s (99 + 4 * (s 0) + 0) kd) (99 + 4 * (s 0) + 1) c) (99 + 4 * (s 0) + 2) pu) (99 + 4 * (s 0) + 3) 0) := ok_up hs3 ⟨by omega, by omega⟩ ⟨by omega, by omega⟩ (fun _ => by omega) (fun _ _ _ _ => by omega)
  refine r_aload_n C dX2_addMender_38 rfl (lv_at hl 1 rfl) ?_
  refine r_dup C dX2_addMender_39 rfl ?_
  refine g_X2_40 C hP 0 rfl rfl dX2_addMender_40 ?_
  refine r_iconst C dX2_addMender_43 ?_
  refine r_iadd C dX2_addMender_44 ?_
  refine p_X2_40 C hP hD hS 0 (wW b k (up (up (up (up (up s (99 + 4 * (s 0) + 0) kd) (99 + 4 * (s 0) + 1) c) (99 + 4 * (s 0) + 2) pu) (99 + 4 * (s 0) + 3) 0) 0 (((up (up (up (up s (99 + 4 * (s 0) + 0) kd) (99 + 4 * (s 0) + 1) c) (99 + 4 * (s 0) + 2) pu) (99 + 4 * (s 0) + 3) 0) 0) + 1)) (lB (wrF s)) y) rfl (Nat.le_of_ble_eq_true rfl) wW_me dX2_addMender_45 (fun H locs hP hD hS => ?_)
  refine r_iload C dX2_addMender_48 (lv_at hl 0 rfl) ?_
  exact r_iretW C hP hS (by rw [wr_addS h00.1, addS]) rfl dX2_addMender_50
set_option maxHeartbeats 4000000 in
set_option maxRecDepth 100000 in
theorem cW_isWrong {c : Int} (hc : 0 ≤ c) (hc1 : c < 48) : MR l yX2_isWrong cX2_isWrong 2 (some .boolean) 1 22 D k [.ref (b 0), .int (iI c)] (wW b k s (lB (wrF s)) y) (.int (iB (untrue s c))) := by
  refine MR.mk RX2 rfl (by decide +kernel) (Nat.le_of_ble_eq_true rfl) (fun p e U m0 below meth cd ls C hP hl => ?_)
  have hl : lv_has ls 2 [(0, .ref (b 0)), (1, .int (iI c))] := hl
  refine r_aload_n C dX2_isWrong_0 rfl (lv_at hl 0 rfl) ?_
  refine g_X2_46 C hP 0 rfl rfl dX2_isWrong_1 ?_
  refine r_iload_n C dX2_isWrong_4 rfl (lv_at hl 1 rfl) ?_
  refine r_cNR2 C m_X2_52 (cT_hasW s (by omega) (by omega)) pn0 hl.1 dX2_isWrong_5 ?_
  exact r_zretR C rfl dX2_isWrong_8
set_option maxHeartbeats 4000000 in
set_option maxRecDepth 100000 in
theorem cW_howManyWrong   : MR l yX2_howManyWrong cX2_howManyWrong 1 (some .int) 1 21 D k [.ref (b 0)] (wW b k s (lB (wrF s)) y) (.int (iI (wrongMany s))) := by
  refine MR.mk RX2 rfl (by decide +kernel) (Nat.le_of_ble_eq_true rfl) (fun p e U m0 below meth cd ls C hP hl => ?_)
  have hl : lv_has ls 1 [(0, .ref (b 0))] := hl
  refine r_aload_n C dX2_howManyWrong_0 rfl (lv_at hl 0 rfl) ?_
  refine g_X2_46 C hP 0 rfl rfl dX2_howManyWrong_1 ?_
  refine r_cSR1 C m_X2_56 (cJ_bitCountW s) pn0 hl.1 dX2_howManyWrong_4 ?_
  exact r_iretR C rfl dX2_howManyWrong_7
set_option maxHeartbeats 4000000 in
set_option maxRecDepth 100000 in
theorem cW_mendersAt {c : Int} (hc : 0 ≤ c) (hc1 : c < 48) (hs : Ok s) : MR l yX2_mendersAt cX2_mendersAt 4 (some .int) 0 0 D k [.ref (b 0), .int (iI c)] (wW b k s (lB (wrF s)) y) (.int (iI (thA s c (s 0).toNat))) := by
  refine MR.mk RX2 rfl (by decide +kernel) (Nat.le_of_ble_eq_true rfl) (fun p e U m0 below meth cd ls C hP hl => ?_)
  have hl : lv_has ls 4 [(0, .ref (b 0)), (1, .int (iI c))] := hl
  have h00 := hs.1 0 (by decide)
  have h06 := hs.2.2.1
  refine r_iconst C dX2_mendersAt_0 ?_
  refine r_istore_n C [(2, .int (iI 0)), (0, .ref (b 0)), (1, .int (iI c))] dX2_mendersAt_1 rfl hl (by decide) rfl (fun ls hl => ?_)
  refine r_iconst C dX2_mendersAt_2 ?_
  refine r_istore_n C [(3, .int (iI 0)), (2, .int (iI 0)), (0, .ref (b 0)), (1, .int (iI c))] dX2_mendersAt_3 rfl hl (by decide) rfl (fun ls hl => ?_)
  refine r_loopR (fun n : Nat => [(0, .ref (b 0)), (1, .int (iI c)), (2, .int (iI (thA s c n))), (3, .int (iI n))]) ((s 0).toNat) (lv_eq (lv_sub hl [2, 3, 1, 0] rfl) rfl) (fun n hn ihn ls hl => ?_) (fun ls hl => ?_)
  · have hl : lv_has ls 4 [(0, .ref (b 0)), (1, .int (iI c)), (2, .int (iI (thA s c n))), (3, .int (iI n))] := hl
    refine r_iload_n C dX2_mendersAt_4 rfl (lv_at hl 3 rfl) ?_
    refine r_aload_n C dX2_mendersAt_5 rfl (lv_at hl 0 rfl) ?_
    refine g_X2_40 C hP 0 rfl rfl dX2_mendersAt_6 ?_
    refine r_icmp_ge C (tgt := 34) dX2_mendersAt_9 (by decide) (by exact ⟨by omega, by omega⟩) (by exact ⟨by omega, by omega⟩) (fun h1 => ?_) (fun h1 => ?_)
    · exfalso; omega
    · refine r_aload_n C dX2_mendersAt_12 rfl (lv_at hl 0 rfl) ?_
      refine g_X2_21 C hP 0 rfl rfl dX2_mendersAt_13 ?_
      refine r_iload_n C dX2_mendersAt_16 rfl (lv_at hl 3 rfl) ?_
      refine r_ialdV C hP 4 (s (99 + 4 * n + 1)) rfl dX2_mendersAt_17 (by omega) (by omega) (by decide) (pl_at (by omega) (by omega)) ?_
      refine r_iload_n C dX2_mendersAt_18 rfl (lv_at hl 1 rfl) ?_
      refine r_icmp_ne C (tgt := 28) dX2_mendersAt_19 (by decide) (by have := hs.1 (99 + 4 * n + 1) (by omega); exact ⟨by omega, by omega⟩) (by exact ⟨by omega, by omega⟩) (fun h2 => ?_) (fun h2 => ?_)
      · refine r_iinc C 3 [(3, .int (iI (n + 1))), (0, .ref (b 0)), (1, .int (iI c)), (2, .int (iI (thA s c n)))] dX2_mendersAt_28 hl rfl (by decide) rfl (fun ls hl => ?_)
        refine r_goto C (tgt := 4) dX2_mendersAt_31 (by decide) ?_
        exact ihn ls (lv_eq (lv_sub hl [1, 2, 3, 0] rfl) (by simp only [thA, h1, h2, not_true_eq_false, not_false_eq_true, and_true, true_and, and_false, false_and, or_true, true_or, or_false, false_or, if_true, if_false, ne_eq, reduceIte, Int.add_zero]; rfl))
      · refine r_iload_n C dX2_mendersAt_22 rfl (lv_at hl 2 rfl) ?_
        refine r_iconst C dX2_mendersAt_23 ?_
        refine r_iload_n C dX2_mendersAt_24 rfl (lv_at hl 3 rfl) ?_
        refine r_ishl1 C dX2_mendersAt_25 (by omega) (by omega) ?_
        refine r_iorP C dX2_mendersAt_26 (by exact (thA_rg s c n).1) (by have := (thA_rg s c n).2; exact this) (by omega) ?_
        refine r_istore_n C [(2, .int (iI ((thA s c n) + (2 ^ (n : Int).toNat)))), (0, .ref (b 0)), (1, .int (iI c)), (3, .int (iI n))] dX2_mendersAt_27 rfl hl (by decide) rfl (fun ls hl => ?_)
        refine r_iinc C 3 [(3, .int (iI (n + 1))), (2, .int (iI ((thA s c n) + (2 ^ (n : Int).toNat)))), (0, .ref (b 0)), (1, .int (iI c))] dX2_mendersAt_28 hl rfl (by decide) rfl (fun ls hl => ?_)
        refine r_goto C (tgt := 4) dX2_mendersAt_31 (by decide) ?_
        exact ihn ls (lv_eq (lv_sub hl [2, 3, 1, 0] rfl) (by simp only [thA, h1, eq_true h2, not_true_eq_false, not_false_eq_true, and_true, true_and, and_false, false_and, or_true, true_or, or_false, false_or, if_true, if_false, ne_eq, reduceIte, Int.add_zero]; rfl))
  · have hl : lv_has ls 4 [(0, .ref (b 0)), (1, .int (iI c)), (2, .int (iI (thA s c (s 0).toNat))), (3, .int (iI ((s 0).toNat)))] := hl
    refine r_iload_n C dX2_mendersAt_4 rfl (lv_at hl 3 rfl) ?_
    refine r_aload_n C dX2_mendersAt_5 rfl (lv_at hl 0 rfl) ?_
    refine g_X2_40 C hP 0 rfl rfl dX2_mendersAt_6 ?_
    refine r_icmp_ge C (tgt := 34) dX2_mendersAt_9 (by decide) (by exact ⟨by omega, by omega⟩) (by exact ⟨by omega, by omega⟩) (fun h3 => ?_) (fun h3 => ?_)
    · refine r_iload_n C dX2_mendersAt_34 rfl (lv_at hl 2 rfl) ?_
      exact r_iretR C rfl dX2_mendersAt_35
    · exfalso; omega
set_option maxHeartbeats 4000000 in
set_option maxRecDepth 100000 in
theorem cW_landOf {v : Int} (zv : In32 v) (hs : Ok s) : MR l yX2_landOf cX2_landOf 5 (some .long) 0 0 D k [.ref (b 0), .int (iI v)] (wW b k s (lB (wrF s)) y) (.long (lB (loF s v 48))) := by
  refine MR.mk RX2 rfl (by decide +kernel) (Nat.le_of_ble_eq_true rfl) (fun p e U m0 below meth cd ls C hP hl => ?_)
  have hl : lv_has ls 5 [(0, .ref (b 0)), (1, .int (iI v))] := hl
  have zv1 := zv.1
  have zv2 := zv.2
  refine r_lconst C (z := 0) dX2_landOf_0 (by decide) ?_
  refine r_lstore_n C [(2, .long (lI 0)), (0, .ref (b 0)), (1, .int (iI v))] dX2_landOf_1 rfl hl (by decide) rfl (fun ls hl => ?_)
  refine r_iconst C dX2_landOf_2 ?_
  refine r_istore C [(4, .int (iI 0)), (2, .long (lI 0)), (0, .ref (b 0)), (1, .int (iI v))] dX2_landOf_3 hl (by decide) rfl (fun ls hl => ?_)
  refine r_loopR (fun n : Nat => [(0, .ref (b 0)), (1, .int (iI v)), (2, .long (lB (loF s v n))), (4, .int (iI n))]) (48) (lv_eq (lv_sub hl [2, 3, 1, 0] rfl) (by rw [← lo_0 s v, ← lB_0]; rfl)) (fun n hn ihn ls hl => ?_) (fun ls hl => ?_)
  · have hl : lv_has ls 5 [(0, .ref (b 0)), (1, .int (iI v)), (2, .long (lB (loF s v n))), (4, .int (iI n))] := hl
    refine r_iload C dX2_landOf_5 (lv_at hl 3 rfl) ?_
    refine r_bipush C dX2_landOf_7 (by decide) ?_
    refine r_icmp_ge C (tgt := 36) dX2_landOf_9 (by decide) (by exact ⟨by omega, by omega⟩) ⟨by decide, by decide⟩ (fun h1 => ?_) (fun h1 => ?_)
    · exfalso; omega
    · refine r_aload_n C dX2_landOf_12 rfl (lv_at hl 0 rfl) ?_
      refine g_X2_9 C hP 0 rfl rfl dX2_landOf_13 ?_
      refine r_iload C dX2_landOf_16 (lv_at hl 3 rfl) ?_
      refine r_ialdV C hP 1 (s (3 + n)) rfl dX2_landOf_18 (by omega) (by omega) (by decide) (la_at (by omega) (by omega)) ?_
      refine r_iload_n C dX2_landOf_19 rfl (lv_at hl 1 rfl) ?_
      refine r_icmp_ne C (tgt := 30) dX2_landOf_20 (by decide) (by have := hs.1 (3 + n) (by omega); exact ⟨by omega, by omega⟩) (by exact ⟨by omega, by omega⟩) (fun h2 => ?_) (fun h2 => ?_)
      · refine r_iinc C 3 [(4, .int (iI (n + 1))), (0, .ref (b 0)), (1, .int (iI v)), (2, .long (lB (loF s v n)))] dX2_landOf_30 hl rfl (by decide) rfl (fun ls hl => ?_)
        refine r_goto C (tgt := 5) dX2_landOf_33 (by decide) ?_
        exact ihn ls (lv_eq (lv_sub hl [1, 2, 3, 0] rfl) (by rw [lo_s0 h2]; rfl))
      · refine r_lload_n C dX2_landOf_23 rfl (lv_at hl 2 rfl) ?_
        refine r_lconst C (z := 1) dX2_landOf_24 (by decide) ?_
        refine r_iload C dX2_landOf_25 (lv_at hl 3 rfl) ?_
        refine r_lone C (by omega) (by omega) dX2_landOf_27 ?_
        refine r_lorB C dX2_landOf_28 ?_
        refine r_lstore_n C [(2, .long (lB (orF (loF s v n) (onF n)))), (0, .ref (b 0)), (1, .int (iI v)), (4, .int (iI n))] dX2_landOf_29 rfl hl (by decide) rfl (fun ls hl => ?_)
        refine r_iinc C 3 [(4, .int (iI (n + 1))), (2, .long (lB (orF (loF s v n) (onF n)))), (0, .ref (b 0)), (1, .int (iI v))] dX2_landOf_30 hl rfl (by decide) rfl (fun ls hl => ?_)
        refine r_goto C (tgt := 5) dX2_landOf_33 (by decide) ?_
        exact ihn ls (lv_eq (lv_sub hl [2, 3, 1, 0] rfl) (by rw [lo_s1 h2]; rfl))
  · have hl : lv_has ls 5 [(0, .ref (b 0)), (1, .int (iI v)), (2, .long (lB (loF s v 48))), (4, .int (iI 48))] := hl
    refine r_iload C dX2_landOf_5 (lv_at hl 3 rfl) ?_
    refine r_bipush C dX2_landOf_7 (by decide) ?_
    refine r_icmp_ge C (tgt := 36) dX2_landOf_9 (by decide) ⟨by decide, by decide⟩ ⟨by decide, by decide⟩ (fun h3 => ?_) (fun h3 => ?_)
    · refine r_lload_n C dX2_landOf_36 rfl (lv_at hl 2 rfl) ?_
      exact r_lretR C rfl dX2_landOf_37
    · exfalso; omega
set_option maxHeartbeats 4000000 in
set_option maxRecDepth 100000 in
theorem cW_together2  (hs : Ok s) : MR l yX2_together cX2_together 4 (some .int) 0 0 D k [.ref (b 0), .ref (b 5)] (wW b k s (lB (wrF s)) y) (.int (iI (tgt s 2 (s 0).toNat))) := by
  refine MR.mk RX2 rfl (by decide +kernel) (Nat.le_of_ble_eq_true rfl) (fun p e U m0 below meth cd ls C hP hl => ?_)
  have hl : lv_has ls 4 [(0, .ref (b 0)), (1, .ref (b 5))] := hl
  have h00 := hs.1 0 (by decide)
  have h06 := hs.2.2.1
  refine r_iconst C dX2_together_0 ?_
  refine r_istore_n C [(2, .int (iI 0)), (0, .ref (b 0)), (1, .ref (b 5))] dX2_together_1 rfl hl (by decide) rfl (fun ls hl => ?_)
  refine r_iconst C dX2_together_2 ?_
  refine r_istore_n C [(3, .int (iI 0)), (2, .int (iI 0)), (0, .ref (b 0)), (1, .ref (b 5))] dX2_together_3 rfl hl (by decide) rfl (fun ls hl => ?_)
  refine r_loopR (fun n : Nat => [(0, .ref (b 0)), (1, .ref (b 5)), (2, .int (iI (tgt s 2 n))), (3, .int (iI n))]) ((s 0).toNat) (lv_eq (lv_sub hl [2, 3, 1, 0] rfl) rfl) (fun n hn ihn ls hl => ?_) (fun ls hl => ?_)
  · have hl : lv_has ls 4 [(0, .ref (b 0)), (1, .ref (b 5)), (2, .int (iI (tgt s 2 n))), (3, .int (iI n))] := hl
    refine r_iload_n C dX2_together_4 rfl (lv_at hl 3 rfl) ?_
    refine r_aload_n C dX2_together_5 rfl (lv_at hl 0 rfl) ?_
    refine g_X2_40 C hP 0 rfl rfl dX2_together_6 ?_
    refine r_icmp_ge C (tgt := 24) dX2_together_9 (by decide) (by exact ⟨by omega, by omega⟩) (by exact ⟨by omega, by omega⟩) (fun h1 => ?_) (fun h1 => ?_)
    · exfalso; omega
    · refine r_iload_n C dX2_together_12 rfl (lv_at hl 2 rfl) ?_
      refine r_aload_n C dX2_together_13 rfl (lv_at hl 1 rfl) ?_
      refine r_iload_n C dX2_together_14 rfl (lv_at hl 3 rfl) ?_
      refine r_ialdV C hP 5 (s (99 + 4 * n + 2)) rfl dX2_together_15 (by omega) (by omega) (by decide) (pu_at (by omega) (by omega)) ?_
      refine r_iadd C dX2_together_16 ?_
      refine r_istore_n C [(2, .int (iI ((tgt s 2 n) + (s (99 + 4 * n + 2))))), (0, .ref (b 0)), (1, .ref (b 5)), (3, .int (iI n))] dX2_together_17 rfl hl (by decide) rfl (fun ls hl => ?_)
      refine r_iinc C 3 [(3, .int (iI (n + 1))), (2, .int (iI ((tgt s 2 n) + (s (99 + 4 * n + 2))))), (0, .ref (b 0)), (1, .ref (b 5))] dX2_together_18 hl rfl (by decide) rfl (fun ls hl => ?_)
      refine r_goto C (tgt := 4) dX2_together_21 (by decide) ?_
      exact ihn ls (lv_eq (lv_sub hl [2, 3, 1, 0] rfl) (by simp only [tgt]; rfl))
  · have hl : lv_has ls 4 [(0, .ref (b 0)), (1, .ref (b 5)), (2, .int (iI (tgt s 2 (s 0).toNat))), (3, .int (iI ((s 0).toNat)))] := hl
    refine r_iload_n C dX2_together_4 rfl (lv_at hl 3 rfl) ?_
    refine r_aload_n C dX2_together_5 rfl (lv_at hl 0 rfl) ?_
    refine g_X2_40 C hP 0 rfl rfl dX2_together_6 ?_
    refine r_icmp_ge C (tgt := 24) dX2_together_9 (by decide) (by exact ⟨by omega, by omega⟩) (by exact ⟨by omega, by omega⟩) (fun h2 => ?_) (fun h2 => ?_)
    · refine r_iload_n C dX2_together_24 rfl (lv_at hl 2 rfl) ?_
      exact r_iretR C rfl dX2_together_25
    · exfalso; omega
set_option maxHeartbeats 4000000 in
set_option maxRecDepth 100000 in
theorem cW_together3  (hs : Ok s) : MR l yX2_together cX2_together 4 (some .int) 0 0 D k [.ref (b 0), .ref (b 6)] (wW b k s (lB (wrF s)) y) (.int (iI (tgt s 3 (s 0).toNat))) := by
  refine MR.mk RX2 rfl (by decide +kernel) (Nat.le_of_ble_eq_true rfl) (fun p e U m0 below meth cd ls C hP hl => ?_)
  have hl : lv_has ls 4 [(0, .ref (b 0)), (1, .ref (b 6))] := hl
  have h00 := hs.1 0 (by decide)
  have h06 := hs.2.2.1
  refine r_iconst C dX2_together_0 ?_
  refine r_istore_n C [(2, .int (iI 0)), (0, .ref (b 0)), (1, .ref (b 6))] dX2_together_1 rfl hl (by decide) rfl (fun ls hl => ?_)
  refine r_iconst C dX2_together_2 ?_
  refine r_istore_n C [(3, .int (iI 0)), (2, .int (iI 0)), (0, .ref (b 0)), (1, .ref (b 6))] dX2_together_3 rfl hl (by decide) rfl (fun ls hl => ?_)
  refine r_loopR (fun n : Nat => [(0, .ref (b 0)), (1, .ref (b 6)), (2, .int (iI (tgt s 3 n))), (3, .int (iI n))]) ((s 0).toNat) (lv_eq (lv_sub hl [2, 3, 1, 0] rfl) rfl) (fun n hn ihn ls hl => ?_) (fun ls hl => ?_)
  · have hl : lv_has ls 4 [(0, .ref (b 0)), (1, .ref (b 6)), (2, .int (iI (tgt s 3 n))), (3, .int (iI n))] := hl
    refine r_iload_n C dX2_together_4 rfl (lv_at hl 3 rfl) ?_
    refine r_aload_n C dX2_together_5 rfl (lv_at hl 0 rfl) ?_
    refine g_X2_40 C hP 0 rfl rfl dX2_together_6 ?_
    refine r_icmp_ge C (tgt := 24) dX2_together_9 (by decide) (by exact ⟨by omega, by omega⟩) (by exact ⟨by omega, by omega⟩) (fun h1 => ?_) (fun h1 => ?_)
    · exfalso; omega
    · refine r_iload_n C dX2_together_12 rfl (lv_at hl 2 rfl) ?_
      refine r_aload_n C dX2_together_13 rfl (lv_at hl 1 rfl) ?_
      refine r_iload_n C dX2_together_14 rfl (lv_at hl 3 rfl) ?_
      refine r_ialdV C hP 6 (s (99 + 4 * n + 3)) rfl dX2_together_15 (by omega) (by omega) (by decide) (pa_at (by omega) (by omega)) ?_
      refine r_iadd C dX2_together_16 ?_
      refine r_istore_n C [(2, .int (iI ((tgt s 3 n) + (s (99 + 4 * n + 3))))), (0, .ref (b 0)), (1, .ref (b 6)), (3, .int (iI n))] dX2_together_17 rfl hl (by decide) rfl (fun ls hl => ?_)
      refine r_iinc C 3 [(3, .int (iI (n + 1))), (2, .int (iI ((tgt s 3 n) + (s (99 + 4 * n + 3))))), (0, .ref (b 0)), (1, .ref (b 6))] dX2_together_18 hl rfl (by decide) rfl (fun ls hl => ?_)
      refine r_goto C (tgt := 4) dX2_together_21 (by decide) ?_
      exact ihn ls (lv_eq (lv_sub hl [2, 3, 1, 0] rfl) (by simp only [tgt]; rfl))
  · have hl : lv_has ls 4 [(0, .ref (b 0)), (1, .ref (b 6)), (2, .int (iI (tgt s 3 (s 0).toNat))), (3, .int (iI ((s 0).toNat)))] := hl
    refine r_iload_n C dX2_together_4 rfl (lv_at hl 3 rfl) ?_
    refine r_aload_n C dX2_together_5 rfl (lv_at hl 0 rfl) ?_
    refine g_X2_40 C hP 0 rfl rfl dX2_together_6 ?_
    refine r_icmp_ge C (tgt := 24) dX2_together_9 (by decide) (by exact ⟨by omega, by omega⟩) (by exact ⟨by omega, by omega⟩) (fun h2 => ?_) (fun h2 => ?_)
    · refine r_iload_n C dX2_together_24 rfl (lv_at hl 2 rfl) ?_
      exact r_iretR C rfl dX2_together_25
    · exfalso; omega
set_option maxHeartbeats 4000000 in
set_option maxRecDepth 100000 in
theorem cW_isEither {c : Int} {v : Int} (hc : 0 ≤ c) (hc1 : c < 48) (zv : In32 v) (hs : Ok s) : MR l yX2_isEither cX2_isEither 3 (some .boolean) 0 0 D k [.ref (b 0), .int (iI c), .int (iI v)] (wW b k s (lB (wrF s)) y) (.int (iB (s (3 + c) = v ∨ s (51 + c) = v))) := by
  refine MR.mk RX2 rfl (by decide +kernel) (Nat.le_of_ble_eq_true rfl) (fun p e U m0 below meth cd ls C hP hl => ?_)
  have hl : lv_has ls 3 [(0, .ref (b 0)), (1, .int (iI c)), (2, .int (iI v))] := hl
  have zv1 := zv.1
  have zv2 := zv.2
  refine r_aload_n C dX2_isEither_0 rfl (lv_at hl 0 rfl) ?_
  refine g_X2_9 C hP 0 rfl rfl dX2_isEither_1 ?_
  refine r_iload_n C dX2_isEither_4 rfl (lv_at hl 1 rfl) ?_
  refine r_ialdV C hP 1 (s (3 + c)) rfl dX2_isEither_5 (by omega) (by omega) (by decide) (la_at (by omega) (by omega)) ?_
  refine r_iload_n C dX2_isEither_6 rfl (lv_at hl 2 rfl) ?_
  refine r_icmp_eq C (tgt := 20) dX2_isEither_7 (by decide) (by have := hs.1 (3 + c) (by omega); exact ⟨by omega, by omega⟩) (by exact ⟨by omega, by omega⟩) (fun h1 => ?_) (fun h1 => ?_)
  · refine r_iconst C dX2_isEither_20 ?_
    refine r_goto C (tgt := 25) dX2_isEither_21 (by decide) ?_
    exact r_zretR C (iB1 (by omega)) dX2_isEither_25
  · refine r_aload_n C dX2_isEither_10 rfl (lv_at hl 0 rfl) ?_
    refine g_X2_15 C hP 0 rfl rfl dX2_isEither_11 ?_
    refine r_iload_n C dX2_isEither_14 rfl (lv_at hl 1 rfl) ?_
    refine r_ialdV C hP 2 (s (51 + c)) rfl dX2_isEither_15 (by omega) (by omega) (by decide) (ma_at (by omega) (by omega)) ?_
    refine r_iload_n C dX2_isEither_16 rfl (lv_at hl 2 rfl) ?_
    refine r_icmp_ne C (tgt := 24) dX2_isEither_17 (by decide) (by have := hs.1 (51 + c) (by omega); exact ⟨by omega, by omega⟩) (by exact ⟨by omega, by omega⟩) (fun h2 => ?_) (fun h2 => ?_)
    · refine r_iconst C dX2_isEither_24 ?_
      exact r_zretR C (iB0 (by omega)) dX2_isEither_25
    · refine r_iconst C dX2_isEither_20 ?_
      refine r_goto C (tgt := 25) dX2_isEither_21 (by decide) ?_
      exact r_zretR C (iB1 (by omega)) dX2_isEither_25
set_option maxHeartbeats 4000000 in
set_option maxRecDepth 100000 in
theorem cW_costOf {m : Int} {c : Int} (hm : 0 ≤ m) (hm1 : m < 6) (hc : 0 ≤ c) (hc1 : c < 48) (hs : Ok s) : MR l yX2_costOf cX2_costOf 6 (some .int) 1 23 D k [.ref (b 0), .int (iI m), .int (iI c)] (wW b k s (lB (wrF s)) y) (.int (iI (cost s m c))) := by
  refine MR.mk RX2 rfl (by decide +kernel) (Nat.le_of_ble_eq_true rfl) (fun p e U m0 below meth cd ls C hP hl => ?_)
  have hl : lv_has ls 6 [(0, .ref (b 0)), (1, .int (iI m)), (2, .int (iI c))] := hl
  have hpc := plainC_rg hs hc
  have hdg := dugC_rg hs hc
  have hwb := wrongBeside_rg s c
  have hl3 := hs.1 (3 + c) (by omega)
  have hm3 := hs.1 (51 + c) (by omega)
  refine r_iconst C dX2_costOf_0 ?_
  refine r_aload_n C dX2_costOf_1 rfl (lv_at hl 0 rfl) ?_
  refine g_X2_9 C hP 0 rfl rfl dX2_costOf_2 ?_
  refine r_iload_n C dX2_costOf_5 rfl (lv_at hl 2 rfl) ?_
  refine r_ialdV C hP 1 (s (3 + c)) rfl dX2_costOf_6 (by omega) (by omega) (by decide) (la_at (by omega) (by omega)) ?_
  refine r_aload_n C dX2_costOf_7 rfl (lv_at hl 0 rfl) ?_
  refine g_X2_15 C hP 0 rfl rfl dX2_costOf_8 ?_
  refine r_iload_n C dX2_costOf_11 rfl (lv_at hl 2 rfl) ?_
  refine r_ialdV C hP 2 (s (51 + c)) rfl dX2_costOf_12 (by omega) (by omega) (by decide) (ma_at (by omega) (by omega)) ?_
  refine r_isub C dX2_costOf_13 ?_
  refine r_mabs C m_X2_62 (by have := hs.1 (3 + c) (by omega); have := hs.1 (51 + c) (by omega); exact ⟨by omega, by omega⟩) hl.1 dX2_costOf_14 ?_
  refine r_imul C dX2_costOf_17 ?_
  refine r_iconst C dX2_costOf_18 ?_
  refine r_iadd C dX2_costOf_19 ?_
  refine r_top (plainC s c) (by unfold plainC; split <;> split <;> omega) ?_
  refine r_istore_n C [(3, .int (iI (plainC s c))), (0, .ref (b 0)), (1, .int (iI m)), (2, .int (iI c))] dX2_costOf_20 rfl hl (by decide) rfl (fun ls hl => ?_)
  refine r_aload_n C dX2_costOf_21 rfl (lv_at hl 1 rfl) ?_
  refine g_X2_46 C hP 0 rfl rfl dX2_costOf_22 ?_
  refine r_lconst C (z := 1) dX2_costOf_25 (by decide) ?_
  refine r_iload_n C dX2_costOf_26 rfl (lv_at hl 3 rfl) ?_
  refine r_lone C (by omega) (by omega) dX2_costOf_27 ?_
  refine r_cNR1 C m_X2_68 (cT_beside (l48_on (by omega) (by omega))) pn0 hl.1 dX2_costOf_28 ?_
  refine r_landB C dX2_costOf_31 ?_
  refine r_cSR1 C m_X2_56 (cJ_bitCountB s (by omega) (by omega)) pn0 hl.1 dX2_costOf_32 ?_
  refine r_istore C [(4, .int (iI (wrongBeside s c))), (3, .int (iI (plainC s c))), (0, .ref (b 0)), (1, .int (iI m)), (2, .int (iI c))] dX2_costOf_35 hl (by decide) rfl (fun ls hl => ?_)
  refine r_aload_n C dX2_costOf_37 rfl (lv_at hl 2 rfl) ?_
  refine r_iload_n C dX2_costOf_38 rfl (lv_at hl 4 rfl) ?_
  refine r_iconst C dX2_costOf_39 ?_
  refine r_cVR2 C m_X2_72 (cW_isEither (b := b) (s := s) (y := y) (by omega) (by omega) ⟨by decide, by decide⟩ hs) hP rfl rfl hl.1 dX2_costOf_40 ?_
  refine r_ifB_eq C (tgt := 52) dX2_costOf_43 (by decide) (fun h1 => ?_) (fun h1 => ?_)
  · refine r_iload_n C dX2_costOf_52 rfl (lv_at hl 1 rfl) ?_
    refine r_top (dugC s c) (by unfold dugC; first | rw [if_pos h1] | rw [if_neg h1]) ?_
    refine r_istore C [(5, .int (iI (dugC s c))), (4, .int (iI (wrongBeside s c))), (3, .int (iI (plainC s c))), (0, .ref (b 0)), (1, .int (iI m)), (2, .int (iI c))] dX2_costOf_53 hl (by decide) rfl (fun ls hl => ?_)
    refine r_aload_n C dX2_costOf_55 rfl (lv_at hl 3 rfl) ?_
    refine g_X2_18 C hP 0 rfl rfl dX2_costOf_56 ?_
    refine r_iload_n C dX2_costOf_59 rfl (lv_at hl 4 rfl) ?_
    refine r_ialdV C hP 3 (s (99 + 4 * m + 0)) rfl dX2_costOf_60 (by omega) (by omega) (by decide) (ki_at (by omega) (by omega)) ?_
    by_cases h2 : s (99 + 4 * m + 0) = 1
    · refine r_tableIn C (1) h2 dX2_costOf_61 (by decide) (by decide) rfl (tgt := 96) (by decide) ?_
      refine r_iload C dX2_costOf_96 (lv_at hl 0 rfl) ?_
      exact r_iretR C (congrArg iI (by first | (simp only [cost, h1, eq_true h2, not_true_eq_false, not_false_eq_true, and_true, true_and, and_false, false_and, or_true, true_or, or_false, false_or, if_true, if_false, ne_eq, reduceIte]; done) | (simp only [cost, atl, h1, eq_true h2, not_true_eq_false, not_false_eq_true, and_true, true_and, and_false, false_and, or_true, true_or, or_false, false_or, if_true, if_false, ne_eq, reduceIte]; split <;> split <;> omega) | (simp only [cost, atl, h1, eq_true h2, not_true_eq_false, not_false_eq_true, and_true, true_and, and_false, false_and, or_true, true_or, or_false, false_or, if_true, if_false, ne_eq, reduceIte]; split <;> omega))) dX2_costOf_98
    by_cases h3 : s (99 + 4 * m + 0) = 2
    · refine r_tableIn C (2) h3 dX2_costOf_61 (by decide) (by decide) rfl (tgt := 99) (by decide) ?_
      refine r_iload_n C dX2_costOf_99 rfl (lv_at hl 2 rfl) ?_
      refine r_iload C dX2_costOf_100 (lv_at hl 1 rfl) ?_
      refine r_iadd C dX2_costOf_102 ?_
      exact r_iretR C (congrArg iI (by first | (simp only [cost, h1, h2, eq_true h3, not_true_eq_false, not_false_eq_true, and_true, true_and, and_false, false_and, or_true, true_or, or_false, false_or, if_true, if_false, ne_eq, reduceIte]; done) | (simp only [cost, atl, h1, h2, eq_true h3, not_true_eq_false, not_false_eq_true, and_true, true_and, and_false, false_and, or_true, true_or, or_false, false_or, if_true, if_false, ne_eq, reduceIte]; split <;> split <;> omega) | (simp only [cost, atl, h1, h2, eq_true h3, not_true_eq_false, not_false_eq_true, and_true, true_and, and_false, false_and, or_true, true_or, or_false, false_or, if_true, if_false, ne_eq, reduceIte]; split <;> omega))) dX2_costOf_103
    by_cases h4 : s (99 + 4 * m + 0) = 3
    · refine r_tableIn C (3) h4 dX2_costOf_61 (by decide) (by decide) rfl (tgt := 104) (by decide) ?_
      refine r_iconst C dX2_costOf_104 ?_
      refine r_iconst C dX2_costOf_105 ?_
      refine r_iload C dX2_costOf_106 (lv_at hl 1 rfl) ?_
      refine r_iadd C dX2_costOf_108 ?_
      refine r_imul C dX2_costOf_109 ?_
      exact r_iretR C (congrArg iI (by first | (simp only [cost, h1, h2, h3, eq_true h4, not_true_eq_false, not_false_eq_true, and_true, true_and, and_false, false_and, or_true, true_or, or_false, false_or, if_true, if_false, ne_eq, reduceIte]; done) | (simp only [cost, atl, h1, h2, h3, eq_true h4, not_true_eq_false, not_false_eq_true, and_true, true_and, and_false, false_and, or_true, true_or, or_false, false_or, if_true, if_false, ne_eq, reduceIte]; split <;> split <;> omega) | (simp only [cost, atl, h1, h2, h3, eq_true h4, not_true_eq_false, not_false_eq_true, and_true, true_and, and_false, false_and, or_true, true_or, or_false, false_or, if_true, if_false, ne_eq, reduceIte]; split <;> omega))) dX2_costOf_110
    by_cases h5 : s (99 + 4 * m + 0) = 4
    · refine r_tableIn C (4) h5 dX2_costOf_61 (by decide) (by decide) rfl (tgt := 111) (by decide) ?_
      refine r_aload_n C dX2_costOf_111 rfl (lv_at hl 3 rfl) ?_
      refine r_iload_n C dX2_costOf_112 rfl (lv_at hl 5 rfl) ?_
      refine r_iconst C dX2_costOf_113 ?_
      refine r_cVR2 C m_X2_72 (cW_isEither (b := b) (s := s) (y := y) (by omega) (by omega) ⟨by decide, by decide⟩ hs) hP rfl rfl hl.1 dX2_costOf_114 ?_
      refine r_ifB_eq C (tgt := 131) dX2_costOf_117 (by decide) (fun h6 => ?_) (fun h6 => ?_)
      · refine r_iload C dX2_costOf_131 (lv_at hl 0 rfl) ?_
        exact r_iretR C (congrArg iI (by first | (simp only [cost, h1, h2, h3, h4, eq_true h5, h6, not_true_eq_false, not_false_eq_true, and_true, true_and, and_false, false_and, or_true, true_or, or_false, false_or, if_true, if_false, ne_eq, reduceIte]; done) | (simp only [cost, atl, h1, h2, h3, h4, eq_true h5, h6, not_true_eq_false, not_false_eq_true, and_true, true_and, and_false, false_and, or_true, true_or, or_false, false_or, if_true, if_false, ne_eq, reduceIte]; split <;> split <;> omega) | (simp only [cost, atl, h1, h2, h3, h4, eq_true h5, h6, not_true_eq_false, not_false_eq_true, and_true, true_and, and_false, false_and, or_true, true_or, or_false, false_or, if_true, if_false, ne_eq, reduceIte]; split <;> omega))) dX2_costOf_133
      · refine r_iconst C dX2_costOf_120 ?_
        refine r_iload C dX2_costOf_121 (lv_at hl 0 rfl) ?_
        refine r_iconst C dX2_costOf_123 ?_
        refine r_isub C dX2_costOf_124 ?_
        refine r_mmax C m_X2_76 ⟨by decide, by decide⟩ (by exact ⟨by omega, by omega⟩) hl.1 dX2_costOf_125 ?_
        refine r_goto C (tgt := 133) dX2_costOf_128 (by decide) ?_
        exact r_iretR C (congrArg iI (by first | (simp only [cost, h1, h2, h3, h4, eq_true h5, h6, not_true_eq_false, not_false_eq_true, and_true, true_and, and_false, false_and, or_true, true_or, or_false, false_or, if_true, if_false, ne_eq, reduceIte]; done) | (simp only [cost, atl, h1, h2, h3, h4, eq_true h5, h6, not_true_eq_false, not_false_eq_true, and_true, true_and, and_false, false_and, or_true, true_or, or_false, false_or, if_true, if_false, ne_eq, reduceIte]; split <;> split <;> omega) | (simp only [cost, atl, h1, h2, h3, h4, eq_true h5, h6, not_true_eq_false, not_false_eq_true, and_true, true_and, and_false, false_and, or_true, true_or, or_false, false_or, if_true, if_false, ne_eq, reduceIte]; split <;> omega))) dX2_costOf_133
    by_cases h7 : s (99 + 4 * m + 0) = 5
    · refine r_tableIn C (5) h7 dX2_costOf_61 (by decide) (by decide) rfl (tgt := 134) (by decide) ?_
      refine r_iconst C dX2_costOf_134 ?_
      refine r_iload_n C dX2_costOf_135 rfl (lv_at hl 2 rfl) ?_
      refine r_iload C dX2_costOf_136 (lv_at hl 1 rfl) ?_
      refine r_iadd C dX2_costOf_138 ?_
      refine r_aload_n C dX2_costOf_139 rfl (lv_at hl 3 rfl) ?_
      refine g_X2_24 C hP 0 rfl rfl dX2_costOf_140 ?_
      refine r_iload_n C dX2_costOf_143 rfl (lv_at hl 4 rfl) ?_
      refine r_ialdV C hP 5 (s (99 + 4 * m + 2)) rfl dX2_costOf_144 (by omega) (by omega) (by decide) (pu_at (by omega) (by omega)) ?_
      refine r_bipush C dX2_costOf_145 (by decide) ?_
      refine r_idiv C dX2_costOf_147 (by have := hs.1 (99 + 4 * m + 2) (by omega); omega) (by have := hs.1 (99 + 4 * m + 2) (by omega); omega) (by omega) (by omega) ?_
      refine r_isub C dX2_costOf_148 ?_
      refine r_mmax C m_X2_76 ⟨by decide, by decide⟩ (by have := wrongBeside_rg s c; have := hs.1 (99 + 4 * m + 2) (by omega); exact ⟨by omega, by omega⟩) hl.1 dX2_costOf_149 ?_
      exact r_iretR C (congrArg iI (by first | (simp only [cost, h1, h2, h3, h4, h5, eq_true h7, not_true_eq_false, not_false_eq_true, and_true, true_and, and_false, false_and, or_true, true_or, or_false, false_or, if_true, if_false, ne_eq, reduceIte]; done) | (simp only [cost, atl, h1, h2, h3, h4, h5, eq_true h7, not_true_eq_false, not_false_eq_true, and_true, true_and, and_false, false_and, or_true, true_or, or_false, false_or, if_true, if_false, ne_eq, reduceIte]; split <;> split <;> omega) | (simp only [cost, atl, h1, h2, h3, h4, h5, eq_true h7, not_true_eq_false, not_false_eq_true, and_true, true_and, and_false, false_and, or_true, true_or, or_false, false_or, if_true, if_false, ne_eq, reduceIte]; split <;> omega))) dX2_costOf_152
    refine r_tableOut C dX2_costOf_61 (by have := hs.1 (99 + 4 * m + 0) (by omega); exact ⟨by omega, by omega⟩) (by omega) (tgt := 153) (by decide) ?_
    refine r_iload_n C dX2_costOf_153 rfl (lv_at hl 2 rfl) ?_
    exact r_iretR C (congrArg iI (by first | (simp only [cost, h1, h2, h3, h4, h5, h7, not_true_eq_false, not_false_eq_true, and_true, true_and, and_false, false_and, or_true, true_or, or_false, false_or, if_true, if_false, ne_eq, reduceIte]; done) | (simp only [cost, atl, h1, h2, h3, h4, h5, h7, not_true_eq_false, not_false_eq_true, and_true, true_and, and_false, false_and, or_true, true_or, or_false, false_or, if_true, if_false, ne_eq, reduceIte]; split <;> split <;> omega) | (simp only [cost, atl, h1, h2, h3, h4, h5, h7, not_true_eq_false, not_false_eq_true, and_true, true_and, and_false, false_and, or_true, true_or, or_false, false_or, if_true, if_false, ne_eq, reduceIte]; split <;> omega))) dX2_costOf_154
  · refine r_iload_n C dX2_costOf_46 rfl (lv_at hl 1 rfl) ?_
    refine r_iconst C dX2_costOf_47 ?_
    refine r_idiv C dX2_costOf_48 (by omega) (by omega) (by omega) (by omega) ?_
    refine r_goto C (tgt := 53) dX2_costOf_49 (by decide) ?_
    refine r_top (dugC s c) (by unfold dugC; first | rw [if_pos h1] | rw [if_neg h1]) ?_
    refine r_istore C [(5, .int (iI (dugC s c))), (4, .int (iI (wrongBeside s c))), (3, .int (iI (plainC s c))), (0, .ref (b 0)), (1, .int (iI m)), (2, .int (iI c))] dX2_costOf_53 hl (by decide) rfl (fun ls hl => ?_)
    refine r_aload_n C dX2_costOf_55 rfl (lv_at hl 3 rfl) ?_
    refine g_X2_18 C hP 0 rfl rfl dX2_costOf_56 ?_
    refine r_iload_n C dX2_costOf_59 rfl (lv_at hl 4 rfl) ?_
    refine r_ialdV C hP 3 (s (99 + 4 * m + 0)) rfl dX2_costOf_60 (by omega) (by omega) (by decide) (ki_at (by omega) (by omega)) ?_
    by_cases h8 : s (99 + 4 * m + 0) = 1
    · refine r_tableIn C (1) h8 dX2_costOf_61 (by decide) (by decide) rfl (tgt := 96) (by decide) ?_
      refine r_iload C dX2_costOf_96 (lv_at hl 0 rfl) ?_
      exact r_iretR C (congrArg iI (by first | (simp only [cost, h1, eq_true h8, not_true_eq_false, not_false_eq_true, and_true, true_and, and_false, false_and, or_true, true_or, or_false, false_or, if_true, if_false, ne_eq, reduceIte]; done) | (simp only [cost, atl, h1, eq_true h8, not_true_eq_false, not_false_eq_true, and_true, true_and, and_false, false_and, or_true, true_or, or_false, false_or, if_true, if_false, ne_eq, reduceIte]; split <;> split <;> omega) | (simp only [cost, atl, h1, eq_true h8, not_true_eq_false, not_false_eq_true, and_true, true_and, and_false, false_and, or_true, true_or, or_false, false_or, if_true, if_false, ne_eq, reduceIte]; split <;> omega))) dX2_costOf_98
    by_cases h9 : s (99 + 4 * m + 0) = 2
    · refine r_tableIn C (2) h9 dX2_costOf_61 (by decide) (by decide) rfl (tgt := 99) (by decide) ?_
      refine r_iload_n C dX2_costOf_99 rfl (lv_at hl 2 rfl) ?_
      refine r_iload C dX2_costOf_100 (lv_at hl 1 rfl) ?_
      refine r_iadd C dX2_costOf_102 ?_
      exact r_iretR C (congrArg iI (by first | (simp only [cost, h1, h8, eq_true h9, not_true_eq_false, not_false_eq_true, and_true, true_and, and_false, false_and, or_true, true_or, or_false, false_or, if_true, if_false, ne_eq, reduceIte]; done) | (simp only [cost, atl, h1, h8, eq_true h9, not_true_eq_false, not_false_eq_true, and_true, true_and, and_false, false_and, or_true, true_or, or_false, false_or, if_true, if_false, ne_eq, reduceIte]; split <;> split <;> omega) | (simp only [cost, atl, h1, h8, eq_true h9, not_true_eq_false, not_false_eq_true, and_true, true_and, and_false, false_and, or_true, true_or, or_false, false_or, if_true, if_false, ne_eq, reduceIte]; split <;> omega))) dX2_costOf_103
    by_cases h10 : s (99 + 4 * m + 0) = 3
    · refine r_tableIn C (3) h10 dX2_costOf_61 (by decide) (by decide) rfl (tgt := 104) (by decide) ?_
      refine r_iconst C dX2_costOf_104 ?_
      refine r_iconst C dX2_costOf_105 ?_
      refine r_iload C dX2_costOf_106 (lv_at hl 1 rfl) ?_
      refine r_iadd C dX2_costOf_108 ?_
      refine r_imul C dX2_costOf_109 ?_
      exact r_iretR C (congrArg iI (by first | (simp only [cost, h1, h8, h9, eq_true h10, not_true_eq_false, not_false_eq_true, and_true, true_and, and_false, false_and, or_true, true_or, or_false, false_or, if_true, if_false, ne_eq, reduceIte]; done) | (simp only [cost, atl, h1, h8, h9, eq_true h10, not_true_eq_false, not_false_eq_true, and_true, true_and, and_false, false_and, or_true, true_or, or_false, false_or, if_true, if_false, ne_eq, reduceIte]; split <;> split <;> omega) | (simp only [cost, atl, h1, h8, h9, eq_true h10, not_true_eq_false, not_false_eq_true, and_true, true_and, and_false, false_and, or_true, true_or, or_false, false_or, if_true, if_false, ne_eq, reduceIte]; split <;> omega))) dX2_costOf_110
    by_cases h11 : s (99 + 4 * m + 0) = 4
    · refine r_tableIn C (4) h11 dX2_costOf_61 (by decide) (by decide) rfl (tgt := 111) (by decide) ?_
      refine r_aload_n C dX2_costOf_111 rfl (lv_at hl 3 rfl) ?_
      refine r_iload_n C dX2_costOf_112 rfl (lv_at hl 5 rfl) ?_
      refine r_iconst C dX2_costOf_113 ?_
      refine r_cVR2 C m_X2_72 (cW_isEither (b := b) (s := s) (y := y) (by omega) (by omega) ⟨by decide, by decide⟩ hs) hP rfl rfl hl.1 dX2_costOf_114 ?_
      refine r_ifB_eq C (tgt := 131) dX2_costOf_117 (by decide) (fun h12 => ?_) (fun h12 => ?_)
      · refine r_iload C dX2_costOf_131 (lv_at hl 0 rfl) ?_
        exact r_iretR C (congrArg iI (by first | (simp only [cost, h1, h8, h9, h10, eq_true h11, h12, not_true_eq_false, not_false_eq_true, and_true, true_and, and_false, false_and, or_true, true_or, or_false, false_or, if_true, if_false, ne_eq, reduceIte]; done) | (simp only [cost, atl, h1, h8, h9, h10, eq_true h11, h12, not_true_eq_false, not_false_eq_true, and_true, true_and, and_false, false_and, or_true, true_or, or_false, false_or, if_true, if_false, ne_eq, reduceIte]; split <;> split <;> omega) | (simp only [cost, atl, h1, h8, h9, h10, eq_true h11, h12, not_true_eq_false, not_false_eq_true, and_true, true_and, and_false, false_and, or_true, true_or, or_false, false_or, if_true, if_false, ne_eq, reduceIte]; split <;> omega))) dX2_costOf_133
      · refine r_iconst C dX2_costOf_120 ?_
        refine r_iload C dX2_costOf_121 (lv_at hl 0 rfl) ?_
        refine r_iconst C dX2_costOf_123 ?_
        refine r_isub C dX2_costOf_124 ?_
        refine r_mmax C m_X2_76 ⟨by decide, by decide⟩ (by exact ⟨by omega, by omega⟩) hl.1 dX2_costOf_125 ?_
        refine r_goto C (tgt := 133) dX2_costOf_128 (by decide) ?_
        exact r_iretR C (congrArg iI (by first | (simp only [cost, h1, h8, h9, h10, eq_true h11, h12, not_true_eq_false, not_false_eq_true, and_true, true_and, and_false, false_and, or_true, true_or, or_false, false_or, if_true, if_false, ne_eq, reduceIte]; done) | (simp only [cost, atl, h1, h8, h9, h10, eq_true h11, h12, not_true_eq_false, not_false_eq_true, and_true, true_and, and_false, false_and, or_true, true_or, or_false, false_or, if_true, if_false, ne_eq, reduceIte]; split <;> split <;> omega) | (simp only [cost, atl, h1, h8, h9, h10, eq_true h11, h12, not_true_eq_false, not_false_eq_true, and_true, true_and, and_false, false_and, or_true, true_or, or_false, false_or, if_true, if_false, ne_eq, reduceIte]; split <;> omega))) dX2_costOf_133
    by_cases h13 : s (99 + 4 * m + 0) = 5
    · refine r_tableIn C (5) h13 dX2_costOf_61 (by decide) (by decide) rfl (tgt := 134) (by decide) ?_
      refine r_iconst C dX2_costOf_134 ?_
      refine r_iload_n C dX2_costOf_135 rfl (lv_at hl 2 rfl) ?_
      refine r_iload C dX2_costOf_136 (lv_at hl 1 rfl) ?_
      refine r_iadd C dX2_costOf_138 ?_
      refine r_aload_n C dX2_costOf_139 rfl (lv_at hl 3 rfl) ?_
      refine g_X2_24 C hP 0 rfl rfl dX2_costOf_140 ?_
      refine r_iload_n C dX2_costOf_143 rfl (lv_at hl 4 rfl) ?_
      refine r_ialdV C hP 5 (s (99 + 4 * m + 2)) rfl dX2_costOf_144 (by omega) (by omega) (by decide) (pu_at (by omega) (by omega)) ?_
      refine r_bipush C dX2_costOf_145 (by decide) ?_
      refine r_idiv C dX2_costOf_147 (by have := hs.1 (99 + 4 * m + 2) (by omega); omega) (by have := hs.1 (99 + 4 * m + 2) (by omega); omega) (by omega) (by omega) ?_
      refine r_isub C dX2_costOf_148 ?_
      refine r_mmax C m_X2_76 ⟨by decide, by decide⟩ (by have := wrongBeside_rg s c; have := hs.1 (99 + 4 * m + 2) (by omega); exact ⟨by omega, by omega⟩) hl.1 dX2_costOf_149 ?_
      exact r_iretR C (congrArg iI (by first | (simp only [cost, h1, h8, h9, h10, h11, eq_true h13, not_true_eq_false, not_false_eq_true, and_true, true_and, and_false, false_and, or_true, true_or, or_false, false_or, if_true, if_false, ne_eq, reduceIte]; done) | (simp only [cost, atl, h1, h8, h9, h10, h11, eq_true h13, not_true_eq_false, not_false_eq_true, and_true, true_and, and_false, false_and, or_true, true_or, or_false, false_or, if_true, if_false, ne_eq, reduceIte]; split <;> split <;> omega) | (simp only [cost, atl, h1, h8, h9, h10, h11, eq_true h13, not_true_eq_false, not_false_eq_true, and_true, true_and, and_false, false_and, or_true, true_or, or_false, false_or, if_true, if_false, ne_eq, reduceIte]; split <;> omega))) dX2_costOf_152
    refine r_tableOut C dX2_costOf_61 (by have := hs.1 (99 + 4 * m + 0) (by omega); exact ⟨by omega, by omega⟩) (by omega) (tgt := 153) (by decide) ?_
    refine r_iload_n C dX2_costOf_153 rfl (lv_at hl 2 rfl) ?_
    exact r_iretR C (congrArg iI (by first | (simp only [cost, h1, h8, h9, h10, h11, h13, not_true_eq_false, not_false_eq_true, and_true, true_and, and_false, false_and, or_true, true_or, or_false, false_or, if_true, if_false, ne_eq, reduceIte]; done) | (simp only [cost, atl, h1, h8, h9, h10, h11, h13, not_true_eq_false, not_false_eq_true, and_true, true_and, and_false, false_and, or_true, true_or, or_false, false_or, if_true, if_false, ne_eq, reduceIte]; split <;> split <;> omega) | (simp only [cost, atl, h1, h8, h9, h10, h11, h13, not_true_eq_false, not_false_eq_true, and_true, true_and, and_false, false_and, or_true, true_or, or_false, false_or, if_true, if_false, ne_eq, reduceIte]; split <;> omega))) dX2_costOf_154
end CLASS
