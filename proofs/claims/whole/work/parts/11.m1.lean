section MODEL
variable {l : Launch} {D : va_G} {k : Nat → ClassId} {a : Nat → Nat} {s kp ot sd st sp tp bi si : Int → Int} {nu mo : Int → Int64} {ik dl tl ta fr to va iw : Int}
set_option maxHeartbeats 4000000 in
set_option maxRecDepth 100000 in
theorem cM_in {v : Int} {lo : Int} {hi : Int} (hv : In64 v) (hlo : In64 lo) (hhi : In64 hi) : MR l yX4_in cX4_in 6 (some .boolean) 0 0 D k [.long (lI v), .long (lI lo), .long (lI hi)] [] (.int (iB (lo ≤ v ∧ v ≤ hi))) := by
  refine MR.mk RX4 rfl (by decide +kernel) (Nat.le_of_ble_eq_true rfl) (fun p e U m0 below meth cd ls C hP hl => ?_)
  have hl : lv_has ls 6 [(0, .long (lI v)), (2, .long (lI lo)), (4, .long (lI hi))] := hl
  have hv1 := hv.1
  have hv2 := hv.2
  have hlo1 := hlo.1
  have hlo2 := hlo.2
  have hhi1 := hhi.1
  have hhi2 := hhi.2
  refine r_lload_n C dX4_in_0 rfl (lv_at hl 0 rfl) ?_
  refine r_lload_n C dX4_in_1 rfl (lv_at hl 1 rfl) ?_
  refine r_lcmp_lt C (tgt := 17) dX4_in_2 dX4_in_3 (by decide) (by exact ⟨by omega, by omega⟩) (by exact ⟨by omega, by omega⟩) (fun h1 => ?_) (fun h1 => ?_)
  · refine r_iconst C dX4_in_17 ?_
    exact r_zretR C (iB0 (by omega)) dX4_in_18
  · refine r_lload_n C dX4_in_6 rfl (lv_at hl 0 rfl) ?_
    refine r_lload C dX4_in_7 (lv_at hl 2 rfl) ?_
    refine r_lcmp_gt C (tgt := 17) dX4_in_9 dX4_in_10 (by decide) (by exact ⟨by omega, by omega⟩) (by exact ⟨by omega, by omega⟩) (fun h2 => ?_) (fun h2 => ?_)
    · refine r_iconst C dX4_in_17 ?_
      exact r_zretR C (iB0 (by omega)) dX4_in_18
    · refine r_iconst C dX4_in_13 ?_
      refine r_goto C (tgt := 18) dX4_in_14 (by decide) ?_
      exact r_zretR C (iB1 ⟨by omega, by omega⟩) dX4_in_18
set_option maxHeartbeats 4000000 in
set_option maxRecDepth 100000 in
theorem cM_isCell {c : Int} (hc : In32 c) : MR l yX4_isCell cX4_isCell 1 (some .boolean) 1 25 D k [.int (iI c)] [] (.int (iB (0 ≤ c ∧ c ≤ 47))) := by
  refine MR.mk RX4 rfl (by decide +kernel) (Nat.le_of_ble_eq_true rfl) (fun p e U m0 below meth cd ls C hP hl => ?_)
  have hl : lv_has ls 1 [(0, .int (iI c))] := hl
  have hc1 := hc.1
  have hc2 := hc.2
  refine r_iload_n C dX4_isCell_0 rfl (lv_at hl 0 rfl) ?_
  refine r_i2l C dX4_isCell_1 (by exact ⟨by omega, by omega⟩) ?_
  refine r_lconst C (z := 0) dX4_isCell_2 (by decide) ?_
  refine r_ldc2 C (47) kl_X4_49 (by decide) dX4_isCell_3 ?_
  refine r_cSR3 C m_X4_51 (cM_in (by exact ⟨by omega, by omega⟩) ⟨by decide, by decide⟩ ⟨by decide, by decide⟩) pn0 hl.1 dX4_isCell_6 ?_
  exact r_zretR C rfl dX4_isCell_9
set_option maxHeartbeats 4000000 in
set_option maxRecDepth 100000 in
theorem cM_isKind {c : Int} (hc : In32 c) : MR l yX4_isKind cX4_isKind 1 (some .boolean) 1 25 D k [.int (iI c)] [] (.int (iB (0 ≤ c ∧ c ≤ 5))) := by
  refine MR.mk RX4 rfl (by decide +kernel) (Nat.le_of_ble_eq_true rfl) (fun p e U m0 below meth cd ls C hP hl => ?_)
  have hl : lv_has ls 1 [(0, .int (iI c))] := hl
  have hc1 := hc.1
  have hc2 := hc.2
  refine r_iload_n C dX4_isKind_0 rfl (lv_at hl 0 rfl) ?_
  refine r_i2l C dX4_isKind_1 (by exact ⟨by omega, by omega⟩) ?_
  refine r_lconst C (z := 0) dX4_isKind_2 (by decide) ?_
  refine r_ldc2 C (5) kl_X4_55 (by decide) dX4_isKind_3 ?_
  refine r_cSR3 C m_X4_51 (cM_in (by exact ⟨by omega, by omega⟩) ⟨by decide, by decide⟩ ⟨by decide, by decide⟩) pn0 hl.1 dX4_isKind_6 ?_
  exact r_zretR C rfl dX4_isKind_9
set_option maxHeartbeats 4000000 in
set_option maxRecDepth 100000 in
theorem cM_isOne {c : Int} (hc : In32 c) : MR l yX4_isOne cX4_isOne 1 (some .boolean) 1 25 D k [.int (iI c)] [] (.int (iB (0 ≤ c ∧ c ≤ 3))) := by
  refine MR.mk RX4 rfl (by decide +kernel) (Nat.le_of_ble_eq_true rfl) (fun p e U m0 below meth cd ls C hP hl => ?_)
  have hl : lv_has ls 1 [(0, .int (iI c))] := hl
  have hc1 := hc.1
  have hc2 := hc.2
  refine r_iload_n C dX4_isOne_0 rfl (lv_at hl 0 rfl) ?_
  refine r_i2l C dX4_isOne_1 (by exact ⟨by omega, by omega⟩) ?_
  refine r_lconst C (z := 0) dX4_isOne_2 (by decide) ?_
  refine r_ldc2 C (3) kl_X4_276 (by decide) dX4_isOne_3 ?_
  refine r_cSR3 C m_X4_51 (cM_in (by exact ⟨by omega, by omega⟩) ⟨by decide, by decide⟩ ⟨by decide, by decide⟩) pn0 hl.1 dX4_isOne_6 ?_
  exact r_zretR C rfl dX4_isOne_9
set_option maxHeartbeats 4000000 in
set_option maxRecDepth 100000 in
theorem cM_isLetter {c : Int} (hc : In32 c) : MR l yX4_isLetter cX4_isLetter 1 (some .boolean) 1 25 D k [.int (iI c)] [] (.int (iB (97 ≤ c ∧ c ≤ 122))) := by
  refine MR.mk RX4 rfl (by decide +kernel) (Nat.le_of_ble_eq_true rfl) (fun p e U m0 below meth cd ls C hP hl => ?_)
  have hl : lv_has ls 1 [(0, .int (iI c))] := hl
  have hc1 := hc.1
  have hc2 := hc.2
  refine r_iload_n C dX4_isLetter_0 rfl (lv_at hl 0 rfl) ?_
  refine r_i2l C dX4_isLetter_1 (by exact ⟨by omega, by omega⟩) ?_
  refine r_ldc2 C (97) kl_X4_177 (by decide) dX4_isLetter_2 ?_
  refine r_ldc2 C (122) kl_X4_179 (by decide) dX4_isLetter_5 ?_
  refine r_cSR3 C m_X4_51 (cM_in (by exact ⟨by omega, by omega⟩) ⟨by decide, by decide⟩ ⟨by decide, by decide⟩) pn0 hl.1 dX4_isLetter_8 ?_
  exact r_zretR C rfl dX4_isLetter_11
set_option maxHeartbeats 4000000 in
set_option maxRecDepth 100000 in
theorem cM_isDigit {c : Int} (hc : In32 c) : MR l yX4_isDigit cX4_isDigit 1 (some .boolean) 1 25 D k [.int (iI c)] [] (.int (iB (48 ≤ c ∧ c ≤ 57))) := by
  refine MR.mk RX4 rfl (by decide +kernel) (Nat.le_of_ble_eq_true rfl) (fun p e U m0 below meth cd ls C hP hl => ?_)
  have hl : lv_has ls 1 [(0, .int (iI c))] := hl
  have hc1 := hc.1
  have hc2 := hc.2
  refine r_iload_n C dX4_isDigit_0 rfl (lv_at hl 0 rfl) ?_
  refine r_i2l C dX4_isDigit_1 (by exact ⟨by omega, by omega⟩) ?_
  refine r_ldc2 C (48) kl_X4_181 (by decide) dX4_isDigit_2 ?_
  refine r_ldc2 C (57) kl_X4_183 (by decide) dX4_isDigit_5 ?_
  refine r_cSR3 C m_X4_51 (cM_in (by exact ⟨by omega, by omega⟩) ⟨by decide, by decide⟩ ⟨by decide, by decide⟩) pn0 hl.1 dX4_isDigit_8 ?_
  exact r_zretR C rfl dX4_isDigit_11
set_option maxHeartbeats 4000000 in
set_option maxRecDepth 100000 in
theorem cM_spot {m : Int} {w : Int}  : MR l yX4_spot cX4_spot 2 (some .int) 0 0 D k [.int (iI m), .int (iI w)] [] (.int (iI (99 + 4 * m + w))) := by
  refine MR.mk RX4 rfl (by decide +kernel) (Nat.le_of_ble_eq_true rfl) (fun p e U m0 below meth cd ls C hP hl => ?_)
  have hl : lv_has ls 2 [(0, .int (iI m)), (1, .int (iI w))] := hl
  refine r_bipush C dX4_spot_0 (by decide) ?_
  refine r_iconst C dX4_spot_2 ?_
  refine r_iload_n C dX4_spot_3 rfl (lv_at hl 0 rfl) ?_
  refine r_imul C dX4_spot_4 ?_
  refine r_iadd C dX4_spot_5 ?_
  refine r_iload_n C dX4_spot_6 rfl (lv_at hl 1 rfl) ?_
  refine r_iadd C dX4_spot_7 ?_
  exact r_iretR C rfl dX4_spot_8
set_option maxHeartbeats 4000000 in
set_option maxRecDepth 100000 in
theorem cM_atLeastOne {v : Int} (hv : In32 v) : MR l yX4_atLeastOne cX4_atLeastOne 1 (some .int) 0 0 D k [.int (iI v)] [] (.int (iI (atl v))) := by
  refine MR.mk RX4 rfl (by decide +kernel) (Nat.le_of_ble_eq_true rfl) (fun p e U m0 below meth cd ls C hP hl => ?_)
  have hl : lv_has ls 1 [(0, .int (iI v))] := hl
  have hv1 := hv.1
  have hv2 := hv.2
  refine r_iload_n C dX4_atLeastOne_0 rfl (lv_at hl 0 rfl) ?_
  refine r_iconst C dX4_atLeastOne_1 ?_
  refine r_icmp_ge C (tgt := 9) dX4_atLeastOne_2 (by decide) (by exact ⟨by omega, by omega⟩) ⟨by decide, by decide⟩ (fun h1 => ?_) (fun h1 => ?_)
  · refine r_iload_n C dX4_atLeastOne_9 rfl (lv_at hl 0 rfl) ?_
    exact r_iretR C (by simp only [atl, h1, if_true, if_false]) dX4_atLeastOne_10
  · refine r_iconst C dX4_atLeastOne_5 ?_
    refine r_goto C (tgt := 10) dX4_atLeastOne_6 (by decide) ?_
    exact r_iretR C (by simp only [atl, h1, if_true, if_false]) dX4_atLeastOne_10
set_option maxHeartbeats 4000000 in
set_option maxRecDepth 100000 in
theorem cM_isMender {m : Int} (hm : In32 m) (hs : Ok s) : MR l yX4_isMender cX4_isMender 2 (some .boolean) 1 25 D k [.ref (a 0), .int (iI m)] (wM a k s kp ot sd st sp tp bi si nu mo ik dl tl ta fr to va iw) (.int (iB (0 ≤ m ∧ m ≤ s 0 - 1))) := by
  refine MR.mk RX4 rfl (by decide +kernel) (Nat.le_of_ble_eq_true rfl) (fun p e U m0 below meth cd ls C hP hl => ?_)
  have hl : lv_has ls 2 [(0, .ref (a 0)), (1, .int (iI m))] := hl
  have hm1 := hm.1
  have hm2 := hm.2
  refine r_iload_n C dX4_isMender_0 rfl (lv_at hl 1 rfl) ?_
  refine r_i2l C dX4_isMender_1 (by exact ⟨by omega, by omega⟩) ?_
  refine r_lconst C (z := 0) dX4_isMender_2 (by decide) ?_
  refine r_aload_n C dX4_isMender_3 rfl (lv_at hl 0 rfl) ?_
  refine g_X4_7 C hP 0 rfl rfl dX4_isMender_4 ?_
  refine r_iconst C dX4_isMender_7 ?_
  refine r_iald C hP 1 rfl dX4_isMender_8 (by omega) (by omega) (by decide) ?_
  refine r_iconst C dX4_isMender_9 ?_
  refine r_isub C dX4_isMender_10 ?_
  refine r_i2l C dX4_isMender_11 (by have := hs.1 (0) (by omega); exact ⟨by omega, by omega⟩) ?_
  refine r_cSR3 C m_X4_51 (cM_in (by exact ⟨by omega, by omega⟩) ⟨by decide, by decide⟩ (by have := hs.1 (0) (by omega); exact ⟨by omega, by omega⟩)) pn0 hl.1 dX4_isMender_12 ?_
  exact r_zretR C rfl dX4_isMender_15
set_option maxHeartbeats 4000000 in
set_option maxRecDepth 100000 in
theorem cM_its {m : Int} {w : Int} (hm : 0 ≤ m) (hm1 : m < 6) (hw : 0 ≤ w) (hw1 : w < 4) : MR l yX4_its cX4_its 3 (some .int) 1 21 D k [.ref (a 0), .int (iI m), .int (iI w)] (wM a k s kp ot sd st sp tp bi si nu mo ik dl tl ta fr to va iw) (.int (iI (s (99 + 4 * m + w)))) := by
  refine MR.mk RX4 rfl (by decide +kernel) (Nat.le_of_ble_eq_true rfl) (fun p e U m0 below meth cd ls C hP hl => ?_)
  have hl : lv_has ls 3 [(0, .ref (a 0)), (1, .int (iI m)), (2, .int (iI w))] := hl
  refine r_aload_n C dX4_its_0 rfl (lv_at hl 0 rfl) ?_
  refine g_X4_7 C hP 0 rfl rfl dX4_its_1 ?_
  refine r_iload_n C dX4_its_4 rfl (lv_at hl 1 rfl) ?_
  refine r_iload_n C dX4_its_5 rfl (lv_at hl 2 rfl) ?_
  refine r_cSR2 C m_X4_57 cM_spot pn0 hl.1 dX4_its_6 ?_
  refine r_iald C hP 1 rfl dX4_its_9 (by omega) (by omega) (by decide) ?_
  exact r_iretR C rfl dX4_its_10
set_option maxHeartbeats 4000000 in
set_option maxRecDepth 100000 in
theorem cM_beside {c : Int} {w : Int} (hc : 0 ≤ c) (hc1 : c < 48) (hw : In32 w) : MR l yX4_beside cX4_beside 4 (some .int) 0 0 D k [.int (iI c), .int (iI w)] [] (.int (iI (besd c w))) := by
  refine MR.mk RX4 rfl (by decide +kernel) (Nat.le_of_ble_eq_true rfl) (fun p e U m0 below meth cd ls C hP hl => ?_)
  have hl : lv_has ls 4 [(0, .int (iI c)), (1, .int (iI w))] := hl
  have hw1 := hw.1
  have hw2 := hw.2
  refine r_iload_n C dX4_beside_0 rfl (lv_at hl 0 rfl) ?_
  refine r_bipush C dX4_beside_1 (by decide) ?_
  refine r_idiv C dX4_beside_3 (by omega) (by omega) (by omega) (by omega) ?_
  refine r_istore_n C [(2, .int (iI (c / 8))), (0, .int (iI c)), (1, .int (iI w))] dX4_beside_4 rfl hl (by decide) rfl (fun ls hl => ?_)
  refine r_iload_n C dX4_beside_5 rfl (lv_at hl 1 rfl) ?_
  refine r_bipush C dX4_beside_6 (by decide) ?_
  refine r_irem C dX4_beside_8 (by omega) (by omega) (by omega) (by omega) ?_
  refine r_istore_n C [(3, .int (iI (c % 8))), (2, .int (iI (c / 8))), (0, .int (iI c)), (1, .int (iI w))] dX4_beside_9 rfl hl (by decide) rfl (fun ls hl => ?_)
  refine r_iload_n C dX4_beside_10 rfl (lv_at hl 3 rfl) ?_
  by_cases h1 : w = 0
  · refine r_tableIn C (0) h1 dX4_beside_11 (by decide) (by decide) rfl (tgt := 36) (by decide) ?_
    refine r_iload_n C dX4_beside_36 rfl (lv_at hl 1 rfl) ?_
    refine r_if_ne C (tgt := 44) dX4_beside_37 (by decide) (by exact ⟨by omega, by omega⟩) (fun h2 => ?_) (fun h2 => ?_)
    · refine r_iload_n C dX4_beside_44 rfl (lv_at hl 2 rfl) ?_
      refine r_bipush C dX4_beside_45 (by decide) ?_
      refine r_isub C dX4_beside_47 ?_
      exact r_iretR C (by simp [besd, eq_true h1, h2]) dX4_beside_48
    · refine r_iconst C dX4_beside_40 ?_
      refine r_goto C (tgt := 48) dX4_beside_41 (by decide) ?_
      exact r_iretR C (by simp [besd, eq_true h1, eq_true h2]) dX4_beside_48
  by_cases h3 : w = 1
  · refine r_tableIn C (1) h3 dX4_beside_11 (by decide) (by decide) rfl (tgt := 49) (by decide) ?_
    refine r_iload_n C dX4_beside_49 rfl (lv_at hl 0 rfl) ?_
    refine r_bipush C dX4_beside_50 (by decide) ?_
    refine r_icmp_ne C (tgt := 59) dX4_beside_52 (by decide) (by exact ⟨by omega, by omega⟩) ⟨by decide, by decide⟩ (fun h4 => ?_) (fun h4 => ?_)
    · refine r_iload_n C dX4_beside_59 rfl (lv_at hl 2 rfl) ?_
      refine r_iconst C dX4_beside_60 ?_
      refine r_iadd C dX4_beside_61 ?_
      exact r_iretR C (by simp [besd, h1, eq_true h3, h4]) dX4_beside_62
    · refine r_iconst C dX4_beside_55 ?_
      refine r_goto C (tgt := 62) dX4_beside_56 (by decide) ?_
      exact r_iretR C (by simp [besd, h1, eq_true h3, eq_true h4]) dX4_beside_62
  by_cases h5 : w = 2
  · refine r_tableIn C (2) h5 dX4_beside_11 (by decide) (by decide) rfl (tgt := 63) (by decide) ?_
    refine r_iload_n C dX4_beside_63 rfl (lv_at hl 1 rfl) ?_
    refine r_iconst C dX4_beside_64 ?_
    refine r_icmp_ne C (tgt := 72) dX4_beside_65 (by decide) (by exact ⟨by omega, by omega⟩) ⟨by decide, by decide⟩ (fun h6 => ?_) (fun h6 => ?_)
    · refine r_iload_n C dX4_beside_72 rfl (lv_at hl 2 rfl) ?_
      refine r_bipush C dX4_beside_73 (by decide) ?_
      refine r_iadd C dX4_beside_75 ?_
      exact r_iretR C (by simp [besd, h1, h3, eq_true h5, h6]) dX4_beside_76
    · refine r_iconst C dX4_beside_68 ?_
      refine r_goto C (tgt := 76) dX4_beside_69 (by decide) ?_
      exact r_iretR C (by simp [besd, h1, h3, eq_true h5, eq_true h6]) dX4_beside_76
  refine r_tableOut C dX4_beside_11 (by exact ⟨by omega, by omega⟩) (by omega) (tgt := 77) (by decide) ?_
  refine r_iload_n C dX4_beside_77 rfl (lv_at hl 0 rfl) ?_
  refine r_if_ne C (tgt := 85) dX4_beside_78 (by decide) (by exact ⟨by omega, by omega⟩) (fun h7 => ?_) (fun h7 => ?_)
  · refine r_iload_n C dX4_beside_85 rfl (lv_at hl 2 rfl) ?_
    refine r_iconst C dX4_beside_86 ?_
    refine r_isub C dX4_beside_87 ?_
    exact r_iretR C (by simp [besd, h1, h3, h5, h7]) dX4_beside_88
  · refine r_iconst C dX4_beside_81 ?_
    refine r_goto C (tgt := 88) dX4_beside_82 (by decide) ?_
    exact r_iretR C (by simp [besd, h1, h3, h5, eq_true h7]) dX4_beside_88
set_option maxHeartbeats 4000000 in
set_option maxRecDepth 100000 in
theorem cM_apart {x : Int} {y : Int} (hx : 0 ≤ x) (hx1 : x < 48) (hy : 0 ≤ y) (hy1 : y < 48) : MR l yX4_apart cX4_apart 4 (some .int) 0 0 D k [.int (iI x), .int (iI y)] [] (.int (iI (apt x y))) := by
  refine MR.mk RX4 rfl (by decide +kernel) (Nat.le_of_ble_eq_true rfl) (fun p e U m0 below meth cd ls C hP hl => ?_)
  have hl : lv_has ls 4 [(0, .int (iI x)), (1, .int (iI y))] := hl
  refine r_iload_n C dX4_apart_0 rfl (lv_at hl 0 rfl) ?_
  refine r_bipush C dX4_apart_1 (by decide) ?_
  refine r_idiv C dX4_apart_3 (by omega) (by omega) (by omega) (by omega) ?_
  refine r_iload_n C dX4_apart_4 rfl (lv_at hl 1 rfl) ?_
  refine r_bipush C dX4_apart_5 (by decide) ?_
  refine r_idiv C dX4_apart_7 (by omega) (by omega) (by omega) (by omega) ?_
  refine r_isub C dX4_apart_8 ?_
  refine r_istore_n C [(2, .int (iI ((x / 8) - (y / 8)))), (0, .int (iI x)), (1, .int (iI y))] dX4_apart_9 rfl hl (by decide) rfl (fun ls hl => ?_)
  refine r_iload_n C dX4_apart_10 rfl (lv_at hl 1 rfl) ?_
  refine r_bipush C dX4_apart_11 (by decide) ?_
  refine r_irem C dX4_apart_13 (by omega) (by omega) (by omega) (by omega) ?_
  refine r_iload_n C dX4_apart_14 rfl (lv_at hl 2 rfl) ?_
  refine r_bipush C dX4_apart_15 (by decide) ?_
  refine r_irem C dX4_apart_17 (by omega) (by omega) (by omega) (by omega) ?_
  refine r_isub C dX4_apart_18 ?_
  refine r_istore_n C [(3, .int (iI ((x % 8) - (y % 8)))), (2, .int (iI ((x / 8) - (y / 8)))), (0, .int (iI x)), (1, .int (iI y))] dX4_apart_19 rfl hl (by decide) rfl (fun ls hl => ?_)
  refine r_iload_n C dX4_apart_20 rfl (lv_at hl 1 rfl) ?_
  refine r_if_ge C (tgt := 29) dX4_apart_21 (by decide) (by exact ⟨by omega, by omega⟩) (fun h1 => ?_) (fun h1 => ?_)
  · refine r_iload_n C dX4_apart_29 rfl (lv_at hl 1 rfl) ?_
    refine r_iload_n C dX4_apart_30 rfl (lv_at hl 0 rfl) ?_
    refine r_if_ge C (tgt := 39) dX4_apart_31 (by decide) (by exact ⟨by omega, by omega⟩) (fun h2 => ?_) (fun h2 => ?_)
    · refine r_iload_n C dX4_apart_39 rfl (lv_at hl 0 rfl) ?_
      refine r_iadd C dX4_apart_40 ?_
      exact r_iretR C (by simp [apt, h1, h2]) dX4_apart_41
    · refine r_iload_n C dX4_apart_34 rfl (lv_at hl 0 rfl) ?_
      refine r_ineg C dX4_apart_35 ?_
      refine r_goto C (tgt := 40) dX4_apart_36 (by decide) ?_
      refine r_iadd C dX4_apart_40 ?_
      exact r_iretR C (by simp [apt, h1, h2]) dX4_apart_41
  · refine r_iload_n C dX4_apart_24 rfl (lv_at hl 1 rfl) ?_
    refine r_ineg C dX4_apart_25 ?_
    refine r_goto C (tgt := 30) dX4_apart_26 (by decide) ?_
    refine r_iload_n C dX4_apart_30 rfl (lv_at hl 0 rfl) ?_
    refine r_if_ge C (tgt := 39) dX4_apart_31 (by decide) (by exact ⟨by omega, by omega⟩) (fun h3 => ?_) (fun h3 => ?_)
    · refine r_iload_n C dX4_apart_39 rfl (lv_at hl 0 rfl) ?_
      refine r_iadd C dX4_apart_40 ?_
      exact r_iretR C (by simp [apt, h1, h3]) dX4_apart_41
    · refine r_iload_n C dX4_apart_34 rfl (lv_at hl 0 rfl) ?_
      refine r_ineg C dX4_apart_35 ?_
      refine r_goto C (tgt := 40) dX4_apart_36 (by decide) ?_
      refine r_iadd C dX4_apart_40 ?_
      exact r_iretR C (by simp [apt, h1, h3]) dX4_apart_41
set_option maxHeartbeats 4000000 in
set_option maxRecDepth 100000 in
theorem cM_isUntrue {c : Int} (hc : 0 ≤ c) (hc1 : c < 48) (hs : Ok s) : MR l yX4_isUntrue cX4_isUntrue 2 (some .boolean) 0 0 D k [.ref (a 0), .int (iI c)] (wM a k s kp ot sd st sp tp bi si nu mo ik dl tl ta fr to va iw) (.int (iB (untrue s c))) := by
  refine MR.mk RX4 rfl (by decide +kernel) (Nat.le_of_ble_eq_true rfl) (fun p e U m0 below meth cd ls C hP hl => ?_)
  have hl : lv_has ls 2 [(0, .ref (a 0)), (1, .int (iI c))] := hl
  refine r_aload_n C dX4_isUntrue_0 rfl (lv_at hl 0 rfl) ?_
  refine g_X4_7 C hP 0 rfl rfl dX4_isUntrue_1 ?_
  refine r_iconst C dX4_isUntrue_4 ?_
  refine r_iload_n C dX4_isUntrue_5 rfl (lv_at hl 1 rfl) ?_
  refine r_iadd C dX4_isUntrue_6 ?_
  refine r_iald C hP 1 rfl dX4_isUntrue_7 (by omega) (by omega) (by decide) ?_
  refine r_aload_n C dX4_isUntrue_8 rfl (lv_at hl 0 rfl) ?_
  refine g_X4_7 C hP 0 rfl rfl dX4_isUntrue_9 ?_
  refine r_bipush C dX4_isUntrue_12 (by decide) ?_
  refine r_iload_n C dX4_isUntrue_14 rfl (lv_at hl 1 rfl) ?_
  refine r_iadd C dX4_isUntrue_15 ?_
  refine r_iald C hP 1 rfl dX4_isUntrue_16 (by omega) (by omega) (by decide) ?_
  refine r_icmp_eq C (tgt := 24) dX4_isUntrue_17 (by decide) (by have := hs.1 (3 + c) (by omega); exact ⟨by omega, by omega⟩) (by have := hs.1 (51 + c) (by omega); exact ⟨by omega, by omega⟩) (fun h1 => ?_) (fun h1 => ?_)
  · refine r_iconst C dX4_isUntrue_24 ?_
    exact r_zretR C (iB0 (fun q => q h1)) dX4_isUntrue_25
  · refine r_iconst C dX4_isUntrue_20 ?_
    refine r_goto C (tgt := 25) dX4_isUntrue_21 (by decide) ?_
    exact r_zretR C (iB1 h1) dX4_isUntrue_25
end MODEL
