section MODEL
variable {l : Launch} {D : va_G} {k : Nat → ClassId} {a : Nat → Nat} {s kp ot sd st sp tp bi si : Int → Int} {nu mo : Int → Int64} {ik dl tl ta fr to va iw : Int}
set_option maxHeartbeats 4000000 in
set_option maxRecDepth 100000 in
theorem cM_menderItem {kd : Int} (hk : 0 ≤ kd) (hk1 : kd < 6) (hs : Ok s) (hq : PI tp ta (fr, to, va, iw)) (htp : ∀ i, 0 ≤ tp i ∧ tp i ≤ 255) : MW l yX4_menderItem cX4_menderItem 3 none 5 113 D k [.ref (a 0), .int (iI kd)] (wM a k s kp ot sd st sp tp bi si nu mo ik dl tl ta fr to va iw) (wM a k ((mdI tp ta kd s (fr, to, va, iw)).1) kp ot sd st sp tp bi si nu mo ik dl tl ta (((mdI tp ta kd s (fr, to, va, iw)).2).1) (((mdI tp ta kd s (fr, to, va, iw)).2).2.1) (((mdI tp ta kd s (fr, to, va, iw)).2).2.2.1) (((mdI tp ta kd s (fr, to, va, iw)).2).2.2.2)) none := by
  refine MW.mk RX4 rfl (by decide +kernel) (Nat.le_of_ble_eq_true rfl) (fun p e U m0 below meth cd ls C hP hD hS hl => ?_)
  have hl : lv_has ls 3 [(0, .ref (a 0)), (1, .int (iI kd))] := hl
  have hq1 := hq.1
  have hq4 := hq.2.2.2.1
  have hq5 := hq.2.2.2.2
  dsimp only at hq1 hq4 hq5
  have h00 := hs.1 0 (by decide)
  have h06 := hs.2.2.1
  refine r_aload_n C dX4_menderItem_0 rfl (lv_at hl 0 rfl) ?_
  refine r_aload_n C dX4_menderItem_1 rfl (lv_at hl 0 rfl) ?_
  refine g_X4_7 C hP 0 rfl rfl dX4_menderItem_2 ?_
  refine r_iconst C dX4_menderItem_5 ?_
  refine r_iald C hP 1 rfl dX4_menderItem_6 (by omega) (by omega) (by decide) ?_
  refine r_bipush C dX4_menderItem_7 (by decide) ?_
  refine r_icmp_ge C (tgt := 16) dX4_menderItem_9 (by decide) (by have := hs.1 (0) (by omega); exact ⟨by omega, by omega⟩) ⟨by decide, by decide⟩ (fun h1 => ?_) (fun h1 => ?_)
  · refine r_iconst C dX4_menderItem_16 ?_
    obtain ⟨q1, eq1⟩ : ∃ q : PS, q = mstP tp ta 0 (fr, to, va, iw) := ⟨_, rfl⟩
    have iq1 : PI tp ta q1 := eq1 ▸ (pi_mst hq 0)
    have jq11 := iq1.1
    have jq14 := iq1.2.2.2.1
    have jq15 := iq1.2.2.2.2
    refine r_cVW1 C m_X4_214 (cM_must (by omega) (by omega) hq htp) hP hD hS [0, 1, 2, 3, 4, 5, 6, 7, 8, 9, 10, 11] (wM a k s kp ot sd st sp tp bi si nu mo ik dl tl ta q1.1 q1.2.1 q1.2.2.1 q1.2.2.2) rfl rfl rfl (by rw [eq1]; rfl) rfl rfl rfl hl.1 dX4_menderItem_17 (fun H locs hP hD hS => ?_)
    refine r_aload_n C dX4_menderItem_20 rfl (lv_at hl 0 rfl) ?_
    refine r_aload_n C dX4_menderItem_21 rfl (lv_at hl 0 rfl) ?_
    refine r_cVR0 C m_X4_218 (cM_wordQ (q := q1) iq1 htp) hP rfl rfl hl.1 dX4_menderItem_22 ?_
    refine r_ldc2 C (52) kl_X4_246 (by decide) dX4_menderItem_25 ?_
    refine r_lcmp_ne C (tgt := 36) dX4_menderItem_28 dX4_menderItem_29 (by decide) (by have := wrd_rg tp ta q1; exact ⟨by omega, by omega⟩) ⟨by decide, by decide⟩ (fun h2 => ?_) (fun h2 => ?_)
    · refine r_iconst C dX4_menderItem_36 ?_
      obtain ⟨q2, eq2⟩ : ∃ q : PS, q = mstP tp ta 0 q1 := ⟨_, rfl⟩
      have iq2 : PI tp ta q2 := eq2 ▸ (pi_mst iq1 0)
      have jq21 := iq2.1
      have jq24 := iq2.2.2.2.1
      have jq25 := iq2.2.2.2.2
      refine r_cVW1 C m_X4_214 (cM_must (by omega) (by omega) iq1 htp) hP hD hS [0, 1, 2, 3, 4, 5, 6, 7, 8, 9, 10, 11] (wM a k s kp ot sd st sp tp bi si nu mo ik dl tl ta q2.1 q2.2.1 q2.2.2.1 q2.2.2.2) rfl rfl rfl (by rw [eq2]; rfl) rfl rfl rfl hl.1 dX4_menderItem_37 (fun H locs hP hD hS => ?_)
      refine r_aload_n C dX4_menderItem_40 rfl (lv_at hl 0 rfl) ?_
      refine r_iconst C dX4_menderItem_41 ?_
      refine r_bipush C dX4_menderItem_42 (by decide) ?_
      obtain ⟨q3, eq3⟩ : ∃ q : PS, q = numP tp ta 0 47 q2 := ⟨_, rfl⟩
      have iq3 : PI tp ta q3 := eq3 ▸ (pi_num iq2 0 47)
      have jq31 := iq3.1
      have jq34 := iq3.2.2.2.1
      have jq35 := iq3.2.2.2.2
      refine r_cVW2 C m_X4_248 (cM_number ⟨by decide, by decide⟩ ⟨by decide, by decide⟩ iq2 htp) hP hD hS [0, 1, 2, 3, 4, 5, 6, 7, 8, 9, 10, 11] (wM a k s kp ot sd st sp tp bi si nu mo ik dl tl ta q3.1 q3.2.1 q3.2.2.1 q3.2.2.2) rfl rfl rfl (by rw [eq3]; rfl) rfl rfl rfl hl.1 dX4_menderItem_44 (fun H locs hP hD hS => ?_)
      refine r_aload_n C dX4_menderItem_47 rfl (lv_at hl 0 rfl) ?_
      refine g_X4_200 C hP 0 rfl rfl dX4_menderItem_48 ?_
      refine r_if_eq C (tgt := 55) dX4_menderItem_51 (by decide) (by exact ⟨by omega, by omega⟩) (fun h3 => ?_) (fun h3 => ?_)
      · have hno := num_ok (tp := tp) (ta := ta) (q := q2) 0 47 (by rw [← eq3]; exact h3)
        rw [← eq3] at hno
        have hm2 := mst_iw (q := q1) (by rw [← eq2]; exact hno.1)
        have hm1 := mst_iw (q := (fr, to, va, iw)) (by rw [← eq1]; exact hm2.1)
        exact absurd rfl hm1.2
      · exact r_vretW C hP hS (by subst eq3; subst eq2; subst eq1; first | (simp only [mdI, mdT, h1, h2, h3, not_true_eq_false, not_false_eq_true, and_true, true_and, and_false, false_and, or_true, true_or, or_false, false_or, if_true, if_false, ne_eq, reduceIte]; done) | (exfalso; omega)) dX4_menderItem_54
    · refine r_iconst C dX4_menderItem_32 ?_
      refine r_goto C (tgt := 37) dX4_menderItem_33 (by decide) ?_
      obtain ⟨q4, eq4⟩ : ∃ q : PS, q = mstP tp ta 1 q1 := ⟨_, rfl⟩
      have iq4 : PI tp ta q4 := eq4 ▸ (pi_mst iq1 1)
      have jq41 := iq4.1
      have jq44 := iq4.2.2.2.1
      have jq45 := iq4.2.2.2.2
      refine r_cVW1 C m_X4_214 (cM_must (by omega) (by omega) iq1 htp) hP hD hS [0, 1, 2, 3, 4, 5, 6, 7, 8, 9, 10, 11] (wM a k s kp ot sd st sp tp bi si nu mo ik dl tl ta q4.1 q4.2.1 q4.2.2.1 q4.2.2.2) rfl rfl rfl (by rw [eq4]; rfl) rfl rfl rfl hl.1 dX4_menderItem_37 (fun H locs hP hD hS => ?_)
      refine r_aload_n C dX4_menderItem_40 rfl (lv_at hl 0 rfl) ?_
      refine r_iconst C dX4_menderItem_41 ?_
      refine r_bipush C dX4_menderItem_42 (by decide) ?_
      obtain ⟨q5, eq5⟩ : ∃ q : PS, q = numP tp ta 0 47 q4 := ⟨_, rfl⟩
      have iq5 : PI tp ta q5 := eq5 ▸ (pi_num iq4 0 47)
      have jq51 := iq5.1
      have jq54 := iq5.2.2.2.1
      have jq55 := iq5.2.2.2.2
      refine r_cVW2 C m_X4_248 (cM_number ⟨by decide, by decide⟩ ⟨by decide, by decide⟩ iq4 htp) hP hD hS [0, 1, 2, 3, 4, 5, 6, 7, 8, 9, 10, 11] (wM a k s kp ot sd st sp tp bi si nu mo ik dl tl ta q5.1 q5.2.1 q5.2.2.1 q5.2.2.2) rfl rfl rfl (by rw [eq5]; rfl) rfl rfl rfl hl.1 dX4_menderItem_44 (fun H locs hP hD hS => ?_)
      refine r_aload_n C dX4_menderItem_47 rfl (lv_at hl 0 rfl) ?_
      refine g_X4_200 C hP 0 rfl rfl dX4_menderItem_48 ?_
      refine r_if_eq C (tgt := 55) dX4_menderItem_51 (by decide) (by exact ⟨by omega, by omega⟩) (fun h4 => ?_) (fun h4 => ?_)
      · have hno := num_ok (tp := tp) (ta := ta) (q := q4) 0 47 (by rw [← eq5]; exact h4)
        rw [← eq5] at hno
        have hm2 := mst_iw (q := q1) (by rw [← eq4]; exact hno.1)
        have hm1 := mst_iw (q := (fr, to, va, iw)) (by rw [← eq1]; exact hm2.1)
        exact absurd rfl hm1.2
      · exact r_vretW C hP hS (by subst eq5; subst eq4; subst eq1; first | (simp only [mdI, mdT, h1, eq_true h2, h4, not_true_eq_false, not_false_eq_true, and_true, true_and, and_false, false_and, or_true, true_or, or_false, false_or, if_true, if_false, ne_eq, reduceIte]; done) | (exfalso; omega)) dX4_menderItem_54
  · refine r_iconst C dX4_menderItem_12 ?_
    refine r_goto C (tgt := 17) dX4_menderItem_13 (by decide) ?_
    obtain ⟨q6, eq6⟩ : ∃ q : PS, q = mstP tp ta 1 (fr, to, va, iw) := ⟨_, rfl⟩
    have iq6 : PI tp ta q6 := eq6 ▸ (pi_mst hq 1)
    have jq61 := iq6.1
    have jq64 := iq6.2.2.2.1
    have jq65 := iq6.2.2.2.2
    refine r_cVW1 C m_X4_214 (cM_must (by omega) (by omega) hq htp) hP hD hS [0, 1, 2, 3, 4, 5, 6, 7, 8, 9, 10, 11] (wM a k s kp ot sd st sp tp bi si nu mo ik dl tl ta q6.1 q6.2.1 q6.2.2.1 q6.2.2.2) rfl rfl rfl (by rw [eq6]; rfl) rfl rfl rfl hl.1 dX4_menderItem_17 (fun H locs hP hD hS => ?_)
    refine r_aload_n C dX4_menderItem_20 rfl (lv_at hl 0 rfl) ?_
    refine r_aload_n C dX4_menderItem_21 rfl (lv_at hl 0 rfl) ?_
    refine r_cVR0 C m_X4_218 (cM_wordQ (q := q6) iq6 htp) hP rfl rfl hl.1 dX4_menderItem_22 ?_
    refine r_ldc2 C (52) kl_X4_246 (by decide) dX4_menderItem_25 ?_
    refine r_lcmp_ne C (tgt := 36) dX4_menderItem_28 dX4_menderItem_29 (by decide) (by have := wrd_rg tp ta q6; exact ⟨by omega, by omega⟩) ⟨by decide, by decide⟩ (fun h5 => ?_) (fun h5 => ?_)
    · refine r_iconst C dX4_menderItem_36 ?_
      obtain ⟨q7, eq7⟩ : ∃ q : PS, q = mstP tp ta 0 q6 := ⟨_, rfl⟩
      have iq7 : PI tp ta q7 := eq7 ▸ (pi_mst iq6 0)
      have jq71 := iq7.1
      have jq74 := iq7.2.2.2.1
      have jq75 := iq7.2.2.2.2
      refine r_cVW1 C m_X4_214 (cM_must (by omega) (by omega) iq6 htp) hP hD hS [0, 1, 2, 3, 4, 5, 6, 7, 8, 9, 10, 11] (wM a k s kp ot sd st sp tp bi si nu mo ik dl tl ta q7.1 q7.2.1 q7.2.2.1 q7.2.2.2) rfl rfl rfl (by rw [eq7]; rfl) rfl rfl rfl hl.1 dX4_menderItem_37 (fun H locs hP hD hS => ?_)
      refine r_aload_n C dX4_menderItem_40 rfl (lv_at hl 0 rfl) ?_
      refine r_iconst C dX4_menderItem_41 ?_
      refine r_bipush C dX4_menderItem_42 (by decide) ?_
      obtain ⟨q8, eq8⟩ : ∃ q : PS, q = numP tp ta 0 47 q7 := ⟨_, rfl⟩
      have iq8 : PI tp ta q8 := eq8 ▸ (pi_num iq7 0 47)
      have jq81 := iq8.1
      have jq84 := iq8.2.2.2.1
      have jq85 := iq8.2.2.2.2
      refine r_cVW2 C m_X4_248 (cM_number ⟨by decide, by decide⟩ ⟨by decide, by decide⟩ iq7 htp) hP hD hS [0, 1, 2, 3, 4, 5, 6, 7, 8, 9, 10, 11] (wM a k s kp ot sd st sp tp bi si nu mo ik dl tl ta q8.1 q8.2.1 q8.2.2.1 q8.2.2.2) rfl rfl rfl (by rw [eq8]; rfl) rfl rfl rfl hl.1 dX4_menderItem_44 (fun H locs hP hD hS => ?_)
      refine r_aload_n C dX4_menderItem_47 rfl (lv_at hl 0 rfl) ?_
      refine g_X4_200 C hP 0 rfl rfl dX4_menderItem_48 ?_
      refine r_if_eq C (tgt := 55) dX4_menderItem_51 (by decide) (by exact ⟨by omega, by omega⟩) (fun h6 => ?_) (fun h6 => ?_)
      · have hno := num_ok (tp := tp) (ta := ta) (q := q7) 0 47 (by rw [← eq8]; exact h6)
        rw [← eq8] at hno
        have hm2 := mst_iw (q := q6) (by rw [← eq7]; exact hno.1)
        have hm1 := mst_iw (q := (fr, to, va, iw)) (by rw [← eq6]; exact hm2.1)
        exact absurd rfl hm2.2
      · exact r_vretW C hP hS (by subst eq8; subst eq7; subst eq6; first | (simp only [mdI, mdT, h1, h5, h6, not_true_eq_false, not_false_eq_true, and_true, true_and, and_false, false_and, or_true, true_or, or_false, false_or, if_true, if_false, ne_eq, reduceIte]; done) | (exfalso; omega)) dX4_menderItem_54
    · refine r_iconst C dX4_menderItem_32 ?_
      refine r_goto C (tgt := 37) dX4_menderItem_33 (by decide) ?_
      obtain ⟨q9, eq9⟩ : ∃ q : PS, q = mstP tp ta 1 q6 := ⟨_, rfl⟩
      have iq9 : PI tp ta q9 := eq9 ▸ (pi_mst iq6 1)
      have jq91 := iq9.1
      have jq94 := iq9.2.2.2.1
      have jq95 := iq9.2.2.2.2
      refine r_cVW1 C m_X4_214 (cM_must (by omega) (by omega) iq6 htp) hP hD hS [0, 1, 2, 3, 4, 5, 6, 7, 8, 9, 10, 11] (wM a k s kp ot sd st sp tp bi si nu mo ik dl tl ta q9.1 q9.2.1 q9.2.2.1 q9.2.2.2) rfl rfl rfl (by rw [eq9]; rfl) rfl rfl rfl hl.1 dX4_menderItem_37 (fun H locs hP hD hS => ?_)
      refine r_aload_n C dX4_menderItem_40 rfl (lv_at hl 0 rfl) ?_
      refine r_iconst C dX4_menderItem_41 ?_
      refine r_bipush C dX4_menderItem_42 (by decide) ?_
      obtain ⟨q10, eq10⟩ : ∃ q : PS, q = numP tp ta 0 47 q9 := ⟨_, rfl⟩
      have iq10 : PI tp ta q10 := eq10 ▸ (pi_num iq9 0 47)
      have jq101 := iq10.1
      have jq104 := iq10.2.2.2.1
      have jq105 := iq10.2.2.2.2
      refine r_cVW2 C m_X4_248 (cM_number ⟨by decide, by decide⟩ ⟨by decide, by decide⟩ iq9 htp) hP hD hS [0, 1, 2, 3, 4, 5, 6, 7, 8, 9, 10, 11] (wM a k s kp ot sd st sp tp bi si nu mo ik dl tl ta q10.1 q10.2.1 q10.2.2.1 q10.2.2.2) rfl rfl rfl (by rw [eq10]; rfl) rfl rfl rfl hl.1 dX4_menderItem_44 (fun H locs hP hD hS => ?_)
      refine r_aload_n C dX4_menderItem_47 rfl (lv_at hl 0 rfl) ?_
      refine g_X4_200 C hP 0 rfl rfl dX4_menderItem_48 ?_
      refine r_if_eq C (tgt := 55) dX4_menderItem_51 (by decide) (by exact ⟨by omega, by omega⟩) (fun h7 => ?_) (fun h7 => ?_)
      · have hno := num_ok (tp := tp) (ta := ta) (q := q9) 0 47 (by rw [← eq10]; exact h7)
        rw [← eq10] at hno
        have hm2 := mst_iw (q := q6) (by rw [← eq9]; exact hno.1)
        have hm1 := mst_iw (q := (fr, to, va, iw)) (by rw [← eq6]; exact hm2.1)
        refine r_aload_n C dX4_menderItem_55 rfl (lv_at hl 0 rfl) ?_
        refine r_iload_n C dX4_menderItem_56 rfl (lv_at hl 1 rfl) ?_
        refine r_aload_n C dX4_menderItem_57 rfl (lv_at hl 0 rfl) ?_
        refine g_X4_211 C hP 0 rfl rfl dX4_menderItem_58 ?_
        refine r_cVW2 C m_X4_97 (cM_adds (by omega) (by omega) (by omega) (by omega) hs (by omega)) hP hD hS [0, 1, 2, 3, 4, 5, 6, 7, 8, 9, 10, 11] (wM a k (addS s kd q10.2.2.1 50) kp ot sd st sp tp bi si nu mo ik dl tl ta q10.1 q10.2.1 q10.2.2.1 q10.2.2.2) rfl rfl rfl rfl rfl rfl rfl hl.1 dX4_menderItem_61 (fun H locs hP hD hS => ?_)
        have hs11 : Ok (addS s kd q10.2.2.1 50) := ok_addS hs (by omega) (by omega) (by omega) (by omega) (by omega) (by decide) (by decide)
        refine r_istore_n C [(2, .int (iI (s 0))), (0, .ref (a 0)), (1, .int (iI kd))] dX4_menderItem_64 rfl hl (by decide) rfl (fun ls hl => ?_)
        refine r_aload_n C dX4_menderItem_65 rfl (lv_at hl 1 rfl) ?_
        refine r_cVR0 C m_X4_218 (cM_wordQ (q := q10) iq10 htp) hP rfl rfl hl.1 dX4_menderItem_66 ?_
        refine r_ldc2 C (17484389) kl_X4_251 (by decide) dX4_menderItem_69 ?_
        refine r_lcmp_ne C (tgt := 103) dX4_menderItem_72 dX4_menderItem_73 (by decide) (by have := wrd_rg tp ta q10; exact ⟨by omega, by omega⟩) ⟨by decide, by decide⟩ (fun h8 => ?_) (fun h8 => ?_)
        · exact r_vretW C hP hS (by subst eq10; subst eq9; subst eq6; first | (simp only [mdI, mdT, h1, eq_true h5, eq_true h7, h8, not_true_eq_false, not_false_eq_true, and_true, true_and, and_false, false_and, or_true, true_or, or_false, false_or, if_true, if_false, ne_eq, reduceIte]; done) | (exfalso; omega)) dX4_menderItem_103
        · refine r_aload_n C dX4_menderItem_76 rfl (lv_at hl 1 rfl) ?_
          refine r_iconst C dX4_menderItem_77 ?_
          obtain ⟨q12, eq12⟩ : ∃ q : PS, q = mstP tp ta 1 q10 := ⟨_, rfl⟩
          have iq12 : PI tp ta q12 := eq12 ▸ (pi_mst iq10 1)
          have jq121 := iq12.1
          have jq124 := iq12.2.2.2.1
          have jq125 := iq12.2.2.2.2
          refine r_cVW1 C m_X4_214 (cM_must (by omega) (by omega) iq10 htp) hP hD hS [0, 1, 2, 3, 4, 5, 6, 7, 8, 9, 10, 11] (wM a k (addS s kd q10.2.2.1 50) kp ot sd st sp tp bi si nu mo ik dl tl ta q12.1 q12.2.1 q12.2.2.1 q12.2.2.2) rfl rfl rfl (by rw [eq12]; rfl) rfl rfl rfl hl.1 dX4_menderItem_78 (fun H locs hP hD hS => ?_)
          refine r_aload_n C dX4_menderItem_81 rfl (lv_at hl 1 rfl) ?_
          refine r_iconst C dX4_menderItem_82 ?_
          refine r_sipush C dX4_menderItem_83 (by decide) ?_
          obtain ⟨q13, eq13⟩ : ∃ q : PS, q = numP tp ta 0 9999 q12 := ⟨_, rfl⟩
          have iq13 : PI tp ta q13 := eq13 ▸ (pi_num iq12 0 9999)
          have jq131 := iq13.1
          have jq134 := iq13.2.2.2.1
          have jq135 := iq13.2.2.2.2
          refine r_cVW2 C m_X4_248 (cM_number ⟨by decide, by decide⟩ ⟨by decide, by decide⟩ iq12 htp) hP hD hS [0, 1, 2, 3, 4, 5, 6, 7, 8, 9, 10, 11] (wM a k (addS s kd q10.2.2.1 50) kp ot sd st sp tp bi si nu mo ik dl tl ta q13.1 q13.2.1 q13.2.2.1 q13.2.2.2) rfl rfl rfl (by rw [eq13]; rfl) rfl rfl rfl hl.1 dX4_menderItem_86 (fun H locs hP hD hS => ?_)
          refine r_aload_n C dX4_menderItem_89 rfl (lv_at hl 1 rfl) ?_
          refine g_X4_7 C hP 0 rfl rfl dX4_menderItem_90 ?_
          refine r_iload_n C dX4_menderItem_93 rfl (lv_at hl 0 rfl) ?_
          refine r_iconst C dX4_menderItem_94 ?_
          refine r_cSR2 C m_X4_57 cM_spot pn0 hl.1 dX4_menderItem_95 ?_
          refine r_aload_n C dX4_menderItem_98 rfl (lv_at hl 1 rfl) ?_
          refine g_X4_211 C hP 0 rfl rfl dX4_menderItem_99 ?_
          refine r_iast C hP hD hS 1 (wM a k (up (addS s kd q10.2.2.1 50) (99 + 4 * (s 0) + 2) q13.2.2.1) kp ot sd st sp tp bi si nu mo ik dl tl ta q13.1 q13.2.1 q13.2.2.1 q13.2.2.2) rfl dX4_menderItem_102 (by have := hs.1 0 (by decide); omega) (by have := hs.1 0 (by decide); omega) (by decide) rfl (fun H locs hP hD hS => ?_)
          exact r_vretW C hP hS (by subst eq13; subst eq12; subst eq10; subst eq9; subst eq6; first | (simp only [mdI, mdT, h1, eq_true h5, eq_true h7, eq_true h8, not_true_eq_false, not_false_eq_true, and_true, true_and, and_false, false_and, or_true, true_or, or_false, false_or, if_true, if_false, ne_eq, reduceIte]; done) | (exfalso; omega)) dX4_menderItem_103
      · exact r_vretW C hP hS (by subst eq10; subst eq9; subst eq6; first | (simp only [mdI, mdT, h1, eq_true h5, h7, not_true_eq_false, not_false_eq_true, and_true, true_and, and_false, false_and, or_true, true_or, or_false, false_or, if_true, if_false, ne_eq, reduceIte]; done) | (exfalso; omega)) dX4_menderItem_54
set_option maxHeartbeats 4000000 in
set_option maxRecDepth 100000 in
theorem cM_cellsItem {b : Int} (hb : b = 3 ∨ b = 51) (hs : Ok s) (hq : PI tp ta (fr, to, va, iw)) (htp : ∀ i, 0 ≤ tp i ∧ tp i ≤ 255) : MW l yX4_cellsItem cX4_cellsItem 6 none 5 113 D k [.ref (a 0), .int (iI b)] (wM a k s kp ot sd st sp tp bi si nu mo ik dl tl ta fr to va iw) (wM a k ((clI tp ta b s (fr, to, va, iw)).1) kp ot sd st sp tp bi si nu mo ik dl tl ta (((clI tp ta b s (fr, to, va, iw)).2).1) (((clI tp ta b s (fr, to, va, iw)).2).2.1) (((clI tp ta b s (fr, to, va, iw)).2).2.2.1) (((clI tp ta b s (fr, to, va, iw)).2).2.2.2)) none := by
  refine MW.mk RX4 rfl (by decide +kernel) (Nat.le_of_ble_eq_true rfl) (fun p e U m0 below meth cd ls C hP hD hS hl => ?_)
  have hl : lv_has ls 6 [(0, .ref (a 0)), (1, .int (iI b))] := hl
  have hq1 := hq.1
  have hq4 := hq.2.2.2.1
  have hq5 := hq.2.2.2.2
  dsimp only at hq1 hq4 hq5
  have h00 := hs.1 0 (by decide)
  have h06 := hs.2.2.1
  refine r_aload_n C dX4_cellsItem_0 rfl (lv_at hl 0 rfl) ?_
  refine r_iconst C dX4_cellsItem_1 ?_
  obtain ⟨q1, eq1⟩ : ∃ q : PS, q = mstP tp ta 1 (fr, to, va, iw) := ⟨_, rfl⟩
  have iq1 : PI tp ta q1 := eq1 ▸ (pi_mst hq 1)
  have jq11 := iq1.1
  have jq14 := iq1.2.2.2.1
  have jq15 := iq1.2.2.2.2
  refine r_cVW1 C m_X4_214 (cM_must (by omega) (by omega) hq htp) hP hD hS [0, 1, 2, 3, 4, 5, 6, 7, 8, 9, 10, 11] (wM a k s kp ot sd st sp tp bi si nu mo ik dl tl ta q1.1 q1.2.1 q1.2.2.1 q1.2.2.2) rfl rfl rfl (by rw [eq1]; rfl) rfl rfl rfl hl.1 dX4_cellsItem_2 (fun H locs hP hD hS => ?_)
  refine r_aload_n C dX4_cellsItem_5 rfl (lv_at hl 0 rfl) ?_
  refine r_iconst C dX4_cellsItem_6 ?_
  refine r_bipush C dX4_cellsItem_7 (by decide) ?_
  obtain ⟨q2, eq2⟩ : ∃ q : PS, q = numP tp ta 0 47 q1 := ⟨_, rfl⟩
  have iq2 : PI tp ta q2 := eq2 ▸ (pi_num iq1 0 47)
  have jq21 := iq2.1
  have jq24 := iq2.2.2.2.1
  have jq25 := iq2.2.2.2.2
  refine r_cVW2 C m_X4_248 (cM_number ⟨by decide, by decide⟩ ⟨by decide, by decide⟩ iq1 htp) hP hD hS [0, 1, 2, 3, 4, 5, 6, 7, 8, 9, 10, 11] (wM a k s kp ot sd st sp tp bi si nu mo ik dl tl ta q2.1 q2.2.1 q2.2.2.1 q2.2.2.2) rfl rfl rfl (by rw [eq2]; rfl) rfl rfl rfl hl.1 dX4_cellsItem_9 (fun H locs hP hD hS => ?_)
  refine r_aload_n C dX4_cellsItem_12 rfl (lv_at hl 0 rfl) ?_
  refine g_X4_211 C hP 0 rfl rfl dX4_cellsItem_13 ?_
  refine r_istore_n C [(2, .int (iI q2.2.2.1)), (0, .ref (a 0)), (1, .int (iI b))] dX4_cellsItem_16 rfl hl (by decide) rfl (fun ls hl => ?_)
  refine r_aload_n C dX4_cellsItem_17 rfl (lv_at hl 1 rfl) ?_
  refine r_cVR0 C m_X4_253 (cM_sortHereQ (q := q2) iq2 htp) hP rfl rfl hl.1 dX4_cellsItem_18 ?_
  refine r_istore_n C [(3, .int (iI (srH (wrd tp ta q2)))), (2, .int (iI q2.2.2.1)), (0, .ref (a 0)), (1, .int (iI b))] dX4_cellsItem_21 rfl hl (by decide) rfl (fun ls hl => ?_)
  refine r_aload_n C dX4_cellsItem_22 rfl (lv_at hl 2 rfl) ?_
  refine r_iload_n C dX4_cellsItem_23 rfl (lv_at hl 0 rfl) ?_
  refine r_if_lt C (tgt := 31) dX4_cellsItem_24 (by decide) (by have := srH_rg (wrd tp ta q2); exact ⟨by omega, by omega⟩) (fun h1 => ?_) (fun h1 => ?_)
  · refine r_iconst C dX4_cellsItem_31 ?_
    obtain ⟨q3, eq3⟩ : ∃ q : PS, q = mstP tp ta 0 q2 := ⟨_, rfl⟩
    have iq3 : PI tp ta q3 := eq3 ▸ (pi_mst iq2 0)
    have jq31 := iq3.1
    have jq34 := iq3.2.2.2.1
    have jq35 := iq3.2.2.2.2
    refine r_cVW1 C m_X4_214 (cM_must (by omega) (by omega) iq2 htp) hP hD hS [0, 1, 2, 3, 4, 5, 6, 7, 8, 9, 10, 11] (wM a k s kp ot sd st sp tp bi si nu mo ik dl tl ta q3.1 q3.2.1 q3.2.2.1 q3.2.2.2) rfl rfl rfl (by rw [eq3]; rfl) rfl rfl rfl hl.1 dX4_cellsItem_32 (fun H locs hP hD hS => ?_)
    refine r_iload_n C dX4_cellsItem_35 rfl (lv_at hl 1 rfl) ?_
    refine r_istore C [(4, .int (iI q2.2.2.1)), (3, .int (iI (srH (wrd tp ta q2)))), (2, .int (iI q2.2.2.1)), (0, .ref (a 0)), (1, .int (iI b))] dX4_cellsItem_36 hl (by decide) rfl (fun ls hl => ?_)
    refine r_aload_n C dX4_cellsItem_38 rfl (lv_at hl 3 rfl) ?_
    refine r_cVR0 C m_X4_218 (cM_wordQ (q := q3) iq3 htp) hP rfl rfl hl.1 dX4_cellsItem_39 ?_
    refine r_ldc2 C (655) kl_X4_256 (by decide) dX4_cellsItem_42 ?_
    refine r_lcmp_ne C (tgt := 67) dX4_cellsItem_45 dX4_cellsItem_46 (by decide) (by have := wrd_rg tp ta q3; exact ⟨by omega, by omega⟩) ⟨by decide, by decide⟩ (fun h2 => ?_) (fun h2 => ?_)
    · refine r_iload_n C dX4_cellsItem_67 rfl (lv_at hl 2 rfl) ?_
      refine r_istore C [(5, .int (iI q2.2.2.1)), (4, .int (iI q2.2.2.1)), (3, .int (iI (srH (wrd tp ta q2)))), (2, .int (iI q2.2.2.1)), (0, .ref (a 0)), (1, .int (iI b))] dX4_cellsItem_68 hl (by decide) rfl (fun ls hl => ?_)
      refine r_loopWJ (fun n : Nat => [(0, .ref (a 0)), (1, .int (iI b)), (2, .int (iI q2.2.2.1)), (3, .int (iI (srH (wrd tp ta q2)))), (4, .int (iI q2.2.2.1)), (5, .int (iI (q2.2.2.1 + n)))]) (fun n : Nat => wM a k (clN s b q2.2.2.1 (srH (wrd tp ta q2)) n) kp ot sd st sp tp bi si nu mo ik dl tl ta q3.1 q3.2.1 q3.2.2.1 q3.2.2.2) ((q2.2.2.1 + 1 - q2.2.2.1).toNat) (fun n : Nat => n = 0 ∨ q3.2.2.2 = 0) (Or.inl rfl) (lv_eq (lv_sub hl [4, 5, 3, 2, 1, 0] rfl) (by simp only [Int.natCast_zero, Int.add_zero]; rfl)) (va_eq hP rfl) (va_eqD hD rfl) hS (fun n hn ihn hJn ls H locs hl hP hD hS => ?_) (fun hJn ls H locs hl hP hD hS => ?_)
      · have hl : lv_has ls 6 [(0, .ref (a 0)), (1, .int (iI b)), (2, .int (iI q2.2.2.1)), (3, .int (iI (srH (wrd tp ta q2)))), (4, .int (iI q2.2.2.1)), (5, .int (iI (q2.2.2.1 + n)))] := hl
        have hP : va_P D vwCl (wM a k (clN s b q2.2.2.1 (srH (wrd tp ta q2)) n) kp ot sd st sp tp bi si nu mo ik dl tl ta q3.1 q3.2.1 q3.2.2.1 q3.2.2.2) H := hP
        have hD : va_D _ (wM a k (clN s b q2.2.2.1 (srH (wrd tp ta q2)) n) kp ot sd st sp tp bi si nu mo ik dl tl ta q3.1 q3.2.1 q3.2.2.1 q3.2.2.2) := hD
        have hJn : n = 0 ∨ q3.2.2.2 = 0 := hJn
        refine r_iload C dX4_cellsItem_70 (lv_at hl 5 rfl) ?_
        refine r_iload C dX4_cellsItem_72 (lv_at hl 4 rfl) ?_
        refine r_icmp_gt C (tgt := 100) dX4_cellsItem_74 (by decide) (by exact ⟨by omega, by omega⟩) (by exact ⟨by omega, by omega⟩) (fun h3 => ?_) (fun h3 => ?_)
        · exfalso; omega
        · refine r_aload_n C dX4_cellsItem_77 rfl (lv_at hl 0 rfl) ?_
          refine g_X4_200 C hP 0 rfl rfl dX4_cellsItem_78 ?_
          refine r_if_ne C (tgt := 100) dX4_cellsItem_81 (by decide) (by exact ⟨by omega, by omega⟩) (fun h4 => ?_) (fun h4 => ?_)
          · exact r_vretW C hP hS (by rw [hJn.resolve_right h4, clN]; subst eq3; subst eq2; subst eq1; first | (simp only [clI, clE, h1, h2, h3, h4, not_true_eq_false, not_false_eq_true, and_true, true_and, and_false, false_and, or_true, true_or, or_false, false_or, if_true, if_false, ne_eq, reduceIte]; done) | (exfalso; omega)) dX4_cellsItem_100
          · have hm3 := mst_iw (q := q2) (by rw [← eq3]; exact h4)
            exact absurd rfl hm3.2
      · have hl : lv_has ls 6 [(0, .ref (a 0)), (1, .int (iI b)), (2, .int (iI q2.2.2.1)), (3, .int (iI (srH (wrd tp ta q2)))), (4, .int (iI q2.2.2.1)), (5, .int (iI (q2.2.2.1 + (q2.2.2.1 + 1 - q2.2.2.1).toNat)))] := hl
        have hP : va_P D vwCl (wM a k (clN s b q2.2.2.1 (srH (wrd tp ta q2)) (q2.2.2.1 + 1 - q2.2.2.1).toNat) kp ot sd st sp tp bi si nu mo ik dl tl ta q3.1 q3.2.1 q3.2.2.1 q3.2.2.2) H := hP
        have hD : va_D _ (wM a k (clN s b q2.2.2.1 (srH (wrd tp ta q2)) (q2.2.2.1 + 1 - q2.2.2.1).toNat) kp ot sd st sp tp bi si nu mo ik dl tl ta q3.1 q3.2.1 q3.2.2.1 q3.2.2.2) := hD
        have hJn : (q2.2.2.1 + 1 - q2.2.2.1).toNat = 0 ∨ q3.2.2.2 = 0 := hJn
        refine r_iload C dX4_cellsItem_70 (lv_at hl 5 rfl) ?_
        refine r_iload C dX4_cellsItem_72 (lv_at hl 4 rfl) ?_
        refine r_icmp_gt C (tgt := 100) dX4_cellsItem_74 (by decide) (by exact ⟨by omega, by omega⟩) (by exact ⟨by omega, by omega⟩) (fun h5 => ?_) (fun h5 => ?_)
        · exact r_vretW C hP hS (by rw [show (q2.2.2.1 + 1 - q2.2.2.1).toNat = 1 by omega] at hJn ⊢; by_cases hz : q3.2.2.2 = 0; (subst eq3; subst eq2; subst eq1; simp only [clI, clE, hz, h1, h2, h5, not_true_eq_false, not_false_eq_true, and_true, true_and, and_false, false_and, or_true, true_or, or_false, false_or, if_true, if_false, ne_eq, reduceIte]); (rw [hJn.resolve_right hz, clN]; subst eq3; subst eq2; subst eq1; simp only [clI, clE, hz, h1, h2, h5, not_true_eq_false, not_false_eq_true, and_true, true_and, and_false, false_and, or_true, true_or, or_false, false_or, if_true, if_false, ne_eq, reduceIte])) dX4_cellsItem_100
        · exfalso; omega
    · refine r_aload_n C dX4_cellsItem_49 rfl (lv_at hl 3 rfl) ?_
      refine r_iconst C dX4_cellsItem_50 ?_
      obtain ⟨q4, eq4⟩ : ∃ q : PS, q = mstP tp ta 1 q3 := ⟨_, rfl⟩
      have iq4 : PI tp ta q4 := eq4 ▸ (pi_mst iq3 1)
      have jq41 := iq4.1
      have jq44 := iq4.2.2.2.1
      have jq45 := iq4.2.2.2.2
      refine r_cVW1 C m_X4_214 (cM_must (by omega) (by omega) iq3 htp) hP hD hS [0, 1, 2, 3, 4, 5, 6, 7, 8, 9, 10, 11] (wM a k s kp ot sd st sp tp bi si nu mo ik dl tl ta q4.1 q4.2.1 q4.2.2.1 q4.2.2.2) rfl rfl rfl (by rw [eq4]; rfl) rfl rfl rfl hl.1 dX4_cellsItem_51 (fun H locs hP hD hS => ?_)
      refine r_aload_n C dX4_cellsItem_54 rfl (lv_at hl 3 rfl) ?_
      refine r_iload_n C dX4_cellsItem_55 rfl (lv_at hl 2 rfl) ?_
      refine r_bipush C dX4_cellsItem_56 (by decide) ?_
      obtain ⟨q5, eq5⟩ : ∃ q : PS, q = numP tp ta q2.2.2.1 47 q4 := ⟨_, rfl⟩
      have iq5 : PI tp ta q5 := eq5 ▸ (pi_num iq4 q2.2.2.1 47)
      have jq51 := iq5.1
      have jq54 := iq5.2.2.2.1
      have jq55 := iq5.2.2.2.2
      refine r_cVW2 C m_X4_248 (cM_number (by exact ⟨by omega, by omega⟩) ⟨by decide, by decide⟩ iq4 htp) hP hD hS [0, 1, 2, 3, 4, 5, 6, 7, 8, 9, 10, 11] (wM a k s kp ot sd st sp tp bi si nu mo ik dl tl ta q5.1 q5.2.1 q5.2.2.1 q5.2.2.2) rfl rfl rfl (by rw [eq5]; rfl) rfl rfl rfl hl.1 dX4_cellsItem_58 (fun H locs hP hD hS => ?_)
      refine r_aload_n C dX4_cellsItem_61 rfl (lv_at hl 3 rfl) ?_
      refine g_X4_211 C hP 0 rfl rfl dX4_cellsItem_62 ?_
      refine r_istore C [(4, .int (iI q5.2.2.1)), (3, .int (iI (srH (wrd tp ta q2)))), (2, .int (iI q2.2.2.1)), (0, .ref (a 0)), (1, .int (iI b))] dX4_cellsItem_65 hl (by decide) rfl (fun ls hl => ?_)
      refine r_iload_n C dX4_cellsItem_67 rfl (lv_at hl 2 rfl) ?_
      refine r_istore C [(5, .int (iI q2.2.2.1)), (4, .int (iI q5.2.2.1)), (3, .int (iI (srH (wrd tp ta q2)))), (2, .int (iI q2.2.2.1)), (0, .ref (a 0)), (1, .int (iI b))] dX4_cellsItem_68 hl (by decide) rfl (fun ls hl => ?_)
      refine r_loopWJ (fun n : Nat => [(0, .ref (a 0)), (1, .int (iI b)), (2, .int (iI q2.2.2.1)), (3, .int (iI (srH (wrd tp ta q2)))), (4, .int (iI q5.2.2.1)), (5, .int (iI (q2.2.2.1 + n)))]) (fun n : Nat => wM a k (clN s b q2.2.2.1 (srH (wrd tp ta q2)) n) kp ot sd st sp tp bi si nu mo ik dl tl ta q5.1 q5.2.1 q5.2.2.1 q5.2.2.2) ((q5.2.2.1 + 1 - q2.2.2.1).toNat) (fun n : Nat => n = 0 ∨ q5.2.2.2 = 0) (Or.inl rfl) (lv_eq (lv_sub hl [4, 5, 3, 2, 1, 0] rfl) (by simp only [Int.natCast_zero, Int.add_zero]; rfl)) (va_eq hP rfl) (va_eqD hD rfl) hS (fun n hn ihn hJn ls H locs hl hP hD hS => ?_) (fun hJn ls H locs hl hP hD hS => ?_)
      · have hl : lv_has ls 6 [(0, .ref (a 0)), (1, .int (iI b)), (2, .int (iI q2.2.2.1)), (3, .int (iI (srH (wrd tp ta q2)))), (4, .int (iI q5.2.2.1)), (5, .int (iI (q2.2.2.1 + n)))] := hl
        have hP : va_P D vwCl (wM a k (clN s b q2.2.2.1 (srH (wrd tp ta q2)) n) kp ot sd st sp tp bi si nu mo ik dl tl ta q5.1 q5.2.1 q5.2.2.1 q5.2.2.2) H := hP
        have hD : va_D _ (wM a k (clN s b q2.2.2.1 (srH (wrd tp ta q2)) n) kp ot sd st sp tp bi si nu mo ik dl tl ta q5.1 q5.2.1 q5.2.2.1 q5.2.2.2) := hD
        have hJn : n = 0 ∨ q5.2.2.2 = 0 := hJn
        refine r_iload C dX4_cellsItem_70 (lv_at hl 5 rfl) ?_
        refine r_iload C dX4_cellsItem_72 (lv_at hl 4 rfl) ?_
        refine r_icmp_gt C (tgt := 100) dX4_cellsItem_74 (by decide) (by exact ⟨by omega, by omega⟩) (by exact ⟨by omega, by omega⟩) (fun h6 => ?_) (fun h6 => ?_)
        · exfalso; omega
        · refine r_aload_n C dX4_cellsItem_77 rfl (lv_at hl 0 rfl) ?_
          refine g_X4_200 C hP 0 rfl rfl dX4_cellsItem_78 ?_
          refine r_if_ne C (tgt := 100) dX4_cellsItem_81 (by decide) (by exact ⟨by omega, by omega⟩) (fun h7 => ?_) (fun h7 => ?_)
          · exact r_vretW C hP hS (by rw [hJn.resolve_right h7, clN]; subst eq5; subst eq4; subst eq3; subst eq2; subst eq1; first | (simp only [clI, clE, h1, eq_true h2, h6, h7, not_true_eq_false, not_false_eq_true, and_true, true_and, and_false, false_and, or_true, true_or, or_false, false_or, if_true, if_false, ne_eq, reduceIte]; done) | (exfalso; omega)) dX4_cellsItem_100
          · have hn5 := num_ok (tp := tp) (ta := ta) (q := q4) q2.2.2.1 47 (by rw [← eq5]; exact h7)
            rw [← eq5] at hn5
            have hm4 := mst_iw (q := q3) (by rw [← eq4]; exact hn5.1)
            have hm3 := mst_iw (q := q2) (by rw [← eq3]; exact hm4.1)
            exact absurd rfl hm3.2
      · have hl : lv_has ls 6 [(0, .ref (a 0)), (1, .int (iI b)), (2, .int (iI q2.2.2.1)), (3, .int (iI (srH (wrd tp ta q2)))), (4, .int (iI q5.2.2.1)), (5, .int (iI (q2.2.2.1 + (q5.2.2.1 + 1 - q2.2.2.1).toNat)))] := hl
        have hP : va_P D vwCl (wM a k (clN s b q2.2.2.1 (srH (wrd tp ta q2)) (q5.2.2.1 + 1 - q2.2.2.1).toNat) kp ot sd st sp tp bi si nu mo ik dl tl ta q5.1 q5.2.1 q5.2.2.1 q5.2.2.2) H := hP
        have hD : va_D _ (wM a k (clN s b q2.2.2.1 (srH (wrd tp ta q2)) (q5.2.2.1 + 1 - q2.2.2.1).toNat) kp ot sd st sp tp bi si nu mo ik dl tl ta q5.1 q5.2.1 q5.2.2.1 q5.2.2.2) := hD
        have hJn : (q5.2.2.1 + 1 - q2.2.2.1).toNat = 0 ∨ q5.2.2.2 = 0 := hJn
        refine r_iload C dX4_cellsItem_70 (lv_at hl 5 rfl) ?_
        refine r_iload C dX4_cellsItem_72 (lv_at hl 4 rfl) ?_
        refine r_icmp_gt C (tgt := 100) dX4_cellsItem_74 (by decide) (by exact ⟨by omega, by omega⟩) (by exact ⟨by omega, by omega⟩) (fun h8 => ?_) (fun h8 => ?_)
        · exact r_vretW C hP hS (by by_cases hz : q5.2.2.2 = 0; (subst eq5; subst eq4; subst eq3; subst eq2; subst eq1; simp only [clI, clE, hz, h1, eq_true h2, h8, not_true_eq_false, not_false_eq_true, and_true, true_and, and_false, false_and, or_true, true_or, or_false, false_or, if_true, if_false, ne_eq, reduceIte]); (rw [hJn.resolve_right hz, clN]; subst eq5; subst eq4; subst eq3; subst eq2; subst eq1; simp only [clI, clE, hz, h1, eq_true h2, h8, not_true_eq_false, not_false_eq_true, and_true, true_and, and_false, false_and, or_true, true_or, or_false, false_or, if_true, if_false, ne_eq, reduceIte])) dX4_cellsItem_100
        · exfalso; omega
  · refine r_iconst C dX4_cellsItem_27 ?_
    refine r_goto C (tgt := 32) dX4_cellsItem_28 (by decide) ?_
    obtain ⟨q6, eq6⟩ : ∃ q : PS, q = mstP tp ta 1 q2 := ⟨_, rfl⟩
    have iq6 : PI tp ta q6 := eq6 ▸ (pi_mst iq2 1)
    have jq61 := iq6.1
    have jq64 := iq6.2.2.2.1
    have jq65 := iq6.2.2.2.2
    refine r_cVW1 C m_X4_214 (cM_must (by omega) (by omega) iq2 htp) hP hD hS [0, 1, 2, 3, 4, 5, 6, 7, 8, 9, 10, 11] (wM a k s kp ot sd st sp tp bi si nu mo ik dl tl ta q6.1 q6.2.1 q6.2.2.1 q6.2.2.2) rfl rfl rfl (by rw [eq6]; rfl) rfl rfl rfl hl.1 dX4_cellsItem_32 (fun H locs hP hD hS => ?_)
    refine r_iload_n C dX4_cellsItem_35 rfl (lv_at hl 1 rfl) ?_
    refine r_istore C [(4, .int (iI q2.2.2.1)), (3, .int (iI (srH (wrd tp ta q2)))), (2, .int (iI q2.2.2.1)), (0, .ref (a 0)), (1, .int (iI b))] dX4_cellsItem_36 hl (by decide) rfl (fun ls hl => ?_)
    refine r_aload_n C dX4_cellsItem_38 rfl (lv_at hl 3 rfl) ?_
    refine r_cVR0 C m_X4_218 (cM_wordQ (q := q6) iq6 htp) hP rfl rfl hl.1 dX4_cellsItem_39 ?_
    refine r_ldc2 C (655) kl_X4_256 (by decide) dX4_cellsItem_42 ?_
    refine r_lcmp_ne C (tgt := 67) dX4_cellsItem_45 dX4_cellsItem_46 (by decide) (by have := wrd_rg tp ta q6; exact ⟨by omega, by omega⟩) ⟨by decide, by decide⟩ (fun h9 => ?_) (fun h9 => ?_)
    · refine r_iload_n C dX4_cellsItem_67 rfl (lv_at hl 2 rfl) ?_
      refine r_istore C [(5, .int (iI q2.2.2.1)), (4, .int (iI q2.2.2.1)), (3, .int (iI (srH (wrd tp ta q2)))), (2, .int (iI q2.2.2.1)), (0, .ref (a 0)), (1, .int (iI b))] dX4_cellsItem_68 hl (by decide) rfl (fun ls hl => ?_)
      refine r_loopWJ (fun n : Nat => [(0, .ref (a 0)), (1, .int (iI b)), (2, .int (iI q2.2.2.1)), (3, .int (iI (srH (wrd tp ta q2)))), (4, .int (iI q2.2.2.1)), (5, .int (iI (q2.2.2.1 + n)))]) (fun n : Nat => wM a k (clN s b q2.2.2.1 (srH (wrd tp ta q2)) n) kp ot sd st sp tp bi si nu mo ik dl tl ta q6.1 q6.2.1 q6.2.2.1 q6.2.2.2) ((q2.2.2.1 + 1 - q2.2.2.1).toNat) (fun n : Nat => n = 0 ∨ q6.2.2.2 = 0) (Or.inl rfl) (lv_eq (lv_sub hl [4, 5, 3, 2, 1, 0] rfl) (by simp only [Int.natCast_zero, Int.add_zero]; rfl)) (va_eq hP rfl) (va_eqD hD rfl) hS (fun n hn ihn hJn ls H locs hl hP hD hS => ?_) (fun hJn ls H locs hl hP hD hS => ?_)
      · have hl : lv_has ls 6 [(0, .ref (a 0)), (1, .int (iI b)), (2, .int (iI q2.2.2.1)), (3, .int (iI (srH (wrd tp ta q2)))), (4, .int (iI q2.2.2.1)), (5, .int (iI (q2.2.2.1 + n)))] := hl
        have hP : va_P D vwCl (wM a k (clN s b q2.2.2.1 (srH (wrd tp ta q2)) n) kp ot sd st sp tp bi si nu mo ik dl tl ta q6.1 q6.2.1 q6.2.2.1 q6.2.2.2) H := hP
        have hD : va_D _ (wM a k (clN s b q2.2.2.1 (srH (wrd tp ta q2)) n) kp ot sd st sp tp bi si nu mo ik dl tl ta q6.1 q6.2.1 q6.2.2.1 q6.2.2.2) := hD
        have hJn : n = 0 ∨ q6.2.2.2 = 0 := hJn
        refine r_iload C dX4_cellsItem_70 (lv_at hl 5 rfl) ?_
        refine r_iload C dX4_cellsItem_72 (lv_at hl 4 rfl) ?_
        refine r_icmp_gt C (tgt := 100) dX4_cellsItem_74 (by decide) (by exact ⟨by omega, by omega⟩) (by exact ⟨by omega, by omega⟩) (fun h10 => ?_) (fun h10 => ?_)
        · exfalso; omega
        · refine r_aload_n C dX4_cellsItem_77 rfl (lv_at hl 0 rfl) ?_
          refine g_X4_200 C hP 0 rfl rfl dX4_cellsItem_78 ?_
          refine r_if_ne C (tgt := 100) dX4_cellsItem_81 (by decide) (by exact ⟨by omega, by omega⟩) (fun h11 => ?_) (fun h11 => ?_)
          · exact r_vretW C hP hS (by rw [hJn.resolve_right h11, clN]; subst eq6; subst eq2; subst eq1; first | (simp only [clI, clE, h1, h9, h10, h11, not_true_eq_false, not_false_eq_true, and_true, true_and, and_false, false_and, or_true, true_or, or_false, false_or, if_true, if_false, ne_eq, reduceIte]; done) | (exfalso; omega)) dX4_cellsItem_100
          · have hm3 := mst_iw (q := q2) (by rw [← eq6]; exact h11)
            have hn2 := num_ok (tp := tp) (ta := ta) (q := q1) 0 47 (by rw [← eq2]; exact hm3.1)
            rw [← eq2] at hn2
            refine r_aload_n C dX4_cellsItem_84 rfl (lv_at hl 0 rfl) ?_
            refine g_X4_7 C hP 0 rfl rfl dX4_cellsItem_85 ?_
            refine r_iload_n C dX4_cellsItem_88 rfl (lv_at hl 1 rfl) ?_
            refine r_iload C dX4_cellsItem_89 (lv_at hl 5 rfl) ?_
            refine r_iadd C dX4_cellsItem_91 ?_
            refine r_iload_n C dX4_cellsItem_92 rfl (lv_at hl 3 rfl) ?_
            refine r_iast C hP hD hS 1 (wM a k (up (clN s b q2.2.2.1 (srH (wrd tp ta q2)) n) (b + (q2.2.2.1 + n)) (srH (wrd tp ta q2))) kp ot sd st sp tp bi si nu mo ik dl tl ta q6.1 q6.2.1 q6.2.2.1 q6.2.2.2) rfl dX4_cellsItem_93 (by omega) (by omega) (by decide) rfl (fun H locs hP hD hS => ?_)
            refine r_iinc C 5 [(5, .int (iI (q2.2.2.1 + n + 1))), (0, .ref (a 0)), (1, .int (iI b)), (2, .int (iI q2.2.2.1)), (3, .int (iI (srH (wrd tp ta q2)))), (4, .int (iI q2.2.2.1))] dX4_cellsItem_94 hl rfl (by decide) rfl (fun ls hl => ?_)
            refine r_goto C (tgt := 70) dX4_cellsItem_97 (by decide) ?_
            exact ihn (Or.inr h11) ls H locs (lv_eq (lv_sub hl [1, 2, 3, 4, 5, 0] rfl) (by simp only [Int.natCast_add, Int.natCast_one, Int.add_assoc]; rfl)) (va_eq hP rfl) (va_eqD hD rfl) hS
      · have hl : lv_has ls 6 [(0, .ref (a 0)), (1, .int (iI b)), (2, .int (iI q2.2.2.1)), (3, .int (iI (srH (wrd tp ta q2)))), (4, .int (iI q2.2.2.1)), (5, .int (iI (q2.2.2.1 + (q2.2.2.1 + 1 - q2.2.2.1).toNat)))] := hl
        have hP : va_P D vwCl (wM a k (clN s b q2.2.2.1 (srH (wrd tp ta q2)) (q2.2.2.1 + 1 - q2.2.2.1).toNat) kp ot sd st sp tp bi si nu mo ik dl tl ta q6.1 q6.2.1 q6.2.2.1 q6.2.2.2) H := hP
        have hD : va_D _ (wM a k (clN s b q2.2.2.1 (srH (wrd tp ta q2)) (q2.2.2.1 + 1 - q2.2.2.1).toNat) kp ot sd st sp tp bi si nu mo ik dl tl ta q6.1 q6.2.1 q6.2.2.1 q6.2.2.2) := hD
        have hJn : (q2.2.2.1 + 1 - q2.2.2.1).toNat = 0 ∨ q6.2.2.2 = 0 := hJn
        refine r_iload C dX4_cellsItem_70 (lv_at hl 5 rfl) ?_
        refine r_iload C dX4_cellsItem_72 (lv_at hl 4 rfl) ?_
        refine r_icmp_gt C (tgt := 100) dX4_cellsItem_74 (by decide) (by exact ⟨by omega, by omega⟩) (by exact ⟨by omega, by omega⟩) (fun h12 => ?_) (fun h12 => ?_)
        · exact r_vretW C hP hS (by rw [show (q2.2.2.1 + 1 - q2.2.2.1).toNat = 1 by omega] at hJn ⊢; by_cases hz : q6.2.2.2 = 0; (subst eq6; subst eq2; subst eq1; simp only [clI, clE, hz, h1, h9, h12, not_true_eq_false, not_false_eq_true, and_true, true_and, and_false, false_and, or_true, true_or, or_false, false_or, if_true, if_false, ne_eq, reduceIte]); (rw [hJn.resolve_right hz, clN]; subst eq6; subst eq2; subst eq1; simp only [clI, clE, hz, h1, h9, h12, not_true_eq_false, not_false_eq_true, and_true, true_and, and_false, false_and, or_true, true_or, or_false, false_or, if_true, if_false, ne_eq, reduceIte])) dX4_cellsItem_100
        · exfalso; omega
    · refine r_aload_n C dX4_cellsItem_49 rfl (lv_at hl 3 rfl) ?_
      refine r_iconst C dX4_cellsItem_50 ?_
      obtain ⟨q7, eq7⟩ : ∃ q : PS, q = mstP tp ta 1 q6 := ⟨_, rfl⟩
      have iq7 : PI tp ta q7 := eq7 ▸ (pi_mst iq6 1)
      have jq71 := iq7.1
      have jq74 := iq7.2.2.2.1
      have jq75 := iq7.2.2.2.2
      refine r_cVW1 C m_X4_214 (cM_must (by omega) (by omega) iq6 htp) hP hD hS [0, 1, 2, 3, 4, 5, 6, 7, 8, 9, 10, 11] (wM a k s kp ot sd st sp tp bi si nu mo ik dl tl ta q7.1 q7.2.1 q7.2.2.1 q7.2.2.2) rfl rfl rfl (by rw [eq7]; rfl) rfl rfl rfl hl.1 dX4_cellsItem_51 (fun H locs hP hD hS => ?_)
      refine r_aload_n C dX4_cellsItem_54 rfl (lv_at hl 3 rfl) ?_
      refine r_iload_n C dX4_cellsItem_55 rfl (lv_at hl 2 rfl) ?_
      refine r_bipush C dX4_cellsItem_56 (by decide) ?_
      obtain ⟨q8, eq8⟩ : ∃ q : PS, q = numP tp ta q2.2.2.1 47 q7 := ⟨_, rfl⟩
      have iq8 : PI tp ta q8 := eq8 ▸ (pi_num iq7 q2.2.2.1 47)
      have jq81 := iq8.1
      have jq84 := iq8.2.2.2.1
      have jq85 := iq8.2.2.2.2
      refine r_cVW2 C m_X4_248 (cM_number (by exact ⟨by omega, by omega⟩) ⟨by decide, by decide⟩ iq7 htp) hP hD hS [0, 1, 2, 3, 4, 5, 6, 7, 8, 9, 10, 11] (wM a k s kp ot sd st sp tp bi si nu mo ik dl tl ta q8.1 q8.2.1 q8.2.2.1 q8.2.2.2) rfl rfl rfl (by rw [eq8]; rfl) rfl rfl rfl hl.1 dX4_cellsItem_58 (fun H locs hP hD hS => ?_)
      refine r_aload_n C dX4_cellsItem_61 rfl (lv_at hl 3 rfl) ?_
      refine g_X4_211 C hP 0 rfl rfl dX4_cellsItem_62 ?_
      refine r_istore C [(4, .int (iI q8.2.2.1)), (3, .int (iI (srH (wrd tp ta q2)))), (2, .int (iI q2.2.2.1)), (0, .ref (a 0)), (1, .int (iI b))] dX4_cellsItem_65 hl (by decide) rfl (fun ls hl => ?_)
      refine r_iload_n C dX4_cellsItem_67 rfl (lv_at hl 2 rfl) ?_
      refine r_istore C [(5, .int (iI q2.2.2.1)), (4, .int (iI q8.2.2.1)), (3, .int (iI (srH (wrd tp ta q2)))), (2, .int (iI q2.2.2.1)), (0, .ref (a 0)), (1, .int (iI b))] dX4_cellsItem_68 hl (by decide) rfl (fun ls hl => ?_)
      refine r_loopWJ (fun n : Nat => [(0, .ref (a 0)), (1, .int (iI b)), (2, .int (iI q2.2.2.1)), (3, .int (iI (srH (wrd tp ta q2)))), (4, .int (iI q8.2.2.1)), (5, .int (iI (q2.2.2.1 + n)))]) (fun n : Nat => wM a k (clN s b q2.2.2.1 (srH (wrd tp ta q2)) n) kp ot sd st sp tp bi si nu mo ik dl tl ta q8.1 q8.2.1 q8.2.2.1 q8.2.2.2) ((q8.2.2.1 + 1 - q2.2.2.1).toNat) (fun n : Nat => n = 0 ∨ q8.2.2.2 = 0) (Or.inl rfl) (lv_eq (lv_sub hl [4, 5, 3, 2, 1, 0] rfl) (by simp only [Int.natCast_zero, Int.add_zero]; rfl)) (va_eq hP rfl) (va_eqD hD rfl) hS (fun n hn ihn hJn ls H locs hl hP hD hS => ?_) (fun hJn ls H locs hl hP hD hS => ?_)
      · have hl : lv_has ls 6 [(0, .ref (a 0)), (1, .int (iI b)), (2, .int (iI q2.2.2.1)), (3, .int (iI (srH (wrd tp ta q2)))), (4, .int (iI q8.2.2.1)), (5, .int (iI (q2.2.2.1 + n)))] := hl
        have hP : va_P D vwCl (wM a k (clN s b q2.2.2.1 (srH (wrd tp ta q2)) n) kp ot sd st sp tp bi si nu mo ik dl tl ta q8.1 q8.2.1 q8.2.2.1 q8.2.2.2) H := hP
        have hD : va_D _ (wM a k (clN s b q2.2.2.1 (srH (wrd tp ta q2)) n) kp ot sd st sp tp bi si nu mo ik dl tl ta q8.1 q8.2.1 q8.2.2.1 q8.2.2.2) := hD
        have hJn : n = 0 ∨ q8.2.2.2 = 0 := hJn
        refine r_iload C dX4_cellsItem_70 (lv_at hl 5 rfl) ?_
        refine r_iload C dX4_cellsItem_72 (lv_at hl 4 rfl) ?_
        refine r_icmp_gt C (tgt := 100) dX4_cellsItem_74 (by decide) (by exact ⟨by omega, by omega⟩) (by exact ⟨by omega, by omega⟩) (fun h13 => ?_) (fun h13 => ?_)
        · exfalso; omega
        · refine r_aload_n C dX4_cellsItem_77 rfl (lv_at hl 0 rfl) ?_
          refine g_X4_200 C hP 0 rfl rfl dX4_cellsItem_78 ?_
          refine r_if_ne C (tgt := 100) dX4_cellsItem_81 (by decide) (by exact ⟨by omega, by omega⟩) (fun h14 => ?_) (fun h14 => ?_)
          · exact r_vretW C hP hS (by rw [hJn.resolve_right h14, clN]; subst eq8; subst eq7; subst eq6; subst eq2; subst eq1; first | (simp only [clI, clE, h1, eq_true h9, h13, h14, not_true_eq_false, not_false_eq_true, and_true, true_and, and_false, false_and, or_true, true_or, or_false, false_or, if_true, if_false, ne_eq, reduceIte]; done) | (exfalso; omega)) dX4_cellsItem_100
          · have hn5 := num_ok (tp := tp) (ta := ta) (q := q7) q2.2.2.1 47 (by rw [← eq8]; exact h14)
            rw [← eq8] at hn5
            have hm4 := mst_iw (q := q6) (by rw [← eq7]; exact hn5.1)
            have hm3 := mst_iw (q := q2) (by rw [← eq6]; exact hm4.1)
            have hn2 := num_ok (tp := tp) (ta := ta) (q := q1) 0 47 (by rw [← eq2]; exact hm3.1)
            rw [← eq2] at hn2
            refine r_aload_n C dX4_cellsItem_84 rfl (lv_at hl 0 rfl) ?_
            refine g_X4_7 C hP 0 rfl rfl dX4_cellsItem_85 ?_
            refine r_iload_n C dX4_cellsItem_88 rfl (lv_at hl 1 rfl) ?_
            refine r_iload C dX4_cellsItem_89 (lv_at hl 5 rfl) ?_
            refine r_iadd C dX4_cellsItem_91 ?_
            refine r_iload_n C dX4_cellsItem_92 rfl (lv_at hl 3 rfl) ?_
            refine r_iast C hP hD hS 1 (wM a k (up (clN s b q2.2.2.1 (srH (wrd tp ta q2)) n) (b + (q2.2.2.1 + n)) (srH (wrd tp ta q2))) kp ot sd st sp tp bi si nu mo ik dl tl ta q8.1 q8.2.1 q8.2.2.1 q8.2.2.2) rfl dX4_cellsItem_93 (by omega) (by omega) (by decide) rfl (fun H locs hP hD hS => ?_)
            refine r_iinc C 5 [(5, .int (iI (q2.2.2.1 + n + 1))), (0, .ref (a 0)), (1, .int (iI b)), (2, .int (iI q2.2.2.1)), (3, .int (iI (srH (wrd tp ta q2)))), (4, .int (iI q8.2.2.1))] dX4_cellsItem_94 hl rfl (by decide) rfl (fun ls hl => ?_)
            refine r_goto C (tgt := 70) dX4_cellsItem_97 (by decide) ?_
            exact ihn (Or.inr h14) ls H locs (lv_eq (lv_sub hl [1, 2, 3, 4, 5, 0] rfl) (by simp only [Int.natCast_add, Int.natCast_one, Int.add_assoc]; rfl)) (va_eq hP rfl) (va_eqD hD rfl) hS
      · have hl : lv_has ls 6 [(0, .ref (a 0)), (1, .int (iI b)), (2, .int (iI q2.2.2.1)), (3, .int (iI (srH (wrd tp ta q2)))), (4, .int (iI q8.2.2.1)), (5, .int (iI (q2.2.2.1 + (q8.2.2.1 + 1 - q2.2.2.1).toNat)))] := hl
        have hP : va_P D vwCl (wM a k (clN s b q2.2.2.1 (srH (wrd tp ta q2)) (q8.2.2.1 + 1 - q2.2.2.1).toNat) kp ot sd st sp tp bi si nu mo ik dl tl ta q8.1 q8.2.1 q8.2.2.1 q8.2.2.2) H := hP
        have hD : va_D _ (wM a k (clN s b q2.2.2.1 (srH (wrd tp ta q2)) (q8.2.2.1 + 1 - q2.2.2.1).toNat) kp ot sd st sp tp bi si nu mo ik dl tl ta q8.1 q8.2.1 q8.2.2.1 q8.2.2.2) := hD
        have hJn : (q8.2.2.1 + 1 - q2.2.2.1).toNat = 0 ∨ q8.2.2.2 = 0 := hJn
        refine r_iload C dX4_cellsItem_70 (lv_at hl 5 rfl) ?_
        refine r_iload C dX4_cellsItem_72 (lv_at hl 4 rfl) ?_
        refine r_icmp_gt C (tgt := 100) dX4_cellsItem_74 (by decide) (by exact ⟨by omega, by omega⟩) (by exact ⟨by omega, by omega⟩) (fun h15 => ?_) (fun h15 => ?_)
        · exact r_vretW C hP hS (by by_cases hz : q8.2.2.2 = 0; (subst eq8; subst eq7; subst eq6; subst eq2; subst eq1; simp only [clI, clE, hz, h1, eq_true h9, h15, not_true_eq_false, not_false_eq_true, and_true, true_and, and_false, false_and, or_true, true_or, or_false, false_or, if_true, if_false, ne_eq, reduceIte]); (rw [hJn.resolve_right hz, clN]; subst eq8; subst eq7; subst eq6; subst eq2; subst eq1; simp only [clI, clE, hz, h1, eq_true h9, h15, not_true_eq_false, not_false_eq_true, and_true, true_and, and_false, false_and, or_true, true_or, or_false, false_or, if_true, if_false, ne_eq, reduceIte])) dX4_cellsItem_100
        · exfalso; omega
end MODEL
