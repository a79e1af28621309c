section MODEL
variable {l : Launch} {D : va_G} {k : Nat → ClassId} {a : Nat → Nat} {s kp ot sd st sp tp bi si : Int → Int} {nu mo : Int → Int64} {ik dl tl ta fr to va iw : Int}
set_option maxHeartbeats 4000000 in
set_option maxRecDepth 100000 in
theorem cM_item  (hs : Ok s) (hq : PI tp ta (fr, to, va, iw)) (htp : ∀ i, 0 ≤ tp i ∧ tp i ≤ 255) : MW l yX4_item cX4_item 4 none 6 138 D k [.ref (a 0)] (wM a k s kp ot sd st sp tp bi si nu mo ik dl tl ta fr to va iw) (wM a k ((itI tp ta s (fr, to, va, iw)).1) kp ot sd st sp tp bi si nu mo ik dl tl ta (((itI tp ta s (fr, to, va, iw)).2).1) (((itI tp ta s (fr, to, va, iw)).2).2.1) (((itI tp ta s (fr, to, va, iw)).2).2.2.1) (((itI tp ta s (fr, to, va, iw)).2).2.2.2)) none := by
  refine MW.mk RX4 rfl (by decide +kernel) (Nat.le_of_ble_eq_true rfl) (fun p e U m0 below meth cd ls C hP hD hS hl => ?_)
  have hl : lv_has ls 4 [(0, .ref (a 0))] := hl
  have hq1 := hq.1
  have hq4 := hq.2.2.2.1
  have hq5 := hq.2.2.2.2
  dsimp only at hq1 hq4 hq5
  have h00 := hs.1 0 (by decide)
  have h06 := hs.2.2.1
  have hkd := kdH_rg (wrd tp ta (fr, to, va, iw))
  refine r_aload_n C dX4_item_0 rfl (lv_at hl 0 rfl) ?_
  refine r_cVR0 C m_X4_258 (cM_kindHere hq htp) hP rfl rfl hl.1 dX4_item_1 ?_
  refine r_istore_n C [(1, .int (iI (kdH (wrd tp ta (fr, to, va, iw))))), (0, .ref (a 0))] dX4_item_4 rfl hl (by decide) rfl (fun ls hl => ?_)
  refine r_aload_n C dX4_item_5 rfl (lv_at hl 1 rfl) ?_
  refine r_cVR0 C m_X4_218 (cM_word hq htp) hP rfl rfl hl.1 dX4_item_6 ?_
  refine r_lstore_n C [(2, .long (lI (wrd tp ta (fr, to, va, iw)))), (1, .int (iI (kdH (wrd tp ta (fr, to, va, iw))))), (0, .ref (a 0))] dX4_item_9 rfl hl (by decide) rfl (fun ls hl => ?_)
  refine r_iload_n C dX4_item_10 rfl (lv_at hl 1 rfl) ?_
  refine r_if_lt C (tgt := 22) dX4_item_11 (by decide) (by have := kdH_rg (wrd tp ta (fr, to, va, iw)); have := wrd_rg tp ta (fr, to, va, iw); exact ⟨by omega, by omega⟩) (fun h1 => ?_) (fun h1 => ?_)
  · refine r_lload_n C dX4_item_22 rfl (lv_at hl 0 rfl) ?_
    refine r_ldc2 C (394692) kl_X4_264 (by decide) dX4_item_23 ?_
    refine r_lcmp_eq C (tgt := 38) dX4_item_26 dX4_item_27 (by decide) (by have := wrd_rg tp ta (fr, to, va, iw); exact ⟨by omega, by omega⟩) ⟨by decide, by decide⟩ (fun h2 => ?_) (fun h2 => ?_)
    · refine r_aload_n C dX4_item_38 rfl (lv_at hl 2 rfl) ?_
      refine r_lload_n C dX4_item_39 rfl (lv_at hl 0 rfl) ?_
      refine r_ldc2 C (394692) kl_X4_264 (by decide) dX4_item_40 ?_
      refine r_lcmp_ne C (tgt := 51) dX4_item_43 dX4_item_44 (by decide) (by have := wrd_rg tp ta (fr, to, va, iw); exact ⟨by omega, by omega⟩) ⟨by decide, by decide⟩ (fun h3 => ?_) (fun h3 => ?_)
      · refine r_bipush C dX4_item_51 (by decide) ?_
        obtain ⟨q1, eq1⟩ : ∃ q : PS, q = (clI tp ta 51 s (fr, to, va, iw)).2 := ⟨_, rfl⟩
        have iq1 : PI tp ta q1 := eq1 ▸ (pi_clI hq)
        have jq11 := iq1.1
        have jq14 := iq1.2.2.2.1
        have jq15 := iq1.2.2.2.2
        refine r_cVW1 C m_X4_268 (cM_cellsItem (by omega) hs hq htp) hP hD hS [0, 1, 2, 3, 4, 5, 6, 7, 8, 9, 10, 11] (wM a k ((clI tp ta 51 s (fr, to, va, iw)).1) kp ot sd st sp tp bi si nu mo ik dl tl ta q1.1 q1.2.1 q1.2.2.1 q1.2.2.2) rfl rfl rfl (by rw [eq1]; rfl) (wM_ad.trans wM_ad.symm) rfl rfl hl.1 dX4_item_53 (fun H locs hP hD hS => ?_)
        have hs2 : Ok ((clI tp ta 51 s (fr, to, va, iw)).1) := (ok_clI hs (by omega))
        refine r_goto C (tgt := 109) dX4_item_56 (by decide) ?_
        exact r_vretW C hP hS (by subst eq1; first | (simp only [itI, inI, h1, eq_true h2, h3, not_true_eq_false, not_false_eq_true, and_true, true_and, and_false, false_and, or_true, true_or, or_false, false_or, if_true, if_false, ne_eq, reduceIte]; done) | (exfalso; omega)) dX4_item_109
      · refine r_iconst C dX4_item_47 ?_
        refine r_goto C (tgt := 53) dX4_item_48 (by decide) ?_
        obtain ⟨q3, eq3⟩ : ∃ q : PS, q = (clI tp ta 3 s (fr, to, va, iw)).2 := ⟨_, rfl⟩
        have iq3 : PI tp ta q3 := eq3 ▸ (pi_clI hq)
        have jq31 := iq3.1
        have jq34 := iq3.2.2.2.1
        have jq35 := iq3.2.2.2.2
        refine r_cVW1 C m_X4_268 (cM_cellsItem (by omega) hs hq htp) hP hD hS [0, 1, 2, 3, 4, 5, 6, 7, 8, 9, 10, 11] (wM a k ((clI tp ta 3 s (fr, to, va, iw)).1) kp ot sd st sp tp bi si nu mo ik dl tl ta q3.1 q3.2.1 q3.2.2.1 q3.2.2.2) rfl rfl rfl (by rw [eq3]; rfl) (wM_ad.trans wM_ad.symm) rfl rfl hl.1 dX4_item_53 (fun H locs hP hD hS => ?_)
        have hs4 : Ok ((clI tp ta 3 s (fr, to, va, iw)).1) := (ok_clI hs (by omega))
        refine r_goto C (tgt := 109) dX4_item_56 (by decide) ?_
        exact r_vretW C hP hS (by subst eq3; first | (simp only [itI, inI, h1, eq_true h2, eq_true h3, not_true_eq_false, not_false_eq_true, and_true, true_and, and_false, false_and, or_true, true_or, or_false, false_or, if_true, if_false, ne_eq, reduceIte]; done) | (exfalso; omega)) dX4_item_109
    · refine r_lload_n C dX4_item_30 rfl (lv_at hl 0 rfl) ?_
      refine r_ldc2 C (13360) kl_X4_266 (by decide) dX4_item_31 ?_
      refine r_lcmp_ne C (tgt := 59) dX4_item_34 dX4_item_35 (by decide) (by have := wrd_rg tp ta (fr, to, va, iw); exact ⟨by omega, by omega⟩) ⟨by decide, by decide⟩ (fun h4 => ?_) (fun h4 => ?_)
      · refine r_aload_n C dX4_item_59 rfl (lv_at hl 2 rfl) ?_
        refine r_lload_n C dX4_item_60 rfl (lv_at hl 0 rfl) ?_
        refine r_ldc2 C (316784037) kl_X4_271 (by decide) dX4_item_61 ?_
        refine r_lcmp_ne C (tgt := 72) dX4_item_64 dX4_item_65 (by decide) (by have := wrd_rg tp ta (fr, to, va, iw); exact ⟨by omega, by omega⟩) ⟨by decide, by decide⟩ (fun h5 => ?_) (fun h5 => ?_)
        · refine r_iconst C dX4_item_72 ?_
          obtain ⟨q5, eq5⟩ : ∃ q : PS, q = mstP tp ta 0 (fr, to, va, iw) := ⟨_, rfl⟩
          have iq5 : PI tp ta q5 := eq5 ▸ (pi_mst hq 0)
          have jq51 := iq5.1
          have jq54 := iq5.2.2.2.1
          have jq55 := iq5.2.2.2.2
          refine r_cVW1 C m_X4_214 (cM_must (by omega) (by omega) hq htp) hP hD hS [0, 1, 2, 3, 4, 5, 6, 7, 8, 9, 10, 11] (wM a k s kp ot sd st sp tp bi si nu mo ik dl tl ta q5.1 q5.2.1 q5.2.2.1 q5.2.2.2) rfl rfl rfl (by rw [eq5]; rfl) (wM_ad.trans wM_ad.symm) rfl rfl hl.1 dX4_item_73 (fun H locs hP hD hS => ?_)
          refine r_aload_n C dX4_item_76 rfl (lv_at hl 2 rfl) ?_
          refine r_iconst C dX4_item_77 ?_
          refine r_bipush C dX4_item_78 (by decide) ?_
          obtain ⟨q6, eq6⟩ : ∃ q : PS, q = numP tp ta 0 20 q5 := ⟨_, rfl⟩
          have iq6 : PI tp ta q6 := eq6 ▸ (pi_num iq5 0 20)
          have jq61 := iq6.1
          have jq64 := iq6.2.2.2.1
          have jq65 := iq6.2.2.2.2
          refine r_cVW2 C m_X4_248 (cM_number ⟨by decide, by decide⟩ ⟨by decide, by decide⟩ iq5 htp) hP hD hS [0, 1, 2, 3, 4, 5, 6, 7, 8, 9, 10, 11] (wM a k s kp ot sd st sp tp bi si nu mo ik dl tl ta q6.1 q6.2.1 q6.2.2.1 q6.2.2.2) rfl rfl rfl (by rw [eq6]; rfl) (wM_ad.trans wM_ad.symm) rfl rfl hl.1 dX4_item_80 (fun H locs hP hD hS => ?_)
          refine r_aload_n C dX4_item_83 rfl (lv_at hl 2 rfl) ?_
          refine g_X4_7 C hP 0 rfl rfl dX4_item_84 ?_
          refine r_iconst C dX4_item_87 ?_
          refine r_aload_n C dX4_item_88 rfl (lv_at hl 2 rfl) ?_
          refine g_X4_200 C hP 0 rfl rfl dX4_item_89 ?_
          refine r_if_eq C (tgt := 104) dX4_item_92 (by decide) (by exact ⟨by omega, by omega⟩) (fun h6 => ?_) (fun h6 => ?_)
          · refine r_aload_n C dX4_item_104 rfl (lv_at hl 2 rfl) ?_
            refine g_X4_211 C hP 0 rfl rfl dX4_item_105 ?_
            refine r_iast C hP hD hS 1 (wM a k (up s 2 q6.2.2.1) kp ot sd st sp tp bi si nu mo ik dl tl ta q6.1 q6.2.1 q6.2.2.1 q6.2.2.2) rfl dX4_item_108 (by omega) (by omega) (by decide) rfl (fun H locs hP hD hS => ?_)
            exact r_vretW C hP hS (by subst eq6; subst eq5; first | (simp only [itI, inI, h1, h2, h4, h5, eq_true h6, not_true_eq_false, not_false_eq_true, and_true, true_and, and_false, false_and, or_true, true_or, or_false, false_or, if_true, if_false, ne_eq, reduceIte]; done) | (exfalso; omega)) dX4_item_109
          · refine r_aload_n C dX4_item_95 rfl (lv_at hl 2 rfl) ?_
            refine g_X4_7 C hP 0 rfl rfl dX4_item_96 ?_
            refine r_iconst C dX4_item_99 ?_
            refine r_iald C hP 1 rfl dX4_item_100 (by omega) (by omega) (by decide) ?_
            refine r_goto C (tgt := 108) dX4_item_101 (by decide) ?_
            refine r_iast C hP hD hS 1 (wM a k (up s 2 (s (2))) kp ot sd st sp tp bi si nu mo ik dl tl ta q6.1 q6.2.1 q6.2.2.1 q6.2.2.2) rfl dX4_item_108 (by omega) (by omega) (by decide) rfl (fun H locs hP hD hS => ?_)
            exact r_vretW C hP hS (by subst eq6; subst eq5; first | (simp only [itI, inI, h1, h2, h4, h5, h6, not_true_eq_false, not_false_eq_true, and_true, true_and, and_false, false_and, or_true, true_or, or_false, false_or, if_true, if_false, ne_eq, reduceIte]; done) | (exfalso; omega)) dX4_item_109
        · refine r_iconst C dX4_item_68 ?_
          refine r_goto C (tgt := 73) dX4_item_69 (by decide) ?_
          obtain ⟨q7, eq7⟩ : ∃ q : PS, q = mstP tp ta 1 (fr, to, va, iw) := ⟨_, rfl⟩
          have iq7 : PI tp ta q7 := eq7 ▸ (pi_mst hq 1)
          have jq71 := iq7.1
          have jq74 := iq7.2.2.2.1
          have jq75 := iq7.2.2.2.2
          refine r_cVW1 C m_X4_214 (cM_must (by omega) (by omega) hq htp) hP hD hS [0, 1, 2, 3, 4, 5, 6, 7, 8, 9, 10, 11] (wM a k s kp ot sd st sp tp bi si nu mo ik dl tl ta q7.1 q7.2.1 q7.2.2.1 q7.2.2.2) rfl rfl rfl (by rw [eq7]; rfl) (wM_ad.trans wM_ad.symm) rfl rfl hl.1 dX4_item_73 (fun H locs hP hD hS => ?_)
          refine r_aload_n C dX4_item_76 rfl (lv_at hl 2 rfl) ?_
          refine r_iconst C dX4_item_77 ?_
          refine r_bipush C dX4_item_78 (by decide) ?_
          obtain ⟨q8, eq8⟩ : ∃ q : PS, q = numP tp ta 0 20 q7 := ⟨_, rfl⟩
          have iq8 : PI tp ta q8 := eq8 ▸ (pi_num iq7 0 20)
          have jq81 := iq8.1
          have jq84 := iq8.2.2.2.1
          have jq85 := iq8.2.2.2.2
          refine r_cVW2 C m_X4_248 (cM_number ⟨by decide, by decide⟩ ⟨by decide, by decide⟩ iq7 htp) hP hD hS [0, 1, 2, 3, 4, 5, 6, 7, 8, 9, 10, 11] (wM a k s kp ot sd st sp tp bi si nu mo ik dl tl ta q8.1 q8.2.1 q8.2.2.1 q8.2.2.2) rfl rfl rfl (by rw [eq8]; rfl) (wM_ad.trans wM_ad.symm) rfl rfl hl.1 dX4_item_80 (fun H locs hP hD hS => ?_)
          refine r_aload_n C dX4_item_83 rfl (lv_at hl 2 rfl) ?_
          refine g_X4_7 C hP 0 rfl rfl dX4_item_84 ?_
          refine r_iconst C dX4_item_87 ?_
          refine r_aload_n C dX4_item_88 rfl (lv_at hl 2 rfl) ?_
          refine g_X4_200 C hP 0 rfl rfl dX4_item_89 ?_
          refine r_if_eq C (tgt := 104) dX4_item_92 (by decide) (by exact ⟨by omega, by omega⟩) (fun h7 => ?_) (fun h7 => ?_)
          · refine r_aload_n C dX4_item_104 rfl (lv_at hl 2 rfl) ?_
            refine g_X4_211 C hP 0 rfl rfl dX4_item_105 ?_
            refine r_iast C hP hD hS 1 (wM a k (up s 2 q8.2.2.1) kp ot sd st sp tp bi si nu mo ik dl tl ta q8.1 q8.2.1 q8.2.2.1 q8.2.2.2) rfl dX4_item_108 (by omega) (by omega) (by decide) rfl (fun H locs hP hD hS => ?_)
            exact r_vretW C hP hS (by subst eq8; subst eq7; first | (simp only [itI, inI, h1, h2, h4, eq_true h5, eq_true h7, not_true_eq_false, not_false_eq_true, and_true, true_and, and_false, false_and, or_true, true_or, or_false, false_or, if_true, if_false, ne_eq, reduceIte]; done) | (exfalso; omega)) dX4_item_109
          · refine r_aload_n C dX4_item_95 rfl (lv_at hl 2 rfl) ?_
            refine g_X4_7 C hP 0 rfl rfl dX4_item_96 ?_
            refine r_iconst C dX4_item_99 ?_
            refine r_iald C hP 1 rfl dX4_item_100 (by omega) (by omega) (by decide) ?_
            refine r_goto C (tgt := 108) dX4_item_101 (by decide) ?_
            refine r_iast C hP hD hS 1 (wM a k (up s 2 (s (2))) kp ot sd st sp tp bi si nu mo ik dl tl ta q8.1 q8.2.1 q8.2.2.1 q8.2.2.2) rfl dX4_item_108 (by omega) (by omega) (by decide) rfl (fun H locs hP hD hS => ?_)
            exact r_vretW C hP hS (by subst eq8; subst eq7; first | (simp only [itI, inI, h1, h2, h4, eq_true h5, h7, not_true_eq_false, not_false_eq_true, and_true, true_and, and_false, false_and, or_true, true_or, or_false, false_or, if_true, if_false, ne_eq, reduceIte]; done) | (exfalso; omega)) dX4_item_109
      · refine r_aload_n C dX4_item_38 rfl (lv_at hl 2 rfl) ?_
        refine r_lload_n C dX4_item_39 rfl (lv_at hl 0 rfl) ?_
        refine r_ldc2 C (394692) kl_X4_264 (by decide) dX4_item_40 ?_
        refine r_lcmp_ne C (tgt := 51) dX4_item_43 dX4_item_44 (by decide) (by have := wrd_rg tp ta (fr, to, va, iw); exact ⟨by omega, by omega⟩) ⟨by decide, by decide⟩ (fun h8 => ?_) (fun h8 => ?_)
        · refine r_bipush C dX4_item_51 (by decide) ?_
          obtain ⟨q9, eq9⟩ : ∃ q : PS, q = (clI tp ta 51 s (fr, to, va, iw)).2 := ⟨_, rfl⟩
          have iq9 : PI tp ta q9 := eq9 ▸ (pi_clI hq)
          have jq91 := iq9.1
          have jq94 := iq9.2.2.2.1
          have jq95 := iq9.2.2.2.2
          refine r_cVW1 C m_X4_268 (cM_cellsItem (by omega) hs hq htp) hP hD hS [0, 1, 2, 3, 4, 5, 6, 7, 8, 9, 10, 11] (wM a k ((clI tp ta 51 s (fr, to, va, iw)).1) kp ot sd st sp tp bi si nu mo ik dl tl ta q9.1 q9.2.1 q9.2.2.1 q9.2.2.2) rfl rfl rfl (by rw [eq9]; rfl) (wM_ad.trans wM_ad.symm) rfl rfl hl.1 dX4_item_53 (fun H locs hP hD hS => ?_)
          have hs10 : Ok ((clI tp ta 51 s (fr, to, va, iw)).1) := (ok_clI hs (by omega))
          refine r_goto C (tgt := 109) dX4_item_56 (by decide) ?_
          exact r_vretW C hP hS (by subst eq9; first | (simp only [itI, inI, h1, h2, eq_true h4, h8, not_true_eq_false, not_false_eq_true, and_true, true_and, and_false, false_and, or_true, true_or, or_false, false_or, if_true, if_false, ne_eq, reduceIte]; done) | (exfalso; omega)) dX4_item_109
        · refine r_iconst C dX4_item_47 ?_
          refine r_goto C (tgt := 53) dX4_item_48 (by decide) ?_
          obtain ⟨q11, eq11⟩ : ∃ q : PS, q = (clI tp ta 3 s (fr, to, va, iw)).2 := ⟨_, rfl⟩
          have iq11 : PI tp ta q11 := eq11 ▸ (pi_clI hq)
          have jq111 := iq11.1
          have jq114 := iq11.2.2.2.1
          have jq115 := iq11.2.2.2.2
          refine r_cVW1 C m_X4_268 (cM_cellsItem (by omega) hs hq htp) hP hD hS [0, 1, 2, 3, 4, 5, 6, 7, 8, 9, 10, 11] (wM a k ((clI tp ta 3 s (fr, to, va, iw)).1) kp ot sd st sp tp bi si nu mo ik dl tl ta q11.1 q11.2.1 q11.2.2.1 q11.2.2.2) rfl rfl rfl (by rw [eq11]; rfl) (wM_ad.trans wM_ad.symm) rfl rfl hl.1 dX4_item_53 (fun H locs hP hD hS => ?_)
          have hs12 : Ok ((clI tp ta 3 s (fr, to, va, iw)).1) := (ok_clI hs (by omega))
          refine r_goto C (tgt := 109) dX4_item_56 (by decide) ?_
          exact r_vretW C hP hS (by subst eq11; first | (simp only [itI, inI, h1, h2, eq_true h4, eq_true h8, not_true_eq_false, not_false_eq_true, and_true, true_and, and_false, false_and, or_true, true_or, or_false, false_or, if_true, if_false, ne_eq, reduceIte]; done) | (exfalso; omega)) dX4_item_109
  · refine r_aload_n C dX4_item_14 rfl (lv_at hl 2 rfl) ?_
    refine r_iload_n C dX4_item_15 rfl (lv_at hl 1 rfl) ?_
    obtain ⟨q13, eq13⟩ : ∃ q : PS, q = (mdI tp ta (kdH (wrd tp ta (fr, to, va, iw))) s (fr, to, va, iw)).2 := ⟨_, rfl⟩
    have iq13 : PI tp ta q13 := eq13 ▸ (pi_mdI hq)
    have jq131 := iq13.1
    have jq134 := iq13.2.2.2.1
    have jq135 := iq13.2.2.2.2
    refine r_cVW1 C m_X4_261 (cM_menderItem (by have := kdH_rg (wrd tp ta (fr, to, va, iw)); have := wrd_rg tp ta (fr, to, va, iw); omega) (by have := kdH_rg (wrd tp ta (fr, to, va, iw)); have := wrd_rg tp ta (fr, to, va, iw); omega) hs hq htp) hP hD hS [0, 1, 2, 3, 4, 5, 6, 7, 8, 9, 10, 11] (wM a k ((mdI tp ta (kdH (wrd tp ta (fr, to, va, iw))) s (fr, to, va, iw)).1) kp ot sd st sp tp bi si nu mo ik dl tl ta q13.1 q13.2.1 q13.2.2.1 q13.2.2.2) rfl rfl rfl (by rw [eq13]; rfl) (wM_ad.trans wM_ad.symm) rfl rfl hl.1 dX4_item_16 (fun H locs hP hD hS => ?_)
    have hs14 : Ok ((mdI tp ta (kdH (wrd tp ta (fr, to, va, iw))) s (fr, to, va, iw)).1) := (ok_mdI hq hs (by omega) (by omega))
    refine r_goto C (tgt := 109) dX4_item_19 (by decide) ?_
    exact r_vretW C hP hS (by subst eq13; first | (simp only [itI, inI, h1, not_true_eq_false, not_false_eq_true, and_true, true_and, and_false, false_and, or_true, true_or, or_false, false_or, if_true, if_false, ne_eq, reduceIte]; done) | (exfalso; omega)) dX4_item_109
set_option maxHeartbeats 4000000 in
set_option maxRecDepth 100000 in
theorem cM_map  (hs : Ok s) (htp : ∀ i, 0 ≤ tp i ∧ tp i ≤ 255) (hta : 0 ≤ ta ∧ ta ≤ 120) (hva : -2147483648 ≤ va ∧ va < 2147483647) : ME l yX4_map cX4_map 2 (some .int) 7 161 D k [.ref (a 0)] (wM a k s kp ot sd st sp tp bi si nu mo ik (-1) tl ta fr to va iw) (fun x : (Int → Int) × (Int → Int) × (Int → Int) × (Int → Int64) × Int × Int × Int × Int => wM a k ((fMap s tp ta va).2) kp x.1 x.2.1 st x.2.2.1 tp bi si nu x.2.2.2.1 ik (-1) x.2.2.2.2.1 0 x.2.2.2.2.2.1 x.2.2.2.2.2.2.1 ((mpR tp ta s (q0P tp ta va)).2.2.2.1) x.2.2.2.2.2.2.2) (some (.int (iI ((fMap s tp ta va).1)))) := by
  refine ME.mk RX4 rfl (by decide +kernel) (Nat.le_of_ble_eq_true rfl) (fun p e U m0 below meth cd ls C hP hD hS hl => ?_)
  have hl : lv_has ls 2 [(0, .ref (a 0))] := hl
  have h00 := hs.1 0 (by decide)
  have h06 := hs.2.2.1
  refine r_aload_n C dX4_map_0 rfl (lv_at hl 0 rfl) ?_
  refine r_cVW0 C m_X4_162 cM_saves hP hD hS [0, 1, 2, 3, 4, 5, 6, 7, 8, 9, 10, 11] (wM a k s kp (cpN s ot 123) sd st sp tp bi si nu mo ik (-1) tl ta fr to va iw) rfl rfl rfl rfl (wM_ad.trans wM_ad.symm) rfl rfl hl.1 dX4_map_1 (fun H locs hP hD hS => ?_)
  refine r_aload_n C dX4_map_4 rfl (lv_at hl 0 rfl) ?_
  refine r_iconst C dX4_map_5 ?_
  refine p_X4_200 C hP hD hS 0 (wM a k s kp (cpN s ot 123) sd st sp tp bi si nu mo ik (-1) tl ta fr to va 0) rfl (by decide) (by decide) (Nat.le_of_ble_eq_true rfl) rfl dX4_map_6 (fun H locs hP hD hS => ?_)
  refine r_aload_n C dX4_map_9 rfl (lv_at hl 0 rfl) ?_
  refine r_iconst C dX4_map_10 ?_
  refine p_X4_185 C hP hD hS 0 (wM a k s kp (cpN s ot 123) sd st sp tp bi si nu mo ik (-1) tl ta fr 0 va 0) rfl (Nat.le_of_ble_eq_true rfl) rfl dX4_map_11 (fun H locs hP hD hS => ?_)
  refine r_aload_n C dX4_map_14 rfl (lv_at hl 0 rfl) ?_
  refine r_cVW0 C m_X4_204 (cM_token (by omega) (by omega) (by omega) htp) hP hD hS [0, 1, 2, 3, 4, 5, 6, 7, 8, 9, 10, 11] (wM a k s kp (cpN s ot 123) sd st sp tp bi si nu mo ik (-1) tl ta (tkF tp ta 0) (tkT tp ta (tkF tp ta 0)) va 0) rfl rfl rfl rfl (wM_ad.trans wM_ad.symm) rfl rfl hl.1 dX4_map_15 (fun H locs hP hD hS => ?_)
  have hq0 : PI tp ta (q0P tp ta va) := pi_tok (by decide) (by omega) (by omega) ⟨by omega, by omega⟩
  refine r_iconst C dX4_map_18 ?_
  refine r_istore_n C [(1, .int (iI 1)), (0, .ref (a 0))] dX4_map_19 rfl hl (by decide) rfl (fun ls hl => ?_)
  refine r_aload_n C dX4_map_20 rfl (lv_at hl 1 rfl) ?_
  obtain ⟨q1, eq1⟩ : ∃ q : PS, q = (itI tp ta s (tkF tp ta 0, tkT tp ta (tkF tp ta 0), va, 0)).2 := ⟨_, rfl⟩
  have iq1 : PI tp ta q1 := eq1 ▸ (pi_itI hq0)
  have jq11 := iq1.1
  have jq14 := iq1.2.2.2.1
  have jq15 := iq1.2.2.2.2
  refine r_cVW0 C m_X4_273 (cM_item hs hq0 htp) hP hD hS [0, 1, 2, 3, 4, 5, 6, 7, 8, 9, 10, 11] (wM a k ((itI tp ta s (tkF tp ta 0, tkT tp ta (tkF tp ta 0), va, 0)).1) kp (cpN s ot 123) sd st sp tp bi si nu mo ik (-1) tl ta q1.1 q1.2.1 q1.2.2.1 q1.2.2.2) rfl rfl rfl (by rw [eq1]; rfl) (wM_ad.trans wM_ad.symm) rfl rfl hl.1 dX4_map_21 (fun H locs hP hD hS => ?_)
  have hs2 : Ok ((itI tp ta s (tkF tp ta 0, tkT tp ta (tkF tp ta 0), va, 0)).1) := (ok_itI hq0 hs)
  refine r_loopWJ (fun n : Nat => [(0, .ref (a 0)), (1, .int (iI (1 + n)))]) (fun n : Nat => wM a k ((mpN tp ta s (q0P tp ta va) n).1) kp (cpN s ot 123) sd st sp tp bi si nu mo ik (-1) tl ta ((mpN tp ta s (q0P tp ta va) n).2.1) ((mpN tp ta s (q0P tp ta va) n).2.2.1) ((mpN tp ta s (q0P tp ta va) n).2.2.2.1) ((mpN tp ta s (q0P tp ta va) n).2.2.2.2)) (121) (fun n : Nat => (∀ j : Nat, j < n → ¬ mpP tp ta s (q0P tp ta va) j) ∧ ((mpN tp ta s (q0P tp ta va) n).2.2.2.2 = 0 → ((n : Nat) : Int) ≤ (mpN tp ta s (q0P tp ta va) n).2.1)) ⟨fun j h => absurd h (Nat.not_lt_zero j), fun _ => (pi_mpN s hq0 0).1.1⟩ (lv_eq (lv_sub hl [1, 0] rfl) (by rw [show (1 : Int) + ((0 : Nat) : Int) = 1 by omega]; rfl)) (va_eq hP (by show _ = wM a k ((mpN tp ta s (q0P tp ta va) 0).1) kp (cpN s ot 123) sd st sp tp bi si nu mo ik (-1) tl ta ((mpN tp ta s (q0P tp ta va) 0).2.1) ((mpN tp ta s (q0P tp ta va) 0).2.2.1) ((mpN tp ta s (q0P tp ta va) 0).2.2.2.1) ((mpN tp ta s (q0P tp ta va) 0).2.2.2.2); rw [eq1, mpN])) (va_eqD hD (by show _ = wM a k ((mpN tp ta s (q0P tp ta va) 0).1) kp (cpN s ot 123) sd st sp tp bi si nu mo ik (-1) tl ta ((mpN tp ta s (q0P tp ta va) 0).2.1) ((mpN tp ta s (q0P tp ta va) 0).2.2.1) ((mpN tp ta s (q0P tp ta va) 0).2.2.2.1) ((mpN tp ta s (q0P tp ta va) 0).2.2.2.2); rw [eq1, mpN])) hS (fun n hn ihn hJn ls H locs hl hP hD hS => ?_) (fun hJn ls H locs hl hP hD hS => ?_)
  · have hl : lv_has ls 2 [(0, .ref (a 0)), (1, .int (iI (1 + n)))] := hl
    have hP : va_P D vwCl (wM a k ((mpN tp ta s (q0P tp ta va) n).1) kp (cpN s ot 123) sd st sp tp bi si nu mo ik (-1) tl ta ((mpN tp ta s (q0P tp ta va) n).2.1) ((mpN tp ta s (q0P tp ta va) n).2.2.1) ((mpN tp ta s (q0P tp ta va) n).2.2.2.1) ((mpN tp ta s (q0P tp ta va) n).2.2.2.2)) H := hP
    have hD : va_D _ (wM a k ((mpN tp ta s (q0P tp ta va) n).1) kp (cpN s ot 123) sd st sp tp bi si nu mo ik (-1) tl ta ((mpN tp ta s (q0P tp ta va) n).2.1) ((mpN tp ta s (q0P tp ta va) n).2.2.1) ((mpN tp ta s (q0P tp ta va) n).2.2.2.1) ((mpN tp ta s (q0P tp ta va) n).2.2.2.2)) := hD
    have hJn : (∀ j : Nat, j < n → ¬ mpP tp ta s (q0P tp ta va) j) ∧ ((mpN tp ta s (q0P tp ta va) n).2.2.2.2 = 0 → ((n : Nat) : Int) ≤ (mpN tp ta s (q0P tp ta va) n).2.1) := hJn
    obtain ⟨qq, eqq⟩ : ∃ q : PS, q = (mpN tp ta s (q0P tp ta va) n).2 := ⟨_, rfl⟩
    have iqq : PI tp ta qq := eqq ▸ pi_mpN s hq0 n
    have hsl : Ok (mpN tp ta s (q0P tp ta va) n).1 := ok_mpN hs hq0 n
    rw [← eqq] at hP hD
    have hJ2 := hJn.2
    rw [← eqq] at hJ2
    have jqq1 := iqq.1
    have jqq4 := iqq.2.2.2.1
    have jqq5 := iqq.2.2.2.2
    refine r_aload_n C dX4_map_24 rfl (lv_at hl 0 rfl) ?_
    refine g_X4_200 C hP 0 rfl rfl dX4_map_25 ?_
    refine r_if_ne C (tgt := 59) dX4_map_28 (by decide) (by exact ⟨by omega, by omega⟩) (fun h1 => ?_) (fun h1 => ?_)
    · refine r_aload_n C dX4_map_59 rfl (lv_at hl 0 rfl) ?_
      refine r_aload_n C dX4_map_60 rfl (lv_at hl 0 rfl) ?_
      refine g_X4_200 C hP 0 rfl rfl dX4_map_61 ?_
      refine r_if_ne C (tgt := 78) dX4_map_64 (by decide) (by exact ⟨by omega, by omega⟩) (fun h2 => ?_) (fun h2 => ?_)
      · refine r_iconst C dX4_map_78 ?_
        refine r_goto C (tgt := 83) dX4_map_79 (by decide) ?_
        refine p_X4_200 C hP hD hS 0 (wM a k ((mpN tp ta s (q0P tp ta va) n).1) kp (cpN s ot 123) sd st sp tp bi si nu mo ik (-1) tl ta qq.1 qq.2.1 qq.2.2.1 1) rfl (by decide) (by decide) (Nat.le_of_ble_eq_true rfl) rfl dX4_map_83 (fun H locs hP hD hS => ?_)
        refine r_aload_n C dX4_map_86 rfl (lv_at hl 0 rfl) ?_
        refine g_X4_200 C hP 0 rfl rfl dX4_map_87 ?_
        refine r_if_eq C (tgt := 97) dX4_map_90 (by decide) ⟨by decide, by decide⟩ (fun h3 => ?_) (fun h3 => ?_)
        · exact absurd h3 (by decide)
        · refine r_aload_n C dX4_map_93 rfl (lv_at hl 0 rfl) ?_
          refine r_cVW0 C m_X4_165 (cM_putsBack2 hs.2.1 hsl.2.1) hP hD hS [0, 1, 2, 3, 4, 5, 6, 7, 8, 9, 10, 11] (wM a k s kp (cpN s ot 123) sd st sp tp bi si nu mo ik (-1) tl ta qq.1 qq.2.1 qq.2.2.1 1) rfl rfl rfl rfl (wM_ad.trans wM_ad.symm) rfl rfl hl.1 dX4_map_94 (fun H locs hP hD hS => ?_)
          refine r_aload_n C dX4_map_97 rfl (lv_at hl 0 rfl) ?_
          refine r_iconst C dX4_map_98 ?_
          refine p_X4_174 C hP hD hS 0 (wM a k s kp (cpN s ot 123) sd st sp tp bi si nu mo ik (-1) tl 0 qq.1 qq.2.1 qq.2.2.1 1) rfl (Nat.le_of_ble_eq_true rfl) rfl dX4_map_99 (fun H locs hP hD hS => ?_)
          refine r_aload_n C dX4_map_102 rfl (lv_at hl 0 rfl) ?_
          refine g_X4_200 C hP 0 rfl rfl dX4_map_103 ?_
          refine r_if_eq C (tgt := 118) dX4_map_106 (by decide) ⟨by decide, by decide⟩ (fun h4 => ?_) (fun h4 => ?_)
          · exact absurd h4 (by decide)
          · refine r_iconst C dX4_map_109 ?_
            refine r_aload_n C dX4_map_110 rfl (lv_at hl 0 rfl) ?_
            refine g_X4_188 C hP 0 rfl rfl dX4_map_111 ?_
            refine r_isub C dX4_map_114 ?_
            refine r_goto C (tgt := 119) dX4_map_115 (by decide) ?_
            exact r_iretE C hP hS (cpN s ot 123, sd, sp, mo, tl, qq.1, qq.2.1, 1) (by first | (simp only [fMap, mpR, mpF, fst0_yes (p := mpP tp ta s (q0P tp ta va)) (show mpP tp ta s (q0P tp ta va) n by unfold mpP; rw [← eqq]; omega) hJn.1 (n := 121) (by omega), ← eqq, h1, h2, h3, h4, not_true_eq_false, not_false_eq_true, and_true, true_and, and_false, false_and, or_true, true_or, or_false, false_or, if_true, if_false, ne_eq, reduceIte]; done) | (exfalso; omega)) (by first | (simp only [fMap, mpR, mpF, fst0_yes (p := mpP tp ta s (q0P tp ta va)) (show mpP tp ta s (q0P tp ta va) n by unfold mpP; rw [← eqq]; omega) hJn.1 (n := 121) (by omega), ← eqq, h1, h2, h3, h4, not_true_eq_false, not_false_eq_true, and_true, true_and, and_false, false_and, or_true, true_or, or_false, false_or, if_true, if_false, ne_eq, reduceIte]; done) | (exfalso; omega)) dX4_map_119
      · refine r_aload_n C dX4_map_67 rfl (lv_at hl 0 rfl) ?_
        refine g_X4_188 C hP 0 rfl rfl dX4_map_68 ?_
        refine r_aload_n C dX4_map_71 rfl (lv_at hl 0 rfl) ?_
        refine g_X4_174 C hP 0 rfl rfl dX4_map_72 ?_
        refine r_icmp_ge C (tgt := 82) dX4_map_75 (by decide) (by exact ⟨by omega, by omega⟩) (by exact ⟨by omega, by omega⟩) (fun h5 => ?_) (fun h5 => ?_)
        · refine r_iconst C dX4_map_82 ?_
          refine p_X4_200 C hP hD hS 0 (wM a k ((mpN tp ta s (q0P tp ta va) n).1) kp (cpN s ot 123) sd st sp tp bi si nu mo ik (-1) tl ta qq.1 qq.2.1 qq.2.2.1 0) rfl (by decide) (by decide) (Nat.le_of_ble_eq_true rfl) rfl dX4_map_83 (fun H locs hP hD hS => ?_)
          refine r_aload_n C dX4_map_86 rfl (lv_at hl 0 rfl) ?_
          refine g_X4_200 C hP 0 rfl rfl dX4_map_87 ?_
          refine r_if_eq C (tgt := 97) dX4_map_90 (by decide) ⟨by decide, by decide⟩ (fun h6 => ?_) (fun h6 => ?_)
          · refine r_aload_n C dX4_map_97 rfl (lv_at hl 0 rfl) ?_
            refine r_iconst C dX4_map_98 ?_
            refine p_X4_174 C hP hD hS 0 (wM a k ((mpN tp ta s (q0P tp ta va) n).1) kp (cpN s ot 123) sd st sp tp bi si nu mo ik (-1) tl 0 qq.1 qq.2.1 qq.2.2.1 0) rfl (Nat.le_of_ble_eq_true rfl) rfl dX4_map_99 (fun H locs hP hD hS => ?_)
            refine r_aload_n C dX4_map_102 rfl (lv_at hl 0 rfl) ?_
            refine g_X4_200 C hP 0 rfl rfl dX4_map_103 ?_
            refine r_if_eq C (tgt := 118) dX4_map_106 (by decide) ⟨by decide, by decide⟩ (fun h7 => ?_) (fun h7 => ?_)
            · refine r_iload_n C dX4_map_118 rfl (lv_at hl 1 rfl) ?_
              exact r_iretE C hP hS (cpN s ot 123, sd, sp, mo, tl, qq.1, qq.2.1, 0) (by first | (simp only [fMap, mpR, mpF, fst0_yes (p := mpP tp ta s (q0P tp ta va)) (show mpP tp ta s (q0P tp ta va) n by unfold mpP; rw [← eqq]; omega) hJn.1 (n := 121) (by omega), ← eqq, h1, eq_true h2, h5, eq_true h6, eq_true h7, not_true_eq_false, not_false_eq_true, and_true, true_and, and_false, false_and, or_true, true_or, or_false, false_or, if_true, if_false, ne_eq, reduceIte]; done) | (exfalso; omega)) (by first | (simp only [fMap, mpR, mpF, fst0_yes (p := mpP tp ta s (q0P tp ta va)) (show mpP tp ta s (q0P tp ta va) n by unfold mpP; rw [← eqq]; omega) hJn.1 (n := 121) (by omega), ← eqq, h1, eq_true h2, h5, eq_true h6, eq_true h7, not_true_eq_false, not_false_eq_true, and_true, true_and, and_false, false_and, or_true, true_or, or_false, false_or, if_true, if_false, ne_eq, reduceIte]; done) | (exfalso; omega)) dX4_map_119
            · exact absurd h7 (by decide)
          · exact absurd h6 (by decide)
        · refine r_iconst C dX4_map_78 ?_
          refine r_goto C (tgt := 83) dX4_map_79 (by decide) ?_
          refine p_X4_200 C hP hD hS 0 (wM a k ((mpN tp ta s (q0P tp ta va) n).1) kp (cpN s ot 123) sd st sp tp bi si nu mo ik (-1) tl ta qq.1 qq.2.1 qq.2.2.1 1) rfl (by decide) (by decide) (Nat.le_of_ble_eq_true rfl) rfl dX4_map_83 (fun H locs hP hD hS => ?_)
          refine r_aload_n C dX4_map_86 rfl (lv_at hl 0 rfl) ?_
          refine g_X4_200 C hP 0 rfl rfl dX4_map_87 ?_
          refine r_if_eq C (tgt := 97) dX4_map_90 (by decide) ⟨by decide, by decide⟩ (fun h8 => ?_) (fun h8 => ?_)
          · exact absurd h8 (by decide)
          · refine r_aload_n C dX4_map_93 rfl (lv_at hl 0 rfl) ?_
            refine r_cVW0 C m_X4_165 (cM_putsBack2 hs.2.1 hsl.2.1) hP hD hS [0, 1, 2, 3, 4, 5, 6, 7, 8, 9, 10, 11] (wM a k s kp (cpN s ot 123) sd st sp tp bi si nu mo ik (-1) tl ta qq.1 qq.2.1 qq.2.2.1 1) rfl rfl rfl rfl (wM_ad.trans wM_ad.symm) rfl rfl hl.1 dX4_map_94 (fun H locs hP hD hS => ?_)
            refine r_aload_n C dX4_map_97 rfl (lv_at hl 0 rfl) ?_
            refine r_iconst C dX4_map_98 ?_
            refine p_X4_174 C hP hD hS 0 (wM a k s kp (cpN s ot 123) sd st sp tp bi si nu mo ik (-1) tl 0 qq.1 qq.2.1 qq.2.2.1 1) rfl (Nat.le_of_ble_eq_true rfl) rfl dX4_map_99 (fun H locs hP hD hS => ?_)
            refine r_aload_n C dX4_map_102 rfl (lv_at hl 0 rfl) ?_
            refine g_X4_200 C hP 0 rfl rfl dX4_map_103 ?_
            refine r_if_eq C (tgt := 118) dX4_map_106 (by decide) ⟨by decide, by decide⟩ (fun h9 => ?_) (fun h9 => ?_)
            · exact absurd h9 (by decide)
            · refine r_iconst C dX4_map_109 ?_
              refine r_aload_n C dX4_map_110 rfl (lv_at hl 0 rfl) ?_
              refine g_X4_188 C hP 0 rfl rfl dX4_map_111 ?_
              refine r_isub C dX4_map_114 ?_
              refine r_goto C (tgt := 119) dX4_map_115 (by decide) ?_
              exact r_iretE C hP hS (cpN s ot 123, sd, sp, mo, tl, qq.1, qq.2.1, 1) (by first | (simp only [fMap, mpR, mpF, fst0_yes (p := mpP tp ta s (q0P tp ta va)) (show mpP tp ta s (q0P tp ta va) n by unfold mpP; rw [← eqq]; omega) hJn.1 (n := 121) (by omega), ← eqq, h1, eq_true h2, h5, h8, h9, not_true_eq_false, not_false_eq_true, and_true, true_and, and_false, false_and, or_true, true_or, or_false, false_or, if_true, if_false, ne_eq, reduceIte]; done) | (exfalso; omega)) (by first | (simp only [fMap, mpR, mpF, fst0_yes (p := mpP tp ta s (q0P tp ta va)) (show mpP tp ta s (q0P tp ta va) n by unfold mpP; rw [← eqq]; omega) hJn.1 (n := 121) (by omega), ← eqq, h1, eq_true h2, h5, h8, h9, not_true_eq_false, not_false_eq_true, and_true, true_and, and_false, false_and, or_true, true_or, or_false, false_or, if_true, if_false, ne_eq, reduceIte]; done) | (exfalso; omega)) dX4_map_119
    · refine r_aload_n C dX4_map_31 rfl (lv_at hl 0 rfl) ?_
      refine r_aload_n C dX4_map_32 rfl (lv_at hl 0 rfl) ?_
      refine g_X4_188 C hP 0 rfl rfl dX4_map_33 ?_
      refine r_cVR1 C m_X4_191 (cM_byteAt (by omega) (by omega) (by omega) (by omega) htp) hP rfl rfl hl.1 dX4_map_36 ?_
      refine r_bipush C dX4_map_39 (by decide) ?_
      refine r_icmp_ne C (tgt := 59) dX4_map_41 (by decide) (by have := bAt_rg htp ta qq.1; exact ⟨by omega, by omega⟩) ⟨by decide, by decide⟩ (fun h10 => ?_) (fun h10 => ?_)
      · refine r_aload_n C dX4_map_59 rfl (lv_at hl 0 rfl) ?_
        refine r_aload_n C dX4_map_60 rfl (lv_at hl 0 rfl) ?_
        refine g_X4_200 C hP 0 rfl rfl dX4_map_61 ?_
        refine r_if_ne C (tgt := 78) dX4_map_64 (by decide) (by exact ⟨by omega, by omega⟩) (fun h11 => ?_) (fun h11 => ?_)
        · refine r_iconst C dX4_map_78 ?_
          refine r_goto C (tgt := 83) dX4_map_79 (by decide) ?_
          refine p_X4_200 C hP hD hS 0 (wM a k ((mpN tp ta s (q0P tp ta va) n).1) kp (cpN s ot 123) sd st sp tp bi si nu mo ik (-1) tl ta qq.1 qq.2.1 qq.2.2.1 1) rfl (by decide) (by decide) (Nat.le_of_ble_eq_true rfl) rfl dX4_map_83 (fun H locs hP hD hS => ?_)
          refine r_aload_n C dX4_map_86 rfl (lv_at hl 0 rfl) ?_
          refine g_X4_200 C hP 0 rfl rfl dX4_map_87 ?_
          refine r_if_eq C (tgt := 97) dX4_map_90 (by decide) ⟨by decide, by decide⟩ (fun h12 => ?_) (fun h12 => ?_)
          · exact absurd h12 (by decide)
          · refine r_aload_n C dX4_map_93 rfl (lv_at hl 0 rfl) ?_
            refine r_cVW0 C m_X4_165 (cM_putsBack2 hs.2.1 hsl.2.1) hP hD hS [0, 1, 2, 3, 4, 5, 6, 7, 8, 9, 10, 11] (wM a k s kp (cpN s ot 123) sd st sp tp bi si nu mo ik (-1) tl ta qq.1 qq.2.1 qq.2.2.1 1) rfl rfl rfl rfl (wM_ad.trans wM_ad.symm) rfl rfl hl.1 dX4_map_94 (fun H locs hP hD hS => ?_)
            refine r_aload_n C dX4_map_97 rfl (lv_at hl 0 rfl) ?_
            refine r_iconst C dX4_map_98 ?_
            refine p_X4_174 C hP hD hS 0 (wM a k s kp (cpN s ot 123) sd st sp tp bi si nu mo ik (-1) tl 0 qq.1 qq.2.1 qq.2.2.1 1) rfl (Nat.le_of_ble_eq_true rfl) rfl dX4_map_99 (fun H locs hP hD hS => ?_)
            refine r_aload_n C dX4_map_102 rfl (lv_at hl 0 rfl) ?_
            refine g_X4_200 C hP 0 rfl rfl dX4_map_103 ?_
            refine r_if_eq C (tgt := 118) dX4_map_106 (by decide) ⟨by decide, by decide⟩ (fun h13 => ?_) (fun h13 => ?_)
            · exact absurd h13 (by decide)
            · refine r_iconst C dX4_map_109 ?_
              refine r_aload_n C dX4_map_110 rfl (lv_at hl 0 rfl) ?_
              refine g_X4_188 C hP 0 rfl rfl dX4_map_111 ?_
              refine r_isub C dX4_map_114 ?_
              refine r_goto C (tgt := 119) dX4_map_115 (by decide) ?_
              exact r_iretE C hP hS (cpN s ot 123, sd, sp, mo, tl, qq.1, qq.2.1, 1) (by first | (simp only [fMap, mpR, mpF, fst0_yes (p := mpP tp ta s (q0P tp ta va)) (show mpP tp ta s (q0P tp ta va) n by unfold mpP; rw [← eqq]; omega) hJn.1 (n := 121) (by omega), ← eqq, eq_true h1, h10, h11, h12, h13, not_true_eq_false, not_false_eq_true, and_true, true_and, and_false, false_and, or_true, true_or, or_false, false_or, if_true, if_false, ne_eq, reduceIte]; done) | (exfalso; omega)) (by first | (simp only [fMap, mpR, mpF, fst0_yes (p := mpP tp ta s (q0P tp ta va)) (show mpP tp ta s (q0P tp ta va) n by unfold mpP; rw [← eqq]; omega) hJn.1 (n := 121) (by omega), ← eqq, eq_true h1, h10, h11, h12, h13, not_true_eq_false, not_false_eq_true, and_true, true_and, and_false, false_and, or_true, true_or, or_false, false_or, if_true, if_false, ne_eq, reduceIte]; done) | (exfalso; omega)) dX4_map_119
        · refine r_aload_n C dX4_map_67 rfl (lv_at hl 0 rfl) ?_
          refine g_X4_188 C hP 0 rfl rfl dX4_map_68 ?_
          refine r_aload_n C dX4_map_71 rfl (lv_at hl 0 rfl) ?_
          refine g_X4_174 C hP 0 rfl rfl dX4_map_72 ?_
          refine r_icmp_ge C (tgt := 82) dX4_map_75 (by decide) (by exact ⟨by omega, by omega⟩) (by exact ⟨by omega, by omega⟩) (fun h14 => ?_) (fun h14 => ?_)
          · refine r_iconst C dX4_map_82 ?_
            refine p_X4_200 C hP hD hS 0 (wM a k ((mpN tp ta s (q0P tp ta va) n).1) kp (cpN s ot 123) sd st sp tp bi si nu mo ik (-1) tl ta qq.1 qq.2.1 qq.2.2.1 0) rfl (by decide) (by decide) (Nat.le_of_ble_eq_true rfl) rfl dX4_map_83 (fun H locs hP hD hS => ?_)
            refine r_aload_n C dX4_map_86 rfl (lv_at hl 0 rfl) ?_
            refine g_X4_200 C hP 0 rfl rfl dX4_map_87 ?_
            refine r_if_eq C (tgt := 97) dX4_map_90 (by decide) ⟨by decide, by decide⟩ (fun h15 => ?_) (fun h15 => ?_)
            · refine r_aload_n C dX4_map_97 rfl (lv_at hl 0 rfl) ?_
              refine r_iconst C dX4_map_98 ?_
              refine p_X4_174 C hP hD hS 0 (wM a k ((mpN tp ta s (q0P tp ta va) n).1) kp (cpN s ot 123) sd st sp tp bi si nu mo ik (-1) tl 0 qq.1 qq.2.1 qq.2.2.1 0) rfl (Nat.le_of_ble_eq_true rfl) rfl dX4_map_99 (fun H locs hP hD hS => ?_)
              refine r_aload_n C dX4_map_102 rfl (lv_at hl 0 rfl) ?_
              refine g_X4_200 C hP 0 rfl rfl dX4_map_103 ?_
              refine r_if_eq C (tgt := 118) dX4_map_106 (by decide) ⟨by decide, by decide⟩ (fun h16 => ?_) (fun h16 => ?_)
              · refine r_iload_n C dX4_map_118 rfl (lv_at hl 1 rfl) ?_
                exact r_iretE C hP hS (cpN s ot 123, sd, sp, mo, tl, qq.1, qq.2.1, 0) (by first | (simp only [fMap, mpR, mpF, fst0_yes (p := mpP tp ta s (q0P tp ta va)) (show mpP tp ta s (q0P tp ta va) n by unfold mpP; rw [← eqq]; omega) hJn.1 (n := 121) (by omega), ← eqq, eq_true h1, h10, eq_true h11, h14, eq_true h15, eq_true h16, not_true_eq_false, not_false_eq_true, and_true, true_and, and_false, false_and, or_true, true_or, or_false, false_or, if_true, if_false, ne_eq, reduceIte]; done) | (exfalso; omega)) (by first | (simp only [fMap, mpR, mpF, fst0_yes (p := mpP tp ta s (q0P tp ta va)) (show mpP tp ta s (q0P tp ta va) n by unfold mpP; rw [← eqq]; omega) hJn.1 (n := 121) (by omega), ← eqq, eq_true h1, h10, eq_true h11, h14, eq_true h15, eq_true h16, not_true_eq_false, not_false_eq_true, and_true, true_and, and_false, false_and, or_true, true_or, or_false, false_or, if_true, if_false, ne_eq, reduceIte]; done) | (exfalso; omega)) dX4_map_119
              · exact absurd h16 (by decide)
            · exact absurd h15 (by decide)
          · refine r_iconst C dX4_map_78 ?_
            refine r_goto C (tgt := 83) dX4_map_79 (by decide) ?_
            refine p_X4_200 C hP hD hS 0 (wM a k ((mpN tp ta s (q0P tp ta va) n).1) kp (cpN s ot 123) sd st sp tp bi si nu mo ik (-1) tl ta qq.1 qq.2.1 qq.2.2.1 1) rfl (by decide) (by decide) (Nat.le_of_ble_eq_true rfl) rfl dX4_map_83 (fun H locs hP hD hS => ?_)
            refine r_aload_n C dX4_map_86 rfl (lv_at hl 0 rfl) ?_
            refine g_X4_200 C hP 0 rfl rfl dX4_map_87 ?_
            refine r_if_eq C (tgt := 97) dX4_map_90 (by decide) ⟨by decide, by decide⟩ (fun h17 => ?_) (fun h17 => ?_)
            · exact absurd h17 (by decide)
            · refine r_aload_n C dX4_map_93 rfl (lv_at hl 0 rfl) ?_
              refine r_cVW0 C m_X4_165 (cM_putsBack2 hs.2.1 hsl.2.1) hP hD hS [0, 1, 2, 3, 4, 5, 6, 7, 8, 9, 10, 11] (wM a k s kp (cpN s ot 123) sd st sp tp bi si nu mo ik (-1) tl ta qq.1 qq.2.1 qq.2.2.1 1) rfl rfl rfl rfl (wM_ad.trans wM_ad.symm) rfl rfl hl.1 dX4_map_94 (fun H locs hP hD hS => ?_)
              refine r_aload_n C dX4_map_97 rfl (lv_at hl 0 rfl) ?_
              refine r_iconst C dX4_map_98 ?_
              refine p_X4_174 C hP hD hS 0 (wM a k s kp (cpN s ot 123) sd st sp tp bi si nu mo ik (-1) tl 0 qq.1 qq.2.1 qq.2.2.1 1) rfl (Nat.le_of_ble_eq_true rfl) rfl dX4_map_99 (fun H locs hP hD hS => ?_)
              refine r_aload_n C dX4_map_102 rfl (lv_at hl 0 rfl) ?_
              refine g_X4_200 C hP 0 rfl rfl dX4_map_103 ?_
              refine r_if_eq C (tgt := 118) dX4_map_106 (by decide) ⟨by decide, by decide⟩ (fun h18 => ?_) (fun h18 => ?_)
              · exact absurd h18 (by decide)
              · refine r_iconst C dX4_map_109 ?_
                refine r_aload_n C dX4_map_110 rfl (lv_at hl 0 rfl) ?_
                refine g_X4_188 C hP 0 rfl rfl dX4_map_111 ?_
                refine r_isub C dX4_map_114 ?_
                refine r_goto C (tgt := 119) dX4_map_115 (by decide) ?_
                exact r_iretE C hP hS (cpN s ot 123, sd, sp, mo, tl, qq.1, qq.2.1, 1) (by first | (simp only [fMap, mpR, mpF, fst0_yes (p := mpP tp ta s (q0P tp ta va)) (show mpP tp ta s (q0P tp ta va) n by unfold mpP; rw [← eqq]; omega) hJn.1 (n := 121) (by omega), ← eqq, eq_true h1, h10, eq_true h11, h14, h17, h18, not_true_eq_false, not_false_eq_true, and_true, true_and, and_false, false_and, or_true, true_or, or_false, false_or, if_true, if_false, ne_eq, reduceIte]; done) | (exfalso; omega)) (by first | (simp only [fMap, mpR, mpF, fst0_yes (p := mpP tp ta s (q0P tp ta va)) (show mpP tp ta s (q0P tp ta va) n by unfold mpP; rw [← eqq]; omega) hJn.1 (n := 121) (by omega), ← eqq, eq_true h1, h10, eq_true h11, h14, h17, h18, not_true_eq_false, not_false_eq_true, and_true, true_and, and_false, false_and, or_true, true_or, or_false, false_or, if_true, if_false, ne_eq, reduceIte]; done) | (exfalso; omega)) dX4_map_119
      · refine r_aload_n C dX4_map_44 rfl (lv_at hl 0 rfl) ?_
        refine r_iconst C dX4_map_45 ?_
        obtain ⟨q3, eq3⟩ : ∃ q : PS, q = mstP tp ta 1 qq := ⟨_, rfl⟩
        have iq3 : PI tp ta q3 := eq3 ▸ (pi_mst iqq 1)
        have jq31 := iq3.1
        have jq34 := iq3.2.2.2.1
        have jq35 := iq3.2.2.2.2
        refine r_cVW1 C m_X4_214 (cM_must (by omega) (by omega) iqq htp) hP hD hS [0, 1, 2, 3, 4, 5, 6, 7, 8, 9, 10, 11] (wM a k ((mpN tp ta s (q0P tp ta va) n).1) kp (cpN s ot 123) sd st sp tp bi si nu mo ik (-1) tl ta q3.1 q3.2.1 q3.2.2.1 q3.2.2.2) rfl rfl rfl (by rw [eq3]; rfl) (wM_ad.trans wM_ad.symm) rfl rfl hl.1 dX4_map_46 (fun H locs hP hD hS => ?_)
        refine r_aload_n C dX4_map_49 rfl (lv_at hl 0 rfl) ?_
        obtain ⟨q4, eq4⟩ : ∃ q : PS, q = (itI tp ta ((mpN tp ta s (q0P tp ta va) n).1) q3).2 := ⟨_, rfl⟩
        have iq4 : PI tp ta q4 := eq4 ▸ (pi_itI iq3)
        have jq41 := iq4.1
        have jq44 := iq4.2.2.2.1
        have jq45 := iq4.2.2.2.2
        refine r_cVW0 C m_X4_273 (cM_item hsl iq3 htp) hP hD hS [0, 1, 2, 3, 4, 5, 6, 7, 8, 9, 10, 11] (wM a k ((itI tp ta ((mpN tp ta s (q0P tp ta va) n).1) q3).1) kp (cpN s ot 123) sd st sp tp bi si nu mo ik (-1) tl ta q4.1 q4.2.1 q4.2.2.1 q4.2.2.2) rfl rfl rfl (by rw [eq4]; rfl) (wM_ad.trans wM_ad.symm) rfl rfl hl.1 dX4_map_50 (fun H locs hP hD hS => ?_)
        have hs5 : Ok ((itI tp ta ((mpN tp ta s (q0P tp ta va) n).1) q3).1) := (ok_itI iq3 hsl)
        refine r_iinc C 1 [(1, .int (iI (1 + n + 1))), (0, .ref (a 0))] dX4_map_53 hl rfl (by decide) rfl (fun ls hl => ?_)
        refine r_goto C (tgt := 24) dX4_map_56 (by decide) ?_
        have hst := mp_step (s := (mpN tp ta s (q0P tp ta va) n).1) iqq h1 (bAt_lt h10)
        have hst2 : ((n + 1 : Nat) : Int) ≤ (mpN tp ta s (q0P tp ta va) (n + 1)).2.1 := by rw [mpN, ← eqq]; omega
        have ew6 : wM a k ((itI tp ta ((mpN tp ta s (q0P tp ta va) n).1) q3).1) kp (cpN s ot 123) sd st sp tp bi si nu mo ik (-1) tl ta q4.1 q4.2.1 q4.2.2.1 q4.2.2.2 = wM a k ((mpN tp ta s (q0P tp ta va) (n + 1)).1) kp (cpN s ot 123) sd st sp tp bi si nu mo ik (-1) tl ta ((mpN tp ta s (q0P tp ta va) (n + 1)).2.1) ((mpN tp ta s (q0P tp ta va) (n + 1)).2.2.1) ((mpN tp ta s (q0P tp ta va) (n + 1)).2.2.2.1) ((mpN tp ta s (q0P tp ta va) (n + 1)).2.2.2.2) := (by rw [eq4, eq3, eqq, mpN])
        exact ihn ⟨lt_s hJn.1 (fun q => q ⟨by rw [← eqq]; exact h1, by rw [← eqq]; exact h10⟩), fun _ => hst2⟩ ls H locs (lv_eq (lv_sub hl [1, 0] rfl) (by rw [show (1 : Int) + ((n + 1 : Nat) : Int) = 1 + n + 1 by omega]; rfl)) (va_eq hP ew6) (va_eqD hD ew6) hS
  · have hl : lv_has ls 2 [(0, .ref (a 0)), (1, .int (iI (1 + 121)))] := hl
    have hP : va_P D vwCl (wM a k ((mpN tp ta s (q0P tp ta va) 121).1) kp (cpN s ot 123) sd st sp tp bi si nu mo ik (-1) tl ta ((mpN tp ta s (q0P tp ta va) 121).2.1) ((mpN tp ta s (q0P tp ta va) 121).2.2.1) ((mpN tp ta s (q0P tp ta va) 121).2.2.2.1) ((mpN tp ta s (q0P tp ta va) 121).2.2.2.2)) H := hP
    have hD : va_D _ (wM a k ((mpN tp ta s (q0P tp ta va) 121).1) kp (cpN s ot 123) sd st sp tp bi si nu mo ik (-1) tl ta ((mpN tp ta s (q0P tp ta va) 121).2.1) ((mpN tp ta s (q0P tp ta va) 121).2.2.1) ((mpN tp ta s (q0P tp ta va) 121).2.2.2.1) ((mpN tp ta s (q0P tp ta va) 121).2.2.2.2)) := hD
    have hJn : (∀ j : Nat, j < 121 → ¬ mpP tp ta s (q0P tp ta va) j) ∧ ((mpN tp ta s (q0P tp ta va) 121).2.2.2.2 = 0 → ((121 : Nat) : Int) ≤ (mpN tp ta s (q0P tp ta va) 121).2.1) := hJn
    obtain ⟨qq, eqq⟩ : ∃ q : PS, q = (mpN tp ta s (q0P tp ta va) 121).2 := ⟨_, rfl⟩
    have iqq : PI tp ta qq := eqq ▸ pi_mpN s hq0 121
    have hsl : Ok (mpN tp ta s (q0P tp ta va) 121).1 := ok_mpN hs hq0 121
    rw [← eqq] at hP hD
    have hJ2 := hJn.2
    rw [← eqq] at hJ2
    have jqq1 := iqq.1
    have jqq4 := iqq.2.2.2.1
    have jqq5 := iqq.2.2.2.2
    refine r_aload_n C dX4_map_24 rfl (lv_at hl 0 rfl) ?_
    refine g_X4_200 C hP 0 rfl rfl dX4_map_25 ?_
    refine r_if_ne C (tgt := 59) dX4_map_28 (by decide) (by exact ⟨by omega, by omega⟩) (fun h19 => ?_) (fun h19 => ?_)
    · refine r_aload_n C dX4_map_59 rfl (lv_at hl 0 rfl) ?_
      refine r_aload_n C dX4_map_60 rfl (lv_at hl 0 rfl) ?_
      refine g_X4_200 C hP 0 rfl rfl dX4_map_61 ?_
      refine r_if_ne C (tgt := 78) dX4_map_64 (by decide) (by exact ⟨by omega, by omega⟩) (fun h20 => ?_) (fun h20 => ?_)
      · refine r_iconst C dX4_map_78 ?_
        refine r_goto C (tgt := 83) dX4_map_79 (by decide) ?_
        refine p_X4_200 C hP hD hS 0 (wM a k ((mpN tp ta s (q0P tp ta va) 121).1) kp (cpN s ot 123) sd st sp tp bi si nu mo ik (-1) tl ta qq.1 qq.2.1 qq.2.2.1 1) rfl (by decide) (by decide) (Nat.le_of_ble_eq_true rfl) rfl dX4_map_83 (fun H locs hP hD hS => ?_)
        refine r_aload_n C dX4_map_86 rfl (lv_at hl 0 rfl) ?_
        refine g_X4_200 C hP 0 rfl rfl dX4_map_87 ?_
        refine r_if_eq C (tgt := 97) dX4_map_90 (by decide) ⟨by decide, by decide⟩ (fun h21 => ?_) (fun h21 => ?_)
        · exact absurd h21 (by decide)
        · refine r_aload_n C dX4_map_93 rfl (lv_at hl 0 rfl) ?_
          refine r_cVW0 C m_X4_165 (cM_putsBack2 hs.2.1 hsl.2.1) hP hD hS [0, 1, 2, 3, 4, 5, 6, 7, 8, 9, 10, 11] (wM a k s kp (cpN s ot 123) sd st sp tp bi si nu mo ik (-1) tl ta qq.1 qq.2.1 qq.2.2.1 1) rfl rfl rfl rfl (wM_ad.trans wM_ad.symm) rfl rfl hl.1 dX4_map_94 (fun H locs hP hD hS => ?_)
          refine r_aload_n C dX4_map_97 rfl (lv_at hl 0 rfl) ?_
          refine r_iconst C dX4_map_98 ?_
          refine p_X4_174 C hP hD hS 0 (wM a k s kp (cpN s ot 123) sd st sp tp bi si nu mo ik (-1) tl 0 qq.1 qq.2.1 qq.2.2.1 1) rfl (Nat.le_of_ble_eq_true rfl) rfl dX4_map_99 (fun H locs hP hD hS => ?_)
          refine r_aload_n C dX4_map_102 rfl (lv_at hl 0 rfl) ?_
          refine g_X4_200 C hP 0 rfl rfl dX4_map_103 ?_
          refine r_if_eq C (tgt := 118) dX4_map_106 (by decide) ⟨by decide, by decide⟩ (fun h22 => ?_) (fun h22 => ?_)
          · exact absurd h22 (by decide)
          · refine r_iconst C dX4_map_109 ?_
            refine r_aload_n C dX4_map_110 rfl (lv_at hl 0 rfl) ?_
            refine g_X4_188 C hP 0 rfl rfl dX4_map_111 ?_
            refine r_isub C dX4_map_114 ?_
            refine r_goto C (tgt := 119) dX4_map_115 (by decide) ?_
            exact r_iretE C hP hS (cpN s ot 123, sd, sp, mo, tl, qq.1, qq.2.1, 1) (by first | (simp only [fMap, mpR, mpF, fst0_no (p := mpP tp ta s (q0P tp ta va)) (n := 121) hJn.1, ← eqq, h19, h20, h21, h22, not_true_eq_false, not_false_eq_true, and_true, true_and, and_false, false_and, or_true, true_or, or_false, false_or, if_true, if_false, ne_eq, reduceIte]; done) | (exfalso; omega)) (by first | (simp only [fMap, mpR, mpF, fst0_no (p := mpP tp ta s (q0P tp ta va)) (n := 121) hJn.1, ← eqq, h19, h20, h21, h22, not_true_eq_false, not_false_eq_true, and_true, true_and, and_false, false_and, or_true, true_or, or_false, false_or, if_true, if_false, ne_eq, reduceIte]; done) | (exfalso; omega)) dX4_map_119
      · refine r_aload_n C dX4_map_67 rfl (lv_at hl 0 rfl) ?_
        refine g_X4_188 C hP 0 rfl rfl dX4_map_68 ?_
        refine r_aload_n C dX4_map_71 rfl (lv_at hl 0 rfl) ?_
        refine g_X4_174 C hP 0 rfl rfl dX4_map_72 ?_
        refine r_icmp_ge C (tgt := 82) dX4_map_75 (by decide) (by exact ⟨by omega, by omega⟩) (by exact ⟨by omega, by omega⟩) (fun h23 => ?_) (fun h23 => ?_)
        · refine r_iconst C dX4_map_82 ?_
          refine p_X4_200 C hP hD hS 0 (wM a k ((mpN tp ta s (q0P tp ta va) 121).1) kp (cpN s ot 123) sd st sp tp bi si nu mo ik (-1) tl ta qq.1 qq.2.1 qq.2.2.1 0) rfl (by decide) (by decide) (Nat.le_of_ble_eq_true rfl) rfl dX4_map_83 (fun H locs hP hD hS => ?_)
          refine r_aload_n C dX4_map_86 rfl (lv_at hl 0 rfl) ?_
          refine g_X4_200 C hP 0 rfl rfl dX4_map_87 ?_
          refine r_if_eq C (tgt := 97) dX4_map_90 (by decide) ⟨by decide, by decide⟩ (fun h24 => ?_) (fun h24 => ?_)
          · refine r_aload_n C dX4_map_97 rfl (lv_at hl 0 rfl) ?_
            refine r_iconst C dX4_map_98 ?_
            refine p_X4_174 C hP hD hS 0 (wM a k ((mpN tp ta s (q0P tp ta va) 121).1) kp (cpN s ot 123) sd st sp tp bi si nu mo ik (-1) tl 0 qq.1 qq.2.1 qq.2.2.1 0) rfl (Nat.le_of_ble_eq_true rfl) rfl dX4_map_99 (fun H locs hP hD hS => ?_)
            refine r_aload_n C dX4_map_102 rfl (lv_at hl 0 rfl) ?_
            refine g_X4_200 C hP 0 rfl rfl dX4_map_103 ?_
            refine r_if_eq C (tgt := 118) dX4_map_106 (by decide) ⟨by decide, by decide⟩ (fun h25 => ?_) (fun h25 => ?_)
            · refine r_iload_n C dX4_map_118 rfl (lv_at hl 1 rfl) ?_
              exact r_iretE C hP hS (cpN s ot 123, sd, sp, mo, tl, qq.1, qq.2.1, 0) (by first | (simp only [fMap, mpR, mpF, fst0_no (p := mpP tp ta s (q0P tp ta va)) (n := 121) hJn.1, ← eqq, h19, eq_true h20, h23, eq_true h24, eq_true h25, not_true_eq_false, not_false_eq_true, and_true, true_and, and_false, false_and, or_true, true_or, or_false, false_or, if_true, if_false, ne_eq, reduceIte]; done) | (exfalso; omega)) (by first | (simp only [fMap, mpR, mpF, fst0_no (p := mpP tp ta s (q0P tp ta va)) (n := 121) hJn.1, ← eqq, h19, eq_true h20, h23, eq_true h24, eq_true h25, not_true_eq_false, not_false_eq_true, and_true, true_and, and_false, false_and, or_true, true_or, or_false, false_or, if_true, if_false, ne_eq, reduceIte]; done) | (exfalso; omega)) dX4_map_119
            · exact absurd h25 (by decide)
          · exact absurd h24 (by decide)
        · refine r_iconst C dX4_map_78 ?_
          refine r_goto C (tgt := 83) dX4_map_79 (by decide) ?_
          refine p_X4_200 C hP hD hS 0 (wM a k ((mpN tp ta s (q0P tp ta va) 121).1) kp (cpN s ot 123) sd st sp tp bi si nu mo ik (-1) tl ta qq.1 qq.2.1 qq.2.2.1 1) rfl (by decide) (by decide) (Nat.le_of_ble_eq_true rfl) rfl dX4_map_83 (fun H locs hP hD hS => ?_)
          refine r_aload_n C dX4_map_86 rfl (lv_at hl 0 rfl) ?_
          refine g_X4_200 C hP 0 rfl rfl dX4_map_87 ?_
          refine r_if_eq C (tgt := 97) dX4_map_90 (by decide) ⟨by decide, by decide⟩ (fun h26 => ?_) (fun h26 => ?_)
          · exact absurd h26 (by decide)
          · refine r_aload_n C dX4_map_93 rfl (lv_at hl 0 rfl) ?_
            refine r_cVW0 C m_X4_165 (cM_putsBack2 hs.2.1 hsl.2.1) hP hD hS [0, 1, 2, 3, 4, 5, 6, 7, 8, 9, 10, 11] (wM a k s kp (cpN s ot 123) sd st sp tp bi si nu mo ik (-1) tl ta qq.1 qq.2.1 qq.2.2.1 1) rfl rfl rfl rfl (wM_ad.trans wM_ad.symm) rfl rfl hl.1 dX4_map_94 (fun H locs hP hD hS => ?_)
            refine r_aload_n C dX4_map_97 rfl (lv_at hl 0 rfl) ?_
            refine r_iconst C dX4_map_98 ?_
            refine p_X4_174 C hP hD hS 0 (wM a k s kp (cpN s ot 123) sd st sp tp bi si nu mo ik (-1) tl 0 qq.1 qq.2.1 qq.2.2.1 1) rfl (Nat.le_of_ble_eq_true rfl) rfl dX4_map_99 (fun H locs hP hD hS => ?_)
            refine r_aload_n C dX4_map_102 rfl (lv_at hl 0 rfl) ?_
            refine g_X4_200 C hP 0 rfl rfl dX4_map_103 ?_
            refine r_if_eq C (tgt := 118) dX4_map_106 (by decide) ⟨by decide, by decide⟩ (fun h27 => ?_) (fun h27 => ?_)
            · exact absurd h27 (by decide)
            · refine r_iconst C dX4_map_109 ?_
              refine r_aload_n C dX4_map_110 rfl (lv_at hl 0 rfl) ?_
              refine g_X4_188 C hP 0 rfl rfl dX4_map_111 ?_
              refine r_isub C dX4_map_114 ?_
              refine r_goto C (tgt := 119) dX4_map_115 (by decide) ?_
              exact r_iretE C hP hS (cpN s ot 123, sd, sp, mo, tl, qq.1, qq.2.1, 1) (by first | (simp only [fMap, mpR, mpF, fst0_no (p := mpP tp ta s (q0P tp ta va)) (n := 121) hJn.1, ← eqq, h19, eq_true h20, h23, h26, h27, not_true_eq_false, not_false_eq_true, and_true, true_and, and_false, false_and, or_true, true_or, or_false, false_or, if_true, if_false, ne_eq, reduceIte]; done) | (exfalso; omega)) (by first | (simp only [fMap, mpR, mpF, fst0_no (p := mpP tp ta s (q0P tp ta va)) (n := 121) hJn.1, ← eqq, h19, eq_true h20, h23, h26, h27, not_true_eq_false, not_false_eq_true, and_true, true_and, and_false, false_and, or_true, true_or, or_false, false_or, if_true, if_false, ne_eq, reduceIte]; done) | (exfalso; omega)) dX4_map_119
    · exfalso; omega
end MODEL
