section CLASS
variable {l : Launch} {D : va_G} {k : Nat → ClassId} {a b c : Nat → Nat} {A : Nat → Prop} {ad av : Nat} {tx : List Int} {Z : SZ} {s t kq tp bi si st : Int → Int} {wr tw kw : Int64} {y ty ky ta tk sa en nm ik bt sz : Int} {nu nf : Int → Int64}
theorem kdC_rg (tp : Int → Int) (ta : Int) (p : CP) : -1 ≤ kdC tp ta p ∧ kdC tp ta p ≤ 5 := fstK_rg _
theorem srC_rg (tp : Int → Int) (ta : Int) (p : CP) : -1 ≤ srC tp ta p ∧ srC tp ta p ≤ 5 := fstK_rg _
set_option maxHeartbeats 400000 in
set_option maxRecDepth 100000 in
theorem cP_readIncome  (hsa : 0 ≤ sa) (hse : sa ≤ en) (hen : en ≤ ta) (hta : ta ≤ 120) (hnm : 0 ≤ nm) (hnm1 : nm ≤ 10000) (htp : ∀ i, 0 ≤ tp i ∧ tp i ≤ 255) (hs : Ok s) : MW l yX1_readIncome cX1_readIncome 2 (some .boolean) 3 61 D k [.ref (c 0), .ref (b 0)] (wPW b c k tp ta (tkC tp ta sa) sa en nm s (lB (wrF s)) y) (wPW b c k tp ta (tkC tp ta (cIn tp ta s (sa, en, nm)).2.2.1) ((cIn tp ta s (sa, en, nm)).2.2.1) ((cIn tp ta s (sa, en, nm)).2.2.2.1) ((cIn tp ta s (sa, en, nm)).2.2.2.2) ((cIn tp ta s (sa, en, nm)).2.1) (lB (wrF ((cIn tp ta s (sa, en, nm)).2.1))) y) (some (.int (iB ((cIn tp ta s (sa, en, nm)).1 = 1)))) := by
  refine MW.mk RX1 rfl (by decide +kernel) (Nat.le_of_ble_eq_true rfl) (fun p e U m0 below meth cd ls C hP hD hS hl => ?_)
  have hl : lv_has ls 2 [(0, .ref (c 0)), (1, .ref (b 0))] := hl
  have h00 := hs.1 0 (by decide)
  have h06 := hs.2.2.1
  refine r_aload_n C dX1_readIncome_0 rfl (lv_at hl 0 rfl) ?_
  obtain ⟨q1, eq1⟩ : ∃ q : CP, q = adC tp ta (sa, en, nm) := ⟨_, rfl⟩
  have iq1 : CI ta q1 := eq1 ▸ ad_ci htp (p := (sa, en, nm)) (by first | omega | (dsimp only; omega)) (by first | omega | (dsimp only; omega)) (by first | omega | (dsimp only; omega)) (by first | omega | (dsimp only; omega))
  have jq1 := iq1
  unfold CI at jq1
  refine r_cVW0 C m_X1_19 (cP_advance (c := c) (tp := tp) (ta := ta) (tk := tkC tp ta sa) (sa := sa) (en := en) (nm := nm) (by omega) (by omega) (by omega) htp) hP hD hS [0, 1] (wPW b c k tp ta (tkC tp ta q1.1) q1.1 q1.2.1 q1.2.2 s (lB (wrF s)) y) rfl lc_PW_tp rfl (by rw [eq1]; exact lp_PW_tp) (wPW_ad.trans wPW_ad.symm) rfl rfl hl.1 dX1_readIncome_1 (fun H locs hP hD hS => ?_)
  refine r_aload_n C dX1_readIncome_4 rfl (lv_at hl 0 rfl) ?_
  refine r_iconst C dX1_readIncome_5 ?_
  refine r_bipush C dX1_readIncome_6 (by decide) ?_
  refine r_cVR2 C m_X1_63 (cP_isNumber (c := c) (tp := tp) (ta := ta) (sa := q1.1) (en := q1.2.1) (nm := q1.2.2) ⟨by decide, by decide⟩ ⟨by decide, by decide⟩ ⟨by omega, by omega⟩) (hp_PW_tp hP) rfl rfl hl.1 dX1_readIncome_8 ?_
  refine r_topB (nbC tp ta 0 20 q1) Iff.rfl ?_
  refine r_ifB_ne C (tgt := 16) dX1_readIncome_11 (by decide) (fun h1 => ?_) (fun h1 => ?_)
  · refine r_aload_n C dX1_readIncome_16 rfl (lv_at hl 1 rfl) ?_
    refine r_aload_n C dX1_readIncome_17 rfl (lv_at hl 0 rfl) ?_
    refine g_X1_67 C hP 0 rfl rfl dX1_readIncome_18 ?_
    refine p_X1_84 C hP hD hS 2 (wPW b c k tp ta (tkC tp ta q1.1) q1.1 q1.2.1 q1.2.2 (up s 2 q1.2.2) (lB (wrF s)) y) rfl (Nat.le_of_ble_eq_true rfl) (lf_PW_s wW_in) dX1_readIncome_21 (fun H locs hP hD hS => ?_)
    have er2 : wPW b c k tp ta (tkC tp ta q1.1) q1.1 q1.2.1 q1.2.2 (up s 2 q1.2.2) (lB (wrF s)) y = wPW b c k tp ta (tkC tp ta q1.1) q1.1 q1.2.1 q1.2.2 (up s 2 q1.2.2) (lB (wrF (up s 2 q1.2.2))) y := by rw [show wrF s = wrF (up s 2 q1.2.2) from (wrF_o (by omega)).symm]
    have hP := va_eq hP er2
    have hD := va_eqD hD er2
    refine r_aload_n C dX1_readIncome_24 rfl (lv_at hl 0 rfl) ?_
    obtain ⟨q3, eq3⟩ : ∃ q : CP, q = adC tp ta q1 := ⟨_, rfl⟩
    have iq3 : CI ta q3 := eq3 ▸ ad_ci htp (p := q1) (by first | omega | (dsimp only; omega)) (by first | omega | (dsimp only; omega)) (by first | omega | (dsimp only; omega)) (by first | omega | (dsimp only; omega))
    have jq3 := iq3
    unfold CI at jq3
    refine r_cVW0 C m_X1_19 (cP_advance (c := c) (tp := tp) (ta := ta) (tk := tkC tp ta q1.1) (sa := q1.1) (en := q1.2.1) (nm := q1.2.2) (by omega) (by omega) (by omega) htp) hP hD hS [0, 1] (wPW b c k tp ta (tkC tp ta q3.1) q3.1 q3.2.1 q3.2.2 (up s 2 q1.2.2) (lB (wrF (up s 2 q1.2.2))) y) rfl lc_PW_tp rfl (by rw [eq3]; exact lp_PW_tp) (wPW_ad.trans wPW_ad.symm) rfl rfl hl.1 dX1_readIncome_25 (fun H locs hP hD hS => ?_)
    refine r_iconst C dX1_readIncome_28 ?_
    exact r_zretW C hP hS (by subst eq3; subst eq1; first | (rw [cIn, if_pos h1]; done) | (rw [cIn, if_pos h1]; rfl)) (iB1 (by subst eq3; subst eq1; first | (rw [cIn, if_pos h1]; done) | (rw [cIn, if_pos h1]; rfl))) dX1_readIncome_29
  · refine r_iconst C dX1_readIncome_14 ?_
    exact r_zretW C hP hS (by subst eq1; first | (rw [cIn, if_neg h1]; done) | (rw [cIn, if_neg h1]; rfl)) (iB0 (by subst eq1; rw [cIn, if_neg h1]; exact (show ¬ (0 : Int) = 1 by decide))) dX1_readIncome_15
set_option maxHeartbeats 400000 in
set_option maxRecDepth 100000 in
theorem cP_readMender {kd : Int} (hsa : 0 ≤ sa) (hse : sa ≤ en) (hen : en ≤ ta) (hta : ta ≤ 120) (hnm : 0 ≤ nm) (hnm1 : nm ≤ 10000) (htp : ∀ i, 0 ≤ tp i ∧ tp i ≤ 255) (hs : Ok s) (hk : 0 ≤ kd) (hk1 : kd < 6) : MWX Z l yX1_readMender cX1_readMender 5 (some .boolean) 5 107 D k [.ref (c 0), .ref (b 0), .int (iI kd)] (wPW b c k tp ta (tkC tp ta sa) sa en nm s (lB (wrF s)) y) (wPW b c k tp ta (tkC tp ta (cMd tp ta kd s (sa, en, nm)).2.2.1) ((cMd tp ta kd s (sa, en, nm)).2.2.1) ((cMd tp ta kd s (sa, en, nm)).2.2.2.1) ((cMd tp ta kd s (sa, en, nm)).2.2.2.2) ((cMd tp ta kd s (sa, en, nm)).2.1) (lB (wrF ((cMd tp ta kd s (sa, en, nm)).2.1))) y) (some (.int (iB ((cMd tp ta kd s (sa, en, nm)).1 = 1)))) := by
  refine MWX.mk RX1 rfl (by decide +kernel) (Nat.le_of_ble_eq_true rfl) (fun p e U m0 below meth cd ls C hA hZ hP hD hS hl => ?_)
  have hl : lv_has ls 5 [(0, .ref (c 0)), (1, .ref (b 0)), (2, .int (iI kd))] := hl
  have h00 := hs.1 0 (by decide)
  have h06 := hs.2.2.1
  refine r_aload_n C dX1_readMender_0 rfl (lv_at hl 1 rfl) ?_
  refine g_X1_56 C hP 2 rfl rfl dX1_readMender_1 ?_
  refine r_bipush C dX1_readMender_4 (by decide) ?_
  refine r_icmp_lt C (tgt := 11) dX1_readMender_6 (by decide) (by exact ⟨by omega, by omega⟩) ⟨by decide, by decide⟩ (fun h1 => ?_) (fun h1 => ?_)
  · refine r_aload_n C dX1_readMender_11 rfl (lv_at hl 0 rfl) ?_
    obtain ⟨q1, eq1⟩ : ∃ q : CP, q = adC tp ta (sa, en, nm) := ⟨_, rfl⟩
    have iq1 : CI ta q1 := eq1 ▸ ad_ci htp (p := (sa, en, nm)) (by first | omega | (dsimp only; omega)) (by first | omega | (dsimp only; omega)) (by first | omega | (dsimp only; omega)) (by first | omega | (dsimp only; omega))
    have jq1 := iq1
    unfold CI at jq1
    refine r_cVW0 C m_X1_19 (cP_advance (c := c) (tp := tp) (ta := ta) (tk := tkC tp ta sa) (sa := sa) (en := en) (nm := nm) (by omega) (by omega) (by omega) htp) hP hD hS [0, 1] (wPW b c k tp ta (tkC tp ta q1.1) q1.1 q1.2.1 q1.2.2 s (lB (wrF s)) y) rfl lc_PW_tp rfl (by rw [eq1]; exact lp_PW_tp) (wPW_ad.trans wPW_ad.symm) rfl rfl hl.1 dX1_readMender_12 (fun H locs hP hD hS => ?_)
    refine r_aload_n C dX1_readMender_15 rfl (lv_at hl 0 rfl) ?_
    refine r_ldcS C ((hZ.by hA hS) 15 (by decide)).1 dX1_readMender_16 ?_
    refine r_cVX (As := [.ref (Z.2.1 (15))]) C m_X1_42 (cP_isWord (c := c) (A := fun q => Z.1 ≤ q) (ad := Z.2.1 (15)) (av := Z.2.2 (15)) (tx := sLs (15)) (tp := tp) (ta := ta) (sa := q1.1) (en := q1.2.1) (nm := q1.2.2) (by omega) (by omega) (by omega) (by omega) htp (sLs_ok (15) (by omega)).1 (sLs_ok (15) (by omega)).2) (SE_wm ((hZ.by hA hS) (15) (by omega)).2) (SE_st _ _ _ _) rfl (hp_PW_tp hP) (va_recv C.2.1.1 (hp_PW_tp hP) (q0 := 0) (ci := 1) rfl rfl) hl.1 dX1_readMender_18 ?_
    refine r_topB (wdC tp ta q1 atL) Iff.rfl ?_
    refine r_ifB_ne C (tgt := 26) dX1_readMender_21 (by decide) (fun h2 => ?_) (fun h2 => ?_)
    · refine r_aload_n C dX1_readMender_26 rfl (lv_at hl 0 rfl) ?_
      obtain ⟨q2, eq2⟩ : ∃ q : CP, q = adC tp ta q1 := ⟨_, rfl⟩
      have iq2 : CI ta q2 := eq2 ▸ ad_ci htp (p := q1) (by first | omega | (dsimp only; omega)) (by first | omega | (dsimp only; omega)) (by first | omega | (dsimp only; omega)) (by first | omega | (dsimp only; omega))
      have jq2 := iq2
      unfold CI at jq2
      refine r_cVW0 C m_X1_19 (cP_advance (c := c) (tp := tp) (ta := ta) (tk := tkC tp ta q1.1) (sa := q1.1) (en := q1.2.1) (nm := q1.2.2) (by omega) (by omega) (by omega) htp) hP hD hS [0, 1] (wPW b c k tp ta (tkC tp ta q2.1) q2.1 q2.2.1 q2.2.2 s (lB (wrF s)) y) rfl lc_PW_tp rfl (by rw [eq2]; exact lp_PW_tp) (wPW_ad.trans wPW_ad.symm) rfl rfl hl.1 dX1_readMender_27 (fun H locs hP hD hS => ?_)
      refine r_aload_n C dX1_readMender_30 rfl (lv_at hl 0 rfl) ?_
      refine r_iconst C dX1_readMender_31 ?_
      refine r_bipush C dX1_readMender_32 (by decide) ?_
      refine r_cVR2 C m_X1_63 (cP_isNumber (c := c) (tp := tp) (ta := ta) (sa := q2.1) (en := q2.2.1) (nm := q2.2.2) ⟨by decide, by decide⟩ ⟨by decide, by decide⟩ ⟨by omega, by omega⟩) (hp_PW_tp hP) rfl rfl hl.1 dX1_readMender_34 ?_
      refine r_topB (nbC tp ta 0 47 q2) Iff.rfl ?_
      refine r_ifB_ne C (tgt := 42) dX1_readMender_37 (by decide) (fun h3 => ?_) (fun h3 => ?_)
      · refine r_aload_n C dX1_readMender_42 rfl (lv_at hl 0 rfl) ?_
        refine g_X1_67 C hP 0 rfl rfl dX1_readMender_43 ?_
        refine r_istore_n C [(3, .int (iI q2.2.2)), (0, .ref (c 0)), (1, .ref (b 0)), (2, .int (iI kd))] dX1_readMender_46 rfl hl (by decide) rfl (fun ls hl => ?_)
        refine r_bipush C dX1_readMender_47 (by decide) ?_
        refine r_istore C [(4, .int (iI 50)), (3, .int (iI q2.2.2)), (0, .ref (c 0)), (1, .ref (b 0)), (2, .int (iI kd))] dX1_readMender_49 hl (by decide) rfl (fun ls hl => ?_)
        refine r_aload_n C dX1_readMender_51 rfl (lv_at hl 2 rfl) ?_
        obtain ⟨q3, eq3⟩ : ∃ q : CP, q = adC tp ta q2 := ⟨_, rfl⟩
        have iq3 : CI ta q3 := eq3 ▸ ad_ci htp (p := q2) (by first | omega | (dsimp only; omega)) (by first | omega | (dsimp only; omega)) (by first | omega | (dsimp only; omega)) (by first | omega | (dsimp only; omega))
        have jq3 := iq3
        unfold CI at jq3
        refine r_cVW0 C m_X1_19 (cP_advance (c := c) (tp := tp) (ta := ta) (tk := tkC tp ta q2.1) (sa := q2.1) (en := q2.2.1) (nm := q2.2.2) (by omega) (by omega) (by omega) htp) hP hD hS [0, 1] (wPW b c k tp ta (tkC tp ta q3.1) q3.1 q3.2.1 q3.2.2 s (lB (wrF s)) y) rfl lc_PW_tp rfl (by rw [eq3]; exact lp_PW_tp) (wPW_ad.trans wPW_ad.symm) rfl rfl hl.1 dX1_readMender_52 (fun H locs hP hD hS => ?_)
        refine r_aload_n C dX1_readMender_55 rfl (lv_at hl 2 rfl) ?_
        refine r_ldcS C ((hZ.by hA hS) 16 (by decide)).1 dX1_readMender_56 ?_
        refine r_cVX (As := [.ref (Z.2.1 (16))]) C m_X1_42 (cP_isWord (c := c) (A := fun q => Z.1 ≤ q) (ad := Z.2.1 (16)) (av := Z.2.2 (16)) (tx := sLs (16)) (tp := tp) (ta := ta) (sa := q3.1) (en := q3.2.1) (nm := q3.2.2) (by omega) (by omega) (by omega) (by omega) htp (sLs_ok (16) (by omega)).1 (sLs_ok (16) (by omega)).2) (SE_wm ((hZ.by hA hS) (16) (by omega)).2) (SE_st _ _ _ _) rfl (hp_PW_tp hP) (va_recv C.2.1.1 (hp_PW_tp hP) (q0 := 0) (ci := 1) rfl rfl) hl.1 dX1_readMender_58 ?_
        refine r_topB (wdC tp ta q3 puL) Iff.rfl ?_
        refine r_ifB_eq C (tgt := 91) dX1_readMender_61 (by decide) (fun h4 => ?_) (fun h4 => ?_)
        · refine r_aload_n C dX1_readMender_91 rfl (lv_at hl 3 rfl) ?_
          refine r_iload_n C dX1_readMender_92 rfl (lv_at hl 4 rfl) ?_
          refine r_iload_n C dX1_readMender_93 rfl (lv_at hl 1 rfl) ?_
          refine r_iload C dX1_readMender_94 (lv_at hl 0 rfl) ?_
          refine r_cVW3 C m_X1_72 (cW_addMender (b := b) (s := s) (y := y) (by omega) (by omega) (by omega) (by omega) (by omega) (by omega) hs (by omega)) hP hD hS [2, 3, 4, 5, 6, 7, 8] (wPW b c k tp ta (tkC tp ta q3.1) q3.1 q3.2.1 q3.2.2 (addS s kd q2.2.2 50) (lB (wrF (addS s kd q2.2.2 50))) y) rfl lc_PW_s rfl lp_PW_s (wPW_ad.trans wPW_ad.symm) rfl rfl hl.1 dX1_readMender_96 (fun H locs hP hD hS => ?_)
          have hs4 : Ok (addS s kd q2.2.2 50) := ok_addS hs (by omega) (by omega) (by omega) (by omega) (by omega) (by omega) (by omega)
          refine r_pop C dX1_readMender_99 rfl ?_
          refine r_iconst C dX1_readMender_100 ?_
          exact r_zretW C hP hS (by subst eq3; subst eq2; subst eq1; first | (rw [cMd, if_pos h1, if_pos h2, if_pos h3, if_neg h4]; done) | (rw [cMd, if_pos h1, if_pos h2, if_pos h3, if_neg h4]; rfl)) (iB1 (by subst eq3; subst eq2; subst eq1; first | (rw [cMd, if_pos h1, if_pos h2, if_pos h3, if_neg h4]; done) | (rw [cMd, if_pos h1, if_pos h2, if_pos h3, if_neg h4]; rfl))) dX1_readMender_101
        · refine r_aload_n C dX1_readMender_64 rfl (lv_at hl 2 rfl) ?_
          obtain ⟨q5, eq5⟩ : ∃ q : CP, q = adC tp ta q3 := ⟨_, rfl⟩
          have iq5 : CI ta q5 := eq5 ▸ ad_ci htp (p := q3) (by first | omega | (dsimp only; omega)) (by first | omega | (dsimp only; omega)) (by first | omega | (dsimp only; omega)) (by first | omega | (dsimp only; omega))
          have jq5 := iq5
          unfold CI at jq5
          refine r_cVW0 C m_X1_19 (cP_advance (c := c) (tp := tp) (ta := ta) (tk := tkC tp ta q3.1) (sa := q3.1) (en := q3.2.1) (nm := q3.2.2) (by omega) (by omega) (by omega) htp) hP hD hS [0, 1] (wPW b c k tp ta (tkC tp ta q5.1) q5.1 q5.2.1 q5.2.2 s (lB (wrF s)) y) rfl lc_PW_tp rfl (by rw [eq5]; exact lp_PW_tp) (wPW_ad.trans wPW_ad.symm) rfl rfl hl.1 dX1_readMender_65 (fun H locs hP hD hS => ?_)
          refine r_aload_n C dX1_readMender_68 rfl (lv_at hl 2 rfl) ?_
          refine r_iconst C dX1_readMender_69 ?_
          refine r_sipush C dX1_readMender_70 (by decide) ?_
          refine r_cVR2 C m_X1_63 (cP_isNumber (c := c) (tp := tp) (ta := ta) (sa := q5.1) (en := q5.2.1) (nm := q5.2.2) ⟨by decide, by decide⟩ ⟨by decide, by decide⟩ ⟨by omega, by omega⟩) (hp_PW_tp hP) rfl rfl hl.1 dX1_readMender_73 ?_
          refine r_topB (nbC tp ta 0 9999 q5) Iff.rfl ?_
          refine r_ifB_ne C (tgt := 81) dX1_readMender_76 (by decide) (fun h5 => ?_) (fun h5 => ?_)
          · refine r_aload_n C dX1_readMender_81 rfl (lv_at hl 2 rfl) ?_
            refine g_X1_67 C hP 0 rfl rfl dX1_readMender_82 ?_
            refine r_istore C [(4, .int (iI q5.2.2)), (3, .int (iI q2.2.2)), (0, .ref (c 0)), (1, .ref (b 0)), (2, .int (iI kd))] dX1_readMender_85 hl (by decide) rfl (fun ls hl => ?_)
            refine r_aload_n C dX1_readMender_87 rfl (lv_at hl 2 rfl) ?_
            obtain ⟨q6, eq6⟩ : ∃ q : CP, q = adC tp ta q5 := ⟨_, rfl⟩
            have iq6 : CI ta q6 := eq6 ▸ ad_ci htp (p := q5) (by first | omega | (dsimp only; omega)) (by first | omega | (dsimp only; omega)) (by first | omega | (dsimp only; omega)) (by first | omega | (dsimp only; omega))
            have jq6 := iq6
            unfold CI at jq6
            refine r_cVW0 C m_X1_19 (cP_advance (c := c) (tp := tp) (ta := ta) (tk := tkC tp ta q5.1) (sa := q5.1) (en := q5.2.1) (nm := q5.2.2) (by omega) (by omega) (by omega) htp) hP hD hS [0, 1] (wPW b c k tp ta (tkC tp ta q6.1) q6.1 q6.2.1 q6.2.2 s (lB (wrF s)) y) rfl lc_PW_tp rfl (by rw [eq6]; exact lp_PW_tp) (wPW_ad.trans wPW_ad.symm) rfl rfl hl.1 dX1_readMender_88 (fun H locs hP hD hS => ?_)
            refine r_aload_n C dX1_readMender_91 rfl (lv_at hl 3 rfl) ?_
            refine r_iload_n C dX1_readMender_92 rfl (lv_at hl 4 rfl) ?_
            refine r_iload_n C dX1_readMender_93 rfl (lv_at hl 1 rfl) ?_
            refine r_iload C dX1_readMender_94 (lv_at hl 0 rfl) ?_
            refine r_cVW3 C m_X1_72 (cW_addMender (b := b) (s := s) (y := y) (by omega) (by omega) (by omega) (by omega) (by omega) (by omega) hs (by omega)) hP hD hS [2, 3, 4, 5, 6, 7, 8] (wPW b c k tp ta (tkC tp ta q6.1) q6.1 q6.2.1 q6.2.2 (addS s kd q2.2.2 q5.2.2) (lB (wrF (addS s kd q2.2.2 q5.2.2))) y) rfl lc_PW_s rfl lp_PW_s (wPW_ad.trans wPW_ad.symm) rfl rfl hl.1 dX1_readMender_96 (fun H locs hP hD hS => ?_)
            have hs7 : Ok (addS s kd q2.2.2 q5.2.2) := ok_addS hs (by omega) (by omega) (by omega) (by omega) (by omega) (by omega) (by omega)
            refine r_pop C dX1_readMender_99 rfl ?_
            refine r_iconst C dX1_readMender_100 ?_
            exact r_zretW C hP hS (by subst eq6; subst eq5; subst eq3; subst eq2; subst eq1; first | (rw [cMd, if_pos h1, if_pos h2, if_pos h3, if_pos h4, if_pos h5]; done) | (rw [cMd, if_pos h1, if_pos h2, if_pos h3, if_pos h4, if_pos h5]; rfl)) (iB1 (by subst eq6; subst eq5; subst eq3; subst eq2; subst eq1; first | (rw [cMd, if_pos h1, if_pos h2, if_pos h3, if_pos h4, if_pos h5]; done) | (rw [cMd, if_pos h1, if_pos h2, if_pos h3, if_pos h4, if_pos h5]; rfl))) dX1_readMender_101
          · refine r_iconst C dX1_readMender_79 ?_
            exact r_zretW C hP hS (by subst eq5; subst eq3; subst eq2; subst eq1; first | (rw [cMd, if_pos h1, if_pos h2, if_pos h3, if_pos h4, if_neg h5]; done) | (rw [cMd, if_pos h1, if_pos h2, if_pos h3, if_pos h4, if_neg h5]; rfl)) (iB0 (by subst eq5; subst eq3; subst eq2; subst eq1; rw [cMd, if_pos h1, if_pos h2, if_pos h3, if_pos h4, if_neg h5]; exact (show ¬ (0 : Int) = 1 by decide))) dX1_readMender_80
      · refine r_iconst C dX1_readMender_40 ?_
        exact r_zretW C hP hS (by subst eq2; subst eq1; first | (rw [cMd, if_pos h1, if_pos h2, if_neg h3]; done) | (rw [cMd, if_pos h1, if_pos h2, if_neg h3]; rfl)) (iB0 (by subst eq2; subst eq1; rw [cMd, if_pos h1, if_pos h2, if_neg h3]; exact (show ¬ (0 : Int) = 1 by decide))) dX1_readMender_41
    · refine r_iconst C dX1_readMender_24 ?_
      exact r_zretW C hP hS (by subst eq1; first | (rw [cMd, if_pos h1, if_neg h2]; done) | (rw [cMd, if_pos h1, if_neg h2]; rfl)) (iB0 (by subst eq1; rw [cMd, if_pos h1, if_neg h2]; exact (show ¬ (0 : Int) = 1 by decide))) dX1_readMender_25
  · refine r_iconst C dX1_readMender_9 ?_
    exact r_zretW C hP hS (by first | (rw [cMd, if_neg h1]; done) | (rw [cMd, if_neg h1]; rfl)) (iB0 (by rw [cMd, if_neg h1]; exact (show ¬ (0 : Int) = 1 by decide))) dX1_readMender_10
end CLASS
