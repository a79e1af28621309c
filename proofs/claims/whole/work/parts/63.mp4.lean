section CLASS
variable {l : Launch} {D : va_G} {k : Nat → ClassId} {a b c : Nat → Nat} {A : Nat → Prop} {ad av : Nat} {tx : List Int} {Z : SZ} {s t kq tp bi si st : Int → Int} {wr tw kw : Int64} {y ty ky ta tk sa en nm ik bt sz : Int} {nu nf : Int → Int64}
set_option maxHeartbeats 400000 in
set_option maxRecDepth 100000 in
theorem cP_readCells {w : Int} (hsa : 0 ≤ sa) (hse : sa ≤ en) (hen : en ≤ ta) (hta : ta ≤ 120) (hnm : 0 ≤ nm) (hnm1 : nm ≤ 10000) (htp : ∀ i, 0 ≤ tp i ∧ tp i ≤ 255) (hs : Ok s) (zw : In32 w) : MWX Z l yX1_readCells cX1_readCells 7 (some .boolean) 6 128 D k [.ref (c 0), .ref (b 0), .int (iI w)] (wPW b c k tp ta (tkC tp ta sa) sa en nm s (lB (wrF s)) y) (wPW b c k tp ta (tkC tp ta (cCl tp ta (if w = 0 then 3 else 51) s (sa, en, nm)).2.2.1) ((cCl tp ta (if w = 0 then 3 else 51) s (sa, en, nm)).2.2.1) ((cCl tp ta (if w = 0 then 3 else 51) s (sa, en, nm)).2.2.2.1) ((cCl tp ta (if w = 0 then 3 else 51) s (sa, en, nm)).2.2.2.2) ((cCl tp ta (if w = 0 then 3 else 51) s (sa, en, nm)).2.1) (lB (wrF ((cCl tp ta (if w = 0 then 3 else 51) s (sa, en, nm)).2.1))) y) (some (.int (iB ((cCl tp ta (if w = 0 then 3 else 51) s (sa, en, nm)).1 = 1)))) := by
  refine MWX.mk RX1 rfl (by decide +kernel) (Nat.le_of_ble_eq_true rfl) (fun p e U m0 below meth cd ls C hA hZ hP hD hS hl => ?_)
  have hl : lv_has ls 7 [(0, .ref (c 0)), (1, .ref (b 0)), (2, .int (iI w))] := hl
  have zw1 := zw.1
  have zw2 := zw.2
  have h00 := hs.1 0 (by decide)
  have h06 := hs.2.2.1
  have hb9 : (if w = 0 then 3 else 51) = (3 : Int) ∨ (if w = 0 then 3 else 51) = (51 : Int) := by split <;> omega
  refine r_aload_n C dX1_readCells_0 rfl (lv_at hl 0 rfl) ?_
  obtain ⟨q1, eq1⟩ : ∃ q : CP, q = adC tp ta (sa, en, nm) := ⟨_, rfl⟩
  have iq1 : CI ta q1 := eq1 ▸ ad_ci htp (p := (sa, en, nm)) (by first | omega | (dsimp only; omega)) (by first | omega | (dsimp only; omega)) (by first | omega | (dsimp only; omega)) (by first | omega | (dsimp only; omega))
  have jq1 := iq1
  unfold CI at jq1
  refine r_cVW0 C m_X1_19 (cP_advance (c := c) (tp := tp) (ta := ta) (tk := tkC tp ta sa) (sa := sa) (en := en) (nm := nm) (by omega) (by omega) (by omega) htp) hP hD hS [0, 1] (wPW b c k tp ta (tkC tp ta q1.1) q1.1 q1.2.1 q1.2.2 s (lB (wrF s)) y) rfl lc_PW_tp rfl (by rw [eq1]; exact lp_PW_tp) (wPW_ad.trans wPW_ad.symm) rfl rfl hl.1 dX1_readCells_1 (fun H locs hP hD hS => ?_)
  refine r_aload_n C dX1_readCells_4 rfl (lv_at hl 0 rfl) ?_
  refine r_iconst C dX1_readCells_5 ?_
  refine r_bipush C dX1_readCells_6 (by decide) ?_
  refine r_cVR2 C m_X1_63 (cP_isNumber (c := c) (tp := tp) (ta := ta) (sa := q1.1) (en := q1.2.1) (nm := q1.2.2) ⟨by decide, by decide⟩ ⟨by decide, by decide⟩ ⟨by omega, by omega⟩) (hp_PW_tp hP) rfl rfl hl.1 dX1_readCells_8 ?_
  refine r_topB (nbC tp ta 0 47 q1) Iff.rfl ?_
  refine r_ifB_ne C (tgt := 16) dX1_readCells_11 (by decide) (fun h1 => ?_) (fun h1 => ?_)
  · refine r_aload_n C dX1_readCells_16 rfl (lv_at hl 0 rfl) ?_
    refine g_X1_67 C hP 0 rfl rfl dX1_readCells_17 ?_
    refine r_istore_n C [(3, .int (iI q1.2.2)), (0, .ref (c 0)), (1, .ref (b 0)), (2, .int (iI w))] dX1_readCells_20 rfl hl (by decide) rfl (fun ls hl => ?_)
    refine r_aload_n C dX1_readCells_21 rfl (lv_at hl 1 rfl) ?_
    refine g_X1_67 C hP 0 rfl rfl dX1_readCells_22 ?_
    refine r_istore C [(4, .int (iI q1.2.2)), (3, .int (iI q1.2.2)), (0, .ref (c 0)), (1, .ref (b 0)), (2, .int (iI w))] dX1_readCells_25 hl (by decide) rfl (fun ls hl => ?_)
    refine r_aload_n C dX1_readCells_27 rfl (lv_at hl 2 rfl) ?_
    obtain ⟨q2, eq2⟩ : ∃ q : CP, q = adC tp ta q1 := ⟨_, rfl⟩
    have iq2 : CI ta q2 := eq2 ▸ ad_ci htp (p := q1) (by first | omega | (dsimp only; omega)) (by first | omega | (dsimp only; omega)) (by first | omega | (dsimp only; omega)) (by first | omega | (dsimp only; omega))
    have jq2 := iq2
    unfold CI at jq2
    refine r_cVW0 C m_X1_19 (cP_advance (c := c) (tp := tp) (ta := ta) (tk := tkC tp ta q1.1) (sa := q1.1) (en := q1.2.1) (nm := q1.2.2) (by omega) (by omega) (by omega) htp) hP hD hS [0, 1] (wPW b c k tp ta (tkC tp ta q2.1) q2.1 q2.2.1 q2.2.2 s (lB (wrF s)) y) rfl lc_PW_tp rfl (by rw [eq2]; exact lp_PW_tp) (wPW_ad.trans wPW_ad.symm) rfl rfl hl.1 dX1_readCells_28 (fun H locs hP hD hS => ?_)
    refine r_aload_n C dX1_readCells_31 rfl (lv_at hl 2 rfl) ?_
    refine r_cVX (As := []) C m_X1_76 (cP_sortNamed (c := c) (Z := Z) (tp := tp) (ta := ta) (sa := q2.1) (en := q2.2.1) (nm := q2.2.2) (by omega) (by omega) (by omega) (by omega) htp) (SV_wm (hZ.by hA hS)) (SV_st _) rfl (hp_PW_tp hP) (va_recv C.2.1.1 (hp_PW_tp hP) (q0 := 0) (ci := 1) rfl rfl) hl.1 dX1_readCells_32 ?_
    refine r_top (srC tp ta q2) rfl ?_
    refine r_istore C [(5, .int (iI (srC tp ta q2))), (4, .int (iI q1.2.2)), (3, .int (iI q1.2.2)), (0, .ref (c 0)), (1, .ref (b 0)), (2, .int (iI w))] dX1_readCells_35 hl (by decide) rfl (fun ls hl => ?_)
    refine r_iload C dX1_readCells_37 (lv_at hl 0 rfl) ?_
    refine r_if_ge C (tgt := 44) dX1_readCells_39 (by decide) (by have := srC_rg tp ta q2; exact ⟨by omega, by omega⟩) (fun h2 => ?_) (fun h2 => ?_)
    · refine r_aload_n C dX1_readCells_44 rfl (lv_at hl 3 rfl) ?_
      obtain ⟨q3, eq3⟩ : ∃ q : CP, q = adC tp ta q2 := ⟨_, rfl⟩
      have iq3 : CI ta q3 := eq3 ▸ ad_ci htp (p := q2) (by first | omega | (dsimp only; omega)) (by first | omega | (dsimp only; omega)) (by first | omega | (dsimp only; omega)) (by first | omega | (dsimp only; omega))
      have jq3 := iq3
      unfold CI at jq3
      refine r_cVW0 C m_X1_19 (cP_advance (c := c) (tp := tp) (ta := ta) (tk := tkC tp ta q2.1) (sa := q2.1) (en := q2.2.1) (nm := q2.2.2) (by omega) (by omega) (by omega) htp) hP hD hS [0, 1] (wPW b c k tp ta (tkC tp ta q3.1) q3.1 q3.2.1 q3.2.2 s (lB (wrF s)) y) rfl lc_PW_tp rfl (by rw [eq3]; exact lp_PW_tp) (wPW_ad.trans wPW_ad.symm) rfl rfl hl.1 dX1_readCells_45 (fun H locs hP hD hS => ?_)
      refine r_aload_n C dX1_readCells_48 rfl (lv_at hl 3 rfl) ?_
      refine r_ldcS C ((hZ.by hA hS) 17 (by decide)).1 dX1_readCells_49 ?_
      refine r_cVX (As := [.ref (Z.2.1 (17))]) C m_X1_42 (cP_isWord (c := c) (A := fun q => Z.1 ≤ q) (ad := Z.2.1 (17)) (av := Z.2.2 (17)) (tx := sLs (17)) (tp := tp) (ta := ta) (sa := q3.1) (en := q3.2.1) (nm := q3.2.2) (by omega) (by omega) (by omega) (by omega) htp (sLs_ok (17) (by omega)).1 (sLs_ok (17) (by omega)).2) (SE_wm ((hZ.by hA hS) (17) (by omega)).2) (SE_st _ _ _ _) rfl (hp_PW_tp hP) (va_recv C.2.1.1 (hp_PW_tp hP) (q0 := 0) (ci := 1) rfl rfl) hl.1 dX1_readCells_51 ?_
      refine r_topB (wdC tp ta q3 toL) Iff.rfl ?_
      refine r_ifB_eq C (tgt := 83) dX1_readCells_54 (by decide) (fun h3 => ?_) (fun h3 => ?_)
      · refine r_iload_n C dX1_readCells_83 rfl (lv_at hl 2 rfl) ?_
        refine r_istore C [(6, .int (iI q1.2.2)), (5, .int (iI (srC tp ta q2))), (4, .int (iI q1.2.2)), (3, .int (iI q1.2.2)), (0, .ref (c 0)), (1, .ref (b 0)), (2, .int (iI w))] dX1_readCells_84 hl (by decide) rfl (fun ls hl => ?_)
        refine r_loopW (fun n : Nat => [(0, .ref (c 0)), (1, .ref (b 0)), (2, .int (iI w)), (3, .int (iI q1.2.2)), (4, .int (iI q1.2.2)), (5, .int (iI (srC tp ta q2))), (6, .int (iI (q1.2.2 + n)))]) (fun n : Nat => wPW b c k tp ta (tkC tp ta q3.1) q3.1 q3.2.1 q3.2.2 (clN s (if w = 0 then 3 else 51) q1.2.2 (srC tp ta q2) n) (lB (wrF (clN s (if w = 0 then 3 else 51) q1.2.2 (srC tp ta q2) n))) y) ((q1.2.2 + 1 - q1.2.2).toNat) (lv_eq (lv_sub hl [4, 5, 6, 3, 2, 1, 0] rfl) (by simp only [Int.natCast_zero, Int.add_zero]; rfl)) (va_eq hP rfl) (va_eqD hD rfl) hS (fun n hn ihn ls H locs hl hP hD hS => ?_) (fun ls H locs hl hP hD hS => ?_)
        · have hl : lv_has ls 7 [(0, .ref (c 0)), (1, .ref (b 0)), (2, .int (iI w)), (3, .int (iI q1.2.2)), (4, .int (iI q1.2.2)), (5, .int (iI (srC tp ta q2))), (6, .int (iI (q1.2.2 + n)))] := hl
          have hP : va_P D vwCl (wPW b c k tp ta (tkC tp ta q3.1) q3.1 q3.2.1 q3.2.2 (clN s (if w = 0 then 3 else 51) q1.2.2 (srC tp ta q2) n) (lB (wrF (clN s (if w = 0 then 3 else 51) q1.2.2 (srC tp ta q2) n))) y) H := hP
          have hD : va_D _ (wPW b c k tp ta (tkC tp ta q3.1) q3.1 q3.2.1 q3.2.2 (clN s (if w = 0 then 3 else 51) q1.2.2 (srC tp ta q2) n) (lB (wrF (clN s (if w = 0 then 3 else 51) q1.2.2 (srC tp ta q2) n))) y) := hD
          have hsl : Ok (clN s (if w = 0 then 3 else 51) q1.2.2 (srC tp ta q2) n) := ok_clN hs hb9 (by omega) (by have := srC_rg tp ta q2; omega) (by have := srC_rg tp ta q2; omega) n (by omega)
          refine r_iload C dX1_readCells_86 (lv_at hl 6 rfl) ?_
          refine r_iload C dX1_readCells_88 (lv_at hl 4 rfl) ?_
          refine r_icmp_gt C (tgt := 109) dX1_readCells_90 (by decide) (by exact ⟨by omega, by omega⟩) (by exact ⟨by omega, by omega⟩) (fun h4 => ?_) (fun h4 => ?_)
          · exfalso; omega
          · refine r_aload_n C dX1_readCells_93 rfl (lv_at hl 1 rfl) ?_
            refine r_iload_n C dX1_readCells_94 rfl (lv_at hl 2 rfl) ?_
            refine r_iload C dX1_readCells_95 (lv_at hl 6 rfl) ?_
            refine r_iload C dX1_readCells_97 (lv_at hl 5 rfl) ?_
            refine r_cVW3 C m_X1_81 (cW_paint (b := b) (s := clN s (if w = 0 then 3 else 51) q1.2.2 (srC tp ta q2) n) (y := y) (by exact ⟨by omega, by omega⟩) (by omega) (by omega) (by have := srC_rg tp ta q2; omega) (by have := srC_rg tp ta q2; omega) hsl) hP hD hS [2, 3, 4, 5, 6, 7, 8] (wPW b c k tp ta (tkC tp ta q3.1) q3.1 q3.2.1 q3.2.2 (up (clN s (if w = 0 then 3 else 51) q1.2.2 (srC tp ta q2) n) ((if w = 0 then 3 else 51) + (q1.2.2 + n)) (srC tp ta q2)) (lB (wrF (up (clN s (if w = 0 then 3 else 51) q1.2.2 (srC tp ta q2) n) ((if w = 0 then 3 else 51) + (q1.2.2 + n)) (srC tp ta q2)))) y) rfl lc_PW_s rfl lp_PW_s (wPW_ad.trans wPW_ad.symm) rfl rfl hl.1 dX1_readCells_99 (fun H locs hP hD hS => ?_)
            have hs4 : Ok (up (clN s (if w = 0 then 3 else 51) q1.2.2 (srC tp ta q2) n) ((if w = 0 then 3 else 51) + (q1.2.2 + n)) (srC tp ta q2)) := ok_paint hsl (by omega) (by omega) (by have := srC_rg tp ta q2; omega) (by have := srC_rg tp ta q2; omega)
            refine r_pop C dX1_readCells_102 rfl ?_
            refine r_iinc C 6 [(6, .int (iI (q1.2.2 + n + 1))), (0, .ref (c 0)), (1, .ref (b 0)), (2, .int (iI w)), (3, .int (iI q1.2.2)), (4, .int (iI q1.2.2)), (5, .int (iI (srC tp ta q2)))] dX1_readCells_103 hl rfl (by decide) rfl (fun ls hl => ?_)
            refine r_goto C (tgt := 86) dX1_readCells_106 (by decide) ?_
            have ew5 : wPW b c k tp ta (tkC tp ta q3.1) q3.1 q3.2.1 q3.2.2 (up (clN s (if w = 0 then 3 else 51) q1.2.2 (srC tp ta q2) n) ((if w = 0 then 3 else 51) + (q1.2.2 + n)) (srC tp ta q2)) (lB (wrF (up (clN s (if w = 0 then 3 else 51) q1.2.2 (srC tp ta q2) n) ((if w = 0 then 3 else 51) + (q1.2.2 + n)) (srC tp ta q2)))) y = wPW b c k tp ta (tkC tp ta q3.1) q3.1 q3.2.1 q3.2.2 (clN s (if w = 0 then 3 else 51) q1.2.2 (srC tp ta q2) (n + 1)) (lB (wrF (clN s (if w = 0 then 3 else 51) q1.2.2 (srC tp ta q2) (n + 1)))) y := (by rw [clN])
            exact ihn ls H locs (lv_eq (lv_sub hl [1, 2, 3, 4, 5, 6, 0] rfl) (by simp only [Int.natCast_add, Int.natCast_one, Int.add_assoc]; rfl)) (va_eq hP ew5) (va_eqD hD ew5) hS
        · have hl : lv_has ls 7 [(0, .ref (c 0)), (1, .ref (b 0)), (2, .int (iI w)), (3, .int (iI q1.2.2)), (4, .int (iI q1.2.2)), (5, .int (iI (srC tp ta q2))), (6, .int (iI (q1.2.2 + (q1.2.2 + 1 - q1.2.2).toNat)))] := hl
          have hP : va_P D vwCl (wPW b c k tp ta (tkC tp ta q3.1) q3.1 q3.2.1 q3.2.2 (clN s (if w = 0 then 3 else 51) q1.2.2 (srC tp ta q2) (q1.2.2 + 1 - q1.2.2).toNat) (lB (wrF (clN s (if w = 0 then 3 else 51) q1.2.2 (srC tp ta q2) (q1.2.2 + 1 - q1.2.2).toNat))) y) H := hP
          have hD : va_D _ (wPW b c k tp ta (tkC tp ta q3.1) q3.1 q3.2.1 q3.2.2 (clN s (if w = 0 then 3 else 51) q1.2.2 (srC tp ta q2) (q1.2.2 + 1 - q1.2.2).toNat) (lB (wrF (clN s (if w = 0 then 3 else 51) q1.2.2 (srC tp ta q2) (q1.2.2 + 1 - q1.2.2).toNat))) y) := hD
          have hsl : Ok (clN s (if w = 0 then 3 else 51) q1.2.2 (srC tp ta q2) (q1.2.2 + 1 - q1.2.2).toNat) := ok_clN hs hb9 (by omega) (by have := srC_rg tp ta q2; omega) (by have := srC_rg tp ta q2; omega) ((q1.2.2 + 1 - q1.2.2).toNat) (by omega)
          refine r_iload C dX1_readCells_86 (lv_at hl 6 rfl) ?_
          refine r_iload C dX1_readCells_88 (lv_at hl 4 rfl) ?_
          refine r_icmp_gt C (tgt := 109) dX1_readCells_90 (by decide) (by exact ⟨by omega, by omega⟩) (by exact ⟨by omega, by omega⟩) (fun h5 => ?_) (fun h5 => ?_)
          · refine r_iconst C dX1_readCells_109 ?_
            exact r_zretW C hP hS (by rw [show (q1.2.2 + 1 - q1.2.2).toNat = 1 by omega]; subst eq3; subst eq2; subst eq1; first | (rw [cCl, if_pos h1, if_neg h2, if_neg h3]; done) | (rw [cCl, if_pos h1, if_neg h2, if_neg h3]; rfl)) (iB1 (by subst eq3; subst eq2; subst eq1; first | (rw [cCl, if_pos h1, if_neg h2, if_neg h3]; done) | (rw [cCl, if_pos h1, if_neg h2, if_neg h3]; rfl))) dX1_readCells_110
          · exfalso; omega
      · refine r_aload_n C dX1_readCells_57 rfl (lv_at hl 3 rfl) ?_
        obtain ⟨q6, eq6⟩ : ∃ q : CP, q = adC tp ta q3 := ⟨_, rfl⟩
        have iq6 : CI ta q6 := eq6 ▸ ad_ci htp (p := q3) (by first | omega | (dsimp only; omega)) (by first | omega | (dsimp only; omega)) (by first | omega | (dsimp only; omega)) (by first | omega | (dsimp only; omega))
        have jq6 := iq6
        unfold CI at jq6
        refine r_cVW0 C m_X1_19 (cP_advance (c := c) (tp := tp) (ta := ta) (tk := tkC tp ta q3.1) (sa := q3.1) (en := q3.2.1) (nm := q3.2.2) (by omega) (by omega) (by omega) htp) hP hD hS [0, 1] (wPW b c k tp ta (tkC tp ta q6.1) q6.1 q6.2.1 q6.2.2 s (lB (wrF s)) y) rfl lc_PW_tp rfl (by rw [eq6]; exact lp_PW_tp) (wPW_ad.trans wPW_ad.symm) rfl rfl hl.1 dX1_readCells_58 (fun H locs hP hD hS => ?_)
        refine r_aload_n C dX1_readCells_61 rfl (lv_at hl 3 rfl) ?_
        refine r_iload_n C dX1_readCells_62 rfl (lv_at hl 2 rfl) ?_
        refine r_bipush C dX1_readCells_63 (by decide) ?_
        refine r_cVR2 C m_X1_63 (cP_isNumber (c := c) (tp := tp) (ta := ta) (sa := q6.1) (en := q6.2.1) (nm := q6.2.2) (by exact ⟨by omega, by omega⟩) ⟨by decide, by decide⟩ ⟨by omega, by omega⟩) (hp_PW_tp hP) rfl rfl hl.1 dX1_readCells_65 ?_
        refine r_topB (nbC tp ta q1.2.2 47 q6) Iff.rfl ?_
        refine r_ifB_ne C (tgt := 73) dX1_readCells_68 (by decide) (fun h6 => ?_) (fun h6 => ?_)
        · refine r_aload_n C dX1_readCells_73 rfl (lv_at hl 3 rfl) ?_
          refine g_X1_67 C hP 0 rfl rfl dX1_readCells_74 ?_
          refine r_istore C [(4, .int (iI q6.2.2)), (5, .int (iI (srC tp ta q2))), (3, .int (iI q1.2.2)), (0, .ref (c 0)), (1, .ref (b 0)), (2, .int (iI w))] dX1_readCells_77 hl (by decide) rfl (fun ls hl => ?_)
          refine r_aload_n C dX1_readCells_79 rfl (lv_at hl 3 rfl) ?_
          obtain ⟨q7, eq7⟩ : ∃ q : CP, q = adC tp ta q6 := ⟨_, rfl⟩
          have iq7 : CI ta q7 := eq7 ▸ ad_ci htp (p := q6) (by first | omega | (dsimp only; omega)) (by first | omega | (dsimp only; omega)) (by first | omega | (dsimp only; omega)) (by first | omega | (dsimp only; omega))
          have jq7 := iq7
          unfold CI at jq7
          refine r_cVW0 C m_X1_19 (cP_advance (c := c) (tp := tp) (ta := ta) (tk := tkC tp ta q6.1) (sa := q6.1) (en := q6.2.1) (nm := q6.2.2) (by omega) (by omega) (by omega) htp) hP hD hS [0, 1] (wPW b c k tp ta (tkC tp ta q7.1) q7.1 q7.2.1 q7.2.2 s (lB (wrF s)) y) rfl lc_PW_tp rfl (by rw [eq7]; exact lp_PW_tp) (wPW_ad.trans wPW_ad.symm) rfl rfl hl.1 dX1_readCells_80 (fun H locs hP hD hS => ?_)
          refine r_iload_n C dX1_readCells_83 rfl (lv_at hl 2 rfl) ?_
          refine r_istore C [(6, .int (iI q1.2.2)), (4, .int (iI q6.2.2)), (5, .int (iI (srC tp ta q2))), (3, .int (iI q1.2.2)), (0, .ref (c 0)), (1, .ref (b 0)), (2, .int (iI w))] dX1_readCells_84 hl (by decide) rfl (fun ls hl => ?_)
          refine r_loopW (fun n : Nat => [(0, .ref (c 0)), (1, .ref (b 0)), (2, .int (iI w)), (3, .int (iI q1.2.2)), (4, .int (iI q6.2.2)), (5, .int (iI (srC tp ta q2))), (6, .int (iI (q1.2.2 + n)))]) (fun n : Nat => wPW b c k tp ta (tkC tp ta q7.1) q7.1 q7.2.1 q7.2.2 (clN s (if w = 0 then 3 else 51) q1.2.2 (srC tp ta q2) n) (lB (wrF (clN s (if w = 0 then 3 else 51) q1.2.2 (srC tp ta q2) n))) y) ((q6.2.2 + 1 - q1.2.2).toNat) (lv_eq (lv_sub hl [4, 5, 6, 3, 1, 2, 0] rfl) (by simp only [Int.natCast_zero, Int.add_zero]; rfl)) (va_eq hP rfl) (va_eqD hD rfl) hS (fun n hn ihn ls H locs hl hP hD hS => ?_) (fun ls H locs hl hP hD hS => ?_)
          · have hl : lv_has ls 7 [(0, .ref (c 0)), (1, .ref (b 0)), (2, .int (iI w)), (3, .int (iI q1.2.2)), (4, .int (iI q6.2.2)), (5, .int (iI (srC tp ta q2))), (6, .int (iI (q1.2.2 + n)))] := hl
            have hP : va_P D vwCl (wPW b c k tp ta (tkC tp ta q7.1) q7.1 q7.2.1 q7.2.2 (clN s (if w = 0 then 3 else 51) q1.2.2 (srC tp ta q2) n) (lB (wrF (clN s (if w = 0 then 3 else 51) q1.2.2 (srC tp ta q2) n))) y) H := hP
            have hD : va_D _ (wPW b c k tp ta (tkC tp ta q7.1) q7.1 q7.2.1 q7.2.2 (clN s (if w = 0 then 3 else 51) q1.2.2 (srC tp ta q2) n) (lB (wrF (clN s (if w = 0 then 3 else 51) q1.2.2 (srC tp ta q2) n))) y) := hD
            have hsl : Ok (clN s (if w = 0 then 3 else 51) q1.2.2 (srC tp ta q2) n) := ok_clN hs hb9 (by omega) (by have := srC_rg tp ta q2; omega) (by have := srC_rg tp ta q2; omega) n (by omega)
            refine r_iload C dX1_readCells_86 (lv_at hl 6 rfl) ?_
            refine r_iload C dX1_readCells_88 (lv_at hl 4 rfl) ?_
            refine r_icmp_gt C (tgt := 109) dX1_readCells_90 (by decide) (by exact ⟨by omega, by omega⟩) (by exact ⟨by omega, by omega⟩) (fun h7 => ?_) (fun h7 => ?_)
            · exfalso; omega
            · refine r_aload_n C dX1_readCells_93 rfl (lv_at hl 1 rfl) ?_
              refine r_iload_n C dX1_readCells_94 rfl (lv_at hl 2 rfl) ?_
              refine r_iload C dX1_readCells_95 (lv_at hl 6 rfl) ?_
              refine r_iload C dX1_readCells_97 (lv_at hl 5 rfl) ?_
              refine r_cVW3 C m_X1_81 (cW_paint (b := b) (s := clN s (if w = 0 then 3 else 51) q1.2.2 (srC tp ta q2) n) (y := y) (by exact ⟨by omega, by omega⟩) (by omega) (by omega) (by have := srC_rg tp ta q2; omega) (by have := srC_rg tp ta q2; omega) hsl) hP hD hS [2, 3, 4, 5, 6, 7, 8] (wPW b c k tp ta (tkC tp ta q7.1) q7.1 q7.2.1 q7.2.2 (up (clN s (if w = 0 then 3 else 51) q1.2.2 (srC tp ta q2) n) ((if w = 0 then 3 else 51) + (q1.2.2 + n)) (srC tp ta q2)) (lB (wrF (up (clN s (if w = 0 then 3 else 51) q1.2.2 (srC tp ta q2) n) ((if w = 0 then 3 else 51) + (q1.2.2 + n)) (srC tp ta q2)))) y) rfl lc_PW_s rfl lp_PW_s (wPW_ad.trans wPW_ad.symm) rfl rfl hl.1 dX1_readCells_99 (fun H locs hP hD hS => ?_)
              have hs8 : Ok (up (clN s (if w = 0 then 3 else 51) q1.2.2 (srC tp ta q2) n) ((if w = 0 then 3 else 51) + (q1.2.2 + n)) (srC tp ta q2)) := ok_paint hsl (by omega) (by omega) (by have := srC_rg tp ta q2; omega) (by have := srC_rg tp ta q2; omega)
              refine r_pop C dX1_readCells_102 rfl ?_
              refine r_iinc C 6 [(6, .int (iI (q1.2.2 + n + 1))), (0, .ref (c 0)), (1, .ref (b 0)), (2, .int (iI w)), (3, .int (iI q1.2.2)), (4, .int (iI q6.2.2)), (5, .int (iI (srC tp ta q2)))] dX1_readCells_103 hl rfl (by decide) rfl (fun ls hl => ?_)
              refine r_goto C (tgt := 86) dX1_readCells_106 (by decide) ?_
              have ew9 : wPW b c k tp ta (tkC tp ta q7.1) q7.1 q7.2.1 q7.2.2 (up (clN s (if w = 0 then 3 else 51) q1.2.2 (srC tp ta q2) n) ((if w = 0 then 3 else 51) + (q1.2.2 + n)) (srC tp ta q2)) (lB (wrF (up (clN s (if w = 0 then 3 else 51) q1.2.2 (srC tp ta q2) n) ((if w = 0 then 3 else 51) + (q1.2.2 + n)) (srC tp ta q2)))) y = wPW b c k tp ta (tkC tp ta q7.1) q7.1 q7.2.1 q7.2.2 (clN s (if w = 0 then 3 else 51) q1.2.2 (srC tp ta q2) (n + 1)) (lB (wrF (clN s (if w = 0 then 3 else 51) q1.2.2 (srC tp ta q2) (n + 1)))) y := (by rw [clN])
              exact ihn ls H locs (lv_eq (lv_sub hl [1, 2, 3, 4, 5, 6, 0] rfl) (by simp only [Int.natCast_add, Int.natCast_one, Int.add_assoc]; rfl)) (va_eq hP ew9) (va_eqD hD ew9) hS
          · have hl : lv_has ls 7 [(0, .ref (c 0)), (1, .ref (b 0)), (2, .int (iI w)), (3, .int (iI q1.2.2)), (4, .int (iI q6.2.2)), (5, .int (iI (srC tp ta q2))), (6, .int (iI (q1.2.2 + (q6.2.2 + 1 - q1.2.2).toNat)))] := hl
            have hP : va_P D vwCl (wPW b c k tp ta (tkC tp ta q7.1) q7.1 q7.2.1 q7.2.2 (clN s (if w = 0 then 3 else 51) q1.2.2 (srC tp ta q2) (q6.2.2 + 1 - q1.2.2).toNat) (lB (wrF (clN s (if w = 0 then 3 else 51) q1.2.2 (srC tp ta q2) (q6.2.2 + 1 - q1.2.2).toNat))) y) H := hP
            have hD : va_D _ (wPW b c k tp ta (tkC tp ta q7.1) q7.1 q7.2.1 q7.2.2 (clN s (if w = 0 then 3 else 51) q1.2.2 (srC tp ta q2) (q6.2.2 + 1 - q1.2.2).toNat) (lB (wrF (clN s (if w = 0 then 3 else 51) q1.2.2 (srC tp ta q2) (q6.2.2 + 1 - q1.2.2).toNat))) y) := hD
            have hsl : Ok (clN s (if w = 0 then 3 else 51) q1.2.2 (srC tp ta q2) (q6.2.2 + 1 - q1.2.2).toNat) := ok_clN hs hb9 (by omega) (by have := srC_rg tp ta q2; omega) (by have := srC_rg tp ta q2; omega) ((q6.2.2 + 1 - q1.2.2).toNat) (by omega)
            refine r_iload C dX1_readCells_86 (lv_at hl 6 rfl) ?_
            refine r_iload C dX1_readCells_88 (lv_at hl 4 rfl) ?_
            refine r_icmp_gt C (tgt := 109) dX1_readCells_90 (by decide) (by exact ⟨by omega, by omega⟩) (by exact ⟨by omega, by omega⟩) (fun h8 => ?_) (fun h8 => ?_)
            · refine r_iconst C dX1_readCells_109 ?_
              exact r_zretW C hP hS (by subst eq7; subst eq6; subst eq3; subst eq2; subst eq1; first | (rw [cCl, if_pos h1, if_neg h2, if_pos h3, if_pos h6]; done) | (rw [cCl, if_pos h1, if_neg h2, if_pos h3, if_pos h6]; rfl)) (iB1 (by subst eq7; subst eq6; subst eq3; subst eq2; subst eq1; first | (rw [cCl, if_pos h1, if_neg h2, if_pos h3, if_pos h6]; done) | (rw [cCl, if_pos h1, if_neg h2, if_pos h3, if_pos h6]; rfl))) dX1_readCells_110
            · exfalso; omega
        · refine r_iconst C dX1_readCells_71 ?_
          exact r_zretW C hP hS (by subst eq6; subst eq3; subst eq2; subst eq1; first | (rw [cCl, if_pos h1, if_neg h2, if_pos h3, if_neg h6]; done) | (rw [cCl, if_pos h1, if_neg h2, if_pos h3, if_neg h6]; rfl)) (iB0 (by subst eq6; subst eq3; subst eq2; subst eq1; rw [cCl, if_pos h1, if_neg h2, if_pos h3, if_neg h6]; exact (show ¬ (0 : Int) = 1 by decide))) dX1_readCells_72
    · refine r_iconst C dX1_readCells_42 ?_
      exact r_zretW C hP hS (by subst eq2; subst eq1; first | (rw [cCl, if_pos h1, if_pos h2]; done) | (rw [cCl, if_pos h1, if_pos h2]; rfl)) (iB0 (by subst eq2; subst eq1; rw [cCl, if_pos h1, if_pos h2]; exact (show ¬ (0 : Int) = 1 by decide))) dX1_readCells_43
  · refine r_iconst C dX1_readCells_14 ?_
    exact r_zretW C hP hS (by subst eq1; first | (rw [cCl, if_neg h1]; done) | (rw [cCl, if_neg h1]; rfl)) (iB0 (by subst eq1; rw [cCl, if_neg h1]; exact (show ¬ (0 : Int) = 1 by decide))) dX1_readCells_15
theorem cP_readCells0 (hsa : 0 ≤ sa) (hse : sa ≤ en) (hen : en ≤ ta) (hta : ta ≤ 120) (hnm : 0 ≤ nm) (hnm1 : nm ≤ 10000) (htp : ∀ i, 0 ≤ tp i ∧ tp i ≤ 255) (hs : Ok s) : MWX Z l yX1_readCells cX1_readCells 7 (some .boolean) 6 128 D k [.ref (c 0), .ref (b 0), .int (iI 0)] (wPW b c k tp ta (tkC tp ta sa) sa en nm s (lB (wrF s)) y) (wPW b c k tp ta (tkC tp ta (cCl tp ta 3 s (sa, en, nm)).2.2.1) (cCl tp ta 3 s (sa, en, nm)).2.2.1 (cCl tp ta 3 s (sa, en, nm)).2.2.2.1 (cCl tp ta 3 s (sa, en, nm)).2.2.2.2 (cCl tp ta 3 s (sa, en, nm)).2.1 (lB (wrF (cCl tp ta 3 s (sa, en, nm)).2.1)) y) (some (.int (iB ((cCl tp ta 3 s (sa, en, nm)).1 = 1)))) := cP_readCells (w := 0) hsa hse hen hta hnm hnm1 htp hs ⟨by decide, by decide⟩
theorem cP_readCells1 (hsa : 0 ≤ sa) (hse : sa ≤ en) (hen : en ≤ ta) (hta : ta ≤ 120) (hnm : 0 ≤ nm) (hnm1 : nm ≤ 10000) (htp : ∀ i, 0 ≤ tp i ∧ tp i ≤ 255) (hs : Ok s) : MWX Z l yX1_readCells cX1_readCells 7 (some .boolean) 6 128 D k [.ref (c 0), .ref (b 0), .int (iI 1)] (wPW b c k tp ta (tkC tp ta sa) sa en nm s (lB (wrF s)) y) (wPW b c k tp ta (tkC tp ta (cCl tp ta 51 s (sa, en, nm)).2.2.1) (cCl tp ta 51 s (sa, en, nm)).2.2.1 (cCl tp ta 51 s (sa, en, nm)).2.2.2.1 (cCl tp ta 51 s (sa, en, nm)).2.2.2.2 (cCl tp ta 51 s (sa, en, nm)).2.1 (lB (wrF (cCl tp ta 51 s (sa, en, nm)).2.1)) y) (some (.int (iB ((cCl tp ta 51 s (sa, en, nm)).1 = 1)))) := cP_readCells (w := 1) hsa hse hen hta hnm hnm1 htp hs ⟨by decide, by decide⟩
set_option maxHeartbeats 400000 in
set_option maxRecDepth 100000 in
theorem cP_readItem  (hsa : 0 ≤ sa) (hse : sa ≤ en) (hen : en ≤ ta) (hta : ta ≤ 120) (hnm : 0 ≤ nm) (hnm1 : nm ≤ 10000) (htp : ∀ i, 0 ≤ tp i ∧ tp i ≤ 255) (hs : Ok s) : MWX Z l yX1_readItem cX1_readItem 3 (some .boolean) 7 154 D k [.ref (c 0), .ref (b 0)] (wPW b c k tp ta (tkC tp ta sa) sa en nm s (lB (wrF s)) y) (wPW b c k tp ta (tkC tp ta (cIt tp ta s (sa, en, nm)).2.2.1) ((cIt tp ta s (sa, en, nm)).2.2.1) ((cIt tp ta s (sa, en, nm)).2.2.2.1) ((cIt tp ta s (sa, en, nm)).2.2.2.2) ((cIt tp ta s (sa, en, nm)).2.1) (lB (wrF ((cIt tp ta s (sa, en, nm)).2.1))) y) (some (.int (iB ((cIt tp ta s (sa, en, nm)).1 = 1)))) := by
  refine MWX.mk RX1 rfl (by decide +kernel) (Nat.le_of_ble_eq_true rfl) (fun p e U m0 below meth cd ls C hA hZ hP hD hS hl => ?_)
  have hl : lv_has ls 3 [(0, .ref (c 0)), (1, .ref (b 0))] := hl
  have h00 := hs.1 0 (by decide)
  have h06 := hs.2.2.1
  refine r_aload_n C dX1_readItem_0 rfl (lv_at hl 0 rfl) ?_
  refine r_cVX (As := []) C m_X1_32 (cP_kindNamed (c := c) (Z := Z) (tp := tp) (ta := ta) (sa := sa) (en := en) (nm := nm) (by omega) (by omega) (by omega) (by omega) htp) (SV_wm (hZ.by hA hS)) (SV_st _) rfl (hp_PW_tp hP) (va_recv C.2.1.1 (hp_PW_tp hP) (q0 := 0) (ci := 1) rfl rfl) hl.1 dX1_readItem_1 ?_
  refine r_top (kdC tp ta (sa, en, nm)) rfl ?_
  refine r_istore_n C [(2, .int (iI (kdC tp ta (sa, en, nm)))), (0, .ref (c 0)), (1, .ref (b 0))] dX1_readItem_4 rfl hl (by decide) rfl (fun ls hl => ?_)
  refine r_iload_n C dX1_readItem_5 rfl (lv_at hl 0 rfl) ?_
  refine r_if_lt C (tgt := 16) dX1_readItem_6 (by decide) (by have := kdC_rg tp ta (sa, en, nm); exact ⟨by omega, by omega⟩) (fun h1 => ?_) (fun h1 => ?_)
  · refine r_aload_n C dX1_readItem_16 rfl (lv_at hl 1 rfl) ?_
    refine r_ldcS C ((hZ.by hA hS) 12 (by decide)).1 dX1_readItem_17 ?_
    refine r_cVX (As := [.ref (Z.2.1 (12))]) C m_X1_42 (cP_isWord (c := c) (A := fun q => Z.1 ≤ q) (ad := Z.2.1 (12)) (av := Z.2.2 (12)) (tx := sLs (12)) (tp := tp) (ta := ta) (sa := sa) (en := en) (nm := nm) (by omega) (by omega) (by omega) (by omega) htp (sLs_ok (12) (by omega)).1 (sLs_ok (12) (by omega)).2) (SE_wm ((hZ.by hA hS) (12) (by omega)).2) (SE_st _ _ _ _) rfl (hp_PW_tp hP) (va_recv C.2.1.1 (hp_PW_tp hP) (q0 := 0) (ci := 1) rfl rfl) hl.1 dX1_readItem_19 ?_
    refine r_topB (wdC tp ta (sa, en, nm) laL) Iff.rfl ?_
    refine r_ifB_eq C (tgt := 32) dX1_readItem_22 (by decide) (fun h2 => ?_) (fun h2 => ?_)
    · refine r_aload_n C dX1_readItem_32 rfl (lv_at hl 1 rfl) ?_
      refine r_ldcS C ((hZ.by hA hS) 13 (by decide)).1 dX1_readItem_33 ?_
      refine r_cVX (As := [.ref (Z.2.1 (13))]) C m_X1_42 (cP_isWord (c := c) (A := fun q => Z.1 ≤ q) (ad := Z.2.1 (13)) (av := Z.2.2 (13)) (tx := sLs (13)) (tp := tp) (ta := ta) (sa := sa) (en := en) (nm := nm) (by omega) (by omega) (by omega) (by omega) htp (sLs_ok (13) (by omega)).1 (sLs_ok (13) (by omega)).2) (SE_wm ((hZ.by hA hS) (13) (by omega)).2) (SE_st _ _ _ _) rfl (hp_PW_tp hP) (va_recv C.2.1.1 (hp_PW_tp hP) (q0 := 0) (ci := 1) rfl rfl) hl.1 dX1_readItem_35 ?_
      refine r_topB (wdC tp ta (sa, en, nm) maL) Iff.rfl ?_
      refine r_ifB_eq C (tgt := 48) dX1_readItem_38 (by decide) (fun h3 => ?_) (fun h3 => ?_)
      · refine r_aload_n C dX1_readItem_48 rfl (lv_at hl 1 rfl) ?_
        refine r_ldcS C ((hZ.by hA hS) 14 (by decide)).1 dX1_readItem_49 ?_
        refine r_cVX (As := [.ref (Z.2.1 (14))]) C m_X1_42 (cP_isWord (c := c) (A := fun q => Z.1 ≤ q) (ad := Z.2.1 (14)) (av := Z.2.2 (14)) (tx := sLs (14)) (tp := tp) (ta := ta) (sa := sa) (en := en) (nm := nm) (by omega) (by omega) (by omega) (by omega) htp (sLs_ok (14) (by omega)).1 (sLs_ok (14) (by omega)).2) (SE_wm ((hZ.by hA hS) (14) (by omega)).2) (SE_st _ _ _ _) rfl (hp_PW_tp hP) (va_recv C.2.1.1 (hp_PW_tp hP) (q0 := 0) (ci := 1) rfl rfl) hl.1 dX1_readItem_51 ?_
        refine r_topB (wdC tp ta (sa, en, nm) inL) Iff.rfl ?_
        refine r_ifB_eq C (tgt := 69) dX1_readItem_54 (by decide) (fun h4 => ?_) (fun h4 => ?_)
        · refine r_iconst C dX1_readItem_69 ?_
          exact r_zretW C hP hS (by first | (rw [cIt, if_pos h1, if_neg h2, if_neg h3, if_neg h4]; done) | (rw [cIt, if_pos h1, if_neg h2, if_neg h3, if_neg h4]; rfl)) (iB0 (by rw [cIt, if_pos h1, if_neg h2, if_neg h3, if_neg h4]; exact (show ¬ (0 : Int) = 1 by decide))) dX1_readItem_70
        · refine r_aload_n C dX1_readItem_57 rfl (lv_at hl 1 rfl) ?_
          refine r_aload_n C dX1_readItem_58 rfl (lv_at hl 2 rfl) ?_
          refine r_cVWA1 C m_X1_53 (cP_readIncome (b := b) (c := c) (tp := tp) (ta := ta) (sa := sa) (en := en) (nm := nm) (s := s) (y := y) (by omega) (by omega) (by omega) (by omega) (by omega) (by omega) htp hs) hP hD hS (wPW_ad.trans wPW_ad.symm) rfl rfl hl.1 dX1_readItem_59 (fun H locs hP hD hS => ?_)
          refine r_ifB_eq C (tgt := 69) dX1_readItem_62 (by decide) (fun h5 => ?_) (fun h5 => ?_)
          · refine r_iconst C dX1_readItem_69 ?_
            exact r_zretW C hP hS (by first | (rw [cIt, if_pos h1, if_neg h2, if_neg h3, if_pos h4]; done) | (rw [cIt, if_pos h1, if_neg h2, if_neg h3, if_pos h4]; rfl)) (iB0 (by rw [cIt, if_pos h1, if_neg h2, if_neg h3, if_pos h4]; exact h5)) dX1_readItem_70
          · refine r_iconst C dX1_readItem_65 ?_
            refine r_goto C (tgt := 70) dX1_readItem_66 (by decide) ?_
            exact r_zretW C hP hS (by first | (rw [cIt, if_pos h1, if_neg h2, if_neg h3, if_pos h4]; done) | (rw [cIt, if_pos h1, if_neg h2, if_neg h3, if_pos h4]; rfl)) (iB1 (by rw [cIt, if_pos h1, if_neg h2, if_neg h3, if_pos h4]; exact h5)) dX1_readItem_70
      · refine r_aload_n C dX1_readItem_41 rfl (lv_at hl 1 rfl) ?_
        refine r_aload_n C dX1_readItem_42 rfl (lv_at hl 2 rfl) ?_
        refine r_iconst C dX1_readItem_43 ?_
        refine r_cVWXA (As := [.ref (b 0), .int (iI 1)]) C m_X1_46 (cP_readCells1 (b := b) (c := c) (Z := Z) (tp := tp) (ta := ta) (sa := sa) (en := en) (nm := nm) (s := s) (y := y) (by omega) (by omega) (by omega) (by omega) (by omega) (by omega) htp hs) (hZ.by hA hS) (va_D.same hA (wPW_ad.trans wPW_ad.symm)) rfl hP hD hS (wPW_ad.trans wPW_ad.symm) rfl rfl hl.1 dX1_readItem_44 (fun H locs hP hD hS => ?_)
        exact r_zretW C hP hS (by first | (rw [cIt, if_pos h1, if_neg h2, if_pos h3]; done) | (rw [cIt, if_pos h1, if_neg h2, if_pos h3]; rfl)) (iB_iff (by rw [cIt, if_pos h1, if_neg h2, if_pos h3])) dX1_readItem_47
    · refine r_aload_n C dX1_readItem_25 rfl (lv_at hl 1 rfl) ?_
      refine r_aload_n C dX1_readItem_26 rfl (lv_at hl 2 rfl) ?_
      refine r_iconst C dX1_readItem_27 ?_
      refine r_cVWXA (As := [.ref (b 0), .int (iI 0)]) C m_X1_46 (cP_readCells0 (b := b) (c := c) (Z := Z) (tp := tp) (ta := ta) (sa := sa) (en := en) (nm := nm) (s := s) (y := y) (by omega) (by omega) (by omega) (by omega) (by omega) (by omega) htp hs) (hZ.by hA hS) (va_D.same hA (wPW_ad.trans wPW_ad.symm)) rfl hP hD hS (wPW_ad.trans wPW_ad.symm) rfl rfl hl.1 dX1_readItem_28 (fun H locs hP hD hS => ?_)
      exact r_zretW C hP hS (by first | (rw [cIt, if_pos h1, if_pos h2]; done) | (rw [cIt, if_pos h1, if_pos h2]; rfl)) (iB_iff (by rw [cIt, if_pos h1, if_pos h2])) dX1_readItem_31
  · refine r_aload_n C dX1_readItem_9 rfl (lv_at hl 1 rfl) ?_
    refine r_aload_n C dX1_readItem_10 rfl (lv_at hl 2 rfl) ?_
    refine r_iload_n C dX1_readItem_11 rfl (lv_at hl 0 rfl) ?_
    refine r_cVWXA (As := [.ref (b 0), .int (iI (kdC tp ta (sa, en, nm)))]) C m_X1_36 (cP_readMender (b := b) (c := c) (Z := Z) (tp := tp) (ta := ta) (sa := sa) (en := en) (nm := nm) (s := s) (y := y) (by omega) (by omega) (by omega) (by omega) (by omega) (by omega) htp hs (by have := kdC_rg tp ta (sa, en, nm); omega) (by have := kdC_rg tp ta (sa, en, nm); omega)) (hZ.by hA hS) (va_D.same hA (wPW_ad.trans wPW_ad.symm)) rfl hP hD hS (wPW_ad.trans wPW_ad.symm) rfl rfl hl.1 dX1_readItem_12 (fun H locs hP hD hS => ?_)
    exact r_zretW C hP hS (by first | (rw [cIt, if_neg h1]; done) | (rw [cIt, if_neg h1]; rfl)) (iB_iff (by rw [cIt, if_neg h1])) dX1_readItem_15
end CLASS
