section CLASS
variable {l : Launch} {D : va_G} {k : Nat → ClassId} {a c : Nat → Nat} {s t kq tp bi si st : Int → Int} {wr tw kw : Int64} {y ty ky ta tk sa en nm ik bt sz : Int} {nu nf : Int → Int64}
theorem nd2 (n : Nat) : va_nd [25 + 2 * n, 26 + 2 * n] = true := by
  unfold va_nd
  simp [va_nd]
set_option maxHeartbeats 400000 in
set_option maxRecDepth 100000 in
theorem cT_sheet {sh : Int} {b : Int} {n0 : Int} (zsh : In32 sh) (zb : In32 b) (zn0 : In32 n0) (hbi : ∀ i, 0 ≤ bi i ∧ bi i ≤ 64) (hsi : ∀ i, 0 ≤ si i ∧ si i ≤ 40) : ME l yX3_sheet cX3_sheet 4 (some .int) 2 42 D k [.ref (a 0), .int (iI sh), .int (iI b), .int (iI n0)] (wT a k s (lB (wrF s)) y t tw ty kq (lB (wrF kq)) ky tp ta tk sa en nm bi si nu st ik) (fun x : (Int → Int) × Int64 × Int × Int × Int × Int => wT a k s (lB (wrF s)) y x.1 x.2.1 x.2.2.1 kq (lB (wrF kq)) ky tp ta x.2.2.2.1 x.2.2.2.2.1 x.2.2.2.2.2 nm ((fSheet st bi si nu sh b n0).2.2.1) ((fSheet st bi si nu sh b n0).2.2.2.1) ((fSheet st bi si nu sh b n0).2.2.2.2) ((fSheet st bi si nu sh b n0).2.1) ik) (some (.int (iI ((fSheet st bi si nu sh b n0).1)))) := by
  refine ME.mk RX3 rfl (by decide +kernel) (Nat.le_of_ble_eq_true rfl) (fun p e U m0 below meth cd ls C hP hD hS hl => ?_)
  have hl : lv_has ls 4 [(0, .ref (a 0)), (1, .int (iI sh)), (2, .int (iI b)), (3, .int (iI n0))] := hl
  have zsh1 := zsh.1
  have zsh2 := zsh.2
  have zb1 := zb.1
  have zb2 := zb.2
  have zn01 := zn0.1
  have zn02 := zn0.2
  refine r_iload_n C dX3_sheet_0 rfl (lv_at hl 1 rfl) ?_
  refine r_cSR1 C m_X3_189 (cT_noSheet (by exact ⟨by omega, by omega⟩)) pn0 hl.1 dX3_sheet_1 ?_
  refine r_ifB_ne C (tgt := 29) dX3_sheet_4 (by decide) (fun h1 => ?_) (fun h1 => ?_)
  · refine r_aload_n C dX3_sheet_29 rfl (lv_at hl 0 rfl) ?_
    refine r_ldc C (-1000000001) ki_X3_48 (by decide) dX3_sheet_30 ?_
    refine r_cVWA1 C m_X3_49 (cT_finding (by omega) (by omega)) hP hD hS (wT_ad.trans wT_ad.symm) rfl rfl hl.1 dX3_sheet_32 (fun H locs hP hD hS => ?_)
    exact r_iretE C hP hS (t, tw, ty, tk, sa, en) (by first | (simp only [fSheet, h1, not_true_eq_false, not_false_eq_true, and_true, true_and, and_false, false_and, or_true, true_or, or_false, false_or, if_true, if_false, ne_eq, reduceIte]; done) | (simp only [fSheet, show ¬ n0 ≤ 40 by omega, h1, not_true_eq_false, not_false_eq_true, and_true, true_and, and_false, false_and, or_true, true_or, or_false, false_or, if_true, if_false, ne_eq, reduceIte]; done)) (by first | (simp only [fSheet, h1, not_true_eq_false, not_false_eq_true, and_true, true_and, and_false, false_and, or_true, true_or, or_false, false_or, if_true, if_false, ne_eq, reduceIte]; done) | (simp only [fSheet, show ¬ n0 ≤ 40 by omega, h1, not_true_eq_false, not_false_eq_true, and_true, true_and, and_false, false_and, or_true, true_or, or_false, false_or, if_true, if_false, ne_eq, reduceIte]; done)) dX3_sheet_35
  · have h1 := Classical.not_not.mp h1
    refine r_iload_n C dX3_sheet_7 rfl (lv_at hl 2 rfl) ?_
    refine r_if_eq C (tgt := 36) dX3_sheet_8 (by decide) (by exact ⟨by omega, by omega⟩) (fun h2 => ?_) (fun h2 => ?_)
    · refine r_iload_n C dX3_sheet_36 rfl (lv_at hl 3 rfl) ?_
      refine r_if_ge C (tgt := 47) dX3_sheet_37 (by decide) (by exact ⟨by omega, by omega⟩) (fun h3 => ?_) (fun h3 => ?_)
      · refine r_iload_n C dX3_sheet_47 rfl (lv_at hl 3 rfl) ?_
        refine r_bipush C dX3_sheet_48 (by decide) ?_
        refine r_icmp_le C (tgt := 60) dX3_sheet_50 (by decide) (by exact ⟨by omega, by omega⟩) ⟨by decide, by decide⟩ (fun h4 => ?_) (fun h4 => ?_)
        · refine r_aload_n C dX3_sheet_60 rfl (lv_at hl 0 rfl) ?_
          refine g_X3_31 C hP 0 rfl rfl dX3_sheet_61 ?_
          refine r_iload_n C dX3_sheet_64 rfl (lv_at hl 1 rfl) ?_
          refine r_aaldS C hP 24 (a := a) rfl dX3_sheet_65 (by omega) (by omega) ?_
          refine r_iload_n C dX3_sheet_66 rfl (lv_at hl 2 rfl) ?_
          refine r_iload_n C dX3_sheet_67 rfl (lv_at hl 3 rfl) ?_
          refine r_cVW2 C m_X3_193 (cS_clear (c := fun i => a (25 + 2 * sh.toNat + i)) (nf := shF nu sh) (bt := bi sh) (sz := si sh) (by exact ⟨by omega, by omega⟩) (by exact ⟨by omega, by omega⟩)) hP hD hS [25 + 2 * sh.toNat, 26 + 2 * sh.toNat] (wT a k s (lB (wrF s)) y t tw ty kq (lB (wrF kq)) ky tp ta tk sa en nm (up bi sh b) (up si sh (if b = 0 then 0 else n0)) (zr40 nu sh 40) st ik) (nd2 _) (lc_T_nu (by omega) (by omega)) rfl (lp_T_nu (by omega) (by omega) (zr_sh _ _ 40 (Nat.le_refl 40)) (up_s _ _ _) (up_s _ _ _) (fun j _ _ hj => ⟨zr_o _ hj 40 (Nat.le_refl 40), up_n hj, up_n hj⟩)) (wT_ad.trans wT_ad.symm) rfl rfl hl.1 dX3_sheet_68 (fun H locs hP hD hS => ?_)
          refine r_aload_n C dX3_sheet_71 rfl (lv_at hl 0 rfl) ?_
          refine g_X3_31 C hP 0 rfl rfl dX3_sheet_72 ?_
          refine r_iload_n C dX3_sheet_75 rfl (lv_at hl 1 rfl) ?_
          refine r_aaldS C hP 24 (a := a) rfl dX3_sheet_76 (by omega) (by omega) ?_
          refine g_X3_196 C hP (25 + 2 * sh.toNat) (wT_sh (by omega) (by omega)) rfl dX3_sheet_77 ?_
          exact r_iretE C hP hS (t, tw, ty, tk, sa, en) (by first | (simp only [fSheet, h1, eq_true h2, h3, h4, not_true_eq_false, not_false_eq_true, and_true, true_and, and_false, false_and, or_true, true_or, or_false, false_or, if_true, if_false, ne_eq, reduceIte]; done) | (simp only [fSheet, show ¬ n0 ≤ 40 by omega, h1, eq_true h2, h3, h4, not_true_eq_false, not_false_eq_true, and_true, true_and, and_false, false_and, or_true, true_or, or_false, false_or, if_true, if_false, ne_eq, reduceIte]; done)) (by first | (simp only [fSheet, h1, eq_true h2, h3, h4, not_true_eq_false, not_false_eq_true, and_true, true_and, and_false, false_and, or_true, true_or, or_false, false_or, if_true, if_false, ne_eq, reduceIte]; done) | (simp only [fSheet, show ¬ n0 ≤ 40 by omega, h1, eq_true h2, h3, h4, not_true_eq_false, not_false_eq_true, and_true, true_and, and_false, false_and, or_true, true_or, or_false, false_or, if_true, if_false, ne_eq, reduceIte]; done)) dX3_sheet_80
        · refine r_aload_n C dX3_sheet_53 rfl (lv_at hl 0 rfl) ?_
          refine r_ldc C (-1000000001) ki_X3_48 (by decide) dX3_sheet_54 ?_
          refine r_cVWA1 C m_X3_49 (cT_finding (by omega) (by omega)) hP hD hS (wT_ad.trans wT_ad.symm) rfl rfl hl.1 dX3_sheet_56 (fun H locs hP hD hS => ?_)
          exact r_iretE C hP hS (t, tw, ty, tk, sa, en) (by first | (simp only [fSheet, h1, eq_true h2, h3, h4, not_true_eq_false, not_false_eq_true, and_true, true_and, and_false, false_and, or_true, true_or, or_false, false_or, if_true, if_false, ne_eq, reduceIte]; done) | (simp only [fSheet, show ¬ n0 ≤ 40 by omega, h1, eq_true h2, h3, h4, not_true_eq_false, not_false_eq_true, and_true, true_and, and_false, false_and, or_true, true_or, or_false, false_or, if_true, if_false, ne_eq, reduceIte]; done)) (by first | (simp only [fSheet, h1, eq_true h2, h3, h4, not_true_eq_false, not_false_eq_true, and_true, true_and, and_false, false_and, or_true, true_or, or_false, false_or, if_true, if_false, ne_eq, reduceIte]; done) | (simp only [fSheet, show ¬ n0 ≤ 40 by omega, h1, eq_true h2, h3, h4, not_true_eq_false, not_false_eq_true, and_true, true_and, and_false, false_and, or_true, true_or, or_false, false_or, if_true, if_false, ne_eq, reduceIte]; done)) dX3_sheet_59
      · refine r_aload_n C dX3_sheet_40 rfl (lv_at hl 0 rfl) ?_
        refine r_ldc C (-1000000007) ki_X3_192 (by decide) dX3_sheet_41 ?_
        refine r_cVWA1 C m_X3_49 (cT_finding (by omega) (by omega)) hP hD hS (wT_ad.trans wT_ad.symm) rfl rfl hl.1 dX3_sheet_43 (fun H locs hP hD hS => ?_)
        exact r_iretE C hP hS (t, tw, ty, tk, sa, en) (by first | (simp only [fSheet, h1, eq_true h2, h3, not_true_eq_false, not_false_eq_true, and_true, true_and, and_false, false_and, or_true, true_or, or_false, false_or, if_true, if_false, ne_eq, reduceIte]; done) | (simp only [fSheet, show ¬ n0 ≤ 40 by omega, h1, eq_true h2, h3, not_true_eq_false, not_false_eq_true, and_true, true_and, and_false, false_and, or_true, true_or, or_false, false_or, if_true, if_false, ne_eq, reduceIte]; done)) (by first | (simp only [fSheet, h1, eq_true h2, h3, not_true_eq_false, not_false_eq_true, and_true, true_and, and_false, false_and, or_true, true_or, or_false, false_or, if_true, if_false, ne_eq, reduceIte]; done) | (simp only [fSheet, show ¬ n0 ≤ 40 by omega, h1, eq_true h2, h3, not_true_eq_false, not_false_eq_true, and_true, true_and, and_false, false_and, or_true, true_or, or_false, false_or, if_true, if_false, ne_eq, reduceIte]; done)) dX3_sheet_46
    · refine r_iload_n C dX3_sheet_11 rfl (lv_at hl 2 rfl) ?_
      refine r_bipush C dX3_sheet_12 (by decide) ?_
      refine r_icmp_eq C (tgt := 36) dX3_sheet_14 (by decide) (by exact ⟨by omega, by omega⟩) ⟨by decide, by decide⟩ (fun h5 => ?_) (fun h5 => ?_)
      · refine r_iload_n C dX3_sheet_36 rfl (lv_at hl 3 rfl) ?_
        refine r_if_ge C (tgt := 47) dX3_sheet_37 (by decide) (by exact ⟨by omega, by omega⟩) (fun h6 => ?_) (fun h6 => ?_)
        · refine r_iload_n C dX3_sheet_47 rfl (lv_at hl 3 rfl) ?_
          refine r_bipush C dX3_sheet_48 (by decide) ?_
          refine r_icmp_le C (tgt := 60) dX3_sheet_50 (by decide) (by exact ⟨by omega, by omega⟩) ⟨by decide, by decide⟩ (fun h7 => ?_) (fun h7 => ?_)
          · refine r_aload_n C dX3_sheet_60 rfl (lv_at hl 0 rfl) ?_
            refine g_X3_31 C hP 0 rfl rfl dX3_sheet_61 ?_
            refine r_iload_n C dX3_sheet_64 rfl (lv_at hl 1 rfl) ?_
            refine r_aaldS C hP 24 (a := a) rfl dX3_sheet_65 (by omega) (by omega) ?_
            refine r_iload_n C dX3_sheet_66 rfl (lv_at hl 2 rfl) ?_
            refine r_iload_n C dX3_sheet_67 rfl (lv_at hl 3 rfl) ?_
            refine r_cVW2 C m_X3_193 (cS_clear (c := fun i => a (25 + 2 * sh.toNat + i)) (nf := shF nu sh) (bt := bi sh) (sz := si sh) (by exact ⟨by omega, by omega⟩) (by exact ⟨by omega, by omega⟩)) hP hD hS [25 + 2 * sh.toNat, 26 + 2 * sh.toNat] (wT a k s (lB (wrF s)) y t tw ty kq (lB (wrF kq)) ky tp ta tk sa en nm (up bi sh b) (up si sh (if b = 0 then 0 else n0)) (zr40 nu sh 40) st ik) (nd2 _) (lc_T_nu (by omega) (by omega)) rfl (lp_T_nu (by omega) (by omega) (zr_sh _ _ 40 (Nat.le_refl 40)) (up_s _ _ _) (up_s _ _ _) (fun j _ _ hj => ⟨zr_o _ hj 40 (Nat.le_refl 40), up_n hj, up_n hj⟩)) (wT_ad.trans wT_ad.symm) rfl rfl hl.1 dX3_sheet_68 (fun H locs hP hD hS => ?_)
            refine r_aload_n C dX3_sheet_71 rfl (lv_at hl 0 rfl) ?_
            refine g_X3_31 C hP 0 rfl rfl dX3_sheet_72 ?_
            refine r_iload_n C dX3_sheet_75 rfl (lv_at hl 1 rfl) ?_
            refine r_aaldS C hP 24 (a := a) rfl dX3_sheet_76 (by omega) (by omega) ?_
            refine g_X3_196 C hP (25 + 2 * sh.toNat) (wT_sh (by omega) (by omega)) rfl dX3_sheet_77 ?_
            exact r_iretE C hP hS (t, tw, ty, tk, sa, en) (by first | (simp only [fSheet, h1, h2, eq_true h5, h6, h7, not_true_eq_false, not_false_eq_true, and_true, true_and, and_false, false_and, or_true, true_or, or_false, false_or, if_true, if_false, ne_eq, reduceIte]; done) | (simp only [fSheet, show ¬ n0 ≤ 40 by omega, h1, h2, eq_true h5, h6, h7, not_true_eq_false, not_false_eq_true, and_true, true_and, and_false, false_and, or_true, true_or, or_false, false_or, if_true, if_false, ne_eq, reduceIte]; done)) (by first | (simp only [fSheet, h1, h2, eq_true h5, h6, h7, not_true_eq_false, not_false_eq_true, and_true, true_and, and_false, false_and, or_true, true_or, or_false, false_or, if_true, if_false, ne_eq, reduceIte]; done) | (simp only [fSheet, show ¬ n0 ≤ 40 by omega, h1, h2, eq_true h5, h6, h7, not_true_eq_false, not_false_eq_true, and_true, true_and, and_false, false_and, or_true, true_or, or_false, false_or, if_true, if_false, ne_eq, reduceIte]; done)) dX3_sheet_80
          · refine r_aload_n C dX3_sheet_53 rfl (lv_at hl 0 rfl) ?_
            refine r_ldc C (-1000000001) ki_X3_48 (by decide) dX3_sheet_54 ?_
            refine r_cVWA1 C m_X3_49 (cT_finding (by omega) (by omega)) hP hD hS (wT_ad.trans wT_ad.symm) rfl rfl hl.1 dX3_sheet_56 (fun H locs hP hD hS => ?_)
            exact r_iretE C hP hS (t, tw, ty, tk, sa, en) (by first | (simp only [fSheet, h1, h2, eq_true h5, h6, h7, not_true_eq_false, not_false_eq_true, and_true, true_and, and_false, false_and, or_true, true_or, or_false, false_or, if_true, if_false, ne_eq, reduceIte]; done) | (simp only [fSheet, show ¬ n0 ≤ 40 by omega, h1, h2, eq_true h5, h6, h7, not_true_eq_false, not_false_eq_true, and_true, true_and, and_false, false_and, or_true, true_or, or_false, false_or, if_true, if_false, ne_eq, reduceIte]; done)) (by first | (simp only [fSheet, h1, h2, eq_true h5, h6, h7, not_true_eq_false, not_false_eq_true, and_true, true_and, and_false, false_and, or_true, true_or, or_false, false_or, if_true, if_false, ne_eq, reduceIte]; done) | (simp only [fSheet, show ¬ n0 ≤ 40 by omega, h1, h2, eq_true h5, h6, h7, not_true_eq_false, not_false_eq_true, and_true, true_and, and_false, false_and, or_true, true_or, or_false, false_or, if_true, if_false, ne_eq, reduceIte]; done)) dX3_sheet_59
        · refine r_aload_n C dX3_sheet_40 rfl (lv_at hl 0 rfl) ?_
          refine r_ldc C (-1000000007) ki_X3_192 (by decide) dX3_sheet_41 ?_
          refine r_cVWA1 C m_X3_49 (cT_finding (by omega) (by omega)) hP hD hS (wT_ad.trans wT_ad.symm) rfl rfl hl.1 dX3_sheet_43 (fun H locs hP hD hS => ?_)
          exact r_iretE C hP hS (t, tw, ty, tk, sa, en) (by first | (simp only [fSheet, h1, h2, eq_true h5, h6, not_true_eq_false, not_false_eq_true, and_true, true_and, and_false, false_and, or_true, true_or, or_false, false_or, if_true, if_false, ne_eq, reduceIte]; done) | (simp only [fSheet, show ¬ n0 ≤ 40 by omega, h1, h2, eq_true h5, h6, not_true_eq_false, not_false_eq_true, and_true, true_and, and_false, false_and, or_true, true_or, or_false, false_or, if_true, if_false, ne_eq, reduceIte]; done)) (by first | (simp only [fSheet, h1, h2, eq_true h5, h6, not_true_eq_false, not_false_eq_true, and_true, true_and, and_false, false_and, or_true, true_or, or_false, false_or, if_true, if_false, ne_eq, reduceIte]; done) | (simp only [fSheet, show ¬ n0 ≤ 40 by omega, h1, h2, eq_true h5, h6, not_true_eq_false, not_false_eq_true, and_true, true_and, and_false, false_and, or_true, true_or, or_false, false_or, if_true, if_false, ne_eq, reduceIte]; done)) dX3_sheet_46
      · refine r_iload_n C dX3_sheet_17 rfl (lv_at hl 2 rfl) ?_
        refine r_bipush C dX3_sheet_18 (by decide) ?_
        refine r_icmp_eq C (tgt := 36) dX3_sheet_20 (by decide) (by exact ⟨by omega, by omega⟩) ⟨by decide, by decide⟩ (fun h8 => ?_) (fun h8 => ?_)
        · refine r_iload_n C dX3_sheet_36 rfl (lv_at hl 3 rfl) ?_
          refine r_if_ge C (tgt := 47) dX3_sheet_37 (by decide) (by exact ⟨by omega, by omega⟩) (fun h9 => ?_) (fun h9 => ?_)
          · refine r_iload_n C dX3_sheet_47 rfl (lv_at hl 3 rfl) ?_
            refine r_bipush C dX3_sheet_48 (by decide) ?_
            refine r_icmp_le C (tgt := 60) dX3_sheet_50 (by decide) (by exact ⟨by omega, by omega⟩) ⟨by decide, by decide⟩ (fun h10 => ?_) (fun h10 => ?_)
            · refine r_aload_n C dX3_sheet_60 rfl (lv_at hl 0 rfl) ?_
              refine g_X3_31 C hP 0 rfl rfl dX3_sheet_61 ?_
              refine r_iload_n C dX3_sheet_64 rfl (lv_at hl 1 rfl) ?_
              refine r_aaldS C hP 24 (a := a) rfl dX3_sheet_65 (by omega) (by omega) ?_
              refine r_iload_n C dX3_sheet_66 rfl (lv_at hl 2 rfl) ?_
              refine r_iload_n C dX3_sheet_67 rfl (lv_at hl 3 rfl) ?_
              refine r_cVW2 C m_X3_193 (cS_clear (c := fun i => a (25 + 2 * sh.toNat + i)) (nf := shF nu sh) (bt := bi sh) (sz := si sh) (by exact ⟨by omega, by omega⟩) (by exact ⟨by omega, by omega⟩)) hP hD hS [25 + 2 * sh.toNat, 26 + 2 * sh.toNat] (wT a k s (lB (wrF s)) y t tw ty kq (lB (wrF kq)) ky tp ta tk sa en nm (up bi sh b) (up si sh (if b = 0 then 0 else n0)) (zr40 nu sh 40) st ik) (nd2 _) (lc_T_nu (by omega) (by omega)) rfl (lp_T_nu (by omega) (by omega) (zr_sh _ _ 40 (Nat.le_refl 40)) (up_s _ _ _) (up_s _ _ _) (fun j _ _ hj => ⟨zr_o _ hj 40 (Nat.le_refl 40), up_n hj, up_n hj⟩)) (wT_ad.trans wT_ad.symm) rfl rfl hl.1 dX3_sheet_68 (fun H locs hP hD hS => ?_)
              refine r_aload_n C dX3_sheet_71 rfl (lv_at hl 0 rfl) ?_
              refine g_X3_31 C hP 0 rfl rfl dX3_sheet_72 ?_
              refine r_iload_n C dX3_sheet_75 rfl (lv_at hl 1 rfl) ?_
              refine r_aaldS C hP 24 (a := a) rfl dX3_sheet_76 (by omega) (by omega) ?_
              refine g_X3_196 C hP (25 + 2 * sh.toNat) (wT_sh (by omega) (by omega)) rfl dX3_sheet_77 ?_
              exact r_iretE C hP hS (t, tw, ty, tk, sa, en) (by first | (simp only [fSheet, h1, h2, h5, eq_true h8, h9, h10, not_true_eq_false, not_false_eq_true, and_true, true_and, and_false, false_and, or_true, true_or, or_false, false_or, if_true, if_false, ne_eq, reduceIte]; done) | (simp only [fSheet, show ¬ n0 ≤ 40 by omega, h1, h2, h5, eq_true h8, h9, h10, not_true_eq_false, not_false_eq_true, and_true, true_and, and_false, false_and, or_true, true_or, or_false, false_or, if_true, if_false, ne_eq, reduceIte]; done)) (by first | (simp only [fSheet, h1, h2, h5, eq_true h8, h9, h10, not_true_eq_false, not_false_eq_true, and_true, true_and, and_false, false_and, or_true, true_or, or_false, false_or, if_true, if_false, ne_eq, reduceIte]; done) | (simp only [fSheet, show ¬ n0 ≤ 40 by omega, h1, h2, h5, eq_true h8, h9, h10, not_true_eq_false, not_false_eq_true, and_true, true_and, and_false, false_and, or_true, true_or, or_false, false_or, if_true, if_false, ne_eq, reduceIte]; done)) dX3_sheet_80
            · refine r_aload_n C dX3_sheet_53 rfl (lv_at hl 0 rfl) ?_
              refine r_ldc C (-1000000001) ki_X3_48 (by decide) dX3_sheet_54 ?_
              refine r_cVWA1 C m_X3_49 (cT_finding (by omega) (by omega)) hP hD hS (wT_ad.trans wT_ad.symm) rfl rfl hl.1 dX3_sheet_56 (fun H locs hP hD hS => ?_)
              exact r_iretE C hP hS (t, tw, ty, tk, sa, en) (by first | (simp only [fSheet, h1, h2, h5, eq_true h8, h9, h10, not_true_eq_false, not_false_eq_true, and_true, true_and, and_false, false_and, or_true, true_or, or_false, false_or, if_true, if_false, ne_eq, reduceIte]; done) | (simp only [fSheet, show ¬ n0 ≤ 40 by omega, h1, h2, h5, eq_true h8, h9, h10, not_true_eq_false, not_false_eq_true, and_true, true_and, and_false, false_and, or_true, true_or, or_false, false_or, if_true, if_false, ne_eq, reduceIte]; done)) (by first | (simp only [fSheet, h1, h2, h5, eq_true h8, h9, h10, not_true_eq_false, not_false_eq_true, and_true, true_and, and_false, false_and, or_true, true_or, or_false, false_or, if_true, if_false, ne_eq, reduceIte]; done) | (simp only [fSheet, show ¬ n0 ≤ 40 by omega, h1, h2, h5, eq_true h8, h9, h10, not_true_eq_false, not_false_eq_true, and_true, true_and, and_false, false_and, or_true, true_or, or_false, false_or, if_true, if_false, ne_eq, reduceIte]; done)) dX3_sheet_59
          · refine r_aload_n C dX3_sheet_40 rfl (lv_at hl 0 rfl) ?_
            refine r_ldc C (-1000000007) ki_X3_192 (by decide) dX3_sheet_41 ?_
            refine r_cVWA1 C m_X3_49 (cT_finding (by omega) (by omega)) hP hD hS (wT_ad.trans wT_ad.symm) rfl rfl hl.1 dX3_sheet_43 (fun H locs hP hD hS => ?_)
            exact r_iretE C hP hS (t, tw, ty, tk, sa, en) (by first | (simp only [fSheet, h1, h2, h5, eq_true h8, h9, not_true_eq_false, not_false_eq_true, and_true, true_and, and_false, false_and, or_true, true_or, or_false, false_or, if_true, if_false, ne_eq, reduceIte]; done) | (simp only [fSheet, show ¬ n0 ≤ 40 by omega, h1, h2, h5, eq_true h8, h9, not_true_eq_false, not_false_eq_true, and_true, true_and, and_false, false_and, or_true, true_or, or_false, false_or, if_true, if_false, ne_eq, reduceIte]; done)) (by first | (simp only [fSheet, h1, h2, h5, eq_true h8, h9, not_true_eq_false, not_false_eq_true, and_true, true_and, and_false, false_and, or_true, true_or, or_false, false_or, if_true, if_false, ne_eq, reduceIte]; done) | (simp only [fSheet, show ¬ n0 ≤ 40 by omega, h1, h2, h5, eq_true h8, h9, not_true_eq_false, not_false_eq_true, and_true, true_and, and_false, false_and, or_true, true_or, or_false, false_or, if_true, if_false, ne_eq, reduceIte]; done)) dX3_sheet_46
        · refine r_iload_n C dX3_sheet_23 rfl (lv_at hl 2 rfl) ?_
          refine r_bipush C dX3_sheet_24 (by decide) ?_
          refine r_icmp_eq C (tgt := 36) dX3_sheet_26 (by decide) (by exact ⟨by omega, by omega⟩) ⟨by decide, by decide⟩ (fun h11 => ?_) (fun h11 => ?_)
          · refine r_iload_n C dX3_sheet_36 rfl (lv_at hl 3 rfl) ?_
            refine r_if_ge C (tgt := 47) dX3_sheet_37 (by decide) (by exact ⟨by omega, by omega⟩) (fun h12 => ?_) (fun h12 => ?_)
            · refine r_iload_n C dX3_sheet_47 rfl (lv_at hl 3 rfl) ?_
              refine r_bipush C dX3_sheet_48 (by decide) ?_
              refine r_icmp_le C (tgt := 60) dX3_sheet_50 (by decide) (by exact ⟨by omega, by omega⟩) ⟨by decide, by decide⟩ (fun h13 => ?_) (fun h13 => ?_)
              · refine r_aload_n C dX3_sheet_60 rfl (lv_at hl 0 rfl) ?_
                refine g_X3_31 C hP 0 rfl rfl dX3_sheet_61 ?_
                refine r_iload_n C dX3_sheet_64 rfl (lv_at hl 1 rfl) ?_
                refine r_aaldS C hP 24 (a := a) rfl dX3_sheet_65 (by omega) (by omega) ?_
                refine r_iload_n C dX3_sheet_66 rfl (lv_at hl 2 rfl) ?_
                refine r_iload_n C dX3_sheet_67 rfl (lv_at hl 3 rfl) ?_
                refine r_cVW2 C m_X3_193 (cS_clear (c := fun i => a (25 + 2 * sh.toNat + i)) (nf := shF nu sh) (bt := bi sh) (sz := si sh) (by exact ⟨by omega, by omega⟩) (by exact ⟨by omega, by omega⟩)) hP hD hS [25 + 2 * sh.toNat, 26 + 2 * sh.toNat] (wT a k s (lB (wrF s)) y t tw ty kq (lB (wrF kq)) ky tp ta tk sa en nm (up bi sh b) (up si sh (if b = 0 then 0 else n0)) (zr40 nu sh 40) st ik) (nd2 _) (lc_T_nu (by omega) (by omega)) rfl (lp_T_nu (by omega) (by omega) (zr_sh _ _ 40 (Nat.le_refl 40)) (up_s _ _ _) (up_s _ _ _) (fun j _ _ hj => ⟨zr_o _ hj 40 (Nat.le_refl 40), up_n hj, up_n hj⟩)) (wT_ad.trans wT_ad.symm) rfl rfl hl.1 dX3_sheet_68 (fun H locs hP hD hS => ?_)
                refine r_aload_n C dX3_sheet_71 rfl (lv_at hl 0 rfl) ?_
                refine g_X3_31 C hP 0 rfl rfl dX3_sheet_72 ?_
                refine r_iload_n C dX3_sheet_75 rfl (lv_at hl 1 rfl) ?_
                refine r_aaldS C hP 24 (a := a) rfl dX3_sheet_76 (by omega) (by omega) ?_
                refine g_X3_196 C hP (25 + 2 * sh.toNat) (wT_sh (by omega) (by omega)) rfl dX3_sheet_77 ?_
                exact r_iretE C hP hS (t, tw, ty, tk, sa, en) (by first | (simp only [fSheet, h1, h2, h5, h8, eq_true h11, h12, h13, not_true_eq_false, not_false_eq_true, and_true, true_and, and_false, false_and, or_true, true_or, or_false, false_or, if_true, if_false, ne_eq, reduceIte]; done) | (simp only [fSheet, show ¬ n0 ≤ 40 by omega, h1, h2, h5, h8, eq_true h11, h12, h13, not_true_eq_false, not_false_eq_true, and_true, true_and, and_false, false_and, or_true, true_or, or_false, false_or, if_true, if_false, ne_eq, reduceIte]; done)) (by first | (simp only [fSheet, h1, h2, h5, h8, eq_true h11, h12, h13, not_true_eq_false, not_false_eq_true, and_true, true_and, and_false, false_and, or_true, true_or, or_false, false_or, if_true, if_false, ne_eq, reduceIte]; done) | (simp only [fSheet, show ¬ n0 ≤ 40 by omega, h1, h2, h5, h8, eq_true h11, h12, h13, not_true_eq_false, not_false_eq_true, and_true, true_and, and_false, false_and, or_true, true_or, or_false, false_or, if_true, if_false, ne_eq, reduceIte]; done)) dX3_sheet_80
              · refine r_aload_n C dX3_sheet_53 rfl (lv_at hl 0 rfl) ?_
                refine r_ldc C (-1000000001) ki_X3_48 (by decide) dX3_sheet_54 ?_
                refine r_cVWA1 C m_X3_49 (cT_finding (by omega) (by omega)) hP hD hS (wT_ad.trans wT_ad.symm) rfl rfl hl.1 dX3_sheet_56 (fun H locs hP hD hS => ?_)
                exact r_iretE C hP hS (t, tw, ty, tk, sa, en) (by first | (simp only [fSheet, h1, h2, h5, h8, eq_true h11, h12, h13, not_true_eq_false, not_false_eq_true, and_true, true_and, and_false, false_and, or_true, true_or, or_false, false_or, if_true, if_false, ne_eq, reduceIte]; done) | (simp only [fSheet, show ¬ n0 ≤ 40 by omega, h1, h2, h5, h8, eq_true h11, h12, h13, not_true_eq_false, not_false_eq_true, and_true, true_and, and_false, false_and, or_true, true_or, or_false, false_or, if_true, if_false, ne_eq, reduceIte]; done)) (by first | (simp only [fSheet, h1, h2, h5, h8, eq_true h11, h12, h13, not_true_eq_false, not_false_eq_true, and_true, true_and, and_false, false_and, or_true, true_or, or_false, false_or, if_true, if_false, ne_eq, reduceIte]; done) | (simp only [fSheet, show ¬ n0 ≤ 40 by omega, h1, h2, h5, h8, eq_true h11, h12, h13, not_true_eq_false, not_false_eq_true, and_true, true_and, and_false, false_and, or_true, true_or, or_false, false_or, if_true, if_false, ne_eq, reduceIte]; done)) dX3_sheet_59
            · refine r_aload_n C dX3_sheet_40 rfl (lv_at hl 0 rfl) ?_
              refine r_ldc C (-1000000007) ki_X3_192 (by decide) dX3_sheet_41 ?_
              refine r_cVWA1 C m_X3_49 (cT_finding (by omega) (by omega)) hP hD hS (wT_ad.trans wT_ad.symm) rfl rfl hl.1 dX3_sheet_43 (fun H locs hP hD hS => ?_)
              exact r_iretE C hP hS (t, tw, ty, tk, sa, en) (by first | (simp only [fSheet, h1, h2, h5, h8, eq_true h11, h12, not_true_eq_false, not_false_eq_true, and_true, true_and, and_false, false_and, or_true, true_or, or_false, false_or, if_true, if_false, ne_eq, reduceIte]; done) | (simp only [fSheet, show ¬ n0 ≤ 40 by omega, h1, h2, h5, h8, eq_true h11, h12, not_true_eq_false, not_false_eq_true, and_true, true_and, and_false, false_and, or_true, true_or, or_false, false_or, if_true, if_false, ne_eq, reduceIte]; done)) (by first | (simp only [fSheet, h1, h2, h5, h8, eq_true h11, h12, not_true_eq_false, not_false_eq_true, and_true, true_and, and_false, false_and, or_true, true_or, or_false, false_or, if_true, if_false, ne_eq, reduceIte]; done) | (simp only [fSheet, show ¬ n0 ≤ 40 by omega, h1, h2, h5, h8, eq_true h11, h12, not_true_eq_false, not_false_eq_true, and_true, true_and, and_false, false_and, or_true, true_or, or_false, false_or, if_true, if_false, ne_eq, reduceIte]; done)) dX3_sheet_46
          · refine r_aload_n C dX3_sheet_29 rfl (lv_at hl 0 rfl) ?_
            refine r_ldc C (-1000000001) ki_X3_48 (by decide) dX3_sheet_30 ?_
            refine r_cVWA1 C m_X3_49 (cT_finding (by omega) (by omega)) hP hD hS (wT_ad.trans wT_ad.symm) rfl rfl hl.1 dX3_sheet_32 (fun H locs hP hD hS => ?_)
            exact r_iretE C hP hS (t, tw, ty, tk, sa, en) (by first | (simp only [fSheet, h1, h2, h5, h8, h11, not_true_eq_false, not_false_eq_true, and_true, true_and, and_false, false_and, or_true, true_or, or_false, false_or, if_true, if_false, ne_eq, reduceIte]; done) | (simp only [fSheet, show ¬ n0 ≤ 40 by omega, h1, h2, h5, h8, h11, not_true_eq_false, not_false_eq_true, and_true, true_and, and_false, false_and, or_true, true_or, or_false, false_or, if_true, if_false, ne_eq, reduceIte]; done)) (by first | (simp only [fSheet, h1, h2, h5, h8, h11, not_true_eq_false, not_false_eq_true, and_true, true_and, and_false, false_and, or_true, true_or, or_false, false_or, if_true, if_false, ne_eq, reduceIte]; done) | (simp only [fSheet, show ¬ n0 ≤ 40 by omega, h1, h2, h5, h8, h11, not_true_eq_false, not_false_eq_true, and_true, true_and, and_false, false_and, or_true, true_or, or_false, false_or, if_true, if_false, ne_eq, reduceIte]; done)) dX3_sheet_35
set_option maxHeartbeats 400000 in
set_option maxRecDepth 100000 in
theorem cT_write {sh : Int} {i : Int} {v : Int} (zsh : In32 sh) (zi : In32 i) (hbi : ∀ i, 0 ≤ bi i ∧ bi i ≤ 64) (hsi : ∀ i, 0 ≤ si i ∧ si i ≤ 40) : ME l yX3_write cX3_write 5 (some .long) 2 47 D k [.ref (a 0), .int (iI sh), .int (iI i), .long (lI v)] (wT a k s (lB (wrF s)) y t tw ty kq (lB (wrF kq)) ky tp ta tk sa en nm bi si nu st ik) (fun x : (Int → Int) × Int64 × Int × Int × Int × Int => wT a k s (lB (wrF s)) y x.1 x.2.1 x.2.2.1 kq (lB (wrF kq)) ky tp ta x.2.2.2.1 x.2.2.2.2.1 x.2.2.2.2.2 nm bi si ((fWrite st bi si nu sh i v).2.2) ((fWrite st bi si nu sh i v).2.1) ik) (some (.long (lI ((fWrite st bi si nu sh i v).1)))) := by
  refine ME.mk RX3 rfl (by decide +kernel) (Nat.le_of_ble_eq_true rfl) (fun p e U m0 below meth cd ls C hP hD hS hl => ?_)
  have hl : lv_has ls 5 [(0, .ref (a 0)), (1, .int (iI sh)), (2, .int (iI i)), (3, .long (lI v))] := hl
  have zsh1 := zsh.1
  have zsh2 := zsh.2
  have zi1 := zi.1
  have zi2 := zi.2
  have h98 := hsi sh
  refine r_iload_n C dX3_write_0 rfl (lv_at hl 1 rfl) ?_
  refine r_cSR1 C m_X3_189 (cT_noSheet (by exact ⟨by omega, by omega⟩)) pn0 hl.1 dX3_write_1 ?_
  refine r_ifB_eq C (tgt := 15) dX3_write_4 (by decide) (fun h1 => ?_) (fun h1 => ?_)
  · have h1 := Classical.not_not.mp h1
    refine r_aload_n C dX3_write_15 rfl (lv_at hl 0 rfl) ?_
    refine g_X3_31 C hP 0 rfl rfl dX3_write_16 ?_
    refine r_iload_n C dX3_write_19 rfl (lv_at hl 1 rfl) ?_
    refine r_aaldS C hP 24 (a := a) rfl dX3_write_20 (by omega) (by omega) ?_
    refine r_cVR0 C m_X3_199 (cS_isMissing (c := fun i => a (25 + 2 * sh.toNat + i)) (nf := shF nu sh) (bt := bi sh) (sz := si sh) (by have := hbi sh; omega) (by have := hbi sh; omega)) (hp_T_nu (by omega) (by omega) hP) rfl rfl hl.1 dX3_write_21 ?_
    refine r_ifB_eq C (tgt := 35) dX3_write_24 (by decide) (fun h2 => ?_) (fun h2 => ?_)
    · refine r_iload_n C dX3_write_35 rfl (lv_at hl 2 rfl) ?_
      refine r_iconst C dX3_write_36 ?_
      refine r_aload_n C dX3_write_37 rfl (lv_at hl 0 rfl) ?_
      refine g_X3_31 C hP 0 rfl rfl dX3_write_38 ?_
      refine r_iload_n C dX3_write_41 rfl (lv_at hl 1 rfl) ?_
      refine r_aaldS C hP 24 (a := a) rfl dX3_write_42 (by omega) (by omega) ?_
      refine g_X3_196 C hP (25 + 2 * sh.toNat) (wT_sh (by omega) (by omega)) rfl dX3_write_43 ?_
      refine r_iconst C dX3_write_46 ?_
      refine r_isub C dX3_write_47 ?_
      refine r_cSR3 C m_X3_44 (cT_outside (by exact ⟨by omega, by omega⟩) ⟨by decide, by decide⟩ (by have := hsi sh; exact ⟨by omega, by omega⟩)) pn0 hl.1 dX3_write_48 ?_
      refine r_ifB_eq C (tgt := 62) dX3_write_51 (by decide) (fun h3 => ?_) (fun h3 => ?_)
      · have h3 := Classical.not_not.mp h3
        refine r_aload_n C dX3_write_62 rfl (lv_at hl 0 rfl) ?_
        refine g_X3_31 C hP 0 rfl rfl dX3_write_63 ?_
        refine r_iload_n C dX3_write_66 rfl (lv_at hl 1 rfl) ?_
        refine r_aaldS C hP 24 (a := a) rfl dX3_write_67 (by omega) (by omega) ?_
        refine r_iload_n C dX3_write_68 rfl (lv_at hl 2 rfl) ?_
        refine r_lload_n C dX3_write_69 rfl (lv_at hl 3 rfl) ?_
        refine r_cVW2 C m_X3_204 (cS_put (c := fun i => a (25 + 2 * sh.toNat + i)) (nf := shF nu sh) (bt := bi sh) (sz := si sh) (i := i) (v := v) (by omega) (by omega) (by have := hbi sh; omega) (by have := hbi sh; omega)) hP hD hS [25 + 2 * sh.toNat, 26 + 2 * sh.toNat] (wT a k s (lB (wrF s)) y t tw ty kq (lB (wrF kq)) ky tp ta tk sa en nm bi si (up nu (40 * sh + i) (lI (nrw (bi sh) v))) st ik) (nd2 _) (lc_T_nu (by omega) (by omega)) rfl (lp_T_nu (by omega) (by omega) (sh_up (by omega) (by omega)) rfl rfl (fun j _ _ hj => ⟨sh_uo (by omega) (by omega) hj, rfl, rfl⟩)) (wT_ad.trans wT_ad.symm) rfl rfl hl.1 dX3_write_70 (fun H locs hP hD hS => ?_)
        exact r_lretE C hP hS (t, tw, ty, tk, sa, en) (by first | (simp only [fWrite, wsh, fD, fV, h1, h2, h3, not_true_eq_false, not_false_eq_true, and_true, true_and, and_false, false_and, or_true, true_or, or_false, false_or, if_true, if_false, ne_eq, reduceIte, show ¬ (-1000000006 : Int) = 0 by decide, show ¬ (-1000000001 : Int) = 0 by decide, eq_self]; done) | (exfalso; omega)) (by rw [sh_at (by omega) (by omega)]; simp only [fWrite, wsh, h1, h2, h3, not_true_eq_false, not_false_eq_true, and_true, true_and, and_false, false_and, or_true, true_or, or_false, false_or, if_true, if_false, ne_eq, reduceIte, show ¬ (-1000000006 : Int) = 0 by decide, show ¬ (-1000000001 : Int) = 0 by decide, eq_self]) dX3_write_73
      · refine r_aload_n C dX3_write_54 rfl (lv_at hl 0 rfl) ?_
        refine r_ldc C (-1000000001) ki_X3_48 (by decide) dX3_write_55 ?_
        refine r_cVWA1 C m_X3_49 (cT_finding (by omega) (by omega)) hP hD hS (wT_ad.trans wT_ad.symm) rfl rfl hl.1 dX3_write_57 (fun H locs hP hD hS => ?_)
        refine r_i2l C dX3_write_60 (by exact ⟨by omega, by omega⟩) ?_
        exact r_lretE C hP hS (t, tw, ty, tk, sa, en) (by first | (simp only [fWrite, wsh, fD, fV, h1, h2, h3, not_true_eq_false, not_false_eq_true, and_true, true_and, and_false, false_and, or_true, true_or, or_false, false_or, if_true, if_false, ne_eq, reduceIte, show ¬ (-1000000006 : Int) = 0 by decide, show ¬ (-1000000001 : Int) = 0 by decide, eq_self]; done) | (exfalso; omega)) (by first | (simp only [fWrite, wsh, fD, fV, h1, h2, h3, not_true_eq_false, not_false_eq_true, and_true, true_and, and_false, false_and, or_true, true_or, or_false, false_or, if_true, if_false, ne_eq, reduceIte, show ¬ (-1000000006 : Int) = 0 by decide, show ¬ (-1000000001 : Int) = 0 by decide, eq_self]; done) | (exfalso; omega)) dX3_write_61
    · refine r_aload_n C dX3_write_27 rfl (lv_at hl 0 rfl) ?_
      refine r_ldc C (-1000000006) ki_X3_203 (by decide) dX3_write_28 ?_
      refine r_cVWA1 C m_X3_49 (cT_finding (by omega) (by omega)) hP hD hS (wT_ad.trans wT_ad.symm) rfl rfl hl.1 dX3_write_30 (fun H locs hP hD hS => ?_)
      refine r_i2l C dX3_write_33 (by exact ⟨by omega, by omega⟩) ?_
      exact r_lretE C hP hS (t, tw, ty, tk, sa, en) (by first | (simp only [fWrite, wsh, fD, fV, h1, h2, not_true_eq_false, not_false_eq_true, and_true, true_and, and_false, false_and, or_true, true_or, or_false, false_or, if_true, if_false, ne_eq, reduceIte, show ¬ (-1000000006 : Int) = 0 by decide, show ¬ (-1000000001 : Int) = 0 by decide, eq_self]; done) | (exfalso; omega)) (by first | (simp only [fWrite, wsh, fD, fV, h1, h2, not_true_eq_false, not_false_eq_true, and_true, true_and, and_false, false_and, or_true, true_or, or_false, false_or, if_true, if_false, ne_eq, reduceIte, show ¬ (-1000000006 : Int) = 0 by decide, show ¬ (-1000000001 : Int) = 0 by decide, eq_self]; done) | (exfalso; omega)) dX3_write_34
  · refine r_aload_n C dX3_write_7 rfl (lv_at hl 0 rfl) ?_
    refine r_ldc C (-1000000001) ki_X3_48 (by decide) dX3_write_8 ?_
    refine r_cVWA1 C m_X3_49 (cT_finding (by omega) (by omega)) hP hD hS (wT_ad.trans wT_ad.symm) rfl rfl hl.1 dX3_write_10 (fun H locs hP hD hS => ?_)
    refine r_i2l C dX3_write_13 (by exact ⟨by omega, by omega⟩) ?_
    exact r_lretE C hP hS (t, tw, ty, tk, sa, en) (by first | (simp only [fWrite, wsh, fD, fV, h1, not_true_eq_false, not_false_eq_true, and_true, true_and, and_false, false_and, or_true, true_or, or_false, false_or, if_true, if_false, ne_eq, reduceIte, show ¬ (-1000000006 : Int) = 0 by decide, show ¬ (-1000000001 : Int) = 0 by decide, eq_self]; done) | (exfalso; omega)) (by first | (simp only [fWrite, wsh, fD, fV, h1, not_true_eq_false, not_false_eq_true, and_true, true_and, and_false, false_and, or_true, true_or, or_false, false_or, if_true, if_false, ne_eq, reduceIte, show ¬ (-1000000006 : Int) = 0 by decide, show ¬ (-1000000001 : Int) = 0 by decide, eq_self]; done) | (exfalso; omega)) dX3_write_14
set_option maxHeartbeats 400000 in
set_option maxRecDepth 100000 in
theorem cT_copy {sh : Int} {f : Int} {th : Int} {g : Int} {n0 : Int} (zsh : In32 sh) (zf : In32 f) (zth : In32 th) (zg : In32 g) (zn0 : In32 n0) (hbi : ∀ i, 0 ≤ bi i ∧ bi i ≤ 64) (hsi : ∀ i, 0 ≤ si i ∧ si i ≤ 40) : ME l yX3_copy cX3_copy 8 (some .int) 2 64 D k [.ref (a 0), .int (iI sh), .int (iI f), .int (iI th), .int (iI g), .int (iI n0)] (wT a k s (lB (wrF s)) y t tw ty kq (lB (wrF kq)) ky tp ta tk sa en nm bi si nu st ik) (fun x : (Int → Int) × Int64 × Int × Int × Int × Int => wT a k s (lB (wrF s)) y x.1 x.2.1 x.2.2.1 kq (lB (wrF kq)) ky tp ta x.2.2.2.1 x.2.2.2.2.1 x.2.2.2.2.2 nm bi si ((fCopy st bi si nu sh f th g n0).2.2) ((fCopy st bi si nu sh f th g n0).2.1) ik) (some (.int (iI ((fCopy st bi si nu sh f th g n0).1)))) := by
  refine ME.mk RX3 rfl (by decide +kernel) (Nat.le_of_ble_eq_true rfl) (fun p e U m0 below meth cd ls C hP hD hS hl => ?_)
  have hl : lv_has ls 8 [(0, .ref (a 0)), (1, .int (iI sh)), (2, .int (iI f)), (3, .int (iI th)), (4, .int (iI g)), (5, .int (iI n0))] := hl
  have zsh1 := zsh.1
  have zsh2 := zsh.2
  have zf1 := zf.1
  have zf2 := zf.2
  have zth1 := zth.1
  have zth2 := zth.2
  have zg1 := zg.1
  have zg2 := zg.2
  have zn01 := zn0.1
  have zn02 := zn0.2
  have h98 := hsi sh
  have h97 := hsi th
  refine r_iload_n C dX3_copy_0 rfl (lv_at hl 1 rfl) ?_
  refine r_cSR1 C m_X3_189 (cT_noSheet (by exact ⟨by omega, by omega⟩)) pn0 hl.1 dX3_copy_1 ?_
  refine r_ifB_ne C (tgt := 14) dX3_copy_4 (by decide) (fun h1 => ?_) (fun h1 => ?_)
  · refine r_aload_n C dX3_copy_14 rfl (lv_at hl 0 rfl) ?_
    refine r_ldc C (-1000000001) ki_X3_48 (by decide) dX3_copy_15 ?_
    refine r_cVWA1 C m_X3_49 (cT_finding (by omega) (by omega)) hP hD hS (wT_ad.trans wT_ad.symm) rfl rfl hl.1 dX3_copy_17 (fun H locs hP hD hS => ?_)
    exact r_iretE C hP hS (t, tw, ty, tk, sa, en) (by first | (simp only [fCopy, h1, not_true_eq_false, not_false_eq_true, and_true, true_and, and_false, false_and, or_true, true_or, or_false, false_or, if_true, if_false, ne_eq, reduceIte]; done) | (exfalso; omega)) (by first | (simp only [fCopy, h1, not_true_eq_false, not_false_eq_true, and_true, true_and, and_false, false_and, or_true, true_or, or_false, false_or, if_true, if_false, ne_eq, reduceIte]; done) | (exfalso; omega)) dX3_copy_20
  · have h1 := Classical.not_not.mp h1
    refine r_iload_n C dX3_copy_7 rfl (lv_at hl 3 rfl) ?_
    refine r_cSR1 C m_X3_189 (cT_noSheet (by exact ⟨by omega, by omega⟩)) pn0 hl.1 dX3_copy_8 ?_
    refine r_ifB_eq C (tgt := 21) dX3_copy_11 (by decide) (fun h2 => ?_) (fun h2 => ?_)
    · have h2 := Classical.not_not.mp h2
      refine r_aload_n C dX3_copy_21 rfl (lv_at hl 0 rfl) ?_
      refine g_X3_31 C hP 0 rfl rfl dX3_copy_22 ?_
      refine r_iload_n C dX3_copy_25 rfl (lv_at hl 1 rfl) ?_
      refine r_aaldS C hP 24 (a := a) rfl dX3_copy_26 (by omega) (by omega) ?_
      refine r_astore C [(6, .ref (a (25 + 2 * sh.toNat))), (0, .ref (a 0)), (1, .int (iI sh)), (2, .int (iI f)), (3, .int (iI th)), (4, .int (iI g)), (5, .int (iI n0))] dX3_copy_27 hl (by decide) rfl (fun ls hl => ?_)
      refine r_aload_n C dX3_copy_29 rfl (lv_at hl 1 rfl) ?_
      refine g_X3_31 C hP 0 rfl rfl dX3_copy_30 ?_
      refine r_iload_n C dX3_copy_33 rfl (lv_at hl 4 rfl) ?_
      refine r_aaldS C hP 24 (a := a) rfl dX3_copy_34 (by omega) (by omega) ?_
      refine r_astore C [(7, .ref (a (25 + 2 * th.toNat))), (6, .ref (a (25 + 2 * sh.toNat))), (0, .ref (a 0)), (1, .int (iI sh)), (2, .int (iI f)), (3, .int (iI th)), (4, .int (iI g)), (5, .int (iI n0))] dX3_copy_35 hl (by decide) rfl (fun ls hl => ?_)
      refine r_aload C dX3_copy_37 (lv_at hl 1 rfl) ?_
      refine r_cVR0 C m_X3_199 (cS_isMissing (c := fun i => a (25 + 2 * sh.toNat + i)) (nf := shF nu sh) (bt := bi sh) (sz := si sh) (by have := hbi sh; omega) (by have := hbi sh; omega)) (hp_T_nu (by omega) (by omega) hP) rfl rfl hl.1 dX3_copy_39 ?_
      refine r_ifB_ne C (tgt := 53) dX3_copy_42 (by decide) (fun h3 => ?_) (fun h3 => ?_)
      · refine r_aload_n C dX3_copy_53 rfl (lv_at hl 2 rfl) ?_
        refine r_ldc C (-1000000006) ki_X3_203 (by decide) dX3_copy_54 ?_
        refine r_cVWA1 C m_X3_49 (cT_finding (by omega) (by omega)) hP hD hS (wT_ad.trans wT_ad.symm) rfl rfl hl.1 dX3_copy_56 (fun H locs hP hD hS => ?_)
        exact r_iretE C hP hS (t, tw, ty, tk, sa, en) (by first | (simp only [fCopy, h1, h2, h3, not_true_eq_false, not_false_eq_true, and_true, true_and, and_false, false_and, or_true, true_or, or_false, false_or, if_true, if_false, ne_eq, reduceIte]; done) | (exfalso; omega)) (by first | (simp only [fCopy, h1, h2, h3, not_true_eq_false, not_false_eq_true, and_true, true_and, and_false, false_and, or_true, true_or, or_false, false_or, if_true, if_false, ne_eq, reduceIte]; done) | (exfalso; omega)) dX3_copy_59
      · refine r_aload C dX3_copy_45 (lv_at hl 0 rfl) ?_
        refine r_cVR0 C m_X3_199 (cS_isMissing (c := fun i => a (25 + 2 * th.toNat + i)) (nf := shF nu th) (bt := bi th) (sz := si th) (by have := hbi th; omega) (by have := hbi th; omega)) (hp_T_nu (by omega) (by omega) hP) rfl rfl hl.1 dX3_copy_47 ?_
        refine r_ifB_eq C (tgt := 60) dX3_copy_50 (by decide) (fun h4 => ?_) (fun h4 => ?_)
        · refine r_aload C dX3_copy_60 (lv_at hl 1 rfl) ?_
          refine g_X3_208 C hP (25 + 2 * sh.toNat) (wT_sh (by omega) (by omega)) rfl dX3_copy_62 ?_
          refine r_aload C dX3_copy_65 (lv_at hl 0 rfl) ?_
          refine g_X3_208 C hP (25 + 2 * th.toNat) (wT_sh (by omega) (by omega)) rfl dX3_copy_67 ?_
          refine r_icmp_eq C (tgt := 80) dX3_copy_70 (by decide) (by have := hbi sh; exact ⟨by omega, by omega⟩) (by have := hbi th; exact ⟨by omega, by omega⟩) (fun h5 => ?_) (fun h5 => ?_)
          · refine r_aload C dX3_copy_80 (lv_at hl 1 rfl) ?_
            refine r_iload_n C dX3_copy_82 rfl (lv_at hl 4 rfl) ?_
            refine r_iload C dX3_copy_83 (lv_at hl 7 rfl) ?_
            refine r_cVR2 C m_X3_211 (cS_hasPart (c := fun i => a (25 + 2 * sh.toNat + i)) (nf := shF nu sh) (bt := bi sh) (sz := si sh) (by exact ⟨by omega, by omega⟩) (by exact ⟨by omega, by omega⟩) (by have := hsi sh; omega) (by have := hsi sh; omega)) (hp_T_nu (by omega) (by omega) hP) rfl rfl hl.1 dX3_copy_85 ?_
            refine r_ifB_eq C (tgt := 103) dX3_copy_88 (by decide) (fun h6 => ?_) (fun h6 => ?_)
            · refine r_aload_n C dX3_copy_103 rfl (lv_at hl 2 rfl) ?_
              refine r_ldc C (-1000000001) ki_X3_48 (by decide) dX3_copy_104 ?_
              refine r_cVWA1 C m_X3_49 (cT_finding (by omega) (by omega)) hP hD hS (wT_ad.trans wT_ad.symm) rfl rfl hl.1 dX3_copy_106 (fun H locs hP hD hS => ?_)
              exact r_iretE C hP hS (t, tw, ty, tk, sa, en) (by simp only [fCopy, h1, h2, h3, h4, eq_true h5, not_true_eq_false, not_false_eq_true, and_true, true_and, and_false, false_and, or_true, true_or, or_false, false_or, if_true, if_false, ne_eq, reduceIte]; (repeat' split) <;> first | rfl | (exfalso; omega)) (by simp only [fCopy, h1, h2, h3, h4, eq_true h5, not_true_eq_false, not_false_eq_true, and_true, true_and, and_false, false_and, or_true, true_or, or_false, false_or, if_true, if_false, ne_eq, reduceIte]; (repeat' split) <;> first | rfl | (exfalso; omega)) dX3_copy_109
            · refine r_aload C dX3_copy_91 (lv_at hl 0 rfl) ?_
              refine r_iload C dX3_copy_93 (lv_at hl 6 rfl) ?_
              refine r_iload C dX3_copy_95 (lv_at hl 7 rfl) ?_
              refine r_cVR2 C m_X3_211 (cS_hasPart (c := fun i => a (25 + 2 * th.toNat + i)) (nf := shF nu th) (bt := bi th) (sz := si th) (by exact ⟨by omega, by omega⟩) (by exact ⟨by omega, by omega⟩) (by have := hsi th; omega) (by have := hsi th; omega)) (hp_T_nu (by omega) (by omega) hP) rfl rfl hl.1 dX3_copy_97 ?_
              refine r_ifB_ne C (tgt := 110) dX3_copy_100 (by decide) (fun h7 => ?_) (fun h7 => ?_)
              · refine r_aload C dX3_copy_110 (lv_at hl 1 rfl) ?_
                refine g_X3_214 C hP (25 + 2 * sh.toNat) (wT_sh (by omega) (by omega)) rfl dX3_copy_112 ?_
                refine r_iload_n C dX3_copy_115 rfl (lv_at hl 4 rfl) ?_
                refine r_aload C dX3_copy_116 (lv_at hl 0 rfl) ?_
                refine g_X3_214 C hP (25 + 2 * th.toNat) (wT_sh (by omega) (by omega)) rfl dX3_copy_118 ?_
                refine r_iload C dX3_copy_121 (lv_at hl 6 rfl) ?_
                refine r_iload C dX3_copy_123 (lv_at hl 7 rfl) ?_
                refine r_acpyL C hP hD hS (26 + 2 * sh.toNat) (26 + 2 * th.toNat) (wT a k s (lB (wrF s)) y t tw ty kq (lB (wrF kq)) ky tp ta tk sa en nm bi si (cpB nu (40 * th + g) (40 * sh + f) n0.toNat) st ik) (wT_nu (by omega) (by omega)) (wT_nu (by omega) (by omega)) (by omega) (by omega) (by omega) (by omega) (by omega) (by decide) (by decide) (st_T_nu (by omega) (by omega) (cpB_sh _ (by omega) (by omega) (by omega) (by omega)) (fun j _ _ hj => cpB_o _ (by omega) (by omega) hj)) ac_X3 hl.1 dX3_copy_125 (fun H locs hP hD hS => ?_)
                refine r_iload C dX3_copy_128 (lv_at hl 7 rfl) ?_
                exact r_iretE C hP hS (t, tw, ty, tk, sa, en) (by simp only [fCopy, show ¬ f < 0 by omega, show ¬ g < 0 by omega, show ¬ n0 < 0 by omega, show ¬ si sh - f < n0 by omega, show n0 ≤ si th - g by omega, h1, h2, h3, h4, eq_true h5, h6, h7, not_true_eq_false, not_false_eq_true, and_true, true_and, and_false, false_and, or_true, true_or, or_false, false_or, if_true, if_false, ne_eq, reduceIte]) (by simp only [fCopy, show ¬ f < 0 by omega, show ¬ g < 0 by omega, show ¬ n0 < 0 by omega, show ¬ si sh - f < n0 by omega, show n0 ≤ si th - g by omega, h1, h2, h3, h4, eq_true h5, h6, h7, not_true_eq_false, not_false_eq_true, and_true, true_and, and_false, false_and, or_true, true_or, or_false, false_or, if_true, if_false, ne_eq, reduceIte]) dX3_copy_130
              · refine r_aload_n C dX3_copy_103 rfl (lv_at hl 2 rfl) ?_
                refine r_ldc C (-1000000001) ki_X3_48 (by decide) dX3_copy_104 ?_
                refine r_cVWA1 C m_X3_49 (cT_finding (by omega) (by omega)) hP hD hS (wT_ad.trans wT_ad.symm) rfl rfl hl.1 dX3_copy_106 (fun H locs hP hD hS => ?_)
                exact r_iretE C hP hS (t, tw, ty, tk, sa, en) (by simp only [fCopy, h1, h2, h3, h4, eq_true h5, not_true_eq_false, not_false_eq_true, and_true, true_and, and_false, false_and, or_true, true_or, or_false, false_or, if_true, if_false, ne_eq, reduceIte]; (repeat' split) <;> first | rfl | (exfalso; omega)) (by simp only [fCopy, h1, h2, h3, h4, eq_true h5, not_true_eq_false, not_false_eq_true, and_true, true_and, and_false, false_and, or_true, true_or, or_false, false_or, if_true, if_false, ne_eq, reduceIte]; (repeat' split) <;> first | rfl | (exfalso; omega)) dX3_copy_109
          · refine r_aload_n C dX3_copy_73 rfl (lv_at hl 2 rfl) ?_
            refine r_ldc C (-1000000003) ki_X3_126 (by decide) dX3_copy_74 ?_
            refine r_cVWA1 C m_X3_49 (cT_finding (by omega) (by omega)) hP hD hS (wT_ad.trans wT_ad.symm) rfl rfl hl.1 dX3_copy_76 (fun H locs hP hD hS => ?_)
            exact r_iretE C hP hS (t, tw, ty, tk, sa, en) (by first | (simp only [fCopy, h1, h2, h3, h4, h5, not_true_eq_false, not_false_eq_true, and_true, true_and, and_false, false_and, or_true, true_or, or_false, false_or, if_true, if_false, ne_eq, reduceIte]; done) | (exfalso; omega)) (by first | (simp only [fCopy, h1, h2, h3, h4, h5, not_true_eq_false, not_false_eq_true, and_true, true_and, and_false, false_and, or_true, true_or, or_false, false_or, if_true, if_false, ne_eq, reduceIte]; done) | (exfalso; omega)) dX3_copy_79
        · refine r_aload_n C dX3_copy_53 rfl (lv_at hl 2 rfl) ?_
          refine r_ldc C (-1000000006) ki_X3_203 (by decide) dX3_copy_54 ?_
          refine r_cVWA1 C m_X3_49 (cT_finding (by omega) (by omega)) hP hD hS (wT_ad.trans wT_ad.symm) rfl rfl hl.1 dX3_copy_56 (fun H locs hP hD hS => ?_)
          exact r_iretE C hP hS (t, tw, ty, tk, sa, en) (by first | (simp only [fCopy, h1, h2, h3, h4, not_true_eq_false, not_false_eq_true, and_true, true_and, and_false, false_and, or_true, true_or, or_false, false_or, if_true, if_false, ne_eq, reduceIte]; done) | (exfalso; omega)) (by first | (simp only [fCopy, h1, h2, h3, h4, not_true_eq_false, not_false_eq_true, and_true, true_and, and_false, false_and, or_true, true_or, or_false, false_or, if_true, if_false, ne_eq, reduceIte]; done) | (exfalso; omega)) dX3_copy_59
    · refine r_aload_n C dX3_copy_14 rfl (lv_at hl 0 rfl) ?_
      refine r_ldc C (-1000000001) ki_X3_48 (by decide) dX3_copy_15 ?_
      refine r_cVWA1 C m_X3_49 (cT_finding (by omega) (by omega)) hP hD hS (wT_ad.trans wT_ad.symm) rfl rfl hl.1 dX3_copy_17 (fun H locs hP hD hS => ?_)
      exact r_iretE C hP hS (t, tw, ty, tk, sa, en) (by first | (simp only [fCopy, h1, h2, not_true_eq_false, not_false_eq_true, and_true, true_and, and_false, false_and, or_true, true_or, or_false, false_or, if_true, if_false, ne_eq, reduceIte]; done) | (exfalso; omega)) (by first | (simp only [fCopy, h1, h2, not_true_eq_false, not_false_eq_true, and_true, true_and, and_false, false_and, or_true, true_or, or_false, false_or, if_true, if_false, ne_eq, reduceIte]; done) | (exfalso; omega)) dX3_copy_20
end CLASS
