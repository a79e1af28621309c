section CLASS
variable {l : Launch} {D : va_G} {k : Nat → ClassId} {a c : Nat → Nat} {s t kq tp bi si st : Int → Int} {wr tw kw : Int64} {y ty ky ta tk sa en nm ik bt sz : Int} {nu nf : Int → Int64}
set_option maxHeartbeats 400000 in
set_option maxRecDepth 100000 in
theorem cT_read {sh : Int} {m : Int} (zsh : In32 sh) (zm : In32 m) (hs : Ok s) (hbi : ∀ i, 0 ≤ bi i ∧ bi i ≤ 64) (hsi : ∀ i, 0 ≤ si i ∧ si i ≤ 40) : ME l yX3_read cX3_read 6 (some .int) 7 160 D k [.ref (a 0), .int (iI sh), .int (iI m)] (wT a k s (lB (wrF s)) y t tw ty kq (lB (wrF kq)) ky tp ta tk sa en nm bi si nu st ik) (fun x : (Int → Int) × Int64 × Int × Int × Int × Int => wT a k ((fRead s st bi si nu sh m).2.1) (lB (wrF ((fRead s st bi si nu sh m).2.1))) y x.1 x.2.1 x.2.2.1 kq (lB (wrF kq)) ky tp ta x.2.2.2.1 x.2.2.2.2.1 x.2.2.2.2.2 nm bi si nu ((fRead s st bi si nu sh m).2.2) ik) (some (.int (iI ((fRead s st bi si nu sh m).1)))) := by
  refine ME.mk RX3 rfl (by decide +kernel) (Nat.le_of_ble_eq_true rfl) (fun p e U m0 below meth cd ls C hP hD hS hl => ?_)
  have hl : lv_has ls 6 [(0, .ref (a 0)), (1, .int (iI sh)), (2, .int (iI m))] := hl
  have zsh1 := zsh.1
  have zsh2 := zsh.2
  have zm1 := zm.1
  have zm2 := zm.2
  have h00 := hs.1 0 (by decide)
  have h06 := hs.2.2.1
  have h98 := hsi sh
  refine r_iload_n C dX3_read_0 rfl (lv_at hl 1 rfl) ?_
  refine r_cSR1 C m_X3_189 (cT_noSheet (by exact ⟨by omega, by omega⟩)) pn0 hl.1 dX3_read_1 ?_
  refine r_ifB_eq C (tgt := 14) dX3_read_4 (by decide) (fun h1 => ?_) (fun h1 => ?_)
  · have h1 := Classical.not_not.mp h1
    refine r_aload_n C dX3_read_14 rfl (lv_at hl 0 rfl) ?_
    refine g_X3_31 C hP 0 rfl rfl dX3_read_15 ?_
    refine r_iload_n C dX3_read_18 rfl (lv_at hl 1 rfl) ?_
    refine r_aaldS C hP 24 (a := a) rfl dX3_read_19 (by omega) (by omega) ?_
    refine r_cVR0 C m_X3_199 (cS_isMissing (c := fun i => a (25 + 2 * sh.toNat + i)) (nf := shF nu sh) (bt := bi sh) (sz := si sh) (by have := hbi sh; omega) (by have := hbi sh; omega)) (hp_T_nu (by omega) (by omega) hP) rfl rfl hl.1 dX3_read_20 ?_
    refine r_ifB_eq C (tgt := 33) dX3_read_23 (by decide) (fun h2 => ?_) (fun h2 => ?_)
    · refine r_aload_n C dX3_read_33 rfl (lv_at hl 0 rfl) ?_
      refine r_iload_n C dX3_read_34 rfl (lv_at hl 2 rfl) ?_
      refine r_cVR1 C m_X3_101 (cT_noMender (by exact ⟨by omega, by omega⟩) hs) hP rfl rfl hl.1 dX3_read_35 ?_
      refine r_ifB_eq C (tgt := 48) dX3_read_38 (by decide) (fun h3 => ?_) (fun h3 => ?_)
      · have h3 := Classical.not_not.mp h3
        refine r_iconst C dX3_read_48 ?_
        refine r_istore_n C [(3, .int (iI 0)), (0, .ref (a 0)), (1, .int (iI sh)), (2, .int (iI m))] dX3_read_49 rfl hl (by decide) rfl (fun ls hl => ?_)
        refine r_iconst C dX3_read_50 ?_
        refine r_istore C [(4, .int (iI 0)), (3, .int (iI 0)), (0, .ref (a 0)), (1, .int (iI sh)), (2, .int (iI m))] dX3_read_51 hl (by decide) rfl (fun ls hl => ?_)
        refine r_loopWX (fun n : Nat => [(0, .ref (a 0)), (1, .int (iI sh)), (2, .int (iI m)), (3, .int (iI (rdN s si nu sh m (48 * n + 0)))), (4, .int (iI n))]) (fun (n : Nat) (xn : (Int → Int) × Int64 × Int) => wT a k s (lB (wrF s)) y xn.1 xn.2.1 xn.2.2 kq (lB (wrF kq)) ky tp ta tk sa en nm bi si nu st ik) (6) (fun n : Nat => True) trivial (t, tw, ty) (lv_eq (lv_sub hl [2, 3, 4, 1, 0] rfl) rfl) (va_eq hP rfl) (va_eqD hD rfl) hS (fun n hn ihn _ xn ls H locs hl hP hD hS => ?_) (fun _ xn ls H locs hl hP hD hS => ?_)
        · have hl : lv_has ls 6 [(0, .ref (a 0)), (1, .int (iI sh)), (2, .int (iI m)), (3, .int (iI (rdN s si nu sh m (48 * n + 0)))), (4, .int (iI n))] := hl
          have hP : va_P D vwCl (wT a k s (lB (wrF s)) y xn.1 xn.2.1 xn.2.2 kq (lB (wrF kq)) ky tp ta tk sa en nm bi si nu st ik) H := hP
          have hD : va_D _ (wT a k s (lB (wrF s)) y xn.1 xn.2.1 xn.2.2 kq (lB (wrF kq)) ky tp ta tk sa en nm bi si nu st ik) := hD
          refine r_iload C dX3_read_53 (lv_at hl 4 rfl) ?_
          refine r_bipush C dX3_read_55 (by decide) ?_
          refine r_icmp_ge C (tgt := 131) dX3_read_57 (by decide) (by exact ⟨by omega, by omega⟩) ⟨by decide, by decide⟩ (fun h4 => ?_) (fun h4 => ?_)
          · exfalso; omega
          · refine r_iconst C dX3_read_60 ?_
            refine r_istore C [(5, .int (iI 0)), (0, .ref (a 0)), (1, .int (iI sh)), (2, .int (iI m)), (3, .int (iI (rdN s si nu sh m (48 * n + 0)))), (4, .int (iI n))] dX3_read_61 hl (by decide) rfl (fun ls hl => ?_)
            refine r_loopWX (fun j : Nat => [(0, .ref (a 0)), (1, .int (iI sh)), (2, .int (iI m)), (3, .int (iI (rdN s si nu sh m (48 * n + j)))), (4, .int (iI n)), (5, .int (iI j))]) (fun (j : Nat) (xj : (Int → Int) × Int64 × Int) => wT a k s (lB (wrF s)) y xj.1 xj.2.1 xj.2.2 kq (lB (wrF kq)) ky tp ta tk sa en nm bi si nu st ik) (48) (fun j : Nat => True) trivial (xn.1, xn.2.1, xn.2.2) (lv_eq (lv_sub hl [1, 2, 3, 4, 5, 0] rfl) rfl) (va_eq hP rfl) (va_eqD hD rfl) hS (fun j hj ihj _ xj ls H locs hl hP hD hS => ?_) (fun _ xj ls H locs hl hP hD hS => ?_)
            · have hl : lv_has ls 6 [(0, .ref (a 0)), (1, .int (iI sh)), (2, .int (iI m)), (3, .int (iI (rdN s si nu sh m (48 * n + j)))), (4, .int (iI n)), (5, .int (iI j))] := hl
              have hP : va_P D vwCl (wT a k s (lB (wrF s)) y xj.1 xj.2.1 xj.2.2 kq (lB (wrF kq)) ky tp ta tk sa en nm bi si nu st ik) H := hP
              have hD : va_D _ (wT a k s (lB (wrF s)) y xj.1 xj.2.1 xj.2.2 kq (lB (wrF kq)) ky tp ta tk sa en nm bi si nu st ik) := hD
              refine r_iload C dX3_read_63 (lv_at hl 5 rfl) ?_
              refine r_bipush C dX3_read_65 (by decide) ?_
              refine r_icmp_ge C (tgt := 125) dX3_read_67 (by decide) (by exact ⟨by omega, by omega⟩) ⟨by decide, by decide⟩ (fun h5 => ?_) (fun h5 => ?_)
              · exfalso; omega
              · refine r_aload_n C dX3_read_70 rfl (lv_at hl 0 rfl) ?_
                refine g_X3_16 C hP 0 rfl rfl dX3_read_71 ?_
                refine r_aload_n C dX3_read_74 rfl (lv_at hl 0 rfl) ?_
                refine g_X3_10 C hP 0 rfl rfl dX3_read_75 ?_
                refine r_cVW1 C m_X3_150 (cW_become (b := (fun i => a (8 + i))) (d := (fun i => a (1 + i))) (s := xj.1) (t := s) (wr := xj.2.1) (tw := lB (wrF s)) (y := xj.2.2) (ty := y)) hP hD hS [8, 9, 10, 11, 12, 13, 14, 1, 2, 3, 4, 5, 6, 7] (wT a k s (lB (wrF s)) y s (lB (wrF s)) y kq (lB (wrF kq)) ky tp ta tk sa en nm bi si nu st ik) rfl lc_T_t_s rfl lp_T_t_s (wT_ad.trans wT_ad.symm) rfl rfl hl.1 dX3_read_78 (fun H locs hP hD hS => ?_)
                refine r_aload_n C dX3_read_81 rfl (lv_at hl 0 rfl) ?_
                refine g_X3_16 C hP 0 rfl rfl dX3_read_82 ?_
                refine g_X3_104 C hP 8 rfl rfl dX3_read_85 ?_
                refine r_iload_n C dX3_read_88 rfl (lv_at hl 2 rfl) ?_
                refine r_iload C dX3_read_89 (lv_at hl 4 rfl) ?_
                refine r_iast C hP hD hS 11 (wT a k s (lB (wrF s)) y (up s (99 + 4 * m + 0) n) (lB (wrF s)) y kq (lB (wrF kq)) ky tp ta tk sa en nm bi si nu st ik) rfl dX3_read_91 (by omega) (by omega) (by decide) (lf_T_t (wW_ki (by omega) (by omega))) (fun H locs hP hD hS => ?_)
                have ht1 : Ok (up s (99 + 4 * m + 0) n) := ok_up hs ⟨by omega, by omega⟩ ⟨by omega, by omega⟩ (fun _ => by omega) (fun _ _ _ _ => by omega)
                have er2 : wT a k s (lB (wrF s)) y (up s (99 + 4 * m + 0) n) (lB (wrF s)) y kq (lB (wrF kq)) ky tp ta tk sa en nm bi si nu st ik = wT a k s (lB (wrF s)) y (up s (99 + 4 * m + 0) n) (lB (wrF (up s (99 + 4 * m + 0) n))) y kq (lB (wrF kq)) ky tp ta tk sa en nm bi si nu st ik := by rw [show wrF s = wrF (up s (99 + 4 * m + 0) n) from (wrF_o (by omega)).symm]
                have hP := va_eq hP er2
                have hD := va_eqD hD er2
                refine r_aload_n C dX3_read_92 rfl (lv_at hl 0 rfl) ?_
                refine g_X3_16 C hP 0 rfl rfl dX3_read_93 ?_
                refine g_X3_107 C hP 8 rfl rfl dX3_read_96 ?_
                refine r_iload_n C dX3_read_99 rfl (lv_at hl 2 rfl) ?_
                refine r_iload C dX3_read_100 (lv_at hl 5 rfl) ?_
                refine r_iast C hP hD hS 12 (wT a k s (lB (wrF s)) y (up (up s (99 + 4 * m + 0) n) (99 + 4 * m + 1) j) (lB (wrF (up s (99 + 4 * m + 0) n))) y kq (lB (wrF kq)) ky tp ta tk sa en nm bi si nu st ik) rfl dX3_read_102 (by omega) (by omega) (by decide) (lf_T_t (wW_pl (by omega) (by omega))) (fun H locs hP hD hS => ?_)
                have ht3 : Ok (up (up s (99 + 4 * m + 0) n) (99 + 4 * m + 1) j) := ok_up ht1 ⟨by omega, by omega⟩ ⟨by omega, by omega⟩ (fun _ => by omega) (fun _ _ _ _ => by omega)
                have er4 : wT a k s (lB (wrF s)) y (up (up s (99 + 4 * m + 0) n) (99 + 4 * m + 1) j) (lB (wrF (up s (99 + 4 * m + 0) n))) y kq (lB (wrF kq)) ky tp ta tk sa en nm bi si nu st ik = wT a k s (lB (wrF s)) y (up (up s (99 + 4 * m + 0) n) (99 + 4 * m + 1) j) (lB (wrF (up (up s (99 + 4 * m + 0) n) (99 + 4 * m + 1) j))) y kq (lB (wrF kq)) ky tp ta tk sa en nm bi si nu st ik := by rw [show wrF (up s (99 + 4 * m + 0) n) = wrF (up (up s (99 + 4 * m + 0) n) (99 + 4 * m + 1) j) from (wrF_o (by omega)).symm]
                have hP := va_eq hP er4
                have hD := va_eqD hD er4
                refine r_aload_n C dX3_read_103 rfl (lv_at hl 0 rfl) ?_
                refine r_aload_n C dX3_read_104 rfl (lv_at hl 0 rfl) ?_
                refine g_X3_31 C hP 0 rfl rfl dX3_read_105 ?_
                refine r_iload_n C dX3_read_108 rfl (lv_at hl 1 rfl) ?_
                refine r_aaldS C hP 24 (a := a) rfl dX3_read_109 (by omega) (by omega) ?_
                refine r_cVEA1 C m_X3_226 (cT_trialGoesAs (sh := sh) (by omega) (by omega) ht3 hsi) hP hD hS (fun _ => wT_ad.trans wT_ad.symm) rfl rfl hl.1 dX3_read_110 (fun xe5 H locs hP hD hS => ?_)
                have hP : va_P D vwCl (wT a k s (lB (wrF s)) y xe5.1 xe5.2.1 xe5.2.2 kq (lB (wrF kq)) ky tp ta tk sa en nm bi si nu st ik) H := hP
                have hD : va_D _ (wT a k s (lB (wrF s)) y xe5.1 xe5.2.1 xe5.2.2 kq (lB (wrF kq)) ky tp ta tk sa en nm bi si nu st ik) := hD
                refine r_ifB_eq C (tgt := 119) dX3_read_113 (by decide) (fun h6 => ?_) (fun h6 => ?_)
                · refine r_iinc C 5 [(5, .int (iI (j + 1))), (0, .ref (a 0)), (1, .int (iI sh)), (2, .int (iI m)), (3, .int (iI (rdN s si nu sh m (48 * n + j)))), (4, .int (iI n))] dX3_read_119 hl rfl (by decide) rfl (fun ls hl => ?_)
                  refine r_goto C (tgt := 63) dX3_read_122 (by decide) ?_
                  exact ihj trivial (xe5.1, xe5.2.1, xe5.2.2) ls H locs (lv_eq (lv_sub hl [1, 2, 3, 4, 5, 0] rfl) (by rw [show 48 * n + (j + 1) = (48 * n + j) + 1 from rfl, rdN, ← rdS_nj hj, if_neg h6, Int.add_zero]; rfl)) (va_eq hP rfl) (va_eqD hD rfl) hS
                · refine r_iinc C 3 [(3, .int (iI (rdN s si nu sh m (48 * n + j) + 1))), (0, .ref (a 0)), (1, .int (iI sh)), (2, .int (iI m)), (4, .int (iI n)), (5, .int (iI j))] dX3_read_116 hl rfl (by decide) rfl (fun ls hl => ?_)
                  refine r_iinc C 5 [(5, .int (iI (j + 1))), (3, .int (iI (rdN s si nu sh m (48 * n + j) + 1))), (0, .ref (a 0)), (1, .int (iI sh)), (2, .int (iI m)), (4, .int (iI n))] dX3_read_119 hl rfl (by decide) rfl (fun ls hl => ?_)
                  refine r_goto C (tgt := 63) dX3_read_122 (by decide) ?_
                  exact ihj trivial (xe5.1, xe5.2.1, xe5.2.2) ls H locs (lv_eq (lv_sub hl [2, 3, 4, 1, 5, 0] rfl) (by rw [show 48 * n + (j + 1) = (48 * n + j) + 1 from rfl, rdN, ← rdS_nj hj, if_pos h6]; rfl)) (va_eq hP rfl) (va_eqD hD rfl) hS
            · have hl : lv_has ls 6 [(0, .ref (a 0)), (1, .int (iI sh)), (2, .int (iI m)), (3, .int (iI (rdN s si nu sh m (48 * n + 48)))), (4, .int (iI n)), (5, .int (iI 48))] := hl
              have hP : va_P D vwCl (wT a k s (lB (wrF s)) y xj.1 xj.2.1 xj.2.2 kq (lB (wrF kq)) ky tp ta tk sa en nm bi si nu st ik) H := hP
              have hD : va_D _ (wT a k s (lB (wrF s)) y xj.1 xj.2.1 xj.2.2 kq (lB (wrF kq)) ky tp ta tk sa en nm bi si nu st ik) := hD
              refine r_iload C dX3_read_63 (lv_at hl 5 rfl) ?_
              refine r_bipush C dX3_read_65 (by decide) ?_
              refine r_icmp_ge C (tgt := 125) dX3_read_67 (by decide) ⟨by decide, by decide⟩ ⟨by decide, by decide⟩ (fun h7 => ?_) (fun h7 => ?_)
              · refine r_iinc C 4 [(4, .int (iI (n + 1))), (0, .ref (a 0)), (1, .int (iI sh)), (2, .int (iI m)), (3, .int (iI (rdN s si nu sh m (48 * n + 48)))), (5, .int (iI 48))] dX3_read_125 hl rfl (by decide) rfl (fun ls hl => ?_)
                refine r_goto C (tgt := 53) dX3_read_128 (by decide) ?_
                exact ihn trivial (xj.1, xj.2.1, xj.2.2) ls H locs (lv_eq (lv_sub hl [1, 2, 3, 4, 0] rfl) rfl) (va_eq hP rfl) (va_eqD hD rfl) hS
              · exfalso; omega
        · have hl : lv_has ls 6 [(0, .ref (a 0)), (1, .int (iI sh)), (2, .int (iI m)), (3, .int (iI (rdN s si nu sh m (48 * 6 + 0)))), (4, .int (iI 6))] := hl
          have hP : va_P D vwCl (wT a k s (lB (wrF s)) y xn.1 xn.2.1 xn.2.2 kq (lB (wrF kq)) ky tp ta tk sa en nm bi si nu st ik) H := hP
          have hD : va_D _ (wT a k s (lB (wrF s)) y xn.1 xn.2.1 xn.2.2 kq (lB (wrF kq)) ky tp ta tk sa en nm bi si nu st ik) := hD
          refine r_iload C dX3_read_53 (lv_at hl 4 rfl) ?_
          refine r_bipush C dX3_read_55 (by decide) ?_
          refine r_icmp_ge C (tgt := 131) dX3_read_57 (by decide) ⟨by decide, by decide⟩ ⟨by decide, by decide⟩ (fun h8 => ?_) (fun h8 => ?_)
          · refine r_iload_n C dX3_read_131 rfl (lv_at hl 3 rfl) ?_
            exact r_iretE C hP hS (xn.1, xn.2.1, xn.2.2, tk, sa, en) (by first | (simp only [fRead, wsh, fD, fV, h1, h2, h3, h8, not_true_eq_false, not_false_eq_true, and_true, true_and, and_false, false_and, or_true, true_or, or_false, false_or, if_true, if_false, ne_eq, reduceIte, show ¬ (-1000000006 : Int) = 0 by decide, show ¬ (-1000000001 : Int) = 0 by decide, eq_self]; done) | (exfalso; omega)) (by first | (simp only [fRead, wsh, fD, fV, h1, h2, h3, h8, not_true_eq_false, not_false_eq_true, and_true, true_and, and_false, false_and, or_true, true_or, or_false, false_or, if_true, if_false, ne_eq, reduceIte, show ¬ (-1000000006 : Int) = 0 by decide, show ¬ (-1000000001 : Int) = 0 by decide, eq_self]; done) | (exfalso; omega)) dX3_read_132
          · exfalso; omega
      · refine r_aload_n C dX3_read_41 rfl (lv_at hl 0 rfl) ?_
        refine r_ldc C (-1000000001) ki_X3_48 (by decide) dX3_read_42 ?_
        refine r_cVWA1 C m_X3_49 (cT_finding (by omega) (by omega)) hP hD hS (wT_ad.trans wT_ad.symm) rfl rfl hl.1 dX3_read_44 (fun H locs hP hD hS => ?_)
        exact r_iretE C hP hS (t, tw, ty, tk, sa, en) (by first | (simp only [fRead, wsh, fD, fV, h1, h2, h3, not_true_eq_false, not_false_eq_true, and_true, true_and, and_false, false_and, or_true, true_or, or_false, false_or, if_true, if_false, ne_eq, reduceIte, show ¬ (-1000000006 : Int) = 0 by decide, show ¬ (-1000000001 : Int) = 0 by decide, eq_self]; done) | (exfalso; omega)) (by first | (simp only [fRead, wsh, fD, fV, h1, h2, h3, not_true_eq_false, not_false_eq_true, and_true, true_and, and_false, false_and, or_true, true_or, or_false, false_or, if_true, if_false, ne_eq, reduceIte, show ¬ (-1000000006 : Int) = 0 by decide, show ¬ (-1000000001 : Int) = 0 by decide, eq_self]; done) | (exfalso; omega)) dX3_read_47
    · refine r_aload_n C dX3_read_26 rfl (lv_at hl 0 rfl) ?_
      refine r_ldc C (-1000000006) ki_X3_203 (by decide) dX3_read_27 ?_
      refine r_cVWA1 C m_X3_49 (cT_finding (by omega) (by omega)) hP hD hS (wT_ad.trans wT_ad.symm) rfl rfl hl.1 dX3_read_29 (fun H locs hP hD hS => ?_)
      exact r_iretE C hP hS (t, tw, ty, tk, sa, en) (by first | (simp only [fRead, wsh, fD, fV, h1, h2, not_true_eq_false, not_false_eq_true, and_true, true_and, and_false, false_and, or_true, true_or, or_false, false_or, if_true, if_false, ne_eq, reduceIte, show ¬ (-1000000006 : Int) = 0 by decide, show ¬ (-1000000001 : Int) = 0 by decide, eq_self]; done) | (exfalso; omega)) (by first | (simp only [fRead, wsh, fD, fV, h1, h2, not_true_eq_false, not_false_eq_true, and_true, true_and, and_false, false_and, or_true, true_or, or_false, false_or, if_true, if_false, ne_eq, reduceIte, show ¬ (-1000000006 : Int) = 0 by decide, show ¬ (-1000000001 : Int) = 0 by decide, eq_self]; done) | (exfalso; omega)) dX3_read_32
  · refine r_aload_n C dX3_read_7 rfl (lv_at hl 0 rfl) ?_
    refine r_ldc C (-1000000001) ki_X3_48 (by decide) dX3_read_8 ?_
    refine r_cVWA1 C m_X3_49 (cT_finding (by omega) (by omega)) hP hD hS (wT_ad.trans wT_ad.symm) rfl rfl hl.1 dX3_read_10 (fun H locs hP hD hS => ?_)
    exact r_iretE C hP hS (t, tw, ty, tk, sa, en) (by first | (simp only [fRead, wsh, fD, fV, h1, not_true_eq_false, not_false_eq_true, and_true, true_and, and_false, false_and, or_true, true_or, or_false, false_or, if_true, if_false, ne_eq, reduceIte, show ¬ (-1000000006 : Int) = 0 by decide, show ¬ (-1000000001 : Int) = 0 by decide, eq_self]; done) | (exfalso; omega)) (by first | (simp only [fRead, wsh, fD, fV, h1, not_true_eq_false, not_false_eq_true, and_true, true_and, and_false, false_and, or_true, true_or, or_false, false_or, if_true, if_false, ne_eq, reduceIte, show ¬ (-1000000006 : Int) = 0 by decide, show ¬ (-1000000001 : Int) = 0 by decide, eq_self]; done) | (exfalso; omega)) dX3_read_13
set_option maxHeartbeats 400000 in
set_option maxRecDepth 100000 in
theorem cT_image   : ME l yX3_image cX3_image 1 (some .int) 2 85 D k [.ref (a 0)] (wT a k s (lB (wrF s)) y t tw ty kq (lB (wrF kq)) ky tp ta tk sa en nm bi si nu st ik) (fun x : (Int → Int) × Int64 × Int × Int × Int × Int => wT a k s (lB (wrF s)) y x.1 x.2.1 x.2.2.1 s (lB (wrF s)) y tp ta x.2.2.2.1 x.2.2.2.2.1 x.2.2.2.2.2 nm bi si nu st 1) (some (.int (iI 1))) := by
  refine ME.mk RX3 rfl (by decide +kernel) (Nat.le_of_ble_eq_true rfl) (fun p e U m0 below meth cd ls C hP hD hS hl => ?_)
  have hl : lv_has ls 1 [(0, .ref (a 0))] := hl
  refine r_aload_n C dX3_image_0 rfl (lv_at hl 0 rfl) ?_
  refine g_X3_19 C hP 0 rfl rfl dX3_image_1 ?_
  refine r_aload_n C dX3_image_4 rfl (lv_at hl 0 rfl) ?_
  refine g_X3_10 C hP 0 rfl rfl dX3_image_5 ?_
  refine r_cVW1 C m_X3_150 (cW_become (b := (fun i => a (15 + i))) (d := (fun i => a (1 + i))) (s := kq) (t := s) (wr := lB (wrF kq)) (tw := lB (wrF s)) (y := ky) (ty := y)) hP hD hS [15, 16, 17, 18, 19, 20, 21, 1, 2, 3, 4, 5, 6, 7] (wT a k s (lB (wrF s)) y t tw ty s (lB (wrF s)) y tp ta tk sa en nm bi si nu st ik) rfl lc_T_kq_s rfl lp_T_kq_s (wT_ad.trans wT_ad.symm) rfl rfl hl.1 dX3_image_8 (fun H locs hP hD hS => ?_)
  refine r_aload_n C dX3_image_11 rfl (lv_at hl 0 rfl) ?_
  refine r_iconst C dX3_image_12 ?_
  refine p_X3_230 C hP hD hS 0 (wT a k s (lB (wrF s)) y t tw ty s (lB (wrF s)) y tp ta tk sa en nm bi si nu st 1) rfl (by decide) (by decide) (Nat.le_of_ble_eq_true rfl) rfl dX3_image_13 (fun H locs hP hD hS => ?_)
  refine r_iconst C dX3_image_16 ?_
  exact r_iretE C hP hS (t, tw, ty, tk, sa, en) rfl rfl dX3_image_17
set_option maxHeartbeats 400000 in
set_option maxRecDepth 100000 in
theorem cT_undo  (hik : 0 ≤ ik ∧ ik ≤ 1) : ME l yX3_undo cX3_undo 1 (some .int) 2 85 D k [.ref (a 0)] (wT a k s (lB (wrF s)) y t tw ty kq (lB (wrF kq)) ky tp ta tk sa en nm bi si nu st ik) (fun x : (Int → Int) × Int64 × Int × Int × Int × Int => wT a k ((fUndo s st kq ik).2.1) (lB (wrF ((fUndo s st kq ik).2.1))) (if ik = 0 then y else ky) x.1 x.2.1 x.2.2.1 kq (lB (wrF kq)) ky tp ta x.2.2.2.1 x.2.2.2.2.1 x.2.2.2.2.2 nm bi si nu ((fUndo s st kq ik).2.2) ik) (some (.int (iI ((fUndo s st kq ik).1)))) := by
  refine ME.mk RX3 rfl (by decide +kernel) (Nat.le_of_ble_eq_true rfl) (fun p e U m0 below meth cd ls C hP hD hS hl => ?_)
  have hl : lv_has ls 1 [(0, .ref (a 0))] := hl
  refine r_aload_n C dX3_undo_0 rfl (lv_at hl 0 rfl) ?_
  refine g_X3_230 C hP 0 rfl rfl dX3_undo_1 ?_
  refine r_if_ne C (tgt := 14) dX3_undo_4 (by decide) (by exact ⟨by omega, by omega⟩) (fun h1 => ?_) (fun h1 => ?_)
  · refine r_aload_n C dX3_undo_14 rfl (lv_at hl 0 rfl) ?_
    refine g_X3_10 C hP 0 rfl rfl dX3_undo_15 ?_
    refine r_aload_n C dX3_undo_18 rfl (lv_at hl 0 rfl) ?_
    refine g_X3_19 C hP 0 rfl rfl dX3_undo_19 ?_
    refine r_cVW1 C m_X3_150 (cW_become (b := (fun i => a (1 + i))) (d := (fun i => a (15 + i))) (s := s) (t := kq) (wr := lB (wrF s)) (tw := lB (wrF kq)) (y := y) (ty := ky)) hP hD hS [1, 2, 3, 4, 5, 6, 7, 15, 16, 17, 18, 19, 20, 21] (wT a k kq (lB (wrF kq)) ky t tw ty kq (lB (wrF kq)) ky tp ta tk sa en nm bi si nu st ik) rfl lc_T_s_kq rfl lp_T_s_kq (wT_ad.trans wT_ad.symm) rfl rfl hl.1 dX3_undo_22 (fun H locs hP hD hS => ?_)
    refine r_aload_n C dX3_undo_25 rfl (lv_at hl 0 rfl) ?_
    refine g_X3_10 C hP 0 rfl rfl dX3_undo_26 ?_
    refine g_X3_94 C hP 1 rfl rfl dX3_undo_29 ?_
    exact r_iretE C hP hS (t, tw, ty, tk, sa, en) (by simp only [fUndo, fD, h1, not_true_eq_false, not_false_eq_true, and_true, true_and, and_false, false_and, or_true, true_or, or_false, false_or, if_true, if_false, ne_eq, reduceIte]) (by simp only [fUndo, fD, h1, not_true_eq_false, not_false_eq_true, and_true, true_and, and_false, false_and, or_true, true_or, or_false, false_or, if_true, if_false, ne_eq, reduceIte]) dX3_undo_32
  · refine r_aload_n C dX3_undo_7 rfl (lv_at hl 0 rfl) ?_
    refine r_ldc C (-1000000004) ki_X3_159 (by decide) dX3_undo_8 ?_
    refine r_cVWA1 C m_X3_49 (cT_finding (by omega) (by omega)) hP hD hS (wT_ad.trans wT_ad.symm) rfl rfl hl.1 dX3_undo_10 (fun H locs hP hD hS => ?_)
    exact r_iretE C hP hS (t, tw, ty, tk, sa, en) (by simp only [fUndo, fD, eq_true h1, not_true_eq_false, not_false_eq_true, and_true, true_and, and_false, false_and, or_true, true_or, or_false, false_or, if_true, if_false, ne_eq, reduceIte]) (by simp only [fUndo, fD, eq_true h1, not_true_eq_false, not_false_eq_true, and_true, true_and, and_false, false_and, or_true, true_or, or_false, false_or, if_true, if_false, ne_eq, reduceIte]) dX3_undo_13
set_option maxHeartbeats 400000 in
set_option maxRecDepth 100000 in
theorem cT_tear  (hik : 0 ≤ ik ∧ ik ≤ 1) : ME l yX3_tear cX3_tear 2 (some .int) 0 0 D k [.ref (a 0)] (wT a k s (lB (wrF s)) y t tw ty kq (lB (wrF kq)) ky tp ta tk sa en nm bi si nu st ik) (fun x : (Int → Int) × Int64 × Int × Int × Int × Int => wT a k s (lB (wrF s)) y x.1 x.2.1 x.2.2.1 kq (lB (wrF kq)) ky tp ta x.2.2.2.1 x.2.2.2.2.1 x.2.2.2.2.2 nm bi si nu st 0) (some (.int (iI (if ik = 0 then 0 else 1)))) := by
  refine ME.mk RX3 rfl (by decide +kernel) (Nat.le_of_ble_eq_true rfl) (fun p e U m0 below meth cd ls C hP hD hS hl => ?_)
  have hl : lv_has ls 2 [(0, .ref (a 0))] := hl
  refine r_aload_n C dX3_tear_0 rfl (lv_at hl 0 rfl) ?_
  refine g_X3_230 C hP 0 rfl rfl dX3_tear_1 ?_
  refine r_if_eq C (tgt := 11) dX3_tear_4 (by decide) (by exact ⟨by omega, by omega⟩) (fun h1 => ?_) (fun h1 => ?_)
  · refine r_iconst C dX3_tear_11 ?_
    refine r_istore_n C [(1, .int (iI 0)), (0, .ref (a 0))] dX3_tear_12 rfl hl (by decide) rfl (fun ls hl => ?_)
    refine r_aload_n C dX3_tear_13 rfl (lv_at hl 1 rfl) ?_
    refine r_iconst C dX3_tear_14 ?_
    refine p_X3_230 C hP hD hS 0 (wT a k s (lB (wrF s)) y t tw ty kq (lB (wrF kq)) ky tp ta tk sa en nm bi si nu st 0) rfl (by decide) (by decide) (Nat.le_of_ble_eq_true rfl) rfl dX3_tear_15 (fun H locs hP hD hS => ?_)
    refine r_iload_n C dX3_tear_18 rfl (lv_at hl 0 rfl) ?_
    exact r_iretE C hP hS (t, tw, ty, tk, sa, en) rfl (by simp only [eq_true h1, not_true_eq_false, not_false_eq_true, and_true, true_and, and_false, false_and, or_true, true_or, or_false, false_or, if_true, if_false, ne_eq, reduceIte]) dX3_tear_19
  · refine r_iconst C dX3_tear_7 ?_
    refine r_goto C (tgt := 12) dX3_tear_8 (by decide) ?_
    refine r_istore_n C [(1, .int (iI 1)), (0, .ref (a 0))] dX3_tear_12 rfl hl (by decide) rfl (fun ls hl => ?_)
    refine r_aload_n C dX3_tear_13 rfl (lv_at hl 1 rfl) ?_
    refine r_iconst C dX3_tear_14 ?_
    refine p_X3_230 C hP hD hS 0 (wT a k s (lB (wrF s)) y t tw ty kq (lB (wrF kq)) ky tp ta tk sa en nm bi si nu st 0) rfl (by decide) (by decide) (Nat.le_of_ble_eq_true rfl) rfl dX3_tear_15 (fun H locs hP hD hS => ?_)
    refine r_iload_n C dX3_tear_18 rfl (lv_at hl 0 rfl) ?_
    exact r_iretE C hP hS (t, tw, ty, tk, sa, en) rfl (by simp only [h1, not_true_eq_false, not_false_eq_true, and_true, true_and, and_false, false_and, or_true, true_or, or_false, false_or, if_true, if_false, ne_eq, reduceIte]) dX3_tear_19
set_option maxHeartbeats 400000 in
set_option maxRecDepth 100000 in
theorem cT_wipe   : ME l yX3_wipe cX3_wipe 2 (some .int) 0 0 D k [.ref (a 0)] (wT a k s (lB (wrF s)) y t tw ty kq (lB (wrF kq)) ky tp ta tk sa en nm bi si nu st ik) (fun x : (Int → Int) × Int64 × Int × Int × Int × Int => wT a k s (lB (wrF s)) y x.1 x.2.1 x.2.2.1 kq (lB (wrF kq)) ky tp 0 x.2.2.2.1 x.2.2.2.2.1 x.2.2.2.2.2 nm bi si nu st ik) (some (.int (iI ta))) := by
  refine ME.mk RX3 rfl (by decide +kernel) (Nat.le_of_ble_eq_true rfl) (fun p e U m0 below meth cd ls C hP hD hS hl => ?_)
  have hl : lv_has ls 2 [(0, .ref (a 0))] := hl
  refine r_aload_n C dX3_wipe_0 rfl (lv_at hl 0 rfl) ?_
  refine g_X3_25 C hP 0 rfl rfl dX3_wipe_1 ?_
  refine g_X3_179 C hP 22 rfl rfl dX3_wipe_4 ?_
  refine r_istore_n C [(1, .int (iI ta)), (0, .ref (a 0))] dX3_wipe_7 rfl hl (by decide) rfl (fun ls hl => ?_)
  refine r_aload_n C dX3_wipe_8 rfl (lv_at hl 1 rfl) ?_
  refine g_X3_25 C hP 0 rfl rfl dX3_wipe_9 ?_
  refine r_iconst C dX3_wipe_12 ?_
  refine p_X3_179 C hP hD hS 22 (wT a k s (lB (wrF s)) y t tw ty kq (lB (wrF kq)) ky tp 0 tk sa en nm bi si nu st ik) rfl (Nat.le_of_ble_eq_true rfl) rfl dX3_wipe_13 (fun H locs hP hD hS => ?_)
  refine r_iload_n C dX3_wipe_16 rfl (lv_at hl 0 rfl) ?_
  exact r_iretE C hP hS (t, tw, ty, tk, sa, en) rfl rfl dX3_wipe_17
end CLASS
