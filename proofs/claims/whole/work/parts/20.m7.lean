section MODEL
variable {l : Launch} {D : va_G} {k : Nat → ClassId} {a : Nat → Nat} {s kp ot sd st sp tp bi si : Int → Int} {nu mo : Int → Int64} {ik dl tl ta fr to va iw : Int}
set_option maxHeartbeats 4000000 in
set_option maxRecDepth 100000 in
theorem cM_cells {w : Int} (zw : In32 w) (hs : Ok s) : ME l yX4_cells cX4_cells 5 (some .long) 1 25 D k [.ref (a 0), .int (iI w)] (wM a k s kp ot sd st sp tp bi si nu mo ik (-1) tl ta fr to va iw) (fun x : (Int → Int) × (Int → Int) × (Int → Int) × (Int → Int64) × Int => wM a k ((fCells s st w).2.1) kp x.1 x.2.1 ((fCells s st w).2.2) x.2.2.1 tp bi si nu x.2.2.2.1 ik (-1) x.2.2.2.2 ta fr to va iw) (some (.long (lI ((fCells s st w).1)))) := by
  refine ME.mk RX4 rfl (by decide +kernel) (Nat.le_of_ble_eq_true rfl) (fun p e U m0 below meth cd ls C hP hD hS hl => ?_)
  have hl : lv_has ls 5 [(0, .ref (a 0)), (1, .int (iI w))] := hl
  have zw1 := zw.1
  have zw2 := zw.2
  have h00 := hs.1 0 (by decide)
  have h06 := hs.2.2.1
  refine r_iload_n C dX4_cells_0 rfl (lv_at hl 1 rfl) ?_
  refine r_i2l C dX4_cells_1 (by exact ⟨by omega, by omega⟩) ?_
  refine r_lconst C (z := 0) dX4_cells_2 (by decide) ?_
  refine r_ldc2 C (6) kl_X4_89 (by decide) dX4_cells_3 ?_
  refine r_cSR3 C m_X4_51 (cM_in (by exact ⟨by omega, by omega⟩) ⟨by decide, by decide⟩ ⟨by decide, by decide⟩) pn0 hl.1 dX4_cells_6 ?_
  refine r_ifB_ne C (tgt := 20) dX4_cells_9 (by decide) (fun h1 => ?_) (fun h1 => ?_)
  · refine r_lconst C (z := 0) dX4_cells_20 (by decide) ?_
    refine r_lstore_n C [(2, .long (lI 0)), (0, .ref (a 0)), (1, .int (iI w))] dX4_cells_21 rfl hl (by decide) rfl (fun ls hl => ?_)
    refine r_iconst C dX4_cells_22 ?_
    refine r_istore C [(4, .int (iI 0)), (2, .long (lI 0)), (0, .ref (a 0)), (1, .int (iI w))] dX4_cells_23 hl (by decide) rfl (fun ls hl => ?_)
    refine r_loopR (fun n : Nat => [(0, .ref (a 0)), (1, .int (iI w)), (2, .long (lI (csN s w n))), (4, .int (iI n))]) (48) (lv_eq (lv_sub hl [2, 3, 1, 0] rfl) rfl) (fun n hn ihn ls hl => ?_) (fun ls hl => ?_)
    · have hl : lv_has ls 5 [(0, .ref (a 0)), (1, .int (iI w)), (2, .long (lI (csN s w n))), (4, .int (iI n))] := hl
      refine r_iload C dX4_cells_25 (lv_at hl 3 rfl) ?_
      refine r_bipush C dX4_cells_27 (by decide) ?_
      refine r_icmp_ge C (tgt := 80) dX4_cells_29 (by decide) (by exact ⟨by omega, by omega⟩) ⟨by decide, by decide⟩ (fun h2 => ?_) (fun h2 => ?_)
      · exfalso; omega
      · refine r_lload_n C dX4_cells_32 rfl (lv_at hl 2 rfl) ?_
        refine r_iload_n C dX4_cells_33 rfl (lv_at hl 1 rfl) ?_
        refine r_if_ne C (tgt := 49) dX4_cells_34 (by decide) (by exact ⟨by omega, by omega⟩) (fun h3 => ?_) (fun h3 => ?_)
        · refine r_aload_n C dX4_cells_49 rfl (lv_at hl 0 rfl) ?_
          refine g_X4_7 C hP 0 rfl rfl dX4_cells_50 ?_
          refine r_iconst C dX4_cells_53 ?_
          refine r_iload C dX4_cells_54 (lv_at hl 3 rfl) ?_
          refine r_iadd C dX4_cells_56 ?_
          refine r_iald C hP 1 rfl dX4_cells_57 (by omega) (by omega) (by decide) ?_
          refine r_iload_n C dX4_cells_58 rfl (lv_at hl 1 rfl) ?_
          refine r_iconst C dX4_cells_59 ?_
          refine r_isub C dX4_cells_60 ?_
          refine r_icmp_ne C (tgt := 71) dX4_cells_61 (by decide) (by have := hs.1 (3 + n) (by omega); exact ⟨by omega, by omega⟩) (by exact ⟨by omega, by omega⟩) (fun h4 => ?_) (fun h4 => ?_)
          · refine r_lconst C (z := 0) dX4_cells_71 (by decide) ?_
            refine r_lor0 C dX4_cells_72 ?_
            refine r_lstore_n C [(2, .long (lI (csN s w n))), (0, .ref (a 0)), (1, .int (iI w)), (4, .int (iI n))] dX4_cells_73 rfl hl (by decide) rfl (fun ls hl => ?_)
            refine r_iinc C 3 [(4, .int (iI (n + 1))), (2, .long (lI (csN s w n))), (0, .ref (a 0)), (1, .int (iI w))] dX4_cells_74 hl rfl (by decide) rfl (fun ls hl => ?_)
            refine r_goto C (tgt := 25) dX4_cells_77 (by decide) ?_
            exact ihn ls (lv_eq (lv_sub hl [2, 3, 1, 0] rfl) (by simp only [csN, h1, h2, h3, h4, not_true_eq_false, not_false_eq_true, and_true, true_and, and_false, false_and, or_true, true_or, or_false, false_or, if_true, if_false, ne_eq, reduceIte, Int.add_zero]; rfl))
          · refine r_lconst C (z := 1) dX4_cells_64 (by decide) ?_
            refine r_iload C dX4_cells_65 (lv_at hl 3 rfl) ?_
            refine r_lshl1 C dX4_cells_67 (by omega) (by omega) ?_
            refine r_goto C (tgt := 72) dX4_cells_68 (by decide) ?_
            refine r_lorP C dX4_cells_72 (csN_rg s w n).1 (csN_rg s w n).2 ?_
            refine r_lstore_n C [(2, .long (lI ((csN s w n) + (2 ^ (n : Int).toNat)))), (0, .ref (a 0)), (1, .int (iI w)), (4, .int (iI n))] dX4_cells_73 rfl hl (by decide) rfl (fun ls hl => ?_)
            refine r_iinc C 3 [(4, .int (iI (n + 1))), (2, .long (lI ((csN s w n) + (2 ^ (n : Int).toNat)))), (0, .ref (a 0)), (1, .int (iI w))] dX4_cells_74 hl rfl (by decide) rfl (fun ls hl => ?_)
            refine r_goto C (tgt := 25) dX4_cells_77 (by decide) ?_
            exact ihn ls (lv_eq (lv_sub hl [2, 3, 1, 0] rfl) (by simp only [csN, h1, h2, h3, eq_true h4, not_true_eq_false, not_false_eq_true, and_true, true_and, and_false, false_and, or_true, true_or, or_false, false_or, if_true, if_false, ne_eq, reduceIte, Int.add_zero]; rfl))
        · refine r_aload_n C dX4_cells_37 rfl (lv_at hl 0 rfl) ?_
          refine r_iload C dX4_cells_38 (lv_at hl 3 rfl) ?_
          refine r_cVR1 C m_X4_61 (cM_isUntrue (by omega) (by omega) hs) hP rfl rfl hl.1 dX4_cells_40 ?_
          refine r_ifB_eq C (tgt := 71) dX4_cells_43 (by decide) (fun h5 => ?_) (fun h5 => ?_)
          · refine r_lconst C (z := 0) dX4_cells_71 (by decide) ?_
            refine r_lor0 C dX4_cells_72 ?_
            refine r_lstore_n C [(2, .long (lI (csN s w n))), (0, .ref (a 0)), (1, .int (iI w)), (4, .int (iI n))] dX4_cells_73 rfl hl (by decide) rfl (fun ls hl => ?_)
            refine r_iinc C 3 [(4, .int (iI (n + 1))), (2, .long (lI (csN s w n))), (0, .ref (a 0)), (1, .int (iI w))] dX4_cells_74 hl rfl (by decide) rfl (fun ls hl => ?_)
            refine r_goto C (tgt := 25) dX4_cells_77 (by decide) ?_
            exact ihn ls (lv_eq (lv_sub hl [2, 3, 1, 0] rfl) (by simp only [csN, h1, h2, eq_true h3, h5, not_true_eq_false, not_false_eq_true, and_true, true_and, and_false, false_and, or_true, true_or, or_false, false_or, if_true, if_false, ne_eq, reduceIte, Int.add_zero]; rfl))
          · refine r_goto C (tgt := 64) dX4_cells_46 (by decide) ?_
            refine r_lconst C (z := 1) dX4_cells_64 (by decide) ?_
            refine r_iload C dX4_cells_65 (lv_at hl 3 rfl) ?_
            refine r_lshl1 C dX4_cells_67 (by omega) (by omega) ?_
            refine r_goto C (tgt := 72) dX4_cells_68 (by decide) ?_
            refine r_lorP C dX4_cells_72 (csN_rg s w n).1 (csN_rg s w n).2 ?_
            refine r_lstore_n C [(2, .long (lI ((csN s w n) + (2 ^ (n : Int).toNat)))), (0, .ref (a 0)), (1, .int (iI w)), (4, .int (iI n))] dX4_cells_73 rfl hl (by decide) rfl (fun ls hl => ?_)
            refine r_iinc C 3 [(4, .int (iI (n + 1))), (2, .long (lI ((csN s w n) + (2 ^ (n : Int).toNat)))), (0, .ref (a 0)), (1, .int (iI w))] dX4_cells_74 hl rfl (by decide) rfl (fun ls hl => ?_)
            refine r_goto C (tgt := 25) dX4_cells_77 (by decide) ?_
            exact ihn ls (lv_eq (lv_sub hl [2, 3, 1, 0] rfl) (by simp only [csN, h1, h2, eq_true h3, h5, not_true_eq_false, not_false_eq_true, and_true, true_and, and_false, false_and, or_true, true_or, or_false, false_or, if_true, if_false, ne_eq, reduceIte, Int.add_zero]; rfl))
    · have hl : lv_has ls 5 [(0, .ref (a 0)), (1, .int (iI w)), (2, .long (lI (csN s w 48))), (4, .int (iI 48))] := hl
      refine r_iload C dX4_cells_25 (lv_at hl 3 rfl) ?_
      refine r_bipush C dX4_cells_27 (by decide) ?_
      refine r_icmp_ge C (tgt := 80) dX4_cells_29 (by decide) ⟨by decide, by decide⟩ ⟨by decide, by decide⟩ (fun h6 => ?_) (fun h6 => ?_)
      · refine r_lload_n C dX4_cells_80 rfl (lv_at hl 2 rfl) ?_
        exact r_lretE C hP hS (ot, sd, sp, mo, tl) (by first | (simp only [fCells, fD, fV, h1, h6, not_true_eq_false, not_false_eq_true, and_true, true_and, and_false, false_and, or_true, true_or, or_false, false_or, if_true, if_false, ne_eq, reduceIte]; done) | (exfalso; omega)) (by first | (simp only [fCells, fD, fV, h1, h6, not_true_eq_false, not_false_eq_true, and_true, true_and, and_false, false_and, or_true, true_or, or_false, false_or, if_true, if_false, ne_eq, reduceIte]; done) | (exfalso; omega)) dX4_cells_81
      · exfalso; omega
  · refine r_aload_n C dX4_cells_12 rfl (lv_at hl 0 rfl) ?_
    refine r_ldc C (-1000000001) ki_X4_48 (by decide) dX4_cells_13 ?_
    refine r_cVW1 C m_X4_74 (cM_finds (by omega) (by omega)) hP hD hS [0, 1, 2, 3, 4, 5, 6, 7, 8, 9, 10, 11] (wM a k s kp ot sd (fnd st (-1000000001)) sp tp bi si nu mo ik (-1) tl ta fr to va iw) rfl rfl rfl rfl rfl rfl rfl hl.1 dX4_cells_15 (fun H locs hP hD hS => ?_)
    refine r_i2l C dX4_cells_18 (by exact ⟨by omega, by omega⟩) ?_
    exact r_lretE C hP hS (ot, sd, sp, mo, tl) (by first | (simp only [fCells, fD, fV, h1, not_true_eq_false, not_false_eq_true, and_true, true_and, and_false, false_and, or_true, true_or, or_false, false_or, if_true, if_false, ne_eq, reduceIte]; done) | (exfalso; omega)) (by first | (simp only [fCells, fD, fV, h1, not_true_eq_false, not_false_eq_true, and_true, true_and, and_false, false_and, or_true, true_or, or_false, false_or, if_true, if_false, ne_eq, reduceIte]; done) | (exfalso; omega)) dX4_cells_19
set_option maxHeartbeats 4000000 in
set_option maxRecDepth 100000 in
theorem cM_narrowed {b : Int} {v : Int} (hb : 0 ≤ b) (hb1 : b ≤ 64) : MR l yX4_narrowed cX4_narrowed 3 (some .long) 0 0 D k [.int (iI b), .long (lI v)] [] (.long (lI (nrw b v))) := by
  refine MR.mk RX4 rfl (by decide +kernel) (Nat.le_of_ble_eq_true rfl) (fun p e U m0 below meth cd ls C hP hl => ?_)
  have hl : lv_has ls 3 [(0, .int (iI b)), (1, .long (lI v))] := hl
  refine r_iload_n C dX4_narrowed_0 rfl (lv_at hl 0 rfl) ?_
  refine r_bipush C dX4_narrowed_1 (by decide) ?_
  refine r_icmp_ne C (tgt := 13) dX4_narrowed_3 (by decide) (by exact ⟨by omega, by omega⟩) ⟨by decide, by decide⟩ (fun h1 => ?_) (fun h1 => ?_)
  · refine r_iload_n C dX4_narrowed_13 rfl (lv_at hl 0 rfl) ?_
    refine r_bipush C dX4_narrowed_14 (by decide) ?_
    refine r_icmp_ne C (tgt := 26) dX4_narrowed_16 (by decide) (by exact ⟨by omega, by omega⟩) ⟨by decide, by decide⟩ (fun h2 => ?_) (fun h2 => ?_)
    · refine r_lload_n C dX4_narrowed_26 rfl (lv_at hl 1 rfl) ?_
      exact r_lretR C (by simp only [nrw, h1, h2, not_true_eq_false, not_false_eq_true, and_true, true_and, and_false, false_and, or_true, true_or, or_false, false_or, if_true, if_false, ne_eq, reduceIte]) dX4_narrowed_27
    · refine r_lload_n C dX4_narrowed_19 rfl (lv_at hl 1 rfl) ?_
      refine r_l2i C dX4_narrowed_20 ?_
      refine r_i2s C dX4_narrowed_21 ?_
      refine r_i2l C dX4_narrowed_22 (by have := bm16_rg v; exact ⟨by omega, by omega⟩) ?_
      refine r_goto C (tgt := 27) dX4_narrowed_23 (by decide) ?_
      exact r_lretR C (by simp only [nrw, h1, eq_true h2, not_true_eq_false, not_false_eq_true, and_true, true_and, and_false, false_and, or_true, true_or, or_false, false_or, if_true, if_false, ne_eq, reduceIte]) dX4_narrowed_27
  · refine r_lload_n C dX4_narrowed_6 rfl (lv_at hl 1 rfl) ?_
    refine r_l2i C dX4_narrowed_7 ?_
    refine r_i2b C dX4_narrowed_8 ?_
    refine r_i2l C dX4_narrowed_9 (by have := bm8_rg v; exact ⟨by omega, by omega⟩) ?_
    refine r_goto C (tgt := 27) dX4_narrowed_10 (by decide) ?_
    exact r_lretR C (by simp only [nrw, eq_true h1, not_true_eq_false, not_false_eq_true, and_true, true_and, and_false, false_and, or_true, true_or, or_false, false_or, if_true, if_false, ne_eq, reduceIte]) dX4_narrowed_27
set_option maxHeartbeats 4000000 in
set_option maxRecDepth 100000 in
theorem cM_wrongSheet {sh : Int} (zsh : In32 sh) (hbi : ∀ i, 0 ≤ bi i ∧ bi i ≤ 64) : MR l yX4_wrongSheet cX4_wrongSheet 2 (some .int) 2 45 D k [.ref (a 0), .int (iI sh)] (wM a k s kp ot sd st sp tp bi si nu mo ik dl tl ta fr to va iw) (.int (iI (wsh bi sh))) := by
  refine MR.mk RX4 rfl (by decide +kernel) (Nat.le_of_ble_eq_true rfl) (fun p e U m0 below meth cd ls C hP hl => ?_)
  have hl : lv_has ls 2 [(0, .ref (a 0)), (1, .int (iI sh))] := hl
  have zsh1 := zsh.1
  have zsh2 := zsh.2
  refine r_iload_n C dX4_wrongSheet_0 rfl (lv_at hl 1 rfl) ?_
  refine r_cSR1 C m_X4_278 (cM_isOne (by exact ⟨by omega, by omega⟩)) pn0 hl.1 dX4_wrongSheet_1 ?_
  refine r_ifB_ne C (tgt := 12) dX4_wrongSheet_4 (by decide) (fun h1 => ?_) (fun h1 => ?_)
  · refine r_aload_n C dX4_wrongSheet_12 rfl (lv_at hl 0 rfl) ?_
    refine g_X4_35 C hP 0 rfl rfl dX4_wrongSheet_13 ?_
    refine r_iload_n C dX4_wrongSheet_16 rfl (lv_at hl 1 rfl) ?_
    refine r_iald C hP 8 rfl dX4_wrongSheet_17 (by omega) (by omega) (by decide) ?_
    refine r_if_ne C (tgt := 27) dX4_wrongSheet_18 (by decide) (by have := hbi (sh); exact ⟨by omega, by omega⟩) (fun h2 => ?_) (fun h2 => ?_)
    · refine r_iconst C dX4_wrongSheet_27 ?_
      exact r_iretR C (congrArg iI (by simp only [wsh, h1, h2, not_true_eq_false, not_false_eq_true, and_true, true_and, and_false, false_and, or_true, true_or, or_false, false_or, if_true, if_false, ne_eq, reduceIte])) dX4_wrongSheet_28
    · refine r_ldcw C (-1000000006) ki_X4_282 (by decide) dX4_wrongSheet_21 ?_
      refine r_goto C (tgt := 28) dX4_wrongSheet_24 (by decide) ?_
      exact r_iretR C (congrArg iI (by simp only [wsh, h1, eq_true h2, not_true_eq_false, not_false_eq_true, and_true, true_and, and_false, false_and, or_true, true_or, or_false, false_or, if_true, if_false, ne_eq, reduceIte])) dX4_wrongSheet_28
  · refine r_ldc C (-1000000001) ki_X4_48 (by decide) dX4_wrongSheet_7 ?_
    refine r_goto C (tgt := 28) dX4_wrongSheet_9 (by decide) ?_
    exact r_iretR C (congrArg iI (by simp only [wsh, h1, not_true_eq_false, not_false_eq_true, and_true, true_and, and_false, false_and, or_true, true_or, or_false, false_or, if_true, if_false, ne_eq, reduceIte])) dX4_wrongSheet_28
set_option maxHeartbeats 4000000 in
set_option maxRecDepth 100000 in
theorem cM_sheet {sh : Int} {b : Int} {n0 : Int} (zsh : In32 sh) (zb : In32 b) (zn0 : In32 n0) (hbi : ∀ i, 0 ≤ bi i ∧ bi i ≤ 64) (hsi : ∀ i, 0 ≤ si i ∧ si i ≤ 40) : ME l yX4_sheet cX4_sheet 5 (some .int) 2 45 D k [.ref (a 0), .int (iI sh), .int (iI b), .int (iI n0)] (wM a k s kp ot sd st sp tp bi si nu mo ik (-1) tl ta fr to va iw) (fun x : (Int → Int) × (Int → Int) × (Int → Int) × (Int → Int64) × Int => wM a k s kp x.1 x.2.1 ((fSheet st bi si nu sh b n0).2.1) x.2.2.1 tp ((fSheet st bi si nu sh b n0).2.2.1) ((fSheet st bi si nu sh b n0).2.2.2.1) ((fSheet st bi si nu sh b n0).2.2.2.2) x.2.2.2.1 ik (-1) x.2.2.2.2 ta fr to va iw) (some (.int (iI ((fSheet st bi si nu sh b n0).1)))) := by
  refine ME.mk RX4 rfl (by decide +kernel) (Nat.le_of_ble_eq_true rfl) (fun p e U m0 below meth cd ls C hP hD hS hl => ?_)
  have hl : lv_has ls 5 [(0, .ref (a 0)), (1, .int (iI sh)), (2, .int (iI b)), (3, .int (iI n0))] := hl
  have zsh1 := zsh.1
  have zsh2 := zsh.2
  have zb1 := zb.1
  have zb2 := zb.2
  have zn01 := zn0.1
  have zn02 := zn0.2
  refine r_iload_n C dX4_sheet_0 rfl (lv_at hl 1 rfl) ?_
  refine r_cSR1 C m_X4_278 (cM_isOne (by exact ⟨by omega, by omega⟩)) pn0 hl.1 dX4_sheet_1 ?_
  refine r_ifB_eq C (tgt := 29) dX4_sheet_4 (by decide) (fun h1 => ?_) (fun h1 => ?_)
  · refine r_aload_n C dX4_sheet_29 rfl (lv_at hl 0 rfl) ?_
    refine r_ldc C (-1000000001) ki_X4_48 (by decide) dX4_sheet_30 ?_
    refine r_cVW1 C m_X4_74 (cM_finds (by omega) (by omega)) hP hD hS [0, 1, 2, 3, 4, 5, 6, 7, 8, 9, 10, 11] (wM a k s kp ot sd (fnd st (-1000000001)) sp tp bi si nu mo ik (-1) tl ta fr to va iw) rfl rfl rfl rfl rfl rfl rfl hl.1 dX4_sheet_32 (fun H locs hP hD hS => ?_)
    exact r_iretE C hP hS (ot, sd, sp, mo, tl) (by first | (simp only [fSheet, fD, fV, h1, not_true_eq_false, not_false_eq_true, and_true, true_and, and_false, false_and, or_true, true_or, or_false, false_or, if_true, if_false, ne_eq, reduceIte]; done) | (exfalso; omega)) (by first | (simp only [fSheet, fD, fV, h1, not_true_eq_false, not_false_eq_true, and_true, true_and, and_false, false_and, or_true, true_or, or_false, false_or, if_true, if_false, ne_eq, reduceIte]; done) | (exfalso; omega)) dX4_sheet_35
  · refine r_iload_n C dX4_sheet_7 rfl (lv_at hl 2 rfl) ?_
    refine r_if_eq C (tgt := 36) dX4_sheet_8 (by decide) (by exact ⟨by omega, by omega⟩) (fun h2 => ?_) (fun h2 => ?_)
    · refine r_iload_n C dX4_sheet_36 rfl (lv_at hl 3 rfl) ?_
      refine r_if_ge C (tgt := 48) dX4_sheet_37 (by decide) (by exact ⟨by omega, by omega⟩) (fun h3 => ?_) (fun h3 => ?_)
      · refine r_iload_n C dX4_sheet_48 rfl (lv_at hl 3 rfl) ?_
        refine r_bipush C dX4_sheet_49 (by decide) ?_
        refine r_icmp_le C (tgt := 61) dX4_sheet_51 (by decide) (by exact ⟨by omega, by omega⟩) ⟨by decide, by decide⟩ (fun h4 => ?_) (fun h4 => ?_)
        · refine r_aload_n C dX4_sheet_61 rfl (lv_at hl 0 rfl) ?_
          refine g_X4_35 C hP 0 rfl rfl dX4_sheet_62 ?_
          refine r_iload_n C dX4_sheet_65 rfl (lv_at hl 1 rfl) ?_
          refine r_iload_n C dX4_sheet_66 rfl (lv_at hl 2 rfl) ?_
          refine r_iast C hP hD hS 8 (wM a k s kp ot sd st sp tp (up bi sh b) si nu mo ik (-1) tl ta fr to va iw) rfl dX4_sheet_67 (by omega) (by omega) (by decide) rfl (fun H locs hP hD hS => ?_)
          refine r_aload_n C dX4_sheet_68 rfl (lv_at hl 0 rfl) ?_
          refine g_X4_38 C hP 0 rfl rfl dX4_sheet_69 ?_
          refine r_iload_n C dX4_sheet_72 rfl (lv_at hl 1 rfl) ?_
          refine r_iload_n C dX4_sheet_73 rfl (lv_at hl 2 rfl) ?_
          refine r_if_ne C (tgt := 81) dX4_sheet_74 (by decide) (by exact ⟨by omega, by omega⟩) (fun h5 => ?_) (fun h5 => ?_)
          · refine r_iload_n C dX4_sheet_81 rfl (lv_at hl 3 rfl) ?_
            refine r_iast C hP hD hS 9 (wM a k s kp ot sd st sp tp (up bi sh b) (up si sh n0) nu mo ik (-1) tl ta fr to va iw) rfl dX4_sheet_82 (by omega) (by omega) (by decide) rfl (fun H locs hP hD hS => ?_)
            refine r_iconst C dX4_sheet_83 ?_
            refine r_istore C [(4, .int (iI 0)), (0, .ref (a 0)), (1, .int (iI sh)), (2, .int (iI b)), (3, .int (iI n0))] dX4_sheet_84 hl (by decide) rfl (fun ls hl => ?_)
            refine r_loopW (fun n : Nat => [(0, .ref (a 0)), (1, .int (iI sh)), (4, .int (iI n))]) (fun n : Nat => wM a k s kp ot sd st sp tp (up bi sh b) (up si sh n0) (zr40 nu sh n) mo ik (-1) tl ta fr to va iw) (40) (lv_eq (lv_sub hl [1, 2, 0] rfl) rfl) (va_eq hP rfl) (va_eqD hD rfl) hS (fun n hn ihn ls H locs hl hP hD hS => ?_) (fun ls H locs hl hP hD hS => ?_)
            · have hl : lv_has ls 5 [(0, .ref (a 0)), (1, .int (iI sh)), (4, .int (iI n))] := hl
              have hP : va_P D vwCl (wM a k s kp ot sd st sp tp (up bi sh b) (up si sh n0) (zr40 nu sh n) mo ik (-1) tl ta fr to va iw) H := hP
              have hD : va_D _ (wM a k s kp ot sd st sp tp (up bi sh b) (up si sh n0) (zr40 nu sh n) mo ik (-1) tl ta fr to va iw) := hD
              refine r_iload C dX4_sheet_86 (lv_at hl 2 rfl) ?_
              refine r_bipush C dX4_sheet_88 (by decide) ?_
              refine r_icmp_ge C (tgt := 112) dX4_sheet_90 (by decide) (by exact ⟨by omega, by omega⟩) ⟨by decide, by decide⟩ (fun h6 => ?_) (fun h6 => ?_)
              · exfalso; omega
              · refine r_aload_n C dX4_sheet_93 rfl (lv_at hl 0 rfl) ?_
                refine g_X4_41 C hP 0 rfl rfl dX4_sheet_94 ?_
                refine r_bipush C dX4_sheet_97 (by decide) ?_
                refine r_iload_n C dX4_sheet_99 rfl (lv_at hl 1 rfl) ?_
                refine r_imul C dX4_sheet_100 ?_
                refine r_iload C dX4_sheet_101 (lv_at hl 2 rfl) ?_
                refine r_iadd C dX4_sheet_103 ?_
                refine r_lconst C (z := 0) dX4_sheet_104 (by decide) ?_
                refine r_last C hP hD hS 10 (wM a k s kp ot sd st sp tp (up bi sh b) (up si sh n0) (up (zr40 nu sh n) ((40 * sh) + n) (lI 0)) mo ik (-1) tl ta fr to va iw) rfl dX4_sheet_105 (by omega) (by omega) (by decide) rfl (fun H locs hP hD hS => ?_)
                refine r_iinc C 2 [(4, .int (iI (n + 1))), (0, .ref (a 0)), (1, .int (iI sh))] dX4_sheet_106 hl rfl (by decide) rfl (fun ls hl => ?_)
                refine r_goto C (tgt := 86) dX4_sheet_109 (by decide) ?_
                exact ihn ls H locs (lv_eq (lv_sub hl [1, 2, 0] rfl) rfl) (va_eq hP rfl) (va_eqD hD rfl) hS
            · have hl : lv_has ls 5 [(0, .ref (a 0)), (1, .int (iI sh)), (4, .int (iI 40))] := hl
              have hP : va_P D vwCl (wM a k s kp ot sd st sp tp (up bi sh b) (up si sh n0) (zr40 nu sh 40) mo ik (-1) tl ta fr to va iw) H := hP
              have hD : va_D _ (wM a k s kp ot sd st sp tp (up bi sh b) (up si sh n0) (zr40 nu sh 40) mo ik (-1) tl ta fr to va iw) := hD
              refine r_iload C dX4_sheet_86 (lv_at hl 2 rfl) ?_
              refine r_bipush C dX4_sheet_88 (by decide) ?_
              refine r_icmp_ge C (tgt := 112) dX4_sheet_90 (by decide) ⟨by decide, by decide⟩ ⟨by decide, by decide⟩ (fun h7 => ?_) (fun h7 => ?_)
              · refine r_aload_n C dX4_sheet_112 rfl (lv_at hl 0 rfl) ?_
                refine g_X4_38 C hP 0 rfl rfl dX4_sheet_113 ?_
                refine r_iload_n C dX4_sheet_116 rfl (lv_at hl 1 rfl) ?_
                refine r_iald C hP 9 rfl dX4_sheet_117 (by omega) (by omega) (by decide) ?_
                exact r_iretE C hP hS (ot, sd, sp, mo, tl) (by first | (simp only [fSheet, fD, fV, h1, eq_true h2, h3, h4, h5, h7, not_true_eq_false, not_false_eq_true, and_true, true_and, and_false, false_and, or_true, true_or, or_false, false_or, if_true, if_false, ne_eq, reduceIte]; done) | (exfalso; omega)) (by first | (simp only [fSheet, fD, fV, h1, eq_true h2, h3, h4, h5, h7, not_true_eq_false, not_false_eq_true, and_true, true_and, and_false, false_and, or_true, true_or, or_false, false_or, if_true, if_false, ne_eq, reduceIte]; done) | (exfalso; omega)) dX4_sheet_118
              · exfalso; omega
          · refine r_iconst C dX4_sheet_77 ?_
            refine r_goto C (tgt := 82) dX4_sheet_78 (by decide) ?_
            refine r_iast C hP hD hS 9 (wM a k s kp ot sd st sp tp (up bi sh b) (up si sh 0) nu mo ik (-1) tl ta fr to va iw) rfl dX4_sheet_82 (by omega) (by omega) (by decide) rfl (fun H locs hP hD hS => ?_)
            refine r_iconst C dX4_sheet_83 ?_
            refine r_istore C [(4, .int (iI 0)), (0, .ref (a 0)), (1, .int (iI sh)), (2, .int (iI b)), (3, .int (iI n0))] dX4_sheet_84 hl (by decide) rfl (fun ls hl => ?_)
            refine r_loopW (fun n : Nat => [(0, .ref (a 0)), (1, .int (iI sh)), (4, .int (iI n))]) (fun n : Nat => wM a k s kp ot sd st sp tp (up bi sh b) (up si sh 0) (zr40 nu sh n) mo ik (-1) tl ta fr to va iw) (40) (lv_eq (lv_sub hl [1, 2, 0] rfl) rfl) (va_eq hP rfl) (va_eqD hD rfl) hS (fun n hn ihn ls H locs hl hP hD hS => ?_) (fun ls H locs hl hP hD hS => ?_)
            · have hl : lv_has ls 5 [(0, .ref (a 0)), (1, .int (iI sh)), (4, .int (iI n))] := hl
              have hP : va_P D vwCl (wM a k s kp ot sd st sp tp (up bi sh b) (up si sh 0) (zr40 nu sh n) mo ik (-1) tl ta fr to va iw) H := hP
              have hD : va_D _ (wM a k s kp ot sd st sp tp (up bi sh b) (up si sh 0) (zr40 nu sh n) mo ik (-1) tl ta fr to va iw) := hD
              refine r_iload C dX4_sheet_86 (lv_at hl 2 rfl) ?_
              refine r_bipush C dX4_sheet_88 (by decide) ?_
              refine r_icmp_ge C (tgt := 112) dX4_sheet_90 (by decide) (by exact ⟨by omega, by omega⟩) ⟨by decide, by decide⟩ (fun h8 => ?_) (fun h8 => ?_)
              · exfalso; omega
              · refine r_aload_n C dX4_sheet_93 rfl (lv_at hl 0 rfl) ?_
                refine g_X4_41 C hP 0 rfl rfl dX4_sheet_94 ?_
                refine r_bipush C dX4_sheet_97 (by decide) ?_
                refine r_iload_n C dX4_sheet_99 rfl (lv_at hl 1 rfl) ?_
                refine r_imul C dX4_sheet_100 ?_
                refine r_iload C dX4_sheet_101 (lv_at hl 2 rfl) ?_
                refine r_iadd C dX4_sheet_103 ?_
                refine r_lconst C (z := 0) dX4_sheet_104 (by decide) ?_
                refine r_last C hP hD hS 10 (wM a k s kp ot sd st sp tp (up bi sh b) (up si sh 0) (up (zr40 nu sh n) ((40 * sh) + n) (lI 0)) mo ik (-1) tl ta fr to va iw) rfl dX4_sheet_105 (by omega) (by omega) (by decide) rfl (fun H locs hP hD hS => ?_)
                refine r_iinc C 2 [(4, .int (iI (n + 1))), (0, .ref (a 0)), (1, .int (iI sh))] dX4_sheet_106 hl rfl (by decide) rfl (fun ls hl => ?_)
                refine r_goto C (tgt := 86) dX4_sheet_109 (by decide) ?_
                exact ihn ls H locs (lv_eq (lv_sub hl [1, 2, 0] rfl) rfl) (va_eq hP rfl) (va_eqD hD rfl) hS
            · have hl : lv_has ls 5 [(0, .ref (a 0)), (1, .int (iI sh)), (4, .int (iI 40))] := hl
              have hP : va_P D vwCl (wM a k s kp ot sd st sp tp (up bi sh b) (up si sh 0) (zr40 nu sh 40) mo ik (-1) tl ta fr to va iw) H := hP
              have hD : va_D _ (wM a k s kp ot sd st sp tp (up bi sh b) (up si sh 0) (zr40 nu sh 40) mo ik (-1) tl ta fr to va iw) := hD
              refine r_iload C dX4_sheet_86 (lv_at hl 2 rfl) ?_
              refine r_bipush C dX4_sheet_88 (by decide) ?_
              refine r_icmp_ge C (tgt := 112) dX4_sheet_90 (by decide) ⟨by decide, by decide⟩ ⟨by decide, by decide⟩ (fun h9 => ?_) (fun h9 => ?_)
              · refine r_aload_n C dX4_sheet_112 rfl (lv_at hl 0 rfl) ?_
                refine g_X4_38 C hP 0 rfl rfl dX4_sheet_113 ?_
                refine r_iload_n C dX4_sheet_116 rfl (lv_at hl 1 rfl) ?_
                refine r_iald C hP 9 rfl dX4_sheet_117 (by omega) (by omega) (by decide) ?_
                exact r_iretE C hP hS (ot, sd, sp, mo, tl) (by first | (simp only [fSheet, fD, fV, h1, eq_true h2, h3, h4, eq_true h5, h9, not_true_eq_false, not_false_eq_true, and_true, true_and, and_false, false_and, or_true, true_or, or_false, false_or, if_true, if_false, ne_eq, reduceIte]; done) | (exfalso; omega)) (by first | (simp only [fSheet, fD, fV, h1, eq_true h2, h3, h4, eq_true h5, h9, not_true_eq_false, not_false_eq_true, and_true, true_and, and_false, false_and, or_true, true_or, or_false, false_or, if_true, if_false, ne_eq, reduceIte]; done) | (exfalso; omega)) dX4_sheet_118
              · exfalso; omega
        · refine r_aload_n C dX4_sheet_54 rfl (lv_at hl 0 rfl) ?_
          refine r_ldc C (-1000000001) ki_X4_48 (by decide) dX4_sheet_55 ?_
          refine r_cVW1 C m_X4_74 (cM_finds (by omega) (by omega)) hP hD hS [0, 1, 2, 3, 4, 5, 6, 7, 8, 9, 10, 11] (wM a k s kp ot sd (fnd st (-1000000001)) sp tp bi si nu mo ik (-1) tl ta fr to va iw) rfl rfl rfl rfl rfl rfl rfl hl.1 dX4_sheet_57 (fun H locs hP hD hS => ?_)
          exact r_iretE C hP hS (ot, sd, sp, mo, tl) (by first | (simp only [fSheet, fD, fV, h1, eq_true h2, h3, h4, not_true_eq_false, not_false_eq_true, and_true, true_and, and_false, false_and, or_true, true_or, or_false, false_or, if_true, if_false, ne_eq, reduceIte]; done) | (exfalso; omega)) (by first | (simp only [fSheet, fD, fV, h1, eq_true h2, h3, h4, not_true_eq_false, not_false_eq_true, and_true, true_and, and_false, false_and, or_true, true_or, or_false, false_or, if_true, if_false, ne_eq, reduceIte]; done) | (exfalso; omega)) dX4_sheet_60
      · refine r_aload_n C dX4_sheet_40 rfl (lv_at hl 0 rfl) ?_
        refine r_ldcw C (-1000000007) ki_X4_281 (by decide) dX4_sheet_41 ?_
        refine r_cVW1 C m_X4_74 (cM_finds (by omega) (by omega)) hP hD hS [0, 1, 2, 3, 4, 5, 6, 7, 8, 9, 10, 11] (wM a k s kp ot sd (fnd st (-1000000007)) sp tp bi si nu mo ik (-1) tl ta fr to va iw) rfl rfl rfl rfl rfl rfl rfl hl.1 dX4_sheet_44 (fun H locs hP hD hS => ?_)
        exact r_iretE C hP hS (ot, sd, sp, mo, tl) (by first | (simp only [fSheet, fD, fV, h1, eq_true h2, h3, not_true_eq_false, not_false_eq_true, and_true, true_and, and_false, false_and, or_true, true_or, or_false, false_or, if_true, if_false, ne_eq, reduceIte]; done) | (exfalso; omega)) (by first | (simp only [fSheet, fD, fV, h1, eq_true h2, h3, not_true_eq_false, not_false_eq_true, and_true, true_and, and_false, false_and, or_true, true_or, or_false, false_or, if_true, if_false, ne_eq, reduceIte]; done) | (exfalso; omega)) dX4_sheet_47
    · refine r_iload_n C dX4_sheet_11 rfl (lv_at hl 2 rfl) ?_
      refine r_bipush C dX4_sheet_12 (by decide) ?_
      refine r_icmp_eq C (tgt := 36) dX4_sheet_14 (by decide) (by exact ⟨by omega, by omega⟩) ⟨by decide, by decide⟩ (fun h10 => ?_) (fun h10 => ?_)
      · refine r_iload_n C dX4_sheet_36 rfl (lv_at hl 3 rfl) ?_
        refine r_if_ge C (tgt := 48) dX4_sheet_37 (by decide) (by exact ⟨by omega, by omega⟩) (fun h11 => ?_) (fun h11 => ?_)
        · refine r_iload_n C dX4_sheet_48 rfl (lv_at hl 3 rfl) ?_
          refine r_bipush C dX4_sheet_49 (by decide) ?_
          refine r_icmp_le C (tgt := 61) dX4_sheet_51 (by decide) (by exact ⟨by omega, by omega⟩) ⟨by decide, by decide⟩ (fun h12 => ?_) (fun h12 => ?_)
          · refine r_aload_n C dX4_sheet_61 rfl (lv_at hl 0 rfl) ?_
            refine g_X4_35 C hP 0 rfl rfl dX4_sheet_62 ?_
            refine r_iload_n C dX4_sheet_65 rfl (lv_at hl 1 rfl) ?_
            refine r_iload_n C dX4_sheet_66 rfl (lv_at hl 2 rfl) ?_
            refine r_iast C hP hD hS 8 (wM a k s kp ot sd st sp tp (up bi sh b) si nu mo ik (-1) tl ta fr to va iw) rfl dX4_sheet_67 (by omega) (by omega) (by decide) rfl (fun H locs hP hD hS => ?_)
            refine r_aload_n C dX4_sheet_68 rfl (lv_at hl 0 rfl) ?_
            refine g_X4_38 C hP 0 rfl rfl dX4_sheet_69 ?_
            refine r_iload_n C dX4_sheet_72 rfl (lv_at hl 1 rfl) ?_
            refine r_iload_n C dX4_sheet_73 rfl (lv_at hl 2 rfl) ?_
            refine r_if_ne C (tgt := 81) dX4_sheet_74 (by decide) (by exact ⟨by omega, by omega⟩) (fun h13 => ?_) (fun h13 => ?_)
            · refine r_iload_n C dX4_sheet_81 rfl (lv_at hl 3 rfl) ?_
              refine r_iast C hP hD hS 9 (wM a k s kp ot sd st sp tp (up bi sh b) (up si sh n0) nu mo ik (-1) tl ta fr to va iw) rfl dX4_sheet_82 (by omega) (by omega) (by decide) rfl (fun H locs hP hD hS => ?_)
              refine r_iconst C dX4_sheet_83 ?_
              refine r_istore C [(4, .int (iI 0)), (0, .ref (a 0)), (1, .int (iI sh)), (2, .int (iI b)), (3, .int (iI n0))] dX4_sheet_84 hl (by decide) rfl (fun ls hl => ?_)
              refine r_loopW (fun n : Nat => [(0, .ref (a 0)), (1, .int (iI sh)), (4, .int (iI n))]) (fun n : Nat => wM a k s kp ot sd st sp tp (up bi sh b) (up si sh n0) (zr40 nu sh n) mo ik (-1) tl ta fr to va iw) (40) (lv_eq (lv_sub hl [1, 2, 0] rfl) rfl) (va_eq hP rfl) (va_eqD hD rfl) hS (fun n hn ihn ls H locs hl hP hD hS => ?_) (fun ls H locs hl hP hD hS => ?_)
              · have hl : lv_has ls 5 [(0, .ref (a 0)), (1, .int (iI sh)), (4, .int (iI n))] := hl
                have hP : va_P D vwCl (wM a k s kp ot sd st sp tp (up bi sh b) (up si sh n0) (zr40 nu sh n) mo ik (-1) tl ta fr to va iw) H := hP
                have hD : va_D _ (wM a k s kp ot sd st sp tp (up bi sh b) (up si sh n0) (zr40 nu sh n) mo ik (-1) tl ta fr to va iw) := hD
                refine r_iload C dX4_sheet_86 (lv_at hl 2 rfl) ?_
                refine r_bipush C dX4_sheet_88 (by decide) ?_
                refine r_icmp_ge C (tgt := 112) dX4_sheet_90 (by decide) (by exact ⟨by omega, by omega⟩) ⟨by decide, by decide⟩ (fun h14 => ?_) (fun h14 => ?_)
                · exfalso; omega
                · refine r_aload_n C dX4_sheet_93 rfl (lv_at hl 0 rfl) ?_
                  refine g_X4_41 C hP 0 rfl rfl dX4_sheet_94 ?_
                  refine r_bipush C dX4_sheet_97 (by decide) ?_
                  refine r_iload_n C dX4_sheet_99 rfl (lv_at hl 1 rfl) ?_
                  refine r_imul C dX4_sheet_100 ?_
                  refine r_iload C dX4_sheet_101 (lv_at hl 2 rfl) ?_
                  refine r_iadd C dX4_sheet_103 ?_
                  refine r_lconst C (z := 0) dX4_sheet_104 (by decide) ?_
                  refine r_last C hP hD hS 10 (wM a k s kp ot sd st sp tp (up bi sh b) (up si sh n0) (up (zr40 nu sh n) ((40 * sh) + n) (lI 0)) mo ik (-1) tl ta fr to va iw) rfl dX4_sheet_105 (by omega) (by omega) (by decide) rfl (fun H locs hP hD hS => ?_)
                  refine r_iinc C 2 [(4, .int (iI (n + 1))), (0, .ref (a 0)), (1, .int (iI sh))] dX4_sheet_106 hl rfl (by decide) rfl (fun ls hl => ?_)
                  refine r_goto C (tgt := 86) dX4_sheet_109 (by decide) ?_
                  exact ihn ls H locs (lv_eq (lv_sub hl [1, 2, 0] rfl) rfl) (va_eq hP rfl) (va_eqD hD rfl) hS
              · have hl : lv_has ls 5 [(0, .ref (a 0)), (1, .int (iI sh)), (4, .int (iI 40))] := hl
                have hP : va_P D vwCl (wM a k s kp ot sd st sp tp (up bi sh b) (up si sh n0) (zr40 nu sh 40) mo ik (-1) tl ta fr to va iw) H := hP
                have hD : va_D _ (wM a k s kp ot sd st sp tp (up bi sh b) (up si sh n0) (zr40 nu sh 40) mo ik (-1) tl ta fr to va iw) := hD
                refine r_iload C dX4_sheet_86 (lv_at hl 2 rfl) ?_
                refine r_bipush C dX4_sheet_88 (by decide) ?_
                refine r_icmp_ge C (tgt := 112) dX4_sheet_90 (by decide) ⟨by decide, by decide⟩ ⟨by decide, by decide⟩ (fun h15 => ?_) (fun h15 => ?_)
                · refine r_aload_n C dX4_sheet_112 rfl (lv_at hl 0 rfl) ?_
                  refine g_X4_38 C hP 0 rfl rfl dX4_sheet_113 ?_
                  refine r_iload_n C dX4_sheet_116 rfl (lv_at hl 1 rfl) ?_
                  refine r_iald C hP 9 rfl dX4_sheet_117 (by omega) (by omega) (by decide) ?_
                  exact r_iretE C hP hS (ot, sd, sp, mo, tl) (by first | (simp only [fSheet, fD, fV, h1, h2, eq_true h10, h11, h12, h13, h15, not_true_eq_false, not_false_eq_true, and_true, true_and, and_false, false_and, or_true, true_or, or_false, false_or, if_true, if_false, ne_eq, reduceIte]; done) | (exfalso; omega)) (by first | (simp only [fSheet, fD, fV, h1, h2, eq_true h10, h11, h12, h13, h15, not_true_eq_false, not_false_eq_true, and_true, true_and, and_false, false_and, or_true, true_or, or_false, false_or, if_true, if_false, ne_eq, reduceIte]; done) | (exfalso; omega)) dX4_sheet_118
                · exfalso; omega
            · refine r_iconst C dX4_sheet_77 ?_
              refine r_goto C (tgt := 82) dX4_sheet_78 (by decide) ?_
              refine r_iast C hP hD hS 9 (wM a k s kp ot sd st sp tp (up bi sh b) (up si sh 0) nu mo ik (-1) tl ta fr to va iw) rfl dX4_sheet_82 (by omega) (by omega) (by decide) rfl (fun H locs hP hD hS => ?_)
              refine r_iconst C dX4_sheet_83 ?_
              refine r_istore C [(4, .int (iI 0)), (0, .ref (a 0)), (1, .int (iI sh)), (2, .int (iI b)), (3, .int (iI n0))] dX4_sheet_84 hl (by decide) rfl (fun ls hl => ?_)
              refine r_loopW (fun n : Nat => [(0, .ref (a 0)), (1, .int (iI sh)), (4, .int (iI n))]) (fun n : Nat => wM a k s kp ot sd st sp tp (up bi sh b) (up si sh 0) (zr40 nu sh n) mo ik (-1) tl ta fr to va iw) (40) (lv_eq (lv_sub hl [1, 2, 0] rfl) rfl) (va_eq hP rfl) (va_eqD hD rfl) hS (fun n hn ihn ls H locs hl hP hD hS => ?_) (fun ls H locs hl hP hD hS => ?_)
              · have hl : lv_has ls 5 [(0, .ref (a 0)), (1, .int (iI sh)), (4, .int (iI n))] := hl
                have hP : va_P D vwCl (wM a k s kp ot sd st sp tp (up bi sh b) (up si sh 0) (zr40 nu sh n) mo ik (-1) tl ta fr to va iw) H := hP
                have hD : va_D _ (wM a k s kp ot sd st sp tp (up bi sh b) (up si sh 0) (zr40 nu sh n) mo ik (-1) tl ta fr to va iw) := hD
                refine r_iload C dX4_sheet_86 (lv_at hl 2 rfl) ?_
                refine r_bipush C dX4_sheet_88 (by decide) ?_
                refine r_icmp_ge C (tgt := 112) dX4_sheet_90 (by decide) (by exact ⟨by omega, by omega⟩) ⟨by decide, by decide⟩ (fun h16 => ?_) (fun h16 => ?_)
                · exfalso; omega
                · refine r_aload_n C dX4_sheet_93 rfl (lv_at hl 0 rfl) ?_
                  refine g_X4_41 C hP 0 rfl rfl dX4_sheet_94 ?_
                  refine r_bipush C dX4_sheet_97 (by decide) ?_
                  refine r_iload_n C dX4_sheet_99 rfl (lv_at hl 1 rfl) ?_
                  refine r_imul C dX4_sheet_100 ?_
                  refine r_iload C dX4_sheet_101 (lv_at hl 2 rfl) ?_
                  refine r_iadd C dX4_sheet_103 ?_
                  refine r_lconst C (z := 0) dX4_sheet_104 (by decide) ?_
                  refine r_last C hP hD hS 10 (wM a k s kp ot sd st sp tp (up bi sh b) (up si sh 0) (up (zr40 nu sh n) ((40 * sh) + n) (lI 0)) mo ik (-1) tl ta fr to va iw) rfl dX4_sheet_105 (by omega) (by omega) (by decide) rfl (fun H locs hP hD hS => ?_)
                  refine r_iinc C 2 [(4, .int (iI (n + 1))), (0, .ref (a 0)), (1, .int (iI sh))] dX4_sheet_106 hl rfl (by decide) rfl (fun ls hl => ?_)
                  refine r_goto C (tgt := 86) dX4_sheet_109 (by decide) ?_
                  exact ihn ls H locs (lv_eq (lv_sub hl [1, 2, 0] rfl) rfl) (va_eq hP rfl) (va_eqD hD rfl) hS
              · have hl : lv_has ls 5 [(0, .ref (a 0)), (1, .int (iI sh)), (4, .int (iI 40))] := hl
                have hP : va_P D vwCl (wM a k s kp ot sd st sp tp (up bi sh b) (up si sh 0) (zr40 nu sh 40) mo ik (-1) tl ta fr to va iw) H := hP
                have hD : va_D _ (wM a k s kp ot sd st sp tp (up bi sh b) (up si sh 0) (zr40 nu sh 40) mo ik (-1) tl ta fr to va iw) := hD
                refine r_iload C dX4_sheet_86 (lv_at hl 2 rfl) ?_
                refine r_bipush C dX4_sheet_88 (by decide) ?_
                refine r_icmp_ge C (tgt := 112) dX4_sheet_90 (by decide) ⟨by decide, by decide⟩ ⟨by decide, by decide⟩ (fun h17 => ?_) (fun h17 => ?_)
                · refine r_aload_n C dX4_sheet_112 rfl (lv_at hl 0 rfl) ?_
                  refine g_X4_38 C hP 0 rfl rfl dX4_sheet_113 ?_
                  refine r_iload_n C dX4_sheet_116 rfl (lv_at hl 1 rfl) ?_
                  refine r_iald C hP 9 rfl dX4_sheet_117 (by omega) (by omega) (by decide) ?_
                  exact r_iretE C hP hS (ot, sd, sp, mo, tl) (by first | (simp only [fSheet, fD, fV, h1, h2, eq_true h10, h11, h12, eq_true h13, h17, not_true_eq_false, not_false_eq_true, and_true, true_and, and_false, false_and, or_true, true_or, or_false, false_or, if_true, if_false, ne_eq, reduceIte]; done) | (exfalso; omega)) (by first | (simp only [fSheet, fD, fV, h1, h2, eq_true h10, h11, h12, eq_true h13, h17, not_true_eq_false, not_false_eq_true, and_true, true_and, and_false, false_and, or_true, true_or, or_false, false_or, if_true, if_false, ne_eq, reduceIte]; done) | (exfalso; omega)) dX4_sheet_118
                · exfalso; omega
          · refine r_aload_n C dX4_sheet_54 rfl (lv_at hl 0 rfl) ?_
            refine r_ldc C (-1000000001) ki_X4_48 (by decide) dX4_sheet_55 ?_
            refine r_cVW1 C m_X4_74 (cM_finds (by omega) (by omega)) hP hD hS [0, 1, 2, 3, 4, 5, 6, 7, 8, 9, 10, 11] (wM a k s kp ot sd (fnd st (-1000000001)) sp tp bi si nu mo ik (-1) tl ta fr to va iw) rfl rfl rfl rfl rfl rfl rfl hl.1 dX4_sheet_57 (fun H locs hP hD hS => ?_)
            exact r_iretE C hP hS (ot, sd, sp, mo, tl) (by first | (simp only [fSheet, fD, fV, h1, h2, eq_true h10, h11, h12, not_true_eq_false, not_false_eq_true, and_true, true_and, and_false, false_and, or_true, true_or, or_false, false_or, if_true, if_false, ne_eq, reduceIte]; done) | (exfalso; omega)) (by first | (simp only [fSheet, fD, fV, h1, h2, eq_true h10, h11, h12, not_true_eq_false, not_false_eq_true, and_true, true_and, and_false, false_and, or_true, true_or, or_false, false_or, if_true, if_false, ne_eq, reduceIte]; done) | (exfalso; omega)) dX4_sheet_60
        · refine r_aload_n C dX4_sheet_40 rfl (lv_at hl 0 rfl) ?_
          refine r_ldcw C (-1000000007) ki_X4_281 (by decide) dX4_sheet_41 ?_
          refine r_cVW1 C m_X4_74 (cM_finds (by omega) (by omega)) hP hD hS [0, 1, 2, 3, 4, 5, 6, 7, 8, 9, 10, 11] (wM a k s kp ot sd (fnd st (-1000000007)) sp tp bi si nu mo ik (-1) tl ta fr to va iw) rfl rfl rfl rfl rfl rfl rfl hl.1 dX4_sheet_44 (fun H locs hP hD hS => ?_)
          exact r_iretE C hP hS (ot, sd, sp, mo, tl) (by first | (simp only [fSheet, fD, fV, h1, h2, eq_true h10, h11, not_true_eq_false, not_false_eq_true, and_true, true_and, and_false, false_and, or_true, true_or, or_false, false_or, if_true, if_false, ne_eq, reduceIte]; done) | (exfalso; omega)) (by first | (simp only [fSheet, fD, fV, h1, h2, eq_true h10, h11, not_true_eq_false, not_false_eq_true, and_true, true_and, and_false, false_and, or_true, true_or, or_false, false_or, if_true, if_false, ne_eq, reduceIte]; done) | (exfalso; omega)) dX4_sheet_47
      · refine r_iload_n C dX4_sheet_17 rfl (lv_at hl 2 rfl) ?_
        refine r_bipush C dX4_sheet_18 (by decide) ?_
        refine r_icmp_eq C (tgt := 36) dX4_sheet_20 (by decide) (by exact ⟨by omega, by omega⟩) ⟨by decide, by decide⟩ (fun h18 => ?_) (fun h18 => ?_)
        · refine r_iload_n C dX4_sheet_36 rfl (lv_at hl 3 rfl) ?_
          refine r_if_ge C (tgt := 48) dX4_sheet_37 (by decide) (by exact ⟨by omega, by omega⟩) (fun h19 => ?_) (fun h19 => ?_)
          · refine r_iload_n C dX4_sheet_48 rfl (lv_at hl 3 rfl) ?_
            refine r_bipush C dX4_sheet_49 (by decide) ?_
            refine r_icmp_le C (tgt := 61) dX4_sheet_51 (by decide) (by exact ⟨by omega, by omega⟩) ⟨by decide, by decide⟩ (fun h20 => ?_) (fun h20 => ?_)
            · refine r_aload_n C dX4_sheet_61 rfl (lv_at hl 0 rfl) ?_
              refine g_X4_35 C hP 0 rfl rfl dX4_sheet_62 ?_
              refine r_iload_n C dX4_sheet_65 rfl (lv_at hl 1 rfl) ?_
              refine r_iload_n C dX4_sheet_66 rfl (lv_at hl 2 rfl) ?_
              refine r_iast C hP hD hS 8 (wM a k s kp ot sd st sp tp (up bi sh b) si nu mo ik (-1) tl ta fr to va iw) rfl dX4_sheet_67 (by omega) (by omega) (by decide) rfl (fun H locs hP hD hS => ?_)
              refine r_aload_n C dX4_sheet_68 rfl (lv_at hl 0 rfl) ?_
              refine g_X4_38 C hP 0 rfl rfl dX4_sheet_69 ?_
              refine r_iload_n C dX4_sheet_72 rfl (lv_at hl 1 rfl) ?_
              refine r_iload_n C dX4_sheet_73 rfl (lv_at hl 2 rfl) ?_
              refine r_if_ne C (tgt := 81) dX4_sheet_74 (by decide) (by exact ⟨by omega, by omega⟩) (fun h21 => ?_) (fun h21 => ?_)
              · refine r_iload_n C dX4_sheet_81 rfl (lv_at hl 3 rfl) ?_
                refine r_iast C hP hD hS 9 (wM a k s kp ot sd st sp tp (up bi sh b) (up si sh n0) nu mo ik (-1) tl ta fr to va iw) rfl dX4_sheet_82 (by omega) (by omega) (by decide) rfl (fun H locs hP hD hS => ?_)
                refine r_iconst C dX4_sheet_83 ?_
                refine r_istore C [(4, .int (iI 0)), (0, .ref (a 0)), (1, .int (iI sh)), (2, .int (iI b)), (3, .int (iI n0))] dX4_sheet_84 hl (by decide) rfl (fun ls hl => ?_)
                refine r_loopW (fun n : Nat => [(0, .ref (a 0)), (1, .int (iI sh)), (4, .int (iI n))]) (fun n : Nat => wM a k s kp ot sd st sp tp (up bi sh b) (up si sh n0) (zr40 nu sh n) mo ik (-1) tl ta fr to va iw) (40) (lv_eq (lv_sub hl [1, 2, 0] rfl) rfl) (va_eq hP rfl) (va_eqD hD rfl) hS (fun n hn ihn ls H locs hl hP hD hS => ?_) (fun ls H locs hl hP hD hS => ?_)
                · have hl : lv_has ls 5 [(0, .ref (a 0)), (1, .int (iI sh)), (4, .int (iI n))] := hl
                  have hP : va_P D vwCl (wM a k s kp ot sd st sp tp (up bi sh b) (up si sh n0) (zr40 nu sh n) mo ik (-1) tl ta fr to va iw) H := hP
                  have hD : va_D _ (wM a k s kp ot sd st sp tp (up bi sh b) (up si sh n0) (zr40 nu sh n) mo ik (-1) tl ta fr to va iw) := hD
                  refine r_iload C dX4_sheet_86 (lv_at hl 2 rfl) ?_
                  refine r_bipush C dX4_sheet_88 (by decide) ?_
                  refine r_icmp_ge C (tgt := 112) dX4_sheet_90 (by decide) (by exact ⟨by omega, by omega⟩) ⟨by decide, by decide⟩ (fun h22 => ?_) (fun h22 => ?_)
                  · exfalso; omega
                  · refine r_aload_n C dX4_sheet_93 rfl (lv_at hl 0 rfl) ?_
                    refine g_X4_41 C hP 0 rfl rfl dX4_sheet_94 ?_
                    refine r_bipush C dX4_sheet_97 (by decide) ?_
                    refine r_iload_n C dX4_sheet_99 rfl (lv_at hl 1 rfl) ?_
                    refine r_imul C dX4_sheet_100 ?_
                    refine r_iload C dX4_sheet_101 (lv_at hl 2 rfl) ?_
                    refine r_iadd C dX4_sheet_103 ?_
                    refine r_lconst C (z := 0) dX4_sheet_104 (by decide) ?_
                    refine r_last C hP hD hS 10 (wM a k s kp ot sd st sp tp (up bi sh b) (up si sh n0) (up (zr40 nu sh n) ((40 * sh) + n) (lI 0)) mo ik (-1) tl ta fr to va iw) rfl dX4_sheet_105 (by omega) (by omega) (by decide) rfl (fun H locs hP hD hS => ?_)
                    refine r_iinc C 2 [(4, .int (iI (n + 1))), (0, .ref (a 0)), (1, .int (iI sh))] dX4_sheet_106 hl rfl (by decide) rfl (fun ls hl => ?_)
                    refine r_goto C (tgt := 86) dX4_sheet_109 (by decide) ?_
                    exact ihn ls H locs (lv_eq (lv_sub hl [1, 2, 0] rfl) rfl) (va_eq hP rfl) (va_eqD hD rfl) hS
                · have hl : lv_has ls 5 [(0, .ref (a 0)), (1, .int (iI sh)), (4, .int (iI 40))] := hl
                  have hP : va_P D vwCl (wM a k s kp ot sd st sp tp (up bi sh b) (up si sh n0) (zr40 nu sh 40) mo ik (-1) tl ta fr to va iw) H := hP
                  have hD : va_D _ (wM a k s kp ot sd st sp tp (up bi sh b) (up si sh n0) (zr40 nu sh 40) mo ik (-1) tl ta fr to va iw) := hD
                  refine r_iload C dX4_sheet_86 (lv_at hl 2 rfl) ?_
                  refine r_bipush C dX4_sheet_88 (by decide) ?_
                  refine r_icmp_ge C (tgt := 112) dX4_sheet_90 (by decide) ⟨by decide, by decide⟩ ⟨by decide, by decide⟩ (fun h23 => ?_) (fun h23 => ?_)
                  · refine r_aload_n C dX4_sheet_112 rfl (lv_at hl 0 rfl) ?_
                    refine g_X4_38 C hP 0 rfl rfl dX4_sheet_113 ?_
                    refine r_iload_n C dX4_sheet_116 rfl (lv_at hl 1 rfl) ?_
                    refine r_iald C hP 9 rfl dX4_sheet_117 (by omega) (by omega) (by decide) ?_
                    exact r_iretE C hP hS (ot, sd, sp, mo, tl) (by first | (simp only [fSheet, fD, fV, h1, h2, h10, eq_true h18, h19, h20, h21, h23, not_true_eq_false, not_false_eq_true, and_true, true_and, and_false, false_and, or_true, true_or, or_false, false_or, if_true, if_false, ne_eq, reduceIte]; done) | (exfalso; omega)) (by first | (simp only [fSheet, fD, fV, h1, h2, h10, eq_true h18, h19, h20, h21, h23, not_true_eq_false, not_false_eq_true, and_true, true_and, and_false, false_and, or_true, true_or, or_false, false_or, if_true, if_false, ne_eq, reduceIte]; done) | (exfalso; omega)) dX4_sheet_118
                  · exfalso; omega
              · refine r_iconst C dX4_sheet_77 ?_
                refine r_goto C (tgt := 82) dX4_sheet_78 (by decide) ?_
                refine r_iast C hP hD hS 9 (wM a k s kp ot sd st sp tp (up bi sh b) (up si sh 0) nu mo ik (-1) tl ta fr to va iw) rfl dX4_sheet_82 (by omega) (by omega) (by decide) rfl (fun H locs hP hD hS => ?_)
                refine r_iconst C dX4_sheet_83 ?_
                refine r_istore C [(4, .int (iI 0)), (0, .ref (a 0)), (1, .int (iI sh)), (2, .int (iI b)), (3, .int (iI n0))] dX4_sheet_84 hl (by decide) rfl (fun ls hl => ?_)
                refine r_loopW (fun n : Nat => [(0, .ref (a 0)), (1, .int (iI sh)), (4, .int (iI n))]) (fun n : Nat => wM a k s kp ot sd st sp tp (up bi sh b) (up si sh 0) (zr40 nu sh n) mo ik (-1) tl ta fr to va iw) (40) (lv_eq (lv_sub hl [1, 2, 0] rfl) rfl) (va_eq hP rfl) (va_eqD hD rfl) hS (fun n hn ihn ls H locs hl hP hD hS => ?_) (fun ls H locs hl hP hD hS => ?_)
                · have hl : lv_has ls 5 [(0, .ref (a 0)), (1, .int (iI sh)), (4, .int (iI n))] := hl
                  have hP : va_P D vwCl (wM a k s kp ot sd st sp tp (up bi sh b) (up si sh 0) (zr40 nu sh n) mo ik (-1) tl ta fr to va iw) H := hP
                  have hD : va_D _ (wM a k s kp ot sd st sp tp (up bi sh b) (up si sh 0) (zr40 nu sh n) mo ik (-1) tl ta fr to va iw) := hD
                  refine r_iload C dX4_sheet_86 (lv_at hl 2 rfl) ?_
                  refine r_bipush C dX4_sheet_88 (by decide) ?_
                  refine r_icmp_ge C (tgt := 112) dX4_sheet_90 (by decide) (by exact ⟨by omega, by omega⟩) ⟨by decide, by decide⟩ (fun h24 => ?_) (fun h24 => ?_)
                  · exfalso; omega
                  · refine r_aload_n C dX4_sheet_93 rfl (lv_at hl 0 rfl) ?_
                    refine g_X4_41 C hP 0 rfl rfl dX4_sheet_94 ?_
                    refine r_bipush C dX4_sheet_97 (by decide) ?_
                    refine r_iload_n C dX4_sheet_99 rfl (lv_at hl 1 rfl) ?_
                    refine r_imul C dX4_sheet_100 ?_
                    refine r_iload C dX4_sheet_101 (lv_at hl 2 rfl) ?_
                    refine r_iadd C dX4_sheet_103 ?_
                    refine r_lconst C (z := 0) dX4_sheet_104 (by decide) ?_
                    refine r_last C hP hD hS 10 (wM a k s kp ot sd st sp tp (up bi sh b) (up si sh 0) (up (zr40 nu sh n) ((40 * sh) + n) (lI 0)) mo ik (-1) tl ta fr to va iw) rfl dX4_sheet_105 (by omega) (by omega) (by decide) rfl (fun H locs hP hD hS => ?_)
                    refine r_iinc C 2 [(4, .int (iI (n + 1))), (0, .ref (a 0)), (1, .int (iI sh))] dX4_sheet_106 hl rfl (by decide) rfl (fun ls hl => ?_)
                    refine r_goto C (tgt := 86) dX4_sheet_109 (by decide) ?_
                    exact ihn ls H locs (lv_eq (lv_sub hl [1, 2, 0] rfl) rfl) (va_eq hP rfl) (va_eqD hD rfl) hS
                · have hl : lv_has ls 5 [(0, .ref (a 0)), (1, .int (iI sh)), (4, .int (iI 40))] := hl
                  have hP : va_P D vwCl (wM a k s kp ot sd st sp tp (up bi sh b) (up si sh 0) (zr40 nu sh 40) mo ik (-1) tl ta fr to va iw) H := hP
                  have hD : va_D _ (wM a k s kp ot sd st sp tp (up bi sh b) (up si sh 0) (zr40 nu sh 40) mo ik (-1) tl ta fr to va iw) := hD
                  refine r_iload C dX4_sheet_86 (lv_at hl 2 rfl) ?_
                  refine r_bipush C dX4_sheet_88 (by decide) ?_
                  refine r_icmp_ge C (tgt := 112) dX4_sheet_90 (by decide) ⟨by decide, by decide⟩ ⟨by decide, by decide⟩ (fun h25 => ?_) (fun h25 => ?_)
                  · refine r_aload_n C dX4_sheet_112 rfl (lv_at hl 0 rfl) ?_
                    refine g_X4_38 C hP 0 rfl rfl dX4_sheet_113 ?_
                    refine r_iload_n C dX4_sheet_116 rfl (lv_at hl 1 rfl) ?_
                    refine r_iald C hP 9 rfl dX4_sheet_117 (by omega) (by omega) (by decide) ?_
                    exact r_iretE C hP hS (ot, sd, sp, mo, tl) (by first | (simp only [fSheet, fD, fV, h1, h2, h10, eq_true h18, h19, h20, eq_true h21, h25, not_true_eq_false, not_false_eq_true, and_true, true_and, and_false, false_and, or_true, true_or, or_false, false_or, if_true, if_false, ne_eq, reduceIte]; done) | (exfalso; omega)) (by first | (simp only [fSheet, fD, fV, h1, h2, h10, eq_true h18, h19, h20, eq_true h21, h25, not_true_eq_false, not_false_eq_true, and_true, true_and, and_false, false_and, or_true, true_or, or_false, false_or, if_true, if_false, ne_eq, reduceIte]; done) | (exfalso; omega)) dX4_sheet_118
                  · exfalso; omega
            · refine r_aload_n C dX4_sheet_54 rfl (lv_at hl 0 rfl) ?_
              refine r_ldc C (-1000000001) ki_X4_48 (by decide) dX4_sheet_55 ?_
              refine r_cVW1 C m_X4_74 (cM_finds (by omega) (by omega)) hP hD hS [0, 1, 2, 3, 4, 5, 6, 7, 8, 9, 10, 11] (wM a k s kp ot sd (fnd st (-1000000001)) sp tp bi si nu mo ik (-1) tl ta fr to va iw) rfl rfl rfl rfl rfl rfl rfl hl.1 dX4_sheet_57 (fun H locs hP hD hS => ?_)
              exact r_iretE C hP hS (ot, sd, sp, mo, tl) (by first | (simp only [fSheet, fD, fV, h1, h2, h10, eq_true h18, h19, h20, not_true_eq_false, not_false_eq_true, and_true, true_and, and_false, false_and, or_true, true_or, or_false, false_or, if_true, if_false, ne_eq, reduceIte]; done) | (exfalso; omega)) (by first | (simp only [fSheet, fD, fV, h1, h2, h10, eq_true h18, h19, h20, not_true_eq_false, not_false_eq_true, and_true, true_and, and_false, false_and, or_true, true_or, or_false, false_or, if_true, if_false, ne_eq, reduceIte]; done) | (exfalso; omega)) dX4_sheet_60
          · refine r_aload_n C dX4_sheet_40 rfl (lv_at hl 0 rfl) ?_
            refine r_ldcw C (-1000000007) ki_X4_281 (by decide) dX4_sheet_41 ?_
            refine r_cVW1 C m_X4_74 (cM_finds (by omega) (by omega)) hP hD hS [0, 1, 2, 3, 4, 5, 6, 7, 8, 9, 10, 11] (wM a k s kp ot sd (fnd st (-1000000007)) sp tp bi si nu mo ik (-1) tl ta fr to va iw) rfl rfl rfl rfl rfl rfl rfl hl.1 dX4_sheet_44 (fun H locs hP hD hS => ?_)
            exact r_iretE C hP hS (ot, sd, sp, mo, tl) (by first | (simp only [fSheet, fD, fV, h1, h2, h10, eq_true h18, h19, not_true_eq_false, not_false_eq_true, and_true, true_and, and_false, false_and, or_true, true_or, or_false, false_or, if_true, if_false, ne_eq, reduceIte]; done) | (exfalso; omega)) (by first | (simp only [fSheet, fD, fV, h1, h2, h10, eq_true h18, h19, not_true_eq_false, not_false_eq_true, and_true, true_and, and_false, false_and, or_true, true_or, or_false, false_or, if_true, if_false, ne_eq, reduceIte]; done) | (exfalso; omega)) dX4_sheet_47
        · refine r_iload_n C dX4_sheet_23 rfl (lv_at hl 2 rfl) ?_
          refine r_bipush C dX4_sheet_24 (by decide) ?_
          refine r_icmp_eq C (tgt := 36) dX4_sheet_26 (by decide) (by exact ⟨by omega, by omega⟩) ⟨by decide, by decide⟩ (fun h26 => ?_) (fun h26 => ?_)
          · refine r_iload_n C dX4_sheet_36 rfl (lv_at hl 3 rfl) ?_
            refine r_if_ge C (tgt := 48) dX4_sheet_37 (by decide) (by exact ⟨by omega, by omega⟩) (fun h27 => ?_) (fun h27 => ?_)
            · refine r_iload_n C dX4_sheet_48 rfl (lv_at hl 3 rfl) ?_
              refine r_bipush C dX4_sheet_49 (by decide) ?_
              refine r_icmp_le C (tgt := 61) dX4_sheet_51 (by decide) (by exact ⟨by omega, by omega⟩) ⟨by decide, by decide⟩ (fun h28 => ?_) (fun h28 => ?_)
              · refine r_aload_n C dX4_sheet_61 rfl (lv_at hl 0 rfl) ?_
                refine g_X4_35 C hP 0 rfl rfl dX4_sheet_62 ?_
                refine r_iload_n C dX4_sheet_65 rfl (lv_at hl 1 rfl) ?_
                refine r_iload_n C dX4_sheet_66 rfl (lv_at hl 2 rfl) ?_
                refine r_iast C hP hD hS 8 (wM a k s kp ot sd st sp tp (up bi sh b) si nu mo ik (-1) tl ta fr to va iw) rfl dX4_sheet_67 (by omega) (by omega) (by decide) rfl (fun H locs hP hD hS => ?_)
                refine r_aload_n C dX4_sheet_68 rfl (lv_at hl 0 rfl) ?_
                refine g_X4_38 C hP 0 rfl rfl dX4_sheet_69 ?_
                refine r_iload_n C dX4_sheet_72 rfl (lv_at hl 1 rfl) ?_
                refine r_iload_n C dX4_sheet_73 rfl (lv_at hl 2 rfl) ?_
                refine r_if_ne C (tgt := 81) dX4_sheet_74 (by decide) (by exact ⟨by omega, by omega⟩) (fun h29 => ?_) (fun h29 => ?_)
                · refine r_iload_n C dX4_sheet_81 rfl (lv_at hl 3 rfl) ?_
                  refine r_iast C hP hD hS 9 (wM a k s kp ot sd st sp tp (up bi sh b) (up si sh n0) nu mo ik (-1) tl ta fr to va iw) rfl dX4_sheet_82 (by omega) (by omega) (by decide) rfl (fun H locs hP hD hS => ?_)
                  refine r_iconst C dX4_sheet_83 ?_
                  refine r_istore C [(4, .int (iI 0)), (0, .ref (a 0)), (1, .int (iI sh)), (2, .int (iI b)), (3, .int (iI n0))] dX4_sheet_84 hl (by decide) rfl (fun ls hl => ?_)
                  refine r_loopW (fun n : Nat => [(0, .ref (a 0)), (1, .int (iI sh)), (4, .int (iI n))]) (fun n : Nat => wM a k s kp ot sd st sp tp (up bi sh b) (up si sh n0) (zr40 nu sh n) mo ik (-1) tl ta fr to va iw) (40) (lv_eq (lv_sub hl [1, 2, 0] rfl) rfl) (va_eq hP rfl) (va_eqD hD rfl) hS (fun n hn ihn ls H locs hl hP hD hS => ?_) (fun ls H locs hl hP hD hS => ?_)
                  · have hl : lv_has ls 5 [(0, .ref (a 0)), (1, .int (iI sh)), (4, .int (iI n))] := hl
                    have hP : va_P D vwCl (wM a k s kp ot sd st sp tp (up bi sh b) (up si sh n0) (zr40 nu sh n) mo ik (-1) tl ta fr to va iw) H := hP
                    have hD : va_D _ (wM a k s kp ot sd st sp tp (up bi sh b) (up si sh n0) (zr40 nu sh n) mo ik (-1) tl ta fr to va iw) := hD
                    refine r_iload C dX4_sheet_86 (lv_at hl 2 rfl) ?_
                    refine r_bipush C dX4_sheet_88 (by decide) ?_
                    refine r_icmp_ge C (tgt := 112) dX4_sheet_90 (by decide) (by exact ⟨by omega, by omega⟩) ⟨by decide, by decide⟩ (fun h30 => ?_) (fun h30 => ?_)
                    · exfalso; omega
                    · refine r_aload_n C dX4_sheet_93 rfl (lv_at hl 0 rfl) ?_
                      refine g_X4_41 C hP 0 rfl rfl dX4_sheet_94 ?_
                      refine r_bipush C dX4_sheet_97 (by decide) ?_
                      refine r_iload_n C dX4_sheet_99 rfl (lv_at hl 1 rfl) ?_
                      refine r_imul C dX4_sheet_100 ?_
                      refine r_iload C dX4_sheet_101 (lv_at hl 2 rfl) ?_
                      refine r_iadd C dX4_sheet_103 ?_
                      refine r_lconst C (z := 0) dX4_sheet_104 (by decide) ?_
                      refine r_last C hP hD hS 10 (wM a k s kp ot sd st sp tp (up bi sh b) (up si sh n0) (up (zr40 nu sh n) ((40 * sh) + n) (lI 0)) mo ik (-1) tl ta fr to va iw) rfl dX4_sheet_105 (by omega) (by omega) (by decide) rfl (fun H locs hP hD hS => ?_)
                      refine r_iinc C 2 [(4, .int (iI (n + 1))), (0, .ref (a 0)), (1, .int (iI sh))] dX4_sheet_106 hl rfl (by decide) rfl (fun ls hl => ?_)
                      refine r_goto C (tgt := 86) dX4_sheet_109 (by decide) ?_
                      exact ihn ls H locs (lv_eq (lv_sub hl [1, 2, 0] rfl) rfl) (va_eq hP rfl) (va_eqD hD rfl) hS
                  · have hl : lv_has ls 5 [(0, .ref (a 0)), (1, .int (iI sh)), (4, .int (iI 40))] := hl
                    have hP : va_P D vwCl (wM a k s kp ot sd st sp tp (up bi sh b) (up si sh n0) (zr40 nu sh 40) mo ik (-1) tl ta fr to va iw) H := hP
                    have hD : va_D _ (wM a k s kp ot sd st sp tp (up bi sh b) (up si sh n0) (zr40 nu sh 40) mo ik (-1) tl ta fr to va iw) := hD
                    refine r_iload C dX4_sheet_86 (lv_at hl 2 rfl) ?_
                    refine r_bipush C dX4_sheet_88 (by decide) ?_
                    refine r_icmp_ge C (tgt := 112) dX4_sheet_90 (by decide) ⟨by decide, by decide⟩ ⟨by decide, by decide⟩ (fun h31 => ?_) (fun h31 => ?_)
                    · refine r_aload_n C dX4_sheet_112 rfl (lv_at hl 0 rfl) ?_
                      refine g_X4_38 C hP 0 rfl rfl dX4_sheet_113 ?_
                      refine r_iload_n C dX4_sheet_116 rfl (lv_at hl 1 rfl) ?_
                      refine r_iald C hP 9 rfl dX4_sheet_117 (by omega) (by omega) (by decide) ?_
                      exact r_iretE C hP hS (ot, sd, sp, mo, tl) (by first | (simp only [fSheet, fD, fV, h1, h2, h10, h18, eq_true h26, h27, h28, h29, h31, not_true_eq_false, not_false_eq_true, and_true, true_and, and_false, false_and, or_true, true_or, or_false, false_or, if_true, if_false, ne_eq, reduceIte]; done) | (exfalso; omega)) (by first | (simp only [fSheet, fD, fV, h1, h2, h10, h18, eq_true h26, h27, h28, h29, h31, not_true_eq_false, not_false_eq_true, and_true, true_and, and_false, false_and, or_true, true_or, or_false, false_or, if_true, if_false, ne_eq, reduceIte]; done) | (exfalso; omega)) dX4_sheet_118
                    · exfalso; omega
                · refine r_iconst C dX4_sheet_77 ?_
                  refine r_goto C (tgt := 82) dX4_sheet_78 (by decide) ?_
                  refine r_iast C hP hD hS 9 (wM a k s kp ot sd st sp tp (up bi sh b) (up si sh 0) nu mo ik (-1) tl ta fr to va iw) rfl dX4_sheet_82 (by omega) (by omega) (by decide) rfl (fun H locs hP hD hS => ?_)
                  refine r_iconst C dX4_sheet_83 ?_
                  refine r_istore C [(4, .int (iI 0)), (0, .ref (a 0)), (1, .int (iI sh)), (2, .int (iI b)), (3, .int (iI n0))] dX4_sheet_84 hl (by decide) rfl (fun ls hl => ?_)
                  refine r_loopW (fun n : Nat => [(0, .ref (a 0)), (1, .int (iI sh)), (4, .int (iI n))]) (fun n : Nat => wM a k s kp ot sd st sp tp (up bi sh b) (up si sh 0) (zr40 nu sh n) mo ik (-1) tl ta fr to va iw) (40) (lv_eq (lv_sub hl [1, 2, 0] rfl) rfl) (va_eq hP rfl) (va_eqD hD rfl) hS (fun n hn ihn ls H locs hl hP hD hS => ?_) (fun ls H locs hl hP hD hS => ?_)
                  · have hl : lv_has ls 5 [(0, .ref (a 0)), (1, .int (iI sh)), (4, .int (iI n))] := hl
                    have hP : va_P D vwCl (wM a k s kp ot sd st sp tp (up bi sh b) (up si sh 0) (zr40 nu sh n) mo ik (-1) tl ta fr to va iw) H := hP
                    have hD : va_D _ (wM a k s kp ot sd st sp tp (up bi sh b) (up si sh 0) (zr40 nu sh n) mo ik (-1) tl ta fr to va iw) := hD
                    refine r_iload C dX4_sheet_86 (lv_at hl 2 rfl) ?_
                    refine r_bipush C dX4_sheet_88 (by decide) ?_
                    refine r_icmp_ge C (tgt := 112) dX4_sheet_90 (by decide) (by exact ⟨by omega, by omega⟩) ⟨by decide, by decide⟩ (fun h32 => ?_) (fun h32 => ?_)
                    · exfalso; omega
                    · refine r_aload_n C dX4_sheet_93 rfl (lv_at hl 0 rfl) ?_
                      refine g_X4_41 C hP 0 rfl rfl dX4_sheet_94 ?_
                      refine r_bipush C dX4_sheet_97 (by decide) ?_
                      refine r_iload_n C dX4_sheet_99 rfl (lv_at hl 1 rfl) ?_
                      refine r_imul C dX4_sheet_100 ?_
                      refine r_iload C dX4_sheet_101 (lv_at hl 2 rfl) ?_
                      refine r_iadd C dX4_sheet_103 ?_
                      refine r_lconst C (z := 0) dX4_sheet_104 (by decide) ?_
                      refine r_last C hP hD hS 10 (wM a k s kp ot sd st sp tp (up bi sh b) (up si sh 0) (up (zr40 nu sh n) ((40 * sh) + n) (lI 0)) mo ik (-1) tl ta fr to va iw) rfl dX4_sheet_105 (by omega) (by omega) (by decide) rfl (fun H locs hP hD hS => ?_)
                      refine r_iinc C 2 [(4, .int (iI (n + 1))), (0, .ref (a 0)), (1, .int (iI sh))] dX4_sheet_106 hl rfl (by decide) rfl (fun ls hl => ?_)
                      refine r_goto C (tgt := 86) dX4_sheet_109 (by decide) ?_
                      exact ihn ls H locs (lv_eq (lv_sub hl [1, 2, 0] rfl) rfl) (va_eq hP rfl) (va_eqD hD rfl) hS
                  · have hl : lv_has ls 5 [(0, .ref (a 0)), (1, .int (iI sh)), (4, .int (iI 40))] := hl
                    have hP : va_P D vwCl (wM a k s kp ot sd st sp tp (up bi sh b) (up si sh 0) (zr40 nu sh 40) mo ik (-1) tl ta fr to va iw) H := hP
                    have hD : va_D _ (wM a k s kp ot sd st sp tp (up bi sh b) (up si sh 0) (zr40 nu sh 40) mo ik (-1) tl ta fr to va iw) := hD
                    refine r_iload C dX4_sheet_86 (lv_at hl 2 rfl) ?_
                    refine r_bipush C dX4_sheet_88 (by decide) ?_
                    refine r_icmp_ge C (tgt := 112) dX4_sheet_90 (by decide) ⟨by decide, by decide⟩ ⟨by decide, by decide⟩ (fun h33 => ?_) (fun h33 => ?_)
                    · refine r_aload_n C dX4_sheet_112 rfl (lv_at hl 0 rfl) ?_
                      refine g_X4_38 C hP 0 rfl rfl dX4_sheet_113 ?_
                      refine r_iload_n C dX4_sheet_116 rfl (lv_at hl 1 rfl) ?_
                      refine r_iald C hP 9 rfl dX4_sheet_117 (by omega) (by omega) (by decide) ?_
                      exact r_iretE C hP hS (ot, sd, sp, mo, tl) (by first | (simp only [fSheet, fD, fV, h1, h2, h10, h18, eq_true h26, h27, h28, eq_true h29, h33, not_true_eq_false, not_false_eq_true, and_true, true_and, and_false, false_and, or_true, true_or, or_false, false_or, if_true, if_false, ne_eq, reduceIte]; done) | (exfalso; omega)) (by first | (simp only [fSheet, fD, fV, h1, h2, h10, h18, eq_true h26, h27, h28, eq_true h29, h33, not_true_eq_false, not_false_eq_true, and_true, true_and, and_false, false_and, or_true, true_or, or_false, false_or, if_true, if_false, ne_eq, reduceIte]; done) | (exfalso; omega)) dX4_sheet_118
                    · exfalso; omega
              · refine r_aload_n C dX4_sheet_54 rfl (lv_at hl 0 rfl) ?_
                refine r_ldc C (-1000000001) ki_X4_48 (by decide) dX4_sheet_55 ?_
                refine r_cVW1 C m_X4_74 (cM_finds (by omega) (by omega)) hP hD hS [0, 1, 2, 3, 4, 5, 6, 7, 8, 9, 10, 11] (wM a k s kp ot sd (fnd st (-1000000001)) sp tp bi si nu mo ik (-1) tl ta fr to va iw) rfl rfl rfl rfl rfl rfl rfl hl.1 dX4_sheet_57 (fun H locs hP hD hS => ?_)
                exact r_iretE C hP hS (ot, sd, sp, mo, tl) (by first | (simp only [fSheet, fD, fV, h1, h2, h10, h18, eq_true h26, h27, h28, not_true_eq_false, not_false_eq_true, and_true, true_and, and_false, false_and, or_true, true_or, or_false, false_or, if_true, if_false, ne_eq, reduceIte]; done) | (exfalso; omega)) (by first | (simp only [fSheet, fD, fV, h1, h2, h10, h18, eq_true h26, h27, h28, not_true_eq_false, not_false_eq_true, and_true, true_and, and_false, false_and, or_true, true_or, or_false, false_or, if_true, if_false, ne_eq, reduceIte]; done) | (exfalso; omega)) dX4_sheet_60
            · refine r_aload_n C dX4_sheet_40 rfl (lv_at hl 0 rfl) ?_
              refine r_ldcw C (-1000000007) ki_X4_281 (by decide) dX4_sheet_41 ?_
              refine r_cVW1 C m_X4_74 (cM_finds (by omega) (by omega)) hP hD hS [0, 1, 2, 3, 4, 5, 6, 7, 8, 9, 10, 11] (wM a k s kp ot sd (fnd st (-1000000007)) sp tp bi si nu mo ik (-1) tl ta fr to va iw) rfl rfl rfl rfl rfl rfl rfl hl.1 dX4_sheet_44 (fun H locs hP hD hS => ?_)
              exact r_iretE C hP hS (ot, sd, sp, mo, tl) (by first | (simp only [fSheet, fD, fV, h1, h2, h10, h18, eq_true h26, h27, not_true_eq_false, not_false_eq_true, and_true, true_and, and_false, false_and, or_true, true_or, or_false, false_or, if_true, if_false, ne_eq, reduceIte]; done) | (exfalso; omega)) (by first | (simp only [fSheet, fD, fV, h1, h2, h10, h18, eq_true h26, h27, not_true_eq_false, not_false_eq_true, and_true, true_and, and_false, false_and, or_true, true_or, or_false, false_or, if_true, if_false, ne_eq, reduceIte]; done) | (exfalso; omega)) dX4_sheet_47
          · refine r_aload_n C dX4_sheet_29 rfl (lv_at hl 0 rfl) ?_
            refine r_ldc C (-1000000001) ki_X4_48 (by decide) dX4_sheet_30 ?_
            refine r_cVW1 C m_X4_74 (cM_finds (by omega) (by omega)) hP hD hS [0, 1, 2, 3, 4, 5, 6, 7, 8, 9, 10, 11] (wM a k s kp ot sd (fnd st (-1000000001)) sp tp bi si nu mo ik (-1) tl ta fr to va iw) rfl rfl rfl rfl rfl rfl rfl hl.1 dX4_sheet_32 (fun H locs hP hD hS => ?_)
            exact r_iretE C hP hS (ot, sd, sp, mo, tl) (by first | (simp only [fSheet, fD, fV, h1, h2, h10, h18, h26, not_true_eq_false, not_false_eq_true, and_true, true_and, and_false, false_and, or_true, true_or, or_false, false_or, if_true, if_false, ne_eq, reduceIte]; done) | (exfalso; omega)) (by first | (simp only [fSheet, fD, fV, h1, h2, h10, h18, h26, not_true_eq_false, not_false_eq_true, and_true, true_and, and_false, false_and, or_true, true_or, or_false, false_or, if_true, if_false, ne_eq, reduceIte]; done) | (exfalso; omega)) dX4_sheet_35
set_option maxHeartbeats 4000000 in
set_option maxRecDepth 100000 in
theorem cM_write {sh : Int} {i : Int} {v : Int} (zsh : In32 sh) (zi : In32 i) (zv : In64 v) (hbi : ∀ i, 0 ≤ bi i ∧ bi i ≤ 64) (hsi : ∀ i, 0 ≤ si i ∧ si i ≤ 40) : ME l yX4_write cX4_write 8 (some .long) 3 66 D k [.ref (a 0), .int (iI sh), .int (iI i), .long (lI v)] (wM a k s kp ot sd st sp tp bi si nu mo ik (-1) tl ta fr to va iw) (fun x : (Int → Int) × (Int → Int) × (Int → Int) × (Int → Int64) × Int => wM a k s kp x.1 x.2.1 ((fWrite st bi si nu sh i v).2.1) x.2.2.1 tp bi si ((fWrite st bi si nu sh i v).2.2) x.2.2.2.1 ik (-1) x.2.2.2.2 ta fr to va iw) (some (.long (lI ((fWrite st bi si nu sh i v).1)))) := by
  refine ME.mk RX4 rfl (by decide +kernel) (Nat.le_of_ble_eq_true rfl) (fun p e U m0 below meth cd ls C hP hD hS hl => ?_)
  have hl : lv_has ls 8 [(0, .ref (a 0)), (1, .int (iI sh)), (2, .int (iI i)), (3, .long (lI v))] := hl
  have zsh1 := zsh.1
  have zsh2 := zsh.2
  have zi1 := zi.1
  have zi2 := zi.2
  have zv1 := zv.1
  have zv2 := zv.2
  have h99 := wsh_rg bi sh
  have h98 := hsi sh
  refine r_aload_n C dX4_write_0 rfl (lv_at hl 0 rfl) ?_
  refine r_iload_n C dX4_write_1 rfl (lv_at hl 1 rfl) ?_
  refine r_cVR1 C m_X4_283 (cM_wrongSheet (by exact ⟨by omega, by omega⟩) hbi) hP rfl rfl hl.1 dX4_write_2 ?_
  refine r_istore C [(5, .int (iI (wsh bi sh))), (0, .ref (a 0)), (1, .int (iI sh)), (2, .int (iI i)), (3, .long (lI v))] dX4_write_5 hl (by decide) rfl (fun ls hl => ?_)
  refine r_iload C dX4_write_7 (lv_at hl 0 rfl) ?_
  refine r_if_eq C (tgt := 20) dX4_write_9 (by decide) (by have := wsh_rg bi sh; exact ⟨by omega, by omega⟩) (fun h1 => ?_) (fun h1 => ?_)
  · refine r_iload_n C dX4_write_20 rfl (lv_at hl 3 rfl) ?_
    refine r_i2l C dX4_write_21 (by exact ⟨by omega, by omega⟩) ?_
    refine r_lconst C (z := 0) dX4_write_22 (by decide) ?_
    refine r_aload_n C dX4_write_23 rfl (lv_at hl 1 rfl) ?_
    refine g_X4_38 C hP 0 rfl rfl dX4_write_24 ?_
    refine r_iload_n C dX4_write_27 rfl (lv_at hl 2 rfl) ?_
    refine r_iald C hP 9 rfl dX4_write_28 (by omega) (by omega) (by decide) ?_
    refine r_iconst C dX4_write_29 ?_
    refine r_isub C dX4_write_30 ?_
    refine r_i2l C dX4_write_31 (by have := hsi (sh); exact ⟨by omega, by omega⟩) ?_
    refine r_cSR3 C m_X4_51 (cM_in (by exact ⟨by omega, by omega⟩) ⟨by decide, by decide⟩ (by have := hsi (sh); exact ⟨by omega, by omega⟩)) pn0 hl.1 dX4_write_32 ?_
    refine r_ifB_ne C (tgt := 46) dX4_write_35 (by decide) (fun h2 => ?_) (fun h2 => ?_)
    · refine r_aload_n C dX4_write_46 rfl (lv_at hl 1 rfl) ?_
      refine g_X4_41 C hP 0 rfl rfl dX4_write_47 ?_
      refine r_bipush C dX4_write_50 (by decide) ?_
      refine r_iload_n C dX4_write_52 rfl (lv_at hl 2 rfl) ?_
      refine r_imul C dX4_write_53 ?_
      refine r_iload_n C dX4_write_54 rfl (lv_at hl 3 rfl) ?_
      refine r_iadd C dX4_write_55 ?_
      refine r_laldI C hP 10 rfl dX4_write_56 (by omega) (by omega) (by decide) ?_
      refine r_lstore C [(6, .long (lI ((nu ((40 * sh) + i)).toInt))), (5, .int (iI (wsh bi sh))), (0, .ref (a 0)), (1, .int (iI sh)), (2, .int (iI i)), (3, .long (lI v))] dX4_write_57 hl (by decide) rfl (fun ls hl => ?_)
      refine r_aload_n C dX4_write_59 rfl (lv_at hl 2 rfl) ?_
      refine g_X4_41 C hP 0 rfl rfl dX4_write_60 ?_
      refine r_bipush C dX4_write_63 (by decide) ?_
      refine r_iload_n C dX4_write_65 rfl (lv_at hl 3 rfl) ?_
      refine r_imul C dX4_write_66 ?_
      refine r_iload_n C dX4_write_67 rfl (lv_at hl 4 rfl) ?_
      refine r_iadd C dX4_write_68 ?_
      refine r_aload_n C dX4_write_69 rfl (lv_at hl 2 rfl) ?_
      refine g_X4_35 C hP 0 rfl rfl dX4_write_70 ?_
      refine r_iload_n C dX4_write_73 rfl (lv_at hl 3 rfl) ?_
      refine r_iald C hP 8 rfl dX4_write_74 (by omega) (by omega) (by decide) ?_
      refine r_lload_n C dX4_write_75 rfl (lv_at hl 5 rfl) ?_
      refine r_cSR2 C m_X4_286 (cM_narrowed (by have := hbi (sh); omega) (by have := hbi (sh); omega)) pn0 hl.1 dX4_write_76 ?_
      refine r_last C hP hD hS 10 (wM a k s kp ot sd st sp tp bi si (up nu ((40 * sh) + i) (lI (nrw (bi (sh)) v))) mo ik (-1) tl ta fr to va iw) rfl dX4_write_79 (by omega) (by omega) (by decide) rfl (fun H locs hP hD hS => ?_)
      refine r_lload C dX4_write_80 (lv_at hl 0 rfl) ?_
      exact r_lretE C hP hS (ot, sd, sp, mo, tl) (by first | (simp only [fWrite, fD, fV, eq_true h1, h2, not_true_eq_false, not_false_eq_true, and_true, true_and, and_false, false_and, or_true, true_or, or_false, false_or, if_true, if_false, ne_eq, reduceIte]; done) | (exfalso; omega)) (by first | (simp only [fWrite, fD, fV, eq_true h1, h2, not_true_eq_false, not_false_eq_true, and_true, true_and, and_false, false_and, or_true, true_or, or_false, false_or, if_true, if_false, ne_eq, reduceIte]; done) | (exfalso; omega)) dX4_write_82
    · refine r_aload_n C dX4_write_38 rfl (lv_at hl 1 rfl) ?_
      refine r_ldc C (-1000000001) ki_X4_48 (by decide) dX4_write_39 ?_
      refine r_cVW1 C m_X4_74 (cM_finds (by omega) (by omega)) hP hD hS [0, 1, 2, 3, 4, 5, 6, 7, 8, 9, 10, 11] (wM a k s kp ot sd (fnd st (-1000000001)) sp tp bi si nu mo ik (-1) tl ta fr to va iw) rfl rfl rfl rfl rfl rfl rfl hl.1 dX4_write_41 (fun H locs hP hD hS => ?_)
      refine r_i2l C dX4_write_44 (by exact ⟨by omega, by omega⟩) ?_
      exact r_lretE C hP hS (ot, sd, sp, mo, tl) (by first | (simp only [fWrite, fD, fV, eq_true h1, h2, not_true_eq_false, not_false_eq_true, and_true, true_and, and_false, false_and, or_true, true_or, or_false, false_or, if_true, if_false, ne_eq, reduceIte]; done) | (exfalso; omega)) (by first | (simp only [fWrite, fD, fV, eq_true h1, h2, not_true_eq_false, not_false_eq_true, and_true, true_and, and_false, false_and, or_true, true_or, or_false, false_or, if_true, if_false, ne_eq, reduceIte]; done) | (exfalso; omega)) dX4_write_45
  · refine r_aload_n C dX4_write_12 rfl (lv_at hl 1 rfl) ?_
    refine r_iload C dX4_write_13 (lv_at hl 0 rfl) ?_
    refine r_cVW1 C m_X4_74 (cM_finds (by have := wsh_rg bi sh; omega) (by have := wsh_rg bi sh; omega)) hP hD hS [0, 1, 2, 3, 4, 5, 6, 7, 8, 9, 10, 11] (wM a k s kp ot sd (fnd st (wsh bi sh)) sp tp bi si nu mo ik (-1) tl ta fr to va iw) rfl rfl rfl rfl rfl rfl rfl hl.1 dX4_write_15 (fun H locs hP hD hS => ?_)
    refine r_i2l C dX4_write_18 (by have := wsh_rg bi sh; exact ⟨by omega, by omega⟩) ?_
    exact r_lretE C hP hS (ot, sd, sp, mo, tl) (by first | (simp only [fWrite, fD, fV, h1, not_true_eq_false, not_false_eq_true, and_true, true_and, and_false, false_and, or_true, true_or, or_false, false_or, if_true, if_false, ne_eq, reduceIte]; done) | (exfalso; omega)) (by first | (simp only [fWrite, fD, fV, h1, not_true_eq_false, not_false_eq_true, and_true, true_and, and_false, false_and, or_true, true_or, or_false, false_or, if_true, if_false, ne_eq, reduceIte]; done) | (exfalso; omega)) dX4_write_19
set_option maxHeartbeats 4000000 in
set_option maxRecDepth 100000 in
theorem cM_copy {sh : Int} {f : Int} {t : Int} {g : Int} {n0 : Int} (zsh : In32 sh) (zf : In32 f) (zt : In32 t) (zg : In32 g) (zn0 : In32 n0) (hbi : ∀ i, 0 ≤ bi i ∧ bi i ≤ 64) (hsi : ∀ i, 0 ≤ si i ∧ si i ≤ 40) : ME l yX4_copy cX4_copy 7 (some .int) 2 45 D k [.ref (a 0), .int (iI sh), .int (iI f), .int (iI t), .int (iI g), .int (iI n0)] (wM a k s kp ot sd st sp tp bi si nu mo ik (-1) tl ta fr to va iw) (fun x : (Int → Int) × (Int → Int) × (Int → Int) × (Int → Int64) × Int => wM a k s kp x.1 x.2.1 ((fCopy st bi si nu sh f t g n0).2.1) x.2.2.1 tp bi si ((fCopy st bi si nu sh f t g n0).2.2) x.2.2.2.1 ik (-1) x.2.2.2.2 ta fr to va iw) (some (.int (iI ((fCopy st bi si nu sh f t g n0).1)))) := by
  refine ME.mk RX4 rfl (by decide +kernel) (Nat.le_of_ble_eq_true rfl) (fun p e U m0 below meth cd ls C hP hD hS hl => ?_)
  have hl : lv_has ls 7 [(0, .ref (a 0)), (1, .int (iI sh)), (2, .int (iI f)), (3, .int (iI t)), (4, .int (iI g)), (5, .int (iI n0))] := hl
  have zsh1 := zsh.1
  have zsh2 := zsh.2
  have zf1 := zf.1
  have zf2 := zf.2
  have zt1 := zt.1
  have zt2 := zt.2
  have zg1 := zg.1
  have zg2 := zg.2
  have zn01 := zn0.1
  have zn02 := zn0.2
  have h98 := hsi sh
  have h97 := hsi t
  refine r_iload_n C dX4_copy_0 rfl (lv_at hl 1 rfl) ?_
  refine r_cSR1 C m_X4_278 (cM_isOne (by exact ⟨by omega, by omega⟩)) pn0 hl.1 dX4_copy_1 ?_
  refine r_ifB_eq C (tgt := 14) dX4_copy_4 (by decide) (fun h1 => ?_) (fun h1 => ?_)
  · refine r_aload_n C dX4_copy_14 rfl (lv_at hl 0 rfl) ?_
    refine r_ldc C (-1000000001) ki_X4_48 (by decide) dX4_copy_15 ?_
    refine r_cVW1 C m_X4_74 (cM_finds (by omega) (by omega)) hP hD hS [0, 1, 2, 3, 4, 5, 6, 7, 8, 9, 10, 11] (wM a k s kp ot sd (fnd st (-1000000001)) sp tp bi si nu mo ik (-1) tl ta fr to va iw) rfl rfl rfl rfl rfl rfl rfl hl.1 dX4_copy_17 (fun H locs hP hD hS => ?_)
    exact r_iretE C hP hS (ot, sd, sp, mo, tl) (by first | (simp only [fCopy, fD, fV, h1, not_true_eq_false, not_false_eq_true, and_true, true_and, and_false, false_and, or_true, true_or, or_false, false_or, if_true, if_false, ne_eq, reduceIte]; done) | (exfalso; omega)) (by first | (simp only [fCopy, fD, fV, h1, not_true_eq_false, not_false_eq_true, and_true, true_and, and_false, false_and, or_true, true_or, or_false, false_or, if_true, if_false, ne_eq, reduceIte]; done) | (exfalso; omega)) dX4_copy_20
  · refine r_iload_n C dX4_copy_7 rfl (lv_at hl 3 rfl) ?_
    refine r_cSR1 C m_X4_278 (cM_isOne (by exact ⟨by omega, by omega⟩)) pn0 hl.1 dX4_copy_8 ?_
    refine r_ifB_ne C (tgt := 21) dX4_copy_11 (by decide) (fun h2 => ?_) (fun h2 => ?_)
    · refine r_aload_n C dX4_copy_21 rfl (lv_at hl 0 rfl) ?_
      refine g_X4_35 C hP 0 rfl rfl dX4_copy_22 ?_
      refine r_iload_n C dX4_copy_25 rfl (lv_at hl 1 rfl) ?_
      refine r_iald C hP 8 rfl dX4_copy_26 (by omega) (by omega) (by decide) ?_
      refine r_if_eq C (tgt := 39) dX4_copy_27 (by decide) (by have := hbi (sh); exact ⟨by omega, by omega⟩) (fun h3 => ?_) (fun h3 => ?_)
      · refine r_aload_n C dX4_copy_39 rfl (lv_at hl 0 rfl) ?_
        refine r_ldcw C (-1000000006) ki_X4_282 (by decide) dX4_copy_40 ?_
        refine r_cVW1 C m_X4_74 (cM_finds (by omega) (by omega)) hP hD hS [0, 1, 2, 3, 4, 5, 6, 7, 8, 9, 10, 11] (wM a k s kp ot sd (fnd st (-1000000006)) sp tp bi si nu mo ik (-1) tl ta fr to va iw) rfl rfl rfl rfl rfl rfl rfl hl.1 dX4_copy_43 (fun H locs hP hD hS => ?_)
        exact r_iretE C hP hS (ot, sd, sp, mo, tl) (by first | (simp only [fCopy, fD, fV, h1, h2, eq_true h3, not_true_eq_false, not_false_eq_true, and_true, true_and, and_false, false_and, or_true, true_or, or_false, false_or, if_true, if_false, ne_eq, reduceIte]; done) | (exfalso; omega)) (by first | (simp only [fCopy, fD, fV, h1, h2, eq_true h3, not_true_eq_false, not_false_eq_true, and_true, true_and, and_false, false_and, or_true, true_or, or_false, false_or, if_true, if_false, ne_eq, reduceIte]; done) | (exfalso; omega)) dX4_copy_46
      · refine r_aload_n C dX4_copy_30 rfl (lv_at hl 0 rfl) ?_
        refine g_X4_35 C hP 0 rfl rfl dX4_copy_31 ?_
        refine r_iload_n C dX4_copy_34 rfl (lv_at hl 3 rfl) ?_
        refine r_iald C hP 8 rfl dX4_copy_35 (by omega) (by omega) (by decide) ?_
        refine r_if_ne C (tgt := 47) dX4_copy_36 (by decide) (by have := hbi (t); exact ⟨by omega, by omega⟩) (fun h4 => ?_) (fun h4 => ?_)
        · refine r_aload_n C dX4_copy_47 rfl (lv_at hl 0 rfl) ?_
          refine g_X4_35 C hP 0 rfl rfl dX4_copy_48 ?_
          refine r_iload_n C dX4_copy_51 rfl (lv_at hl 1 rfl) ?_
          refine r_iald C hP 8 rfl dX4_copy_52 (by omega) (by omega) (by decide) ?_
          refine r_aload_n C dX4_copy_53 rfl (lv_at hl 0 rfl) ?_
          refine g_X4_35 C hP 0 rfl rfl dX4_copy_54 ?_
          refine r_iload_n C dX4_copy_57 rfl (lv_at hl 3 rfl) ?_
          refine r_iald C hP 8 rfl dX4_copy_58 (by omega) (by omega) (by decide) ?_
          refine r_icmp_eq C (tgt := 69) dX4_copy_59 (by decide) (by have := hbi (sh); exact ⟨by omega, by omega⟩) (by have := hbi (t); exact ⟨by omega, by omega⟩) (fun h5 => ?_) (fun h5 => ?_)
          · refine r_iload_n C dX4_copy_69 rfl (lv_at hl 2 rfl) ?_
            refine r_if_lt C (tgt := 110) dX4_copy_70 (by decide) (by exact ⟨by omega, by omega⟩) (fun h6 => ?_) (fun h6 => ?_)
            · refine r_aload_n C dX4_copy_110 rfl (lv_at hl 0 rfl) ?_
              refine r_ldc C (-1000000001) ki_X4_48 (by decide) dX4_copy_111 ?_
              refine r_cVW1 C m_X4_74 (cM_finds (by omega) (by omega)) hP hD hS [0, 1, 2, 3, 4, 5, 6, 7, 8, 9, 10, 11] (wM a k s kp ot sd (fnd st (-1000000001)) sp tp bi si nu mo ik (-1) tl ta fr to va iw) rfl rfl rfl rfl rfl rfl rfl hl.1 dX4_copy_113 (fun H locs hP hD hS => ?_)
              exact r_iretE C hP hS (ot, sd, sp, mo, tl) (by first | (simp only [fCopy, fD, fV, h1, h2, h3, h4, eq_true h5, h6, not_true_eq_false, not_false_eq_true, and_true, true_and, and_false, false_and, or_true, true_or, or_false, false_or, if_true, if_false, ne_eq, reduceIte]; done) | (exfalso; omega)) (by first | (simp only [fCopy, fD, fV, h1, h2, h3, h4, eq_true h5, h6, not_true_eq_false, not_false_eq_true, and_true, true_and, and_false, false_and, or_true, true_or, or_false, false_or, if_true, if_false, ne_eq, reduceIte]; done) | (exfalso; omega)) dX4_copy_116
            · refine r_iload C dX4_copy_73 (lv_at hl 4 rfl) ?_
              refine r_if_lt C (tgt := 110) dX4_copy_75 (by decide) (by exact ⟨by omega, by omega⟩) (fun h7 => ?_) (fun h7 => ?_)
              · refine r_aload_n C dX4_copy_110 rfl (lv_at hl 0 rfl) ?_
                refine r_ldc C (-1000000001) ki_X4_48 (by decide) dX4_copy_111 ?_
                refine r_cVW1 C m_X4_74 (cM_finds (by omega) (by omega)) hP hD hS [0, 1, 2, 3, 4, 5, 6, 7, 8, 9, 10, 11] (wM a k s kp ot sd (fnd st (-1000000001)) sp tp bi si nu mo ik (-1) tl ta fr to va iw) rfl rfl rfl rfl rfl rfl rfl hl.1 dX4_copy_113 (fun H locs hP hD hS => ?_)
                exact r_iretE C hP hS (ot, sd, sp, mo, tl) (by first | (simp only [fCopy, fD, fV, h1, h2, h3, h4, eq_true h5, h6, h7, not_true_eq_false, not_false_eq_true, and_true, true_and, and_false, false_and, or_true, true_or, or_false, false_or, if_true, if_false, ne_eq, reduceIte]; done) | (exfalso; omega)) (by first | (simp only [fCopy, fD, fV, h1, h2, h3, h4, eq_true h5, h6, h7, not_true_eq_false, not_false_eq_true, and_true, true_and, and_false, false_and, or_true, true_or, or_false, false_or, if_true, if_false, ne_eq, reduceIte]; done) | (exfalso; omega)) dX4_copy_116
              · refine r_iload C dX4_copy_78 (lv_at hl 5 rfl) ?_
                refine r_if_lt C (tgt := 110) dX4_copy_80 (by decide) (by exact ⟨by omega, by omega⟩) (fun h8 => ?_) (fun h8 => ?_)
                · refine r_aload_n C dX4_copy_110 rfl (lv_at hl 0 rfl) ?_
                  refine r_ldc C (-1000000001) ki_X4_48 (by decide) dX4_copy_111 ?_
                  refine r_cVW1 C m_X4_74 (cM_finds (by omega) (by omega)) hP hD hS [0, 1, 2, 3, 4, 5, 6, 7, 8, 9, 10, 11] (wM a k s kp ot sd (fnd st (-1000000001)) sp tp bi si nu mo ik (-1) tl ta fr to va iw) rfl rfl rfl rfl rfl rfl rfl hl.1 dX4_copy_113 (fun H locs hP hD hS => ?_)
                  exact r_iretE C hP hS (ot, sd, sp, mo, tl) (by first | (simp only [fCopy, fD, fV, h1, h2, h3, h4, eq_true h5, h6, h7, h8, not_true_eq_false, not_false_eq_true, and_true, true_and, and_false, false_and, or_true, true_or, or_false, false_or, if_true, if_false, ne_eq, reduceIte]; done) | (exfalso; omega)) (by first | (simp only [fCopy, fD, fV, h1, h2, h3, h4, eq_true h5, h6, h7, h8, not_true_eq_false, not_false_eq_true, and_true, true_and, and_false, false_and, or_true, true_or, or_false, false_or, if_true, if_false, ne_eq, reduceIte]; done) | (exfalso; omega)) dX4_copy_116
                · refine r_iload C dX4_copy_83 (lv_at hl 5 rfl) ?_
                  refine r_aload_n C dX4_copy_85 rfl (lv_at hl 0 rfl) ?_
                  refine g_X4_38 C hP 0 rfl rfl dX4_copy_86 ?_
                  refine r_iload_n C dX4_copy_89 rfl (lv_at hl 1 rfl) ?_
                  refine r_iald C hP 9 rfl dX4_copy_90 (by omega) (by omega) (by decide) ?_
                  refine r_iload_n C dX4_copy_91 rfl (lv_at hl 2 rfl) ?_
                  refine r_isub C dX4_copy_92 ?_
                  refine r_icmp_gt C (tgt := 110) dX4_copy_93 (by decide) (by exact ⟨by omega, by omega⟩) (by have := hsi (sh); exact ⟨by omega, by omega⟩) (fun h9 => ?_) (fun h9 => ?_)
                  · refine r_aload_n C dX4_copy_110 rfl (lv_at hl 0 rfl) ?_
                    refine r_ldc C (-1000000001) ki_X4_48 (by decide) dX4_copy_111 ?_
                    refine r_cVW1 C m_X4_74 (cM_finds (by omega) (by omega)) hP hD hS [0, 1, 2, 3, 4, 5, 6, 7, 8, 9, 10, 11] (wM a k s kp ot sd (fnd st (-1000000001)) sp tp bi si nu mo ik (-1) tl ta fr to va iw) rfl rfl rfl rfl rfl rfl rfl hl.1 dX4_copy_113 (fun H locs hP hD hS => ?_)
                    exact r_iretE C hP hS (ot, sd, sp, mo, tl) (by first | (simp only [fCopy, fD, fV, h1, h2, h3, h4, eq_true h5, h6, h7, h8, h9, not_true_eq_false, not_false_eq_true, and_true, true_and, and_false, false_and, or_true, true_or, or_false, false_or, if_true, if_false, ne_eq, reduceIte]; done) | (exfalso; omega)) (by first | (simp only [fCopy, fD, fV, h1, h2, h3, h4, eq_true h5, h6, h7, h8, h9, not_true_eq_false, not_false_eq_true, and_true, true_and, and_false, false_and, or_true, true_or, or_false, false_or, if_true, if_false, ne_eq, reduceIte]; done) | (exfalso; omega)) dX4_copy_116
                  · refine r_iload C dX4_copy_96 (lv_at hl 5 rfl) ?_
                    refine r_aload_n C dX4_copy_98 rfl (lv_at hl 0 rfl) ?_
                    refine g_X4_38 C hP 0 rfl rfl dX4_copy_99 ?_
                    refine r_iload_n C dX4_copy_102 rfl (lv_at hl 3 rfl) ?_
                    refine r_iald C hP 9 rfl dX4_copy_103 (by omega) (by omega) (by decide) ?_
                    refine r_iload C dX4_copy_104 (lv_at hl 4 rfl) ?_
                    refine r_isub C dX4_copy_106 ?_
                    refine r_icmp_le C (tgt := 117) dX4_copy_107 (by decide) (by exact ⟨by omega, by omega⟩) (by have := hsi (t); exact ⟨by omega, by omega⟩) (fun h10 => ?_) (fun h10 => ?_)
                    · refine r_iconst C dX4_copy_117 ?_
                      refine r_istore C [(6, .int (iI 0)), (0, .ref (a 0)), (1, .int (iI sh)), (2, .int (iI f)), (3, .int (iI t)), (4, .int (iI g)), (5, .int (iI n0))] dX4_copy_118 hl (by decide) rfl (fun ls hl => ?_)
                      refine r_loopW (fun n : Nat => [(0, .ref (a 0)), (1, .int (iI sh)), (2, .int (iI f)), (3, .int (iI t)), (4, .int (iI g)), (5, .int (iI n0)), (6, .int (iI n))]) (fun n : Nat => wM a k s kp ot sd st sp tp bi si nu (mvA nu mo (40 * sh + f) n) ik (-1) tl ta fr to va iw) (n0.toNat) (lv_eq (lv_sub hl [1, 2, 3, 4, 5, 6, 0] rfl) rfl) (va_eq hP rfl) (va_eqD hD rfl) hS (fun n hn ihn ls H locs hl hP hD hS => ?_) (fun ls H locs hl hP hD hS => ?_)
                      · have hl : lv_has ls 7 [(0, .ref (a 0)), (1, .int (iI sh)), (2, .int (iI f)), (3, .int (iI t)), (4, .int (iI g)), (5, .int (iI n0)), (6, .int (iI n))] := hl
                        have hP : va_P D vwCl (wM a k s kp ot sd st sp tp bi si nu (mvA nu mo (40 * sh + f) n) ik (-1) tl ta fr to va iw) H := hP
                        have hD : va_D _ (wM a k s kp ot sd st sp tp bi si nu (mvA nu mo (40 * sh + f) n) ik (-1) tl ta fr to va iw) := hD
                        refine r_iload C dX4_copy_120 (lv_at hl 6 rfl) ?_
                        refine r_iload C dX4_copy_122 (lv_at hl 5 rfl) ?_
                        refine r_icmp_ge C (tgt := 154) dX4_copy_124 (by decide) (by exact ⟨by omega, by omega⟩) (by exact ⟨by omega, by omega⟩) (fun h11 => ?_) (fun h11 => ?_)
                        · exfalso; omega
                        · refine r_aload_n C dX4_copy_127 rfl (lv_at hl 0 rfl) ?_
                          refine g_X4_45 C hP 0 rfl rfl dX4_copy_128 ?_
                          refine r_iload C dX4_copy_131 (lv_at hl 6 rfl) ?_
                          refine r_aload_n C dX4_copy_133 rfl (lv_at hl 0 rfl) ?_
                          refine g_X4_41 C hP 0 rfl rfl dX4_copy_134 ?_
                          refine r_bipush C dX4_copy_137 (by decide) ?_
                          refine r_iload_n C dX4_copy_139 rfl (lv_at hl 1 rfl) ?_
                          refine r_imul C dX4_copy_140 ?_
                          refine r_iload_n C dX4_copy_141 rfl (lv_at hl 2 rfl) ?_
                          refine r_iadd C dX4_copy_142 ?_
                          refine r_iload C dX4_copy_143 (lv_at hl 6 rfl) ?_
                          refine r_iadd C dX4_copy_145 ?_
                          refine r_laldI C hP 10 rfl dX4_copy_146 (by omega) (by omega) (by decide) ?_
                          refine r_last C hP hD hS 11 (wM a k s kp ot sd st sp tp bi si nu (up (mvA nu mo (40 * sh + f) n) n (nu (((40 * sh) + f) + n))) ik (-1) tl ta fr to va iw) rfl dX4_copy_147 (by omega) (by omega) (by decide) (by rw [lI_of]; rfl) (fun H locs hP hD hS => ?_)
                          refine r_iinc C 6 [(6, .int (iI (n + 1))), (0, .ref (a 0)), (1, .int (iI sh)), (2, .int (iI f)), (3, .int (iI t)), (4, .int (iI g)), (5, .int (iI n0))] dX4_copy_148 hl rfl (by decide) rfl (fun ls hl => ?_)
                          refine r_goto C (tgt := 120) dX4_copy_151 (by decide) ?_
                          exact ihn ls H locs (lv_eq (lv_sub hl [1, 2, 3, 4, 5, 6, 0] rfl) rfl) (va_eq hP rfl) (va_eqD hD rfl) hS
                      · have hl : lv_has ls 7 [(0, .ref (a 0)), (1, .int (iI sh)), (2, .int (iI f)), (3, .int (iI t)), (4, .int (iI g)), (5, .int (iI n0)), (6, .int (iI n0.toNat))] := hl
                        have hP : va_P D vwCl (wM a k s kp ot sd st sp tp bi si nu (mvA nu mo (40 * sh + f) n0.toNat) ik (-1) tl ta fr to va iw) H := hP
                        have hD : va_D _ (wM a k s kp ot sd st sp tp bi si nu (mvA nu mo (40 * sh + f) n0.toNat) ik (-1) tl ta fr to va iw) := hD
                        refine r_iload C dX4_copy_120 (lv_at hl 6 rfl) ?_
                        refine r_iload C dX4_copy_122 (lv_at hl 5 rfl) ?_
                        refine r_icmp_ge C (tgt := 154) dX4_copy_124 (by decide) (by exact ⟨by omega, by omega⟩) (by exact ⟨by omega, by omega⟩) (fun h12 => ?_) (fun h12 => ?_)
                        · refine r_iconst C dX4_copy_154 ?_
                          refine r_istore C [(6, .int (iI 0)), (0, .ref (a 0)), (1, .int (iI sh)), (2, .int (iI f)), (3, .int (iI t)), (4, .int (iI g)), (5, .int (iI n0))] dX4_copy_155 hl (by decide) rfl (fun ls hl => ?_)
                          refine r_loopW (fun j : Nat => [(0, .ref (a 0)), (1, .int (iI sh)), (2, .int (iI f)), (3, .int (iI t)), (4, .int (iI g)), (5, .int (iI n0)), (6, .int (iI j))]) (fun j : Nat => wM a k s kp ot sd st sp tp bi si (cpB nu (40 * t + g) (40 * sh + f) j) (mvA nu mo (40 * sh + f) n0.toNat) ik (-1) tl ta fr to va iw) (n0.toNat) (lv_eq (lv_sub hl [1, 2, 3, 4, 5, 6, 0] rfl) rfl) (va_eq hP rfl) (va_eqD hD rfl) hS (fun j hj ihj ls H locs hl hP hD hS => ?_) (fun ls H locs hl hP hD hS => ?_)
                          · have hl : lv_has ls 7 [(0, .ref (a 0)), (1, .int (iI sh)), (2, .int (iI f)), (3, .int (iI t)), (4, .int (iI g)), (5, .int (iI n0)), (6, .int (iI j))] := hl
                            have hP : va_P D vwCl (wM a k s kp ot sd st sp tp bi si (cpB nu (40 * t + g) (40 * sh + f) j) (mvA nu mo (40 * sh + f) n0.toNat) ik (-1) tl ta fr to va iw) H := hP
                            have hD : va_D _ (wM a k s kp ot sd st sp tp bi si (cpB nu (40 * t + g) (40 * sh + f) j) (mvA nu mo (40 * sh + f) n0.toNat) ik (-1) tl ta fr to va iw) := hD
                            refine r_iload C dX4_copy_157 (lv_at hl 6 rfl) ?_
                            refine r_iload C dX4_copy_159 (lv_at hl 5 rfl) ?_
                            refine r_icmp_ge C (tgt := 192) dX4_copy_161 (by decide) (by exact ⟨by omega, by omega⟩) (by exact ⟨by omega, by omega⟩) (fun h13 => ?_) (fun h13 => ?_)
                            · exfalso; omega
                            · refine r_aload_n C dX4_copy_164 rfl (lv_at hl 0 rfl) ?_
                              refine g_X4_41 C hP 0 rfl rfl dX4_copy_165 ?_
                              refine r_bipush C dX4_copy_168 (by decide) ?_
                              refine r_iload_n C dX4_copy_170 rfl (lv_at hl 3 rfl) ?_
                              refine r_imul C dX4_copy_171 ?_
                              refine r_iload C dX4_copy_172 (lv_at hl 4 rfl) ?_
                              refine r_iadd C dX4_copy_174 ?_
                              refine r_iload C dX4_copy_175 (lv_at hl 6 rfl) ?_
                              refine r_iadd C dX4_copy_177 ?_
                              refine r_aload_n C dX4_copy_178 rfl (lv_at hl 0 rfl) ?_
                              refine g_X4_45 C hP 0 rfl rfl dX4_copy_179 ?_
                              refine r_iload C dX4_copy_182 (lv_at hl 6 rfl) ?_
                              refine r_laldI C hP 11 rfl dX4_copy_184 (by omega) (by omega) (by decide) ?_
                              refine r_last C hP hD hS 10 (wM a k s kp ot sd st sp tp bi si (up (cpB nu (40 * t + g) (40 * sh + f) j) (((40 * t) + g) + j) ((mvA nu mo (40 * sh + f) n0.toNat) (j))) (mvA nu mo (40 * sh + f) n0.toNat) ik (-1) tl ta fr to va iw) rfl dX4_copy_185 (by omega) (by omega) (by decide) (by rw [lI_of]; rfl) (fun H locs hP hD hS => ?_)
                              refine r_iinc C 6 [(6, .int (iI (j + 1))), (0, .ref (a 0)), (1, .int (iI sh)), (2, .int (iI f)), (3, .int (iI t)), (4, .int (iI g)), (5, .int (iI n0))] dX4_copy_186 hl rfl (by decide) rfl (fun ls hl => ?_)
                              refine r_goto C (tgt := 157) dX4_copy_189 (by decide) ?_
                              have ew1 : wM a k s kp ot sd st sp tp bi si (up (cpB nu (40 * t + g) (40 * sh + f) j) (((40 * t) + g) + j) ((mvA nu mo (40 * sh + f) n0.toNat) (j))) (mvA nu mo (40 * sh + f) n0.toNat) ik (-1) tl ta fr to va iw = wM a k s kp ot sd st sp tp bi si (cpB nu (40 * t + g) (40 * sh + f) (j + 1)) (mvA nu mo (40 * sh + f) n0.toNat) ik (-1) tl ta fr to va iw := (by rw [cpB, mvA_at nu mo (40 * sh + f) hj])
                              exact ihj ls H locs (lv_eq (lv_sub hl [1, 2, 3, 4, 5, 6, 0] rfl) rfl) (va_eq hP ew1) (va_eqD hD ew1) hS
                          · have hl : lv_has ls 7 [(0, .ref (a 0)), (1, .int (iI sh)), (2, .int (iI f)), (3, .int (iI t)), (4, .int (iI g)), (5, .int (iI n0)), (6, .int (iI n0.toNat))] := hl
                            have hP : va_P D vwCl (wM a k s kp ot sd st sp tp bi si (cpB nu (40 * t + g) (40 * sh + f) n0.toNat) (mvA nu mo (40 * sh + f) n0.toNat) ik (-1) tl ta fr to va iw) H := hP
                            have hD : va_D _ (wM a k s kp ot sd st sp tp bi si (cpB nu (40 * t + g) (40 * sh + f) n0.toNat) (mvA nu mo (40 * sh + f) n0.toNat) ik (-1) tl ta fr to va iw) := hD
                            refine r_iload C dX4_copy_157 (lv_at hl 6 rfl) ?_
                            refine r_iload C dX4_copy_159 (lv_at hl 5 rfl) ?_
                            refine r_icmp_ge C (tgt := 192) dX4_copy_161 (by decide) (by exact ⟨by omega, by omega⟩) (by exact ⟨by omega, by omega⟩) (fun h14 => ?_) (fun h14 => ?_)
                            · refine r_iload C dX4_copy_192 (lv_at hl 5 rfl) ?_
                              exact r_iretE C hP hS (ot, sd, sp, mvA nu mo (40 * sh + f) n0.toNat, tl) (by first | (simp only [fCopy, fD, fV, h1, h2, h3, h4, eq_true h5, h6, h7, h8, h9, h10, h12, h14, not_true_eq_false, not_false_eq_true, and_true, true_and, and_false, false_and, or_true, true_or, or_false, false_or, if_true, if_false, ne_eq, reduceIte]; done) | (exfalso; omega)) (by first | (simp only [fCopy, fD, fV, h1, h2, h3, h4, eq_true h5, h6, h7, h8, h9, h10, h12, h14, not_true_eq_false, not_false_eq_true, and_true, true_and, and_false, false_and, or_true, true_or, or_false, false_or, if_true, if_false, ne_eq, reduceIte]; done) | (exfalso; omega)) dX4_copy_194
                            · exfalso; omega
                        · exfalso; omega
                    · refine r_aload_n C dX4_copy_110 rfl (lv_at hl 0 rfl) ?_
                      refine r_ldc C (-1000000001) ki_X4_48 (by decide) dX4_copy_111 ?_
                      refine r_cVW1 C m_X4_74 (cM_finds (by omega) (by omega)) hP hD hS [0, 1, 2, 3, 4, 5, 6, 7, 8, 9, 10, 11] (wM a k s kp ot sd (fnd st (-1000000001)) sp tp bi si nu mo ik (-1) tl ta fr to va iw) rfl rfl rfl rfl rfl rfl rfl hl.1 dX4_copy_113 (fun H locs hP hD hS => ?_)
                      exact r_iretE C hP hS (ot, sd, sp, mo, tl) (by first | (simp only [fCopy, fD, fV, h1, h2, h3, h4, eq_true h5, h6, h7, h8, h9, h10, not_true_eq_false, not_false_eq_true, and_true, true_and, and_false, false_and, or_true, true_or, or_false, false_or, if_true, if_false, ne_eq, reduceIte]; done) | (exfalso; omega)) (by first | (simp only [fCopy, fD, fV, h1, h2, h3, h4, eq_true h5, h6, h7, h8, h9, h10, not_true_eq_false, not_false_eq_true, and_true, true_and, and_false, false_and, or_true, true_or, or_false, false_or, if_true, if_false, ne_eq, reduceIte]; done) | (exfalso; omega)) dX4_copy_116
          · refine r_aload_n C dX4_copy_62 rfl (lv_at hl 0 rfl) ?_
            refine r_ldc C (-1000000003) ki_X4_121 (by decide) dX4_copy_63 ?_
            refine r_cVW1 C m_X4_74 (cM_finds (by omega) (by omega)) hP hD hS [0, 1, 2, 3, 4, 5, 6, 7, 8, 9, 10, 11] (wM a k s kp ot sd (fnd st (-1000000003)) sp tp bi si nu mo ik (-1) tl ta fr to va iw) rfl rfl rfl rfl rfl rfl rfl hl.1 dX4_copy_65 (fun H locs hP hD hS => ?_)
            exact r_iretE C hP hS (ot, sd, sp, mo, tl) (by first | (simp only [fCopy, fD, fV, h1, h2, h3, h4, h5, not_true_eq_false, not_false_eq_true, and_true, true_and, and_false, false_and, or_true, true_or, or_false, false_or, if_true, if_false, ne_eq, reduceIte]; done) | (exfalso; omega)) (by first | (simp only [fCopy, fD, fV, h1, h2, h3, h4, h5, not_true_eq_false, not_false_eq_true, and_true, true_and, and_false, false_and, or_true, true_or, or_false, false_or, if_true, if_false, ne_eq, reduceIte]; done) | (exfalso; omega)) dX4_copy_68
        · refine r_aload_n C dX4_copy_39 rfl (lv_at hl 0 rfl) ?_
          refine r_ldcw C (-1000000006) ki_X4_282 (by decide) dX4_copy_40 ?_
          refine r_cVW1 C m_X4_74 (cM_finds (by omega) (by omega)) hP hD hS [0, 1, 2, 3, 4, 5, 6, 7, 8, 9, 10, 11] (wM a k s kp ot sd (fnd st (-1000000006)) sp tp bi si nu mo ik (-1) tl ta fr to va iw) rfl rfl rfl rfl rfl rfl rfl hl.1 dX4_copy_43 (fun H locs hP hD hS => ?_)
          exact r_iretE C hP hS (ot, sd, sp, mo, tl) (by first | (simp only [fCopy, fD, fV, h1, h2, h3, eq_true h4, not_true_eq_false, not_false_eq_true, and_true, true_and, and_false, false_and, or_true, true_or, or_false, false_or, if_true, if_false, ne_eq, reduceIte]; done) | (exfalso; omega)) (by first | (simp only [fCopy, fD, fV, h1, h2, h3, eq_true h4, not_true_eq_false, not_false_eq_true, and_true, true_and, and_false, false_and, or_true, true_or, or_false, false_or, if_true, if_false, ne_eq, reduceIte]; done) | (exfalso; omega)) dX4_copy_46
    · refine r_aload_n C dX4_copy_14 rfl (lv_at hl 0 rfl) ?_
      refine r_ldc C (-1000000001) ki_X4_48 (by decide) dX4_copy_15 ?_
      refine r_cVW1 C m_X4_74 (cM_finds (by omega) (by omega)) hP hD hS [0, 1, 2, 3, 4, 5, 6, 7, 8, 9, 10, 11] (wM a k s kp ot sd (fnd st (-1000000001)) sp tp bi si nu mo ik (-1) tl ta fr to va iw) rfl rfl rfl rfl rfl rfl rfl hl.1 dX4_copy_17 (fun H locs hP hD hS => ?_)
      exact r_iretE C hP hS (ot, sd, sp, mo, tl) (by first | (simp only [fCopy, fD, fV, h1, h2, not_true_eq_false, not_false_eq_true, and_true, true_and, and_false, false_and, or_true, true_or, or_false, false_or, if_true, if_false, ne_eq, reduceIte]; done) | (exfalso; omega)) (by first | (simp only [fCopy, fD, fV, h1, h2, not_true_eq_false, not_false_eq_true, and_true, true_and, and_false, false_and, or_true, true_or, or_false, false_or, if_true, if_false, ne_eq, reduceIte]; done) | (exfalso; omega)) dX4_copy_20
set_option maxHeartbeats 4000000 in
set_option maxRecDepth 100000 in
theorem cM_lays {sh : Int} (zsh : In32 sh) (hs : Ok s) (hbi : ∀ i, 0 ≤ bi i ∧ bi i ≤ 64) (hsi : ∀ i, 0 ≤ si i ∧ si i ≤ 40) : ME l yX4_lays cX4_lays 6 (some .int) 3 66 D k [.ref (a 0), .int (iI sh)] (wM a k s kp ot sd st sp tp bi si nu mo ik (-1) tl ta fr to va iw) (fun x : (Int → Int) × (Int → Int) × (Int → Int) × (Int → Int64) × Int => wM a k ((fLays s st bi si nu sh).2.1) kp x.1 x.2.1 ((fLays s st bi si nu sh).2.2) x.2.2.1 tp bi si nu x.2.2.2.1 ik (-1) x.2.2.2.2 ta fr to va iw) (some (.int (iI ((fLays s st bi si nu sh).1)))) := by
  refine ME.mk RX4 rfl (by decide +kernel) (Nat.le_of_ble_eq_true rfl) (fun p e U m0 below meth cd ls C hP hD hS hl => ?_)
  have hl : lv_has ls 6 [(0, .ref (a 0)), (1, .int (iI sh))] := hl
  have zsh1 := zsh.1
  have zsh2 := zsh.2
  have h00 := hs.1 0 (by decide)
  have h06 := hs.2.2.1
  have h99 := wsh_rg bi sh
  have h98 := hsi sh
  refine r_aload_n C dX4_lays_0 rfl (lv_at hl 0 rfl) ?_
  refine r_iload_n C dX4_lays_1 rfl (lv_at hl 1 rfl) ?_
  refine r_cVR1 C m_X4_283 (cM_wrongSheet (by exact ⟨by omega, by omega⟩) hbi) hP rfl rfl hl.1 dX4_lays_2 ?_
  refine r_istore_n C [(2, .int (iI (wsh bi sh))), (0, .ref (a 0)), (1, .int (iI sh))] dX4_lays_5 rfl hl (by decide) rfl (fun ls hl => ?_)
  refine r_iload_n C dX4_lays_6 rfl (lv_at hl 0 rfl) ?_
  refine r_if_eq C (tgt := 16) dX4_lays_7 (by decide) (by have := wsh_rg bi sh; exact ⟨by omega, by omega⟩) (fun h1 => ?_) (fun h1 => ?_)
  · refine r_iconst C dX4_lays_16 ?_
    refine r_istore_n C [(3, .int (iI 0)), (2, .int (iI (wsh bi sh))), (0, .ref (a 0)), (1, .int (iI sh))] dX4_lays_17 rfl hl (by decide) rfl (fun ls hl => ?_)
    refine r_iconst C dX4_lays_18 ?_
    refine r_istore C [(4, .int (iI 0)), (3, .int (iI 0)), (2, .int (iI (wsh bi sh))), (0, .ref (a 0)), (1, .int (iI sh))] dX4_lays_19 hl (by decide) rfl (fun ls hl => ?_)
    refine r_loopW (fun n : Nat => [(0, .ref (a 0)), (1, .int (iI sh)), (3, .int (iI (lyN nu sh n))), (4, .int (iI n))]) (fun n : Nat => wM a k (lyS s nu sh n) kp ot sd st sp tp bi si nu mo ik (-1) tl ta fr to va iw) ((si sh).toNat) (lv_eq (lv_sub hl [3, 4, 1, 0] rfl) rfl) (va_eq hP rfl) (va_eqD hD rfl) hS (fun n hn ihn ls H locs hl hP hD hS => ?_) (fun ls H locs hl hP hD hS => ?_)
    · have hl : lv_has ls 6 [(0, .ref (a 0)), (1, .int (iI sh)), (3, .int (iI (lyN nu sh n))), (4, .int (iI n))] := hl
      have hP : va_P D vwCl (wM a k (lyS s nu sh n) kp ot sd st sp tp bi si nu mo ik (-1) tl ta fr to va iw) H := hP
      have hD : va_D _ (wM a k (lyS s nu sh n) kp ot sd st sp tp bi si nu mo ik (-1) tl ta fr to va iw) := hD
      have hsl : Ok (lyS s nu sh n) := ok_lyS hs nu sh n (by omega)
      refine r_iload C dX4_lays_21 (lv_at hl 3 rfl) ?_
      refine r_aload_n C dX4_lays_23 rfl (lv_at hl 0 rfl) ?_
      refine g_X4_38 C hP 0 rfl rfl dX4_lays_24 ?_
      refine r_iload_n C dX4_lays_27 rfl (lv_at hl 1 rfl) ?_
      refine r_iald C hP 9 rfl dX4_lays_28 (by omega) (by omega) (by decide) ?_
      refine r_icmp_ge C (tgt := 113) dX4_lays_29 (by decide) (by exact ⟨by omega, by omega⟩) (by have := hsi (sh); exact ⟨by omega, by omega⟩) (fun h2 => ?_) (fun h2 => ?_)
      · exfalso; omega
      · refine r_aload_n C dX4_lays_32 rfl (lv_at hl 0 rfl) ?_
        refine g_X4_41 C hP 0 rfl rfl dX4_lays_33 ?_
        refine r_bipush C dX4_lays_36 (by decide) ?_
        refine r_iload_n C dX4_lays_38 rfl (lv_at hl 1 rfl) ?_
        refine r_imul C dX4_lays_39 ?_
        refine r_iload C dX4_lays_40 (lv_at hl 3 rfl) ?_
        refine r_iadd C dX4_lays_42 ?_
        refine r_laldI C hP 10 rfl dX4_lays_43 (by omega) (by omega) (by decide) ?_
        refine r_lconst C (z := 0) dX4_lays_44 (by decide) ?_
        refine r_ldc2 C (5) kl_X4_55 (by decide) dX4_lays_45 ?_
        refine r_cSR3 C m_X4_51 (cM_in (by have := in64_rg (nu ((40 * sh) + n)); exact ⟨by omega, by omega⟩) ⟨by decide, by decide⟩ ⟨by decide, by decide⟩) pn0 hl.1 dX4_lays_48 ?_
        refine r_istore C [(5, .int (iB (0 ≤ ((nu ((40 * sh) + n)).toInt) ∧ ((nu ((40 * sh) + n)).toInt) ≤ 5))), (0, .ref (a 0)), (1, .int (iI sh)), (3, .int (iI (lyN nu sh n))), (4, .int (iI n))] dX4_lays_51 hl (by decide) rfl (fun ls hl => ?_)
        refine r_aload_n C dX4_lays_53 rfl (lv_at hl 1 rfl) ?_
        refine g_X4_7 C hP 0 rfl rfl dX4_lays_54 ?_
        refine r_bipush C dX4_lays_57 (by decide) ?_
        refine r_iload C dX4_lays_59 (lv_at hl 4 rfl) ?_
        refine r_iadd C dX4_lays_61 ?_
        refine r_iload C dX4_lays_62 (lv_at hl 0 rfl) ?_
        refine r_ifB_eq C (tgt := 83) dX4_lays_64 (by decide) (fun h3 => ?_) (fun h3 => ?_)
        · refine r_aload_n C dX4_lays_83 rfl (lv_at hl 1 rfl) ?_
          refine g_X4_7 C hP 0 rfl rfl dX4_lays_84 ?_
          refine r_bipush C dX4_lays_87 (by decide) ?_
          refine r_iload C dX4_lays_89 (lv_at hl 4 rfl) ?_
          refine r_iadd C dX4_lays_91 ?_
          refine r_iald C hP 1 rfl dX4_lays_92 (by omega) (by omega) (by decide) ?_
          refine r_iast C hP hD hS 1 (wM a k (up (lyS s nu sh n) (51 + n) ((lyS s nu sh n) (51 + n))) kp ot sd st sp tp bi si nu mo ik (-1) tl ta fr to va iw) rfl dX4_lays_93 (by omega) (by omega) (by decide) rfl (fun H locs hP hD hS => ?_)
          have hs1 : Ok (up (lyS s nu sh n) (51 + n) ((lyS s nu sh n) (51 + n))) := ok_up hsl ⟨by have := hsl.1 (51 + n) (by omega); omega, by have := hsl.1 (51 + n) (by omega); omega⟩ ⟨by have := hsl.1 (51 + n) (by omega); omega, by have := hsl.1 (51 + n) (by omega); omega⟩ (fun _ => by have := hsl.1 (51 + n) (by omega); omega) (fun _ _ _ _ => by have := hsl.1 (51 + n) (by omega); omega)
          refine r_iload_n C dX4_lays_94 rfl (lv_at hl 3 rfl) ?_
          refine r_iload C dX4_lays_95 (lv_at hl 0 rfl) ?_
          refine r_ifB_eq C (tgt := 104) dX4_lays_97 (by decide) (fun h4 => ?_) (fun h4 => ?_)
          · refine r_iconst C dX4_lays_104 ?_
            refine r_iadd C dX4_lays_105 ?_
            refine r_istore_n C [(3, .int (iI ((lyN nu sh n) + 0))), (5, .int (iB (0 ≤ ((nu ((40 * sh) + n)).toInt) ∧ ((nu ((40 * sh) + n)).toInt) ≤ 5))), (0, .ref (a 0)), (1, .int (iI sh)), (4, .int (iI n))] dX4_lays_106 rfl hl (by decide) rfl (fun ls hl => ?_)
            refine r_iinc C 4 [(4, .int (iI (n + 1))), (3, .int (iI ((lyN nu sh n) + 0))), (5, .int (iB (0 ≤ ((nu ((40 * sh) + n)).toInt) ∧ ((nu ((40 * sh) + n)).toInt) ≤ 5))), (0, .ref (a 0)), (1, .int (iI sh))] dX4_lays_107 hl rfl (by decide) rfl (fun ls hl => ?_)
            refine r_goto C (tgt := 21) dX4_lays_110 (by decide) ?_
            have ew2 : wM a k (up (lyS s nu sh n) (51 + n) ((lyS s nu sh n) (51 + n))) kp ot sd st sp tp bi si nu mo ik (-1) tl ta fr to va iw = wM a k (lyS s nu sh (n + 1)) kp ot sd st sp tp bi si nu mo ik (-1) tl ta fr to va iw := (by first | (simp only [lyS, eq_true h1, h2, h3, h4, not_true_eq_false, not_false_eq_true, and_true, true_and, and_false, false_and, or_true, true_or, or_false, false_or, if_true, if_false, ne_eq, reduceIte]; done) | (exfalso; omega))
            exact ihn ls H locs (lv_eq (lv_sub hl [3, 4, 1, 0] rfl) (by first | (simp only [lyN, eq_true h1, h2, h3, h4, not_true_eq_false, not_false_eq_true, and_true, true_and, and_false, false_and, or_true, true_or, or_false, false_or, if_true, if_false, ne_eq, reduceIte]; rfl) | (exfalso; omega))) (va_eq hP ew2) (va_eqD hD ew2) hS
          · refine r_iconst C dX4_lays_100 ?_
            refine r_goto C (tgt := 105) dX4_lays_101 (by decide) ?_
            refine r_iadd C dX4_lays_105 ?_
            refine r_istore_n C [(3, .int (iI ((lyN nu sh n) + 1))), (5, .int (iB (0 ≤ ((nu ((40 * sh) + n)).toInt) ∧ ((nu ((40 * sh) + n)).toInt) ≤ 5))), (0, .ref (a 0)), (1, .int (iI sh)), (4, .int (iI n))] dX4_lays_106 rfl hl (by decide) rfl (fun ls hl => ?_)
            refine r_iinc C 4 [(4, .int (iI (n + 1))), (3, .int (iI ((lyN nu sh n) + 1))), (5, .int (iB (0 ≤ ((nu ((40 * sh) + n)).toInt) ∧ ((nu ((40 * sh) + n)).toInt) ≤ 5))), (0, .ref (a 0)), (1, .int (iI sh))] dX4_lays_107 hl rfl (by decide) rfl (fun ls hl => ?_)
            refine r_goto C (tgt := 21) dX4_lays_110 (by decide) ?_
            have ew3 : wM a k (up (lyS s nu sh n) (51 + n) ((lyS s nu sh n) (51 + n))) kp ot sd st sp tp bi si nu mo ik (-1) tl ta fr to va iw = wM a k (lyS s nu sh (n + 1)) kp ot sd st sp tp bi si nu mo ik (-1) tl ta fr to va iw := (by first | (simp only [lyS, eq_true h1, h2, h3, h4, not_true_eq_false, not_false_eq_true, and_true, true_and, and_false, false_and, or_true, true_or, or_false, false_or, if_true, if_false, ne_eq, reduceIte]; done) | (exfalso; omega))
            exact ihn ls H locs (lv_eq (lv_sub hl [3, 4, 1, 0] rfl) (by first | (simp only [lyN, eq_true h1, h2, h3, h4, not_true_eq_false, not_false_eq_true, and_true, true_and, and_false, false_and, or_true, true_or, or_false, false_or, if_true, if_false, ne_eq, reduceIte]; rfl) | (exfalso; omega))) (va_eq hP ew3) (va_eqD hD ew3) hS
        · refine r_aload_n C dX4_lays_67 rfl (lv_at hl 1 rfl) ?_
          refine g_X4_41 C hP 0 rfl rfl dX4_lays_68 ?_
          refine r_bipush C dX4_lays_71 (by decide) ?_
          refine r_iload_n C dX4_lays_73 rfl (lv_at hl 2 rfl) ?_
          refine r_imul C dX4_lays_74 ?_
          refine r_iload C dX4_lays_75 (lv_at hl 4 rfl) ?_
          refine r_iadd C dX4_lays_77 ?_
          refine r_laldI C hP 10 rfl dX4_lays_78 (by omega) (by omega) (by decide) ?_
          refine r_l2i C dX4_lays_79 ?_
          refine r_goto C (tgt := 93) dX4_lays_80 (by decide) ?_
          refine r_iast C hP hD hS 1 (wM a k (up (lyS s nu sh n) (51 + n) ((nu ((40 * sh) + n)).toInt)) kp ot sd st sp tp bi si nu mo ik (-1) tl ta fr to va iw) rfl dX4_lays_93 (by omega) (by omega) (by decide) rfl (fun H locs hP hD hS => ?_)
          have hs4 : Ok (up (lyS s nu sh n) (51 + n) ((nu ((40 * sh) + n)).toInt)) := ok_up hsl ⟨by have := in64_rg (nu ((40 * sh) + n)); omega, by have := in64_rg (nu ((40 * sh) + n)); omega⟩ ⟨by have := in64_rg (nu ((40 * sh) + n)); omega, by have := in64_rg (nu ((40 * sh) + n)); omega⟩ (fun _ => by have := in64_rg (nu ((40 * sh) + n)); omega) (fun _ _ _ _ => by have := in64_rg (nu ((40 * sh) + n)); omega)
          refine r_iload_n C dX4_lays_94 rfl (lv_at hl 3 rfl) ?_
          refine r_iload C dX4_lays_95 (lv_at hl 0 rfl) ?_
          refine r_ifB_eq C (tgt := 104) dX4_lays_97 (by decide) (fun h5 => ?_) (fun h5 => ?_)
          · refine r_iconst C dX4_lays_104 ?_
            refine r_iadd C dX4_lays_105 ?_
            refine r_istore_n C [(3, .int (iI ((lyN nu sh n) + 0))), (5, .int (iB (0 ≤ ((nu ((40 * sh) + n)).toInt) ∧ ((nu ((40 * sh) + n)).toInt) ≤ 5))), (0, .ref (a 0)), (1, .int (iI sh)), (4, .int (iI n))] dX4_lays_106 rfl hl (by decide) rfl (fun ls hl => ?_)
            refine r_iinc C 4 [(4, .int (iI (n + 1))), (3, .int (iI ((lyN nu sh n) + 0))), (5, .int (iB (0 ≤ ((nu ((40 * sh) + n)).toInt) ∧ ((nu ((40 * sh) + n)).toInt) ≤ 5))), (0, .ref (a 0)), (1, .int (iI sh))] dX4_lays_107 hl rfl (by decide) rfl (fun ls hl => ?_)
            refine r_goto C (tgt := 21) dX4_lays_110 (by decide) ?_
            have ew5 : wM a k (up (lyS s nu sh n) (51 + n) ((nu ((40 * sh) + n)).toInt)) kp ot sd st sp tp bi si nu mo ik (-1) tl ta fr to va iw = wM a k (lyS s nu sh (n + 1)) kp ot sd st sp tp bi si nu mo ik (-1) tl ta fr to va iw := (by first | (simp only [lyS, eq_true h1, h2, h3, h5, not_true_eq_false, not_false_eq_true, and_true, true_and, and_false, false_and, or_true, true_or, or_false, false_or, if_true, if_false, ne_eq, reduceIte]; done) | (exfalso; omega))
            exact ihn ls H locs (lv_eq (lv_sub hl [3, 4, 1, 0] rfl) (by first | (simp only [lyN, eq_true h1, h2, h3, h5, not_true_eq_false, not_false_eq_true, and_true, true_and, and_false, false_and, or_true, true_or, or_false, false_or, if_true, if_false, ne_eq, reduceIte]; rfl) | (exfalso; omega))) (va_eq hP ew5) (va_eqD hD ew5) hS
          · refine r_iconst C dX4_lays_100 ?_
            refine r_goto C (tgt := 105) dX4_lays_101 (by decide) ?_
            refine r_iadd C dX4_lays_105 ?_
            refine r_istore_n C [(3, .int (iI ((lyN nu sh n) + 1))), (5, .int (iB (0 ≤ ((nu ((40 * sh) + n)).toInt) ∧ ((nu ((40 * sh) + n)).toInt) ≤ 5))), (0, .ref (a 0)), (1, .int (iI sh)), (4, .int (iI n))] dX4_lays_106 rfl hl (by decide) rfl (fun ls hl => ?_)
            refine r_iinc C 4 [(4, .int (iI (n + 1))), (3, .int (iI ((lyN nu sh n) + 1))), (5, .int (iB (0 ≤ ((nu ((40 * sh) + n)).toInt) ∧ ((nu ((40 * sh) + n)).toInt) ≤ 5))), (0, .ref (a 0)), (1, .int (iI sh))] dX4_lays_107 hl rfl (by decide) rfl (fun ls hl => ?_)
            refine r_goto C (tgt := 21) dX4_lays_110 (by decide) ?_
            have ew6 : wM a k (up (lyS s nu sh n) (51 + n) ((nu ((40 * sh) + n)).toInt)) kp ot sd st sp tp bi si nu mo ik (-1) tl ta fr to va iw = wM a k (lyS s nu sh (n + 1)) kp ot sd st sp tp bi si nu mo ik (-1) tl ta fr to va iw := (by first | (simp only [lyS, eq_true h1, h2, h3, h5, not_true_eq_false, not_false_eq_true, and_true, true_and, and_false, false_and, or_true, true_or, or_false, false_or, if_true, if_false, ne_eq, reduceIte]; done) | (exfalso; omega))
            exact ihn ls H locs (lv_eq (lv_sub hl [3, 4, 1, 0] rfl) (by first | (simp only [lyN, eq_true h1, h2, h3, h5, not_true_eq_false, not_false_eq_true, and_true, true_and, and_false, false_and, or_true, true_or, or_false, false_or, if_true, if_false, ne_eq, reduceIte]; rfl) | (exfalso; omega))) (va_eq hP ew6) (va_eqD hD ew6) hS
    · have hl : lv_has ls 6 [(0, .ref (a 0)), (1, .int (iI sh)), (3, .int (iI (lyN nu sh (si sh).toNat))), (4, .int (iI ((si sh).toNat)))] := hl
      have hP : va_P D vwCl (wM a k (lyS s nu sh (si sh).toNat) kp ot sd st sp tp bi si nu mo ik (-1) tl ta fr to va iw) H := hP
      have hD : va_D _ (wM a k (lyS s nu sh (si sh).toNat) kp ot sd st sp tp bi si nu mo ik (-1) tl ta fr to va iw) := hD
      have hsl : Ok (lyS s nu sh (si sh).toNat) := ok_lyS hs nu sh ((si sh).toNat) (by omega)
      refine r_iload C dX4_lays_21 (lv_at hl 3 rfl) ?_
      refine r_aload_n C dX4_lays_23 rfl (lv_at hl 0 rfl) ?_
      refine g_X4_38 C hP 0 rfl rfl dX4_lays_24 ?_
      refine r_iload_n C dX4_lays_27 rfl (lv_at hl 1 rfl) ?_
      refine r_iald C hP 9 rfl dX4_lays_28 (by omega) (by omega) (by decide) ?_
      refine r_icmp_ge C (tgt := 113) dX4_lays_29 (by decide) (by exact ⟨by omega, by omega⟩) (by have := hsi (sh); exact ⟨by omega, by omega⟩) (fun h6 => ?_) (fun h6 => ?_)
      · refine r_iload_n C dX4_lays_113 rfl (lv_at hl 2 rfl) ?_
        exact r_iretE C hP hS (ot, sd, sp, mo, tl) (by first | (simp only [fLays, fD, fV, eq_true h1, h6, not_true_eq_false, not_false_eq_true, and_true, true_and, and_false, false_and, or_true, true_or, or_false, false_or, if_true, if_false, ne_eq, reduceIte]; done) | (exfalso; omega)) (by first | (simp only [fLays, fD, fV, eq_true h1, h6, not_true_eq_false, not_false_eq_true, and_true, true_and, and_false, false_and, or_true, true_or, or_false, false_or, if_true, if_false, ne_eq, reduceIte]; done) | (exfalso; omega)) dX4_lays_114
      · exfalso; omega
  · refine r_aload_n C dX4_lays_10 rfl (lv_at hl 1 rfl) ?_
    refine r_iload_n C dX4_lays_11 rfl (lv_at hl 0 rfl) ?_
    refine r_cVW1 C m_X4_74 (cM_finds (by have := wsh_rg bi sh; omega) (by have := wsh_rg bi sh; omega)) hP hD hS [0, 1, 2, 3, 4, 5, 6, 7, 8, 9, 10, 11] (wM a k s kp ot sd (fnd st (wsh bi sh)) sp tp bi si nu mo ik (-1) tl ta fr to va iw) rfl rfl rfl rfl rfl rfl rfl hl.1 dX4_lays_12 (fun H locs hP hD hS => ?_)
    exact r_iretE C hP hS (ot, sd, sp, mo, tl) (by first | (simp only [fLays, fD, fV, h1, not_true_eq_false, not_false_eq_true, and_true, true_and, and_false, false_and, or_true, true_or, or_false, false_or, if_true, if_false, ne_eq, reduceIte]; done) | (exfalso; omega)) (by first | (simp only [fLays, fD, fV, h1, not_true_eq_false, not_false_eq_true, and_true, true_and, and_false, false_and, or_true, true_or, or_false, false_or, if_true, if_false, ne_eq, reduceIte]; done) | (exfalso; omega)) dX4_lays_15
set_option maxHeartbeats 4000000 in
set_option maxRecDepth 100000 in
theorem cM_book {sh : Int} (zsh : In32 sh) (hs : Ok s) (hbi : ∀ i, 0 ≤ bi i ∧ bi i ≤ 64) (hsi : ∀ i, 0 ≤ si i ∧ si i ≤ 40) : ME l yX4_book cX4_book 4 (some .int) 5 122 D k [.ref (a 0), .int (iI sh)] (wM a k s kp ot sd st sp tp bi si nu mo ik (-1) tl ta fr to va iw) (fun x : (Int → Int) × (Int → Int) × (Int → Int) × (Int → Int64) × Int => wM a k s kp x.1 x.2.1 ((fBook s st bi si nu sh).2.1) x.2.2.1 tp bi si ((fBook s st bi si nu sh).2.2) x.2.2.2.1 ik (-1) x.2.2.2.2 ta fr to va iw) (some (.int (iI ((fBook s st bi si nu sh).1)))) := by
  refine ME.mk RX4 rfl (by decide +kernel) (Nat.le_of_ble_eq_true rfl) (fun p e U m0 below meth cd ls C hP hD hS hl => ?_)
  have hl : lv_has ls 4 [(0, .ref (a 0)), (1, .int (iI sh))] := hl
  have zsh1 := zsh.1
  have zsh2 := zsh.2
  have h00 := hs.1 0 (by decide)
  have h06 := hs.2.2.1
  have h99 := wsh_rg bi sh
  have h98 := hsi sh
  refine r_aload_n C dX4_book_0 rfl (lv_at hl 0 rfl) ?_
  refine r_iload_n C dX4_book_1 rfl (lv_at hl 1 rfl) ?_
  refine r_cVR1 C m_X4_283 (cM_wrongSheet (by exact ⟨by omega, by omega⟩) hbi) hP rfl rfl hl.1 dX4_book_2 ?_
  refine r_istore_n C [(2, .int (iI (wsh bi sh))), (0, .ref (a 0)), (1, .int (iI sh))] dX4_book_5 rfl hl (by decide) rfl (fun ls hl => ?_)
  refine r_iload_n C dX4_book_6 rfl (lv_at hl 0 rfl) ?_
  refine r_if_eq C (tgt := 16) dX4_book_7 (by decide) (by have := wsh_rg bi sh; exact ⟨by omega, by omega⟩) (fun h1 => ?_) (fun h1 => ?_)
  · refine r_aload_n C dX4_book_16 rfl (lv_at hl 1 rfl) ?_
    refine r_cVW0 C m_X4_149 cM_laysAside hP hD hS [0, 1, 2, 3, 4, 5, 6, 7, 8, 9, 10, 11] (wM a k s kp ot (cpN s sd 123) st sp tp bi si nu mo ik (-1) tl ta fr to va iw) rfl rfl rfl rfl rfl rfl rfl hl.1 dX4_book_17 (fun H locs hP hD hS => ?_)
    refine r_iconst C dX4_book_20 ?_
    refine r_istore_n C [(3, .int (iI 0)), (2, .int (iI (wsh bi sh))), (0, .ref (a 0)), (1, .int (iI sh))] dX4_book_21 rfl hl (by decide) rfl (fun ls hl => ?_)
    refine r_loopW (fun n : Nat => [(0, .ref (a 0)), (1, .int (iI sh)), (3, .int (iI n))]) (fun n : Nat => wM a k (ysN s (-1) n) kp ot (cpN s sd 123) st sp tp bi si (bkN s nu sh (bi sh) n) mo ik (-1) tl ta fr to va iw) ((si sh).toNat) (lv_eq (lv_sub hl [2, 3, 0] rfl) rfl) (va_eq hP rfl) (va_eqD hD rfl) hS (fun n hn ihn ls H locs hl hP hD hS => ?_) (fun ls H locs hl hP hD hS => ?_)
    · have hl : lv_has ls 4 [(0, .ref (a 0)), (1, .int (iI sh)), (3, .int (iI n))] := hl
      have hP : va_P D vwCl (wM a k (ysN s (-1) n) kp ot (cpN s sd 123) st sp tp bi si (bkN s nu sh (bi sh) n) mo ik (-1) tl ta fr to va iw) H := hP
      have hD : va_D _ (wM a k (ysN s (-1) n) kp ot (cpN s sd 123) st sp tp bi si (bkN s nu sh (bi sh) n) mo ik (-1) tl ta fr to va iw) := hD
      have hsl : Ok (ysN s (-1) n) := ok_ysN hs (-1) n
      refine r_iload_n C dX4_book_22 rfl (lv_at hl 2 rfl) ?_
      refine r_aload_n C dX4_book_23 rfl (lv_at hl 0 rfl) ?_
      refine g_X4_38 C hP 0 rfl rfl dX4_book_24 ?_
      refine r_iload_n C dX4_book_27 rfl (lv_at hl 1 rfl) ?_
      refine r_iald C hP 9 rfl dX4_book_28 (by omega) (by omega) (by decide) ?_
      refine r_icmp_ge C (tgt := 67) dX4_book_29 (by decide) (by exact ⟨by omega, by omega⟩) (by have := hsi (sh); exact ⟨by omega, by omega⟩) (fun h2 => ?_) (fun h2 => ?_)
      · exfalso; omega
      · refine r_aload_n C dX4_book_32 rfl (lv_at hl 0 rfl) ?_
        refine g_X4_41 C hP 0 rfl rfl dX4_book_33 ?_
        refine r_bipush C dX4_book_36 (by decide) ?_
        refine r_iload_n C dX4_book_38 rfl (lv_at hl 1 rfl) ?_
        refine r_imul C dX4_book_39 ?_
        refine r_iload_n C dX4_book_40 rfl (lv_at hl 2 rfl) ?_
        refine r_iadd C dX4_book_41 ?_
        refine r_aload_n C dX4_book_42 rfl (lv_at hl 0 rfl) ?_
        refine g_X4_35 C hP 0 rfl rfl dX4_book_43 ?_
        refine r_iload_n C dX4_book_46 rfl (lv_at hl 1 rfl) ?_
        refine r_iald C hP 8 rfl dX4_book_47 (by omega) (by omega) (by decide) ?_
        refine r_aload_n C dX4_book_48 rfl (lv_at hl 0 rfl) ?_
        refine r_cVR0 C m_X4_131 (cM_wrongMany hsl) hP rfl rfl hl.1 dX4_book_49 ?_
        refine r_i2l C dX4_book_52 (by have := wrongMany_rg ((ysN s (-1) n)); exact ⟨by omega, by omega⟩) ?_
        refine r_cSR2 C m_X4_286 (cM_narrowed (by have := hbi (sh); omega) (by have := hbi (sh); omega)) pn0 hl.1 dX4_book_53 ?_
        refine r_last C hP hD hS 10 (wM a k (ysN s (-1) n) kp ot (cpN s sd 123) st sp tp bi si (up (bkN s nu sh (bi sh) n) ((40 * sh) + n) (lI (nrw (bi (sh)) (wrongMany (ysN s (-1) n))))) mo ik (-1) tl ta fr to va iw) rfl dX4_book_56 (by omega) (by omega) (by decide) rfl (fun H locs hP hD hS => ?_)
        refine r_aload_n C dX4_book_57 rfl (lv_at hl 0 rfl) ?_
        refine r_cVW0 C m_X4_135 (cM_year hsl (by exact ⟨by omega, by omega⟩)) hP hD hS [0, 1, 2, 3, 4, 5, 6, 7, 8, 9, 10, 11] (wM a k (year (ysN s (-1) n) (-1)) kp ot (cpN s sd 123) st sp tp bi si (up (bkN s nu sh (bi sh) n) ((40 * sh) + n) (lI (nrw (bi (sh)) (wrongMany (ysN s (-1) n))))) mo ik (-1) tl ta fr to va iw) rfl rfl rfl rfl rfl rfl rfl hl.1 dX4_book_58 (fun H locs hP hD hS => ?_)
        have hs1 : Ok (year (ysN s (-1) n) (-1)) := ok_yearS hsl ((-1))
        refine r_iinc C 2 [(3, .int (iI (n + 1))), (0, .ref (a 0)), (1, .int (iI sh))] dX4_book_61 hl rfl (by decide) rfl (fun ls hl => ?_)
        refine r_goto C (tgt := 22) dX4_book_64 (by decide) ?_
        exact ihn ls H locs (lv_eq (lv_sub hl [1, 2, 0] rfl) rfl) (va_eq hP rfl) (va_eqD hD rfl) hS
    · have hl : lv_has ls 4 [(0, .ref (a 0)), (1, .int (iI sh)), (3, .int (iI ((si sh).toNat)))] := hl
      have hP : va_P D vwCl (wM a k (ysN s (-1) (si sh).toNat) kp ot (cpN s sd 123) st sp tp bi si (bkN s nu sh (bi sh) (si sh).toNat) mo ik (-1) tl ta fr to va iw) H := hP
      have hD : va_D _ (wM a k (ysN s (-1) (si sh).toNat) kp ot (cpN s sd 123) st sp tp bi si (bkN s nu sh (bi sh) (si sh).toNat) mo ik (-1) tl ta fr to va iw) := hD
      have hsl : Ok (ysN s (-1) (si sh).toNat) := ok_ysN hs (-1) ((si sh).toNat)
      refine r_iload_n C dX4_book_22 rfl (lv_at hl 2 rfl) ?_
      refine r_aload_n C dX4_book_23 rfl (lv_at hl 0 rfl) ?_
      refine g_X4_38 C hP 0 rfl rfl dX4_book_24 ?_
      refine r_iload_n C dX4_book_27 rfl (lv_at hl 1 rfl) ?_
      refine r_iald C hP 9 rfl dX4_book_28 (by omega) (by omega) (by decide) ?_
      refine r_icmp_ge C (tgt := 67) dX4_book_29 (by decide) (by exact ⟨by omega, by omega⟩) (by have := hsi (sh); exact ⟨by omega, by omega⟩) (fun h3 => ?_) (fun h3 => ?_)
      · refine r_aload_n C dX4_book_67 rfl (lv_at hl 0 rfl) ?_
        refine r_aload_n C dX4_book_68 rfl (lv_at hl 0 rfl) ?_
        refine g_X4_38 C hP 0 rfl rfl dX4_book_69 ?_
        refine r_iload_n C dX4_book_72 rfl (lv_at hl 1 rfl) ?_
        refine r_iald C hP 9 rfl dX4_book_73 (by omega) (by omega) (by decide) ?_
        refine r_cVW1 C m_X4_152 (cM_takesBack2 hs.2.1 hsl.2.1) hP hD hS [0, 1, 2, 3, 4, 5, 6, 7, 8, 9, 10, 11] (wM a k s kp ot (cpN s sd 123) st sp tp bi si (bkN s nu sh (bi sh) (si sh).toNat) mo ik (-1) tl ta fr to va iw) rfl rfl rfl rfl rfl rfl rfl hl.1 dX4_book_74 (fun H locs hP hD hS => ?_)
        exact r_iretE C hP hS (ot, cpN s sd 123, sp, mo, tl) (by first | (simp only [fBook, fD, fV, eq_true h1, h3, not_true_eq_false, not_false_eq_true, and_true, true_and, and_false, false_and, or_true, true_or, or_false, false_or, if_true, if_false, ne_eq, reduceIte]; done) | (exfalso; omega)) (by first | (simp only [fBook, fD, fV, eq_true h1, h3, not_true_eq_false, not_false_eq_true, and_true, true_and, and_false, false_and, or_true, true_or, or_false, false_or, if_true, if_false, ne_eq, reduceIte]; done) | (exfalso; omega)) dX4_book_77
      · exfalso; omega
  · refine r_aload_n C dX4_book_10 rfl (lv_at hl 1 rfl) ?_
    refine r_iload_n C dX4_book_11 rfl (lv_at hl 0 rfl) ?_
    refine r_cVW1 C m_X4_74 (cM_finds (by have := wsh_rg bi sh; omega) (by have := wsh_rg bi sh; omega)) hP hD hS [0, 1, 2, 3, 4, 5, 6, 7, 8, 9, 10, 11] (wM a k s kp ot sd (fnd st (wsh bi sh)) sp tp bi si nu mo ik (-1) tl ta fr to va iw) rfl rfl rfl rfl rfl rfl rfl hl.1 dX4_book_12 (fun H locs hP hD hS => ?_)
    exact r_iretE C hP hS (ot, sd, sp, mo, tl) (by first | (simp only [fBook, fD, fV, h1, not_true_eq_false, not_false_eq_true, and_true, true_and, and_false, false_and, or_true, true_or, or_false, false_or, if_true, if_false, ne_eq, reduceIte]; done) | (exfalso; omega)) (by first | (simp only [fBook, fD, fV, h1, not_true_eq_false, not_false_eq_true, and_true, true_and, and_false, false_and, or_true, true_or, or_false, false_or, if_true, if_false, ne_eq, reduceIte]; done) | (exfalso; omega)) dX4_book_15
set_option maxHeartbeats 4000000 in
set_option maxRecDepth 100000 in
theorem cM_isBook {sh : Int} (hsh : 0 ≤ sh) (hsh1 : sh ≤ 3) (hs : Ok s) (hsi : ∀ i, 0 ≤ si i ∧ si i ≤ 40) : MW l yX4_isBook cX4_isBook 3 (some .boolean) 5 122 D k [.ref (a 0), .int (iI sh)] (wM a k s kp ot sd st sp tp bi si nu mo ik (-1) tl ta fr to va iw) (wM a k (ysN s (-1) (ibF s si nu sh)) kp ot sd st sp tp bi si nu mo ik (-1) tl ta fr to va iw) (some (.int (iB ((si sh).toNat ≤ ibF s si nu sh)))) := by
  refine MW.mk RX4 rfl (by decide +kernel) (Nat.le_of_ble_eq_true rfl) (fun p e U m0 below meth cd ls C hP hD hS hl => ?_)
  have hl : lv_has ls 3 [(0, .ref (a 0)), (1, .int (iI sh))] := hl
  have h98 := hsi sh
  refine r_iconst C dX4_isBook_0 ?_
  refine r_istore_n C [(2, .int (iI 0)), (0, .ref (a 0)), (1, .int (iI sh))] dX4_isBook_1 rfl hl (by decide) rfl (fun ls hl => ?_)
  refine r_loopWJ (fun n : Nat => [(0, .ref (a 0)), (1, .int (iI sh)), (2, .int (iI n))]) (fun n : Nat => wM a k (ysN s (-1) n) kp ot sd st sp tp bi si nu mo ik (-1) tl ta fr to va iw) ((si sh).toNat) (fun n : Nat => ∀ j : Nat, j < n → ¬ ibP s nu sh j) (fun j h => absurd h (Nat.not_lt_zero j)) (lv_eq (lv_sub hl [1, 2, 0] rfl) rfl) (va_eq hP rfl) (va_eqD hD rfl) hS (fun n hn ihn hJn ls H locs hl hP hD hS => ?_) (fun hJn ls H locs hl hP hD hS => ?_)
  · have hl : lv_has ls 3 [(0, .ref (a 0)), (1, .int (iI sh)), (2, .int (iI n))] := hl
    have hP : va_P D vwCl (wM a k (ysN s (-1) n) kp ot sd st sp tp bi si nu mo ik (-1) tl ta fr to va iw) H := hP
    have hD : va_D _ (wM a k (ysN s (-1) n) kp ot sd st sp tp bi si nu mo ik (-1) tl ta fr to va iw) := hD
    have hJn : ∀ j : Nat, j < n → ¬ ibP s nu sh j := hJn
    have hsl : Ok (ysN s (-1) n) := ok_ysN hs (-1) n
    refine r_iload_n C dX4_isBook_2 rfl (lv_at hl 2 rfl) ?_
    refine r_aload_n C dX4_isBook_3 rfl (lv_at hl 0 rfl) ?_
    refine g_X4_38 C hP 0 rfl rfl dX4_isBook_4 ?_
    refine r_iload_n C dX4_isBook_7 rfl (lv_at hl 1 rfl) ?_
    refine r_iald C hP 9 rfl dX4_isBook_8 (by omega) (by omega) (by decide) ?_
    refine r_icmp_ge C (tgt := 44) dX4_isBook_9 (by decide) (by exact ⟨by omega, by omega⟩) (by have := hsi (sh); exact ⟨by omega, by omega⟩) (fun h1 => ?_) (fun h1 => ?_)
    · exfalso; omega
    · refine r_aload_n C dX4_isBook_12 rfl (lv_at hl 0 rfl) ?_
      refine g_X4_41 C hP 0 rfl rfl dX4_isBook_13 ?_
      refine r_bipush C dX4_isBook_16 (by decide) ?_
      refine r_iload_n C dX4_isBook_18 rfl (lv_at hl 1 rfl) ?_
      refine r_imul C dX4_isBook_19 ?_
      refine r_iload_n C dX4_isBook_20 rfl (lv_at hl 2 rfl) ?_
      refine r_iadd C dX4_isBook_21 ?_
      refine r_laldI C hP 10 rfl dX4_isBook_22 (by omega) (by omega) (by decide) ?_
      refine r_aload_n C dX4_isBook_23 rfl (lv_at hl 0 rfl) ?_
      refine r_cVR0 C m_X4_131 (cM_wrongMany hsl) hP rfl rfl hl.1 dX4_isBook_24 ?_
      refine r_i2l C dX4_isBook_27 (by have := wrongMany_rg ((ysN s (-1) n)); exact ⟨by omega, by omega⟩) ?_
      refine r_lcmp_eq C (tgt := 34) dX4_isBook_28 dX4_isBook_29 (by decide) (by have := in64_rg (nu ((40 * sh) + n)); exact ⟨by omega, by omega⟩) (by have := wrongMany_rg ((ysN s (-1) n)); exact ⟨by omega, by omega⟩) (fun h2 => ?_) (fun h2 => ?_)
      · refine r_aload_n C dX4_isBook_34 rfl (lv_at hl 0 rfl) ?_
        refine r_cVW0 C m_X4_135 (cM_year hsl (by exact ⟨by omega, by omega⟩)) hP hD hS [0, 1, 2, 3, 4, 5, 6, 7, 8, 9, 10, 11] (wM a k (year (ysN s (-1) n) (-1)) kp ot sd st sp tp bi si nu mo ik (-1) tl ta fr to va iw) rfl rfl rfl rfl rfl rfl rfl hl.1 dX4_isBook_35 (fun H locs hP hD hS => ?_)
        have hs1 : Ok (year (ysN s (-1) n) (-1)) := ok_yearS hsl ((-1))
        refine r_iinc C 2 [(2, .int (iI (n + 1))), (0, .ref (a 0)), (1, .int (iI sh))] dX4_isBook_38 hl rfl (by decide) rfl (fun ls hl => ?_)
        refine r_goto C (tgt := 2) dX4_isBook_41 (by decide) ?_
        exact ihn (lt_s hJn (fun q => q h2)) ls H locs (lv_eq (lv_sub hl [1, 2, 0] rfl) rfl) (va_eq hP rfl) (va_eqD hD rfl) hS
      · refine r_iconst C dX4_isBook_32 ?_
        exact r_zretW C hP hS (by rw [ibF, fst0_yes (p := ibP s nu sh) h2 hJn hn]) (iB0 (by rw [ibF, (fst0_yes (p := ibP s nu sh) h2 hJn hn)]; omega)) dX4_isBook_33
  · have hl : lv_has ls 3 [(0, .ref (a 0)), (1, .int (iI sh)), (2, .int (iI ((si sh).toNat)))] := hl
    have hP : va_P D vwCl (wM a k (ysN s (-1) (si sh).toNat) kp ot sd st sp tp bi si nu mo ik (-1) tl ta fr to va iw) H := hP
    have hD : va_D _ (wM a k (ysN s (-1) (si sh).toNat) kp ot sd st sp tp bi si nu mo ik (-1) tl ta fr to va iw) := hD
    have hJn : ∀ j : Nat, j < (si sh).toNat → ¬ ibP s nu sh j := hJn
    have hsl : Ok (ysN s (-1) (si sh).toNat) := ok_ysN hs (-1) ((si sh).toNat)
    refine r_iload_n C dX4_isBook_2 rfl (lv_at hl 2 rfl) ?_
    refine r_aload_n C dX4_isBook_3 rfl (lv_at hl 0 rfl) ?_
    refine g_X4_38 C hP 0 rfl rfl dX4_isBook_4 ?_
    refine r_iload_n C dX4_isBook_7 rfl (lv_at hl 1 rfl) ?_
    refine r_iald C hP 9 rfl dX4_isBook_8 (by omega) (by omega) (by decide) ?_
    refine r_icmp_ge C (tgt := 44) dX4_isBook_9 (by decide) (by exact ⟨by omega, by omega⟩) (by have := hsi (sh); exact ⟨by omega, by omega⟩) (fun h3 => ?_) (fun h3 => ?_)
    · refine r_iconst C dX4_isBook_44 ?_
      exact r_zretW C hP hS (by rw [ibF, fst0_no hJn]) (iB1 (by rw [ibF, fst0_no hJn]; exact Nat.le_refl _)) dX4_isBook_45
    · exfalso; omega
set_option maxHeartbeats 4000000 in
set_option maxRecDepth 100000 in
theorem cM_read {sh : Int} {m : Int} (zsh : In32 sh) (zm : In32 m) (hs : Ok s) (hbi : ∀ i, 0 ≤ bi i ∧ bi i ≤ 64) (hsi : ∀ i, 0 ≤ si i ∧ si i ≤ 40) : ME l yX4_read cX4_read 6 (some .int) 6 144 D k [.ref (a 0), .int (iI sh), .int (iI m)] (wM a k s kp ot sd st sp tp bi si nu mo ik (-1) tl ta fr to va iw) (fun x : (Int → Int) × (Int → Int) × (Int → Int) × (Int → Int64) × Int => wM a k ((fRead s st bi si nu sh m).2.1) kp x.1 x.2.1 ((fRead s st bi si nu sh m).2.2) x.2.2.1 tp bi si nu x.2.2.2.1 ik (-1) x.2.2.2.2 ta fr to va iw) (some (.int (iI ((fRead s st bi si nu sh m).1)))) := by
  refine ME.mk RX4 rfl (by decide +kernel) (Nat.le_of_ble_eq_true rfl) (fun p e U m0 below meth cd ls C hP hD hS hl => ?_)
  have hl : lv_has ls 6 [(0, .ref (a 0)), (1, .int (iI sh)), (2, .int (iI m))] := hl
  have zsh1 := zsh.1
  have zsh2 := zsh.2
  have zm1 := zm.1
  have zm2 := zm.2
  have h00 := hs.1 0 (by decide)
  have h06 := hs.2.2.1
  have h99 := wsh_rg bi sh
  have h98 := hsi sh
  refine r_aload_n C dX4_read_0 rfl (lv_at hl 0 rfl) ?_
  refine r_iload_n C dX4_read_1 rfl (lv_at hl 1 rfl) ?_
  refine r_cVR1 C m_X4_283 (cM_wrongSheet (by exact ⟨by omega, by omega⟩) hbi) hP rfl rfl hl.1 dX4_read_2 ?_
  refine r_istore_n C [(3, .int (iI (wsh bi sh))), (0, .ref (a 0)), (1, .int (iI sh)), (2, .int (iI m))] dX4_read_5 rfl hl (by decide) rfl (fun ls hl => ?_)
  refine r_iload_n C dX4_read_6 rfl (lv_at hl 0 rfl) ?_
  refine r_if_ne C (tgt := 23) dX4_read_7 (by decide) (by have := wsh_rg bi sh; exact ⟨by omega, by omega⟩) (fun h1 => ?_) (fun h1 => ?_)
  · refine r_iload_n C dX4_read_23 rfl (lv_at hl 0 rfl) ?_
    refine r_istore_n C [(3, .int (iI (wsh bi sh))), (0, .ref (a 0)), (1, .int (iI sh)), (2, .int (iI m))] dX4_read_24 rfl hl (by decide) rfl (fun ls hl => ?_)
    refine r_iload_n C dX4_read_25 rfl (lv_at hl 0 rfl) ?_
    refine r_if_eq C (tgt := 35) dX4_read_26 (by decide) (by have := wsh_rg bi sh; exact ⟨by omega, by omega⟩) (fun h2 => ?_) (fun h2 => ?_)
    · refine r_aload_n C dX4_read_35 rfl (lv_at hl 1 rfl) ?_
      refine r_cVW0 C m_X4_149 cM_laysAside hP hD hS [0, 1, 2, 3, 4, 5, 6, 7, 8, 9, 10, 11] (wM a k s kp ot (cpN s sd 123) st sp tp bi si nu mo ik (-1) tl ta fr to va iw) rfl rfl rfl rfl rfl rfl rfl hl.1 dX4_read_36 (fun H locs hP hD hS => ?_)
      refine r_iconst C dX4_read_39 ?_
      refine r_istore C [(4, .int (iI 0)), (3, .int (iI (wsh bi sh))), (0, .ref (a 0)), (1, .int (iI sh)), (2, .int (iI m))] dX4_read_40 hl (by decide) rfl (fun ls hl => ?_)
      refine r_iconst C dX4_read_42 ?_
      refine r_istore C [(5, .int (iI 0)), (4, .int (iI 0)), (3, .int (iI (wsh bi sh))), (0, .ref (a 0)), (1, .int (iI sh)), (2, .int (iI m))] dX4_read_43 hl (by decide) rfl (fun ls hl => ?_)
      refine r_loopW (fun n : Nat => [(0, .ref (a 0)), (1, .int (iI sh)), (2, .int (iI m)), (4, .int (iI (rdN s si nu sh m n))), (5, .int (iI n))]) (fun n : Nat => wM a k s kp ot (cpN s sd 123) st sp tp bi si nu mo ik (-1) tl ta fr to va iw) (288) (lv_eq (lv_sub hl [3, 4, 5, 1, 0] rfl) rfl) (va_eq hP rfl) (va_eqD hD rfl) hS (fun n hn ihn ls H locs hl hP hD hS => ?_) (fun ls H locs hl hP hD hS => ?_)
      · have hl : lv_has ls 6 [(0, .ref (a 0)), (1, .int (iI sh)), (2, .int (iI m)), (4, .int (iI (rdN s si nu sh m n))), (5, .int (iI n))] := hl
        have hP : va_P D vwCl (wM a k s kp ot (cpN s sd 123) st sp tp bi si nu mo ik (-1) tl ta fr to va iw) H := hP
        have hD : va_D _ (wM a k s kp ot (cpN s sd 123) st sp tp bi si nu mo ik (-1) tl ta fr to va iw) := hD
        refine r_iload C dX4_read_45 (lv_at hl 4 rfl) ?_
        refine r_sipush C dX4_read_47 (by decide) ?_
        refine r_icmp_ge C (tgt := 111) dX4_read_50 (by decide) (by exact ⟨by omega, by omega⟩) ⟨by decide, by decide⟩ (fun h3 => ?_) (fun h3 => ?_)
        · exfalso; omega
        · refine r_aload_n C dX4_read_53 rfl (lv_at hl 0 rfl) ?_
          refine g_X4_7 C hP 0 rfl rfl dX4_read_54 ?_
          refine r_iload_n C dX4_read_57 rfl (lv_at hl 2 rfl) ?_
          refine r_iconst C dX4_read_58 ?_
          refine r_cSR2 C m_X4_57 cM_spot pn0 hl.1 dX4_read_59 ?_
          refine r_iload C dX4_read_62 (lv_at hl 4 rfl) ?_
          refine r_bipush C dX4_read_64 (by decide) ?_
          refine r_idiv C dX4_read_66 (by omega) (by omega) (by omega) (by omega) ?_
          refine r_iast C hP hD hS 1 (wM a k (up s (99 + 4 * m + 0) (n / 48)) kp ot (cpN s sd 123) st sp tp bi si nu mo ik (-1) tl ta fr to va iw) rfl dX4_read_67 (by omega) (by omega) (by decide) rfl (fun H locs hP hD hS => ?_)
          have hs1 : Ok (up s (99 + 4 * m + 0) (n / 48)) := ok_up hs ⟨by omega, by omega⟩ ⟨by omega, by omega⟩ (fun _ => by omega) (fun _ _ _ _ => by omega)
          refine r_aload_n C dX4_read_68 rfl (lv_at hl 0 rfl) ?_
          refine g_X4_7 C hP 0 rfl rfl dX4_read_69 ?_
          refine r_iload_n C dX4_read_72 rfl (lv_at hl 2 rfl) ?_
          refine r_iconst C dX4_read_73 ?_
          refine r_cSR2 C m_X4_57 cM_spot pn0 hl.1 dX4_read_74 ?_
          refine r_iload C dX4_read_77 (lv_at hl 4 rfl) ?_
          refine r_bipush C dX4_read_79 (by decide) ?_
          refine r_irem C dX4_read_81 (by omega) (by omega) (by omega) (by omega) ?_
          refine r_iast C hP hD hS 1 (wM a k (up (up s (99 + 4 * m + 0) (n / 48)) (99 + 4 * m + 1) (n % 48)) kp ot (cpN s sd 123) st sp tp bi si nu mo ik (-1) tl ta fr to va iw) rfl dX4_read_82 (by omega) (by omega) (by decide) rfl (fun H locs hP hD hS => ?_)
          have hs2 : Ok (up (up s (99 + 4 * m + 0) (n / 48)) (99 + 4 * m + 1) (n % 48)) := ok_up hs1 ⟨by omega, by omega⟩ ⟨by omega, by omega⟩ (fun _ => by omega) (fun _ _ _ _ => by omega)
          refine r_aload_n C dX4_read_83 rfl (lv_at hl 0 rfl) ?_
          refine r_iload C dX4_read_84 (lv_at hl 3 rfl) ?_
          refine r_aload_n C dX4_read_86 rfl (lv_at hl 0 rfl) ?_
          refine r_iload_n C dX4_read_87 rfl (lv_at hl 1 rfl) ?_
          refine r_cVW1 C m_X4_290 (cM_isBook (by omega) (by omega) hs2 hsi) hP hD hS [0, 1, 2, 3, 4, 5, 6, 7, 8, 9, 10, 11] (wM a k (ysN (up (up s (99 + 4 * m + 0) (n / 48)) (99 + 4 * m + 1) (n % 48)) (-1) (ibF (up (up s (99 + 4 * m + 0) (n / 48)) (99 + 4 * m + 1) (n % 48)) si nu sh)) kp ot (cpN s sd 123) st sp tp bi si nu mo ik (-1) tl ta fr to va iw) rfl rfl rfl rfl rfl rfl rfl hl.1 dX4_read_88 (fun H locs hP hD hS => ?_)
          have hs3 : Ok (ysN (up (up s (99 + 4 * m + 0) (n / 48)) (99 + 4 * m + 1) (n % 48)) (-1) (ibF (up (up s (99 + 4 * m + 0) (n / 48)) (99 + 4 * m + 1) (n % 48)) si nu sh)) := ok_ysN hs2 (-1) _
          refine r_ifB_eq C (tgt := 98) dX4_read_91 (by decide) (fun h4 => ?_) (fun h4 => ?_)
          · refine r_iconst C dX4_read_98 ?_
            refine r_iadd C dX4_read_99 ?_
            refine r_cVW1 C m_X4_152 (cM_takesBack2 hs.2.1 hs3.2.1) hP hD hS [0, 1, 2, 3, 4, 5, 6, 7, 8, 9, 10, 11] (wM a k s kp ot (cpN s sd 123) st sp tp bi si nu mo ik (-1) tl ta fr to va iw) rfl rfl rfl rfl rfl rfl rfl hl.1 dX4_read_100 (fun H locs hP hD hS => ?_)
            refine r_istore C [(4, .int (iI ((rdN s si nu sh m n) + 0))), (0, .ref (a 0)), (1, .int (iI sh)), (2, .int (iI m)), (5, .int (iI n))] dX4_read_103 hl (by decide) rfl (fun ls hl => ?_)
            refine r_iinc C 4 [(5, .int (iI (n + 1))), (4, .int (iI ((rdN s si nu sh m n) + 0))), (0, .ref (a 0)), (1, .int (iI sh)), (2, .int (iI m))] dX4_read_105 hl rfl (by decide) rfl (fun ls hl => ?_)
            refine r_goto C (tgt := 45) dX4_read_108 (by decide) ?_
            exact ihn ls H locs (lv_eq (lv_sub hl [2, 3, 4, 1, 0] rfl) (by simp only [rdN, rdS, h1, eq_true h2, h3, h4, not_true_eq_false, not_false_eq_true, and_true, true_and, and_false, false_and, or_true, true_or, or_false, false_or, if_true, if_false, ne_eq, reduceIte]; rfl)) (va_eq hP rfl) (va_eqD hD rfl) hS
          · refine r_iconst C dX4_read_94 ?_
            refine r_goto C (tgt := 99) dX4_read_95 (by decide) ?_
            refine r_iadd C dX4_read_99 ?_
            refine r_cVW1 C m_X4_152 (cM_takesBack2 hs.2.1 hs3.2.1) hP hD hS [0, 1, 2, 3, 4, 5, 6, 7, 8, 9, 10, 11] (wM a k s kp ot (cpN s sd 123) st sp tp bi si nu mo ik (-1) tl ta fr to va iw) rfl rfl rfl rfl rfl rfl rfl hl.1 dX4_read_100 (fun H locs hP hD hS => ?_)
            refine r_istore C [(4, .int (iI ((rdN s si nu sh m n) + 1))), (0, .ref (a 0)), (1, .int (iI sh)), (2, .int (iI m)), (5, .int (iI n))] dX4_read_103 hl (by decide) rfl (fun ls hl => ?_)
            refine r_iinc C 4 [(5, .int (iI (n + 1))), (4, .int (iI ((rdN s si nu sh m n) + 1))), (0, .ref (a 0)), (1, .int (iI sh)), (2, .int (iI m))] dX4_read_105 hl rfl (by decide) rfl (fun ls hl => ?_)
            refine r_goto C (tgt := 45) dX4_read_108 (by decide) ?_
            exact ihn ls H locs (lv_eq (lv_sub hl [2, 3, 4, 1, 0] rfl) (by simp only [rdN, rdS, h1, eq_true h2, h3, h4, not_true_eq_false, not_false_eq_true, and_true, true_and, and_false, false_and, or_true, true_or, or_false, false_or, if_true, if_false, ne_eq, reduceIte]; rfl)) (va_eq hP rfl) (va_eqD hD rfl) hS
      · have hl : lv_has ls 6 [(0, .ref (a 0)), (1, .int (iI sh)), (2, .int (iI m)), (4, .int (iI (rdN s si nu sh m 288))), (5, .int (iI 288))] := hl
        have hP : va_P D vwCl (wM a k s kp ot (cpN s sd 123) st sp tp bi si nu mo ik (-1) tl ta fr to va iw) H := hP
        have hD : va_D _ (wM a k s kp ot (cpN s sd 123) st sp tp bi si nu mo ik (-1) tl ta fr to va iw) := hD
        refine r_iload C dX4_read_45 (lv_at hl 4 rfl) ?_
        refine r_sipush C dX4_read_47 (by decide) ?_
        refine r_icmp_ge C (tgt := 111) dX4_read_50 (by decide) ⟨by decide, by decide⟩ ⟨by decide, by decide⟩ (fun h5 => ?_) (fun h5 => ?_)
        · refine r_iload C dX4_read_111 (lv_at hl 3 rfl) ?_
          exact r_iretE C hP hS (ot, cpN s sd 123, sp, mo, tl) (by first | (simp only [fRead, fD, fV, h1, eq_true h2, h5, not_true_eq_false, not_false_eq_true, and_true, true_and, and_false, false_and, or_true, true_or, or_false, false_or, if_true, if_false, ne_eq, reduceIte]; done) | (exfalso; omega)) (by first | (simp only [fRead, fD, fV, h1, eq_true h2, h5, not_true_eq_false, not_false_eq_true, and_true, true_and, and_false, false_and, or_true, true_or, or_false, false_or, if_true, if_false, ne_eq, reduceIte]; done) | (exfalso; omega)) dX4_read_113
        · exfalso; omega
    · refine r_aload_n C dX4_read_29 rfl (lv_at hl 1 rfl) ?_
      refine r_iload_n C dX4_read_30 rfl (lv_at hl 0 rfl) ?_
      refine r_cVW1 C m_X4_74 (cM_finds (by have := wsh_rg bi sh; omega) (by have := wsh_rg bi sh; omega)) hP hD hS [0, 1, 2, 3, 4, 5, 6, 7, 8, 9, 10, 11] (wM a k s kp ot sd (fnd st (wsh bi sh)) sp tp bi si nu mo ik (-1) tl ta fr to va iw) rfl rfl rfl rfl rfl rfl rfl hl.1 dX4_read_31 (fun H locs hP hD hS => ?_)
      exact r_iretE C hP hS (ot, sd, sp, mo, tl) (by first | (simp only [fRead, fD, fV, h1, h2, not_true_eq_false, not_false_eq_true, and_true, true_and, and_false, false_and, or_true, true_or, or_false, false_or, if_true, if_false, ne_eq, reduceIte]; done) | (exfalso; omega)) (by first | (simp only [fRead, fD, fV, h1, h2, not_true_eq_false, not_false_eq_true, and_true, true_and, and_false, false_and, or_true, true_or, or_false, false_or, if_true, if_false, ne_eq, reduceIte]; done) | (exfalso; omega)) dX4_read_34
  · refine r_aload_n C dX4_read_10 rfl (lv_at hl 1 rfl) ?_
    refine r_iload_n C dX4_read_11 rfl (lv_at hl 3 rfl) ?_
    refine r_cVR1 C m_X4_109 (cM_isMender (by exact ⟨by omega, by omega⟩) hs) hP rfl rfl hl.1 dX4_read_12 ?_
    refine r_ifB_ne C (tgt := 23) dX4_read_15 (by decide) (fun h6 => ?_) (fun h6 => ?_)
    · refine r_iload_n C dX4_read_23 rfl (lv_at hl 0 rfl) ?_
      refine r_istore_n C [(3, .int (iI (wsh bi sh))), (0, .ref (a 0)), (1, .int (iI sh)), (2, .int (iI m))] dX4_read_24 rfl hl (by decide) rfl (fun ls hl => ?_)
      refine r_iload_n C dX4_read_25 rfl (lv_at hl 0 rfl) ?_
      refine r_if_eq C (tgt := 35) dX4_read_26 (by decide) (by have := wsh_rg bi sh; exact ⟨by omega, by omega⟩) (fun h7 => ?_) (fun h7 => ?_)
      · refine r_aload_n C dX4_read_35 rfl (lv_at hl 1 rfl) ?_
        refine r_cVW0 C m_X4_149 cM_laysAside hP hD hS [0, 1, 2, 3, 4, 5, 6, 7, 8, 9, 10, 11] (wM a k s kp ot (cpN s sd 123) st sp tp bi si nu mo ik (-1) tl ta fr to va iw) rfl rfl rfl rfl rfl rfl rfl hl.1 dX4_read_36 (fun H locs hP hD hS => ?_)
        refine r_iconst C dX4_read_39 ?_
        refine r_istore C [(4, .int (iI 0)), (3, .int (iI (wsh bi sh))), (0, .ref (a 0)), (1, .int (iI sh)), (2, .int (iI m))] dX4_read_40 hl (by decide) rfl (fun ls hl => ?_)
        refine r_iconst C dX4_read_42 ?_
        refine r_istore C [(5, .int (iI 0)), (4, .int (iI 0)), (3, .int (iI (wsh bi sh))), (0, .ref (a 0)), (1, .int (iI sh)), (2, .int (iI m))] dX4_read_43 hl (by decide) rfl (fun ls hl => ?_)
        refine r_loopW (fun n : Nat => [(0, .ref (a 0)), (1, .int (iI sh)), (2, .int (iI m)), (4, .int (iI (rdN s si nu sh m n))), (5, .int (iI n))]) (fun n : Nat => wM a k s kp ot (cpN s sd 123) st sp tp bi si nu mo ik (-1) tl ta fr to va iw) (288) (lv_eq (lv_sub hl [3, 4, 5, 1, 0] rfl) rfl) (va_eq hP rfl) (va_eqD hD rfl) hS (fun n hn ihn ls H locs hl hP hD hS => ?_) (fun ls H locs hl hP hD hS => ?_)
        · have hl : lv_has ls 6 [(0, .ref (a 0)), (1, .int (iI sh)), (2, .int (iI m)), (4, .int (iI (rdN s si nu sh m n))), (5, .int (iI n))] := hl
          have hP : va_P D vwCl (wM a k s kp ot (cpN s sd 123) st sp tp bi si nu mo ik (-1) tl ta fr to va iw) H := hP
          have hD : va_D _ (wM a k s kp ot (cpN s sd 123) st sp tp bi si nu mo ik (-1) tl ta fr to va iw) := hD
          refine r_iload C dX4_read_45 (lv_at hl 4 rfl) ?_
          refine r_sipush C dX4_read_47 (by decide) ?_
          refine r_icmp_ge C (tgt := 111) dX4_read_50 (by decide) (by exact ⟨by omega, by omega⟩) ⟨by decide, by decide⟩ (fun h8 => ?_) (fun h8 => ?_)
          · exfalso; omega
          · refine r_aload_n C dX4_read_53 rfl (lv_at hl 0 rfl) ?_
            refine g_X4_7 C hP 0 rfl rfl dX4_read_54 ?_
            refine r_iload_n C dX4_read_57 rfl (lv_at hl 2 rfl) ?_
            refine r_iconst C dX4_read_58 ?_
            refine r_cSR2 C m_X4_57 cM_spot pn0 hl.1 dX4_read_59 ?_
            refine r_iload C dX4_read_62 (lv_at hl 4 rfl) ?_
            refine r_bipush C dX4_read_64 (by decide) ?_
            refine r_idiv C dX4_read_66 (by omega) (by omega) (by omega) (by omega) ?_
            refine r_iast C hP hD hS 1 (wM a k (up s (99 + 4 * m + 0) (n / 48)) kp ot (cpN s sd 123) st sp tp bi si nu mo ik (-1) tl ta fr to va iw) rfl dX4_read_67 (by omega) (by omega) (by decide) rfl (fun H locs hP hD hS => ?_)
            have hs4 : Ok (up s (99 + 4 * m + 0) (n / 48)) := ok_up hs ⟨by omega, by omega⟩ ⟨by omega, by omega⟩ (fun _ => by omega) (fun _ _ _ _ => by omega)
            refine r_aload_n C dX4_read_68 rfl (lv_at hl 0 rfl) ?_
            refine g_X4_7 C hP 0 rfl rfl dX4_read_69 ?_
            refine r_iload_n C dX4_read_72 rfl (lv_at hl 2 rfl) ?_
            refine r_iconst C dX4_read_73 ?_
            refine r_cSR2 C m_X4_57 cM_spot pn0 hl.1 dX4_read_74 ?_
            refine r_iload C dX4_read_77 (lv_at hl 4 rfl) ?_
            refine r_bipush C dX4_read_79 (by decide) ?_
            refine r_irem C dX4_read_81 (by omega) (by omega) (by omega) (by omega) ?_
            refine r_iast C hP hD hS 1 (wM a k (up (up s (99 + 4 * m + 0) (n / 48)) (99 + 4 * m + 1) (n % 48)) kp ot (cpN s sd 123) st sp tp bi si nu mo ik (-1) tl ta fr to va iw) rfl dX4_read_82 (by omega) (by omega) (by decide) rfl (fun H locs hP hD hS => ?_)
            have hs5 : Ok (up (up s (99 + 4 * m + 0) (n / 48)) (99 + 4 * m + 1) (n % 48)) := ok_up hs4 ⟨by omega, by omega⟩ ⟨by omega, by omega⟩ (fun _ => by omega) (fun _ _ _ _ => by omega)
            refine r_aload_n C dX4_read_83 rfl (lv_at hl 0 rfl) ?_
            refine r_iload C dX4_read_84 (lv_at hl 3 rfl) ?_
            refine r_aload_n C dX4_read_86 rfl (lv_at hl 0 rfl) ?_
            refine r_iload_n C dX4_read_87 rfl (lv_at hl 1 rfl) ?_
            refine r_cVW1 C m_X4_290 (cM_isBook (by omega) (by omega) hs5 hsi) hP hD hS [0, 1, 2, 3, 4, 5, 6, 7, 8, 9, 10, 11] (wM a k (ysN (up (up s (99 + 4 * m + 0) (n / 48)) (99 + 4 * m + 1) (n % 48)) (-1) (ibF (up (up s (99 + 4 * m + 0) (n / 48)) (99 + 4 * m + 1) (n % 48)) si nu sh)) kp ot (cpN s sd 123) st sp tp bi si nu mo ik (-1) tl ta fr to va iw) rfl rfl rfl rfl rfl rfl rfl hl.1 dX4_read_88 (fun H locs hP hD hS => ?_)
            have hs6 : Ok (ysN (up (up s (99 + 4 * m + 0) (n / 48)) (99 + 4 * m + 1) (n % 48)) (-1) (ibF (up (up s (99 + 4 * m + 0) (n / 48)) (99 + 4 * m + 1) (n % 48)) si nu sh)) := ok_ysN hs5 (-1) _
            refine r_ifB_eq C (tgt := 98) dX4_read_91 (by decide) (fun h9 => ?_) (fun h9 => ?_)
            · refine r_iconst C dX4_read_98 ?_
              refine r_iadd C dX4_read_99 ?_
              refine r_cVW1 C m_X4_152 (cM_takesBack2 hs.2.1 hs6.2.1) hP hD hS [0, 1, 2, 3, 4, 5, 6, 7, 8, 9, 10, 11] (wM a k s kp ot (cpN s sd 123) st sp tp bi si nu mo ik (-1) tl ta fr to va iw) rfl rfl rfl rfl rfl rfl rfl hl.1 dX4_read_100 (fun H locs hP hD hS => ?_)
              refine r_istore C [(4, .int (iI ((rdN s si nu sh m n) + 0))), (0, .ref (a 0)), (1, .int (iI sh)), (2, .int (iI m)), (5, .int (iI n))] dX4_read_103 hl (by decide) rfl (fun ls hl => ?_)
              refine r_iinc C 4 [(5, .int (iI (n + 1))), (4, .int (iI ((rdN s si nu sh m n) + 0))), (0, .ref (a 0)), (1, .int (iI sh)), (2, .int (iI m))] dX4_read_105 hl rfl (by decide) rfl (fun ls hl => ?_)
              refine r_goto C (tgt := 45) dX4_read_108 (by decide) ?_
              exact ihn ls H locs (lv_eq (lv_sub hl [2, 3, 4, 1, 0] rfl) (by simp only [rdN, rdS, eq_true h1, h6, eq_true h7, h8, h9, not_true_eq_false, not_false_eq_true, and_true, true_and, and_false, false_and, or_true, true_or, or_false, false_or, if_true, if_false, ne_eq, reduceIte]; rfl)) (va_eq hP rfl) (va_eqD hD rfl) hS
            · refine r_iconst C dX4_read_94 ?_
              refine r_goto C (tgt := 99) dX4_read_95 (by decide) ?_
              refine r_iadd C dX4_read_99 ?_
              refine r_cVW1 C m_X4_152 (cM_takesBack2 hs.2.1 hs6.2.1) hP hD hS [0, 1, 2, 3, 4, 5, 6, 7, 8, 9, 10, 11] (wM a k s kp ot (cpN s sd 123) st sp tp bi si nu mo ik (-1) tl ta fr to va iw) rfl rfl rfl rfl rfl rfl rfl hl.1 dX4_read_100 (fun H locs hP hD hS => ?_)
              refine r_istore C [(4, .int (iI ((rdN s si nu sh m n) + 1))), (0, .ref (a 0)), (1, .int (iI sh)), (2, .int (iI m)), (5, .int (iI n))] dX4_read_103 hl (by decide) rfl (fun ls hl => ?_)
              refine r_iinc C 4 [(5, .int (iI (n + 1))), (4, .int (iI ((rdN s si nu sh m n) + 1))), (0, .ref (a 0)), (1, .int (iI sh)), (2, .int (iI m))] dX4_read_105 hl rfl (by decide) rfl (fun ls hl => ?_)
              refine r_goto C (tgt := 45) dX4_read_108 (by decide) ?_
              exact ihn ls H locs (lv_eq (lv_sub hl [2, 3, 4, 1, 0] rfl) (by simp only [rdN, rdS, eq_true h1, h6, eq_true h7, h8, h9, not_true_eq_false, not_false_eq_true, and_true, true_and, and_false, false_and, or_true, true_or, or_false, false_or, if_true, if_false, ne_eq, reduceIte]; rfl)) (va_eq hP rfl) (va_eqD hD rfl) hS
        · have hl : lv_has ls 6 [(0, .ref (a 0)), (1, .int (iI sh)), (2, .int (iI m)), (4, .int (iI (rdN s si nu sh m 288))), (5, .int (iI 288))] := hl
          have hP : va_P D vwCl (wM a k s kp ot (cpN s sd 123) st sp tp bi si nu mo ik (-1) tl ta fr to va iw) H := hP
          have hD : va_D _ (wM a k s kp ot (cpN s sd 123) st sp tp bi si nu mo ik (-1) tl ta fr to va iw) := hD
          refine r_iload C dX4_read_45 (lv_at hl 4 rfl) ?_
          refine r_sipush C dX4_read_47 (by decide) ?_
          refine r_icmp_ge C (tgt := 111) dX4_read_50 (by decide) ⟨by decide, by decide⟩ ⟨by decide, by decide⟩ (fun h10 => ?_) (fun h10 => ?_)
          · refine r_iload C dX4_read_111 (lv_at hl 3 rfl) ?_
            exact r_iretE C hP hS (ot, cpN s sd 123, sp, mo, tl) (by first | (simp only [fRead, fD, fV, eq_true h1, h6, eq_true h7, h10, not_true_eq_false, not_false_eq_true, and_true, true_and, and_false, false_and, or_true, true_or, or_false, false_or, if_true, if_false, ne_eq, reduceIte]; done) | (exfalso; omega)) (by first | (simp only [fRead, fD, fV, eq_true h1, h6, eq_true h7, h10, not_true_eq_false, not_false_eq_true, and_true, true_and, and_false, false_and, or_true, true_or, or_false, false_or, if_true, if_false, ne_eq, reduceIte]; done) | (exfalso; omega)) dX4_read_113
          · exfalso; omega
      · refine r_aload_n C dX4_read_29 rfl (lv_at hl 1 rfl) ?_
        refine r_iload_n C dX4_read_30 rfl (lv_at hl 0 rfl) ?_
        refine r_cVW1 C m_X4_74 (cM_finds (by have := wsh_rg bi sh; omega) (by have := wsh_rg bi sh; omega)) hP hD hS [0, 1, 2, 3, 4, 5, 6, 7, 8, 9, 10, 11] (wM a k s kp ot sd (fnd st (wsh bi sh)) sp tp bi si nu mo ik (-1) tl ta fr to va iw) rfl rfl rfl rfl rfl rfl rfl hl.1 dX4_read_31 (fun H locs hP hD hS => ?_)
        exact r_iretE C hP hS (ot, sd, sp, mo, tl) (by first | (simp only [fRead, fD, fV, eq_true h1, h6, h7, not_true_eq_false, not_false_eq_true, and_true, true_and, and_false, false_and, or_true, true_or, or_false, false_or, if_true, if_false, ne_eq, reduceIte]; done) | (exfalso; omega)) (by first | (simp only [fRead, fD, fV, eq_true h1, h6, h7, not_true_eq_false, not_false_eq_true, and_true, true_and, and_false, false_and, or_true, true_or, or_false, false_or, if_true, if_false, ne_eq, reduceIte]; done) | (exfalso; omega)) dX4_read_34
    · refine r_ldc C (-1000000001) ki_X4_48 (by decide) dX4_read_18 ?_
      refine r_goto C (tgt := 24) dX4_read_20 (by decide) ?_
      refine r_istore_n C [(3, .int (iI (-1000000001))), (0, .ref (a 0)), (1, .int (iI sh)), (2, .int (iI m))] dX4_read_24 rfl hl (by decide) rfl (fun ls hl => ?_)
      refine r_iload_n C dX4_read_25 rfl (lv_at hl 0 rfl) ?_
      refine r_if_eq C (tgt := 35) dX4_read_26 (by decide) ⟨by decide, by decide⟩ (fun h11 => ?_) (fun h11 => ?_)
      · exact absurd h11 (by decide)
      · refine r_aload_n C dX4_read_29 rfl (lv_at hl 1 rfl) ?_
        refine r_iload_n C dX4_read_30 rfl (lv_at hl 0 rfl) ?_
        refine r_cVW1 C m_X4_74 (cM_finds (by omega) (by omega)) hP hD hS [0, 1, 2, 3, 4, 5, 6, 7, 8, 9, 10, 11] (wM a k s kp ot sd (fnd st (-1000000001)) sp tp bi si nu mo ik (-1) tl ta fr to va iw) rfl rfl rfl rfl rfl rfl rfl hl.1 dX4_read_31 (fun H locs hP hD hS => ?_)
        exact r_iretE C hP hS (ot, sd, sp, mo, tl) (by first | (simp only [fRead, fD, fV, eq_true h1, h6, h11, not_true_eq_false, not_false_eq_true, and_true, true_and, and_false, false_and, or_true, true_or, or_false, false_or, if_true, if_false, ne_eq, reduceIte]; done) | (exfalso; omega)) (by first | (simp only [fRead, fD, fV, eq_true h1, h6, h11, not_true_eq_false, not_false_eq_true, and_true, true_and, and_false, false_and, or_true, true_or, or_false, false_or, if_true, if_false, ne_eq, reduceIte]; done) | (exfalso; omega)) dX4_read_34
set_option maxHeartbeats 4000000 in
set_option maxRecDepth 100000 in
theorem cM_image  (hs : Ok s) (hkp : Ok kp) : ME l yX4_image cX4_image 2 (some .int) 0 0 D k [.ref (a 0)] (wM a k s kp ot sd st sp tp bi si nu mo ik (-1) tl ta fr to va iw) (fun x : (Int → Int) × (Int → Int) × (Int → Int) × (Int → Int64) × Int => wM a k s ((((1 : Int), s, (1 : Int))).2.1) x.1 x.2.1 st x.2.2.1 tp bi si nu x.2.2.2.1 ((((1 : Int), s, (1 : Int))).2.2) (-1) x.2.2.2.2 ta fr to va iw) (some (.int (iI ((((1 : Int), s, (1 : Int))).1)))) := by
  refine ME.mk RX4 rfl (by decide +kernel) (Nat.le_of_ble_eq_true rfl) (fun p e U m0 below meth cd ls C hP hD hS hl => ?_)
  have hl : lv_has ls 2 [(0, .ref (a 0))] := hl
  have h00 := hs.1 0 (by decide)
  have h06 := hs.2.2.1
  refine r_iconst C dX4_image_0 ?_
  refine r_istore_n C [(1, .int (iI 0)), (0, .ref (a 0))] dX4_image_1 rfl hl (by decide) rfl (fun ls hl => ?_)
  refine r_loopW (fun n : Nat => [(0, .ref (a 0)), (1, .int (iI n))]) (fun n : Nat => wM a k s (cpN s kp n) ot sd st sp tp bi si nu mo ik (-1) tl ta fr to va iw) (123) (lv_eq (lv_sub hl [1, 0] rfl) rfl) (va_eq hP (by rw [cpN_0])) (va_eqD hD (by rw [cpN_0])) hS (fun n hn ihn ls H locs hl hP hD hS => ?_) (fun ls H locs hl hP hD hS => ?_)
  · have hl : lv_has ls 2 [(0, .ref (a 0)), (1, .int (iI n))] := hl
    have hP : va_P D vwCl (wM a k s (cpN s kp n) ot sd st sp tp bi si nu mo ik (-1) tl ta fr to va iw) H := hP
    have hD : va_D _ (wM a k s (cpN s kp n) ot sd st sp tp bi si nu mo ik (-1) tl ta fr to va iw) := hD
    refine r_iload_n C dX4_image_2 rfl (lv_at hl 1 rfl) ?_
    refine r_bipush C dX4_image_3 (by decide) ?_
    refine r_icmp_ge C (tgt := 26) dX4_image_5 (by decide) (by exact ⟨by omega, by omega⟩) ⟨by decide, by decide⟩ (fun h1 => ?_) (fun h1 => ?_)
    · exfalso; omega
    · refine r_aload_n C dX4_image_8 rfl (lv_at hl 0 rfl) ?_
      refine g_X4_13 C hP 0 rfl rfl dX4_image_9 ?_
      refine r_iload_n C dX4_image_12 rfl (lv_at hl 1 rfl) ?_
      refine r_aload_n C dX4_image_13 rfl (lv_at hl 0 rfl) ?_
      refine g_X4_7 C hP 0 rfl rfl dX4_image_14 ?_
      refine r_iload_n C dX4_image_17 rfl (lv_at hl 1 rfl) ?_
      refine r_iald C hP 1 rfl dX4_image_18 (by omega) (by omega) (by decide) ?_
      refine r_iast C hP hD hS 2 (wM a k s (up (cpN s kp n) n (s (n))) ot sd st sp tp bi si nu mo ik (-1) tl ta fr to va iw) rfl dX4_image_19 (by omega) (by omega) (by decide) rfl (fun H locs hP hD hS => ?_)
      refine r_iinc C 1 [(1, .int (iI (n + 1))), (0, .ref (a 0))] dX4_image_20 hl rfl (by decide) rfl (fun ls hl => ?_)
      refine r_goto C (tgt := 2) dX4_image_23 (by decide) ?_
      have ew1 : wM a k s (up (cpN s kp n) n (s (n))) ot sd st sp tp bi si nu mo ik (-1) tl ta fr to va iw = wM a k s (cpN s kp (n + 1)) ot sd st sp tp bi si nu mo ik (-1) tl ta fr to va iw := (by rw [cpN_s])
      exact ihn ls H locs (lv_eq (lv_sub hl [1, 0] rfl) rfl) (va_eq hP ew1) (va_eqD hD ew1) hS
  · have hl : lv_has ls 2 [(0, .ref (a 0)), (1, .int (iI 123))] := hl
    have hP : va_P D vwCl (wM a k s (cpN s kp 123) ot sd st sp tp bi si nu mo ik (-1) tl ta fr to va iw) H := hP
    have hD : va_D _ (wM a k s (cpN s kp 123) ot sd st sp tp bi si nu mo ik (-1) tl ta fr to va iw) := hD
    refine r_iload_n C dX4_image_2 rfl (lv_at hl 1 rfl) ?_
    refine r_bipush C dX4_image_3 (by decide) ?_
    refine r_icmp_ge C (tgt := 26) dX4_image_5 (by decide) ⟨by decide, by decide⟩ ⟨by decide, by decide⟩ (fun h2 => ?_) (fun h2 => ?_)
    · refine r_aload_n C dX4_image_26 rfl (lv_at hl 0 rfl) ?_
      refine r_iconst C dX4_image_27 ?_
      refine p_X4_293 C hP hD hS 0 (wM a k s (cpN s kp 123) ot sd st sp tp bi si nu mo 1 (-1) tl ta fr to va iw) rfl (by decide) (by decide) (Nat.le_of_ble_eq_true rfl) rfl dX4_image_28 (fun H locs hP hD hS => ?_)
      refine r_iconst C dX4_image_31 ?_
      exact r_iretE C hP hS (ot, sd, sp, mo, tl) (by rw [cpN_all hs.2.1 hkp.2.1]) rfl dX4_image_32
    · exfalso; omega
set_option maxHeartbeats 4000000 in
set_option maxRecDepth 100000 in
theorem cM_undo  (hs : Ok s) (hkp : Ok kp) (hik : 0 ≤ ik ∧ ik ≤ 1) : ME l yX4_undo cX4_undo 2 (some .int) 1 21 D k [.ref (a 0)] (wM a k s kp ot sd st sp tp bi si nu mo ik (-1) tl ta fr to va iw) (fun x : (Int → Int) × (Int → Int) × (Int → Int) × (Int → Int64) × Int => wM a k ((fUndo s st kp ik).2.1) kp x.1 x.2.1 ((fUndo s st kp ik).2.2) x.2.2.1 tp bi si nu x.2.2.2.1 ik (-1) x.2.2.2.2 ta fr to va iw) (some (.int (iI ((fUndo s st kp ik).1)))) := by
  refine ME.mk RX4 rfl (by decide +kernel) (Nat.le_of_ble_eq_true rfl) (fun p e U m0 below meth cd ls C hP hD hS hl => ?_)
  have hl : lv_has ls 2 [(0, .ref (a 0))] := hl
  have h00 := hs.1 0 (by decide)
  have h06 := hs.2.2.1
  refine r_aload_n C dX4_undo_0 rfl (lv_at hl 0 rfl) ?_
  refine g_X4_293 C hP 0 rfl rfl dX4_undo_1 ?_
  refine r_if_ne C (tgt := 14) dX4_undo_4 (by decide) (by exact ⟨by omega, by omega⟩) (fun h1 => ?_) (fun h1 => ?_)
  · refine r_iconst C dX4_undo_14 ?_
    refine r_istore_n C [(1, .int (iI 0)), (0, .ref (a 0))] dX4_undo_15 rfl hl (by decide) rfl (fun ls hl => ?_)
    refine r_loopW (fun n : Nat => [(0, .ref (a 0)), (1, .int (iI n))]) (fun n : Nat => wM a k (cpN kp s n) kp ot sd st sp tp bi si nu mo ik (-1) tl ta fr to va iw) (123) (lv_eq (lv_sub hl [1, 0] rfl) rfl) (va_eq hP (by rw [cpN_0])) (va_eqD hD (by rw [cpN_0])) hS (fun n hn ihn ls H locs hl hP hD hS => ?_) (fun ls H locs hl hP hD hS => ?_)
    · have hl : lv_has ls 2 [(0, .ref (a 0)), (1, .int (iI n))] := hl
      have hP : va_P D vwCl (wM a k (cpN kp s n) kp ot sd st sp tp bi si nu mo ik (-1) tl ta fr to va iw) H := hP
      have hD : va_D _ (wM a k (cpN kp s n) kp ot sd st sp tp bi si nu mo ik (-1) tl ta fr to va iw) := hD
      refine r_iload_n C dX4_undo_16 rfl (lv_at hl 1 rfl) ?_
      refine r_bipush C dX4_undo_17 (by decide) ?_
      refine r_icmp_ge C (tgt := 40) dX4_undo_19 (by decide) (by exact ⟨by omega, by omega⟩) ⟨by decide, by decide⟩ (fun h2 => ?_) (fun h2 => ?_)
      · exfalso; omega
      · refine r_aload_n C dX4_undo_22 rfl (lv_at hl 0 rfl) ?_
        refine g_X4_7 C hP 0 rfl rfl dX4_undo_23 ?_
        refine r_iload_n C dX4_undo_26 rfl (lv_at hl 1 rfl) ?_
        refine r_aload_n C dX4_undo_27 rfl (lv_at hl 0 rfl) ?_
        refine g_X4_13 C hP 0 rfl rfl dX4_undo_28 ?_
        refine r_iload_n C dX4_undo_31 rfl (lv_at hl 1 rfl) ?_
        refine r_iald C hP 2 rfl dX4_undo_32 (by omega) (by omega) (by decide) ?_
        refine r_iast C hP hD hS 1 (wM a k (up (cpN kp s n) n (kp (n))) kp ot sd st sp tp bi si nu mo ik (-1) tl ta fr to va iw) rfl dX4_undo_33 (by omega) (by omega) (by decide) rfl (fun H locs hP hD hS => ?_)
        refine r_iinc C 1 [(1, .int (iI (n + 1))), (0, .ref (a 0))] dX4_undo_34 hl rfl (by decide) rfl (fun ls hl => ?_)
        refine r_goto C (tgt := 16) dX4_undo_37 (by decide) ?_
        have ew1 : wM a k (up (cpN kp s n) n (kp (n))) kp ot sd st sp tp bi si nu mo ik (-1) tl ta fr to va iw = wM a k (cpN kp s (n + 1)) kp ot sd st sp tp bi si nu mo ik (-1) tl ta fr to va iw := (by rw [cpN_s])
        exact ihn ls H locs (lv_eq (lv_sub hl [1, 0] rfl) rfl) (va_eq hP ew1) (va_eqD hD ew1) hS
    · have hl : lv_has ls 2 [(0, .ref (a 0)), (1, .int (iI 123))] := hl
      have hP : va_P D vwCl (wM a k (cpN kp s 123) kp ot sd st sp tp bi si nu mo ik (-1) tl ta fr to va iw) H := hP
      have hD : va_D _ (wM a k (cpN kp s 123) kp ot sd st sp tp bi si nu mo ik (-1) tl ta fr to va iw) := hD
      refine r_iload_n C dX4_undo_16 rfl (lv_at hl 1 rfl) ?_
      refine r_bipush C dX4_undo_17 (by decide) ?_
      refine r_icmp_ge C (tgt := 40) dX4_undo_19 (by decide) ⟨by decide, by decide⟩ ⟨by decide, by decide⟩ (fun h3 => ?_) (fun h3 => ?_)
      · refine r_aload_n C dX4_undo_40 rfl (lv_at hl 0 rfl) ?_
        refine g_X4_7 C hP 0 rfl rfl dX4_undo_41 ?_
        refine r_iconst C dX4_undo_44 ?_
        refine r_iald C hP 1 rfl dX4_undo_45 (by omega) (by omega) (by decide) ?_
        exact r_iretE C hP hS (ot, sd, sp, mo, tl) (by simp only [fUndo, h1, h3, not_true_eq_false, not_false_eq_true, and_true, true_and, and_false, false_and, or_true, true_or, or_false, false_or, if_true, if_false, ne_eq, reduceIte, cpN_all hkp.2.1 hs.2.1]) (by simp only [fUndo, h1, h3, not_true_eq_false, not_false_eq_true, and_true, true_and, and_false, false_and, or_true, true_or, or_false, false_or, if_true, if_false, ne_eq, reduceIte, cpN_all hkp.2.1 hs.2.1]) dX4_undo_46
      · exfalso; omega
  · refine r_aload_n C dX4_undo_7 rfl (lv_at hl 0 rfl) ?_
    refine r_ldc C (-1000000004) ki_X4_158 (by decide) dX4_undo_8 ?_
    refine r_cVW1 C m_X4_74 (cM_finds (by omega) (by omega)) hP hD hS [0, 1, 2, 3, 4, 5, 6, 7, 8, 9, 10, 11] (wM a k s kp ot sd (fnd st (-1000000004)) sp tp bi si nu mo ik (-1) tl ta fr to va iw) rfl rfl rfl rfl rfl rfl rfl hl.1 dX4_undo_10 (fun H locs hP hD hS => ?_)
    exact r_iretE C hP hS (ot, sd, sp, mo, tl) (by simp only [fUndo, fD, eq_true h1, not_true_eq_false, not_false_eq_true, and_true, true_and, and_false, false_and, or_true, true_or, or_false, false_or, if_true, if_false, ne_eq, reduceIte]) (by simp only [fUndo, fD, eq_true h1, not_true_eq_false, not_false_eq_true, and_true, true_and, and_false, false_and, or_true, true_or, or_false, false_or, if_true, if_false, ne_eq, reduceIte]) dX4_undo_13
set_option maxHeartbeats 4000000 in
set_option maxRecDepth 100000 in
theorem cM_tear  (hik : 0 ≤ ik ∧ ik ≤ 1) : ME l yX4_tear cX4_tear 2 (some .int) 0 0 D k [.ref (a 0)] (wM a k s kp ot sd st sp tp bi si nu mo ik (-1) tl ta fr to va iw) (fun x : (Int → Int) × (Int → Int) × (Int → Int) × (Int → Int64) × Int => wM a k s kp x.1 x.2.1 st x.2.2.1 tp bi si nu x.2.2.2.1 ((((if ik = 0 then 0 else 1 : Int), (0 : Int))).2) (-1) x.2.2.2.2 ta fr to va iw) (some (.int (iI ((((if ik = 0 then 0 else 1 : Int), (0 : Int))).1)))) := by
  refine ME.mk RX4 rfl (by decide +kernel) (Nat.le_of_ble_eq_true rfl) (fun p e U m0 below meth cd ls C hP hD hS hl => ?_)
  have hl : lv_has ls 2 [(0, .ref (a 0))] := hl
  refine r_aload_n C dX4_tear_0 rfl (lv_at hl 0 rfl) ?_
  refine g_X4_293 C hP 0 rfl rfl dX4_tear_1 ?_
  refine r_if_eq C (tgt := 11) dX4_tear_4 (by decide) (by exact ⟨by omega, by omega⟩) (fun h1 => ?_) (fun h1 => ?_)
  · refine r_iconst C dX4_tear_11 ?_
    refine r_istore_n C [(1, .int (iI 0)), (0, .ref (a 0))] dX4_tear_12 rfl hl (by decide) rfl (fun ls hl => ?_)
    refine r_aload_n C dX4_tear_13 rfl (lv_at hl 1 rfl) ?_
    refine r_iconst C dX4_tear_14 ?_
    refine p_X4_293 C hP hD hS 0 (wM a k s kp ot sd st sp tp bi si nu mo 0 (-1) tl ta fr to va iw) rfl (by decide) (by decide) (Nat.le_of_ble_eq_true rfl) rfl dX4_tear_15 (fun H locs hP hD hS => ?_)
    refine r_iload_n C dX4_tear_18 rfl (lv_at hl 0 rfl) ?_
    exact r_iretE C hP hS (ot, sd, sp, mo, tl) rfl (by simp only [eq_true h1, not_true_eq_false, not_false_eq_true, and_true, true_and, and_false, false_and, or_true, true_or, or_false, false_or, if_true, if_false, ne_eq, reduceIte]) dX4_tear_19
  · refine r_iconst C dX4_tear_7 ?_
    refine r_goto C (tgt := 12) dX4_tear_8 (by decide) ?_
    refine r_istore_n C [(1, .int (iI 1)), (0, .ref (a 0))] dX4_tear_12 rfl hl (by decide) rfl (fun ls hl => ?_)
    refine r_aload_n C dX4_tear_13 rfl (lv_at hl 1 rfl) ?_
    refine r_iconst C dX4_tear_14 ?_
    refine p_X4_293 C hP hD hS 0 (wM a k s kp ot sd st sp tp bi si nu mo 0 (-1) tl ta fr to va iw) rfl (by decide) (by decide) (Nat.le_of_ble_eq_true rfl) rfl dX4_tear_15 (fun H locs hP hD hS => ?_)
    refine r_iload_n C dX4_tear_18 rfl (lv_at hl 0 rfl) ?_
    exact r_iretE C hP hS (ot, sd, sp, mo, tl) rfl (by simp only [h1, not_true_eq_false, not_false_eq_true, and_true, true_and, and_false, false_and, or_true, true_or, or_false, false_or, if_true, if_false, ne_eq, reduceIte]) dX4_tear_19
set_option maxHeartbeats 4000000 in
set_option maxRecDepth 100000 in
theorem cM_count {w : Int} (zw : In32 w) (hs : Ok s) : ME l yX4_count cX4_count 2 (some .int) 1 23 D k [.ref (a 0), .int (iI w)] (wM a k s kp ot sd st sp tp bi si nu mo ik (-1) tl ta fr to va iw) (fun x : (Int → Int) × (Int → Int) × (Int → Int) × (Int → Int64) × Int => wM a k ((fCount s st ta w).2.1) kp x.1 x.2.1 ((fCount s st ta w).2.2) x.2.2.1 tp bi si nu x.2.2.2.1 ik (-1) x.2.2.2.2 ta fr to va iw) (some (.int (iI ((fCount s st ta w).1)))) := by
  refine ME.mk RX4 rfl (by decide +kernel) (Nat.le_of_ble_eq_true rfl) (fun p e U m0 below meth cd ls C hP hD hS hl => ?_)
  have hl : lv_has ls 2 [(0, .ref (a 0)), (1, .int (iI w))] := hl
  have zw1 := zw.1
  have zw2 := zw.2
  have h00 := hs.1 0 (by decide)
  have h06 := hs.2.2.1
  refine r_iload_n C dX4_count_0 rfl (lv_at hl 1 rfl) ?_
  by_cases h1 : w = 0
  · refine r_tableIn C (0) h1 dX4_count_1 (by decide) (by decide) rfl (tgt := 32) (by decide) ?_
    refine r_aload_n C dX4_count_32 rfl (lv_at hl 0 rfl) ?_
    refine g_X4_7 C hP 0 rfl rfl dX4_count_33 ?_
    refine r_iconst C dX4_count_36 ?_
    refine r_iald C hP 1 rfl dX4_count_37 (by omega) (by omega) (by decide) ?_
    exact r_iretE C hP hS (ot, sd, sp, mo, tl) (by first | (simp only [fCount, fD, fV, eq_true h1, not_true_eq_false, not_false_eq_true, and_true, true_and, and_false, false_and, or_true, true_or, or_false, false_or, if_true, if_false, ne_eq, reduceIte]; done) | (exfalso; omega)) (by first | (simp only [fCount, fD, fV, eq_true h1, not_true_eq_false, not_false_eq_true, and_true, true_and, and_false, false_and, or_true, true_or, or_false, false_or, if_true, if_false, ne_eq, reduceIte]; done) | (exfalso; omega)) dX4_count_38
  by_cases h2 : w = 1
  · refine r_tableIn C (1) h2 dX4_count_1 (by decide) (by decide) rfl (tgt := 39) (by decide) ?_
    refine r_aload_n C dX4_count_39 rfl (lv_at hl 0 rfl) ?_
    refine g_X4_174 C hP 0 rfl rfl dX4_count_40 ?_
    exact r_iretE C hP hS (ot, sd, sp, mo, tl) (by first | (simp only [fCount, fD, fV, h1, eq_true h2, not_true_eq_false, not_false_eq_true, and_true, true_and, and_false, false_and, or_true, true_or, or_false, false_or, if_true, if_false, ne_eq, reduceIte]; done) | (exfalso; omega)) (by first | (simp only [fCount, fD, fV, h1, eq_true h2, not_true_eq_false, not_false_eq_true, and_true, true_and, and_false, false_and, or_true, true_or, or_false, false_or, if_true, if_false, ne_eq, reduceIte]; done) | (exfalso; omega)) dX4_count_43
  by_cases h3 : w = 2
  · refine r_tableIn C (2) h3 dX4_count_1 (by decide) (by decide) rfl (tgt := 44) (by decide) ?_
    refine r_aload_n C dX4_count_44 rfl (lv_at hl 0 rfl) ?_
    refine r_iconst C dX4_count_45 ?_
    refine r_cVR1 C m_X4_296 (cM_others (by omega) (by omega) hs) hP rfl rfl hl.1 dX4_count_46 ?_
    exact r_iretE C hP hS (ot, sd, sp, mo, tl) (by first | (simp only [fCount, fD, fV, h1, h2, eq_true h3, not_true_eq_false, not_false_eq_true, and_true, true_and, and_false, false_and, or_true, true_or, or_false, false_or, if_true, if_false, ne_eq, reduceIte]; done) | (exfalso; omega)) (by first | (simp only [fCount, fD, fV, h1, h2, eq_true h3, not_true_eq_false, not_false_eq_true, and_true, true_and, and_false, false_and, or_true, true_or, or_false, false_or, if_true, if_false, ne_eq, reduceIte]; done) | (exfalso; omega)) dX4_count_49
  by_cases h4 : w = 3
  · refine r_tableIn C (3) h4 dX4_count_1 (by decide) (by decide) rfl (tgt := 50) (by decide) ?_
    refine r_aload_n C dX4_count_50 rfl (lv_at hl 0 rfl) ?_
    refine r_bipush C dX4_count_51 (by decide) ?_
    refine r_cVR1 C m_X4_296 (cM_others (by omega) (by omega) hs) hP rfl rfl hl.1 dX4_count_53 ?_
    exact r_iretE C hP hS (ot, sd, sp, mo, tl) (by first | (simp only [fCount, fD, fV, h1, h2, h3, eq_true h4, not_true_eq_false, not_false_eq_true, and_true, true_and, and_false, false_and, or_true, true_or, or_false, false_or, if_true, if_false, ne_eq, reduceIte]; done) | (exfalso; omega)) (by first | (simp only [fCount, fD, fV, h1, h2, h3, eq_true h4, not_true_eq_false, not_false_eq_true, and_true, true_and, and_false, false_and, or_true, true_or, or_false, false_or, if_true, if_false, ne_eq, reduceIte]; done) | (exfalso; omega)) dX4_count_56
  refine r_tableOut C dX4_count_1 (by exact ⟨by omega, by omega⟩) (by omega) (tgt := 57) (by decide) ?_
  refine r_aload_n C dX4_count_57 rfl (lv_at hl 0 rfl) ?_
  refine r_ldc C (-1000000001) ki_X4_48 (by decide) dX4_count_58 ?_
  refine r_cVW1 C m_X4_74 (cM_finds (by omega) (by omega)) hP hD hS [0, 1, 2, 3, 4, 5, 6, 7, 8, 9, 10, 11] (wM a k s kp ot sd (fnd st (-1000000001)) sp tp bi si nu mo ik (-1) tl ta fr to va iw) rfl rfl rfl rfl rfl rfl rfl hl.1 dX4_count_60 (fun H locs hP hD hS => ?_)
  exact r_iretE C hP hS (ot, sd, sp, mo, tl) (by first | (simp only [fCount, fD, fV, h1, h2, h3, h4, not_true_eq_false, not_false_eq_true, and_true, true_and, and_false, false_and, or_true, true_or, or_false, false_or, if_true, if_false, ne_eq, reduceIte]; done) | (exfalso; omega)) (by first | (simp only [fCount, fD, fV, h1, h2, h3, h4, not_true_eq_false, not_false_eq_true, and_true, true_and, and_false, false_and, or_true, true_or, or_false, false_or, if_true, if_false, ne_eq, reduceIte]; done) | (exfalso; omega)) dX4_count_63
set_option maxHeartbeats 4000000 in
set_option maxRecDepth 100000 in
theorem cM_status {w : Int} (zw : In32 w) (hs : Ok s) : ME l yX4_status cX4_status 4 (some .int) 1 25 D k [.ref (a 0), .int (iI w)] (wM a k s kp ot sd st sp tp bi si nu mo ik (-1) tl ta fr to va iw) (fun x : (Int → Int) × (Int → Int) × (Int → Int) × (Int → Int64) × Int => wM a k ((fStatus s st w).2.1) kp x.1 x.2.1 ((fStatus s st w).2.2) x.2.2.1 tp bi si nu x.2.2.2.1 ik (-1) x.2.2.2.2 ta fr to va iw) (some (.int (iI ((fStatus s st w).1)))) := by
  refine ME.mk RX4 rfl (by decide +kernel) (Nat.le_of_ble_eq_true rfl) (fun p e U m0 below meth cd ls C hP hD hS hl => ?_)
  have hl : lv_has ls 4 [(0, .ref (a 0)), (1, .int (iI w))] := hl
  have zw1 := zw.1
  have zw2 := zw.2
  have h00 := hs.1 0 (by decide)
  have h06 := hs.2.2.1
  refine r_iload_n C dX4_status_0 rfl (lv_at hl 1 rfl) ?_
  refine r_i2l C dX4_status_1 (by exact ⟨by omega, by omega⟩) ?_
  refine r_ldc2 C (-1) kl_X4_299 (by decide) dX4_status_2 ?_
  refine r_ldc2 C (6) kl_X4_89 (by decide) dX4_status_5 ?_
  refine r_cSR3 C m_X4_51 (cM_in (by exact ⟨by omega, by omega⟩) (by exact ⟨by omega, by omega⟩) ⟨by decide, by decide⟩) pn0 hl.1 dX4_status_8 ?_
  refine r_ifB_ne C (tgt := 21) dX4_status_11 (by decide) (fun h1 => ?_) (fun h1 => ?_)
  · refine r_iconst C dX4_status_21 ?_
    refine r_istore_n C [(2, .int (iI 0)), (0, .ref (a 0)), (1, .int (iI w))] dX4_status_22 rfl hl (by decide) rfl (fun ls hl => ?_)
    refine r_iconst C dX4_status_23 ?_
    refine r_istore_n C [(3, .int (iI 0)), (2, .int (iI 0)), (0, .ref (a 0)), (1, .int (iI w))] dX4_status_24 rfl hl (by decide) rfl (fun ls hl => ?_)
    refine r_loopR (fun n : Nat => [(0, .ref (a 0)), (1, .int (iI w)), (2, .int (iI (stN st w n))), (3, .int (iI n))]) (7) (lv_eq (lv_sub hl [2, 3, 1, 0] rfl) rfl) (fun n hn ihn ls hl => ?_) (fun ls hl => ?_)
    · have hl : lv_has ls 4 [(0, .ref (a 0)), (1, .int (iI w)), (2, .int (iI (stN st w n))), (3, .int (iI n))] := hl
      refine r_iload_n C dX4_status_25 rfl (lv_at hl 3 rfl) ?_
      refine r_bipush C dX4_status_26 (by decide) ?_
      refine r_icmp_ge C (tgt := 59) dX4_status_28 (by decide) (by exact ⟨by omega, by omega⟩) ⟨by decide, by decide⟩ (fun h2 => ?_) (fun h2 => ?_)
      · exfalso; omega
      · refine r_iload_n C dX4_status_31 rfl (lv_at hl 2 rfl) ?_
        refine r_iload_n C dX4_status_32 rfl (lv_at hl 1 rfl) ?_
        refine r_if_lt C (tgt := 41) dX4_status_33 (by decide) (by exact ⟨by omega, by omega⟩) (fun h3 => ?_) (fun h3 => ?_)
        · refine r_aload_n C dX4_status_41 rfl (lv_at hl 0 rfl) ?_
          refine g_X4_22 C hP 0 rfl rfl dX4_status_42 ?_
          refine r_iload_n C dX4_status_45 rfl (lv_at hl 3 rfl) ?_
          refine r_iald C hP 5 rfl dX4_status_46 (by omega) (by omega) (by decide) ?_
          refine r_goto C (tgt := 51) dX4_status_47 (by decide) ?_
          refine r_iadd C dX4_status_51 ?_
          refine r_istore_n C [(2, .int (iI ((stN st w n) + (st (n))))), (0, .ref (a 0)), (1, .int (iI w)), (3, .int (iI n))] dX4_status_52 rfl hl (by decide) rfl (fun ls hl => ?_)
          refine r_iinc C 3 [(3, .int (iI (n + 1))), (2, .int (iI ((stN st w n) + (st (n))))), (0, .ref (a 0)), (1, .int (iI w))] dX4_status_53 hl rfl (by decide) rfl (fun ls hl => ?_)
          refine r_goto C (tgt := 25) dX4_status_56 (by decide) ?_
          exact ihn ls (lv_eq (lv_sub hl [2, 3, 1, 0] rfl) (by simp only [stN, h1, h2, h3, not_true_eq_false, not_false_eq_true, and_true, true_and, and_false, false_and, or_true, true_or, or_false, false_or, if_true, if_false, ne_eq, reduceIte]; rfl))
        · refine r_iload_n C dX4_status_36 rfl (lv_at hl 3 rfl) ?_
          refine r_iload_n C dX4_status_37 rfl (lv_at hl 1 rfl) ?_
          refine r_icmp_ne C (tgt := 50) dX4_status_38 (by decide) (by exact ⟨by omega, by omega⟩) (by exact ⟨by omega, by omega⟩) (fun h4 => ?_) (fun h4 => ?_)
          · refine r_iconst C dX4_status_50 ?_
            refine r_iadd C dX4_status_51 ?_
            refine r_istore_n C [(2, .int (iI ((stN st w n) + 0))), (0, .ref (a 0)), (1, .int (iI w)), (3, .int (iI n))] dX4_status_52 rfl hl (by decide) rfl (fun ls hl => ?_)
            refine r_iinc C 3 [(3, .int (iI (n + 1))), (2, .int (iI ((stN st w n) + 0))), (0, .ref (a 0)), (1, .int (iI w))] dX4_status_53 hl rfl (by decide) rfl (fun ls hl => ?_)
            refine r_goto C (tgt := 25) dX4_status_56 (by decide) ?_
            exact ihn ls (lv_eq (lv_sub hl [2, 3, 1, 0] rfl) (by simp only [stN, h1, h2, h3, h4, not_true_eq_false, not_false_eq_true, and_true, true_and, and_false, false_and, or_true, true_or, or_false, false_or, if_true, if_false, ne_eq, reduceIte]; rfl))
          · refine r_aload_n C dX4_status_41 rfl (lv_at hl 0 rfl) ?_
            refine g_X4_22 C hP 0 rfl rfl dX4_status_42 ?_
            refine r_iload_n C dX4_status_45 rfl (lv_at hl 3 rfl) ?_
            refine r_iald C hP 5 rfl dX4_status_46 (by omega) (by omega) (by decide) ?_
            refine r_goto C (tgt := 51) dX4_status_47 (by decide) ?_
            refine r_iadd C dX4_status_51 ?_
            refine r_istore_n C [(2, .int (iI ((stN st w n) + (st (n))))), (0, .ref (a 0)), (1, .int (iI w)), (3, .int (iI n))] dX4_status_52 rfl hl (by decide) rfl (fun ls hl => ?_)
            refine r_iinc C 3 [(3, .int (iI (n + 1))), (2, .int (iI ((stN st w n) + (st (n))))), (0, .ref (a 0)), (1, .int (iI w))] dX4_status_53 hl rfl (by decide) rfl (fun ls hl => ?_)
            refine r_goto C (tgt := 25) dX4_status_56 (by decide) ?_
            exact ihn ls (lv_eq (lv_sub hl [2, 3, 1, 0] rfl) (by simp only [stN, h1, h2, h3, eq_true h4, not_true_eq_false, not_false_eq_true, and_true, true_and, and_false, false_and, or_true, true_or, or_false, false_or, if_true, if_false, ne_eq, reduceIte]; rfl))
    · have hl : lv_has ls 4 [(0, .ref (a 0)), (1, .int (iI w)), (2, .int (iI (stN st w 7))), (3, .int (iI 7))] := hl
      refine r_iload_n C dX4_status_25 rfl (lv_at hl 3 rfl) ?_
      refine r_bipush C dX4_status_26 (by decide) ?_
      refine r_icmp_ge C (tgt := 59) dX4_status_28 (by decide) ⟨by decide, by decide⟩ ⟨by decide, by decide⟩ (fun h5 => ?_) (fun h5 => ?_)
      · refine r_iload_n C dX4_status_59 rfl (lv_at hl 2 rfl) ?_
        exact r_iretE C hP hS (ot, sd, sp, mo, tl) (by first | (simp only [fStatus, fD, fV, h1, h5, not_true_eq_false, not_false_eq_true, and_true, true_and, and_false, false_and, or_true, true_or, or_false, false_or, if_true, if_false, ne_eq, reduceIte]; done) | (exfalso; omega)) (by first | (simp only [fStatus, fD, fV, h1, h5, not_true_eq_false, not_false_eq_true, and_true, true_and, and_false, false_and, or_true, true_or, or_false, false_or, if_true, if_false, ne_eq, reduceIte]; done) | (exfalso; omega)) dX4_status_60
      · exfalso; omega
  · refine r_aload_n C dX4_status_14 rfl (lv_at hl 0 rfl) ?_
    refine r_ldc C (-1000000001) ki_X4_48 (by decide) dX4_status_15 ?_
    refine r_cVW1 C m_X4_74 (cM_finds (by omega) (by omega)) hP hD hS [0, 1, 2, 3, 4, 5, 6, 7, 8, 9, 10, 11] (wM a k s kp ot sd (fnd st (-1000000001)) sp tp bi si nu mo ik (-1) tl ta fr to va iw) rfl rfl rfl rfl rfl rfl rfl hl.1 dX4_status_17 (fun H locs hP hD hS => ?_)
    exact r_iretE C hP hS (ot, sd, sp, mo, tl) (by first | (simp only [fStatus, fD, fV, h1, not_true_eq_false, not_false_eq_true, and_true, true_and, and_false, false_and, or_true, true_or, or_false, false_or, if_true, if_false, ne_eq, reduceIte]; done) | (exfalso; omega)) (by first | (simp only [fStatus, fD, fV, h1, not_true_eq_false, not_false_eq_true, and_true, true_and, and_false, false_and, or_true, true_or, or_false, false_or, if_true, if_false, ne_eq, reduceIte]; done) | (exfalso; omega)) dX4_status_20
set_option maxHeartbeats 4000000 in
set_option maxRecDepth 100000 in
theorem cM_wipe   : ME l yX4_wipe cX4_wipe 2 (some .int) 0 0 D k [.ref (a 0)] (wM a k s kp ot sd st sp tp bi si nu mo ik (-1) tl ta fr to va iw) (fun x : (Int → Int) × (Int → Int) × (Int → Int) × (Int → Int64) × Int => wM a k s kp x.1 x.2.1 st x.2.2.1 tp bi si nu x.2.2.2.1 ik (-1) x.2.2.2.2 (((ta, (0 : Int))).2) fr to va iw) (some (.int (iI (((ta, (0 : Int))).1)))) := by
  refine ME.mk RX4 rfl (by decide +kernel) (Nat.le_of_ble_eq_true rfl) (fun p e U m0 below meth cd ls C hP hD hS hl => ?_)
  have hl : lv_has ls 2 [(0, .ref (a 0))] := hl
  refine r_aload_n C dX4_wipe_0 rfl (lv_at hl 0 rfl) ?_
  refine g_X4_174 C hP 0 rfl rfl dX4_wipe_1 ?_
  refine r_istore_n C [(1, .int (iI ta)), (0, .ref (a 0))] dX4_wipe_4 rfl hl (by decide) rfl (fun ls hl => ?_)
  refine r_aload_n C dX4_wipe_5 rfl (lv_at hl 1 rfl) ?_
  refine r_iconst C dX4_wipe_6 ?_
  refine p_X4_174 C hP hD hS 0 (wM a k s kp ot sd st sp tp bi si nu mo ik (-1) tl 0 fr to va iw) rfl (Nat.le_of_ble_eq_true rfl) rfl dX4_wipe_7 (fun H locs hP hD hS => ?_)
  refine r_iload_n C dX4_wipe_10 rfl (lv_at hl 0 rfl) ?_
  exact r_iretE C hP hS (ot, sd, sp, mo, tl) rfl rfl dX4_wipe_11
set_option maxHeartbeats 4000000 in
set_option maxRecDepth 100000 in
theorem cM_feed {b : Int} {n0 : Int} (zb : In32 b) (zn0 : In32 n0) (hta : 0 ≤ ta ∧ ta ≤ 120) : ME l yX4_feed cX4_feed 4 (some .int) 1 25 D k [.ref (a 0), .int (iI b), .int (iI n0)] (wM a k s kp ot sd st sp tp bi si nu mo ik (-1) tl ta fr to va iw) (fun x : (Int → Int) × (Int → Int) × (Int → Int) × (Int → Int64) × Int => wM a k s kp x.1 x.2.1 ((fFeed st tp ta b n0).2.1) x.2.2.1 ((fFeed st tp ta b n0).2.2.1) bi si nu x.2.2.2.1 ik (-1) x.2.2.2.2 ((fFeed st tp ta b n0).2.2.2) fr to va iw) (some (.int (iI ((fFeed st tp ta b n0).1)))) := by
  refine ME.mk RX4 rfl (by decide +kernel) (Nat.le_of_ble_eq_true rfl) (fun p e U m0 below meth cd ls C hP hD hS hl => ?_)
  have hl : lv_has ls 4 [(0, .ref (a 0)), (1, .int (iI b)), (2, .int (iI n0))] := hl
  have zb1 := zb.1
  have zb2 := zb.2
  have zn01 := zn0.1
  have zn02 := zn0.2
  refine r_iload_n C dX4_feed_0 rfl (lv_at hl 2 rfl) ?_
  refine r_i2l C dX4_feed_1 (by exact ⟨by omega, by omega⟩) ?_
  refine r_lconst C (z := 1) dX4_feed_2 (by decide) ?_
  refine r_ldc2 C (4) kl_X4_78 (by decide) dX4_feed_3 ?_
  refine r_cSR3 C m_X4_51 (cM_in (by exact ⟨by omega, by omega⟩) ⟨by decide, by decide⟩ ⟨by decide, by decide⟩) pn0 hl.1 dX4_feed_6 ?_
  refine r_ifB_ne C (tgt := 19) dX4_feed_9 (by decide) (fun h1 => ?_) (fun h1 => ?_)
  · refine r_aload_n C dX4_feed_19 rfl (lv_at hl 0 rfl) ?_
    refine g_X4_174 C hP 0 rfl rfl dX4_feed_20 ?_
    refine r_iload_n C dX4_feed_23 rfl (lv_at hl 2 rfl) ?_
    refine r_iadd C dX4_feed_24 ?_
    refine r_bipush C dX4_feed_25 (by decide) ?_
    refine r_icmp_le C (tgt := 37) dX4_feed_27 (by decide) (by exact ⟨by omega, by omega⟩) ⟨by decide, by decide⟩ (fun h2 => ?_) (fun h2 => ?_)
    · refine r_iload_n C dX4_feed_37 rfl (lv_at hl 2 rfl) ?_
      refine r_iconst C dX4_feed_38 ?_
      refine r_isub C dX4_feed_39 ?_
      refine r_istore_n C [(3, .int (iI (n0 - 1))), (0, .ref (a 0)), (1, .int (iI b)), (2, .int (iI n0))] dX4_feed_40 rfl hl (by decide) rfl (fun ls hl => ?_)
      refine r_loopW (fun n : Nat => [(0, .ref (a 0)), (1, .int (iI b)), (2, .int (iI n0)), (3, .int (iI (n0 - 1 - n)))]) (fun n : Nat => wM a k s kp ot sd st sp (fdT tp ta b n0 n) bi si nu mo ik (-1) tl (ta + n) fr to va iw) (n0.toNat) (lv_eq (lv_sub hl [1, 2, 3, 0] rfl) (by rw [show n0 - 1 - ((0 : Nat) : Int) = n0 - 1 by omega]; rfl)) (va_eq hP (by rw [show ta + ((0 : Nat) : Int) = ta by omega]; rfl)) (va_eqD hD (by rw [show ta + ((0 : Nat) : Int) = ta by omega]; rfl)) hS (fun n hn ihn ls H locs hl hP hD hS => ?_) (fun ls H locs hl hP hD hS => ?_)
      · have hl : lv_has ls 4 [(0, .ref (a 0)), (1, .int (iI b)), (2, .int (iI n0)), (3, .int (iI (n0 - 1 - n)))] := hl
        have hP : va_P D vwCl (wM a k s kp ot sd st sp (fdT tp ta b n0 n) bi si nu mo ik (-1) tl (ta + n) fr to va iw) H := hP
        have hD : va_D _ (wM a k s kp ot sd st sp (fdT tp ta b n0 n) bi si nu mo ik (-1) tl (ta + n) fr to va iw) := hD
        refine r_iload_n C dX4_feed_41 rfl (lv_at hl 3 rfl) ?_
        refine r_if_lt C (tgt := 80) dX4_feed_42 (by decide) (by exact ⟨by omega, by omega⟩) (fun h3 => ?_) (fun h3 => ?_)
        · exfalso; omega
        · refine r_aload_n C dX4_feed_45 rfl (lv_at hl 0 rfl) ?_
          refine g_X4_32 C hP 0 rfl rfl dX4_feed_46 ?_
          refine r_aload_n C dX4_feed_49 rfl (lv_at hl 0 rfl) ?_
          refine g_X4_174 C hP 0 rfl rfl dX4_feed_50 ?_
          refine r_iload_n C dX4_feed_53 rfl (lv_at hl 1 rfl) ?_
          refine r_bipush C dX4_feed_54 (by decide) ?_
          refine r_iload_n C dX4_feed_56 rfl (lv_at hl 3 rfl) ?_
          refine r_imul C dX4_feed_57 ?_
          refine r_byt C zb (by omega) (by omega) dX4_feed_58 dX4_feed_59 dX4_feed_62 ?_
          refine r_iast C hP hD hS 7 (wM a k s kp ot sd st sp (up (fdT tp ta b n0 n) (ta + n) (byt b (n0 - 1 - n))) bi si nu mo ik (-1) tl (ta + n) fr to va iw) rfl dX4_feed_63 (by omega) (by omega) (by decide) rfl (fun H locs hP hD hS => ?_)
          refine r_aload_n C dX4_feed_64 rfl (lv_at hl 0 rfl) ?_
          refine r_dup C dX4_feed_65 rfl ?_
          refine g_X4_174 C hP 0 rfl rfl dX4_feed_66 ?_
          refine r_iconst C dX4_feed_69 ?_
          refine r_iadd C dX4_feed_70 ?_
          refine p_X4_174 C hP hD hS 0 (wM a k s kp ot sd st sp (up (fdT tp ta b n0 n) (ta + n) (byt b (n0 - 1 - n))) bi si nu mo ik (-1) tl ((ta + n) + 1) fr to va iw) rfl (Nat.le_of_ble_eq_true rfl) rfl dX4_feed_71 (fun H locs hP hD hS => ?_)
          refine r_iinc C 3 [(3, .int (iI (n0 - 1 - n + (-1)))), (0, .ref (a 0)), (1, .int (iI b)), (2, .int (iI n0))] dX4_feed_74 hl rfl (by decide) rfl (fun ls hl => ?_)
          refine r_goto C (tgt := 41) dX4_feed_77 (by decide) ?_
          have ew1 : wM a k s kp ot sd st sp (up (fdT tp ta b n0 n) (ta + n) (byt b (n0 - 1 - n))) bi si nu mo ik (-1) tl ((ta + n) + 1) fr to va iw = wM a k s kp ot sd st sp (fdT tp ta b n0 (n + 1)) bi si nu mo ik (-1) tl (ta + (n + 1)) fr to va iw := (by rw [fdT, show ta + ((n : Int) + 1) = ta + n + 1 by omega])
          exact ihn ls H locs (lv_eq (lv_sub hl [1, 2, 3, 0] rfl) (by rw [show n0 - 1 - ((n + 1 : Nat) : Int) = n0 - 1 - n + (-1) by omega]; rfl)) (va_eq hP ew1) (va_eqD hD ew1) hS
      · have hl : lv_has ls 4 [(0, .ref (a 0)), (1, .int (iI b)), (2, .int (iI n0)), (3, .int (iI (n0 - 1 - n0.toNat)))] := hl
        have hP : va_P D vwCl (wM a k s kp ot sd st sp (fdT tp ta b n0 n0.toNat) bi si nu mo ik (-1) tl (ta + n0.toNat) fr to va iw) H := hP
        have hD : va_D _ (wM a k s kp ot sd st sp (fdT tp ta b n0 n0.toNat) bi si nu mo ik (-1) tl (ta + n0.toNat) fr to va iw) := hD
        refine r_iload_n C dX4_feed_41 rfl (lv_at hl 3 rfl) ?_
        refine r_if_lt C (tgt := 80) dX4_feed_42 (by decide) (by exact ⟨by omega, by omega⟩) (fun h4 => ?_) (fun h4 => ?_)
        · refine r_aload_n C dX4_feed_80 rfl (lv_at hl 0 rfl) ?_
          refine g_X4_174 C hP 0 rfl rfl dX4_feed_81 ?_
          exact r_iretE C hP hS (ot, sd, sp, mo, tl) (by first | (simp only [fFeed, h1, h2, h4, not_true_eq_false, not_false_eq_true, and_true, true_and, and_false, false_and, or_true, true_or, or_false, false_or, if_true, if_false, ne_eq, reduceIte]; done) | (simp only [fFeed, h1, h2, h4, not_true_eq_false, not_false_eq_true, and_true, true_and, and_false, false_and, or_true, true_or, or_false, false_or, if_true, if_false, ne_eq, reduceIte, Int.toNat_of_nonneg (show 0 ≤ n0 by omega)])) (by first | (simp only [fFeed, h1, h2, h4, not_true_eq_false, not_false_eq_true, and_true, true_and, and_false, false_and, or_true, true_or, or_false, false_or, if_true, if_false, ne_eq, reduceIte]; done) | (simp only [fFeed, h1, h2, h4, not_true_eq_false, not_false_eq_true, and_true, true_and, and_false, false_and, or_true, true_or, or_false, false_or, if_true, if_false, ne_eq, reduceIte, Int.toNat_of_nonneg (show 0 ≤ n0 by omega)])) dX4_feed_84
        · exfalso; omega
    · refine r_aload_n C dX4_feed_30 rfl (lv_at hl 0 rfl) ?_
      refine r_ldc C (-1000000002) ki_X4_96 (by decide) dX4_feed_31 ?_
      refine r_cVW1 C m_X4_74 (cM_finds (by omega) (by omega)) hP hD hS [0, 1, 2, 3, 4, 5, 6, 7, 8, 9, 10, 11] (wM a k s kp ot sd (fnd st (-1000000002)) sp tp bi si nu mo ik (-1) tl ta fr to va iw) rfl rfl rfl rfl rfl rfl rfl hl.1 dX4_feed_33 (fun H locs hP hD hS => ?_)
      exact r_iretE C hP hS (ot, sd, sp, mo, tl) (by first | (simp only [fFeed, h1, h2, not_true_eq_false, not_false_eq_true, and_true, true_and, and_false, false_and, or_true, true_or, or_false, false_or, if_true, if_false, ne_eq, reduceIte]; done) | (simp only [fFeed, h1, h2, not_true_eq_false, not_false_eq_true, and_true, true_and, and_false, false_and, or_true, true_or, or_false, false_or, if_true, if_false, ne_eq, reduceIte, Int.toNat_of_nonneg (show 0 ≤ n0 by omega)])) (by first | (simp only [fFeed, h1, h2, not_true_eq_false, not_false_eq_true, and_true, true_and, and_false, false_and, or_true, true_or, or_false, false_or, if_true, if_false, ne_eq, reduceIte]; done) | (simp only [fFeed, h1, h2, not_true_eq_false, not_false_eq_true, and_true, true_and, and_false, false_and, or_true, true_or, or_false, false_or, if_true, if_false, ne_eq, reduceIte, Int.toNat_of_nonneg (show 0 ≤ n0 by omega)])) dX4_feed_36
  · refine r_aload_n C dX4_feed_12 rfl (lv_at hl 0 rfl) ?_
    refine r_ldc C (-1000000001) ki_X4_48 (by decide) dX4_feed_13 ?_
    refine r_cVW1 C m_X4_74 (cM_finds (by omega) (by omega)) hP hD hS [0, 1, 2, 3, 4, 5, 6, 7, 8, 9, 10, 11] (wM a k s kp ot sd (fnd st (-1000000001)) sp tp bi si nu mo ik (-1) tl ta fr to va iw) rfl rfl rfl rfl rfl rfl rfl hl.1 dX4_feed_15 (fun H locs hP hD hS => ?_)
    exact r_iretE C hP hS (ot, sd, sp, mo, tl) (by first | (simp only [fFeed, h1, not_true_eq_false, not_false_eq_true, and_true, true_and, and_false, false_and, or_true, true_or, or_false, false_or, if_true, if_false, ne_eq, reduceIte]; done) | (simp only [fFeed, h1, not_true_eq_false, not_false_eq_true, and_true, true_and, and_false, false_and, or_true, true_or, or_false, false_or, if_true, if_false, ne_eq, reduceIte, Int.toNat_of_nonneg (show 0 ≤ n0 by omega)])) (by first | (simp only [fFeed, h1, not_true_eq_false, not_false_eq_true, and_true, true_and, and_false, false_and, or_true, true_or, or_false, false_or, if_true, if_false, ne_eq, reduceIte]; done) | (simp only [fFeed, h1, not_true_eq_false, not_false_eq_true, and_true, true_and, and_false, false_and, or_true, true_or, or_false, false_or, if_true, if_false, ne_eq, reduceIte, Int.toNat_of_nonneg (show 0 ≤ n0 by omega)])) dX4_feed_18
end MODEL
