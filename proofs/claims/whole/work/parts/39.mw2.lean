section CLASS
variable {l : Launch} {D : va_G} {k : Nat → ClassId} {b d : Nat → Nat} {s t : Int → Int} {y ty : Int}
theorem wr_pay2 {s : Int → Int} {m c : Int} (hm : 0 ≤ m) : wrF (pay2 s m c) = wrF s := by
  unfold pay2
  rw [wrF_o (by omega), wrF_o (by omega)]
theorem l48_sp (p k : Int) : L48 (spF p k) := fun j hj => by unfold spF; rw [decide_eq_false (show ¬ j < 48 by omega), Bool.false_and]
theorem l48_lo (s : Int → Int) (v : Int) : L48 (loF s v 48) := fun j hj => by unfold loF; rw [decide_eq_false (show ¬ j < 48 by omega), Bool.false_and]
set_option maxHeartbeats 4000000 in
set_option maxRecDepth 100000 in
theorem cW_nearestTo {pp : Int} (hp : 0 ≤ pp) (hp1 : pp < 48) (hex : ∃ i : Nat, i < 48 ∧ untrue s i) : MR l yX2_nearestTo cX2_nearestTo 5 (some .int) 2 42 D k [.ref (b 0), .int (iI pp)] (wW b k s (lB (wrF s)) y) (.int (iI (((nr s pp : Nat) : Int)))) := by
  refine MR.mk RX2 rfl (by decide +kernel) (Nat.le_of_ble_eq_true rfl) (fun p e U m0 below meth cd ls C hP hl => ?_)
  have hl : lv_has ls 5 [(0, .ref (b 0)), (1, .int (iI pp))] := hl
  refine r_lconst C (z := 1) dX2_nearestTo_0 (by decide) ?_
  refine r_iload_n C dX2_nearestTo_1 rfl (lv_at hl 1 rfl) ?_
  refine r_lone C (by omega) (by omega) dX2_nearestTo_2 ?_
  refine r_lstore_n C [(2, .long (lB (onF pp))), (0, .ref (b 0)), (1, .int (iI pp))] dX2_nearestTo_3 rfl hl (by decide) rfl (fun ls hl => ?_)
  refine r_iconst C dX2_nearestTo_4 ?_
  refine r_istore C [(4, .int (iI 0)), (2, .long (lB (onF pp))), (0, .ref (b 0)), (1, .int (iI pp))] dX2_nearestTo_5 hl (by decide) rfl (fun ls hl => ?_)
  refine r_loopRJ (fun n : Nat => [(0, .ref (b 0)), (1, .int (iI pp)), (2, .long (lB (spF pp n))), (4, .int (iI n))]) (48) (fun n : Nat => ∀ j : Nat, j < n → ¬ nrP s pp j) (fun j h => absurd h (Nat.not_lt_zero j)) (lv_eq (lv_sub hl [2, 3, 1, 0] rfl) (by rw [show lB (onF pp) = lB (spF pp ((0 : Nat) : Int)) from lB_cong (fun i _ => sp_0 hp hp1)]; rfl)) (fun n hn ihn hJn ls hl => ?_) (fun hJn ls hl => ?_)
  · have hl : lv_has ls 5 [(0, .ref (b 0)), (1, .int (iI pp)), (2, .long (lB (spF pp n))), (4, .int (iI n))] := hl
    have hJn : ∀ j : Nat, j < n → ¬ nrP s pp j := hJn
    refine r_iload C dX2_nearestTo_7 (lv_at hl 3 rfl) ?_
    refine r_bipush C dX2_nearestTo_9 (by decide) ?_
    refine r_icmp_ge C (tgt := 38) dX2_nearestTo_11 (by decide) (by exact ⟨by omega, by omega⟩) ⟨by decide, by decide⟩ (fun h1 => ?_) (fun h1 => ?_)
    · exfalso; omega
    · refine r_lload_n C dX2_nearestTo_14 rfl (lv_at hl 2 rfl) ?_
      refine r_aload_n C dX2_nearestTo_15 rfl (lv_at hl 0 rfl) ?_
      refine g_X2_46 C hP 0 rfl rfl dX2_nearestTo_16 ?_
      refine r_landB C dX2_nearestTo_19 ?_
      refine r_lconst C (z := 0) dX2_nearestTo_20 (by decide) ?_
      refine r_lzB_ne C (tgt := 38) dX2_nearestTo_21 dX2_nearestTo_22 (by decide) (fun h2 => ?_) (fun h2 => ?_)
      · have eK : nrK s pp = n := fst0_yes (p := nrP s pp) h2 hJn (n := 48) (by omega)
        have hsp := nr_spec hp hp1 hex
        rw [eK] at hsp
        refine r_lload_n C dX2_nearestTo_38 rfl (lv_at hl 2 rfl) ?_
        refine r_aload_n C dX2_nearestTo_39 rfl (lv_at hl 0 rfl) ?_
        refine g_X2_46 C hP 0 rfl rfl dX2_nearestTo_40 ?_
        refine r_landB C dX2_nearestTo_43 ?_
        refine r_cNR1 C m_X2_86 (cT_leastOf (j := nr s pp) (l48_an2 _ (l48_wr s)) hsp.2.2.1 hsp.2.2.2) pn0 hl.1 dX2_nearestTo_44 ?_
        exact r_iretR C rfl dX2_nearestTo_47
      · refine r_lload_n C dX2_nearestTo_25 rfl (lv_at hl 2 rfl) ?_
        refine r_lload_n C dX2_nearestTo_26 rfl (lv_at hl 2 rfl) ?_
        refine r_cNR1 C m_X2_68 (cT_beside (l48_sp _ _)) pn0 hl.1 dX2_nearestTo_27 ?_
        refine r_lorB C dX2_nearestTo_30 ?_
        refine r_lstore_n C [(2, .long (lB (orF (spF pp n) (bsF (spF pp n))))), (0, .ref (b 0)), (1, .int (iI pp)), (4, .int (iI n))] dX2_nearestTo_31 rfl hl (by decide) rfl (fun ls hl => ?_)
        refine r_iinc C 3 [(4, .int (iI (n + 1))), (2, .long (lB (orF (spF pp n) (bsF (spF pp n))))), (0, .ref (b 0)), (1, .int (iI pp))] dX2_nearestTo_32 hl rfl (by decide) rfl (fun ls hl => ?_)
        refine r_goto C (tgt := 7) dX2_nearestTo_35 (by decide) ?_
        exact ihn (lt_s hJn (fun q => q h2)) ls (lv_eq (lv_sub hl [2, 3, 1, 0] rfl) (by rw [show lB (orF (spF pp n) (bsF (spF pp n))) = lB (spF pp ((n + 1 : Nat) : Int)) from lB_cong (fun i _ => sp_next hp hp1 (by omega))]; rfl))
  · have hl : lv_has ls 5 [(0, .ref (b 0)), (1, .int (iI pp)), (2, .long (lB (spF pp 48))), (4, .int (iI 48))] := hl
    have hJn : ∀ j : Nat, j < 48 → ¬ nrP s pp j := hJn
    exact absurd (nr_end hp hp1 hex (k := ((13 : Nat) : Int)) (by decide)) (hJn 13 (by omega))
set_option maxHeartbeats 4000000 in
set_option maxRecDepth 100000 in
theorem cW_goalOf {m : Int} (hm : 0 ≤ m) (hm1 : m < 6) (hs : Ok s) : MR l yX2_goalOf cX2_goalOf 6 (some .int) 3 66 D k [.ref (b 0), .int (iI m)] (wW b k s (lB (wrF s)) y) (.int (iI (goesFor s m))) := by
  refine MR.mk RX2 rfl (by decide +kernel) (Nat.le_of_ble_eq_true rfl) (fun p e U m0 below meth cd ls C hP hl => ?_)
  have hl : lv_has ls 6 [(0, .ref (b 0)), (1, .int (iI m))] := hl
  refine r_aload_n C dX2_goalOf_0 rfl (lv_at hl 0 rfl) ?_
  refine g_X2_46 C hP 0 rfl rfl dX2_goalOf_1 ?_
  refine r_lconst C (z := 0) dX2_goalOf_4 (by decide) ?_
  refine r_lzB_ne C (tgt := 11) dX2_goalOf_5 dX2_goalOf_6 (by decide) (fun h1 => ?_) (fun h1 => ?_)
  · have hpl := hs.2.2.2 m hm hm1
    refine r_aload_n C dX2_goalOf_11 rfl (lv_at hl 0 rfl) ?_
    refine g_X2_18 C hP 0 rfl rfl dX2_goalOf_12 ?_
    refine r_iload_n C dX2_goalOf_15 rfl (lv_at hl 1 rfl) ?_
    refine r_ialdV C hP 3 (s (99 + 4 * m + 0)) rfl dX2_goalOf_16 (by omega) (by omega) (by decide) (ki_at (by omega) (by omega)) ?_
    refine r_iconst C dX2_goalOf_17 ?_
    refine r_icmp_eq C (tgt := 32) dX2_goalOf_18 (by decide) (by have := hs.1 (99 + 4 * m + 0) (by omega); exact ⟨by omega, by omega⟩) ⟨by decide, by decide⟩ (fun h2 => ?_) (fun h2 => ?_)
    · refine r_iconst C dX2_goalOf_32 ?_
      refine r_istore_n C [(2, .int (iI (-1))), (0, .ref (b 0)), (1, .int (iI m))] dX2_goalOf_33 rfl hl (by decide) rfl (fun ls hl => ?_)
      refine r_iconst C dX2_goalOf_34 ?_
      refine r_istore_n C [(3, .int (iI 0)), (2, .int (iI (-1))), (0, .ref (b 0)), (1, .int (iI m))] dX2_goalOf_35 rfl hl (by decide) rfl (fun ls hl => ?_)
      refine r_iconst C dX2_goalOf_36 ?_
      refine r_istore C [(4, .int (iI 0)), (3, .int (iI 0)), (2, .int (iI (-1))), (0, .ref (b 0)), (1, .int (iI m))] dX2_goalOf_37 hl (by decide) rfl (fun ls hl => ?_)
      refine r_loopR (fun n : Nat => [(0, .ref (b 0)), (1, .int (iI m)), (2, .int (iI ((gf s m n).1))), (3, .int (iI ((gf s m n).2))), (4, .int (iI n))]) (48) (lv_eq (lv_sub hl [3, 4, 2, 1, 0] rfl) rfl) (fun n hn ihn ls hl => ?_) (fun ls hl => ?_)
      · have hl : lv_has ls 6 [(0, .ref (b 0)), (1, .int (iI m)), (2, .int (iI ((gf s m n).1))), (3, .int (iI ((gf s m n).2))), (4, .int (iI n))] := hl
        have h9 := gf_rg hs hm hm1 n (by omega)
        refine r_iload C dX2_goalOf_39 (lv_at hl 4 rfl) ?_
        refine r_bipush C dX2_goalOf_41 (by decide) ?_
        refine r_icmp_ge C (tgt := 85) dX2_goalOf_43 (by decide) (by exact ⟨by omega, by omega⟩) ⟨by decide, by decide⟩ (fun h3 => ?_) (fun h3 => ?_)
        · exfalso; omega
        · refine r_aload_n C dX2_goalOf_46 rfl (lv_at hl 0 rfl) ?_
          refine g_X2_46 C hP 0 rfl rfl dX2_goalOf_47 ?_
          refine r_iload C dX2_goalOf_50 (lv_at hl 4 rfl) ?_
          refine r_cNR2 C m_X2_52 (cT_hasW s (by omega) (by omega)) pn0 hl.1 dX2_goalOf_52 ?_
          refine r_ifB_eq C (tgt := 79) dX2_goalOf_55 (by decide) (fun h4 => ?_) (fun h4 => ?_)
          · refine r_iinc C 4 [(4, .int (iI (n + 1))), (0, .ref (b 0)), (1, .int (iI m)), (2, .int (iI ((gf s m n).1))), (3, .int (iI ((gf s m n).2)))] dX2_goalOf_79 hl rfl (by decide) rfl (fun ls hl => ?_)
            refine r_goto C (tgt := 39) dX2_goalOf_82 (by decide) ?_
            exact ihn ls (lv_eq (lv_sub hl [1, 2, 3, 4, 0] rfl) (by first | (simp only [gf, gfv, h9.2.1, h1, eq_true h2, h3, h4, not_true_eq_false, not_false_eq_true, and_true, true_and, and_false, false_and, or_true, true_or, or_false, false_or, if_true, if_false, ne_eq, reduceIte]; done) | (simp only [gf, gfv, h9.2.1, h1, eq_true h2, h3, h4, not_true_eq_false, not_false_eq_true, and_true, true_and, and_false, false_and, or_true, true_or, or_false, false_or, if_true, if_false, ne_eq, reduceIte]; rfl) | (exfalso; omega)))
          · refine r_aload_n C dX2_goalOf_58 rfl (lv_at hl 0 rfl) ?_
            refine r_iload_n C dX2_goalOf_59 rfl (lv_at hl 1 rfl) ?_
            refine r_iload C dX2_goalOf_60 (lv_at hl 4 rfl) ?_
            refine r_cVR2 C m_X2_83 (cW_costOf (b := b) (s := s) (y := y) (by omega) (by omega) (by omega) (by omega) hs) hP rfl rfl hl.1 dX2_goalOf_62 ?_
            refine r_istore C [(5, .int (iI (cost s m n))), (0, .ref (b 0)), (1, .int (iI m)), (2, .int (iI ((gf s m n).1))), (3, .int (iI ((gf s m n).2))), (4, .int (iI n))] dX2_goalOf_65 hl (by decide) rfl (fun ls hl => ?_)
            refine r_iload C dX2_goalOf_67 (lv_at hl 0 rfl) ?_
            refine r_iload_n C dX2_goalOf_69 rfl (lv_at hl 4 rfl) ?_
            refine r_icmp_le C (tgt := 79) dX2_goalOf_70 (by decide) (by have := cost_rg hs (m := m) (c := n) (by omega) (by omega); exact ⟨by omega, by omega⟩) (by exact ⟨by omega, by omega⟩) (fun h5 => ?_) (fun h5 => ?_)
            · refine r_iinc C 5 [(4, .int (iI (n + 1))), (5, .int (iI (cost s m n))), (0, .ref (b 0)), (1, .int (iI m)), (2, .int (iI ((gf s m n).1))), (3, .int (iI ((gf s m n).2)))] dX2_goalOf_79 hl rfl (by decide) rfl (fun ls hl => ?_)
              refine r_goto C (tgt := 39) dX2_goalOf_82 (by decide) ?_
              exact ihn ls (lv_eq (lv_sub hl [2, 3, 4, 5, 0] rfl) (by first | (simp only [gf, gfv, h9.2.1, h1, eq_true h2, h3, h4, h5, not_true_eq_false, not_false_eq_true, and_true, true_and, and_false, false_and, or_true, true_or, or_false, false_or, if_true, if_false, ne_eq, reduceIte]; done) | (simp only [gf, gfv, h9.2.1, h1, eq_true h2, h3, h4, h5, not_true_eq_false, not_false_eq_true, and_true, true_and, and_false, false_and, or_true, true_or, or_false, false_or, if_true, if_false, ne_eq, reduceIte]; rfl) | (exfalso; omega)))
            · refine r_iload C dX2_goalOf_73 (lv_at hl 0 rfl) ?_
              refine r_istore_n C [(3, .int (iI (cost s m n))), (5, .int (iI (cost s m n))), (0, .ref (b 0)), (1, .int (iI m)), (2, .int (iI ((gf s m n).1))), (4, .int (iI n))] dX2_goalOf_75 rfl hl (by decide) rfl (fun ls hl => ?_)
              refine r_iload C dX2_goalOf_76 (lv_at hl 5 rfl) ?_
              refine r_istore_n C [(2, .int (iI n)), (3, .int (iI (cost s m n))), (5, .int (iI (cost s m n))), (0, .ref (b 0)), (1, .int (iI m)), (4, .int (iI n))] dX2_goalOf_78 rfl hl (by decide) rfl (fun ls hl => ?_)
              refine r_iinc C 5 [(4, .int (iI (n + 1))), (2, .int (iI n)), (3, .int (iI (cost s m n))), (5, .int (iI (cost s m n))), (0, .ref (b 0)), (1, .int (iI m))] dX2_goalOf_79 hl rfl (by decide) rfl (fun ls hl => ?_)
              refine r_goto C (tgt := 39) dX2_goalOf_82 (by decide) ?_
              exact ihn ls (lv_eq (lv_sub hl [4, 5, 1, 2, 0] rfl) (by first | (simp only [gf, gfv, h9.2.1, h1, eq_true h2, h3, h4, h5, not_true_eq_false, not_false_eq_true, and_true, true_and, and_false, false_and, or_true, true_or, or_false, false_or, if_true, if_false, ne_eq, reduceIte]; done) | (simp only [gf, gfv, h9.2.1, h1, eq_true h2, h3, h4, h5, not_true_eq_false, not_false_eq_true, and_true, true_and, and_false, false_and, or_true, true_or, or_false, false_or, if_true, if_false, ne_eq, reduceIte]; rfl) | (exfalso; omega)))
      · have hl : lv_has ls 6 [(0, .ref (b 0)), (1, .int (iI m)), (2, .int (iI ((gf s m 48).1))), (3, .int (iI ((gf s m 48).2))), (4, .int (iI 48))] := hl
        have h9 := gf_rg hs hm hm1 48 (by omega)
        refine r_iload C dX2_goalOf_39 (lv_at hl 4 rfl) ?_
        refine r_bipush C dX2_goalOf_41 (by decide) ?_
        refine r_icmp_ge C (tgt := 85) dX2_goalOf_43 (by decide) ⟨by decide, by decide⟩ ⟨by decide, by decide⟩ (fun h6 => ?_) (fun h6 => ?_)
        · refine r_iload_n C dX2_goalOf_85 rfl (lv_at hl 2 rfl) ?_
          exact r_iretR C rfl dX2_goalOf_86
        · exfalso; omega
    · refine r_aload_n C dX2_goalOf_21 rfl (lv_at hl 0 rfl) ?_
      refine r_aload_n C dX2_goalOf_22 rfl (lv_at hl 0 rfl) ?_
      refine g_X2_21 C hP 0 rfl rfl dX2_goalOf_23 ?_
      refine r_iload_n C dX2_goalOf_26 rfl (lv_at hl 1 rfl) ?_
      refine r_ialdV C hP 4 (s (99 + 4 * m + 1)) rfl dX2_goalOf_27 (by omega) (by omega) (by decide) (pl_at (by omega) (by omega)) ?_
      refine r_cVR1 C m_X2_80 (cW_nearestTo (b := b) (s := s) (y := y) (by have := hs.1 (99 + 4 * m + 1) (by omega); omega) (by have := hs.1 (99 + 4 * m + 1) (by omega); omega) (wr_some h1)) hP rfl rfl hl.1 dX2_goalOf_28 ?_
      exact r_iretR C (congrArg iI (nr_gf (by have := hs.1 (99 + 4 * m + 1) (by omega); omega) hpl h2 (wr_some h1)).symm) dX2_goalOf_31
  · refine r_iconst C dX2_goalOf_9 ?_
    exact r_iretR C (congrArg iI (show (-1 : Int) = goesFor s m by unfold goesFor; rw [gf_none (wr_none h1) 48 (Nat.le_refl 48)])) dX2_goalOf_10
set_option maxHeartbeats 4000000 in
set_option maxRecDepth 100000 in
theorem cW_costOfGoal {m : Int} (hm : 0 ≤ m) (hm1 : m < 6) (hs : Ok s) : MR l yX2_costOfGoal cX2_costOfGoal 3 (some .int) 4 91 D k [.ref (b 0), .int (iI m)] (wW b k s (lB (wrF s)) y) (.int (iI (if goesFor s m < 0 then 0 else cost s m (goesFor s m)))) := by
  refine MR.mk RX2 rfl (by decide +kernel) (Nat.le_of_ble_eq_true rfl) (fun p e U m0 below meth cd ls C hP hl => ?_)
  have hl : lv_has ls 3 [(0, .ref (b 0)), (1, .int (iI m))] := hl
  refine r_aload_n C dX2_costOfGoal_0 rfl (lv_at hl 0 rfl) ?_
  refine r_iload_n C dX2_costOfGoal_1 rfl (lv_at hl 1 rfl) ?_
  refine r_cVR1 C m_X2_89 (cW_goalOf (b := b) (s := s) (y := y) (by omega) (by omega) hs) hP rfl rfl hl.1 dX2_costOfGoal_2 ?_
  refine r_istore_n C [(2, .int (iI (goesFor s m))), (0, .ref (b 0)), (1, .int (iI m))] dX2_costOfGoal_5 rfl hl (by decide) rfl (fun ls hl => ?_)
  refine r_iload_n C dX2_costOfGoal_6 rfl (lv_at hl 0 rfl) ?_
  refine r_if_ge C (tgt := 14) dX2_costOfGoal_7 (by decide) (by have := goesFor_rg hs (m := m) (by omega) (by omega); exact ⟨by omega, by omega⟩) (fun h1 => ?_) (fun h1 => ?_)
  · refine r_aload_n C dX2_costOfGoal_14 rfl (lv_at hl 1 rfl) ?_
    refine r_iload_n C dX2_costOfGoal_15 rfl (lv_at hl 2 rfl) ?_
    refine r_iload_n C dX2_costOfGoal_16 rfl (lv_at hl 0 rfl) ?_
    refine r_cVR2 C m_X2_83 (cW_costOf (b := b) (s := s) (y := y) (by omega) (by omega) (by have := goesFor_rg hs (m := m) (by omega) (by omega); omega) (by have := goesFor_rg hs (m := m) (by omega) (by omega); omega) hs) hP rfl rfl hl.1 dX2_costOfGoal_17 ?_
    exact r_iretR C (congrArg iI (by simp only [h1, not_true_eq_false, not_false_eq_true, and_true, true_and, and_false, false_and, or_true, true_or, or_false, false_or, if_true, if_false, ne_eq, reduceIte])) dX2_costOfGoal_20
  · refine r_iconst C dX2_costOfGoal_10 ?_
    refine r_goto C (tgt := 20) dX2_costOfGoal_11 (by decide) ?_
    exact r_iretR C (congrArg iI (by simp only [h1, not_true_eq_false, not_false_eq_true, and_true, true_and, and_false, false_and, or_true, true_or, or_false, false_or, if_true, if_false, ne_eq, reduceIte])) dX2_costOfGoal_20
set_option maxHeartbeats 4000000 in
set_option maxRecDepth 100000 in
theorem cW_wrongOnceMended {m : Int} {c : Int} (hm : 0 ≤ m) (hm1 : m < 6) (hc : 0 ≤ c) (hc1 : c < 48) (hs : Ok s) : MR l yX2_wrongOnceMended cX2_wrongOnceMended 11 (some .long) 1 22 D k [.ref (b 0), .int (iI m), .int (iI c)] (wW b k s (lB (wrF s)) y) (.long (lB (wrF (mends s m c)))) := by
  refine MR.mk RX2 rfl (by decide +kernel) (Nat.le_of_ble_eq_true rfl) (fun p e U m0 below meth cd ls C hP hl => ?_)
  have hl : lv_has ls 11 [(0, .ref (b 0)), (1, .int (iI m)), (2, .int (iI c))] := hl
  refine r_aload_n C dX2_wrongOnceMended_0 rfl (lv_at hl 0 rfl) ?_
  refine g_X2_46 C hP 0 rfl rfl dX2_wrongOnceMended_1 ?_
  refine r_lconst C (z := 1) dX2_wrongOnceMended_4 (by decide) ?_
  refine r_iload_n C dX2_wrongOnceMended_5 rfl (lv_at hl 2 rfl) ?_
  refine r_lone C (by omega) (by omega) dX2_wrongOnceMended_6 ?_
  refine r_ldc2 C (-1) kl_X2_50 (by decide) dX2_wrongOnceMended_7 ?_
  refine r_lnotB C dX2_wrongOnceMended_10 ?_
  refine r_landB C dX2_wrongOnceMended_11 ?_
  refine r_lstore_n C [(3, .long (lB (anF (wrF s) (noF (onF c))))), (0, .ref (b 0)), (1, .int (iI m)), (2, .int (iI c))] dX2_wrongOnceMended_12 rfl hl (by decide) rfl (fun ls hl => ?_)
  refine r_aload_n C dX2_wrongOnceMended_13 rfl (lv_at hl 1 rfl) ?_
  refine g_X2_18 C hP 0 rfl rfl dX2_wrongOnceMended_14 ?_
  refine r_iload_n C dX2_wrongOnceMended_17 rfl (lv_at hl 2 rfl) ?_
  refine r_ialdV C hP 3 (s (99 + 4 * m + 0)) rfl dX2_wrongOnceMended_18 (by omega) (by omega) (by decide) (ki_at (by omega) (by omega)) ?_
  refine r_iconst C dX2_wrongOnceMended_19 ?_
  refine r_icmp_ne C (tgt := 25) dX2_wrongOnceMended_20 (by decide) (by have := hs.1 (99 + 4 * m + 0) (by omega); exact ⟨by omega, by omega⟩) ⟨by decide, by decide⟩ (fun h1 => ?_) (fun h1 => ?_)
  · refine r_aload_n C dX2_wrongOnceMended_25 rfl (lv_at hl 1 rfl) ?_
    refine g_X2_15 C hP 0 rfl rfl dX2_wrongOnceMended_26 ?_
    refine r_iload_n C dX2_wrongOnceMended_29 rfl (lv_at hl 3 rfl) ?_
    refine r_ialdV C hP 2 (s (51 + c)) rfl dX2_wrongOnceMended_30 (by omega) (by omega) (by decide) (ma_at (by omega) (by omega)) ?_
    refine r_cSR1 C m_X2_92 (cW_sortSpoiltBy (by have := hs.1 (51 + c) (by omega); omega) (by have := hs.1 (51 + c) (by omega); omega)) pn0 hl.1 dX2_wrongOnceMended_31 ?_
    refine r_istore C [(5, .int (iI (spB (s (51 + c))))), (3, .long (lB (anF (wrF s) (noF (onF c))))), (0, .ref (b 0)), (1, .int (iI m)), (2, .int (iI c))] dX2_wrongOnceMended_34 hl (by decide) rfl (fun ls hl => ?_)
    refine r_aload_n C dX2_wrongOnceMended_36 rfl (lv_at hl 2 rfl) ?_
    refine g_X2_15 C hP 0 rfl rfl dX2_wrongOnceMended_37 ?_
    refine r_iload_n C dX2_wrongOnceMended_40 rfl (lv_at hl 4 rfl) ?_
    refine r_ialdV C hP 2 (s (51 + c)) rfl dX2_wrongOnceMended_41 (by omega) (by omega) (by decide) (ma_at (by omega) (by omega)) ?_
    refine r_cSR1 C m_X2_95 (cW_sortSpoiltTo (by have := hs.1 (51 + c) (by omega); omega) (by have := hs.1 (51 + c) (by omega); omega)) pn0 hl.1 dX2_wrongOnceMended_42 ?_
    refine r_istore C [(6, .int (iI (spT (s (51 + c))))), (5, .int (iI (spB (s (51 + c))))), (3, .long (lB (anF (wrF s) (noF (onF c))))), (0, .ref (b 0)), (1, .int (iI m)), (2, .int (iI c))] dX2_wrongOnceMended_45 hl (by decide) rfl (fun ls hl => ?_)
    refine r_iconst C dX2_wrongOnceMended_47 ?_
    refine r_istore C [(7, .int (iI 0)), (6, .int (iI (spT (s (51 + c))))), (5, .int (iI (spB (s (51 + c))))), (3, .long (lB (anF (wrF s) (noF (onF c))))), (0, .ref (b 0)), (1, .int (iI m)), (2, .int (iI c))] dX2_wrongOnceMended_48 hl (by decide) rfl (fun ls hl => ?_)
    refine r_loopR (fun n : Nat => [(0, .ref (b 0)), (1, .int (iI m)), (2, .int (iI c)), (3, .long (lB (wrF (mlp (mst s m c) c n)))), (5, .int (iI (spB (s (51 + c))))), (6, .int (iI (spT (s (51 + c))))), (7, .int (iI n))]) (4) (lv_eq (lv_sub hl [4, 5, 6, 3, 2, 1, 0] rfl) (by rw [wr_mst (m := m) hc hc1 hm]; rfl)) (fun n hn ihn ls hl => ?_) (fun ls hl => ?_)
    · have hl : lv_has ls 11 [(0, .ref (b 0)), (1, .int (iI m)), (2, .int (iI c)), (3, .long (lB (wrF (mlp (mst s m c) c n)))), (5, .int (iI (spB (s (51 + c))))), (6, .int (iI (spT (s (51 + c))))), (7, .int (iI n))] := hl
      refine r_iload C dX2_wrongOnceMended_50 (lv_at hl 6 rfl) ?_
      refine r_iconst C dX2_wrongOnceMended_52 ?_
      refine r_icmp_ge C (tgt := 121) dX2_wrongOnceMended_53 (by decide) (by exact ⟨by omega, by omega⟩) ⟨by decide, by decide⟩ (fun h2 => ?_) (fun h2 => ?_)
      · exfalso; omega
      · refine r_iload_n C dX2_wrongOnceMended_56 rfl (lv_at hl 2 rfl) ?_
        refine r_iload C dX2_wrongOnceMended_57 (lv_at hl 6 rfl) ?_
        refine r_cSR2 C m_X2_98 (cW_cellAtSide (by omega) (by omega) (by omega) (by omega)) pn0 hl.1 dX2_wrongOnceMended_59 ?_
        refine r_istore C [(8, .int (iI (besd c n))), (0, .ref (b 0)), (1, .int (iI m)), (2, .int (iI c)), (3, .long (lB (wrF (mlp (mst s m c) c n)))), (5, .int (iI (spB (s (51 + c))))), (6, .int (iI (spT (s (51 + c))))), (7, .int (iI n))] dX2_wrongOnceMended_62 hl (by decide) rfl (fun ls hl => ?_)
        refine r_iload C dX2_wrongOnceMended_64 (lv_at hl 0 rfl) ?_
        refine r_if_lt C (tgt := 115) dX2_wrongOnceMended_66 (by decide) (by have := besd_lt (c := c) (w := n) (by omega) (by omega); exact ⟨by omega, by omega⟩) (fun h3 => ?_) (fun h3 => ?_)
        · refine r_iinc C 7 [(7, .int (iI (n + 1))), (8, .int (iI (besd c n))), (0, .ref (b 0)), (1, .int (iI m)), (2, .int (iI c)), (3, .long (lB (wrF (mlp (mst s m c) c n)))), (5, .int (iI (spB (s (51 + c))))), (6, .int (iI (spT (s (51 + c)))))] dX2_wrongOnceMended_115 hl rfl (by decide) rfl (fun ls hl => ?_)
          refine r_goto C (tgt := 50) dX2_wrongOnceMended_118 (by decide) ?_
          exact ihn ls (lv_eq (lv_sub hl [2, 3, 4, 5, 6, 7, 0] rfl) (by rw [wo_no hs hc hc1 hm hm1 hn (Or.inl h3)]; rfl))
        · refine r_aload_n C dX2_wrongOnceMended_69 rfl (lv_at hl 1 rfl) ?_
          refine g_X2_9 C hP 0 rfl rfl dX2_wrongOnceMended_70 ?_
          refine r_iload C dX2_wrongOnceMended_73 (lv_at hl 0 rfl) ?_
          refine r_ialdV C hP 1 (s (3 + (besd c n))) rfl dX2_wrongOnceMended_75 (by have := besd_lt (c := c) (w := n) (by omega) (by omega); omega) (by have := besd_lt (c := c) (w := n) (by omega) (by omega); omega) (by decide) (la_at (by have := besd_lt (c := c) (w := n) (by omega) (by omega); omega) (by have := besd_lt (c := c) (w := n) (by omega) (by omega); omega)) ?_
          refine r_iload C dX2_wrongOnceMended_76 (lv_at hl 5 rfl) ?_
          refine r_icmp_ne C (tgt := 115) dX2_wrongOnceMended_78 (by decide) (by have := besd_lt (c := c) (w := n) (by omega) (by omega); have := hs.1 (3 + (besd c n)) (by have := besd_lt (c := c) (w := n) (by omega) (by omega); omega); exact ⟨by omega, by omega⟩) (by have := hs.1 (51 + c) (by omega); have := spB_rg ((s (51 + c))); exact ⟨by omega, by omega⟩) (fun h4 => ?_) (fun h4 => ?_)
          · refine r_iinc C 7 [(7, .int (iI (n + 1))), (8, .int (iI (besd c n))), (0, .ref (b 0)), (1, .int (iI m)), (2, .int (iI c)), (3, .long (lB (wrF (mlp (mst s m c) c n)))), (5, .int (iI (spB (s (51 + c))))), (6, .int (iI (spT (s (51 + c)))))] dX2_wrongOnceMended_115 hl rfl (by decide) rfl (fun ls hl => ?_)
            refine r_goto C (tgt := 50) dX2_wrongOnceMended_118 (by decide) ?_
            exact ihn ls (lv_eq (lv_sub hl [2, 3, 4, 5, 6, 7, 0] rfl) (by rw [wo_no hs hc hc1 hm hm1 hn (Or.inr h4)]; rfl))
          · refine r_lconst C (z := 1) dX2_wrongOnceMended_81 (by decide) ?_
            refine r_iload C dX2_wrongOnceMended_82 (lv_at hl 0 rfl) ?_
            refine r_lone C (by have := besd_lt (c := c) (w := n) (by omega) (by omega); omega) (by have := besd_lt (c := c) (w := n) (by omega) (by omega); omega) dX2_wrongOnceMended_84 ?_
            refine r_lstore C [(9, .long (lB (onF (besd c n)))), (8, .int (iI (besd c n))), (0, .ref (b 0)), (1, .int (iI m)), (2, .int (iI c)), (3, .long (lB (wrF (mlp (mst s m c) c n)))), (5, .int (iI (spB (s (51 + c))))), (6, .int (iI (spT (s (51 + c))))), (7, .int (iI n))] dX2_wrongOnceMended_85 hl (by decide) rfl (fun ls hl => ?_)
            refine r_aload_n C dX2_wrongOnceMended_87 rfl (lv_at hl 2 rfl) ?_
            refine g_X2_15 C hP 0 rfl rfl dX2_wrongOnceMended_88 ?_
            refine r_iload C dX2_wrongOnceMended_91 (lv_at hl 1 rfl) ?_
            refine r_ialdV C hP 2 (s (51 + (besd c n))) rfl dX2_wrongOnceMended_93 (by have := besd_lt (c := c) (w := n) (by omega) (by omega); omega) (by have := besd_lt (c := c) (w := n) (by omega) (by omega); omega) (by decide) (ma_at (by have := besd_lt (c := c) (w := n) (by omega) (by omega); omega) (by have := besd_lt (c := c) (w := n) (by omega) (by omega); omega)) ?_
            refine r_iload C dX2_wrongOnceMended_94 (lv_at hl 7 rfl) ?_
            refine r_icmp_ne C (tgt := 110) dX2_wrongOnceMended_96 (by decide) (by have := besd_lt (c := c) (w := n) (by omega) (by omega); have := hs.1 (51 + (besd c n)) (by have := besd_lt (c := c) (w := n) (by omega) (by omega); omega); exact ⟨by omega, by omega⟩) (by have := hs.1 (51 + c) (by omega); have := spT_rg ((s (51 + c))); exact ⟨by omega, by omega⟩) (fun h5 => ?_) (fun h5 => ?_)
            · refine r_lload_n C dX2_wrongOnceMended_110 rfl (lv_at hl 5 rfl) ?_
              refine r_lload C dX2_wrongOnceMended_111 (lv_at hl 0 rfl) ?_
              refine r_lorB C dX2_wrongOnceMended_113 ?_
              refine r_lstore_n C [(3, .long (lB (orF (wrF (mlp (mst s m c) c n)) (onF (besd c n))))), (9, .long (lB (onF (besd c n)))), (8, .int (iI (besd c n))), (0, .ref (b 0)), (1, .int (iI m)), (2, .int (iI c)), (5, .int (iI (spB (s (51 + c))))), (6, .int (iI (spT (s (51 + c))))), (7, .int (iI n))] dX2_wrongOnceMended_114 rfl hl (by decide) rfl (fun ls hl => ?_)
              refine r_iinc C 8 [(7, .int (iI (n + 1))), (3, .long (lB (orF (wrF (mlp (mst s m c) c n)) (onF (besd c n))))), (9, .long (lB (onF (besd c n)))), (8, .int (iI (besd c n))), (0, .ref (b 0)), (1, .int (iI m)), (2, .int (iI c)), (5, .int (iI (spB (s (51 + c))))), (6, .int (iI (spT (s (51 + c)))))] dX2_wrongOnceMended_115 hl rfl (by decide) rfl (fun ls hl => ?_)
              refine r_goto C (tgt := 50) dX2_wrongOnceMended_118 (by decide) ?_
              exact ihn ls (lv_eq (lv_sub hl [4, 5, 6, 1, 7, 8, 0] rfl) (by rw [wo_set hs hc hc1 hm hm1 hn h3 h4 h5]; rfl))
            · refine r_lload_n C dX2_wrongOnceMended_99 rfl (lv_at hl 5 rfl) ?_
              refine r_lload C dX2_wrongOnceMended_100 (lv_at hl 0 rfl) ?_
              refine r_ldc2 C (-1) kl_X2_50 (by decide) dX2_wrongOnceMended_102 ?_
              refine r_lnotB C dX2_wrongOnceMended_105 ?_
              refine r_landB C dX2_wrongOnceMended_106 ?_
              refine r_goto C (tgt := 114) dX2_wrongOnceMended_107 (by decide) ?_
              refine r_lstore_n C [(3, .long (lB (anF (wrF (mlp (mst s m c) c n)) (noF (onF (besd c n)))))), (9, .long (lB (onF (besd c n)))), (8, .int (iI (besd c n))), (0, .ref (b 0)), (1, .int (iI m)), (2, .int (iI c)), (5, .int (iI (spB (s (51 + c))))), (6, .int (iI (spT (s (51 + c))))), (7, .int (iI n))] dX2_wrongOnceMended_114 rfl hl (by decide) rfl (fun ls hl => ?_)
              refine r_iinc C 8 [(7, .int (iI (n + 1))), (3, .long (lB (anF (wrF (mlp (mst s m c) c n)) (noF (onF (besd c n)))))), (9, .long (lB (onF (besd c n)))), (8, .int (iI (besd c n))), (0, .ref (b 0)), (1, .int (iI m)), (2, .int (iI c)), (5, .int (iI (spB (s (51 + c))))), (6, .int (iI (spT (s (51 + c)))))] dX2_wrongOnceMended_115 hl rfl (by decide) rfl (fun ls hl => ?_)
              refine r_goto C (tgt := 50) dX2_wrongOnceMended_118 (by decide) ?_
              exact ihn ls (lv_eq (lv_sub hl [4, 5, 6, 1, 7, 8, 0] rfl) (by rw [wo_clr hs hc hc1 hm hm1 hn h3 h4 h5]; rfl))
    · have hl : lv_has ls 11 [(0, .ref (b 0)), (1, .int (iI m)), (2, .int (iI c)), (3, .long (lB (wrF (mlp (mst s m c) c 4)))), (5, .int (iI (spB (s (51 + c))))), (6, .int (iI (spT (s (51 + c))))), (7, .int (iI 4))] := hl
      refine r_iload C dX2_wrongOnceMended_50 (lv_at hl 6 rfl) ?_
      refine r_iconst C dX2_wrongOnceMended_52 ?_
      refine r_icmp_ge C (tgt := 121) dX2_wrongOnceMended_53 (by decide) ⟨by decide, by decide⟩ ⟨by decide, by decide⟩ (fun h6 => ?_) (fun h6 => ?_)
      · refine r_lload_n C dX2_wrongOnceMended_121 rfl (lv_at hl 3 rfl) ?_
        exact r_lretR C (by rw [mends_n h1]) dX2_wrongOnceMended_122
      · exfalso; omega
  · refine r_lload_n C dX2_wrongOnceMended_23 rfl (lv_at hl 0 rfl) ?_
    exact r_lretR C (wr_bri hc hc1 hm h1) dX2_wrongOnceMended_24
set_option maxHeartbeats 4000000 in
set_option maxRecDepth 100000 in
theorem cW_mendFree {m : Int} {c : Int} (hm : 0 ≤ m) (hm1 : m < 6) (hc : 0 ≤ c) (hc1 : c < 48) (hs : Ok s) : MW l yX2_mendFree cX2_mendFree 6 none 1 27 D k [.ref (b 0), .int (iI m), .int (iI c)] (wW b k s (lB (wrF s)) y) (wW b k (mends s m c) (lB (wrF (mends s m c))) y) none := by
  refine MW.mk RX2 rfl (by decide +kernel) (Nat.le_of_ble_eq_true rfl) (fun p e U m0 below meth cd ls C hP hD hS hl => ?_)
  have hl : lv_has ls 6 [(0, .ref (b 0)), (1, .int (iI m)), (2, .int (iI c))] := hl
  have hv9 : mst s m c (3 + c) = (up s (99 + 4 * m + 1) c) (51 + c) := up_s _ _ _
  refine r_aload_n C dX2_mendFree_0 rfl (lv_at hl 0 rfl) ?_
  refine g_X2_21 C hP 0 rfl rfl dX2_mendFree_1 ?_
  refine r_iload_n C dX2_mendFree_4 rfl (lv_at hl 1 rfl) ?_
  refine r_iload_n C dX2_mendFree_5 rfl (lv_at hl 2 rfl) ?_
  refine r_iast C hP hD hS 4 (wW b k (up s (99 + 4 * m + 1) c) (lB (wrF s)) y) rfl dX2_mendFree_6 (by omega) (by omega) (by decide) (wW_pl (by omega) (by omega)) (fun H locs hP hD hS => ?_)
  have hs1 : Ok (up s (99 + 4 * m + 1) c) := ok_up hs ⟨by omega, by omega⟩ ⟨by omega, by omega⟩ (fun _ => by omega) (fun _ _ _ _ => by omega)
  have er2 : wW b k (up s (99 + 4 * m + 1) c) (lB (wrF s)) y = wW b k (up s (99 + 4 * m + 1) c) (lB (wrF (up s (99 + 4 * m + 1) c))) y := by rw [show wrF s = wrF (up s (99 + 4 * m + 1) c) from (wrF_o (by omega)).symm]
  have hP := va_eq hP er2
  have hD := va_eqD hD er2
  refine r_aload_n C dX2_mendFree_7 rfl (lv_at hl 0 rfl) ?_
  refine g_X2_18 C hP 0 rfl rfl dX2_mendFree_8 ?_
  refine r_iload_n C dX2_mendFree_11 rfl (lv_at hl 1 rfl) ?_
  refine r_ialdV C hP 3 ((up s (99 + 4 * m + 1) c) (99 + 4 * m + 0)) rfl dX2_mendFree_12 (by omega) (by omega) (by decide) (ki_at (by omega) (by omega)) ?_
  refine r_iconst C dX2_mendFree_13 ?_
  refine r_icmp_ne C (tgt := 31) dX2_mendFree_14 (by decide) (by have := hs1.1 (99 + 4 * m + 0) (by omega); exact ⟨by omega, by omega⟩) ⟨by decide, by decide⟩ (fun h1 => ?_) (fun h1 => ?_)
  · refine r_aload_n C dX2_mendFree_31 rfl (lv_at hl 0 rfl) ?_
    refine g_X2_15 C hP 0 rfl rfl dX2_mendFree_32 ?_
    refine r_iload_n C dX2_mendFree_35 rfl (lv_at hl 2 rfl) ?_
    refine r_ialdV C hP 2 ((up s (99 + 4 * m + 1) c) (51 + c)) rfl dX2_mendFree_36 (by omega) (by omega) (by decide) (ma_at (by omega) (by omega)) ?_
    refine r_istore_n C [(3, .int (iI ((up s (99 + 4 * m + 1) c) (51 + c)))), (0, .ref (b 0)), (1, .int (iI m)), (2, .int (iI c))] dX2_mendFree_37 rfl hl (by decide) rfl (fun ls hl => ?_)
    refine r_aload_n C dX2_mendFree_38 rfl (lv_at hl 1 rfl) ?_
    refine r_iconst C dX2_mendFree_39 ?_
    refine r_iload_n C dX2_mendFree_40 rfl (lv_at hl 3 rfl) ?_
    refine r_iload_n C dX2_mendFree_41 rfl (lv_at hl 0 rfl) ?_
    refine r_cVWA3 C m_X2_101 (cW_paint0 (b := b) (s := up s (99 + 4 * m + 1) c) (y := y) (by omega) (by omega) (by have := hs1.1 (51 + c) (by omega); omega) (by have := hs1.1 (51 + c) (by omega); omega) hs1) hP hD hS (wW_ad.trans wW_ad.symm) rfl rfl hl.1 dX2_mendFree_42 (fun H locs hP hD hS => ?_)
    have hs3 : Ok (up (up s (99 + 4 * m + 1) c) (3 + c) ((up s (99 + 4 * m + 1) c) (51 + c))) := ok_up hs1 ⟨by have := hs1.1 (51 + c) (by omega); omega, by have := hs1.1 (51 + c) (by omega); omega⟩ ⟨by have := hs1.1 (51 + c) (by omega); omega, by have := hs1.1 (51 + c) (by omega); omega⟩ (fun _ => by have := hs1.1 (51 + c) (by omega); omega) (fun _ _ _ _ => by have := hs1.1 (51 + c) (by omega); omega)
    refine r_pop C dX2_mendFree_45 rfl ?_
    refine r_iconst C dX2_mendFree_46 ?_
    refine r_istore C [(4, .int (iI 0)), (3, .int (iI ((up s (99 + 4 * m + 1) c) (51 + c)))), (0, .ref (b 0)), (1, .int (iI m)), (2, .int (iI c))] dX2_mendFree_47 hl (by decide) rfl (fun ls hl => ?_)
    refine r_loopW (fun n : Nat => [(0, .ref (b 0)), (1, .int (iI m)), (2, .int (iI c)), (3, .int (iI ((up s (99 + 4 * m + 1) c) (51 + c)))), (4, .int (iI n))]) (fun n : Nat => wW b k (mlp (mst s m c) c n) (lB (wrF (mlp (mst s m c) c n))) y) (4) (lv_eq (lv_sub hl [2, 3, 4, 1, 0] rfl) rfl) (va_eq hP rfl) (va_eqD hD rfl) hS (fun n hn ihn ls H locs hl hP hD hS => ?_) (fun ls H locs hl hP hD hS => ?_)
    · have hl : lv_has ls 6 [(0, .ref (b 0)), (1, .int (iI m)), (2, .int (iI c)), (3, .int (iI ((up s (99 + 4 * m + 1) c) (51 + c)))), (4, .int (iI n))] := hl
      have hP : va_P D vwCl (wW b k (mlp (mst s m c) c n) (lB (wrF (mlp (mst s m c) c n))) y) H := hP
      have hD : va_D _ (wW b k (mlp (mst s m c) c n) (lB (wrF (mlp (mst s m c) c n))) y) := hD
      have hsl : Ok (mlp (mst s m c) c n) := ok_mlp (ok_mst hs hc hc1 hm hm1) hc hc1 n
      have hsr := (ok_at hs hc hc1 hm hm1).1 (51 + c) (by omega)
      refine r_iload C dX2_mendFree_49 (lv_at hl 4 rfl) ?_
      refine r_iconst C dX2_mendFree_51 ?_
      refine r_icmp_ge C (tgt := 100) dX2_mendFree_52 (by decide) (by exact ⟨by omega, by omega⟩) ⟨by decide, by decide⟩ (fun h2 => ?_) (fun h2 => ?_)
      · exfalso; omega
      · refine r_iload_n C dX2_mendFree_55 rfl (lv_at hl 2 rfl) ?_
        refine r_iload C dX2_mendFree_56 (lv_at hl 4 rfl) ?_
        refine r_cSR2 C m_X2_98 (cW_cellAtSide (by omega) (by omega) (by omega) (by omega)) pn0 hl.1 dX2_mendFree_58 ?_
        refine r_istore C [(5, .int (iI (besd c n))), (0, .ref (b 0)), (1, .int (iI m)), (2, .int (iI c)), (3, .int (iI ((up s (99 + 4 * m + 1) c) (51 + c)))), (4, .int (iI n))] dX2_mendFree_61 hl (by decide) rfl (fun ls hl => ?_)
        refine r_iload C dX2_mendFree_63 (lv_at hl 0 rfl) ?_
        refine r_if_lt C (tgt := 94) dX2_mendFree_65 (by decide) (by have := besd_lt (c := c) (w := n) (by omega) (by omega); exact ⟨by omega, by omega⟩) (fun h3 => ?_) (fun h3 => ?_)
        · refine r_iinc C 5 [(4, .int (iI (n + 1))), (5, .int (iI (besd c n))), (0, .ref (b 0)), (1, .int (iI m)), (2, .int (iI c)), (3, .int (iI ((up s (99 + 4 * m + 1) c) (51 + c))))] dX2_mendFree_94 hl rfl (by decide) rfl (fun ls hl => ?_)
          refine r_goto C (tgt := 49) dX2_mendFree_97 (by decide) ?_
          have ew4 : wW b k (mlp (mst s m c) c n) (lB (wrF (mlp (mst s m c) c n))) y = wW b k (mlp (mst s m c) c (n + 1)) (lB (wrF (mlp (mst s m c) c (n + 1)))) y := (by rw [← mlp_s2 (ok_mst hs hc hc1 hm hm1) hc hc1 hv9 (Or.inl h3)])
          exact ihn ls H locs (lv_eq (lv_sub hl [2, 3, 4, 5, 0] rfl) rfl) (va_eq hP ew4) (va_eqD hD ew4) hS
        · refine r_aload_n C dX2_mendFree_68 rfl (lv_at hl 1 rfl) ?_
          refine g_X2_9 C hP 0 rfl rfl dX2_mendFree_69 ?_
          refine r_iload C dX2_mendFree_72 (lv_at hl 0 rfl) ?_
          refine r_ialdV C hP 1 ((mlp (mst s m c) c n) (3 + (besd c n))) rfl dX2_mendFree_74 (by have := besd_lt (c := c) (w := n) (by omega) (by omega); omega) (by have := besd_lt (c := c) (w := n) (by omega) (by omega); omega) (by decide) (la_at (by have := besd_lt (c := c) (w := n) (by omega) (by omega); omega) (by have := besd_lt (c := c) (w := n) (by omega) (by omega); omega)) ?_
          refine r_iload_n C dX2_mendFree_75 rfl (lv_at hl 4 rfl) ?_
          refine r_cSR1 C m_X2_92 (cW_sortSpoiltBy (by have := hs1.1 (51 + c) (by omega); omega) (by have := hs1.1 (51 + c) (by omega); omega)) pn0 hl.1 dX2_mendFree_76 ?_
          refine r_icmp_ne C (tgt := 94) dX2_mendFree_79 (by decide) (by have := besd_lt (c := c) (w := n) (by omega) (by omega); have := hsl.1 (3 + (besd c n)) (by have := besd_lt (c := c) (w := n) (by omega) (by omega); omega); exact ⟨by omega, by omega⟩) (by have := hs1.1 (51 + c) (by omega); have := spB_rg (((up s (99 + 4 * m + 1) c) (51 + c))); exact ⟨by omega, by omega⟩) (fun h4 => ?_) (fun h4 => ?_)
          · refine r_iinc C 5 [(4, .int (iI (n + 1))), (5, .int (iI (besd c n))), (0, .ref (b 0)), (1, .int (iI m)), (2, .int (iI c)), (3, .int (iI ((up s (99 + 4 * m + 1) c) (51 + c))))] dX2_mendFree_94 hl rfl (by decide) rfl (fun ls hl => ?_)
            refine r_goto C (tgt := 49) dX2_mendFree_97 (by decide) ?_
            have ew5 : wW b k (mlp (mst s m c) c n) (lB (wrF (mlp (mst s m c) c n))) y = wW b k (mlp (mst s m c) c (n + 1)) (lB (wrF (mlp (mst s m c) c (n + 1)))) y := (by rw [← mlp_s2 (ok_mst hs hc hc1 hm hm1) hc hc1 hv9 (Or.inr h4)])
            exact ihn ls H locs (lv_eq (lv_sub hl [2, 3, 4, 5, 0] rfl) rfl) (va_eq hP ew5) (va_eqD hD ew5) hS
          · refine r_aload_n C dX2_mendFree_82 rfl (lv_at hl 1 rfl) ?_
            refine r_iconst C dX2_mendFree_83 ?_
            refine r_iload C dX2_mendFree_84 (lv_at hl 0 rfl) ?_
            refine r_iload_n C dX2_mendFree_86 rfl (lv_at hl 4 rfl) ?_
            refine r_cSR1 C m_X2_95 (cW_sortSpoiltTo (by have := hs1.1 (51 + c) (by omega); omega) (by have := hs1.1 (51 + c) (by omega); omega)) pn0 hl.1 dX2_mendFree_87 ?_
            refine r_cVWA3 C m_X2_101 (cW_paint0 (b := b) (s := mlp (mst s m c) c n) (y := y) (by have := besd_lt (c := c) (w := n) (by omega) (by omega); omega) (by have := besd_lt (c := c) (w := n) (by omega) (by omega); omega) (by have := hs1.1 (51 + c) (by omega); have := spT_rg (((up s (99 + 4 * m + 1) c) (51 + c))); omega) (by have := hs1.1 (51 + c) (by omega); have := spT_rg (((up s (99 + 4 * m + 1) c) (51 + c))); omega) hsl) hP hD hS (wW_ad.trans wW_ad.symm) rfl rfl hl.1 dX2_mendFree_90 (fun H locs hP hD hS => ?_)
            have hs6 : Ok (up (mlp (mst s m c) c n) (3 + (besd c n)) (spT ((up s (99 + 4 * m + 1) c) (51 + c)))) := ok_up hsl ⟨by have := besd_lt (c := c) (w := n) (by omega) (by omega); have := hs1.1 (51 + c) (by omega); have := spT_rg (((up s (99 + 4 * m + 1) c) (51 + c))); omega, by have := besd_lt (c := c) (w := n) (by omega) (by omega); have := hs1.1 (51 + c) (by omega); have := spT_rg (((up s (99 + 4 * m + 1) c) (51 + c))); omega⟩ ⟨by have := besd_lt (c := c) (w := n) (by omega) (by omega); have := hs1.1 (51 + c) (by omega); have := spT_rg (((up s (99 + 4 * m + 1) c) (51 + c))); omega, by have := besd_lt (c := c) (w := n) (by omega) (by omega); have := hs1.1 (51 + c) (by omega); have := spT_rg (((up s (99 + 4 * m + 1) c) (51 + c))); omega⟩ (fun _ => by have := besd_lt (c := c) (w := n) (by omega) (by omega); have := hs1.1 (51 + c) (by omega); have := spT_rg (((up s (99 + 4 * m + 1) c) (51 + c))); omega) (fun _ _ _ _ => by have := besd_lt (c := c) (w := n) (by omega) (by omega); have := hs1.1 (51 + c) (by omega); have := spT_rg (((up s (99 + 4 * m + 1) c) (51 + c))); omega)
            refine r_pop C dX2_mendFree_93 rfl ?_
            refine r_iinc C 5 [(4, .int (iI (n + 1))), (5, .int (iI (besd c n))), (0, .ref (b 0)), (1, .int (iI m)), (2, .int (iI c)), (3, .int (iI ((up s (99 + 4 * m + 1) c) (51 + c))))] dX2_mendFree_94 hl rfl (by decide) rfl (fun ls hl => ?_)
            refine r_goto C (tgt := 49) dX2_mendFree_97 (by decide) ?_
            have ew7 : wW b k (up (mlp (mst s m c) c n) (3 + (besd c n)) (spT ((up s (99 + 4 * m + 1) c) (51 + c)))) (lB (wrF (up (mlp (mst s m c) c n) (3 + (besd c n)) (spT ((up s (99 + 4 * m + 1) c) (51 + c)))))) y = wW b k (mlp (mst s m c) c (n + 1)) (lB (wrF (mlp (mst s m c) c (n + 1)))) y := (by rw [mlp_s1 (ok_mst hs hc hc1 hm hm1) hc hc1 hn hv9 h3 h4])
            exact ihn ls H locs (lv_eq (lv_sub hl [2, 3, 4, 5, 0] rfl) rfl) (va_eq hP ew7) (va_eqD hD ew7) hS
    · have hl : lv_has ls 6 [(0, .ref (b 0)), (1, .int (iI m)), (2, .int (iI c)), (3, .int (iI ((up s (99 + 4 * m + 1) c) (51 + c)))), (4, .int (iI 4))] := hl
      have hP : va_P D vwCl (wW b k (mlp (mst s m c) c 4) (lB (wrF (mlp (mst s m c) c 4))) y) H := hP
      have hD : va_D _ (wW b k (mlp (mst s m c) c 4) (lB (wrF (mlp (mst s m c) c 4))) y) := hD
      have hsl : Ok (mlp (mst s m c) c 4) := ok_mlp (ok_mst hs hc hc1 hm hm1) hc hc1 4
      have hsr := (ok_at hs hc hc1 hm hm1).1 (51 + c) (by omega)
      refine r_iload C dX2_mendFree_49 (lv_at hl 4 rfl) ?_
      refine r_iconst C dX2_mendFree_51 ?_
      refine r_icmp_ge C (tgt := 100) dX2_mendFree_52 (by decide) ⟨by decide, by decide⟩ ⟨by decide, by decide⟩ (fun h5 => ?_) (fun h5 => ?_)
      · exact r_vretW C hP hS (by first | (simp only [mends, h1, h5, not_true_eq_false, not_false_eq_true, and_true, true_and, and_false, false_and, or_true, true_or, or_false, false_or, if_true, if_false, ne_eq, reduceIte]; done) | (exfalso; omega)) dX2_mendFree_100
      · exfalso; omega
  · refine r_aload_n C dX2_mendFree_17 rfl (lv_at hl 0 rfl) ?_
    refine r_iconst C dX2_mendFree_18 ?_
    refine r_iload_n C dX2_mendFree_19 rfl (lv_at hl 2 rfl) ?_
    refine r_aload_n C dX2_mendFree_20 rfl (lv_at hl 0 rfl) ?_
    refine g_X2_9 C hP 0 rfl rfl dX2_mendFree_21 ?_
    refine r_iload_n C dX2_mendFree_24 rfl (lv_at hl 2 rfl) ?_
    refine r_ialdV C hP 1 ((up s (99 + 4 * m + 1) c) (3 + c)) rfl dX2_mendFree_25 (by omega) (by omega) (by decide) (la_at (by omega) (by omega)) ?_
    refine r_cVWA3 C m_X2_101 (cW_paint1 (b := b) (s := up s (99 + 4 * m + 1) c) (y := y) (by omega) (by omega) (by have := hs1.1 (3 + c) (by omega); omega) (by have := hs1.1 (3 + c) (by omega); omega) hs1) hP hD hS (wW_ad.trans wW_ad.symm) rfl rfl hl.1 dX2_mendFree_26 (fun H locs hP hD hS => ?_)
    have hs8 : Ok (up (up s (99 + 4 * m + 1) c) (51 + c) ((up s (99 + 4 * m + 1) c) (3 + c))) := ok_up hs1 ⟨by have := hs1.1 (3 + c) (by omega); omega, by have := hs1.1 (3 + c) (by omega); omega⟩ ⟨by have := hs1.1 (3 + c) (by omega); omega, by have := hs1.1 (3 + c) (by omega); omega⟩ (fun _ => by have := hs1.1 (3 + c) (by omega); omega) (fun _ _ _ _ => by have := hs1.1 (3 + c) (by omega); omega)
    refine r_pop C dX2_mendFree_29 rfl ?_
    exact r_vretW C hP hS (by first | (simp only [mends, eq_true h1, not_true_eq_false, not_false_eq_true, and_true, true_and, and_false, false_and, or_true, true_or, or_false, false_or, if_true, if_false, ne_eq, reduceIte]; done) | (exfalso; omega)) dX2_mendFree_30
end CLASS
