section CLASS
variable {l : Launch} {D : va_G} {k : Nat → ClassId} {a c : Nat → Nat} {s t kq tp bi si st : Int → Int} {wr tw kw : Int64} {y ty ky ta tk sa en nm ik bt sz : Int} {nu nf : Int → Int64}
set_option maxHeartbeats 400000 in
set_option maxRecDepth 100000 in
theorem cT_way {b : Int} {g : Int} {w : Int} (zb : In32 b) (zg : In32 g) (zw : In32 w) (hs : Ok s) : ME l yX3_way cX3_way 11 (some .int) 2 42 D k [.ref (a 0), .int (iI b), .int (iI g), .int (iI w)] (wT a k s (lB (wrF s)) y t tw ty kq (lB (wrF kq)) ky tp ta tk sa en nm bi si nu st ik) (fun x : (Int → Int) × Int64 × Int × Int × Int × Int => wT a k ((fWay s st b g w).2.1) (lB (wrF ((fWay s st b g w).2.1))) y x.1 x.2.1 x.2.2.1 kq (lB (wrF kq)) ky tp ta x.2.2.2.1 x.2.2.2.2.1 x.2.2.2.2.2 nm bi si nu ((fWay s st b g w).2.2) ik) (some (.int (iI ((fWay s st b g w).1)))) := by
  refine ME.mk RX3 rfl (by decide +kernel) (Nat.le_of_ble_eq_true rfl) (fun p e U m0 below meth cd ls C hP hD hS hl => ?_)
  have hl : lv_has ls 11 [(0, .ref (a 0)), (1, .int (iI b)), (2, .int (iI g)), (3, .int (iI w))] := hl
  have zb1 := zb.1
  have zb2 := zb.2
  have zg1 := zg.1
  have zg2 := zg.2
  have zw1 := zw.1
  have zw2 := zw.2
  have h00 := hs.1 0 (by decide)
  have h06 := hs.2.2.1
  refine r_iload_n C dX3_way_0 rfl (lv_at hl 1 rfl) ?_
  refine r_cSR1 C m_X3_40 (cT_noCell (by exact ⟨by omega, by omega⟩)) pn0 hl.1 dX3_way_1 ?_
  refine r_ifB_ne C (tgt := 23) dX3_way_4 (by decide) (fun h1 => ?_) (fun h1 => ?_)
  · refine r_aload_n C dX3_way_23 rfl (lv_at hl 0 rfl) ?_
    refine r_ldc C (-1000000001) ki_X3_48 (by decide) dX3_way_24 ?_
    refine r_cVWA1 C m_X3_49 (cT_finding (by omega) (by omega)) hP hD hS (wT_ad.trans wT_ad.symm) rfl rfl hl.1 dX3_way_26 (fun H locs hP hD hS => ?_)
    exact r_iretE C hP hS (t, tw, ty, tk, sa, en) (by first | (simp only [fWay, fD, fV, h1, not_true_eq_false, not_false_eq_true, and_true, true_and, and_false, false_and, or_true, true_or, or_false, false_or, if_true, if_false, ne_eq, reduceIte]; done) | (exfalso; omega) | ((unfold fWay fD; (repeat' split)) <;> first | rfl | (exfalso; omega))) (by first | (simp only [fWay, fD, fV, h1, not_true_eq_false, not_false_eq_true, and_true, true_and, and_false, false_and, or_true, true_or, or_false, false_or, if_true, if_false, ne_eq, reduceIte]; done) | (exfalso; omega) | ((unfold fWay fD; (repeat' split)) <;> first | rfl | (exfalso; omega))) dX3_way_29
  · have h1 := Classical.not_not.mp h1
    refine r_iload_n C dX3_way_7 rfl (lv_at hl 2 rfl) ?_
    refine r_cSR1 C m_X3_40 (cT_noCell (by exact ⟨by omega, by omega⟩)) pn0 hl.1 dX3_way_8 ?_
    refine r_ifB_ne C (tgt := 23) dX3_way_11 (by decide) (fun h2 => ?_) (fun h2 => ?_)
    · refine r_aload_n C dX3_way_23 rfl (lv_at hl 0 rfl) ?_
      refine r_ldc C (-1000000001) ki_X3_48 (by decide) dX3_way_24 ?_
      refine r_cVWA1 C m_X3_49 (cT_finding (by omega) (by omega)) hP hD hS (wT_ad.trans wT_ad.symm) rfl rfl hl.1 dX3_way_26 (fun H locs hP hD hS => ?_)
      exact r_iretE C hP hS (t, tw, ty, tk, sa, en) (by first | (simp only [fWay, fD, fV, h1, h2, not_true_eq_false, not_false_eq_true, and_true, true_and, and_false, false_and, or_true, true_or, or_false, false_or, if_true, if_false, ne_eq, reduceIte]; done) | (exfalso; omega) | ((unfold fWay fD; (repeat' split)) <;> first | rfl | (exfalso; omega))) (by first | (simp only [fWay, fD, fV, h1, h2, not_true_eq_false, not_false_eq_true, and_true, true_and, and_false, false_and, or_true, true_or, or_false, false_or, if_true, if_false, ne_eq, reduceIte]; done) | (exfalso; omega) | ((unfold fWay fD; (repeat' split)) <;> first | rfl | (exfalso; omega))) dX3_way_29
    · have h2 := Classical.not_not.mp h2
      refine r_iload_n C dX3_way_14 rfl (lv_at hl 3 rfl) ?_
      refine r_iconst C dX3_way_15 ?_
      refine r_iconst C dX3_way_16 ?_
      refine r_cSR3 C m_X3_44 (cT_outside (by exact ⟨by omega, by omega⟩) ⟨by decide, by decide⟩ ⟨by decide, by decide⟩) pn0 hl.1 dX3_way_17 ?_
      refine r_ifB_eq C (tgt := 30) dX3_way_20 (by decide) (fun h3 => ?_) (fun h3 => ?_)
      · have h3 := Classical.not_not.mp h3
        refine r_iload_n C dX3_way_30 rfl (lv_at hl 3 rfl) ?_
        refine r_if_ne C (tgt := 53) dX3_way_31 (by decide) (by exact ⟨by omega, by omega⟩) (fun h4 => ?_) (fun h4 => ?_)
        · refine r_aload_n C dX3_way_53 rfl (lv_at hl 0 rfl) ?_
          refine g_X3_10 C hP 0 rfl rfl dX3_way_54 ?_
          refine r_iconst C dX3_way_57 ?_
          refine r_cVR1 C m_X3_83 (cW_landOf (b := (fun i => a (1 + i))) (s := s) (y := y) ⟨by decide, by decide⟩ hs) (hp_T_s hP) rfl rfl hl.1 dX3_way_58 ?_
          refine r_aload_n C dX3_way_61 rfl (lv_at hl 0 rfl) ?_
          refine g_X3_10 C hP 0 rfl rfl dX3_way_62 ?_
          refine r_iconst C dX3_way_65 ?_
          refine r_cVR1 C m_X3_83 (cW_landOf (b := (fun i => a (1 + i))) (s := s) (y := y) ⟨by decide, by decide⟩ hs) (hp_T_s hP) rfl rfl hl.1 dX3_way_66 ?_
          refine r_lorB C dX3_way_69 ?_
          refine r_topL (lB (opB s w)) (op_1 s h4) ?_
          refine r_lstore C [(4, .long (lB (opB s w))), (0, .ref (a 0)), (1, .int (iI b)), (2, .int (iI g)), (3, .int (iI w))] dX3_way_70 hl (by decide) rfl (fun ls hl => ?_)
          refine r_lconst C (z := 1) dX3_way_72 (by decide) ?_
          refine r_iload_n C dX3_way_73 rfl (lv_at hl 3 rfl) ?_
          refine r_lone C (by omega) (by omega) dX3_way_74 ?_
          refine r_lstore C [(6, .long (lB (onF g))), (4, .long (lB (opB s w))), (0, .ref (a 0)), (1, .int (iI b)), (2, .int (iI g)), (3, .int (iI w))] dX3_way_75 hl (by decide) rfl (fun ls hl => ?_)
          refine r_lconst C (z := 1) dX3_way_77 (by decide) ?_
          refine r_iload_n C dX3_way_78 rfl (lv_at hl 3 rfl) ?_
          refine r_lone C (by omega) (by omega) dX3_way_79 ?_
          refine r_lload C dX3_way_80 (lv_at hl 1 rfl) ?_
          refine r_landB C dX3_way_82 ?_
          refine r_lstore C [(8, .long (lB (anF (onF b) (opB s w)))), (6, .long (lB (onF g))), (4, .long (lB (opB s w))), (0, .ref (a 0)), (1, .int (iI b)), (2, .int (iI g)), (3, .int (iI w))] dX3_way_83 hl (by decide) rfl (fun ls hl => ?_)
          refine r_iconst C dX3_way_85 ?_
          refine r_istore C [(10, .int (iI 0)), (8, .long (lB (anF (onF b) (opB s w)))), (6, .long (lB (onF g))), (4, .long (lB (opB s w))), (0, .ref (a 0)), (1, .int (iI b)), (2, .int (iI g)), (3, .int (iI w))] dX3_way_86 hl (by decide) rfl (fun ls hl => ?_)
          refine r_loopRJ (fun n : Nat => [(0, .ref (a 0)), (1, .int (iI b)), (2, .int (iI g)), (3, .int (iI w)), (4, .long (lB (opB s w))), (6, .long (lB (onF g))), (8, .long (lB (rcF s b w n))), (10, .int (iI n))]) (48) (fun n : Nat => ∀ j : Nat, j < n → ¬ rcF s b w j g.toNat = true) (fun j h => absurd h (Nat.not_lt_zero j)) (lv_eq (lv_sub hl [4, 5, 6, 7, 3, 2, 1, 0] rfl) rfl) (fun n hn ihn hJn ls hl => ?_) (fun hJn ls hl => ?_)
          · have hl : lv_has ls 11 [(0, .ref (a 0)), (1, .int (iI b)), (2, .int (iI g)), (3, .int (iI w)), (4, .long (lB (opB s w))), (6, .long (lB (onF g))), (8, .long (lB (rcF s b w n))), (10, .int (iI n))] := hl
            have hJn : ∀ j : Nat, j < n → ¬ rcF s b w j g.toNat = true := hJn
            refine r_iload C dX3_way_88 (lv_at hl 7 rfl) ?_
            refine r_bipush C dX3_way_90 (by decide) ?_
            refine r_icmp_ge C (tgt := 127) dX3_way_92 (by decide) (by exact ⟨by omega, by omega⟩) ⟨by decide, by decide⟩ (fun h5 => ?_) (fun h5 => ?_)
            · exfalso; omega
            · refine r_lload C dX3_way_95 (lv_at hl 6 rfl) ?_
              refine r_lload C dX3_way_97 (lv_at hl 5 rfl) ?_
              refine r_landB C dX3_way_99 ?_
              refine r_lconst C (z := 0) dX3_way_100 (by decide) ?_
              refine r_lzB_eq C (tgt := 108) dX3_way_101 dX3_way_102 (by decide) (fun h6 => ?_) (fun h6 => ?_)
              · refine r_lload C dX3_way_108 (lv_at hl 6 rfl) ?_
                refine r_lload C dX3_way_110 (lv_at hl 6 rfl) ?_
                refine r_cSR1 C m_X3_70 (cT_beside (l48_rc s b w _)) pn0 hl.1 dX3_way_112 ?_
                refine r_lload C dX3_way_115 (lv_at hl 4 rfl) ?_
                refine r_landB C dX3_way_117 ?_
                refine r_lorB C dX3_way_118 ?_
                refine r_lstore C [(8, .long (lB (orF (rcF s b w n) (anF (bsF (rcF s b w n)) (opB s w))))), (0, .ref (a 0)), (1, .int (iI b)), (2, .int (iI g)), (3, .int (iI w)), (4, .long (lB (opB s w))), (6, .long (lB (onF g))), (10, .int (iI n))] dX3_way_119 hl (by decide) rfl (fun ls hl => ?_)
                refine r_iinc C 7 [(10, .int (iI (n + 1))), (8, .long (lB (orF (rcF s b w n) (anF (bsF (rcF s b w n)) (opB s w))))), (0, .ref (a 0)), (1, .int (iI b)), (2, .int (iI g)), (3, .int (iI w)), (4, .long (lB (opB s w))), (6, .long (lB (onF g)))] dX3_way_121 hl rfl (by decide) rfl (fun ls hl => ?_)
                refine r_goto C (tgt := 88) dX3_way_124 (by decide) ?_
                exact ihn (lt_s hJn ((rc_goal (by omega) (by omega)).mp h6)) ls (lv_eq (lv_sub hl [2, 3, 4, 5, 6, 7, 1, 0] rfl) rfl)
              · refine r_iload C dX3_way_105 (lv_at hl 7 rfl) ?_
                exact r_iretE C hP hS (t, tw, ty, tk, sa, en) (by have h7 := way_in (s := s) (b := b) (g := g) (w := w) (by omega) (by omega) (by omega) hn (Classical.not_not.mp (fun q => h6 ((rc_goal (by omega) (by omega)).mpr q))) hJn; simp only [fWay, fD, fV, h7, show ((n : Nat) : Int) < 48 by omega, h1, h2, h3, not_true_eq_false, not_false_eq_true, and_true, true_and, and_false, false_and, or_true, true_or, or_false, false_or, if_true, if_false, ne_eq, reduceIte]) (by have h7 := way_in (s := s) (b := b) (g := g) (w := w) (by omega) (by omega) (by omega) hn (Classical.not_not.mp (fun q => h6 ((rc_goal (by omega) (by omega)).mpr q))) hJn; simp only [fWay, fD, fV, h7, show ((n : Nat) : Int) < 48 by omega, h1, h2, h3, not_true_eq_false, not_false_eq_true, and_true, true_and, and_false, false_and, or_true, true_or, or_false, false_or, if_true, if_false, ne_eq, reduceIte]) dX3_way_107
          · have hl : lv_has ls 11 [(0, .ref (a 0)), (1, .int (iI b)), (2, .int (iI g)), (3, .int (iI w)), (4, .long (lB (opB s w))), (6, .long (lB (onF g))), (8, .long (lB (rcF s b w 48))), (10, .int (iI 48))] := hl
            have hJn : ∀ j : Nat, j < 48 → ¬ rcF s b w j g.toNat = true := hJn
            refine r_iload C dX3_way_88 (lv_at hl 7 rfl) ?_
            refine r_bipush C dX3_way_90 (by decide) ?_
            refine r_icmp_ge C (tgt := 127) dX3_way_92 (by decide) ⟨by decide, by decide⟩ ⟨by decide, by decide⟩ (fun h7 => ?_) (fun h7 => ?_)
            · refine r_aload_n C dX3_way_127 rfl (lv_at hl 0 rfl) ?_
              refine r_ldc C (-1000000004) ki_X3_159 (by decide) dX3_way_128 ?_
              refine r_cVWA1 C m_X3_49 (cT_finding (by omega) (by omega)) hP hD hS (wT_ad.trans wT_ad.symm) rfl rfl hl.1 dX3_way_130 (fun H locs hP hD hS => ?_)
              exact r_iretE C hP hS (t, tw, ty, tk, sa, en) (by have h7 := way_out (s := s) (b := b) (g := g) (w := w) (by omega) (by omega) (by omega) hJn; simp only [fWay, fD, fV, h7, h1, h2, h3, not_true_eq_false, not_false_eq_true, and_true, true_and, and_false, false_and, or_true, true_or, or_false, false_or, if_true, if_false, ne_eq, reduceIte]) (by have h7 := way_out (s := s) (b := b) (g := g) (w := w) (by omega) (by omega) (by omega) hJn; simp only [fWay, fD, fV, h7, h1, h2, h3, not_true_eq_false, not_false_eq_true, and_true, true_and, and_false, false_and, or_true, true_or, or_false, false_or, if_true, if_false, ne_eq, reduceIte]) dX3_way_133
            · exfalso; omega
        · refine r_ldc2B C allF kl_X3_154 k_all dX3_way_34 ?_
          refine r_aload_n C dX3_way_37 rfl (lv_at hl 0 rfl) ?_
          refine g_X3_10 C hP 0 rfl rfl dX3_way_38 ?_
          refine r_iconst C dX3_way_41 ?_
          refine r_cVR1 C m_X3_83 (cW_landOf (b := (fun i => a (1 + i))) (s := s) (y := y) ⟨by decide, by decide⟩ hs) (hp_T_s hP) rfl rfl hl.1 dX3_way_42 ?_
          refine r_ldc2 C (-1) kl_X3_177 (by decide) dX3_way_45 ?_
          refine r_lnotB C dX3_way_48 ?_
          refine r_landB C dX3_way_49 ?_
          refine r_goto C (tgt := 70) dX3_way_50 (by decide) ?_
          have hw0 : w = 0 := h4
          refine r_topL (lB (opB s w)) (by rw [hw0]; exact op_0 s) ?_
          refine r_lstore C [(4, .long (lB (opB s w))), (0, .ref (a 0)), (1, .int (iI b)), (2, .int (iI g)), (3, .int (iI w))] dX3_way_70 hl (by decide) rfl (fun ls hl => ?_)
          refine r_lconst C (z := 1) dX3_way_72 (by decide) ?_
          refine r_iload_n C dX3_way_73 rfl (lv_at hl 3 rfl) ?_
          refine r_lone C (by omega) (by omega) dX3_way_74 ?_
          refine r_lstore C [(6, .long (lB (onF g))), (4, .long (lB (opB s w))), (0, .ref (a 0)), (1, .int (iI b)), (2, .int (iI g)), (3, .int (iI w))] dX3_way_75 hl (by decide) rfl (fun ls hl => ?_)
          refine r_lconst C (z := 1) dX3_way_77 (by decide) ?_
          refine r_iload_n C dX3_way_78 rfl (lv_at hl 3 rfl) ?_
          refine r_lone C (by omega) (by omega) dX3_way_79 ?_
          refine r_lload C dX3_way_80 (lv_at hl 1 rfl) ?_
          refine r_landB C dX3_way_82 ?_
          refine r_lstore C [(8, .long (lB (anF (onF b) (opB s w)))), (6, .long (lB (onF g))), (4, .long (lB (opB s w))), (0, .ref (a 0)), (1, .int (iI b)), (2, .int (iI g)), (3, .int (iI w))] dX3_way_83 hl (by decide) rfl (fun ls hl => ?_)
          refine r_iconst C dX3_way_85 ?_
          refine r_istore C [(10, .int (iI 0)), (8, .long (lB (anF (onF b) (opB s w)))), (6, .long (lB (onF g))), (4, .long (lB (opB s w))), (0, .ref (a 0)), (1, .int (iI b)), (2, .int (iI g)), (3, .int (iI w))] dX3_way_86 hl (by decide) rfl (fun ls hl => ?_)
          refine r_loopRJ (fun n : Nat => [(0, .ref (a 0)), (1, .int (iI b)), (2, .int (iI g)), (3, .int (iI w)), (4, .long (lB (opB s w))), (6, .long (lB (onF g))), (8, .long (lB (rcF s b w n))), (10, .int (iI n))]) (48) (fun n : Nat => ∀ j : Nat, j < n → ¬ rcF s b w j g.toNat = true) (fun j h => absurd h (Nat.not_lt_zero j)) (lv_eq (lv_sub hl [4, 5, 6, 7, 3, 2, 1, 0] rfl) rfl) (fun n hn ihn hJn ls hl => ?_) (fun hJn ls hl => ?_)
          · have hl : lv_has ls 11 [(0, .ref (a 0)), (1, .int (iI b)), (2, .int (iI g)), (3, .int (iI w)), (4, .long (lB (opB s w))), (6, .long (lB (onF g))), (8, .long (lB (rcF s b w n))), (10, .int (iI n))] := hl
            have hJn : ∀ j : Nat, j < n → ¬ rcF s b w j g.toNat = true := hJn
            refine r_iload C dX3_way_88 (lv_at hl 7 rfl) ?_
            refine r_bipush C dX3_way_90 (by decide) ?_
            refine r_icmp_ge C (tgt := 127) dX3_way_92 (by decide) (by exact ⟨by omega, by omega⟩) ⟨by decide, by decide⟩ (fun h8 => ?_) (fun h8 => ?_)
            · exfalso; omega
            · refine r_lload C dX3_way_95 (lv_at hl 6 rfl) ?_
              refine r_lload C dX3_way_97 (lv_at hl 5 rfl) ?_
              refine r_landB C dX3_way_99 ?_
              refine r_lconst C (z := 0) dX3_way_100 (by decide) ?_
              refine r_lzB_eq C (tgt := 108) dX3_way_101 dX3_way_102 (by decide) (fun h9 => ?_) (fun h9 => ?_)
              · refine r_lload C dX3_way_108 (lv_at hl 6 rfl) ?_
                refine r_lload C dX3_way_110 (lv_at hl 6 rfl) ?_
                refine r_cSR1 C m_X3_70 (cT_beside (l48_rc s b w _)) pn0 hl.1 dX3_way_112 ?_
                refine r_lload C dX3_way_115 (lv_at hl 4 rfl) ?_
                refine r_landB C dX3_way_117 ?_
                refine r_lorB C dX3_way_118 ?_
                refine r_lstore C [(8, .long (lB (orF (rcF s b w n) (anF (bsF (rcF s b w n)) (opB s w))))), (0, .ref (a 0)), (1, .int (iI b)), (2, .int (iI g)), (3, .int (iI w)), (4, .long (lB (opB s w))), (6, .long (lB (onF g))), (10, .int (iI n))] dX3_way_119 hl (by decide) rfl (fun ls hl => ?_)
                refine r_iinc C 7 [(10, .int (iI (n + 1))), (8, .long (lB (orF (rcF s b w n) (anF (bsF (rcF s b w n)) (opB s w))))), (0, .ref (a 0)), (1, .int (iI b)), (2, .int (iI g)), (3, .int (iI w)), (4, .long (lB (opB s w))), (6, .long (lB (onF g)))] dX3_way_121 hl rfl (by decide) rfl (fun ls hl => ?_)
                refine r_goto C (tgt := 88) dX3_way_124 (by decide) ?_
                exact ihn (lt_s hJn ((rc_goal (by omega) (by omega)).mp h9)) ls (lv_eq (lv_sub hl [2, 3, 4, 5, 6, 7, 1, 0] rfl) rfl)
              · refine r_iload C dX3_way_105 (lv_at hl 7 rfl) ?_
                exact r_iretE C hP hS (t, tw, ty, tk, sa, en) (by have h7 := way_in (s := s) (b := b) (g := g) (w := w) (by omega) (by omega) (by omega) hn (Classical.not_not.mp (fun q => h9 ((rc_goal (by omega) (by omega)).mpr q))) hJn; simp only [fWay, fD, fV, h7, show ((n : Nat) : Int) < 48 by omega, h1, h2, h3, not_true_eq_false, not_false_eq_true, and_true, true_and, and_false, false_and, or_true, true_or, or_false, false_or, if_true, if_false, ne_eq, reduceIte]) (by have h7 := way_in (s := s) (b := b) (g := g) (w := w) (by omega) (by omega) (by omega) hn (Classical.not_not.mp (fun q => h9 ((rc_goal (by omega) (by omega)).mpr q))) hJn; simp only [fWay, fD, fV, h7, show ((n : Nat) : Int) < 48 by omega, h1, h2, h3, not_true_eq_false, not_false_eq_true, and_true, true_and, and_false, false_and, or_true, true_or, or_false, false_or, if_true, if_false, ne_eq, reduceIte]) dX3_way_107
          · have hl : lv_has ls 11 [(0, .ref (a 0)), (1, .int (iI b)), (2, .int (iI g)), (3, .int (iI w)), (4, .long (lB (opB s w))), (6, .long (lB (onF g))), (8, .long (lB (rcF s b w 48))), (10, .int (iI 48))] := hl
            have hJn : ∀ j : Nat, j < 48 → ¬ rcF s b w j g.toNat = true := hJn
            refine r_iload C dX3_way_88 (lv_at hl 7 rfl) ?_
            refine r_bipush C dX3_way_90 (by decide) ?_
            refine r_icmp_ge C (tgt := 127) dX3_way_92 (by decide) ⟨by decide, by decide⟩ ⟨by decide, by decide⟩ (fun h10 => ?_) (fun h10 => ?_)
            · refine r_aload_n C dX3_way_127 rfl (lv_at hl 0 rfl) ?_
              refine r_ldc C (-1000000004) ki_X3_159 (by decide) dX3_way_128 ?_
              refine r_cVWA1 C m_X3_49 (cT_finding (by omega) (by omega)) hP hD hS (wT_ad.trans wT_ad.symm) rfl rfl hl.1 dX3_way_130 (fun H locs hP hD hS => ?_)
              exact r_iretE C hP hS (t, tw, ty, tk, sa, en) (by have h7 := way_out (s := s) (b := b) (g := g) (w := w) (by omega) (by omega) (by omega) hJn; simp only [fWay, fD, fV, h7, h1, h2, h3, not_true_eq_false, not_false_eq_true, and_true, true_and, and_false, false_and, or_true, true_or, or_false, false_or, if_true, if_false, ne_eq, reduceIte]) (by have h7 := way_out (s := s) (b := b) (g := g) (w := w) (by omega) (by omega) (by omega) hJn; simp only [fWay, fD, fV, h7, h1, h2, h3, not_true_eq_false, not_false_eq_true, and_true, true_and, and_false, false_and, or_true, true_or, or_false, false_or, if_true, if_false, ne_eq, reduceIte]) dX3_way_133
            · exfalso; omega
      · refine r_aload_n C dX3_way_23 rfl (lv_at hl 0 rfl) ?_
        refine r_ldc C (-1000000001) ki_X3_48 (by decide) dX3_way_24 ?_
        refine r_cVWA1 C m_X3_49 (cT_finding (by omega) (by omega)) hP hD hS (wT_ad.trans wT_ad.symm) rfl rfl hl.1 dX3_way_26 (fun H locs hP hD hS => ?_)
        exact r_iretE C hP hS (t, tw, ty, tk, sa, en) (by first | (simp only [fWay, fD, fV, h1, h2, h3, not_true_eq_false, not_false_eq_true, and_true, true_and, and_false, false_and, or_true, true_or, or_false, false_or, if_true, if_false, ne_eq, reduceIte]; done) | (exfalso; omega) | ((unfold fWay fD; (repeat' split)) <;> first | rfl | (exfalso; omega))) (by first | (simp only [fWay, fD, fV, h1, h2, h3, not_true_eq_false, not_false_eq_true, and_true, true_and, and_false, false_and, or_true, true_or, or_false, false_or, if_true, if_false, ne_eq, reduceIte]; done) | (exfalso; omega) | ((unfold fWay fD; (repeat' split)) <;> first | rfl | (exfalso; omega))) dX3_way_29
end CLASS
