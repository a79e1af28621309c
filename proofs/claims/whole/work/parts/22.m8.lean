section MODEL
variable {l : Launch} {D : va_G} {k : Nat → ClassId} {a : Nat → Nat} {s kp ot sd st sp tp bi si : Int → Int} {nu mo : Int → Int64} {ik dl tl ta fr to va iw : Int}
set_option maxHeartbeats 4000000 in
set_option maxRecDepth 100000 in
theorem cM_isOpen {c : Int} {w : Int} (hc : 0 ≤ c) (hc1 : c < 48) (zw : In32 w) (hs : Ok s) : MR l yX4_isOpen cX4_isOpen 4 (some .boolean) 0 0 D k [.ref (a 0), .int (iI c), .int (iI w)] (wM a k s kp ot sd st sp tp bi si nu mo ik dl tl ta fr to va iw) (.int (iB (opn s c w))) := by
  refine MR.mk RX4 rfl (by decide +kernel) (Nat.le_of_ble_eq_true rfl) (fun p e U m0 below meth cd ls C hP hl => ?_)
  have hl : lv_has ls 4 [(0, .ref (a 0)), (1, .int (iI c)), (2, .int (iI w))] := hl
  have zw1 := zw.1
  have zw2 := zw.2
  refine r_aload_n C dX4_isOpen_0 rfl (lv_at hl 0 rfl) ?_
  refine g_X4_7 C hP 0 rfl rfl dX4_isOpen_1 ?_
  refine r_iconst C dX4_isOpen_4 ?_
  refine r_iload_n C dX4_isOpen_5 rfl (lv_at hl 1 rfl) ?_
  refine r_iadd C dX4_isOpen_6 ?_
  refine r_iald C hP 1 rfl dX4_isOpen_7 (by omega) (by omega) (by decide) ?_
  refine r_istore_n C [(3, .int (iI (s (3 + c)))), (0, .ref (a 0)), (1, .int (iI c)), (2, .int (iI w))] dX4_isOpen_8 rfl hl (by decide) rfl (fun ls hl => ?_)
  refine r_iload_n C dX4_isOpen_9 rfl (lv_at hl 3 rfl) ?_
  refine r_if_ne C (tgt := 26) dX4_isOpen_10 (by decide) (by exact ⟨by omega, by omega⟩) (fun h1 => ?_) (fun h1 => ?_)
  · refine r_iload_n C dX4_isOpen_26 rfl (lv_at hl 0 rfl) ?_
    refine r_iconst C dX4_isOpen_27 ?_
    refine r_icmp_eq C (tgt := 36) dX4_isOpen_28 (by decide) (by have := hs.1 (3 + c) (by omega); exact ⟨by omega, by omega⟩) ⟨by decide, by decide⟩ (fun h2 => ?_) (fun h2 => ?_)
    · refine r_iconst C dX4_isOpen_36 ?_
      refine r_goto C (tgt := 41) dX4_isOpen_37 (by decide) ?_
      exact r_zretR C (iB1 (by unfold opn; omega)) dX4_isOpen_41
    · refine r_iload_n C dX4_isOpen_31 rfl (lv_at hl 0 rfl) ?_
      refine r_iconst C dX4_isOpen_32 ?_
      refine r_icmp_ne C (tgt := 40) dX4_isOpen_33 (by decide) (by have := hs.1 (3 + c) (by omega); exact ⟨by omega, by omega⟩) ⟨by decide, by decide⟩ (fun h3 => ?_) (fun h3 => ?_)
      · refine r_iconst C dX4_isOpen_40 ?_
        exact r_zretR C (iB0 (by unfold opn; omega)) dX4_isOpen_41
      · refine r_iconst C dX4_isOpen_36 ?_
        refine r_goto C (tgt := 41) dX4_isOpen_37 (by decide) ?_
        exact r_zretR C (iB1 (by unfold opn; omega)) dX4_isOpen_41
  · refine r_iload_n C dX4_isOpen_13 rfl (lv_at hl 0 rfl) ?_
    refine r_iconst C dX4_isOpen_14 ?_
    refine r_icmp_eq C (tgt := 22) dX4_isOpen_15 (by decide) (by have := hs.1 (3 + c) (by omega); exact ⟨by omega, by omega⟩) ⟨by decide, by decide⟩ (fun h4 => ?_) (fun h4 => ?_)
    · refine r_iconst C dX4_isOpen_22 ?_
      refine r_goto C (tgt := 41) dX4_isOpen_23 (by decide) ?_
      exact r_zretR C (iB0 (by unfold opn; omega)) dX4_isOpen_41
    · refine r_iconst C dX4_isOpen_18 ?_
      refine r_goto C (tgt := 41) dX4_isOpen_19 (by decide) ?_
      exact r_zretR C (iB1 (by unfold opn; omega)) dX4_isOpen_41
set_option maxHeartbeats 4000000 in
set_option maxRecDepth 100000 in
theorem cM_way {b : Int} {g : Int} {w : Int} (zb : In32 b) (zg : In32 g) (zw : In32 w) (hs : Ok s) : ME l yX4_way cX4_way 8 (some .int) 2 45 D k [.ref (a 0), .int (iI b), .int (iI g), .int (iI w)] (wM a k s kp ot sd st sp tp bi si nu mo ik (-1) tl ta fr to va iw) (fun x : (Int → Int) × (Int → Int) × (Int → Int) × (Int → Int64) × Int => wM a k ((fWay s st b g w).2.1) kp x.1 x.2.1 ((fWay s st b g w).2.2) x.2.2.1 tp bi si nu x.2.2.2.1 ik (-1) x.2.2.2.2 ta fr to va iw) (some (.int (iI ((fWay s st b g w).1)))) := by
  refine ME.mk RX4 rfl (by decide +kernel) (Nat.le_of_ble_eq_true rfl) (fun p e U m0 below meth cd ls C hP hD hS hl => ?_)
  have hl : lv_has ls 8 [(0, .ref (a 0)), (1, .int (iI b)), (2, .int (iI g)), (3, .int (iI w))] := hl
  have zb1 := zb.1
  have zb2 := zb.2
  have zg1 := zg.1
  have zg2 := zg.2
  have zw1 := zw.1
  have zw2 := zw.2
  have h00 := hs.1 0 (by decide)
  have h06 := hs.2.2.1
  refine r_iload_n C dX4_way_0 rfl (lv_at hl 1 rfl) ?_
  refine r_cSR1 C m_X4_68 (cM_isCell (by exact ⟨by omega, by omega⟩)) pn0 hl.1 dX4_way_1 ?_
  refine r_ifB_eq C (tgt := 24) dX4_way_4 (by decide) (fun h1 => ?_) (fun h1 => ?_)
  · refine r_aload_n C dX4_way_24 rfl (lv_at hl 0 rfl) ?_
    refine r_ldc C (-1000000001) ki_X4_48 (by decide) dX4_way_25 ?_
    refine r_cVW1 C m_X4_74 (cM_finds (by omega) (by omega)) hP hD hS [0, 1, 2, 3, 4, 5, 6, 7, 8, 9, 10, 11] (wM a k s kp ot sd (fnd st (-1000000001)) sp tp bi si nu mo ik (-1) tl ta fr to va iw) rfl rfl rfl rfl rfl rfl rfl hl.1 dX4_way_27 (fun H locs hP hD hS => ?_)
    exact r_iretE C hP hS (ot, sd, sp, mo, tl) (by first | (simp only [fWay, fD, fV, h1, not_true_eq_false, not_false_eq_true, and_true, true_and, and_false, false_and, or_true, true_or, or_false, false_or, if_true, if_false, ne_eq, reduceIte]; done) | (exfalso; omega)) (by first | (simp only [fWay, fD, fV, h1, not_true_eq_false, not_false_eq_true, and_true, true_and, and_false, false_and, or_true, true_or, or_false, false_or, if_true, if_false, ne_eq, reduceIte]; done) | (exfalso; omega)) dX4_way_30
  · refine r_iload_n C dX4_way_7 rfl (lv_at hl 2 rfl) ?_
    refine r_cSR1 C m_X4_68 (cM_isCell (by exact ⟨by omega, by omega⟩)) pn0 hl.1 dX4_way_8 ?_
    refine r_ifB_eq C (tgt := 24) dX4_way_11 (by decide) (fun h2 => ?_) (fun h2 => ?_)
    · refine r_aload_n C dX4_way_24 rfl (lv_at hl 0 rfl) ?_
      refine r_ldc C (-1000000001) ki_X4_48 (by decide) dX4_way_25 ?_
      refine r_cVW1 C m_X4_74 (cM_finds (by omega) (by omega)) hP hD hS [0, 1, 2, 3, 4, 5, 6, 7, 8, 9, 10, 11] (wM a k s kp ot sd (fnd st (-1000000001)) sp tp bi si nu mo ik (-1) tl ta fr to va iw) rfl rfl rfl rfl rfl rfl rfl hl.1 dX4_way_27 (fun H locs hP hD hS => ?_)
      exact r_iretE C hP hS (ot, sd, sp, mo, tl) (by first | (simp only [fWay, fD, fV, h1, h2, not_true_eq_false, not_false_eq_true, and_true, true_and, and_false, false_and, or_true, true_or, or_false, false_or, if_true, if_false, ne_eq, reduceIte]; done) | (exfalso; omega)) (by first | (simp only [fWay, fD, fV, h1, h2, not_true_eq_false, not_false_eq_true, and_true, true_and, and_false, false_and, or_true, true_or, or_false, false_or, if_true, if_false, ne_eq, reduceIte]; done) | (exfalso; omega)) dX4_way_30
    · refine r_iload_n C dX4_way_14 rfl (lv_at hl 3 rfl) ?_
      refine r_i2l C dX4_way_15 (by exact ⟨by omega, by omega⟩) ?_
      refine r_lconst C (z := 0) dX4_way_16 (by decide) ?_
      refine r_lconst C (z := 1) dX4_way_17 (by decide) ?_
      refine r_cSR3 C m_X4_51 (cM_in (by exact ⟨by omega, by omega⟩) ⟨by decide, by decide⟩ ⟨by decide, by decide⟩) pn0 hl.1 dX4_way_18 ?_
      refine r_ifB_ne C (tgt := 31) dX4_way_21 (by decide) (fun h3 => ?_) (fun h3 => ?_)
      · refine r_iconst C dX4_way_31 ?_
        refine r_istore C [(4, .int (iI 0)), (0, .ref (a 0)), (1, .int (iI b)), (2, .int (iI g)), (3, .int (iI w))] dX4_way_32 hl (by decide) rfl (fun ls hl => ?_)
        refine r_loopW (fun n : Nat => [(0, .ref (a 0)), (1, .int (iI b)), (2, .int (iI g)), (3, .int (iI w)), (4, .int (iI n))]) (fun n : Nat => wM a k s kp ot sd st (wyI s b w sp n) tp bi si nu mo ik (-1) tl ta fr to va iw) (48) (lv_eq (lv_sub hl [1, 2, 3, 4, 0] rfl) rfl) (va_eq hP rfl) (va_eqD hD rfl) hS (fun n hn ihn ls H locs hl hP hD hS => ?_) (fun ls H locs hl hP hD hS => ?_)
        · have hl : lv_has ls 8 [(0, .ref (a 0)), (1, .int (iI b)), (2, .int (iI g)), (3, .int (iI w)), (4, .int (iI n))] := hl
          have hP : va_P D vwCl (wM a k s kp ot sd st (wyI s b w sp n) tp bi si nu mo ik (-1) tl ta fr to va iw) H := hP
          have hD : va_D _ (wM a k s kp ot sd st (wyI s b w sp n) tp bi si nu mo ik (-1) tl ta fr to va iw) := hD
          refine r_iload C dX4_way_34 (lv_at hl 4 rfl) ?_
          refine r_bipush C dX4_way_36 (by decide) ?_
          refine r_icmp_ge C (tgt := 76) dX4_way_38 (by decide) (by exact ⟨by omega, by omega⟩) ⟨by decide, by decide⟩ (fun h4 => ?_) (fun h4 => ?_)
          · exfalso; omega
          · refine r_aload_n C dX4_way_41 rfl (lv_at hl 0 rfl) ?_
            refine g_X4_29 C hP 0 rfl rfl dX4_way_42 ?_
            refine r_iload C dX4_way_45 (lv_at hl 4 rfl) ?_
            refine r_iload C dX4_way_47 (lv_at hl 4 rfl) ?_
            refine r_iload_n C dX4_way_49 rfl (lv_at hl 1 rfl) ?_
            refine r_icmp_ne C (tgt := 67) dX4_way_50 (by decide) (by exact ⟨by omega, by omega⟩) (by exact ⟨by omega, by omega⟩) (fun h5 => ?_) (fun h5 => ?_)
            · refine r_bipush C dX4_way_67 (by decide) ?_
              refine r_iast C hP hD hS 6 (wM a k s kp ot sd st (up (wyI s b w sp n) n 48) tp bi si nu mo ik (-1) tl ta fr to va iw) rfl dX4_way_69 (by omega) (by omega) (by decide) rfl (fun H locs hP hD hS => ?_)
              refine r_iinc C 4 [(4, .int (iI (n + 1))), (0, .ref (a 0)), (1, .int (iI b)), (2, .int (iI g)), (3, .int (iI w))] dX4_way_70 hl rfl (by decide) rfl (fun ls hl => ?_)
              refine r_goto C (tgt := 34) dX4_way_73 (by decide) ?_
              have ew1 : wM a k s kp ot sd st (up (wyI s b w sp n) n 48) tp bi si nu mo ik (-1) tl ta fr to va iw = wM a k s kp ot sd st (wyI s b w sp (n + 1)) tp bi si nu mo ik (-1) tl ta fr to va iw := (by first | (simp only [wyI, h1, h2, h3, h4, h5, not_true_eq_false, not_false_eq_true, and_true, true_and, and_false, false_and, or_true, true_or, or_false, false_or, if_true, if_false, ne_eq, reduceIte]; done) | (exfalso; omega))
              exact ihn ls H locs (lv_eq (lv_sub hl [1, 2, 3, 4, 0] rfl) rfl) (va_eq hP ew1) (va_eqD hD ew1) hS
            · refine r_aload_n C dX4_way_53 rfl (lv_at hl 0 rfl) ?_
              refine r_iload C dX4_way_54 (lv_at hl 4 rfl) ?_
              refine r_iload_n C dX4_way_56 rfl (lv_at hl 3 rfl) ?_
              refine r_cVR2 C m_X4_171 (cM_isOpen (by omega) (by omega) (by exact ⟨by omega, by omega⟩) hs) hP rfl rfl hl.1 dX4_way_57 ?_
              refine r_ifB_eq C (tgt := 67) dX4_way_60 (by decide) (fun h6 => ?_) (fun h6 => ?_)
              · refine r_bipush C dX4_way_67 (by decide) ?_
                refine r_iast C hP hD hS 6 (wM a k s kp ot sd st (up (wyI s b w sp n) n 48) tp bi si nu mo ik (-1) tl ta fr to va iw) rfl dX4_way_69 (by omega) (by omega) (by decide) rfl (fun H locs hP hD hS => ?_)
                refine r_iinc C 4 [(4, .int (iI (n + 1))), (0, .ref (a 0)), (1, .int (iI b)), (2, .int (iI g)), (3, .int (iI w))] dX4_way_70 hl rfl (by decide) rfl (fun ls hl => ?_)
                refine r_goto C (tgt := 34) dX4_way_73 (by decide) ?_
                have ew2 : wM a k s kp ot sd st (up (wyI s b w sp n) n 48) tp bi si nu mo ik (-1) tl ta fr to va iw = wM a k s kp ot sd st (wyI s b w sp (n + 1)) tp bi si nu mo ik (-1) tl ta fr to va iw := (by first | (simp only [wyI, h1, h2, h3, h4, eq_true h5, h6, not_true_eq_false, not_false_eq_true, and_true, true_and, and_false, false_and, or_true, true_or, or_false, false_or, if_true, if_false, ne_eq, reduceIte]; done) | (exfalso; omega))
                exact ihn ls H locs (lv_eq (lv_sub hl [1, 2, 3, 4, 0] rfl) rfl) (va_eq hP ew2) (va_eqD hD ew2) hS
              · refine r_iconst C dX4_way_63 ?_
                refine r_goto C (tgt := 69) dX4_way_64 (by decide) ?_
                refine r_iast C hP hD hS 6 (wM a k s kp ot sd st (up (wyI s b w sp n) n 0) tp bi si nu mo ik (-1) tl ta fr to va iw) rfl dX4_way_69 (by omega) (by omega) (by decide) rfl (fun H locs hP hD hS => ?_)
                refine r_iinc C 4 [(4, .int (iI (n + 1))), (0, .ref (a 0)), (1, .int (iI b)), (2, .int (iI g)), (3, .int (iI w))] dX4_way_70 hl rfl (by decide) rfl (fun ls hl => ?_)
                refine r_goto C (tgt := 34) dX4_way_73 (by decide) ?_
                have ew3 : wM a k s kp ot sd st (up (wyI s b w sp n) n 0) tp bi si nu mo ik (-1) tl ta fr to va iw = wM a k s kp ot sd st (wyI s b w sp (n + 1)) tp bi si nu mo ik (-1) tl ta fr to va iw := (by first | (simp only [wyI, h1, h2, h3, h4, eq_true h5, h6, not_true_eq_false, not_false_eq_true, and_true, true_and, and_false, false_and, or_true, true_or, or_false, false_or, if_true, if_false, ne_eq, reduceIte]; done) | (exfalso; omega))
                exact ihn ls H locs (lv_eq (lv_sub hl [1, 2, 3, 4, 0] rfl) rfl) (va_eq hP ew3) (va_eqD hD ew3) hS
        · have hl : lv_has ls 8 [(0, .ref (a 0)), (1, .int (iI b)), (2, .int (iI g)), (3, .int (iI w)), (4, .int (iI 48))] := hl
          have hP : va_P D vwCl (wM a k s kp ot sd st (wyI s b w sp 48) tp bi si nu mo ik (-1) tl ta fr to va iw) H := hP
          have hD : va_D _ (wM a k s kp ot sd st (wyI s b w sp 48) tp bi si nu mo ik (-1) tl ta fr to va iw) := hD
          refine r_iload C dX4_way_34 (lv_at hl 4 rfl) ?_
          refine r_bipush C dX4_way_36 (by decide) ?_
          refine r_icmp_ge C (tgt := 76) dX4_way_38 (by decide) ⟨by decide, by decide⟩ ⟨by decide, by decide⟩ (fun h7 => ?_) (fun h7 => ?_)
          · refine r_iconst C dX4_way_76 ?_
            refine r_istore C [(4, .int (iI 0)), (0, .ref (a 0)), (1, .int (iI b)), (2, .int (iI g)), (3, .int (iI w))] dX4_way_77 hl (by decide) rfl (fun ls hl => ?_)
            refine r_loopW (fun q : Nat => [(0, .ref (a 0)), (1, .int (iI b)), (2, .int (iI g)), (3, .int (iI w)), (4, .int (iI q))]) (fun q : Nat => wM a k s kp ot sd st (wyK s w (wyI s b w sp 48) q) tp bi si nu mo ik (-1) tl ta fr to va iw) (2304) (lv_eq (lv_sub hl [1, 2, 3, 4, 0] rfl) rfl) (va_eq hP rfl) (va_eqD hD rfl) hS (fun q hq ihq ls H locs hl hP hD hS => ?_) (fun ls H locs hl hP hD hS => ?_)
            · have hl : lv_has ls 8 [(0, .ref (a 0)), (1, .int (iI b)), (2, .int (iI g)), (3, .int (iI w)), (4, .int (iI q))] := hl
              have hP : va_P D vwCl (wM a k s kp ot sd st (wyK s w (wyI s b w sp 48) q) tp bi si nu mo ik (-1) tl ta fr to va iw) H := hP
              have hD : va_D _ (wM a k s kp ot sd st (wyK s w (wyI s b w sp 48) q) tp bi si nu mo ik (-1) tl ta fr to va iw) := hD
              have hwk := rs_wyK s w (rs_wyI s b w sp) q
              refine r_iload C dX4_way_79 (lv_at hl 4 rfl) ?_
              refine r_sipush C dX4_way_81 (by decide) ?_
              refine r_icmp_ge C (tgt := 184) dX4_way_84 (by decide) (by exact ⟨by omega, by omega⟩) ⟨by decide, by decide⟩ (fun h8 => ?_) (fun h8 => ?_)
              · exfalso; omega
              · refine r_iload C dX4_way_87 (lv_at hl 4 rfl) ?_
                refine r_bipush C dX4_way_89 (by decide) ?_
                refine r_irem C dX4_way_91 (by omega) (by omega) (by omega) (by omega) ?_
                refine r_istore C [(5, .int (iI (q % 48))), (0, .ref (a 0)), (1, .int (iI b)), (2, .int (iI g)), (3, .int (iI w)), (4, .int (iI q))] dX4_way_92 hl (by decide) rfl (fun ls hl => ?_)
                refine r_iconst C dX4_way_94 ?_
                refine r_istore C [(6, .int (iI 0)), (5, .int (iI (q % 48))), (0, .ref (a 0)), (1, .int (iI b)), (2, .int (iI g)), (3, .int (iI w)), (4, .int (iI q))] dX4_way_95 hl (by decide) rfl (fun ls hl => ?_)
                refine r_loopWJ (fun d : Nat => [(0, .ref (a 0)), (1, .int (iI b)), (2, .int (iI g)), (3, .int (iI w)), (4, .int (iI q)), (5, .int (iI (q % 48))), (6, .int (iI d))]) (fun d : Nat => wM a k s kp ot sd st (wyW (wyK s w (wyI s b w sp 48) q) (q % 48) d) tp bi si nu mo ik (-1) tl ta fr to va iw) (4) (fun d : Nat => d = 0 ∨ opn s ((q : Int) % 48) w) (Or.inl rfl) (lv_eq (lv_sub hl [2, 3, 4, 5, 6, 1, 0] rfl) rfl) (va_eq hP rfl) (va_eqD hD rfl) hS (fun d hd ihd hJd ls H locs hl hP hD hS => ?_) (fun hJd ls H locs hl hP hD hS => ?_)
                · have hl : lv_has ls 8 [(0, .ref (a 0)), (1, .int (iI b)), (2, .int (iI g)), (3, .int (iI w)), (4, .int (iI q)), (5, .int (iI (q % 48))), (6, .int (iI d))] := hl
                  have hP : va_P D vwCl (wM a k s kp ot sd st (wyW (wyK s w (wyI s b w sp 48) q) (q % 48) d) tp bi si nu mo ik (-1) tl ta fr to va iw) H := hP
                  have hD : va_D _ (wM a k s kp ot sd st (wyW (wyK s w (wyI s b w sp 48) q) (q % 48) d) tp bi si nu mo ik (-1) tl ta fr to va iw) := hD
                  have hJd : d = 0 ∨ opn s ((q : Int) % 48) w := hJd
                  have hww := rs_wyW hwk (show 0 ≤ (q : Int) % 48 by omega) (show (q : Int) % 48 < 48 by omega) d
                  refine r_iload C dX4_way_97 (lv_at hl 6 rfl) ?_
                  refine r_iconst C dX4_way_99 ?_
                  refine r_icmp_ge C (tgt := 178) dX4_way_100 (by decide) (by exact ⟨by omega, by omega⟩) ⟨by decide, by decide⟩ (fun h9 => ?_) (fun h9 => ?_)
                  · exfalso; omega
                  · refine r_aload_n C dX4_way_103 rfl (lv_at hl 0 rfl) ?_
                    refine r_iload C dX4_way_104 (lv_at hl 5 rfl) ?_
                    refine r_iload_n C dX4_way_106 rfl (lv_at hl 3 rfl) ?_
                    refine r_cVR2 C m_X4_171 (cM_isOpen (by omega) (by omega) (by exact ⟨by omega, by omega⟩) hs) hP rfl rfl hl.1 dX4_way_107 ?_
                    refine r_ifB_eq C (tgt := 178) dX4_way_110 (by decide) (fun h10 => ?_) (fun h10 => ?_)
                    · have hd0 : d = 0 := hJd.resolve_right h10
                      refine r_iinc C 4 [(4, .int (iI (q + 1))), (0, .ref (a 0)), (1, .int (iI b)), (2, .int (iI g)), (3, .int (iI w)), (5, .int (iI (q % 48))), (6, .int (iI d))] dX4_way_178 hl rfl (by decide) rfl (fun ls hl => ?_)
                      refine r_goto C (tgt := 79) dX4_way_181 (by decide) ?_
                      have ew4 : wM a k s kp ot sd st (wyW (wyK s w (wyI s b w sp 48) q) (q % 48) d) tp bi si nu mo ik (-1) tl ta fr to va iw = wM a k s kp ot sd st (wyK s w (wyI s b w sp 48) (q + 1)) tp bi si nu mo ik (-1) tl ta fr to va iw := (by simp only [wyK, wyW, hd0, h10, not_true_eq_false, not_false_eq_true, and_true, true_and, and_false, false_and, or_true, true_or, or_false, false_or, if_true, if_false, ne_eq, reduceIte])
                      exact ihq ls H locs (lv_eq (lv_sub hl [1, 2, 3, 4, 0] rfl) rfl) (va_eq hP ew4) (va_eqD hD ew4) hS
                    · refine r_iload C dX4_way_113 (lv_at hl 5 rfl) ?_
                      refine r_iload C dX4_way_115 (lv_at hl 6 rfl) ?_
                      refine r_cSR2 C m_X4_65 (cM_beside (by omega) (by omega) (by exact ⟨by omega, by omega⟩)) pn0 hl.1 dX4_way_117 ?_
                      refine r_istore C [(7, .int (iI (besd (q % 48) d))), (0, .ref (a 0)), (1, .int (iI b)), (2, .int (iI g)), (3, .int (iI w)), (4, .int (iI q)), (5, .int (iI (q % 48))), (6, .int (iI d))] dX4_way_120 hl (by decide) rfl (fun ls hl => ?_)
                      refine r_aload_n C dX4_way_122 rfl (lv_at hl 1 rfl) ?_
                      refine g_X4_29 C hP 0 rfl rfl dX4_way_123 ?_
                      refine r_iload C dX4_way_126 (lv_at hl 6 rfl) ?_
                      refine r_iload C dX4_way_128 (lv_at hl 0 rfl) ?_
                      refine r_if_lt C (tgt := 164) dX4_way_130 (by decide) (by have := besd_lt (c := ((q % 48))) (w := d) (by omega) (by omega); exact ⟨by omega, by omega⟩) (fun h11 => ?_) (fun h11 => ?_)
                      · refine r_aload_n C dX4_way_164 rfl (lv_at hl 1 rfl) ?_
                        refine g_X4_29 C hP 0 rfl rfl dX4_way_165 ?_
                        refine r_iload C dX4_way_168 (lv_at hl 6 rfl) ?_
                        refine r_iald C hP 6 rfl dX4_way_170 (by omega) (by omega) (by decide) ?_
                        refine r_iast C hP hD hS 6 (wM a k s kp ot sd st (up (wyW (wyK s w (wyI s b w sp 48) q) (q % 48) d) (q % 48) ((wyW (wyK s w (wyI s b w sp 48) q) (q % 48) d) (q % 48))) tp bi si nu mo ik (-1) tl ta fr to va iw) rfl dX4_way_171 (by omega) (by omega) (by decide) rfl (fun H locs hP hD hS => ?_)
                        refine r_iinc C 7 [(6, .int (iI (d + 1))), (7, .int (iI (besd (q % 48) d))), (0, .ref (a 0)), (1, .int (iI b)), (2, .int (iI g)), (3, .int (iI w)), (4, .int (iI q)), (5, .int (iI (q % 48)))] dX4_way_172 hl rfl (by decide) rfl (fun ls hl => ?_)
                        refine r_goto C (tgt := 97) dX4_way_175 (by decide) ?_
                        have ew5 : wM a k s kp ot sd st (up (wyW (wyK s w (wyI s b w sp 48) q) (q % 48) d) (q % 48) ((wyW (wyK s w (wyI s b w sp 48) q) (q % 48) d) (q % 48))) tp bi si nu mo ik (-1) tl ta fr to va iw = wM a k s kp ot sd st (wyW (wyK s w (wyI s b w sp 48) q) (q % 48) (d + 1)) tp bi si nu mo ik (-1) tl ta fr to va iw := (by first | (simp only [wyW, wyS, h1, h2, h3, h7, h8, h9, h10, h11, not_true_eq_false, not_false_eq_true, and_true, true_and, and_false, false_and, or_true, true_or, or_false, false_or, if_true, if_false, ne_eq, reduceIte]; done) | (exfalso; omega))
                        exact ihd (Or.inr h10) ls H locs (lv_eq (lv_sub hl [2, 3, 4, 5, 6, 7, 0] rfl) rfl) (va_eq hP ew5) (va_eqD hD ew5) hS
                      · refine r_aload_n C dX4_way_133 rfl (lv_at hl 1 rfl) ?_
                        refine g_X4_29 C hP 0 rfl rfl dX4_way_134 ?_
                        refine r_iload C dX4_way_137 (lv_at hl 0 rfl) ?_
                        refine r_iald C hP 6 rfl dX4_way_139 (by have := besd_lt (c := ((q % 48))) (w := d) (by omega) (by omega); omega) (by have := besd_lt (c := ((q % 48))) (w := d) (by omega) (by omega); omega) (by decide) ?_
                        refine r_iconst C dX4_way_140 ?_
                        refine r_iadd C dX4_way_141 ?_
                        refine r_aload_n C dX4_way_142 rfl (lv_at hl 1 rfl) ?_
                        refine g_X4_29 C hP 0 rfl rfl dX4_way_143 ?_
                        refine r_iload C dX4_way_146 (lv_at hl 6 rfl) ?_
                        refine r_iald C hP 6 rfl dX4_way_148 (by omega) (by omega) (by decide) ?_
                        refine r_icmp_ge C (tgt := 164) dX4_way_149 (by decide) (by have := besd_lt (c := ((q % 48))) (w := d) (by omega) (by omega); have := hww (besd (q % 48) d) (by have := besd_lt (c := ((q % 48))) (w := d) (by omega) (by omega); omega) (by have := besd_lt (c := ((q % 48))) (w := d) (by omega) (by omega); omega); exact ⟨by omega, by omega⟩) (by have := hww (q % 48) (by omega) (by omega); exact ⟨by omega, by omega⟩) (fun h12 => ?_) (fun h12 => ?_)
                        · refine r_aload_n C dX4_way_164 rfl (lv_at hl 1 rfl) ?_
                          refine g_X4_29 C hP 0 rfl rfl dX4_way_165 ?_
                          refine r_iload C dX4_way_168 (lv_at hl 6 rfl) ?_
                          refine r_iald C hP 6 rfl dX4_way_170 (by omega) (by omega) (by decide) ?_
                          refine r_iast C hP hD hS 6 (wM a k s kp ot sd st (up (wyW (wyK s w (wyI s b w sp 48) q) (q % 48) d) (q % 48) ((wyW (wyK s w (wyI s b w sp 48) q) (q % 48) d) (q % 48))) tp bi si nu mo ik (-1) tl ta fr to va iw) rfl dX4_way_171 (by omega) (by omega) (by decide) rfl (fun H locs hP hD hS => ?_)
                          refine r_iinc C 7 [(6, .int (iI (d + 1))), (7, .int (iI (besd (q % 48) d))), (0, .ref (a 0)), (1, .int (iI b)), (2, .int (iI g)), (3, .int (iI w)), (4, .int (iI q)), (5, .int (iI (q % 48)))] dX4_way_172 hl rfl (by decide) rfl (fun ls hl => ?_)
                          refine r_goto C (tgt := 97) dX4_way_175 (by decide) ?_
                          have ew6 : wM a k s kp ot sd st (up (wyW (wyK s w (wyI s b w sp 48) q) (q % 48) d) (q % 48) ((wyW (wyK s w (wyI s b w sp 48) q) (q % 48) d) (q % 48))) tp bi si nu mo ik (-1) tl ta fr to va iw = wM a k s kp ot sd st (wyW (wyK s w (wyI s b w sp 48) q) (q % 48) (d + 1)) tp bi si nu mo ik (-1) tl ta fr to va iw := (by first | (simp only [wyW, wyS, h1, h2, h3, h7, h8, h9, h10, h11, h12, not_true_eq_false, not_false_eq_true, and_true, true_and, and_false, false_and, or_true, true_or, or_false, false_or, if_true, if_false, ne_eq, reduceIte]; done) | (exfalso; omega))
                          exact ihd (Or.inr h10) ls H locs (lv_eq (lv_sub hl [2, 3, 4, 5, 6, 7, 0] rfl) rfl) (va_eq hP ew6) (va_eqD hD ew6) hS
                        · refine r_aload_n C dX4_way_152 rfl (lv_at hl 1 rfl) ?_
                          refine g_X4_29 C hP 0 rfl rfl dX4_way_153 ?_
                          refine r_iload C dX4_way_156 (lv_at hl 0 rfl) ?_
                          refine r_iald C hP 6 rfl dX4_way_158 (by have := besd_lt (c := ((q % 48))) (w := d) (by omega) (by omega); omega) (by have := besd_lt (c := ((q % 48))) (w := d) (by omega) (by omega); omega) (by decide) ?_
                          refine r_iconst C dX4_way_159 ?_
                          refine r_iadd C dX4_way_160 ?_
                          refine r_goto C (tgt := 171) dX4_way_161 (by decide) ?_
                          refine r_iast C hP hD hS 6 (wM a k s kp ot sd st (up (wyW (wyK s w (wyI s b w sp 48) q) (q % 48) d) (q % 48) (((wyW (wyK s w (wyI s b w sp 48) q) (q % 48) d) (besd (q % 48) d)) + 1)) tp bi si nu mo ik (-1) tl ta fr to va iw) rfl dX4_way_171 (by omega) (by omega) (by decide) rfl (fun H locs hP hD hS => ?_)
                          refine r_iinc C 7 [(6, .int (iI (d + 1))), (7, .int (iI (besd (q % 48) d))), (0, .ref (a 0)), (1, .int (iI b)), (2, .int (iI g)), (3, .int (iI w)), (4, .int (iI q)), (5, .int (iI (q % 48)))] dX4_way_172 hl rfl (by decide) rfl (fun ls hl => ?_)
                          refine r_goto C (tgt := 97) dX4_way_175 (by decide) ?_
                          have ew7 : wM a k s kp ot sd st (up (wyW (wyK s w (wyI s b w sp 48) q) (q % 48) d) (q % 48) (((wyW (wyK s w (wyI s b w sp 48) q) (q % 48) d) (besd (q % 48) d)) + 1)) tp bi si nu mo ik (-1) tl ta fr to va iw = wM a k s kp ot sd st (wyW (wyK s w (wyI s b w sp 48) q) (q % 48) (d + 1)) tp bi si nu mo ik (-1) tl ta fr to va iw := (by first | (simp only [wyW, wyS, h1, h2, h3, h7, h8, h9, h10, h11, h12, not_true_eq_false, not_false_eq_true, and_true, true_and, and_false, false_and, or_true, true_or, or_false, false_or, if_true, if_false, ne_eq, reduceIte]; done) | (exfalso; omega))
                          exact ihd (Or.inr h10) ls H locs (lv_eq (lv_sub hl [2, 3, 4, 5, 6, 7, 0] rfl) rfl) (va_eq hP ew7) (va_eqD hD ew7) hS
                · have hl : lv_has ls 8 [(0, .ref (a 0)), (1, .int (iI b)), (2, .int (iI g)), (3, .int (iI w)), (4, .int (iI q)), (5, .int (iI (q % 48))), (6, .int (iI 4))] := hl
                  have hP : va_P D vwCl (wM a k s kp ot sd st (wyW (wyK s w (wyI s b w sp 48) q) (q % 48) 4) tp bi si nu mo ik (-1) tl ta fr to va iw) H := hP
                  have hD : va_D _ (wM a k s kp ot sd st (wyW (wyK s w (wyI s b w sp 48) q) (q % 48) 4) tp bi si nu mo ik (-1) tl ta fr to va iw) := hD
                  have hJd : 4 = 0 ∨ opn s ((q : Int) % 48) w := hJd
                  have hww := rs_wyW hwk (show 0 ≤ (q : Int) % 48 by omega) (show (q : Int) % 48 < 48 by omega) 4
                  refine r_iload C dX4_way_97 (lv_at hl 6 rfl) ?_
                  refine r_iconst C dX4_way_99 ?_
                  refine r_icmp_ge C (tgt := 178) dX4_way_100 (by decide) ⟨by decide, by decide⟩ ⟨by decide, by decide⟩ (fun h13 => ?_) (fun h13 => ?_)
                  · have hop := hJd.resolve_left (by decide)
                    refine r_iinc C 4 [(4, .int (iI (q + 1))), (0, .ref (a 0)), (1, .int (iI b)), (2, .int (iI g)), (3, .int (iI w)), (5, .int (iI (q % 48))), (6, .int (iI 4))] dX4_way_178 hl rfl (by decide) rfl (fun ls hl => ?_)
                    refine r_goto C (tgt := 79) dX4_way_181 (by decide) ?_
                    have ew8 : wM a k s kp ot sd st (wyW (wyK s w (wyI s b w sp 48) q) (q % 48) 4) tp bi si nu mo ik (-1) tl ta fr to va iw = wM a k s kp ot sd st (wyK s w (wyI s b w sp 48) (q + 1)) tp bi si nu mo ik (-1) tl ta fr to va iw := (by simp only [wyK, wyW, hop, not_true_eq_false, not_false_eq_true, and_true, true_and, and_false, false_and, or_true, true_or, or_false, false_or, if_true, if_false, ne_eq, reduceIte])
                    exact ihq ls H locs (lv_eq (lv_sub hl [1, 2, 3, 4, 0] rfl) rfl) (va_eq hP ew8) (va_eqD hD ew8) hS
                  · exfalso; omega
            · have hl : lv_has ls 8 [(0, .ref (a 0)), (1, .int (iI b)), (2, .int (iI g)), (3, .int (iI w)), (4, .int (iI 2304))] := hl
              have hP : va_P D vwCl (wM a k s kp ot sd st (wyK s w (wyI s b w sp 48) 2304) tp bi si nu mo ik (-1) tl ta fr to va iw) H := hP
              have hD : va_D _ (wM a k s kp ot sd st (wyK s w (wyI s b w sp 48) 2304) tp bi si nu mo ik (-1) tl ta fr to va iw) := hD
              have hwk := rs_wyK s w (rs_wyI s b w sp) 2304
              have ev := wayV_sp s sp b w h2.1 h2.2
              have hwv : 0 ≤ wayV s b g w ∧ wayV s b g w ≤ 48 := ev ▸ hwk g (by omega) (by omega)
              refine r_iload C dX4_way_79 (lv_at hl 4 rfl) ?_
              refine r_sipush C dX4_way_81 (by decide) ?_
              refine r_icmp_ge C (tgt := 184) dX4_way_84 (by decide) ⟨by decide, by decide⟩ ⟨by decide, by decide⟩ (fun h14 => ?_) (fun h14 => ?_)
              · refine r_aload_n C dX4_way_184 rfl (lv_at hl 0 rfl) ?_
                refine g_X4_29 C hP 0 rfl rfl dX4_way_185 ?_
                refine r_iload_n C dX4_way_188 rfl (lv_at hl 2 rfl) ?_
                refine r_iald C hP 6 rfl dX4_way_189 (by omega) (by omega) (by decide) ?_
                rw [ev]
                refine r_bipush C dX4_way_190 (by decide) ?_
                refine r_icmp_ge C (tgt := 204) dX4_way_192 (by decide) (by have := hwv; exact ⟨by omega, by omega⟩) ⟨by decide, by decide⟩ (fun h15 => ?_) (fun h15 => ?_)
                · refine r_aload_n C dX4_way_204 rfl (lv_at hl 0 rfl) ?_
                  refine r_ldc C (-1000000004) ki_X4_158 (by decide) dX4_way_205 ?_
                  refine r_cVW1 C m_X4_74 (cM_finds (by omega) (by omega)) hP hD hS [0, 1, 2, 3, 4, 5, 6, 7, 8, 9, 10, 11] (wM a k s kp ot sd (fnd st (-1000000004)) (wyK s w (wyI s b w sp 48) 2304) tp bi si nu mo ik (-1) tl ta fr to va iw) rfl rfl rfl rfl rfl rfl rfl hl.1 dX4_way_207 (fun H locs hP hD hS => ?_)
                  exact r_iretE C hP hS (ot, sd, wyK s w (wyI s b w sp 48) 2304, mo, tl) (by simp only [fWay, fD, fV, h1, h2, h3, h7, h14, h15, not_true_eq_false, not_false_eq_true, and_true, true_and, and_false, false_and, or_true, true_or, or_false, false_or, if_true, if_false, ne_eq, reduceIte]) (by simp only [fWay, fD, fV, h1, h2, h3, h7, h14, h15, not_true_eq_false, not_false_eq_true, and_true, true_and, and_false, false_and, or_true, true_or, or_false, false_or, if_true, if_false, ne_eq, reduceIte]) dX4_way_210
                · refine r_aload_n C dX4_way_195 rfl (lv_at hl 0 rfl) ?_
                  refine g_X4_29 C hP 0 rfl rfl dX4_way_196 ?_
                  refine r_iload_n C dX4_way_199 rfl (lv_at hl 2 rfl) ?_
                  refine r_iald C hP 6 rfl dX4_way_200 (by omega) (by omega) (by decide) ?_
                  rw [ev]
                  refine r_goto C (tgt := 210) dX4_way_201 (by decide) ?_
                  exact r_iretE C hP hS (ot, sd, wyK s w (wyI s b w sp 48) 2304, mo, tl) (by simp only [fWay, fD, fV, h1, h2, h3, h7, h14, h15, not_true_eq_false, not_false_eq_true, and_true, true_and, and_false, false_and, or_true, true_or, or_false, false_or, if_true, if_false, ne_eq, reduceIte]) (by simp only [fWay, fD, fV, h1, h2, h3, h7, h14, h15, not_true_eq_false, not_false_eq_true, and_true, true_and, and_false, false_and, or_true, true_or, or_false, false_or, if_true, if_false, ne_eq, reduceIte]) dX4_way_210
              · exfalso; omega
          · exfalso; omega
      · refine r_aload_n C dX4_way_24 rfl (lv_at hl 0 rfl) ?_
        refine r_ldc C (-1000000001) ki_X4_48 (by decide) dX4_way_25 ?_
        refine r_cVW1 C m_X4_74 (cM_finds (by omega) (by omega)) hP hD hS [0, 1, 2, 3, 4, 5, 6, 7, 8, 9, 10, 11] (wM a k s kp ot sd (fnd st (-1000000001)) sp tp bi si nu mo ik (-1) tl ta fr to va iw) rfl rfl rfl rfl rfl rfl rfl hl.1 dX4_way_27 (fun H locs hP hD hS => ?_)
        exact r_iretE C hP hS (ot, sd, sp, mo, tl) (by first | (simp only [fWay, fD, fV, h1, h2, h3, not_true_eq_false, not_false_eq_true, and_true, true_and, and_false, false_and, or_true, true_or, or_false, false_or, if_true, if_false, ne_eq, reduceIte]; done) | (exfalso; omega)) (by first | (simp only [fWay, fD, fV, h1, h2, h3, not_true_eq_false, not_false_eq_true, and_true, true_and, and_false, false_and, or_true, true_or, or_false, false_or, if_true, if_false, ne_eq, reduceIte]; done) | (exfalso; omega)) dX4_way_30
set_option maxHeartbeats 4000000 in
set_option maxRecDepth 100000 in
theorem cM_byteAt {i : Int} (hi : 0 ≤ i) (hi1 : i < 100000) (hta : ta ≤ 120) (hta0 : 0 ≤ ta) (htp : ∀ i, 0 ≤ tp i ∧ tp i ≤ 255) : MR l yX4_byteAt cX4_byteAt 2 (some .int) 0 0 D k [.ref (a 0), .int (iI i)] (wM a k s kp ot sd st sp tp bi si nu mo ik dl tl ta fr to va iw) (.int (iI (bAt tp ta i))) := by
  refine MR.mk RX4 rfl (by decide +kernel) (Nat.le_of_ble_eq_true rfl) (fun p e U m0 below meth cd ls C hP hl => ?_)
  have hl : lv_has ls 2 [(0, .ref (a 0)), (1, .int (iI i))] := hl
  refine r_iload_n C dX4_byteAt_0 rfl (lv_at hl 1 rfl) ?_
  refine r_aload_n C dX4_byteAt_1 rfl (lv_at hl 0 rfl) ?_
  refine g_X4_174 C hP 0 rfl rfl dX4_byteAt_2 ?_
  refine r_icmp_ge C (tgt := 17) dX4_byteAt_5 (by decide) (by exact ⟨by omega, by omega⟩) (by exact ⟨by omega, by omega⟩) (fun h1 => ?_) (fun h1 => ?_)
  · refine r_iconst C dX4_byteAt_17 ?_
    exact r_iretR C (congrArg iI (by simp only [bAt, h1, not_true_eq_false, not_false_eq_true, and_true, true_and, and_false, false_and, or_true, true_or, or_false, false_or, if_true, if_false, ne_eq, reduceIte])) dX4_byteAt_18
  · refine r_aload_n C dX4_byteAt_8 rfl (lv_at hl 0 rfl) ?_
    refine g_X4_32 C hP 0 rfl rfl dX4_byteAt_9 ?_
    refine r_iload_n C dX4_byteAt_12 rfl (lv_at hl 1 rfl) ?_
    refine r_iald C hP 7 rfl dX4_byteAt_13 (by omega) (by omega) (by decide) ?_
    refine r_goto C (tgt := 18) dX4_byteAt_14 (by decide) ?_
    exact r_iretR C (congrArg iI (by simp only [bAt, h1, not_true_eq_false, not_false_eq_true, and_true, true_and, and_false, false_and, or_true, true_or, or_false, false_or, if_true, if_false, ne_eq, reduceIte])) dX4_byteAt_18
set_option maxHeartbeats 4000000 in
set_option maxRecDepth 100000 in
theorem cM_token  (hto : 0 ≤ to) (hto1 : to ≤ ta) (hta : ta ≤ 120) (htp : ∀ i, 0 ≤ tp i ∧ tp i ≤ 255) : MW l yX4_token cX4_token 3 none 2 45 D k [.ref (a 0)] (wM a k s kp ot sd st sp tp bi si nu mo ik dl tl ta fr to va iw) (wM a k s kp ot sd st sp tp bi si nu mo ik dl tl ta (tkF tp ta to) (tkT tp ta (tkF tp ta to)) va iw) none := by
  refine MW.mk RX4 rfl (by decide +kernel) (Nat.le_of_ble_eq_true rfl) (fun p e U m0 below meth cd ls C hP hD hS hl => ?_)
  have hl : lv_has ls 3 [(0, .ref (a 0))] := hl
  refine r_aload_n C dX4_token_0 rfl (lv_at hl 0 rfl) ?_
  refine r_aload_n C dX4_token_1 rfl (lv_at hl 0 rfl) ?_
  refine g_X4_185 C hP 0 rfl rfl dX4_token_2 ?_
  refine p_X4_188 C hP hD hS 0 (wM a k s kp ot sd st sp tp bi si nu mo ik dl tl ta to to va iw) rfl (Nat.le_of_ble_eq_true rfl) rfl dX4_token_5 (fun H locs hP hD hS => ?_)
  refine r_loopWJ (fun n : Nat => [(0, .ref (a 0))]) (fun n : Nat => wM a k s kp ot sd st sp tp bi si nu mo ik dl tl ta (to + n) to va iw) (121) (fun n : Nat => ∀ j : Nat, j < n → ¬ skP tp ta to j) (fun j h => absurd h (Nat.not_lt_zero j)) (lv_eq (lv_sub hl [0] rfl) rfl) (va_eq hP (by rw [show to + ((0 : Nat) : Int) = to by omega])) (va_eqD hD (by rw [show to + ((0 : Nat) : Int) = to by omega])) hS (fun n hn ihn hJn ls H locs hl hP hD hS => ?_) (fun hJn ls H locs hl hP hD hS => ?_)
  · have hl : lv_has ls 3 [(0, .ref (a 0))] := hl
    have hP : va_P D vwCl (wM a k s kp ot sd st sp tp bi si nu mo ik dl tl ta (to + n) to va iw) H := hP
    have hD : va_D _ (wM a k s kp ot sd st sp tp bi si nu mo ik dl tl ta (to + n) to va iw) := hD
    have hJn : ∀ j : Nat, j < n → ¬ skP tp ta to j := hJn
    refine r_aload_n C dX4_token_8 rfl (lv_at hl 0 rfl) ?_
    refine r_aload_n C dX4_token_9 rfl (lv_at hl 0 rfl) ?_
    refine g_X4_188 C hP 0 rfl rfl dX4_token_10 ?_
    refine r_cVR1 C m_X4_191 (cM_byteAt (by omega) (by omega) (by omega) (by omega) htp) hP rfl rfl hl.1 dX4_token_13 ?_
    refine r_bipush C dX4_token_16 (by decide) ?_
    refine r_icmp_ne C (tgt := 34) dX4_token_18 (by decide) (by have := bAt_rg htp ta ((to + n)); exact ⟨by omega, by omega⟩) ⟨by decide, by decide⟩ (fun h1 => ?_) (fun h1 => ?_)
    · have ef : to + (n : Int) = tkF tp ta to := by rw [tkF, fst0_yes (p := skP tp ta to) h1 hJn (n := 121) (by omega)]
      have hfr := tkF_rg (tp := tp) hto hto1
      generalize hfe : tkF tp ta to = f at ef hfr
      rw [ef] at hP hD
      refine r_aload_n C dX4_token_34 rfl (lv_at hl 0 rfl) ?_
      refine r_aload_n C dX4_token_35 rfl (lv_at hl 0 rfl) ?_
      refine g_X4_188 C hP 0 rfl rfl dX4_token_36 ?_
      refine r_cVR1 C m_X4_191 (cM_byteAt (by omega) (by omega) (by omega) (by omega) htp) hP rfl rfl hl.1 dX4_token_39 ?_
      refine r_cSR1 C m_X4_194 (cM_isLetter (by have := bAt_rg htp ta f; exact ⟨by omega, by omega⟩)) pn0 hl.1 dX4_token_42 ?_
      refine r_istore_n C [(1, .int (iB (97 ≤ (bAt tp ta f) ∧ (bAt tp ta f) ≤ 122))), (0, .ref (a 0))] dX4_token_45 rfl hl (by decide) rfl (fun ls hl => ?_)
      refine r_aload_n C dX4_token_46 rfl (lv_at hl 1 rfl) ?_
      refine r_aload_n C dX4_token_47 rfl (lv_at hl 1 rfl) ?_
      refine g_X4_188 C hP 0 rfl rfl dX4_token_48 ?_
      refine r_cVR1 C m_X4_191 (cM_byteAt (by omega) (by omega) (by omega) (by omega) htp) hP rfl rfl hl.1 dX4_token_51 ?_
      refine r_cSR1 C m_X4_197 (cM_isDigit (by have := bAt_rg htp ta f; exact ⟨by omega, by omega⟩)) pn0 hl.1 dX4_token_54 ?_
      refine r_istore_n C [(2, .int (iB (48 ≤ (bAt tp ta f) ∧ (bAt tp ta f) ≤ 57))), (1, .int (iB (97 ≤ (bAt tp ta f) ∧ (bAt tp ta f) ≤ 122))), (0, .ref (a 0))] dX4_token_57 rfl hl (by decide) rfl (fun ls hl => ?_)
      refine r_aload_n C dX4_token_58 rfl (lv_at hl 2 rfl) ?_
      refine r_aload_n C dX4_token_59 rfl (lv_at hl 2 rfl) ?_
      refine g_X4_188 C hP 0 rfl rfl dX4_token_60 ?_
      refine r_aload_n C dX4_token_63 rfl (lv_at hl 2 rfl) ?_
      refine g_X4_174 C hP 0 rfl rfl dX4_token_64 ?_
      refine r_icmp_ge C (tgt := 79) dX4_token_67 (by decide) (by exact ⟨by omega, by omega⟩) (by exact ⟨by omega, by omega⟩) (fun h2 => ?_) (fun h2 => ?_)
      · refine r_aload_n C dX4_token_79 rfl (lv_at hl 2 rfl) ?_
        refine g_X4_188 C hP 0 rfl rfl dX4_token_80 ?_
        refine p_X4_185 C hP hD hS 0 (wM a k s kp ot sd st sp tp bi si nu mo ik dl tl ta f f va iw) rfl (Nat.le_of_ble_eq_true rfl) rfl dX4_token_83 (fun H locs hP hD hS => ?_)
        refine r_loopWJ (fun d : Nat => [(0, .ref (a 0)), (1, .int (iB (97 ≤ bAt tp ta f ∧ bAt tp ta f ≤ 122))), (2, .int (iB (48 ≤ bAt tp ta f ∧ bAt tp ta f ≤ 57)))]) (fun d : Nat => wM a k s kp ot sd st sp tp bi si nu mo ik dl tl ta f (tk1 ta f + d) va iw) (121) (fun d : Nat => ∀ j : Nat, j < d → ¬ tkP tp ta f j) (fun j h => absurd h (Nat.not_lt_zero j)) (lv_eq (lv_sub hl [2, 1, 0] rfl) rfl) (va_eq hP (by rw [show tk1 ta f + ((0 : Nat) : Int) = f by simp only [tk1, h2, if_true, if_false]; omega])) (va_eqD hD (by rw [show tk1 ta f + ((0 : Nat) : Int) = f by simp only [tk1, h2, if_true, if_false]; omega])) hS (fun d hd ihd hJd ls H locs hl hP hD hS => ?_) (fun hJd ls H locs hl hP hD hS => ?_)
        · have hl : lv_has ls 3 [(0, .ref (a 0)), (1, .int (iB (97 ≤ bAt tp ta f ∧ bAt tp ta f ≤ 122))), (2, .int (iB (48 ≤ bAt tp ta f ∧ bAt tp ta f ≤ 57)))] := hl
          have hP : va_P D vwCl (wM a k s kp ot sd st sp tp bi si nu mo ik dl tl ta f (tk1 ta f + d) va iw) H := hP
          have hD : va_D _ (wM a k s kp ot sd st sp tp bi si nu mo ik dl tl ta f (tk1 ta f + d) va iw) := hD
          have hJd : ∀ j : Nat, j < d → ¬ tkP tp ta f j := hJd
          have ht1 := tk1_rg (ta := ta) (f := f) (by omega)
          refine r_iload_n C dX4_token_86 rfl (lv_at hl 1 rfl) ?_
          refine r_ifB_eq C (tgt := 104) dX4_token_87 (by decide) (fun h3 => ?_) (fun h3 => ?_)
          · refine r_iload_n C dX4_token_104 rfl (lv_at hl 2 rfl) ?_
            refine r_ifB_eq C (tgt := 135) dX4_token_105 (by decide) (fun h4 => ?_) (fun h4 => ?_)
            · exact r_vretW C hP hS (by rw [tkT, fst0_yes (p := tkP tp ta f) (by unfold tkP isL isD; omega) hJd (n := 121) (by omega)]) dX4_token_135
            · refine r_aload_n C dX4_token_108 rfl (lv_at hl 0 rfl) ?_
              refine r_aload_n C dX4_token_109 rfl (lv_at hl 0 rfl) ?_
              refine g_X4_185 C hP 0 rfl rfl dX4_token_110 ?_
              refine r_cVR1 C m_X4_191 (cM_byteAt (by omega) (by omega) (by omega) (by omega) htp) hP rfl rfl hl.1 dX4_token_113 ?_
              refine r_cSR1 C m_X4_197 (cM_isDigit (by have := bAt_rg htp ta ((tk1 ta f + d)); exact ⟨by omega, by omega⟩)) pn0 hl.1 dX4_token_116 ?_
              refine r_ifB_eq C (tgt := 135) dX4_token_119 (by decide) (fun h5 => ?_) (fun h5 => ?_)
              · exact r_vretW C hP hS (by rw [tkT, fst0_yes (p := tkP tp ta f) (by unfold tkP isL isD; omega) hJd (n := 121) (by omega)]) dX4_token_135
              · refine r_aload_n C dX4_token_122 rfl (lv_at hl 0 rfl) ?_
                refine r_dup C dX4_token_123 rfl ?_
                refine g_X4_185 C hP 0 rfl rfl dX4_token_124 ?_
                refine r_iconst C dX4_token_127 ?_
                refine r_iadd C dX4_token_128 ?_
                refine p_X4_185 C hP hD hS 0 (wM a k s kp ot sd st sp tp bi si nu mo ik dl tl ta f ((tk1 ta f + d) + 1) va iw) rfl (Nat.le_of_ble_eq_true rfl) rfl dX4_token_129 (fun H locs hP hD hS => ?_)
                refine r_goto C (tgt := 86) dX4_token_132 (by decide) ?_
                have ew1 : wM a k s kp ot sd st sp tp bi si nu mo ik dl tl ta f ((tk1 ta f + d) + 1) va iw = wM a k s kp ot sd st sp tp bi si nu mo ik dl tl ta f (tk1 ta f + (d + 1)) va iw := (by rw [show tk1 ta f + ((d : Int) + 1) = tk1 ta f + d + 1 by omega])
                exact ihd (lt_s hJd (fun q => q (by omega))) ls H locs (lv_eq (lv_sub hl [0, 1, 2] rfl) rfl) (va_eq hP ew1) (va_eqD hD ew1) hS
          · refine r_aload_n C dX4_token_90 rfl (lv_at hl 0 rfl) ?_
            refine r_aload_n C dX4_token_91 rfl (lv_at hl 0 rfl) ?_
            refine g_X4_185 C hP 0 rfl rfl dX4_token_92 ?_
            refine r_cVR1 C m_X4_191 (cM_byteAt (by omega) (by omega) (by omega) (by omega) htp) hP rfl rfl hl.1 dX4_token_95 ?_
            refine r_cSR1 C m_X4_194 (cM_isLetter (by have := bAt_rg htp ta ((tk1 ta f + d)); exact ⟨by omega, by omega⟩)) pn0 hl.1 dX4_token_98 ?_
            refine r_ifB_ne C (tgt := 122) dX4_token_101 (by decide) (fun h6 => ?_) (fun h6 => ?_)
            · refine r_aload_n C dX4_token_122 rfl (lv_at hl 0 rfl) ?_
              refine r_dup C dX4_token_123 rfl ?_
              refine g_X4_185 C hP 0 rfl rfl dX4_token_124 ?_
              refine r_iconst C dX4_token_127 ?_
              refine r_iadd C dX4_token_128 ?_
              refine p_X4_185 C hP hD hS 0 (wM a k s kp ot sd st sp tp bi si nu mo ik dl tl ta f ((tk1 ta f + d) + 1) va iw) rfl (Nat.le_of_ble_eq_true rfl) rfl dX4_token_129 (fun H locs hP hD hS => ?_)
              refine r_goto C (tgt := 86) dX4_token_132 (by decide) ?_
              have ew2 : wM a k s kp ot sd st sp tp bi si nu mo ik dl tl ta f ((tk1 ta f + d) + 1) va iw = wM a k s kp ot sd st sp tp bi si nu mo ik dl tl ta f (tk1 ta f + (d + 1)) va iw := (by rw [show tk1 ta f + ((d : Int) + 1) = tk1 ta f + d + 1 by omega])
              exact ihd (lt_s hJd (fun q => q (by omega))) ls H locs (lv_eq (lv_sub hl [0, 1, 2] rfl) rfl) (va_eq hP ew2) (va_eqD hD ew2) hS
            · refine r_iload_n C dX4_token_104 rfl (lv_at hl 2 rfl) ?_
              refine r_ifB_eq C (tgt := 135) dX4_token_105 (by decide) (fun h7 => ?_) (fun h7 => ?_)
              · exact r_vretW C hP hS (by rw [tkT, fst0_yes (p := tkP tp ta f) (by unfold tkP isL isD; omega) hJd (n := 121) (by omega)]) dX4_token_135
              · refine r_aload_n C dX4_token_108 rfl (lv_at hl 0 rfl) ?_
                refine r_aload_n C dX4_token_109 rfl (lv_at hl 0 rfl) ?_
                refine g_X4_185 C hP 0 rfl rfl dX4_token_110 ?_
                refine r_cVR1 C m_X4_191 (cM_byteAt (by omega) (by omega) (by omega) (by omega) htp) hP rfl rfl hl.1 dX4_token_113 ?_
                refine r_cSR1 C m_X4_197 (cM_isDigit (by have := bAt_rg htp ta ((tk1 ta f + d)); exact ⟨by omega, by omega⟩)) pn0 hl.1 dX4_token_116 ?_
                refine r_ifB_eq C (tgt := 135) dX4_token_119 (by decide) (fun h8 => ?_) (fun h8 => ?_)
                · exact r_vretW C hP hS (by rw [tkT, fst0_yes (p := tkP tp ta f) (by unfold tkP isL isD; omega) hJd (n := 121) (by omega)]) dX4_token_135
                · refine r_aload_n C dX4_token_122 rfl (lv_at hl 0 rfl) ?_
                  refine r_dup C dX4_token_123 rfl ?_
                  refine g_X4_185 C hP 0 rfl rfl dX4_token_124 ?_
                  refine r_iconst C dX4_token_127 ?_
                  refine r_iadd C dX4_token_128 ?_
                  refine p_X4_185 C hP hD hS 0 (wM a k s kp ot sd st sp tp bi si nu mo ik dl tl ta f ((tk1 ta f + d) + 1) va iw) rfl (Nat.le_of_ble_eq_true rfl) rfl dX4_token_129 (fun H locs hP hD hS => ?_)
                  refine r_goto C (tgt := 86) dX4_token_132 (by decide) ?_
                  have ew3 : wM a k s kp ot sd st sp tp bi si nu mo ik dl tl ta f ((tk1 ta f + d) + 1) va iw = wM a k s kp ot sd st sp tp bi si nu mo ik dl tl ta f (tk1 ta f + (d + 1)) va iw := (by rw [show tk1 ta f + ((d : Int) + 1) = tk1 ta f + d + 1 by omega])
                  exact ihd (lt_s hJd (fun q => q (by omega))) ls H locs (lv_eq (lv_sub hl [0, 1, 2] rfl) rfl) (va_eq hP ew3) (va_eqD hD ew3) hS
        · have hl : lv_has ls 3 [(0, .ref (a 0)), (1, .int (iB (97 ≤ bAt tp ta f ∧ bAt tp ta f ≤ 122))), (2, .int (iB (48 ≤ bAt tp ta f ∧ bAt tp ta f ≤ 57)))] := hl
          have hP : va_P D vwCl (wM a k s kp ot sd st sp tp bi si nu mo ik dl tl ta f (tk1 ta f + 121) va iw) H := hP
          have hD : va_D _ (wM a k s kp ot sd st sp tp bi si nu mo ik dl tl ta f (tk1 ta f + 121) va iw) := hD
          have hJd : ∀ j : Nat, j < 121 → ¬ tkP tp ta f j := hJd
          have ht1 := tk1_rg (ta := ta) (f := f) (by omega)
          exact absurd (tk_end (by omega) hfr.2) (hJd _ (by omega))
      · refine r_aload_n C dX4_token_70 rfl (lv_at hl 2 rfl) ?_
        refine g_X4_188 C hP 0 rfl rfl dX4_token_71 ?_
        refine r_iconst C dX4_token_74 ?_
        refine r_iadd C dX4_token_75 ?_
        refine r_goto C (tgt := 83) dX4_token_76 (by decide) ?_
        refine p_X4_185 C hP hD hS 0 (wM a k s kp ot sd st sp tp bi si nu mo ik dl tl ta f (f + 1) va iw) rfl (Nat.le_of_ble_eq_true rfl) rfl dX4_token_83 (fun H locs hP hD hS => ?_)
        refine r_loopWJ (fun d : Nat => [(0, .ref (a 0)), (1, .int (iB (97 ≤ bAt tp ta f ∧ bAt tp ta f ≤ 122))), (2, .int (iB (48 ≤ bAt tp ta f ∧ bAt tp ta f ≤ 57)))]) (fun d : Nat => wM a k s kp ot sd st sp tp bi si nu mo ik dl tl ta f (tk1 ta f + d) va iw) (121) (fun d : Nat => ∀ j : Nat, j < d → ¬ tkP tp ta f j) (fun j h => absurd h (Nat.not_lt_zero j)) (lv_eq (lv_sub hl [2, 1, 0] rfl) rfl) (va_eq hP (by rw [show tk1 ta f + ((0 : Nat) : Int) = f + 1 by simp only [tk1, h2, if_true, if_false]; omega])) (va_eqD hD (by rw [show tk1 ta f + ((0 : Nat) : Int) = f + 1 by simp only [tk1, h2, if_true, if_false]; omega])) hS (fun d hd ihd hJd ls H locs hl hP hD hS => ?_) (fun hJd ls H locs hl hP hD hS => ?_)
        · have hl : lv_has ls 3 [(0, .ref (a 0)), (1, .int (iB (97 ≤ bAt tp ta f ∧ bAt tp ta f ≤ 122))), (2, .int (iB (48 ≤ bAt tp ta f ∧ bAt tp ta f ≤ 57)))] := hl
          have hP : va_P D vwCl (wM a k s kp ot sd st sp tp bi si nu mo ik dl tl ta f (tk1 ta f + d) va iw) H := hP
          have hD : va_D _ (wM a k s kp ot sd st sp tp bi si nu mo ik dl tl ta f (tk1 ta f + d) va iw) := hD
          have hJd : ∀ j : Nat, j < d → ¬ tkP tp ta f j := hJd
          have ht1 := tk1_rg (ta := ta) (f := f) (by omega)
          refine r_iload_n C dX4_token_86 rfl (lv_at hl 1 rfl) ?_
          refine r_ifB_eq C (tgt := 104) dX4_token_87 (by decide) (fun h9 => ?_) (fun h9 => ?_)
          · refine r_iload_n C dX4_token_104 rfl (lv_at hl 2 rfl) ?_
            refine r_ifB_eq C (tgt := 135) dX4_token_105 (by decide) (fun h10 => ?_) (fun h10 => ?_)
            · exact r_vretW C hP hS (by rw [tkT, fst0_yes (p := tkP tp ta f) (by unfold tkP isL isD; omega) hJd (n := 121) (by omega)]) dX4_token_135
            · refine r_aload_n C dX4_token_108 rfl (lv_at hl 0 rfl) ?_
              refine r_aload_n C dX4_token_109 rfl (lv_at hl 0 rfl) ?_
              refine g_X4_185 C hP 0 rfl rfl dX4_token_110 ?_
              refine r_cVR1 C m_X4_191 (cM_byteAt (by omega) (by omega) (by omega) (by omega) htp) hP rfl rfl hl.1 dX4_token_113 ?_
              refine r_cSR1 C m_X4_197 (cM_isDigit (by have := bAt_rg htp ta ((tk1 ta f + d)); exact ⟨by omega, by omega⟩)) pn0 hl.1 dX4_token_116 ?_
              refine r_ifB_eq C (tgt := 135) dX4_token_119 (by decide) (fun h11 => ?_) (fun h11 => ?_)
              · exact r_vretW C hP hS (by rw [tkT, fst0_yes (p := tkP tp ta f) (by unfold tkP isL isD; omega) hJd (n := 121) (by omega)]) dX4_token_135
              · refine r_aload_n C dX4_token_122 rfl (lv_at hl 0 rfl) ?_
                refine r_dup C dX4_token_123 rfl ?_
                refine g_X4_185 C hP 0 rfl rfl dX4_token_124 ?_
                refine r_iconst C dX4_token_127 ?_
                refine r_iadd C dX4_token_128 ?_
                refine p_X4_185 C hP hD hS 0 (wM a k s kp ot sd st sp tp bi si nu mo ik dl tl ta f ((tk1 ta f + d) + 1) va iw) rfl (Nat.le_of_ble_eq_true rfl) rfl dX4_token_129 (fun H locs hP hD hS => ?_)
                refine r_goto C (tgt := 86) dX4_token_132 (by decide) ?_
                have ew4 : wM a k s kp ot sd st sp tp bi si nu mo ik dl tl ta f ((tk1 ta f + d) + 1) va iw = wM a k s kp ot sd st sp tp bi si nu mo ik dl tl ta f (tk1 ta f + (d + 1)) va iw := (by rw [show tk1 ta f + ((d : Int) + 1) = tk1 ta f + d + 1 by omega])
                exact ihd (lt_s hJd (fun q => q (by omega))) ls H locs (lv_eq (lv_sub hl [0, 1, 2] rfl) rfl) (va_eq hP ew4) (va_eqD hD ew4) hS
          · refine r_aload_n C dX4_token_90 rfl (lv_at hl 0 rfl) ?_
            refine r_aload_n C dX4_token_91 rfl (lv_at hl 0 rfl) ?_
            refine g_X4_185 C hP 0 rfl rfl dX4_token_92 ?_
            refine r_cVR1 C m_X4_191 (cM_byteAt (by omega) (by omega) (by omega) (by omega) htp) hP rfl rfl hl.1 dX4_token_95 ?_
            refine r_cSR1 C m_X4_194 (cM_isLetter (by have := bAt_rg htp ta ((tk1 ta f + d)); exact ⟨by omega, by omega⟩)) pn0 hl.1 dX4_token_98 ?_
            refine r_ifB_ne C (tgt := 122) dX4_token_101 (by decide) (fun h12 => ?_) (fun h12 => ?_)
            · refine r_aload_n C dX4_token_122 rfl (lv_at hl 0 rfl) ?_
              refine r_dup C dX4_token_123 rfl ?_
              refine g_X4_185 C hP 0 rfl rfl dX4_token_124 ?_
              refine r_iconst C dX4_token_127 ?_
              refine r_iadd C dX4_token_128 ?_
              refine p_X4_185 C hP hD hS 0 (wM a k s kp ot sd st sp tp bi si nu mo ik dl tl ta f ((tk1 ta f + d) + 1) va iw) rfl (Nat.le_of_ble_eq_true rfl) rfl dX4_token_129 (fun H locs hP hD hS => ?_)
              refine r_goto C (tgt := 86) dX4_token_132 (by decide) ?_
              have ew5 : wM a k s kp ot sd st sp tp bi si nu mo ik dl tl ta f ((tk1 ta f + d) + 1) va iw = wM a k s kp ot sd st sp tp bi si nu mo ik dl tl ta f (tk1 ta f + (d + 1)) va iw := (by rw [show tk1 ta f + ((d : Int) + 1) = tk1 ta f + d + 1 by omega])
              exact ihd (lt_s hJd (fun q => q (by omega))) ls H locs (lv_eq (lv_sub hl [0, 1, 2] rfl) rfl) (va_eq hP ew5) (va_eqD hD ew5) hS
            · refine r_iload_n C dX4_token_104 rfl (lv_at hl 2 rfl) ?_
              refine r_ifB_eq C (tgt := 135) dX4_token_105 (by decide) (fun h13 => ?_) (fun h13 => ?_)
              · exact r_vretW C hP hS (by rw [tkT, fst0_yes (p := tkP tp ta f) (by unfold tkP isL isD; omega) hJd (n := 121) (by omega)]) dX4_token_135
              · refine r_aload_n C dX4_token_108 rfl (lv_at hl 0 rfl) ?_
                refine r_aload_n C dX4_token_109 rfl (lv_at hl 0 rfl) ?_
                refine g_X4_185 C hP 0 rfl rfl dX4_token_110 ?_
                refine r_cVR1 C m_X4_191 (cM_byteAt (by omega) (by omega) (by omega) (by omega) htp) hP rfl rfl hl.1 dX4_token_113 ?_
                refine r_cSR1 C m_X4_197 (cM_isDigit (by have := bAt_rg htp ta ((tk1 ta f + d)); exact ⟨by omega, by omega⟩)) pn0 hl.1 dX4_token_116 ?_
                refine r_ifB_eq C (tgt := 135) dX4_token_119 (by decide) (fun h14 => ?_) (fun h14 => ?_)
                · exact r_vretW C hP hS (by rw [tkT, fst0_yes (p := tkP tp ta f) (by unfold tkP isL isD; omega) hJd (n := 121) (by omega)]) dX4_token_135
                · refine r_aload_n C dX4_token_122 rfl (lv_at hl 0 rfl) ?_
                  refine r_dup C dX4_token_123 rfl ?_
                  refine g_X4_185 C hP 0 rfl rfl dX4_token_124 ?_
                  refine r_iconst C dX4_token_127 ?_
                  refine r_iadd C dX4_token_128 ?_
                  refine p_X4_185 C hP hD hS 0 (wM a k s kp ot sd st sp tp bi si nu mo ik dl tl ta f ((tk1 ta f + d) + 1) va iw) rfl (Nat.le_of_ble_eq_true rfl) rfl dX4_token_129 (fun H locs hP hD hS => ?_)
                  refine r_goto C (tgt := 86) dX4_token_132 (by decide) ?_
                  have ew6 : wM a k s kp ot sd st sp tp bi si nu mo ik dl tl ta f ((tk1 ta f + d) + 1) va iw = wM a k s kp ot sd st sp tp bi si nu mo ik dl tl ta f (tk1 ta f + (d + 1)) va iw := (by rw [show tk1 ta f + ((d : Int) + 1) = tk1 ta f + d + 1 by omega])
                  exact ihd (lt_s hJd (fun q => q (by omega))) ls H locs (lv_eq (lv_sub hl [0, 1, 2] rfl) rfl) (va_eq hP ew6) (va_eqD hD ew6) hS
        · have hl : lv_has ls 3 [(0, .ref (a 0)), (1, .int (iB (97 ≤ bAt tp ta f ∧ bAt tp ta f ≤ 122))), (2, .int (iB (48 ≤ bAt tp ta f ∧ bAt tp ta f ≤ 57)))] := hl
          have hP : va_P D vwCl (wM a k s kp ot sd st sp tp bi si nu mo ik dl tl ta f (tk1 ta f + 121) va iw) H := hP
          have hD : va_D _ (wM a k s kp ot sd st sp tp bi si nu mo ik dl tl ta f (tk1 ta f + 121) va iw) := hD
          have hJd : ∀ j : Nat, j < 121 → ¬ tkP tp ta f j := hJd
          have ht1 := tk1_rg (ta := ta) (f := f) (by omega)
          exact absurd (tk_end (by omega) hfr.2) (hJd _ (by omega))
    · refine r_aload_n C dX4_token_21 rfl (lv_at hl 0 rfl) ?_
      refine r_dup C dX4_token_22 rfl ?_
      refine g_X4_188 C hP 0 rfl rfl dX4_token_23 ?_
      refine r_iconst C dX4_token_26 ?_
      refine r_iadd C dX4_token_27 ?_
      refine p_X4_188 C hP hD hS 0 (wM a k s kp ot sd st sp tp bi si nu mo ik dl tl ta ((to + n) + 1) to va iw) rfl (Nat.le_of_ble_eq_true rfl) rfl dX4_token_28 (fun H locs hP hD hS => ?_)
      refine r_goto C (tgt := 8) dX4_token_31 (by decide) ?_
      have ew7 : wM a k s kp ot sd st sp tp bi si nu mo ik dl tl ta ((to + n) + 1) to va iw = wM a k s kp ot sd st sp tp bi si nu mo ik dl tl ta (to + (n + 1)) to va iw := (by rw [show to + ((n : Int) + 1) = to + n + 1 by omega])
      exact ihn (lt_s hJn (fun q => q h1)) ls H locs (lv_eq (lv_sub hl [0] rfl) rfl) (va_eq hP ew7) (va_eqD hD ew7) hS
  · have hl : lv_has ls 3 [(0, .ref (a 0))] := hl
    have hP : va_P D vwCl (wM a k s kp ot sd st sp tp bi si nu mo ik dl tl ta (to + 121) to va iw) H := hP
    have hD : va_D _ (wM a k s kp ot sd st sp tp bi si nu mo ik dl tl ta (to + 121) to va iw) := hD
    have hJn : ∀ j : Nat, j < 121 → ¬ skP tp ta to j := hJn
    exact absurd (sk_end hto hto1) (hJn _ (by omega))
end MODEL
