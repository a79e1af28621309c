section MODEL
variable {l : Launch} {D : va_G} {k : Nat → ClassId} {a : Nat → Nat} {s kp ot sd st sp tp bi si : Int → Int} {nu mo : Int → Int64} {ik dl tl ta fr to va iw : Int}
set_option maxHeartbeats 4000000 in
set_option maxRecDepth 100000 in
theorem cM_wrongMany  (hs : Ok s) : MR l yX4_wrongMany cX4_wrongMany 3 (some .int) 1 21 D k [.ref (a 0)] (wM a k s kp ot sd st sp tp bi si nu mo ik dl tl ta fr to va iw) (.int (iI (wrongMany s))) := by
  refine MR.mk RX4 rfl (by decide +kernel) (Nat.le_of_ble_eq_true rfl) (fun p e U m0 below meth cd ls C hP hl => ?_)
  have hl : lv_has ls 3 [(0, .ref (a 0))] := hl
  refine r_iconst C dX4_wrongMany_0 ?_
  refine r_istore_n C [(1, .int (iI 0)), (0, .ref (a 0))] dX4_wrongMany_1 rfl hl (by decide) rfl (fun ls hl => ?_)
  refine r_iconst C dX4_wrongMany_2 ?_
  refine r_istore_n C [(2, .int (iI 0)), (1, .int (iI 0)), (0, .ref (a 0))] dX4_wrongMany_3 rfl hl (by decide) rfl (fun ls hl => ?_)
  refine r_loopR (fun n : Nat => [(0, .ref (a 0)), (1, .int (iI (cntU s n))), (2, .int (iI n))]) (48) (lv_eq (lv_sub hl [2, 1, 0] rfl) rfl) (fun n hn ihn ls hl => ?_) (fun ls hl => ?_)
  · have hl : lv_has ls 3 [(0, .ref (a 0)), (1, .int (iI (cntU s n))), (2, .int (iI n))] := hl
    refine r_iload_n C dX4_wrongMany_4 rfl (lv_at hl 2 rfl) ?_
    refine r_bipush C dX4_wrongMany_5 (by decide) ?_
    refine r_icmp_ge C (tgt := 32) dX4_wrongMany_7 (by decide) (by exact ⟨by omega, by omega⟩) ⟨by decide, by decide⟩ (fun h1 => ?_) (fun h1 => ?_)
    · exfalso; omega
    · refine r_iload_n C dX4_wrongMany_10 rfl (lv_at hl 1 rfl) ?_
      refine r_aload_n C dX4_wrongMany_11 rfl (lv_at hl 0 rfl) ?_
      refine r_iload_n C dX4_wrongMany_12 rfl (lv_at hl 2 rfl) ?_
      refine r_cVR1 C m_X4_61 (cM_isUntrue (by omega) (by omega) hs) hP rfl rfl hl.1 dX4_wrongMany_13 ?_
      refine r_ifB_eq C (tgt := 23) dX4_wrongMany_16 (by decide) (fun h2 => ?_) (fun h2 => ?_)
      · refine r_iconst C dX4_wrongMany_23 ?_
        refine r_iadd C dX4_wrongMany_24 ?_
        refine r_istore_n C [(1, .int (iI ((cntU s n) + 0))), (0, .ref (a 0)), (2, .int (iI n))] dX4_wrongMany_25 rfl hl (by decide) rfl (fun ls hl => ?_)
        refine r_iinc C 2 [(2, .int (iI (n + 1))), (1, .int (iI ((cntU s n) + 0))), (0, .ref (a 0))] dX4_wrongMany_26 hl rfl (by decide) rfl (fun ls hl => ?_)
        refine r_goto C (tgt := 4) dX4_wrongMany_29 (by decide) ?_
        exact ihn ls (lv_eq (lv_sub hl [2, 1, 0] rfl) (by simp only [cntU, h1, h2, not_true_eq_false, not_false_eq_true, and_true, true_and, and_false, false_and, or_true, true_or, or_false, false_or, if_true, if_false, ne_eq, reduceIte]; rfl))
      · refine r_iconst C dX4_wrongMany_19 ?_
        refine r_goto C (tgt := 24) dX4_wrongMany_20 (by decide) ?_
        refine r_iadd C dX4_wrongMany_24 ?_
        refine r_istore_n C [(1, .int (iI ((cntU s n) + 1))), (0, .ref (a 0)), (2, .int (iI n))] dX4_wrongMany_25 rfl hl (by decide) rfl (fun ls hl => ?_)
        refine r_iinc C 2 [(2, .int (iI (n + 1))), (1, .int (iI ((cntU s n) + 1))), (0, .ref (a 0))] dX4_wrongMany_26 hl rfl (by decide) rfl (fun ls hl => ?_)
        refine r_goto C (tgt := 4) dX4_wrongMany_29 (by decide) ?_
        exact ihn ls (lv_eq (lv_sub hl [2, 1, 0] rfl) (by simp only [cntU, h1, h2, not_true_eq_false, not_false_eq_true, and_true, true_and, and_false, false_and, or_true, true_or, or_false, false_or, if_true, if_false, ne_eq, reduceIte]; rfl))
  · have hl : lv_has ls 3 [(0, .ref (a 0)), (1, .int (iI (cntU s 48))), (2, .int (iI 48))] := hl
    refine r_iload_n C dX4_wrongMany_4 rfl (lv_at hl 2 rfl) ?_
    refine r_bipush C dX4_wrongMany_5 (by decide) ?_
    refine r_icmp_ge C (tgt := 32) dX4_wrongMany_7 (by decide) ⟨by decide, by decide⟩ ⟨by decide, by decide⟩ (fun h3 => ?_) (fun h3 => ?_)
    · refine r_iload_n C dX4_wrongMany_32 rfl (lv_at hl 1 rfl) ?_
      exact r_iretR C rfl dX4_wrongMany_33
    · exfalso; omega
set_option maxHeartbeats 4000000 in
set_option maxRecDepth 100000 in
theorem cM_wrongBeside {c : Int} (hc : 0 ≤ c) (hc1 : c < 48) (hs : Ok s) : MR l yX4_wrongBeside cX4_wrongBeside 5 (some .int) 1 23 D k [.ref (a 0), .int (iI c)] (wM a k s kp ot sd st sp tp bi si nu mo ik dl tl ta fr to va iw) (.int (iI (wrongBeside s c))) := by
  refine MR.mk RX4 rfl (by decide +kernel) (Nat.le_of_ble_eq_true rfl) (fun p e U m0 below meth cd ls C hP hl => ?_)
  have hl : lv_has ls 5 [(0, .ref (a 0)), (1, .int (iI c))] := hl
  refine r_iconst C dX4_wrongBeside_0 ?_
  refine r_istore_n C [(2, .int (iI 0)), (0, .ref (a 0)), (1, .int (iI c))] dX4_wrongBeside_1 rfl hl (by decide) rfl (fun ls hl => ?_)
  refine r_iconst C dX4_wrongBeside_2 ?_
  refine r_istore_n C [(3, .int (iI 0)), (2, .int (iI 0)), (0, .ref (a 0)), (1, .int (iI c))] dX4_wrongBeside_3 rfl hl (by decide) rfl (fun ls hl => ?_)
  refine r_loopR (fun n : Nat => [(0, .ref (a 0)), (1, .int (iI c)), (2, .int (iI (cntB s c n))), (3, .int (iI n))]) (4) (lv_eq (lv_sub hl [2, 3, 1, 0] rfl) rfl) (fun n hn ihn ls hl => ?_) (fun ls hl => ?_)
  · have hl : lv_has ls 5 [(0, .ref (a 0)), (1, .int (iI c)), (2, .int (iI (cntB s c n))), (3, .int (iI n))] := hl
    refine r_iload_n C dX4_wrongBeside_4 rfl (lv_at hl 3 rfl) ?_
    refine r_iconst C dX4_wrongBeside_5 ?_
    refine r_icmp_ge C (tgt := 44) dX4_wrongBeside_6 (by decide) (by exact ⟨by omega, by omega⟩) ⟨by decide, by decide⟩ (fun h1 => ?_) (fun h1 => ?_)
    · exfalso; omega
    · refine r_iload_n C dX4_wrongBeside_9 rfl (lv_at hl 1 rfl) ?_
      refine r_iload_n C dX4_wrongBeside_10 rfl (lv_at hl 3 rfl) ?_
      refine r_cSR2 C m_X4_65 (cM_beside (by omega) (by omega) (by exact ⟨by omega, by omega⟩)) pn0 hl.1 dX4_wrongBeside_11 ?_
      refine r_istore C [(4, .int (iI (besd c n))), (0, .ref (a 0)), (1, .int (iI c)), (2, .int (iI (cntB s c n))), (3, .int (iI n))] dX4_wrongBeside_14 hl (by decide) rfl (fun ls hl => ?_)
      refine r_iload_n C dX4_wrongBeside_16 rfl (lv_at hl 3 rfl) ?_
      refine r_iload C dX4_wrongBeside_17 (lv_at hl 0 rfl) ?_
      refine r_if_lt C (tgt := 35) dX4_wrongBeside_19 (by decide) (by have := besd_lt (c := c) (w := n) (by omega) (by omega); exact ⟨by omega, by omega⟩) (fun h2 => ?_) (fun h2 => ?_)
      · refine r_iconst C dX4_wrongBeside_35 ?_
        refine r_iadd C dX4_wrongBeside_36 ?_
        refine r_istore_n C [(2, .int (iI ((cntB s c n) + 0))), (4, .int (iI (besd c n))), (0, .ref (a 0)), (1, .int (iI c)), (3, .int (iI n))] dX4_wrongBeside_37 rfl hl (by decide) rfl (fun ls hl => ?_)
        refine r_iinc C 4 [(3, .int (iI (n + 1))), (2, .int (iI ((cntB s c n) + 0))), (4, .int (iI (besd c n))), (0, .ref (a 0)), (1, .int (iI c))] dX4_wrongBeside_38 hl rfl (by decide) rfl (fun ls hl => ?_)
        refine r_goto C (tgt := 4) dX4_wrongBeside_41 (by decide) ?_
        exact ihn ls (lv_eq (lv_sub hl [3, 4, 1, 0] rfl) (by simp only [cntB, ← Int.not_lt, h1, h2, not_true_eq_false, not_false_eq_true, and_true, true_and, and_false, false_and, or_true, true_or, or_false, false_or, if_true, if_false, ne_eq, reduceIte]; rfl))
      · refine r_aload_n C dX4_wrongBeside_22 rfl (lv_at hl 1 rfl) ?_
        refine r_iload C dX4_wrongBeside_23 (lv_at hl 0 rfl) ?_
        refine r_cVR1 C m_X4_61 (cM_isUntrue (by have := besd_lt (c := c) (w := n) (by omega) (by omega); omega) (by have := besd_lt (c := c) (w := n) (by omega) (by omega); omega) hs) hP rfl rfl hl.1 dX4_wrongBeside_25 ?_
        refine r_ifB_eq C (tgt := 35) dX4_wrongBeside_28 (by decide) (fun h3 => ?_) (fun h3 => ?_)
        · refine r_iconst C dX4_wrongBeside_35 ?_
          refine r_iadd C dX4_wrongBeside_36 ?_
          refine r_istore_n C [(2, .int (iI ((cntB s c n) + 0))), (4, .int (iI (besd c n))), (0, .ref (a 0)), (1, .int (iI c)), (3, .int (iI n))] dX4_wrongBeside_37 rfl hl (by decide) rfl (fun ls hl => ?_)
          refine r_iinc C 4 [(3, .int (iI (n + 1))), (2, .int (iI ((cntB s c n) + 0))), (4, .int (iI (besd c n))), (0, .ref (a 0)), (1, .int (iI c))] dX4_wrongBeside_38 hl rfl (by decide) rfl (fun ls hl => ?_)
          refine r_goto C (tgt := 4) dX4_wrongBeside_41 (by decide) ?_
          exact ihn ls (lv_eq (lv_sub hl [3, 4, 1, 0] rfl) (by simp only [cntB, ← Int.not_lt, h1, h2, h3, not_true_eq_false, not_false_eq_true, and_true, true_and, and_false, false_and, or_true, true_or, or_false, false_or, if_true, if_false, ne_eq, reduceIte]; rfl))
        · refine r_iconst C dX4_wrongBeside_31 ?_
          refine r_goto C (tgt := 36) dX4_wrongBeside_32 (by decide) ?_
          refine r_iadd C dX4_wrongBeside_36 ?_
          refine r_istore_n C [(2, .int (iI ((cntB s c n) + 1))), (4, .int (iI (besd c n))), (0, .ref (a 0)), (1, .int (iI c)), (3, .int (iI n))] dX4_wrongBeside_37 rfl hl (by decide) rfl (fun ls hl => ?_)
          refine r_iinc C 4 [(3, .int (iI (n + 1))), (2, .int (iI ((cntB s c n) + 1))), (4, .int (iI (besd c n))), (0, .ref (a 0)), (1, .int (iI c))] dX4_wrongBeside_38 hl rfl (by decide) rfl (fun ls hl => ?_)
          refine r_goto C (tgt := 4) dX4_wrongBeside_41 (by decide) ?_
          exact ihn ls (lv_eq (lv_sub hl [3, 4, 1, 0] rfl) (by simp only [cntB, ← Int.not_lt, h1, h2, h3, not_true_eq_false, not_false_eq_true, and_true, true_and, and_false, false_and, or_true, true_or, or_false, false_or, if_true, if_false, ne_eq, reduceIte]; rfl))
  · have hl : lv_has ls 5 [(0, .ref (a 0)), (1, .int (iI c)), (2, .int (iI (cntB s c 4))), (3, .int (iI 4))] := hl
    refine r_iload_n C dX4_wrongBeside_4 rfl (lv_at hl 3 rfl) ?_
    refine r_iconst C dX4_wrongBeside_5 ?_
    refine r_icmp_ge C (tgt := 44) dX4_wrongBeside_6 (by decide) ⟨by decide, by decide⟩ ⟨by decide, by decide⟩ (fun h4 => ?_) (fun h4 => ?_)
    · refine r_iload_n C dX4_wrongBeside_44 rfl (lv_at hl 2 rfl) ?_
      exact r_iretR C rfl dX4_wrongBeside_45
    · exfalso; omega
set_option maxHeartbeats 4000000 in
set_option maxRecDepth 100000 in
theorem cM_others {b : Int} (hb : 2 ≤ b) (hb1 : b ≤ 75) (hs : Ok s) : MR l yX4_others cX4_others 4 (some .int) 0 0 D k [.ref (a 0), .int (iI b)] (wM a k s kp ot sd st sp tp bi si nu mo ik dl tl ta fr to va iw) (.int (iI (oth s b 48))) := by
  refine MR.mk RX4 rfl (by decide +kernel) (Nat.le_of_ble_eq_true rfl) (fun p e U m0 below meth cd ls C hP hl => ?_)
  have hl : lv_has ls 4 [(0, .ref (a 0)), (1, .int (iI b))] := hl
  refine r_iconst C dX4_others_0 ?_
  refine r_istore_n C [(2, .int (iI 0)), (0, .ref (a 0)), (1, .int (iI b))] dX4_others_1 rfl hl (by decide) rfl (fun ls hl => ?_)
  refine r_iconst C dX4_others_2 ?_
  refine r_istore_n C [(3, .int (iI 0)), (2, .int (iI 0)), (0, .ref (a 0)), (1, .int (iI b))] dX4_others_3 rfl hl (by decide) rfl (fun ls hl => ?_)
  refine r_loopR (fun n : Nat => [(0, .ref (a 0)), (1, .int (iI b)), (2, .int (iI (oth s b n))), (3, .int (iI n))]) (48) (lv_eq (lv_sub hl [2, 3, 1, 0] rfl) rfl) (fun n hn ihn ls hl => ?_) (fun ls hl => ?_)
  · have hl : lv_has ls 4 [(0, .ref (a 0)), (1, .int (iI b)), (2, .int (iI (oth s b n))), (3, .int (iI n))] := hl
    refine r_iload_n C dX4_others_4 rfl (lv_at hl 3 rfl) ?_
    refine r_bipush C dX4_others_5 (by decide) ?_
    refine r_icmp_ge C (tgt := 35) dX4_others_7 (by decide) (by exact ⟨by omega, by omega⟩) ⟨by decide, by decide⟩ (fun h1 => ?_) (fun h1 => ?_)
    · exfalso; omega
    · refine r_iload_n C dX4_others_10 rfl (lv_at hl 2 rfl) ?_
      refine r_aload_n C dX4_others_11 rfl (lv_at hl 0 rfl) ?_
      refine g_X4_7 C hP 0 rfl rfl dX4_others_12 ?_
      refine r_iload_n C dX4_others_15 rfl (lv_at hl 1 rfl) ?_
      refine r_iload_n C dX4_others_16 rfl (lv_at hl 3 rfl) ?_
      refine r_iadd C dX4_others_17 ?_
      refine r_iald C hP 1 rfl dX4_others_18 (by omega) (by omega) (by decide) ?_
      refine r_if_ne C (tgt := 26) dX4_others_19 (by decide) (by have := hs.1 (b + n) (by omega); exact ⟨by omega, by omega⟩) (fun h2 => ?_) (fun h2 => ?_)
      · refine r_iconst C dX4_others_26 ?_
        refine r_iadd C dX4_others_27 ?_
        refine r_istore_n C [(2, .int (iI ((oth s b n) + 1))), (0, .ref (a 0)), (1, .int (iI b)), (3, .int (iI n))] dX4_others_28 rfl hl (by decide) rfl (fun ls hl => ?_)
        refine r_iinc C 3 [(3, .int (iI (n + 1))), (2, .int (iI ((oth s b n) + 1))), (0, .ref (a 0)), (1, .int (iI b))] dX4_others_29 hl rfl (by decide) rfl (fun ls hl => ?_)
        refine r_goto C (tgt := 4) dX4_others_32 (by decide) ?_
        exact ihn ls (lv_eq (lv_sub hl [2, 3, 1, 0] rfl) (by simp only [oth, h1, h2, not_true_eq_false, not_false_eq_true, and_true, true_and, and_false, false_and, or_true, true_or, or_false, false_or, if_true, if_false, ne_eq, reduceIte]; rfl))
      · refine r_iconst C dX4_others_22 ?_
        refine r_goto C (tgt := 27) dX4_others_23 (by decide) ?_
        refine r_iadd C dX4_others_27 ?_
        refine r_istore_n C [(2, .int (iI ((oth s b n) + 0))), (0, .ref (a 0)), (1, .int (iI b)), (3, .int (iI n))] dX4_others_28 rfl hl (by decide) rfl (fun ls hl => ?_)
        refine r_iinc C 3 [(3, .int (iI (n + 1))), (2, .int (iI ((oth s b n) + 0))), (0, .ref (a 0)), (1, .int (iI b))] dX4_others_29 hl rfl (by decide) rfl (fun ls hl => ?_)
        refine r_goto C (tgt := 4) dX4_others_32 (by decide) ?_
        exact ihn ls (lv_eq (lv_sub hl [2, 3, 1, 0] rfl) (by simp only [oth, h1, eq_true h2, not_true_eq_false, not_false_eq_true, and_true, true_and, and_false, false_and, or_true, true_or, or_false, false_or, if_true, if_false, ne_eq, reduceIte]; rfl))
  · have hl : lv_has ls 4 [(0, .ref (a 0)), (1, .int (iI b)), (2, .int (iI (oth s b 48))), (3, .int (iI 48))] := hl
    refine r_iload_n C dX4_others_4 rfl (lv_at hl 3 rfl) ?_
    refine r_bipush C dX4_others_5 (by decide) ?_
    refine r_icmp_ge C (tgt := 35) dX4_others_7 (by decide) ⟨by decide, by decide⟩ ⟨by decide, by decide⟩ (fun h3 => ?_) (fun h3 => ?_)
    · refine r_iload_n C dX4_others_35 rfl (lv_at hl 2 rfl) ?_
      exact r_iretR C rfl dX4_others_36
    · exfalso; omega
set_option maxHeartbeats 4000000 in
set_option maxRecDepth 100000 in
theorem cM_together {w : Int} (hw : 0 ≤ w) (hw1 : w < 4) (hs : Ok s) : MR l yX4_together cX4_together 4 (some .int) 2 43 D k [.ref (a 0), .int (iI w)] (wM a k s kp ot sd st sp tp bi si nu mo ik dl tl ta fr to va iw) (.int (iI (tgt s w (s 0).toNat))) := by
  refine MR.mk RX4 rfl (by decide +kernel) (Nat.le_of_ble_eq_true rfl) (fun p e U m0 below meth cd ls C hP hl => ?_)
  have hl : lv_has ls 4 [(0, .ref (a 0)), (1, .int (iI w))] := hl
  have h00 := hs.1 0 (by decide)
  have h06 := hs.2.2.1
  refine r_iconst C dX4_together_0 ?_
  refine r_istore_n C [(2, .int (iI 0)), (0, .ref (a 0)), (1, .int (iI w))] dX4_together_1 rfl hl (by decide) rfl (fun ls hl => ?_)
  refine r_iconst C dX4_together_2 ?_
  refine r_istore_n C [(3, .int (iI 0)), (2, .int (iI 0)), (0, .ref (a 0)), (1, .int (iI w))] dX4_together_3 rfl hl (by decide) rfl (fun ls hl => ?_)
  refine r_loopR (fun n : Nat => [(0, .ref (a 0)), (1, .int (iI w)), (2, .int (iI (tgt s w n))), (3, .int (iI n))]) ((s 0).toNat) (lv_eq (lv_sub hl [2, 3, 1, 0] rfl) rfl) (fun n hn ihn ls hl => ?_) (fun ls hl => ?_)
  · have hl : lv_has ls 4 [(0, .ref (a 0)), (1, .int (iI w)), (2, .int (iI (tgt s w n))), (3, .int (iI n))] := hl
    refine r_iload_n C dX4_together_4 rfl (lv_at hl 3 rfl) ?_
    refine r_aload_n C dX4_together_5 rfl (lv_at hl 0 rfl) ?_
    refine g_X4_7 C hP 0 rfl rfl dX4_together_6 ?_
    refine r_iconst C dX4_together_9 ?_
    refine r_iald C hP 1 rfl dX4_together_10 (by omega) (by omega) (by decide) ?_
    refine r_icmp_ge C (tgt := 29) dX4_together_11 (by decide) (by exact ⟨by omega, by omega⟩) (by have := hs.1 (0) (by omega); exact ⟨by omega, by omega⟩) (fun h1 => ?_) (fun h1 => ?_)
    · exfalso; omega
    · refine r_iload_n C dX4_together_14 rfl (lv_at hl 2 rfl) ?_
      refine r_aload_n C dX4_together_15 rfl (lv_at hl 0 rfl) ?_
      refine r_iload_n C dX4_together_16 rfl (lv_at hl 3 rfl) ?_
      refine r_iload_n C dX4_together_17 rfl (lv_at hl 1 rfl) ?_
      refine r_cVR2 C m_X4_86 (cM_its (by omega) (by omega) (by omega) (by omega)) hP rfl rfl hl.1 dX4_together_18 ?_
      refine r_iadd C dX4_together_21 ?_
      refine r_istore_n C [(2, .int (iI ((tgt s w n) + (s (99 + 4 * n + w))))), (0, .ref (a 0)), (1, .int (iI w)), (3, .int (iI n))] dX4_together_22 rfl hl (by decide) rfl (fun ls hl => ?_)
      refine r_iinc C 3 [(3, .int (iI (n + 1))), (2, .int (iI ((tgt s w n) + (s (99 + 4 * n + w))))), (0, .ref (a 0)), (1, .int (iI w))] dX4_together_23 hl rfl (by decide) rfl (fun ls hl => ?_)
      refine r_goto C (tgt := 4) dX4_together_26 (by decide) ?_
      exact ihn ls (lv_eq (lv_sub hl [2, 3, 1, 0] rfl) (by simp only [tgt]; rfl))
  · have hl : lv_has ls 4 [(0, .ref (a 0)), (1, .int (iI w)), (2, .int (iI (tgt s w (s 0).toNat))), (3, .int (iI ((s 0).toNat)))] := hl
    refine r_iload_n C dX4_together_4 rfl (lv_at hl 3 rfl) ?_
    refine r_aload_n C dX4_together_5 rfl (lv_at hl 0 rfl) ?_
    refine g_X4_7 C hP 0 rfl rfl dX4_together_6 ?_
    refine r_iconst C dX4_together_9 ?_
    refine r_iald C hP 1 rfl dX4_together_10 (by omega) (by omega) (by decide) ?_
    refine r_icmp_ge C (tgt := 29) dX4_together_11 (by decide) (by exact ⟨by omega, by omega⟩) (by have := hs.1 (0) (by omega); exact ⟨by omega, by omega⟩) (fun h2 => ?_) (fun h2 => ?_)
    · refine r_iload_n C dX4_together_29 rfl (lv_at hl 2 rfl) ?_
      exact r_iretR C rfl dX4_together_30
    · exfalso; omega
set_option maxHeartbeats 4000000 in
set_option maxRecDepth 100000 in
theorem cM_saves   : MW l yX4_saves cX4_saves 2 none 0 0 D k [.ref (a 0)] (wM a k s kp ot sd st sp tp bi si nu mo ik dl tl ta fr to va iw) (wM a k s kp (cpN s ot 123) sd st sp tp bi si nu mo ik dl tl ta fr to va iw) none := by
  refine MW.mk RX4 rfl (by decide +kernel) (Nat.le_of_ble_eq_true rfl) (fun p e U m0 below meth cd ls C hP hD hS hl => ?_)
  have hl : lv_has ls 2 [(0, .ref (a 0))] := hl
  refine r_iconst C dX4_saves_0 ?_
  refine r_istore_n C [(1, .int (iI 0)), (0, .ref (a 0))] dX4_saves_1 rfl hl (by decide) rfl (fun ls hl => ?_)
  refine r_loopW (fun n : Nat => [(0, .ref (a 0)), (1, .int (iI n))]) (fun n : Nat => wM a k s kp (cpN s ot n) sd st sp tp bi si nu mo ik dl tl ta fr to va iw) (123) (lv_eq (lv_sub hl [1, 0] rfl) rfl) (va_eq hP (by rw [cpN_0])) (va_eqD hD (by rw [cpN_0])) hS (fun n hn ihn ls H locs hl hP hD hS => ?_) (fun ls H locs hl hP hD hS => ?_)
  · have hl : lv_has ls 2 [(0, .ref (a 0)), (1, .int (iI n))] := hl
    have hP : va_P D vwCl (wM a k s kp (cpN s ot n) sd st sp tp bi si nu mo ik dl tl ta fr to va iw) H := hP
    have hD : va_D _ (wM a k s kp (cpN s ot n) sd st sp tp bi si nu mo ik dl tl ta fr to va iw) := hD
    refine r_iload_n C dX4_saves_2 rfl (lv_at hl 1 rfl) ?_
    refine r_bipush C dX4_saves_3 (by decide) ?_
    refine r_icmp_ge C (tgt := 26) dX4_saves_5 (by decide) (by exact ⟨by omega, by omega⟩) ⟨by decide, by decide⟩ (fun h1 => ?_) (fun h1 => ?_)
    · exfalso; omega
    · refine r_aload_n C dX4_saves_8 rfl (lv_at hl 0 rfl) ?_
      refine g_X4_16 C hP 0 rfl rfl dX4_saves_9 ?_
      refine r_iload_n C dX4_saves_12 rfl (lv_at hl 1 rfl) ?_
      refine r_aload_n C dX4_saves_13 rfl (lv_at hl 0 rfl) ?_
      refine g_X4_7 C hP 0 rfl rfl dX4_saves_14 ?_
      refine r_iload_n C dX4_saves_17 rfl (lv_at hl 1 rfl) ?_
      refine r_iald C hP 1 rfl dX4_saves_18 (by omega) (by omega) (by decide) ?_
      refine r_iast C hP hD hS 3 (wM a k s kp (up (cpN s ot n) n (s (n))) sd st sp tp bi si nu mo ik dl tl ta fr to va iw) rfl dX4_saves_19 (by omega) (by omega) (by decide) rfl (fun H locs hP hD hS => ?_)
      refine r_iinc C 1 [(1, .int (iI (n + 1))), (0, .ref (a 0))] dX4_saves_20 hl rfl (by decide) rfl (fun ls hl => ?_)
      refine r_goto C (tgt := 2) dX4_saves_23 (by decide) ?_
      have ew1 : wM a k s kp (up (cpN s ot n) n (s (n))) sd st sp tp bi si nu mo ik dl tl ta fr to va iw = wM a k s kp (cpN s ot (n + 1)) sd st sp tp bi si nu mo ik dl tl ta fr to va iw := (by rw [cpN_s])
      exact ihn ls H locs (lv_eq (lv_sub hl [1, 0] rfl) rfl) (va_eq hP ew1) (va_eqD hD ew1) hS
  · have hl : lv_has ls 2 [(0, .ref (a 0)), (1, .int (iI 123))] := hl
    have hP : va_P D vwCl (wM a k s kp (cpN s ot 123) sd st sp tp bi si nu mo ik dl tl ta fr to va iw) H := hP
    have hD : va_D _ (wM a k s kp (cpN s ot 123) sd st sp tp bi si nu mo ik dl tl ta fr to va iw) := hD
    refine r_iload_n C dX4_saves_2 rfl (lv_at hl 1 rfl) ?_
    refine r_bipush C dX4_saves_3 (by decide) ?_
    refine r_icmp_ge C (tgt := 26) dX4_saves_5 (by decide) ⟨by decide, by decide⟩ ⟨by decide, by decide⟩ (fun h2 => ?_) (fun h2 => ?_)
    · exact r_vretW C hP hS rfl dX4_saves_26
    · exfalso; omega
set_option maxHeartbeats 4000000 in
set_option maxRecDepth 100000 in
theorem cM_putsBack   : MW l yX4_putsBack cX4_putsBack 2 none 0 0 D k [.ref (a 0)] (wM a k s kp ot sd st sp tp bi si nu mo ik dl tl ta fr to va iw) (wM a k (cpN ot s 123) kp ot sd st sp tp bi si nu mo ik dl tl ta fr to va iw) none := by
  refine MW.mk RX4 rfl (by decide +kernel) (Nat.le_of_ble_eq_true rfl) (fun p e U m0 below meth cd ls C hP hD hS hl => ?_)
  have hl : lv_has ls 2 [(0, .ref (a 0))] := hl
  refine r_iconst C dX4_putsBack_0 ?_
  refine r_istore_n C [(1, .int (iI 0)), (0, .ref (a 0))] dX4_putsBack_1 rfl hl (by decide) rfl (fun ls hl => ?_)
  refine r_loopW (fun n : Nat => [(0, .ref (a 0)), (1, .int (iI n))]) (fun n : Nat => wM a k (cpN ot s n) kp ot sd st sp tp bi si nu mo ik dl tl ta fr to va iw) (123) (lv_eq (lv_sub hl [1, 0] rfl) rfl) (va_eq hP (by rw [cpN_0])) (va_eqD hD (by rw [cpN_0])) hS (fun n hn ihn ls H locs hl hP hD hS => ?_) (fun ls H locs hl hP hD hS => ?_)
  · have hl : lv_has ls 2 [(0, .ref (a 0)), (1, .int (iI n))] := hl
    have hP : va_P D vwCl (wM a k (cpN ot s n) kp ot sd st sp tp bi si nu mo ik dl tl ta fr to va iw) H := hP
    have hD : va_D _ (wM a k (cpN ot s n) kp ot sd st sp tp bi si nu mo ik dl tl ta fr to va iw) := hD
    refine r_iload_n C dX4_putsBack_2 rfl (lv_at hl 1 rfl) ?_
    refine r_bipush C dX4_putsBack_3 (by decide) ?_
    refine r_icmp_ge C (tgt := 26) dX4_putsBack_5 (by decide) (by exact ⟨by omega, by omega⟩) ⟨by decide, by decide⟩ (fun h1 => ?_) (fun h1 => ?_)
    · exfalso; omega
    · refine r_aload_n C dX4_putsBack_8 rfl (lv_at hl 0 rfl) ?_
      refine g_X4_7 C hP 0 rfl rfl dX4_putsBack_9 ?_
      refine r_iload_n C dX4_putsBack_12 rfl (lv_at hl 1 rfl) ?_
      refine r_aload_n C dX4_putsBack_13 rfl (lv_at hl 0 rfl) ?_
      refine g_X4_16 C hP 0 rfl rfl dX4_putsBack_14 ?_
      refine r_iload_n C dX4_putsBack_17 rfl (lv_at hl 1 rfl) ?_
      refine r_iald C hP 3 rfl dX4_putsBack_18 (by omega) (by omega) (by decide) ?_
      refine r_iast C hP hD hS 1 (wM a k (up (cpN ot s n) n (ot (n))) kp ot sd st sp tp bi si nu mo ik dl tl ta fr to va iw) rfl dX4_putsBack_19 (by omega) (by omega) (by decide) rfl (fun H locs hP hD hS => ?_)
      refine r_iinc C 1 [(1, .int (iI (n + 1))), (0, .ref (a 0))] dX4_putsBack_20 hl rfl (by decide) rfl (fun ls hl => ?_)
      refine r_goto C (tgt := 2) dX4_putsBack_23 (by decide) ?_
      have ew1 : wM a k (up (cpN ot s n) n (ot (n))) kp ot sd st sp tp bi si nu mo ik dl tl ta fr to va iw = wM a k (cpN ot s (n + 1)) kp ot sd st sp tp bi si nu mo ik dl tl ta fr to va iw := (by rw [cpN_s])
      exact ihn ls H locs (lv_eq (lv_sub hl [1, 0] rfl) rfl) (va_eq hP ew1) (va_eqD hD ew1) hS
  · have hl : lv_has ls 2 [(0, .ref (a 0)), (1, .int (iI 123))] := hl
    have hP : va_P D vwCl (wM a k (cpN ot s 123) kp ot sd st sp tp bi si nu mo ik dl tl ta fr to va iw) H := hP
    have hD : va_D _ (wM a k (cpN ot s 123) kp ot sd st sp tp bi si nu mo ik dl tl ta fr to va iw) := hD
    refine r_iload_n C dX4_putsBack_2 rfl (lv_at hl 1 rfl) ?_
    refine r_bipush C dX4_putsBack_3 (by decide) ?_
    refine r_icmp_ge C (tgt := 26) dX4_putsBack_5 (by decide) ⟨by decide, by decide⟩ ⟨by decide, by decide⟩ (fun h2 => ?_) (fun h2 => ?_)
    · exact r_vretW C hP hS rfl dX4_putsBack_26
    · exfalso; omega
set_option maxHeartbeats 4000000 in
set_option maxRecDepth 100000 in
theorem cM_laysAside   : MW l yX4_laysAside cX4_laysAside 2 none 0 0 D k [.ref (a 0)] (wM a k s kp ot sd st sp tp bi si nu mo ik dl tl ta fr to va iw) (wM a k s kp ot (cpN s sd 123) st sp tp bi si nu mo ik dl tl ta fr to va iw) none := by
  refine MW.mk RX4 rfl (by decide +kernel) (Nat.le_of_ble_eq_true rfl) (fun p e U m0 below meth cd ls C hP hD hS hl => ?_)
  have hl : lv_has ls 2 [(0, .ref (a 0))] := hl
  refine r_iconst C dX4_laysAside_0 ?_
  refine r_istore_n C [(1, .int (iI 0)), (0, .ref (a 0))] dX4_laysAside_1 rfl hl (by decide) rfl (fun ls hl => ?_)
  refine r_loopW (fun n : Nat => [(0, .ref (a 0)), (1, .int (iI n))]) (fun n : Nat => wM a k s kp ot (cpN s sd n) st sp tp bi si nu mo ik dl tl ta fr to va iw) (123) (lv_eq (lv_sub hl [1, 0] rfl) rfl) (va_eq hP (by rw [cpN_0])) (va_eqD hD (by rw [cpN_0])) hS (fun n hn ihn ls H locs hl hP hD hS => ?_) (fun ls H locs hl hP hD hS => ?_)
  · have hl : lv_has ls 2 [(0, .ref (a 0)), (1, .int (iI n))] := hl
    have hP : va_P D vwCl (wM a k s kp ot (cpN s sd n) st sp tp bi si nu mo ik dl tl ta fr to va iw) H := hP
    have hD : va_D _ (wM a k s kp ot (cpN s sd n) st sp tp bi si nu mo ik dl tl ta fr to va iw) := hD
    refine r_iload_n C dX4_laysAside_2 rfl (lv_at hl 1 rfl) ?_
    refine r_bipush C dX4_laysAside_3 (by decide) ?_
    refine r_icmp_ge C (tgt := 26) dX4_laysAside_5 (by decide) (by exact ⟨by omega, by omega⟩) ⟨by decide, by decide⟩ (fun h1 => ?_) (fun h1 => ?_)
    · exfalso; omega
    · refine r_aload_n C dX4_laysAside_8 rfl (lv_at hl 0 rfl) ?_
      refine g_X4_19 C hP 0 rfl rfl dX4_laysAside_9 ?_
      refine r_iload_n C dX4_laysAside_12 rfl (lv_at hl 1 rfl) ?_
      refine r_aload_n C dX4_laysAside_13 rfl (lv_at hl 0 rfl) ?_
      refine g_X4_7 C hP 0 rfl rfl dX4_laysAside_14 ?_
      refine r_iload_n C dX4_laysAside_17 rfl (lv_at hl 1 rfl) ?_
      refine r_iald C hP 1 rfl dX4_laysAside_18 (by omega) (by omega) (by decide) ?_
      refine r_iast C hP hD hS 4 (wM a k s kp ot (up (cpN s sd n) n (s (n))) st sp tp bi si nu mo ik dl tl ta fr to va iw) rfl dX4_laysAside_19 (by omega) (by omega) (by decide) rfl (fun H locs hP hD hS => ?_)
      refine r_iinc C 1 [(1, .int (iI (n + 1))), (0, .ref (a 0))] dX4_laysAside_20 hl rfl (by decide) rfl (fun ls hl => ?_)
      refine r_goto C (tgt := 2) dX4_laysAside_23 (by decide) ?_
      have ew1 : wM a k s kp ot (up (cpN s sd n) n (s (n))) st sp tp bi si nu mo ik dl tl ta fr to va iw = wM a k s kp ot (cpN s sd (n + 1)) st sp tp bi si nu mo ik dl tl ta fr to va iw := (by rw [cpN_s])
      exact ihn ls H locs (lv_eq (lv_sub hl [1, 0] rfl) rfl) (va_eq hP ew1) (va_eqD hD ew1) hS
  · have hl : lv_has ls 2 [(0, .ref (a 0)), (1, .int (iI 123))] := hl
    have hP : va_P D vwCl (wM a k s kp ot (cpN s sd 123) st sp tp bi si nu mo ik dl tl ta fr to va iw) H := hP
    have hD : va_D _ (wM a k s kp ot (cpN s sd 123) st sp tp bi si nu mo ik dl tl ta fr to va iw) := hD
    refine r_iload_n C dX4_laysAside_2 rfl (lv_at hl 1 rfl) ?_
    refine r_bipush C dX4_laysAside_3 (by decide) ?_
    refine r_icmp_ge C (tgt := 26) dX4_laysAside_5 (by decide) ⟨by decide, by decide⟩ ⟨by decide, by decide⟩ (fun h2 => ?_) (fun h2 => ?_)
    · exact r_vretW C hP hS rfl dX4_laysAside_26
    · exfalso; omega
set_option maxHeartbeats 4000000 in
set_option maxRecDepth 100000 in
theorem cM_takesBack {v : Int}  : MW l yX4_takesBack cX4_takesBack 3 (some .int) 0 0 D k [.ref (a 0), .int (iI v)] (wM a k s kp ot sd st sp tp bi si nu mo ik dl tl ta fr to va iw) (wM a k (cpN sd s 123) kp ot sd st sp tp bi si nu mo ik dl tl ta fr to va iw) (some (.int (iI v))) := by
  refine MW.mk RX4 rfl (by decide +kernel) (Nat.le_of_ble_eq_true rfl) (fun p e U m0 below meth cd ls C hP hD hS hl => ?_)
  have hl : lv_has ls 3 [(0, .ref (a 0)), (1, .int (iI v))] := hl
  refine r_iconst C dX4_takesBack_0 ?_
  refine r_istore_n C [(2, .int (iI 0)), (0, .ref (a 0)), (1, .int (iI v))] dX4_takesBack_1 rfl hl (by decide) rfl (fun ls hl => ?_)
  refine r_loopW (fun n : Nat => [(0, .ref (a 0)), (1, .int (iI v)), (2, .int (iI n))]) (fun n : Nat => wM a k (cpN sd s n) kp ot sd st sp tp bi si nu mo ik dl tl ta fr to va iw) (123) (lv_eq (lv_sub hl [1, 2, 0] rfl) rfl) (va_eq hP (by rw [cpN_0])) (va_eqD hD (by rw [cpN_0])) hS (fun n hn ihn ls H locs hl hP hD hS => ?_) (fun ls H locs hl hP hD hS => ?_)
  · have hl : lv_has ls 3 [(0, .ref (a 0)), (1, .int (iI v)), (2, .int (iI n))] := hl
    have hP : va_P D vwCl (wM a k (cpN sd s n) kp ot sd st sp tp bi si nu mo ik dl tl ta fr to va iw) H := hP
    have hD : va_D _ (wM a k (cpN sd s n) kp ot sd st sp tp bi si nu mo ik dl tl ta fr to va iw) := hD
    refine r_iload_n C dX4_takesBack_2 rfl (lv_at hl 2 rfl) ?_
    refine r_bipush C dX4_takesBack_3 (by decide) ?_
    refine r_icmp_ge C (tgt := 26) dX4_takesBack_5 (by decide) (by exact ⟨by omega, by omega⟩) ⟨by decide, by decide⟩ (fun h1 => ?_) (fun h1 => ?_)
    · exfalso; omega
    · refine r_aload_n C dX4_takesBack_8 rfl (lv_at hl 0 rfl) ?_
      refine g_X4_7 C hP 0 rfl rfl dX4_takesBack_9 ?_
      refine r_iload_n C dX4_takesBack_12 rfl (lv_at hl 2 rfl) ?_
      refine r_aload_n C dX4_takesBack_13 rfl (lv_at hl 0 rfl) ?_
      refine g_X4_19 C hP 0 rfl rfl dX4_takesBack_14 ?_
      refine r_iload_n C dX4_takesBack_17 rfl (lv_at hl 2 rfl) ?_
      refine r_iald C hP 4 rfl dX4_takesBack_18 (by omega) (by omega) (by decide) ?_
      refine r_iast C hP hD hS 1 (wM a k (up (cpN sd s n) n (sd (n))) kp ot sd st sp tp bi si nu mo ik dl tl ta fr to va iw) rfl dX4_takesBack_19 (by omega) (by omega) (by decide) rfl (fun H locs hP hD hS => ?_)
      refine r_iinc C 2 [(2, .int (iI (n + 1))), (0, .ref (a 0)), (1, .int (iI v))] dX4_takesBack_20 hl rfl (by decide) rfl (fun ls hl => ?_)
      refine r_goto C (tgt := 2) dX4_takesBack_23 (by decide) ?_
      have ew1 : wM a k (up (cpN sd s n) n (sd (n))) kp ot sd st sp tp bi si nu mo ik dl tl ta fr to va iw = wM a k (cpN sd s (n + 1)) kp ot sd st sp tp bi si nu mo ik dl tl ta fr to va iw := (by rw [cpN_s])
      exact ihn ls H locs (lv_eq (lv_sub hl [1, 2, 0] rfl) rfl) (va_eq hP ew1) (va_eqD hD ew1) hS
  · have hl : lv_has ls 3 [(0, .ref (a 0)), (1, .int (iI v)), (2, .int (iI 123))] := hl
    have hP : va_P D vwCl (wM a k (cpN sd s 123) kp ot sd st sp tp bi si nu mo ik dl tl ta fr to va iw) H := hP
    have hD : va_D _ (wM a k (cpN sd s 123) kp ot sd st sp tp bi si nu mo ik dl tl ta fr to va iw) := hD
    refine r_iload_n C dX4_takesBack_2 rfl (lv_at hl 2 rfl) ?_
    refine r_bipush C dX4_takesBack_3 (by decide) ?_
    refine r_icmp_ge C (tgt := 26) dX4_takesBack_5 (by decide) ⟨by decide, by decide⟩ ⟨by decide, by decide⟩ (fun h2 => ?_) (fun h2 => ?_)
    · refine r_iload_n C dX4_takesBack_26 rfl (lv_at hl 1 rfl) ?_
      exact r_iretW C hP hS rfl rfl dX4_takesBack_27
    · exfalso; omega
theorem cM_putsBack2 {s0 : Int → Int} (h0 : Zr s0) (h1 : Zr s) : MW l yX4_putsBack cX4_putsBack 2 none 0 0 D k [.ref (a 0)] (wM a k s kp (cpN s0 ot 123) sd st sp tp bi si nu mo ik dl tl ta fr to va iw) (wM a k s0 kp (cpN s0 ot 123) sd st sp tp bi si nu mo ik dl tl ta fr to va iw) none := by
  have h := cM_putsBack (l := l) (D := D) (k := k) (a := a) (s := s) (kp := kp) (ot := cpN s0 ot 123) (sd := sd) (st := st) (sp := sp) (tp := tp) (bi := bi) (si := si) (nu := nu) (mo := mo) (ik := ik) (dl := dl) (tl := tl) (ta := ta) (fr := fr) (to := to) (va := va) (iw := iw)
  rw [cpcp h0 h1] at h
  exact h
theorem cM_takesBack2 {v : Int} {s0 : Int → Int} (h0 : Zr s0) (h1 : Zr s) : MW l yX4_takesBack cX4_takesBack 3 (some .int) 0 0 D k [.ref (a 0), .int (iI v)] (wM a k s kp ot (cpN s0 sd 123) st sp tp bi si nu mo ik dl tl ta fr to va iw) (wM a k s0 kp ot (cpN s0 sd 123) st sp tp bi si nu mo ik dl tl ta fr to va iw) (some (.int (iI v))) := by
  have h := cM_takesBack (l := l) (D := D) (k := k) (a := a) (s := s) (kp := kp) (ot := ot) (sd := cpN s0 sd 123) (st := st) (sp := sp) (tp := tp) (bi := bi) (si := si) (nu := nu) (mo := mo) (ik := ik) (dl := dl) (tl := tl) (ta := ta) (fr := fr) (to := to) (va := va) (iw := iw) (v := v)
  rw [cpcp h0 h1] at h
  exact h
end MODEL
