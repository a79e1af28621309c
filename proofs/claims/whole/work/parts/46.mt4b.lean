section CLASS
variable {l : Launch} {D : va_G} {k : Nat → ClassId} {a c : Nat → Nat} {s t kq tp bi si st : Int → Int} {wr tw kw : Int64} {y ty ky ta tk sa en nm ik bt sz : Int} {nu nf : Int → Int64}
def chL (s : Int → Int) (m : Int) (n : Nat) : Int := if chN s m n < 0 then 0 else cost s m (chN s m n)
theorem ch_no {s : Int → Int} {m : Int} {n : Nat} (h : ¬ untrue s n) : chN s m (n + 1) = chN s m n ∧ chL s m (n + 1) = chL s m n := by
  have e : chN s m (n + 1) = chN s m n := by rw [chN, if_neg h]
  unfold chL
  rw [e]; exact ⟨rfl, rfl⟩
theorem ch_1 {s : Int → Int} {m : Int} {n : Nat} (h : untrue s n) (h2 : chN s m n < 0 ∨ cost s m n < chL s m n) : chN s m (n + 1) = n ∧ chL s m (n + 1) = cost s m n := by
  have e : chN s m (n + 1) = n := by
    rw [chN, if_pos h]
    by_cases q : chN s m n < 0
    · rw [if_pos q]
    · rw [if_neg q]
      have h3 := h2.resolve_left q
      unfold chL at h3
      rw [if_neg q] at h3
      rw [if_pos h3]
  unfold chL
  rw [e, if_neg (by omega)]; exact ⟨rfl, rfl⟩
theorem ch_0 {s : Int → Int} {m : Int} {n : Nat} (h : untrue s n) (h1 : ¬ chN s m n < 0) (h2 : ¬ cost s m n < chL s m n) : chN s m (n + 1) = chN s m n ∧ chL s m (n + 1) = chL s m n := by
  have e : chN s m (n + 1) = chN s m n := by
    rw [chN, if_pos h, if_neg h1]
    unfold chL at h2
    rw [if_neg h1] at h2
    rw [if_neg h2]
  unfold chL
  rw [e]; exact ⟨rfl, rfl⟩
theorem chL_rg {s : Int → Int} (hs : Ok s) {m : Int} (hm : 0 ≤ m) (n : Nat) : 0 ≤ chL s m n ∧ chL s m n ≤ 300003 := by
  unfold chL
  by_cases h : chN s m n < 0
  · rw [if_pos h]; decide
  · rw [if_neg h]
    have := cost_rg hs (m := m) (c := chN s m n) (by omega) hm
    omega
set_option maxHeartbeats 400000 in
set_option maxRecDepth 100000 in
theorem cT_cheapest {m : Int} (zm : In32 m) (hs : Ok s) : ME l yX3_cheapest cX3_cheapest 6 (some .int) 2 48 D k [.ref (a 0), .int (iI m)] (wT a k s (lB (wrF s)) y t tw ty kq (lB (wrF kq)) ky tp ta tk sa en nm bi si nu st ik) (fun x : (Int → Int) × Int64 × Int × Int × Int × Int => wT a k ((fCheap s st m).2.1) (lB (wrF ((fCheap s st m).2.1))) y x.1 x.2.1 x.2.2.1 kq (lB (wrF kq)) ky tp ta x.2.2.2.1 x.2.2.2.2.1 x.2.2.2.2.2 nm bi si nu ((fCheap s st m).2.2) ik) (some (.int (iI ((fCheap s st m).1)))) := by
  refine ME.mk RX3 rfl (by decide +kernel) (Nat.le_of_ble_eq_true rfl) (fun p e U m0 below meth cd ls C hP hD hS hl => ?_)
  have hl : lv_has ls 6 [(0, .ref (a 0)), (1, .int (iI m))] := hl
  have zm1 := zm.1
  have zm2 := zm.2
  have h00 := hs.1 0 (by decide)
  have h06 := hs.2.2.1
  refine r_aload_n C dX3_cheapest_0 rfl (lv_at hl 0 rfl) ?_
  refine r_iload_n C dX3_cheapest_1 rfl (lv_at hl 1 rfl) ?_
  refine r_cVR1 C m_X3_101 (cT_noMender (by exact ⟨by omega, by omega⟩) hs) hP rfl rfl hl.1 dX3_cheapest_2 ?_
  refine r_ifB_eq C (tgt := 15) dX3_cheapest_5 (by decide) (fun h1 => ?_) (fun h1 => ?_)
  · have h1 := Classical.not_not.mp h1
    refine r_iconst C dX3_cheapest_15 ?_
    refine r_istore_n C [(2, .int (iI (-1))), (0, .ref (a 0)), (1, .int (iI m))] dX3_cheapest_16 rfl hl (by decide) rfl (fun ls hl => ?_)
    refine r_iconst C dX3_cheapest_17 ?_
    refine r_istore_n C [(3, .int (iI 0)), (2, .int (iI (-1))), (0, .ref (a 0)), (1, .int (iI m))] dX3_cheapest_18 rfl hl (by decide) rfl (fun ls hl => ?_)
    refine r_iconst C dX3_cheapest_19 ?_
    refine r_istore C [(4, .int (iI 0)), (3, .int (iI 0)), (2, .int (iI (-1))), (0, .ref (a 0)), (1, .int (iI m))] dX3_cheapest_20 hl (by decide) rfl (fun ls hl => ?_)
    refine r_loopR (fun n : Nat => [(0, .ref (a 0)), (1, .int (iI m)), (2, .int (iI (chN s m n))), (3, .int (iI (chL s m n))), (4, .int (iI n))]) (48) (lv_eq (lv_sub hl [3, 4, 2, 1, 0] rfl) rfl) (fun n hn ihn ls hl => ?_) (fun ls hl => ?_)
    · have hl : lv_has ls 6 [(0, .ref (a 0)), (1, .int (iI m)), (2, .int (iI (chN s m n))), (3, .int (iI (chL s m n))), (4, .int (iI n))] := hl
      have h9 := chN_rg s m n
      have h8 := chL_rg hs (m := m) (by omega) n
      refine r_iload C dX3_cheapest_22 (lv_at hl 4 rfl) ?_
      refine r_bipush C dX3_cheapest_24 (by decide) ?_
      refine r_icmp_ge C (tgt := 75) dX3_cheapest_26 (by decide) (by exact ⟨by omega, by omega⟩) ⟨by decide, by decide⟩ (fun h2 => ?_) (fun h2 => ?_)
      · exfalso; omega
      · refine r_aload_n C dX3_cheapest_29 rfl (lv_at hl 0 rfl) ?_
        refine g_X3_10 C hP 0 rfl rfl dX3_cheapest_30 ?_
        refine r_iload C dX3_cheapest_33 (lv_at hl 4 rfl) ?_
        refine r_cVR1 C m_X3_63 (cW_isWrong (b := (fun i => a (1 + i))) (s := s) (y := y) (by omega) (by omega)) (hp_T_s hP) rfl rfl hl.1 dX3_cheapest_35 ?_
        refine r_ifB_eq C (tgt := 69) dX3_cheapest_38 (by decide) (fun h3 => ?_) (fun h3 => ?_)
        · refine r_iinc C 4 [(4, .int (iI (n + 1))), (0, .ref (a 0)), (1, .int (iI m)), (2, .int (iI (chN s m n))), (3, .int (iI (chL s m n)))] dX3_cheapest_69 hl rfl (by decide) rfl (fun ls hl => ?_)
          refine r_goto C (tgt := 22) dX3_cheapest_72 (by decide) ?_
          exact ihn ls (lv_eq (lv_sub hl [1, 2, 3, 4, 0] rfl) (by rw [(ch_no h3).1, (ch_no h3).2]; rfl))
        · refine r_aload_n C dX3_cheapest_41 rfl (lv_at hl 0 rfl) ?_
          refine g_X3_10 C hP 0 rfl rfl dX3_cheapest_42 ?_
          refine r_iload_n C dX3_cheapest_45 rfl (lv_at hl 1 rfl) ?_
          refine r_iload C dX3_cheapest_46 (lv_at hl 4 rfl) ?_
          refine r_cVR2 C m_X3_128 (cW_costOf (b := (fun i => a (1 + i))) (s := s) (y := y) (by omega) (by omega) (by omega) (by omega) hs) (hp_T_s hP) rfl rfl hl.1 dX3_cheapest_48 ?_
          refine r_istore C [(5, .int (iI (cost s m n))), (0, .ref (a 0)), (1, .int (iI m)), (2, .int (iI (chN s m n))), (3, .int (iI (chL s m n))), (4, .int (iI n))] dX3_cheapest_51 hl (by decide) rfl (fun ls hl => ?_)
          refine r_iload_n C dX3_cheapest_53 rfl (lv_at hl 3 rfl) ?_
          refine r_if_lt C (tgt := 63) dX3_cheapest_54 (by decide) (by exact ⟨by omega, by omega⟩) (fun h4 => ?_) (fun h4 => ?_)
          · refine r_iload C dX3_cheapest_63 (lv_at hl 0 rfl) ?_
            refine r_istore_n C [(3, .int (iI (cost s m n))), (5, .int (iI (cost s m n))), (0, .ref (a 0)), (1, .int (iI m)), (2, .int (iI (chN s m n))), (4, .int (iI n))] dX3_cheapest_65 rfl hl (by decide) rfl (fun ls hl => ?_)
            refine r_iload C dX3_cheapest_66 (lv_at hl 5 rfl) ?_
            refine r_istore_n C [(2, .int (iI n)), (3, .int (iI (cost s m n))), (5, .int (iI (cost s m n))), (0, .ref (a 0)), (1, .int (iI m)), (4, .int (iI n))] dX3_cheapest_68 rfl hl (by decide) rfl (fun ls hl => ?_)
            refine r_iinc C 5 [(4, .int (iI (n + 1))), (2, .int (iI n)), (3, .int (iI (cost s m n))), (5, .int (iI (cost s m n))), (0, .ref (a 0)), (1, .int (iI m))] dX3_cheapest_69 hl rfl (by decide) rfl (fun ls hl => ?_)
            refine r_goto C (tgt := 22) dX3_cheapest_72 (by decide) ?_
            exact ihn ls (lv_eq (lv_sub hl [4, 5, 1, 2, 0] rfl) (by rw [(ch_1 h3 (Or.inl h4)).1, (ch_1 h3 (Or.inl h4)).2]; rfl))
          · refine r_iload C dX3_cheapest_57 (lv_at hl 0 rfl) ?_
            refine r_iload_n C dX3_cheapest_59 rfl (lv_at hl 4 rfl) ?_
            refine r_icmp_ge C (tgt := 69) dX3_cheapest_60 (by decide) (by have := cost_rg hs (m := m) (c := n) (by omega) (by omega); exact ⟨by omega, by omega⟩) (by exact ⟨by omega, by omega⟩) (fun h5 => ?_) (fun h5 => ?_)
            · refine r_iinc C 5 [(4, .int (iI (n + 1))), (5, .int (iI (cost s m n))), (0, .ref (a 0)), (1, .int (iI m)), (2, .int (iI (chN s m n))), (3, .int (iI (chL s m n)))] dX3_cheapest_69 hl rfl (by decide) rfl (fun ls hl => ?_)
              refine r_goto C (tgt := 22) dX3_cheapest_72 (by decide) ?_
              exact ihn ls (lv_eq (lv_sub hl [2, 3, 4, 5, 0] rfl) (by rw [(ch_0 h3 h4 h5).1, (ch_0 h3 h4 h5).2]; rfl))
            · refine r_iload C dX3_cheapest_63 (lv_at hl 0 rfl) ?_
              refine r_istore_n C [(3, .int (iI (cost s m n))), (5, .int (iI (cost s m n))), (0, .ref (a 0)), (1, .int (iI m)), (2, .int (iI (chN s m n))), (4, .int (iI n))] dX3_cheapest_65 rfl hl (by decide) rfl (fun ls hl => ?_)
              refine r_iload C dX3_cheapest_66 (lv_at hl 5 rfl) ?_
              refine r_istore_n C [(2, .int (iI n)), (3, .int (iI (cost s m n))), (5, .int (iI (cost s m n))), (0, .ref (a 0)), (1, .int (iI m)), (4, .int (iI n))] dX3_cheapest_68 rfl hl (by decide) rfl (fun ls hl => ?_)
              refine r_iinc C 5 [(4, .int (iI (n + 1))), (2, .int (iI n)), (3, .int (iI (cost s m n))), (5, .int (iI (cost s m n))), (0, .ref (a 0)), (1, .int (iI m))] dX3_cheapest_69 hl rfl (by decide) rfl (fun ls hl => ?_)
              refine r_goto C (tgt := 22) dX3_cheapest_72 (by decide) ?_
              exact ihn ls (lv_eq (lv_sub hl [4, 5, 1, 2, 0] rfl) (by rw [(ch_1 h3 (Or.inr h5)).1, (ch_1 h3 (Or.inr h5)).2]; rfl))
    · have hl : lv_has ls 6 [(0, .ref (a 0)), (1, .int (iI m)), (2, .int (iI (chN s m 48))), (3, .int (iI (chL s m 48))), (4, .int (iI 48))] := hl
      have h9 := chN_rg s m 48
      have h8 := chL_rg hs (m := m) (by omega) 48
      refine r_iload C dX3_cheapest_22 (lv_at hl 4 rfl) ?_
      refine r_bipush C dX3_cheapest_24 (by decide) ?_
      refine r_icmp_ge C (tgt := 75) dX3_cheapest_26 (by decide) ⟨by decide, by decide⟩ ⟨by decide, by decide⟩ (fun h6 => ?_) (fun h6 => ?_)
      · refine r_iload_n C dX3_cheapest_75 rfl (lv_at hl 2 rfl) ?_
        refine r_if_ge C (tgt := 88) dX3_cheapest_76 (by decide) (by exact ⟨by omega, by omega⟩) (fun h7 => ?_) (fun h7 => ?_)
        · refine r_iload_n C dX3_cheapest_88 rfl (lv_at hl 2 rfl) ?_
          exact r_iretE C hP hS (t, tw, ty, tk, sa, en) (by first | (simp only [fCheap, fD, fV, h1, h6, h7, not_true_eq_false, not_false_eq_true, and_true, true_and, and_false, false_and, or_true, true_or, or_false, false_or, if_true, if_false, ne_eq, reduceIte]; done) | (exfalso; omega) | ((unfold fCheap fD; (repeat' split)) <;> first | rfl | (exfalso; omega))) (by first | (simp only [fCheap, fD, fV, h1, h6, h7, not_true_eq_false, not_false_eq_true, and_true, true_and, and_false, false_and, or_true, true_or, or_false, false_or, if_true, if_false, ne_eq, reduceIte]; done) | (exfalso; omega)) dX3_cheapest_89
        · refine r_aload_n C dX3_cheapest_79 rfl (lv_at hl 0 rfl) ?_
          refine r_ldc C (-1000000004) ki_X3_159 (by decide) dX3_cheapest_80 ?_
          refine r_cVWA1 C m_X3_49 (cT_finding (by omega) (by omega)) hP hD hS (wT_ad.trans wT_ad.symm) rfl rfl hl.1 dX3_cheapest_82 (fun H locs hP hD hS => ?_)
          refine r_goto C (tgt := 89) dX3_cheapest_85 (by decide) ?_
          exact r_iretE C hP hS (t, tw, ty, tk, sa, en) (by first | (simp only [fCheap, fD, fV, h1, h6, h7, not_true_eq_false, not_false_eq_true, and_true, true_and, and_false, false_and, or_true, true_or, or_false, false_or, if_true, if_false, ne_eq, reduceIte]; done) | (exfalso; omega) | ((unfold fCheap fD; (repeat' split)) <;> first | rfl | (exfalso; omega))) (by first | (simp only [fCheap, fD, fV, h1, h6, h7, not_true_eq_false, not_false_eq_true, and_true, true_and, and_false, false_and, or_true, true_or, or_false, false_or, if_true, if_false, ne_eq, reduceIte]; done) | (exfalso; omega)) dX3_cheapest_89
      · exfalso; omega
  · refine r_aload_n C dX3_cheapest_8 rfl (lv_at hl 0 rfl) ?_
    refine r_ldc C (-1000000001) ki_X3_48 (by decide) dX3_cheapest_9 ?_
    refine r_cVWA1 C m_X3_49 (cT_finding (by omega) (by omega)) hP hD hS (wT_ad.trans wT_ad.symm) rfl rfl hl.1 dX3_cheapest_11 (fun H locs hP hD hS => ?_)
    exact r_iretE C hP hS (t, tw, ty, tk, sa, en) (by first | (simp only [fCheap, fD, fV, h1, not_true_eq_false, not_false_eq_true, and_true, true_and, and_false, false_and, or_true, true_or, or_false, false_or, if_true, if_false, ne_eq, reduceIte]; done) | (exfalso; omega) | ((unfold fCheap fD; (repeat' split)) <;> first | rfl | (exfalso; omega))) (by first | (simp only [fCheap, fD, fV, h1, not_true_eq_false, not_false_eq_true, and_true, true_and, and_false, false_and, or_true, true_or, or_false, false_or, if_true, if_false, ne_eq, reduceIte]; done) | (exfalso; omega)) dX3_cheapest_14
set_option maxHeartbeats 400000 in
set_option maxRecDepth 100000 in
theorem cT_best {m : Int} (zm : In32 m) (hs : Ok s) : ME l yX3_best cX3_best 3 (some .int) 3 77 D k [.ref (a 0), .int (iI m)] (wT a k s (lB (wrF s)) y t tw ty kq (lB (wrF kq)) ky tp ta tk sa en nm bi si nu st ik) (fun x : (Int → Int) × Int64 × Int × Int × Int × Int => wT a k ((fBest s st m).2.1) (lB (wrF ((fBest s st m).2.1))) y x.1 x.2.1 x.2.2.1 kq (lB (wrF kq)) ky tp ta x.2.2.2.1 x.2.2.2.2.1 x.2.2.2.2.2 nm bi si nu ((fBest s st m).2.2) ik) (some (.int (iI ((fBest s st m).1)))) := by
  refine ME.mk RX3 rfl (by decide +kernel) (Nat.le_of_ble_eq_true rfl) (fun p e U m0 below meth cd ls C hP hD hS hl => ?_)
  have hl : lv_has ls 3 [(0, .ref (a 0)), (1, .int (iI m))] := hl
  have zm1 := zm.1
  have zm2 := zm.2
  have h00 := hs.1 0 (by decide)
  have h06 := hs.2.2.1
  refine r_aload_n C dX3_best_0 rfl (lv_at hl 0 rfl) ?_
  refine r_iload_n C dX3_best_1 rfl (lv_at hl 1 rfl) ?_
  refine r_cVR1 C m_X3_101 (cT_noMender (by exact ⟨by omega, by omega⟩) hs) hP rfl rfl hl.1 dX3_best_2 ?_
  refine r_ifB_eq C (tgt := 15) dX3_best_5 (by decide) (fun h1 => ?_) (fun h1 => ?_)
  · have h1 := Classical.not_not.mp h1
    refine r_aload_n C dX3_best_15 rfl (lv_at hl 0 rfl) ?_
    refine g_X3_10 C hP 0 rfl rfl dX3_best_16 ?_
    refine r_iload_n C dX3_best_19 rfl (lv_at hl 1 rfl) ?_
    refine r_cVR1 C m_X3_160 (cW_bestFor (b := (fun i => a (1 + i))) (s := s) (y := y) (by omega) (by omega) hs) (hp_T_s hP) rfl rfl hl.1 dX3_best_20 ?_
    refine r_istore_n C [(2, .int (iI ((bsN s m 48).1))), (0, .ref (a 0)), (1, .int (iI m))] dX3_best_23 rfl hl (by decide) rfl (fun ls hl => ?_)
    refine r_iload_n C dX3_best_24 rfl (lv_at hl 0 rfl) ?_
    refine r_if_ge C (tgt := 37) dX3_best_25 (by decide) (by have := (bsN_rg s m 48 (Nat.le_refl 48)).1; exact ⟨by omega, by omega⟩) (fun h2 => ?_) (fun h2 => ?_)
    · refine r_iload_n C dX3_best_37 rfl (lv_at hl 0 rfl) ?_
      exact r_iretE C hP hS (t, tw, ty, tk, sa, en) (by first | (simp only [fBest, fD, fV, h1, h2, not_true_eq_false, not_false_eq_true, and_true, true_and, and_false, false_and, or_true, true_or, or_false, false_or, if_true, if_false, ne_eq, reduceIte]; done) | (exfalso; omega) | ((unfold fBest fD; (repeat' split)) <;> first | rfl | (exfalso; omega))) (by first | (simp only [fBest, fD, fV, h1, h2, not_true_eq_false, not_false_eq_true, and_true, true_and, and_false, false_and, or_true, true_or, or_false, false_or, if_true, if_false, ne_eq, reduceIte]; done) | (exfalso; omega) | ((unfold fBest fD; (repeat' split)) <;> first | rfl | (exfalso; omega))) dX3_best_38
    · refine r_aload_n C dX3_best_28 rfl (lv_at hl 1 rfl) ?_
      refine r_ldc C (-1000000004) ki_X3_159 (by decide) dX3_best_29 ?_
      refine r_cVWA1 C m_X3_49 (cT_finding (by omega) (by omega)) hP hD hS (wT_ad.trans wT_ad.symm) rfl rfl hl.1 dX3_best_31 (fun H locs hP hD hS => ?_)
      refine r_goto C (tgt := 38) dX3_best_34 (by decide) ?_
      exact r_iretE C hP hS (t, tw, ty, tk, sa, en) (by first | (simp only [fBest, fD, fV, h1, h2, not_true_eq_false, not_false_eq_true, and_true, true_and, and_false, false_and, or_true, true_or, or_false, false_or, if_true, if_false, ne_eq, reduceIte]; done) | (exfalso; omega) | ((unfold fBest fD; (repeat' split)) <;> first | rfl | (exfalso; omega))) (by first | (simp only [fBest, fD, fV, h1, h2, not_true_eq_false, not_false_eq_true, and_true, true_and, and_false, false_and, or_true, true_or, or_false, false_or, if_true, if_false, ne_eq, reduceIte]; done) | (exfalso; omega) | ((unfold fBest fD; (repeat' split)) <;> first | rfl | (exfalso; omega))) dX3_best_38
  · refine r_aload_n C dX3_best_8 rfl (lv_at hl 0 rfl) ?_
    refine r_ldc C (-1000000001) ki_X3_48 (by decide) dX3_best_9 ?_
    refine r_cVWA1 C m_X3_49 (cT_finding (by omega) (by omega)) hP hD hS (wT_ad.trans wT_ad.symm) rfl rfl hl.1 dX3_best_11 (fun H locs hP hD hS => ?_)
    exact r_iretE C hP hS (t, tw, ty, tk, sa, en) (by first | (simp only [fBest, fD, fV, h1, not_true_eq_false, not_false_eq_true, and_true, true_and, and_false, false_and, or_true, true_or, or_false, false_or, if_true, if_false, ne_eq, reduceIte]; done) | (exfalso; omega) | ((unfold fBest fD; (repeat' split)) <;> first | rfl | (exfalso; omega))) (by first | (simp only [fBest, fD, fV, h1, not_true_eq_false, not_false_eq_true, and_true, true_and, and_false, false_and, or_true, true_or, or_false, false_or, if_true, if_false, ne_eq, reduceIte]; done) | (exfalso; omega) | ((unfold fBest fD; (repeat' split)) <;> first | rfl | (exfalso; omega))) dX3_best_14
end CLASS
