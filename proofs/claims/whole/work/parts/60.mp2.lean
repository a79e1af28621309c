section CLASS
variable {l : Launch} {D : va_G} {k : Nat → ClassId} {a b c : Nat → Nat} {A : Nat → Prop} {ad av : Nat} {tx : List Int} {Z : SZ} {s t kq tp bi si st : Int → Int} {wr tw kw : Int64} {y ty ky ta tk sa en nm ik bt sz : Int} {nu nf : Int → Int64}
theorem se_rec {A : Nat → Prop} {ad av : Nat} {l : List Int} {s : State} {H : Heap} (h : SE A ad av l s H) : ∃ cell : Cell, H[ad]? = some cell ∧ cell.vm.isStatics = false ∧ s.vm.findClass "java/lang/String" = some cell.cls := by
  obtain ⟨cell, a, b, c, -⟩ := h.1
  exact ⟨cell, a, b, c⟩
theorem sLs_ok : ∀ i : Nat, i < 18 → (sLs i).length < 128 ∧ ∀ j : Nat, j < (sLs i).length → 0 ≤ (sLs i).getD j 0 ∧ (sLs i).getD j 0 < 256 := by decide +kernel
theorem sLs_k : ∀ n : Nat, n < 6 → sLs (0 + n) = kdL n := by decide +kernel
theorem sLs_s : ∀ n : Nat, n < 6 → sLs (6 + n) = srL n := by decide +kernel
set_option maxHeartbeats 400000 in
set_option maxRecDepth 100000 in
theorem cP_isWord  (hsa : 0 ≤ sa) (hse : sa ≤ en) (hen : en ≤ ta) (hta : ta ≤ 120) (htp : ∀ i, 0 ≤ tp i ∧ tp i ≤ 255) (ht : tx.length < 128) (hc : ∀ i : Nat, i < tx.length → 0 ≤ tx.getD i 0 ∧ tx.getD i 0 < 256) : MRX (SEu A ad av tx) l yX1_isWord cX1_isWord 3 (some .boolean) 4 85 D k [.ref (c 0), .ref ad] (wP c k tp ta (tkC tp ta sa) sa en nm) (some (.int (iB (wdC tp ta (sa, en, nm) tx)))) := by
  refine MRX.mk RX1 rfl (by decide +kernel) (Nat.le_of_ble_eq_true rfl) (fun p e U m0 below meth cd ls C hP hE hl => ?_)
  have hl : lv_has ls 3 [(0, .ref (c 0)), (1, .ref ad)] := hl
  have htk := tkC_rg tp ta sa
  refine r_aload_n C dX1_isWord_0 rfl (lv_at hl 0 rfl) ?_
  refine g_X1_29 C hP 0 rfl rfl dX1_isWord_1 ?_
  refine r_iconst C dX1_isWord_4 ?_
  refine r_icmp_ne C (tgt := 24) dX1_isWord_5 (by decide) (by exact ⟨by omega, by omega⟩) ⟨by decide, by decide⟩ (fun h1 => ?_) (fun h1 => ?_)
  · refine r_iconst C dX1_isWord_24 ?_
    exact r_bretX C (iB0 (fun z => h1 z.1)) dX1_isWord_25
  · refine r_aload_n C dX1_isWord_8 rfl (lv_at hl 0 rfl) ?_
    refine g_X1_15 C hP 0 rfl rfl dX1_isWord_9 ?_
    refine r_aload_n C dX1_isWord_12 rfl (lv_at hl 0 rfl) ?_
    refine g_X1_26 C hP 0 rfl rfl dX1_isWord_13 ?_
    refine r_isub C dX1_isWord_16 ?_
    refine r_aload_n C dX1_isWord_17 rfl (lv_at hl 1 rfl) ?_
    refine r_cVX (As := []) C m_X1_117 (cJ_length ht) (SE_wm hE) (SE_st _ _ _ _) rfl pn0 (se_rec hE) hl.1 dX1_isWord_18 ?_
    refine r_icmp_eq C (tgt := 26) dX1_isWord_21 (by decide) (by exact ⟨by omega, by omega⟩) (by exact ⟨by omega, by omega⟩) (fun h2 => ?_) (fun h2 => ?_)
    · refine r_iconst C dX1_isWord_26 ?_
      refine r_istore_n C [(2, .int (iI 0)), (0, .ref (c 0)), (1, .ref ad)] dX1_isWord_27 rfl hl (by decide) rfl (fun ls hl => ?_)
      refine r_loopRJ (fun n : Nat => [(0, .ref (c 0)), (1, .ref ad), (2, .int (iI n))]) (tx.length) (fun n : Nat => ∀ j : Nat, j < n → tp (sa + j) = tx.getD j 0) (fun j h => absurd h (Nat.not_lt_zero j)) (lv_eq (lv_sub hl [1, 2, 0] rfl) rfl) (fun n hn ihn hJn ls hl => ?_) (fun hJn ls hl => ?_)
      · have hl : lv_has ls 3 [(0, .ref (c 0)), (1, .ref ad), (2, .int (iI n))] := hl
        have hJn : ∀ j : Nat, j < n → tp (sa + j) = tx.getD j 0 := hJn
        refine r_iload_n C dX1_isWord_28 rfl (lv_at hl 2 rfl) ?_
        refine r_aload_n C dX1_isWord_29 rfl (lv_at hl 1 rfl) ?_
        refine r_cVX (As := []) C m_X1_117 (cJ_length ht) (SE_wm hE) (SE_st _ _ _ _) rfl pn0 (se_rec hE) hl.1 dX1_isWord_30 ?_
        refine r_icmp_ge C (tgt := 63) dX1_isWord_33 (by decide) (by exact ⟨by omega, by omega⟩) (by exact ⟨by omega, by omega⟩) (fun h3 => ?_) (fun h3 => ?_)
        · exfalso; omega
        · refine r_aload_n C dX1_isWord_36 rfl (lv_at hl 0 rfl) ?_
          refine g_X1_9 C hP 0 rfl rfl dX1_isWord_37 ?_
          refine r_aload_n C dX1_isWord_40 rfl (lv_at hl 0 rfl) ?_
          refine g_X1_26 C hP 0 rfl rfl dX1_isWord_41 ?_
          refine r_iload_n C dX1_isWord_44 rfl (lv_at hl 2 rfl) ?_
          refine r_iadd C dX1_isWord_45 ?_
          refine r_iald C hP 1 rfl dX1_isWord_46 (by omega) (by omega) (by decide) ?_
          refine r_aload_n C dX1_isWord_47 rfl (lv_at hl 1 rfl) ?_
          refine r_iload_n C dX1_isWord_48 rfl (lv_at hl 2 rfl) ?_
          refine r_cVX (As := [.int (iI (n : Int))]) C m_X1_122 (cJ_charAt (z := n) ht (by omega) hc) (SE_wm hE) (SE_st _ _ _ _) rfl pn0 (se_rec hE) hl.1 dX1_isWord_49 ?_
          refine r_icmp_eq C (tgt := 57) dX1_isWord_52 (by decide) (by have := htp (sa + n); exact ⟨by omega, by omega⟩) (by have := hc n (by omega); exact ⟨by omega, by omega⟩) (fun h4 => ?_) (fun h4 => ?_)
          · refine r_iinc C 2 [(2, .int (iI (n + 1))), (0, .ref (c 0)), (1, .ref ad)] dX1_isWord_57 hl rfl (by decide) rfl (fun ls hl => ?_)
            refine r_goto C (tgt := 28) dX1_isWord_60 (by decide) ?_
            exact ihn (fun j hj => by rcases Nat.lt_or_ge j n with q | q; exact hJn j q; have e : j = n := (by omega); subst e; exact h4) ls (lv_eq (lv_sub hl [1, 2, 0] rfl) rfl)
          · refine r_iconst C dX1_isWord_55 ?_
            exact r_bretX C (iB0 (fun z => h4 (z.2.2 n hn))) dX1_isWord_56
      · have hl : lv_has ls 3 [(0, .ref (c 0)), (1, .ref ad), (2, .int (iI tx.length))] := hl
        have hJn : ∀ j : Nat, j < tx.length → tp (sa + j) = tx.getD j 0 := hJn
        refine r_iload_n C dX1_isWord_28 rfl (lv_at hl 2 rfl) ?_
        refine r_aload_n C dX1_isWord_29 rfl (lv_at hl 1 rfl) ?_
        refine r_cVX (As := []) C m_X1_117 (cJ_length ht) (SE_wm hE) (SE_st _ _ _ _) rfl pn0 (se_rec hE) hl.1 dX1_isWord_30 ?_
        refine r_icmp_ge C (tgt := 63) dX1_isWord_33 (by decide) (by exact ⟨by omega, by omega⟩) (by exact ⟨by omega, by omega⟩) (fun h5 => ?_) (fun h5 => ?_)
        · refine r_iconst C dX1_isWord_63 ?_
          exact r_bretX C (iB1 ⟨h1, h2, hJn⟩) dX1_isWord_64
        · exfalso; omega
    · refine r_iconst C dX1_isWord_24 ?_
      exact r_bretX C (iB0 (fun z => h2 z.2.1)) dX1_isWord_25
set_option maxHeartbeats 400000 in
set_option maxRecDepth 100000 in
theorem cP_kindNamed  (hsa : 0 ≤ sa) (hse : sa ≤ en) (hen : en ≤ ta) (hta : ta ≤ 120) (htp : ∀ i, 0 ≤ tp i ∧ tp i ≤ 255) : MRX (SVu Z) l yX1_kindNamed cX1_kindNamed 2 (some .int) 5 107 D k [.ref (c 0)] (wP c k tp ta (tkC tp ta sa) sa en nm) (some (.int (iI (kdC tp ta (sa, en, nm))))) := by
  refine MRX.mk RX1 rfl (by decide +kernel) (Nat.le_of_ble_eq_true rfl) (fun p e U m0 below meth cd ls C hP hE hl => ?_)
  have hl : lv_has ls 2 [(0, .ref (c 0))] := hl
  refine r_iconst C dX1_kindNamed_0 ?_
  refine r_istore_n C [(1, .int (iI 0)), (0, .ref (c 0))] dX1_kindNamed_1 rfl hl (by decide) rfl (fun ls hl => ?_)
  refine r_loopRJ (fun n : Nat => [(0, .ref (c 0)), (1, .int (iI n))]) (6) (fun n : Nat => ∀ j : Nat, j < n → ¬ (fun k => wdC tp ta (sa, en, nm) (kdL k)) j) (fun j h => absurd h (Nat.not_lt_zero j)) (lv_eq (lv_sub hl [1, 0] rfl) rfl) (fun n hn ihn hJn ls hl => ?_) (fun hJn ls hl => ?_)
  · have hl : lv_has ls 2 [(0, .ref (c 0)), (1, .int (iI n))] := hl
    have hJn : ∀ j : Nat, j < n → ¬ (fun k => wdC tp ta (sa, en, nm) (kdL k)) j := hJn
    refine r_iload_n C dX1_kindNamed_2 rfl (lv_at hl 1 rfl) ?_
    refine r_bipush C dX1_kindNamed_3 (by decide) ?_
    refine r_icmp_ge C (tgt := 27) dX1_kindNamed_5 (by decide) (by exact ⟨by omega, by omega⟩) ⟨by decide, by decide⟩ (fun h1 => ?_) (fun h1 => ?_)
    · exfalso; omega
    · refine r_aload_n C dX1_kindNamed_8 rfl (lv_at hl 0 rfl) ?_
      refine r_iload_n C dX1_kindNamed_9 rfl (lv_at hl 1 rfl) ?_
      refine r_cSX (As := [.int (iI (n : Int))]) C m_X1_86 (cP_nameOfKind hn) (SV_wm hE) (SV_st _) rfl pn0 hl.1 dX1_kindNamed_10 ?_
      refine r_cVX (As := [.ref (Z.2.1 (0 + n))]) C m_X1_42 (cP_isWord (c := c) (A := fun q => Z.1 ≤ q) (ad := Z.2.1 (0 + n)) (av := Z.2.2 (0 + n)) (tx := sLs (0 + n)) (tp := tp) (ta := ta) (sa := sa) (en := en) (nm := nm) (by omega) (by omega) (by omega) (by omega) htp (sLs_ok (0 + n) (by omega)).1 (sLs_ok (0 + n) (by omega)).2) (SE_wm (hE (0 + n) (by omega)).2) (SE_st _ _ _ _) rfl hP (va_recv C.2.1.1 hP (q0 := 0) (ci := 1) rfl rfl) hl.1 dX1_kindNamed_13 ?_
      refine r_topB (wdC tp ta (sa, en, nm) (kdL n)) (by rw [sLs_k n hn]) ?_
      refine r_ifB_eq C (tgt := 21) dX1_kindNamed_16 (by decide) (fun h2 => ?_) (fun h2 => ?_)
      · refine r_iinc C 1 [(1, .int (iI (n + 1))), (0, .ref (c 0))] dX1_kindNamed_21 hl rfl (by decide) rfl (fun ls hl => ?_)
        refine r_goto C (tgt := 2) dX1_kindNamed_24 (by decide) ?_
        exact ihn (lt_s hJn h2) ls (lv_eq (lv_sub hl [1, 0] rfl) rfl)
      · refine r_iload_n C dX1_kindNamed_19 rfl (lv_at hl 1 rfl) ?_
        exact r_iretXe C (congrArg iI (by rw [kdC, fstK, fst0_yes (p := fun k => wdC tp ta (sa, en, nm) (kdL k)) h2 hJn hn, if_pos hn])) dX1_kindNamed_20
  · have hl : lv_has ls 2 [(0, .ref (c 0)), (1, .int (iI 6))] := hl
    have hJn : ∀ j : Nat, j < 6 → ¬ (fun k => wdC tp ta (sa, en, nm) (kdL k)) j := hJn
    refine r_iload_n C dX1_kindNamed_2 rfl (lv_at hl 1 rfl) ?_
    refine r_bipush C dX1_kindNamed_3 (by decide) ?_
    refine r_icmp_ge C (tgt := 27) dX1_kindNamed_5 (by decide) ⟨by decide, by decide⟩ ⟨by decide, by decide⟩ (fun h3 => ?_) (fun h3 => ?_)
    · refine r_iconst C dX1_kindNamed_27 ?_
      exact r_iretXe C (congrArg iI (by rw [kdC, fstK, fst0_no (p := fun k => wdC tp ta (sa, en, nm) (kdL k)) (n := 6) hJn, if_neg (by decide)])) dX1_kindNamed_28
    · exfalso; omega
set_option maxHeartbeats 400000 in
set_option maxRecDepth 100000 in
theorem cP_sortNamed  (hsa : 0 ≤ sa) (hse : sa ≤ en) (hen : en ≤ ta) (hta : ta ≤ 120) (htp : ∀ i, 0 ≤ tp i ∧ tp i ≤ 255) : MRX (SVu Z) l yX1_sortNamed cX1_sortNamed 2 (some .int) 5 107 D k [.ref (c 0)] (wP c k tp ta (tkC tp ta sa) sa en nm) (some (.int (iI (srC tp ta (sa, en, nm))))) := by
  refine MRX.mk RX1 rfl (by decide +kernel) (Nat.le_of_ble_eq_true rfl) (fun p e U m0 below meth cd ls C hP hE hl => ?_)
  have hl : lv_has ls 2 [(0, .ref (c 0))] := hl
  refine r_iconst C dX1_sortNamed_0 ?_
  refine r_istore_n C [(1, .int (iI 0)), (0, .ref (c 0))] dX1_sortNamed_1 rfl hl (by decide) rfl (fun ls hl => ?_)
  refine r_loopRJ (fun n : Nat => [(0, .ref (c 0)), (1, .int (iI n))]) (6) (fun n : Nat => ∀ j : Nat, j < n → ¬ (fun k => wdC tp ta (sa, en, nm) (srL k)) j) (fun j h => absurd h (Nat.not_lt_zero j)) (lv_eq (lv_sub hl [1, 0] rfl) rfl) (fun n hn ihn hJn ls hl => ?_) (fun hJn ls hl => ?_)
  · have hl : lv_has ls 2 [(0, .ref (c 0)), (1, .int (iI n))] := hl
    have hJn : ∀ j : Nat, j < n → ¬ (fun k => wdC tp ta (sa, en, nm) (srL k)) j := hJn
    refine r_iload_n C dX1_sortNamed_2 rfl (lv_at hl 1 rfl) ?_
    refine r_bipush C dX1_sortNamed_3 (by decide) ?_
    refine r_icmp_ge C (tgt := 27) dX1_sortNamed_5 (by decide) (by exact ⟨by omega, by omega⟩) ⟨by decide, by decide⟩ (fun h1 => ?_) (fun h1 => ?_)
    · exfalso; omega
    · refine r_aload_n C dX1_sortNamed_8 rfl (lv_at hl 0 rfl) ?_
      refine r_iload_n C dX1_sortNamed_9 rfl (lv_at hl 1 rfl) ?_
      refine r_cSX (As := [.int (iI (n : Int))]) C m_X1_90 (cP_nameOfSort hn) (SV_wm hE) (SV_st _) rfl pn0 hl.1 dX1_sortNamed_10 ?_
      refine r_cVX (As := [.ref (Z.2.1 (6 + n))]) C m_X1_42 (cP_isWord (c := c) (A := fun q => Z.1 ≤ q) (ad := Z.2.1 (6 + n)) (av := Z.2.2 (6 + n)) (tx := sLs (6 + n)) (tp := tp) (ta := ta) (sa := sa) (en := en) (nm := nm) (by omega) (by omega) (by omega) (by omega) htp (sLs_ok (6 + n) (by omega)).1 (sLs_ok (6 + n) (by omega)).2) (SE_wm (hE (6 + n) (by omega)).2) (SE_st _ _ _ _) rfl hP (va_recv C.2.1.1 hP (q0 := 0) (ci := 1) rfl rfl) hl.1 dX1_sortNamed_13 ?_
      refine r_topB (wdC tp ta (sa, en, nm) (srL n)) (by rw [sLs_s n hn]) ?_
      refine r_ifB_eq C (tgt := 21) dX1_sortNamed_16 (by decide) (fun h2 => ?_) (fun h2 => ?_)
      · refine r_iinc C 1 [(1, .int (iI (n + 1))), (0, .ref (c 0))] dX1_sortNamed_21 hl rfl (by decide) rfl (fun ls hl => ?_)
        refine r_goto C (tgt := 2) dX1_sortNamed_24 (by decide) ?_
        exact ihn (lt_s hJn h2) ls (lv_eq (lv_sub hl [1, 0] rfl) rfl)
      · refine r_iload_n C dX1_sortNamed_19 rfl (lv_at hl 1 rfl) ?_
        exact r_iretXe C (congrArg iI (by rw [srC, fstK, fst0_yes (p := fun k => wdC tp ta (sa, en, nm) (srL k)) h2 hJn hn, if_pos hn])) dX1_sortNamed_20
  · have hl : lv_has ls 2 [(0, .ref (c 0)), (1, .int (iI 6))] := hl
    have hJn : ∀ j : Nat, j < 6 → ¬ (fun k => wdC tp ta (sa, en, nm) (srL k)) j := hJn
    refine r_iload_n C dX1_sortNamed_2 rfl (lv_at hl 1 rfl) ?_
    refine r_bipush C dX1_sortNamed_3 (by decide) ?_
    refine r_icmp_ge C (tgt := 27) dX1_sortNamed_5 (by decide) ⟨by decide, by decide⟩ ⟨by decide, by decide⟩ (fun h3 => ?_) (fun h3 => ?_)
    · refine r_iconst C dX1_sortNamed_27 ?_
      exact r_iretXe C (congrArg iI (by rw [srC, fstK, fst0_no (p := fun k => wdC tp ta (sa, en, nm) (srL k)) (n := 6) hJn, if_neg (by decide)])) dX1_sortNamed_28
    · exfalso; omega
end CLASS
