section CLASS
variable {l : Launch} {D : va_G} {k : Nat → ClassId} {a b c : Nat → Nat} {A : Nat → Prop} {ad av : Nat} {tx : List Int} {Z : SZ} {s t kq tp bi si st : Int → Int} {wr tw kw : Int64} {y ty ky ta tk sa en nm ik bt sz : Int} {nu nf : Int → Int64}
section CRS
variable {tp : Int → Int} {ta : Int} {s : Int → Int} {p : CP} {n : Nat}
theorem cr_in (eF : crF tp ta s p = n) (hn : n < 120) : crO tp ta s p = cIr tp ta s p n := by
  unfold crO
  rw [eF, if_pos hn]
theorem cr_out (eF : crF tp ta s p = 120) : crO tp ta s p = (0, (cpR tp ta s p 120).1, (cpR tp ta s p 120).2) := by
  unfold crO
  rw [eF, if_neg (by decide)]
theorem crA_bad {r : R3} (e : crO tp ta s p = r) (h : ¬ r.1 = 1) : crA tp ta s p = -1 - r.2.2.1 := by
  unfold crA
  rw [e, if_neg h]
theorem crA_end {r : R3} (e : crO tp ta s p = r) (eF : crF tp ta s p = n) (h : r.1 = 1) (h0 : tkC tp ta r.2.2.1 = 0) : crA tp ta s p = 1 + (n : Int) := by
  unfold crA
  rw [e, if_pos h, if_pos h0, eF]
theorem crA_tok {r : R3} (e : crO tp ta s p = r) (h : r.1 = 1) (h0 : ¬ tkC tp ta r.2.2.1 = 0) : crA tp ta s p = -1 - r.2.2.1 := by
  unfold crA
  rw [e, if_pos h, if_neg h0]
theorem crA_rg (htp : ∀ i, 0 ≤ tp i ∧ tp i ≤ 255) (h : CI ta p) (hta : ta ≤ 120) : -121 ≤ crA tp ta s p ∧ crA tp ta s p ≤ 121 := by
  have hF : crF tp ta s p ≤ 120 := fst0_le _ 120
  have hc : CI ta (crO tp ta s p).2.2 := by
    unfold crO
    split
    · exact ci_it htp (ci_cpR htp h _)
    · exact ci_cpR htp h 120
  unfold CI at hc
  unfold crA
  repeat' split
  all_goals omega
end CRS
set_option maxHeartbeats 400000 in
set_option maxRecDepth 100000 in
theorem cP_readInto  (hta0 : 0 ≤ ta) (hta : ta ≤ 120) (hnm : 0 ≤ nm) (hnm1 : nm ≤ 10000) (htp : ∀ i, 0 ≤ tp i ∧ tp i ≤ 255) (hs : Ok s) : MWX Z l yX1_readInto cX1_readInto 3 (some .int) 8 176 D k [.ref (c 0), .ref (b 0)] (wPW b c k tp ta tk sa en nm s (lB (wrF s)) y) (wPW b c k tp ta (tkC tp ta (crO tp ta s (adC tp ta (sa, 0, nm))).2.2.1) ((crO tp ta s (adC tp ta (sa, 0, nm))).2.2.1) ((crO tp ta s (adC tp ta (sa, 0, nm))).2.2.2.1) ((crO tp ta s (adC tp ta (sa, 0, nm))).2.2.2.2) ((crO tp ta s (adC tp ta (sa, 0, nm))).2.1) (lB (wrF ((crO tp ta s (adC tp ta (sa, 0, nm))).2.1))) y) (some (.int (iI (crA tp ta s (adC tp ta (sa, 0, nm)))))) := by
  refine MWX.mk RX1 rfl (by decide +kernel) (Nat.le_of_ble_eq_true rfl) (fun p e U m0 below meth cd ls C hA hZ hP hD hS hl => ?_)
  have hl : lv_has ls 3 [(0, .ref (c 0)), (1, .ref (b 0))] := hl
  have h00 := hs.1 0 (by decide)
  have h06 := hs.2.2.1
  refine r_aload_n C dX1_readInto_0 rfl (lv_at hl 0 rfl) ?_
  refine r_iconst C dX1_readInto_1 ?_
  refine p_X1_15 C hP hD hS 0 (wPW b c k tp ta tk sa 0 nm s (lB (wrF s)) y) rfl (Nat.le_of_ble_eq_true rfl) rfl dX1_readInto_2 (fun H locs hP hD hS => ?_)
  refine r_aload_n C dX1_readInto_5 rfl (lv_at hl 0 rfl) ?_
  obtain ⟨q1, eq1⟩ : ∃ q : CP, q = adC tp ta (sa, 0, nm) := ⟨_, rfl⟩
  have iq1 : CI ta q1 := eq1 ▸ ad_ci htp (p := (sa, 0, nm)) (by first | omega | (dsimp only; omega)) (by first | omega | (dsimp only; omega)) (by first | omega | (dsimp only; omega)) (by first | omega | (dsimp only; omega))
  have jq1 := iq1
  unfold CI at jq1
  refine r_cVW0 C m_X1_19 (cP_advance (c := c) (tp := tp) (ta := ta) (tk := tk) (sa := sa) (en := 0) (nm := nm) (by omega) (by omega) (by omega) htp) hP hD hS [0, 1] (wPW b c k tp ta (tkC tp ta q1.1) q1.1 q1.2.1 q1.2.2 s (lB (wrF s)) y) rfl lc_PW_tp rfl (by rw [eq1]; exact lp_PW_tp) (wPW_ad.trans wPW_ad.symm) rfl rfl hl.1 dX1_readInto_6 (fun H locs hP hD hS => ?_)
  have hRQ : RQ tp ta q1 (q0P tp ta 0) := eq1 ▸ rq_0 (by omega) hta ⟨by decide, by decide⟩
  refine r_iconst C dX1_readInto_9 ?_
  refine r_istore_n C [(2, .int (iI 1)), (0, .ref (c 0)), (1, .ref (b 0))] dX1_readInto_10 rfl hl (by decide) rfl (fun ls hl => ?_)
  refine r_loopWJ (fun n : Nat => [(0, .ref (c 0)), (1, .ref (b 0)), (2, .int (iI (1 + n)))]) (fun n : Nat => wPW b c k tp ta (tkC tp ta (cpR tp ta s q1 n).2.1) ((cpR tp ta s q1 n).2.1) ((cpR tp ta s q1 n).2.2.1) ((cpR tp ta s q1 n).2.2.2) ((cpR tp ta s q1 n).1) (lB (wrF ((cpR tp ta s q1 n).1))) y) (120) (fun n : Nat => ∀ j : Nat, j < n → ¬ crT tp ta s q1 j) (fun j h => absurd h (Nat.not_lt_zero j)) (lv_eq (lv_sub hl [1, 2, 0] rfl) (by rw [show (1 : Int) + ((0 : Nat) : Int) = 1 by omega]; rfl)) (va_eq hP rfl) (va_eqD hD rfl) hS (fun n hn ihn hJn ls H locs hl hP hD hS => ?_) (fun hJn ls H locs hl hP hD hS => ?_)
  · have hl : lv_has ls 3 [(0, .ref (c 0)), (1, .ref (b 0)), (2, .int (iI (1 + n)))] := hl
    have hP : va_P D vwCl (wPW b c k tp ta (tkC tp ta (cpR tp ta s q1 n).2.1) ((cpR tp ta s q1 n).2.1) ((cpR tp ta s q1 n).2.2.1) ((cpR tp ta s q1 n).2.2.2) ((cpR tp ta s q1 n).1) (lB (wrF ((cpR tp ta s q1 n).1))) y) H := hP
    have hD : va_D _ (wPW b c k tp ta (tkC tp ta (cpR tp ta s q1 n).2.1) ((cpR tp ta s q1 n).2.1) ((cpR tp ta s q1 n).2.2.1) ((cpR tp ta s q1 n).2.2.2) ((cpR tp ta s q1 n).1) (lB (wrF ((cpR tp ta s q1 n).1))) y) := hD
    have hJn : ∀ j : Nat, j < n → ¬ crT tp ta s q1 j := hJn
    obtain ⟨qq, eqq⟩ : ∃ q : CP, q = (cpR tp ta s q1 n).2 := ⟨_, rfl⟩
    obtain ⟨S, eS⟩ : ∃ z : Int → Int, z = (cpR tp ta s q1 n).1 := ⟨_, rfl⟩
    have hci : CI ta qq := eqq ▸ ci_cpR htp iq1 n
    unfold CI at hci
    have hsl : Ok S := eS ▸ ok_cpR hRQ hs hJn
    rw [← eqq, ← eS] at hP hD
    refine r_iload_n C dX1_readInto_11 rfl (lv_at hl 2 rfl) ?_
    refine r_bipush C dX1_readInto_12 (by decide) ?_
    refine r_icmp_gt C (tgt := 66) dX1_readInto_14 (by decide) (by exact ⟨by omega, by omega⟩) ⟨by decide, by decide⟩ (fun h1 => ?_) (fun h1 => ?_)
    · exfalso; omega
    · refine r_aload_n C dX1_readInto_17 rfl (lv_at hl 0 rfl) ?_
      refine r_aload_n C dX1_readInto_18 rfl (lv_at hl 1 rfl) ?_
      refine r_cVWXA (As := [.ref (b 0)]) C m_X1_22 (cP_readItem (b := b) (c := c) (Z := Z) (tp := tp) (ta := ta) (sa := qq.1) (en := qq.2.1) (nm := qq.2.2) (s := S) (y := y) (by omega) (by omega) (by omega) (by omega) (by omega) (by omega) htp hsl) (hZ.by hA hS) (va_D.same hA (wPW_ad.trans wPW_ad.symm)) rfl hP hD hS (wPW_ad.trans wPW_ad.symm) rfl rfl hl.1 dX1_readInto_19 (fun H locs hP hD hS => ?_)
      rw [show (qq.1, qq.2.1, qq.2.2) = qq from rfl] at hP hD
      refine r_topB ((cIt tp ta S qq).1 = 1) Iff.rfl ?_
      have hcr : CI ta (cIt tp ta S qq).2.2 := ci_it htp (s := S) (p := qq) hci
      unfold CI at hcr
      have htk9 := tkC_rg tp ta (cIt tp ta S qq).2.2.1
      refine r_ifB_ne C (tgt := 32) dX1_readInto_22 (by decide) (fun h2 => ?_) (fun h2 => ?_)
      · refine r_aload_n C dX1_readInto_32 rfl (lv_at hl 0 rfl) ?_
        refine g_X1_29 C hP 0 rfl rfl dX1_readInto_33 ?_
        refine r_if_ne C (tgt := 41) dX1_readInto_36 (by decide) (by exact ⟨by omega, by omega⟩) (fun h3 => ?_) (fun h3 => ?_)
        · refine r_aload_n C dX1_readInto_41 rfl (lv_at hl 0 rfl) ?_
          refine g_X1_29 C hP 0 rfl rfl dX1_readInto_42 ?_
          refine r_iconst C dX1_readInto_45 ?_
          refine r_icmp_eq C (tgt := 56) dX1_readInto_46 (by decide) (by exact ⟨by omega, by omega⟩) ⟨by decide, by decide⟩ (fun h4 => ?_) (fun h4 => ?_)
          · refine r_aload_n C dX1_readInto_56 rfl (lv_at hl 0 rfl) ?_
            obtain ⟨q3, eq3⟩ : ∃ q : CP, q = adC tp ta (cIt tp ta S qq).2.2 := ⟨_, rfl⟩
            have iq3 : CI ta q3 := eq3 ▸ ad_ci htp (p := (cIt tp ta S qq).2.2) (by first | omega | (dsimp only; omega)) (by first | omega | (dsimp only; omega)) (by first | omega | (dsimp only; omega)) (by first | omega | (dsimp only; omega))
            have jq3 := iq3
            unfold CI at jq3
            refine r_cVW0 C m_X1_19 (cP_advance (c := c) (tp := tp) (ta := ta) (tk := tkC tp ta (cIt tp ta S qq).2.2.1) (sa := (cIt tp ta S qq).2.2.1) (en := (cIt tp ta S qq).2.2.2.1) (nm := (cIt tp ta S qq).2.2.2.2) (by omega) (by omega) (by omega) htp) hP hD hS [0, 1] (wPW b c k tp ta (tkC tp ta q3.1) q3.1 q3.2.1 q3.2.2 ((cIt tp ta S qq).2.1) (lB (wrF ((cIt tp ta S qq).2.1))) y) rfl lc_PW_tp rfl (by rw [eq3]; exact lp_PW_tp) (wPW_ad.trans wPW_ad.symm) rfl rfl hl.1 dX1_readInto_57 (fun H locs hP hD hS => ?_)
            refine r_iinc C 2 [(2, .int (iI (1 + n + 1))), (0, .ref (c 0)), (1, .ref (b 0))] dX1_readInto_60 hl rfl (by decide) rfl (fun ls hl => ?_)
            refine r_goto C (tgt := 11) dX1_readInto_63 (by decide) ?_
            have ew4 : wPW b c k tp ta (tkC tp ta q3.1) q3.1 q3.2.1 q3.2.2 ((cIt tp ta S qq).2.1) (lB (wrF ((cIt tp ta S qq).2.1))) y = wPW b c k tp ta (tkC tp ta (cpR tp ta s q1 (n + 1)).2.1) ((cpR tp ta s q1 (n + 1)).2.1) ((cpR tp ta s q1 (n + 1)).2.2.1) ((cpR tp ta s q1 (n + 1)).2.2.2) ((cpR tp ta s q1 (n + 1)).1) (lB (wrF ((cpR tp ta s q1 (n + 1)).1))) y := (by rw [eq3, eS, eqq, cpR])
            exact ihn (lt_s hJn (fun z => z ⟨by rw [show cIr tp ta s q1 n = (cIt tp ta S qq) by rw [eS, eqq]]; exact h2, by rw [show cIr tp ta s q1 n = (cIt tp ta S qq) by rw [eS, eqq]]; exact h4⟩)) ls H locs (lv_eq (lv_sub hl [1, 2, 0] rfl) (by rw [show (1 : Int) + ((n + 1 : Nat) : Int) = 1 + n + 1 by omega]; rfl)) (va_eq hP ew4) (va_eqD hD ew4) hS
          · have er8 : cIr tp ta s q1 n = (cIt tp ta S qq) := by rw [eS, eqq]
            have eF : crF tp ta s q1 = n := fst0_yes (p := crT tp ta s q1) (fun z => h4 (by rw [← er8]; exact z.2)) hJn (n := 120) hn
            have eO : crO tp ta s q1 = (cIt tp ta S qq) := (cr_in eF hn).trans er8
            refine r_iconst C dX1_readInto_49 ?_
            refine r_aload_n C dX1_readInto_50 rfl (lv_at hl 0 rfl) ?_
            refine g_X1_26 C hP 0 rfl rfl dX1_readInto_51 ?_
            refine r_isub C dX1_readInto_54 ?_
            exact r_iretW C hP hS (by rw [← eq1, eO]) (congrArg iI (by rw [← eq1]; rw [crA_tok eO h2 h3])) dX1_readInto_55
        · have er8 : cIr tp ta s q1 n = (cIt tp ta S qq) := by rw [eS, eqq]
          have eF : crF tp ta s q1 = n := fst0_yes (p := crT tp ta s q1) (fun z => absurd (h3.symm.trans (by have := z.2; rw [er8] at this; exact this)) (show ¬ (0 : Int) = 3 by decide)) hJn (n := 120) hn
          have eO : crO tp ta s q1 = (cIt tp ta S qq) := (cr_in eF hn).trans er8
          refine r_iload_n C dX1_readInto_39 rfl (lv_at hl 2 rfl) ?_
          exact r_iretW C hP hS (by rw [← eq1, eO]) (congrArg iI (by rw [← eq1]; rw [crA_end eO eF h2 h3])) dX1_readInto_40
      · have er8 : cIr tp ta s q1 n = (cIt tp ta S qq) := by rw [eS, eqq]
        have eF : crF tp ta s q1 = n := fst0_yes (p := crT tp ta s q1) (fun z => h2 (by rw [← er8]; exact z.1)) hJn (n := 120) hn
        have eO : crO tp ta s q1 = (cIt tp ta S qq) := (cr_in eF hn).trans er8
        refine r_iconst C dX1_readInto_25 ?_
        refine r_aload_n C dX1_readInto_26 rfl (lv_at hl 0 rfl) ?_
        refine g_X1_26 C hP 0 rfl rfl dX1_readInto_27 ?_
        refine r_isub C dX1_readInto_30 ?_
        exact r_iretW C hP hS (by rw [← eq1, eO]) (congrArg iI (by rw [← eq1]; rw [crA_bad eO h2])) dX1_readInto_31
  · have hl : lv_has ls 3 [(0, .ref (c 0)), (1, .ref (b 0)), (2, .int (iI (1 + 120)))] := hl
    have hP : va_P D vwCl (wPW b c k tp ta (tkC tp ta (cpR tp ta s q1 120).2.1) ((cpR tp ta s q1 120).2.1) ((cpR tp ta s q1 120).2.2.1) ((cpR tp ta s q1 120).2.2.2) ((cpR tp ta s q1 120).1) (lB (wrF ((cpR tp ta s q1 120).1))) y) H := hP
    have hD : va_D _ (wPW b c k tp ta (tkC tp ta (cpR tp ta s q1 120).2.1) ((cpR tp ta s q1 120).2.1) ((cpR tp ta s q1 120).2.2.1) ((cpR tp ta s q1 120).2.2.2) ((cpR tp ta s q1 120).1) (lB (wrF ((cpR tp ta s q1 120).1))) y) := hD
    have hJn : ∀ j : Nat, j < 120 → ¬ crT tp ta s q1 j := hJn
    obtain ⟨qq, eqq⟩ : ∃ q : CP, q = (cpR tp ta s q1 120).2 := ⟨_, rfl⟩
    obtain ⟨S, eS⟩ : ∃ z : Int → Int, z = (cpR tp ta s q1 120).1 := ⟨_, rfl⟩
    have hci : CI ta qq := eqq ▸ ci_cpR htp iq1 120
    unfold CI at hci
    have hsl : Ok S := eS ▸ ok_cpR hRQ hs hJn
    rw [← eqq, ← eS] at hP hD
    refine r_iload_n C dX1_readInto_11 rfl (lv_at hl 2 rfl) ?_
    refine r_bipush C dX1_readInto_12 (by decide) ?_
    refine r_icmp_gt C (tgt := 66) dX1_readInto_14 (by decide) (by exact ⟨by omega, by omega⟩) ⟨by decide, by decide⟩ (fun h5 => ?_) (fun h5 => ?_)
    · refine r_iconst C dX1_readInto_66 ?_
      refine r_aload_n C dX1_readInto_67 rfl (lv_at hl 0 rfl) ?_
      refine g_X1_26 C hP 0 rfl rfl dX1_readInto_68 ?_
      refine r_isub C dX1_readInto_71 ?_
      exact r_iretW C hP hS (by rw [← eq1, cr_out (fst0_no (p := crT tp ta s q1) (n := 120) hJn), eqq, eS]) (congrArg iI (by rw [← eq1]; rw [crA_bad (cr_out (fst0_no (p := crT tp ta s q1) (n := 120) hJn)) (show ¬ (0 : Int) = 1 by decide)]; rw [eqq])) dX1_readInto_72
    · exfalso; omega
end CLASS
