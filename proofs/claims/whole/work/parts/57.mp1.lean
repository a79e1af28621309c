section CLASS
variable {l : Launch} {D : va_G} {k : Nat → ClassId} {a c : Nat → Nat} {s t kq tp bi si st : Int → Int} {wr tw kw : Int64} {y ty ky ta tk sa en nm ik bt sz : Int} {nu nf : Int → Int64}
theorem wP_ad {c : Nat → Nat} {k : Nat → ClassId} {tp : Int → Int} {ta tk sa en nm : Int} : (wP c k tp ta tk sa en nm).map (·.1) = [c 0, c 1] := rfl
theorem dg_tp {tp : Int → Int} {ta e : Int} {j : Nat} (h : ¬ dgP tp ta e j) : isD (tp (e + j)) := by
  have := Classical.not_not.mp h
  unfold bAt at this
  split at this
  · exact this
  · unfold isD at this; omega
theorem dg_hi {tp : Int → Int} {ta e : Int} {j : Nat} (h : ¬ e + j < ta) : dgP tp ta e j := by
  show ¬ isD (bAt tp ta (e + j))
  rw [bAt_hi (by omega)]; unfold isD; omega
theorem dg_no {tp : Int → Int} {ta e : Int} {j : Nat} (h : e + j < ta) (q : ¬ isD (tp (e + j))) : dgP tp ta e j := by
  show ¬ isD (bAt tp ta (e + j))
  rw [bAt_in h]; exact q
theorem dg_yes {tp : Int → Int} {ta e : Int} {j : Nat} (h : e + j < ta) (q : isD (tp (e + j))) : ¬ dgP tp ta e j := fun z => z (by rw [bAt_in h]; exact q)
theorem lg_hi {tp : Int → Int} {ta e : Int} {j : Nat} (h : ¬ e + j < ta) : lgP tp ta e j := by
  show ¬ isL (bAt tp ta (e + j))
  rw [bAt_hi (by omega)]; unfold isL; omega
theorem lg_no {tp : Int → Int} {ta e : Int} {j : Nat} (h : e + j < ta) (q : ¬ isL (tp (e + j))) : lgP tp ta e j := by
  show ¬ isL (bAt tp ta (e + j))
  rw [bAt_in h]; exact q
theorem lg_yes {tp : Int → Int} {ta e : Int} {j : Nat} (h : e + j < ta) (q : isL (tp (e + j))) : ¬ lgP tp ta e j := fun z => z (by rw [bAt_in h]; exact q)
theorem sk_hi {tp : Int → Int} {ta e : Int} {j : Nat} (h : ¬ e + j < ta) : skP tp ta e j := by
  show ¬ bAt tp ta (e + j) = 32
  rw [bAt_hi (by omega)]; decide
theorem sk_no {tp : Int → Int} {ta e : Int} {j : Nat} (h : e + j < ta) (q : ¬ tp (e + j) = 32) : skP tp ta e j := by
  show ¬ bAt tp ta (e + j) = 32
  rw [bAt_in h]; exact q
theorem sk_yes {tp : Int → Int} {ta e : Int} {j : Nat} (h : e + j < ta) (q : tp (e + j) = 32) : ¬ skP tp ta e j := fun z => z (by rw [bAt_in h]; exact q)
section ADS
variable {tp : Int → Int} {ta sa en nm f : Int}
theorem ad_end (hf : f = tkF tp ta en) (h : ¬ f < ta) : adC tp ta (sa, en, nm) = (f, f, nm) ∧ tkC tp ta f = 0 := by
  subst hf
  refine ⟨?_, tkC_0.mpr h⟩
  unfold adC
  dsimp only
  rw [tkT_end h, if_neg]
  rw [bAt_hi (by omega)]; unfold isD; omega
theorem ad_w (hf : f = tkF tp ta en) (h : f < ta) (hl : isL (tp f)) {m : Nat} (hJ : ∀ j : Nat, j < m → ¬ lgP tp ta f j) (hm : lgP tp ta f m) (hm2 : m < 121) : adC tp ta (sa, en, nm) = (f, f + m, nm) ∧ tkC tp ta f = 1 := by
  have e := tkT_w h hl hJ hm hm2
  subst hf
  refine ⟨?_, tkC_1.mpr (by rw [bAt_in h]; exact hl)⟩
  unfold adC
  dsimp only
  rw [e, if_neg]
  rw [bAt_in h]
  unfold isL at hl
  unfold isD
  omega
theorem ad_d (hf : f = tkF tp ta en) (h0 : 0 ≤ f) (h : f < ta) (h2 : ta ≤ 120) (hl : isD (tp f)) : adC tp ta (sa, en, nm) = (f, f + (dgE tp ta f : Nat), mnN tp f (dgE tp ta f)) ∧ tkC tp ta f = 2 := by
  have z := dgE_sp (tp := tp) h0 (show f ≤ ta by omega) h2
  have e := tkT_d h hl z.2.2 z.2.1 (by omega)
  subst hf
  refine ⟨?_, tkC_2.mpr (by rw [bAt_in h]; exact hl)⟩
  unfold adC
  dsimp only
  rw [e, if_pos (by rw [bAt_in h]; exact hl), show (tkF tp ta en + ((dgE tp ta (tkF tp ta en) : Nat) : Int) - tkF tp ta en).toNat = dgE tp ta (tkF tp ta en) by omega]
theorem ad_o (hf : f = tkF tp ta en) (h : f < ta) (h1 : ¬ isL (tp f)) (h2 : ¬ isD (tp f)) : adC tp ta (sa, en, nm) = (f, f + 1, nm) ∧ tkC tp ta f = if tp f = 59 then 3 else 4 := by
  have e := tkT_o h h1 h2
  subst hf
  constructor
  · unfold adC
    dsimp only
    rw [e, if_neg (by rw [bAt_in h]; exact h2)]
  · unfold tkC
    rw [if_pos h, if_neg h1, if_neg h2]
end ADS
set_option maxHeartbeats 400000 in
set_option maxRecDepth 100000 in
theorem cP_isLetter {v : Int} (zv : In32 v) : MR l yX1_isLetter cX1_isLetter 1 (some .boolean) 0 0 D k [.int (iI v)] [] (.int (iB (97 ≤ v ∧ v ≤ 122))) := by
  refine MR.mk RX1 rfl (by decide +kernel) (Nat.le_of_ble_eq_true rfl) (fun p e U m0 below meth cd ls C hP hl => ?_)
  have hl : lv_has ls 1 [(0, .int (iI v))] := hl
  have zv1 := zv.1
  have zv2 := zv.2
  refine r_iload_n C dX1_isLetter_0 rfl (lv_at hl 0 rfl) ?_
  refine r_bipush C dX1_isLetter_1 (by decide) ?_
  refine r_icmp_lt C (tgt := 16) dX1_isLetter_3 (by decide) (by exact ⟨by omega, by omega⟩) ⟨by decide, by decide⟩ (fun h1 => ?_) (fun h1 => ?_)
  · refine r_iconst C dX1_isLetter_16 ?_
    exact r_zretR C (iB0 (by omega)) dX1_isLetter_17
  · refine r_iload_n C dX1_isLetter_6 rfl (lv_at hl 0 rfl) ?_
    refine r_bipush C dX1_isLetter_7 (by decide) ?_
    refine r_icmp_gt C (tgt := 16) dX1_isLetter_9 (by decide) (by exact ⟨by omega, by omega⟩) ⟨by decide, by decide⟩ (fun h2 => ?_) (fun h2 => ?_)
    · refine r_iconst C dX1_isLetter_16 ?_
      exact r_zretR C (iB0 (by omega)) dX1_isLetter_17
    · refine r_iconst C dX1_isLetter_12 ?_
      refine r_goto C (tgt := 17) dX1_isLetter_13 (by decide) ?_
      exact r_zretR C (iB1 (by omega)) dX1_isLetter_17
set_option maxHeartbeats 400000 in
set_option maxRecDepth 100000 in
theorem cP_isDigit {v : Int} (zv : In32 v) : MR l yX1_isDigit cX1_isDigit 1 (some .boolean) 0 0 D k [.int (iI v)] [] (.int (iB (48 ≤ v ∧ v ≤ 57))) := by
  refine MR.mk RX1 rfl (by decide +kernel) (Nat.le_of_ble_eq_true rfl) (fun p e U m0 below meth cd ls C hP hl => ?_)
  have hl : lv_has ls 1 [(0, .int (iI v))] := hl
  have zv1 := zv.1
  have zv2 := zv.2
  refine r_iload_n C dX1_isDigit_0 rfl (lv_at hl 0 rfl) ?_
  refine r_bipush C dX1_isDigit_1 (by decide) ?_
  refine r_icmp_lt C (tgt := 16) dX1_isDigit_3 (by decide) (by exact ⟨by omega, by omega⟩) ⟨by decide, by decide⟩ (fun h1 => ?_) (fun h1 => ?_)
  · refine r_iconst C dX1_isDigit_16 ?_
    exact r_zretR C (iB0 (by omega)) dX1_isDigit_17
  · refine r_iload_n C dX1_isDigit_6 rfl (lv_at hl 0 rfl) ?_
    refine r_bipush C dX1_isDigit_7 (by decide) ?_
    refine r_icmp_gt C (tgt := 16) dX1_isDigit_9 (by decide) (by exact ⟨by omega, by omega⟩) ⟨by decide, by decide⟩ (fun h2 => ?_) (fun h2 => ?_)
    · refine r_iconst C dX1_isDigit_16 ?_
      exact r_zretR C (iB0 (by omega)) dX1_isDigit_17
    · refine r_iconst C dX1_isDigit_12 ?_
      refine r_goto C (tgt := 17) dX1_isDigit_13 (by decide) ?_
      exact r_zretR C (iB1 (by omega)) dX1_isDigit_17
set_option maxHeartbeats 400000 in
set_option maxRecDepth 100000 in
theorem cP_isNumber {lo : Int} {hi : Int} (zlo : In32 lo) (zhi : In32 hi) (hnm : 0 ≤ nm ∧ nm ≤ 10000) : MR l yX1_isNumber cX1_isNumber 3 (some .boolean) 0 0 D k [.ref (c 0), .int (iI lo), .int (iI hi)] (wP c k tp ta (tkC tp ta sa) sa en nm) (.int (iB (nbC tp ta lo hi (sa, en, nm)))) := by
  refine MR.mk RX1 rfl (by decide +kernel) (Nat.le_of_ble_eq_true rfl) (fun p e U m0 below meth cd ls C hP hl => ?_)
  have hl : lv_has ls 3 [(0, .ref (c 0)), (1, .int (iI lo)), (2, .int (iI hi))] := hl
  have zlo1 := zlo.1
  have zlo2 := zlo.2
  have zhi1 := zhi.1
  have zhi2 := zhi.2
  have htk := tkC_rg tp ta sa
  refine r_aload_n C dX1_isNumber_0 rfl (lv_at hl 0 rfl) ?_
  refine g_X1_29 C hP 0 rfl rfl dX1_isNumber_1 ?_
  refine r_iconst C dX1_isNumber_4 ?_
  refine r_icmp_ne C (tgt := 28) dX1_isNumber_5 (by decide) (by exact ⟨by omega, by omega⟩) ⟨by decide, by decide⟩ (fun h1 => ?_) (fun h1 => ?_)
  · refine r_iconst C dX1_isNumber_28 ?_
    exact r_zretR C (iB0 (by show ¬ (tkC tp ta sa = 2 ∧ lo ≤ nm ∧ nm ≤ hi); omega)) dX1_isNumber_29
  · refine r_aload_n C dX1_isNumber_8 rfl (lv_at hl 0 rfl) ?_
    refine g_X1_67 C hP 0 rfl rfl dX1_isNumber_9 ?_
    refine r_iload_n C dX1_isNumber_12 rfl (lv_at hl 1 rfl) ?_
    refine r_icmp_lt C (tgt := 28) dX1_isNumber_13 (by decide) (by exact ⟨by omega, by omega⟩) (by exact ⟨by omega, by omega⟩) (fun h2 => ?_) (fun h2 => ?_)
    · refine r_iconst C dX1_isNumber_28 ?_
      exact r_zretR C (iB0 (by show ¬ (tkC tp ta sa = 2 ∧ lo ≤ nm ∧ nm ≤ hi); omega)) dX1_isNumber_29
    · refine r_aload_n C dX1_isNumber_16 rfl (lv_at hl 0 rfl) ?_
      refine g_X1_67 C hP 0 rfl rfl dX1_isNumber_17 ?_
      refine r_iload_n C dX1_isNumber_20 rfl (lv_at hl 2 rfl) ?_
      refine r_icmp_gt C (tgt := 28) dX1_isNumber_21 (by decide) (by exact ⟨by omega, by omega⟩) (by exact ⟨by omega, by omega⟩) (fun h3 => ?_) (fun h3 => ?_)
      · refine r_iconst C dX1_isNumber_28 ?_
        exact r_zretR C (iB0 (by show ¬ (tkC tp ta sa = 2 ∧ lo ≤ nm ∧ nm ≤ hi); omega)) dX1_isNumber_29
      · refine r_iconst C dX1_isNumber_24 ?_
        refine r_goto C (tgt := 29) dX1_isNumber_25 (by decide) ?_
        exact r_zretR C (iB1 (by show tkC tp ta sa = 2 ∧ lo ≤ nm ∧ nm ≤ hi; omega)) dX1_isNumber_29
set_option maxHeartbeats 400000 in
set_option maxRecDepth 100000 in
theorem cP_readDigits  (he : 0 ≤ en) (he1 : en ≤ ta) (hta : ta ≤ 120) (htp : ∀ i, 0 ≤ tp i ∧ tp i ≤ 255) : MW l yX1_readDigits cX1_readDigits 1 none 1 21 D k [.ref (c 0)] (wP c k tp ta tk sa en nm) (wP c k tp ta tk sa (en + ((dgE tp ta en : Nat) : Int)) (mnN tp en (dgE tp ta en))) none := by
  refine MW.mk RX1 rfl (by decide +kernel) (Nat.le_of_ble_eq_true rfl) (fun p e U m0 below meth cd ls C hP hD hS hl => ?_)
  have hl : lv_has ls 1 [(0, .ref (c 0))] := hl
  refine r_aload_n C dX1_readDigits_0 rfl (lv_at hl 0 rfl) ?_
  refine r_iconst C dX1_readDigits_1 ?_
  refine p_X1_67 C hP hD hS 0 (wP c k tp ta tk sa en 0) rfl (Nat.le_of_ble_eq_true rfl) rfl dX1_readDigits_2 (fun H locs hP hD hS => ?_)
  refine r_loopWJ (fun n : Nat => [(0, .ref (c 0))]) (fun n : Nat => wP c k tp ta tk sa (en + n) (mnN tp en n)) (121) (fun n : Nat => ∀ j : Nat, j < n → ¬ dgP tp ta en j) (fun j h => absurd h (Nat.not_lt_zero j)) (lv_eq (lv_sub hl [0] rfl) rfl) (va_eq hP (by rw [show en + ((0 : Nat) : Int) = en by omega]; rfl)) (va_eqD hD (by rw [show en + ((0 : Nat) : Int) = en by omega]; rfl)) hS (fun n hn ihn hJn ls H locs hl hP hD hS => ?_) (fun hJn ls H locs hl hP hD hS => ?_)
  · have hl : lv_has ls 1 [(0, .ref (c 0))] := hl
    have hP : va_P D vwCl (wP c k tp ta tk sa (en + n) (mnN tp en n)) H := hP
    have hD : va_D _ (wP c k tp ta tk sa (en + n) (mnN tp en n)) := hD
    have hJn : ∀ j : Nat, j < n → ¬ dgP tp ta en j := hJn
    have hmn := mnN_rg htp (f := en) (n := n) (fun j hj => dg_tp (hJn j hj))
    refine r_aload_n C dX1_readDigits_5 rfl (lv_at hl 0 rfl) ?_
    refine g_X1_15 C hP 0 rfl rfl dX1_readDigits_6 ?_
    refine r_aload_n C dX1_readDigits_9 rfl (lv_at hl 0 rfl) ?_
    refine g_X1_126 C hP 0 rfl rfl dX1_readDigits_10 ?_
    refine r_icmp_ge C (tgt := 74) dX1_readDigits_13 (by decide) (by exact ⟨by omega, by omega⟩) (by exact ⟨by omega, by omega⟩) (fun h1 => ?_) (fun h1 => ?_)
    · have hdp : dgP tp ta en n := dg_hi (by omega)
      have eE : dgE tp ta en = n := fst0_yes (p := dgP tp ta en) hdp hJn (n := 121) (by omega)
      exact r_vretW C hP hS (by rw [eE]) dX1_readDigits_74
    · refine r_aload_n C dX1_readDigits_16 rfl (lv_at hl 0 rfl) ?_
      refine g_X1_9 C hP 0 rfl rfl dX1_readDigits_17 ?_
      refine r_aload_n C dX1_readDigits_20 rfl (lv_at hl 0 rfl) ?_
      refine g_X1_15 C hP 0 rfl rfl dX1_readDigits_21 ?_
      refine r_iald C hP 1 rfl dX1_readDigits_24 (by omega) (by omega) (by decide) ?_
      refine r_cSR1 C m_X1_132 (cP_isDigit (by have := htp (en + n); exact ⟨by omega, by omega⟩)) pn0 hl.1 dX1_readDigits_25 ?_
      refine r_ifB_eq C (tgt := 74) dX1_readDigits_28 (by decide) (fun h2 => ?_) (fun h2 => ?_)
      · have hdp : dgP tp ta en n := dg_no (by omega) h2
        have eE : dgE tp ta en = n := fst0_yes (p := dgP tp ta en) hdp hJn (n := 121) (by omega)
        exact r_vretW C hP hS (by rw [eE]) dX1_readDigits_74
      · refine r_aload_n C dX1_readDigits_31 rfl (lv_at hl 0 rfl) ?_
        refine r_sipush C dX1_readDigits_32 (by decide) ?_
        refine r_bipush C dX1_readDigits_35 (by decide) ?_
        refine r_aload_n C dX1_readDigits_37 rfl (lv_at hl 0 rfl) ?_
        refine g_X1_67 C hP 0 rfl rfl dX1_readDigits_38 ?_
        refine r_imul C dX1_readDigits_41 ?_
        refine r_aload_n C dX1_readDigits_42 rfl (lv_at hl 0 rfl) ?_
        refine g_X1_9 C hP 0 rfl rfl dX1_readDigits_43 ?_
        refine r_aload_n C dX1_readDigits_46 rfl (lv_at hl 0 rfl) ?_
        refine g_X1_15 C hP 0 rfl rfl dX1_readDigits_47 ?_
        refine r_iald C hP 1 rfl dX1_readDigits_50 (by omega) (by omega) (by decide) ?_
        refine r_iadd C dX1_readDigits_51 ?_
        refine r_bipush C dX1_readDigits_52 (by decide) ?_
        refine r_isub C dX1_readDigits_54 ?_
        refine r_mmin C m_X1_138 ⟨by decide, by decide⟩ (by have := hmn; have := htp (en + n); exact ⟨by omega, by omega⟩) hl.1 dX1_readDigits_55 ?_
        refine p_X1_67 C hP hD hS 0 (wP c k tp ta tk sa (en + n) (if (((10 * (mnN tp en n)) + (tp (en + n))) - 48) < 10000 then ((10 * (mnN tp en n)) + (tp (en + n))) - 48 else 10000)) rfl (Nat.le_of_ble_eq_true rfl) rfl dX1_readDigits_58 (fun H locs hP hD hS => ?_)
        refine r_aload_n C dX1_readDigits_61 rfl (lv_at hl 0 rfl) ?_
        refine r_dup C dX1_readDigits_62 rfl ?_
        refine g_X1_15 C hP 0 rfl rfl dX1_readDigits_63 ?_
        refine r_iconst C dX1_readDigits_66 ?_
        refine r_iadd C dX1_readDigits_67 ?_
        refine p_X1_15 C hP hD hS 0 (wP c k tp ta tk sa ((en + n) + 1) (if (((10 * (mnN tp en n)) + (tp (en + n))) - 48) < 10000 then ((10 * (mnN tp en n)) + (tp (en + n))) - 48 else 10000)) rfl (Nat.le_of_ble_eq_true rfl) rfl dX1_readDigits_68 (fun H locs hP hD hS => ?_)
        refine r_goto C (tgt := 5) dX1_readDigits_71 (by decide) ?_
        have ew1 : wP c k tp ta tk sa ((en + n) + 1) (if (((10 * (mnN tp en n)) + (tp (en + n))) - 48) < 10000 then ((10 * (mnN tp en n)) + (tp (en + n))) - 48 else 10000) = wP c k tp ta tk sa (en + (n + 1)) (mnN tp en (n + 1)) := (by rw [mnN, show en + ((n : Int) + 1) = en + n + 1 by omega])
        exact ihn (lt_s hJn (dg_yes (by omega) h2)) ls H locs (lv_eq (lv_sub hl [0] rfl) rfl) (va_eq hP ew1) (va_eqD hD ew1) hS
  · have hl : lv_has ls 1 [(0, .ref (c 0))] := hl
    have hP : va_P D vwCl (wP c k tp ta tk sa (en + 121) (mnN tp en 121)) H := hP
    have hD : va_D _ (wP c k tp ta tk sa (en + 121) (mnN tp en 121)) := hD
    have hJn : ∀ j : Nat, j < 121 → ¬ dgP tp ta en j := hJn
    have hmn := mnN_rg htp (f := en) (n := 121) (fun j hj => dg_tp (hJn j hj))
    exact absurd (dg_end he he1) (hJn _ (by omega))
set_option maxHeartbeats 400000 in
set_option maxRecDepth 100000 in
theorem cP_advance  (he : 0 ≤ en) (he1 : en ≤ ta) (hta : ta ≤ 120) (htp : ∀ i, 0 ≤ tp i ∧ tp i ≤ 255) : MW l yX1_advance cX1_advance 1 none 2 41 D k [.ref (c 0)] (wP c k tp ta tk sa en nm) (wP c k tp ta (tkC tp ta (adC tp ta (sa, en, nm)).1) ((adC tp ta (sa, en, nm)).1) ((adC tp ta (sa, en, nm)).2.1) ((adC tp ta (sa, en, nm)).2.2)) none := by
  refine MW.mk RX1 rfl (by decide +kernel) (Nat.le_of_ble_eq_true rfl) (fun p e U m0 below meth cd ls C hP hD hS hl => ?_)
  have hl : lv_has ls 1 [(0, .ref (c 0))] := hl
  refine r_aload_n C dX1_advance_0 rfl (lv_at hl 0 rfl) ?_
  refine r_aload_n C dX1_advance_1 rfl (lv_at hl 0 rfl) ?_
  refine g_X1_15 C hP 0 rfl rfl dX1_advance_2 ?_
  refine p_X1_26 C hP hD hS 0 (wP c k tp ta tk en en nm) rfl (Nat.le_of_ble_eq_true rfl) rfl dX1_advance_5 (fun H locs hP hD hS => ?_)
  refine r_loopWJ (fun n : Nat => [(0, .ref (c 0))]) (fun n : Nat => wP c k tp ta tk (en + n) en nm) (121) (fun n : Nat => ∀ j : Nat, j < n → ¬ skP tp ta en j) (fun j h => absurd h (Nat.not_lt_zero j)) (lv_eq (lv_sub hl [0] rfl) rfl) (va_eq hP (by rw [show en + ((0 : Nat) : Int) = en by omega])) (va_eqD hD (by rw [show en + ((0 : Nat) : Int) = en by omega])) hS (fun n hn ihn hJn ls H locs hl hP hD hS => ?_) (fun hJn ls H locs hl hP hD hS => ?_)
  · have hl : lv_has ls 1 [(0, .ref (c 0))] := hl
    have hP : va_P D vwCl (wP c k tp ta tk (en + n) en nm) H := hP
    have hD : va_D _ (wP c k tp ta tk (en + n) en nm) := hD
    have hJn : ∀ j : Nat, j < n → ¬ skP tp ta en j := hJn
    refine r_aload_n C dX1_advance_8 rfl (lv_at hl 0 rfl) ?_
    refine g_X1_26 C hP 0 rfl rfl dX1_advance_9 ?_
    refine r_aload_n C dX1_advance_12 rfl (lv_at hl 0 rfl) ?_
    refine g_X1_126 C hP 0 rfl rfl dX1_advance_13 ?_
    refine r_icmp_ge C (tgt := 46) dX1_advance_16 (by decide) (by exact ⟨by omega, by omega⟩) (by exact ⟨by omega, by omega⟩) (fun h1 => ?_) (fun h1 => ?_)
    · have hsk : skP tp ta en n := sk_hi (by omega)
      obtain ⟨f, hf⟩ : ∃ f : Int, f = tkF tp ta en := ⟨_, rfl⟩
      have ef : en + (n : Int) = f := by rw [hf, tkF, fst0_yes (p := skP tp ta en) hsk hJn (n := 121) (by omega)]
      have hfr := tkF_rg (tp := tp) he he1
      rw [← hf] at hfr
      have er7 : wP c k tp ta tk (en + n) en nm = wP c k tp ta tk f en nm := by rw [ef]
      have hP := va_eq hP er7
      have hD := va_eqD hD er7
      refine r_aload_n C dX1_advance_46 rfl (lv_at hl 0 rfl) ?_
      refine r_aload_n C dX1_advance_47 rfl (lv_at hl 0 rfl) ?_
      refine g_X1_26 C hP 0 rfl rfl dX1_advance_48 ?_
      refine p_X1_15 C hP hD hS 0 (wP c k tp ta tk f f nm) rfl (Nat.le_of_ble_eq_true rfl) rfl dX1_advance_51 (fun H locs hP hD hS => ?_)
      refine r_aload_n C dX1_advance_54 rfl (lv_at hl 0 rfl) ?_
      refine g_X1_26 C hP 0 rfl rfl dX1_advance_55 ?_
      refine r_aload_n C dX1_advance_58 rfl (lv_at hl 0 rfl) ?_
      refine g_X1_126 C hP 0 rfl rfl dX1_advance_59 ?_
      refine r_icmp_lt C (tgt := 73) dX1_advance_62 (by decide) (by exact ⟨by omega, by omega⟩) (by exact ⟨by omega, by omega⟩) (fun h2 => ?_) (fun h2 => ?_)
      · refine r_aload_n C dX1_advance_73 rfl (lv_at hl 0 rfl) ?_
        refine g_X1_9 C hP 0 rfl rfl dX1_advance_74 ?_
        refine r_aload_n C dX1_advance_77 rfl (lv_at hl 0 rfl) ?_
        refine g_X1_26 C hP 0 rfl rfl dX1_advance_78 ?_
        refine r_iald C hP 1 rfl dX1_advance_81 (by omega) (by omega) (by decide) ?_
        refine r_cSR1 C m_X1_128 (cP_isLetter (by have := htp (f); exact ⟨by omega, by omega⟩)) pn0 hl.1 dX1_advance_82 ?_
        refine r_ifB_eq C (tgt := 132) dX1_advance_85 (by decide) (fun h3 => ?_) (fun h3 => ?_)
        · refine r_aload_n C dX1_advance_132 rfl (lv_at hl 0 rfl) ?_
          refine g_X1_9 C hP 0 rfl rfl dX1_advance_133 ?_
          refine r_aload_n C dX1_advance_136 rfl (lv_at hl 0 rfl) ?_
          refine g_X1_26 C hP 0 rfl rfl dX1_advance_137 ?_
          refine r_iald C hP 1 rfl dX1_advance_140 (by omega) (by omega) (by decide) ?_
          refine r_cSR1 C m_X1_132 (cP_isDigit (by have := htp (f); exact ⟨by omega, by omega⟩)) pn0 hl.1 dX1_advance_141 ?_
          refine r_ifB_eq C (tgt := 159) dX1_advance_144 (by decide) (fun h4 => ?_) (fun h4 => ?_)
          · refine r_aload_n C dX1_advance_159 rfl (lv_at hl 0 rfl) ?_
            refine r_aload_n C dX1_advance_160 rfl (lv_at hl 0 rfl) ?_
            refine g_X1_9 C hP 0 rfl rfl dX1_advance_161 ?_
            refine r_aload_n C dX1_advance_164 rfl (lv_at hl 0 rfl) ?_
            refine g_X1_26 C hP 0 rfl rfl dX1_advance_165 ?_
            refine r_iald C hP 1 rfl dX1_advance_168 (by omega) (by omega) (by decide) ?_
            refine r_bipush C dX1_advance_169 (by decide) ?_
            refine r_icmp_ne C (tgt := 178) dX1_advance_171 (by decide) (by have := htp (f); exact ⟨by omega, by omega⟩) ⟨by decide, by decide⟩ (fun h5 => ?_) (fun h5 => ?_)
            · refine r_iconst C dX1_advance_178 ?_
              refine p_X1_29 C hP hD hS 0 (wP c k tp ta 4 f f nm) rfl (Nat.le_of_ble_eq_true rfl) rfl dX1_advance_179 (fun H locs hP hD hS => ?_)
              refine r_aload_n C dX1_advance_182 rfl (lv_at hl 0 rfl) ?_
              refine r_dup C dX1_advance_183 rfl ?_
              refine g_X1_15 C hP 0 rfl rfl dX1_advance_184 ?_
              refine r_iconst C dX1_advance_187 ?_
              refine r_iadd C dX1_advance_188 ?_
              refine p_X1_15 C hP hD hS 0 (wP c k tp ta 4 f (f + 1) nm) rfl (Nat.le_of_ble_eq_true rfl) rfl dX1_advance_189 (fun H locs hP hD hS => ?_)
              exact r_vretW C hP hS (by rw [(ad_o (sa := sa) (nm := nm) hf (by omega) h3 h4).1]; dsimp only; rw [(ad_o (sa := sa) (nm := nm) hf (by omega) h3 h4).2, if_neg h5]) dX1_advance_192
            · refine r_iconst C dX1_advance_174 ?_
              refine r_goto C (tgt := 179) dX1_advance_175 (by decide) ?_
              refine p_X1_29 C hP hD hS 0 (wP c k tp ta 3 f f nm) rfl (Nat.le_of_ble_eq_true rfl) rfl dX1_advance_179 (fun H locs hP hD hS => ?_)
              refine r_aload_n C dX1_advance_182 rfl (lv_at hl 0 rfl) ?_
              refine r_dup C dX1_advance_183 rfl ?_
              refine g_X1_15 C hP 0 rfl rfl dX1_advance_184 ?_
              refine r_iconst C dX1_advance_187 ?_
              refine r_iadd C dX1_advance_188 ?_
              refine p_X1_15 C hP hD hS 0 (wP c k tp ta 3 f (f + 1) nm) rfl (Nat.le_of_ble_eq_true rfl) rfl dX1_advance_189 (fun H locs hP hD hS => ?_)
              exact r_vretW C hP hS (by rw [(ad_o (sa := sa) (nm := nm) hf (by omega) h3 h4).1]; dsimp only; rw [(ad_o (sa := sa) (nm := nm) hf (by omega) h3 h4).2, if_pos h5]) dX1_advance_192
          · refine r_aload_n C dX1_advance_147 rfl (lv_at hl 0 rfl) ?_
            refine r_iconst C dX1_advance_148 ?_
            refine p_X1_29 C hP hD hS 0 (wP c k tp ta 2 f f nm) rfl (Nat.le_of_ble_eq_true rfl) rfl dX1_advance_149 (fun H locs hP hD hS => ?_)
            refine r_aload_n C dX1_advance_152 rfl (lv_at hl 0 rfl) ?_
            refine r_cVW0 C m_X1_135 (cP_readDigits (c := c) (tp := tp) (ta := ta) (tk := 2) (sa := f) (en := f) (nm := nm) (by omega) (by omega) (by omega) htp) hP hD hS [0, 1] (wP c k tp ta 2 f (f + ((dgE tp ta f : Nat) : Int)) (mnN tp f (dgE tp ta f))) rfl rfl rfl rfl (wP_ad.trans wP_ad.symm) rfl rfl hl.1 dX1_advance_153 (fun H locs hP hD hS => ?_)
            refine r_goto C (tgt := 192) dX1_advance_156 (by decide) ?_
            exact r_vretW C hP hS (by rw [(ad_d (sa := sa) (nm := nm) hf (by omega) (by omega) hta h4).1]; dsimp only; rw [(ad_d (sa := sa) (nm := nm) hf (by omega) (by omega) hta h4).2]) dX1_advance_192
        · refine r_aload_n C dX1_advance_88 rfl (lv_at hl 0 rfl) ?_
          refine r_iconst C dX1_advance_89 ?_
          refine p_X1_29 C hP hD hS 0 (wP c k tp ta 1 f f nm) rfl (Nat.le_of_ble_eq_true rfl) rfl dX1_advance_90 (fun H locs hP hD hS => ?_)
          refine r_loopWJ (fun d : Nat => [(0, .ref (c 0))]) (fun d : Nat => wP c k tp ta 1 f (f + d) nm) (121) (fun d : Nat => ∀ j : Nat, j < d → ¬ lgP tp ta f j) (fun j h => absurd h (Nat.not_lt_zero j)) (lv_eq (lv_sub hl [0] rfl) rfl) (va_eq hP (by rw [show f + ((0 : Nat) : Int) = f by omega])) (va_eqD hD (by rw [show f + ((0 : Nat) : Int) = f by omega])) hS (fun d hd ihd hJd ls H locs hl hP hD hS => ?_) (fun hJd ls H locs hl hP hD hS => ?_)
          · have hl : lv_has ls 1 [(0, .ref (c 0))] := hl
            have hP : va_P D vwCl (wP c k tp ta 1 f (f + d) nm) H := hP
            have hD : va_D _ (wP c k tp ta 1 f (f + d) nm) := hD
            have hJd : ∀ j : Nat, j < d → ¬ lgP tp ta f j := hJd
            refine r_aload_n C dX1_advance_93 rfl (lv_at hl 0 rfl) ?_
            refine g_X1_15 C hP 0 rfl rfl dX1_advance_94 ?_
            refine r_aload_n C dX1_advance_97 rfl (lv_at hl 0 rfl) ?_
            refine g_X1_126 C hP 0 rfl rfl dX1_advance_98 ?_
            refine r_icmp_ge C (tgt := 192) dX1_advance_101 (by decide) (by exact ⟨by omega, by omega⟩) (by exact ⟨by omega, by omega⟩) (fun h6 => ?_) (fun h6 => ?_)
            · have hlg : lgP tp ta f d := lg_hi (by omega)
              exact r_vretW C hP hS (by rw [(ad_w (sa := sa) (nm := nm) hf (by omega) h3 hJd hlg (by omega)).1]; dsimp only; rw [(ad_w (sa := sa) (nm := nm) hf (by omega) h3 hJd hlg (by omega)).2]) dX1_advance_192
            · refine r_aload_n C dX1_advance_104 rfl (lv_at hl 0 rfl) ?_
              refine g_X1_9 C hP 0 rfl rfl dX1_advance_105 ?_
              refine r_aload_n C dX1_advance_108 rfl (lv_at hl 0 rfl) ?_
              refine g_X1_15 C hP 0 rfl rfl dX1_advance_109 ?_
              refine r_iald C hP 1 rfl dX1_advance_112 (by omega) (by omega) (by decide) ?_
              refine r_cSR1 C m_X1_128 (cP_isLetter (by have := htp (f + d); exact ⟨by omega, by omega⟩)) pn0 hl.1 dX1_advance_113 ?_
              refine r_ifB_eq C (tgt := 192) dX1_advance_116 (by decide) (fun h7 => ?_) (fun h7 => ?_)
              · have hlg : lgP tp ta f d := lg_no (by omega) h7
                exact r_vretW C hP hS (by rw [(ad_w (sa := sa) (nm := nm) hf (by omega) h3 hJd hlg (by omega)).1]; dsimp only; rw [(ad_w (sa := sa) (nm := nm) hf (by omega) h3 hJd hlg (by omega)).2]) dX1_advance_192
              · refine r_aload_n C dX1_advance_119 rfl (lv_at hl 0 rfl) ?_
                refine r_dup C dX1_advance_120 rfl ?_
                refine g_X1_15 C hP 0 rfl rfl dX1_advance_121 ?_
                refine r_iconst C dX1_advance_124 ?_
                refine r_iadd C dX1_advance_125 ?_
                refine p_X1_15 C hP hD hS 0 (wP c k tp ta 1 f ((f + d) + 1) nm) rfl (Nat.le_of_ble_eq_true rfl) rfl dX1_advance_126 (fun H locs hP hD hS => ?_)
                refine r_goto C (tgt := 93) dX1_advance_129 (by decide) ?_
                have ew1 : wP c k tp ta 1 f ((f + d) + 1) nm = wP c k tp ta 1 f (f + (d + 1)) nm := (by rw [show f + ((d : Int) + 1) = f + d + 1 by omega])
                exact ihd (lt_s hJd (lg_yes (by omega) h7)) ls H locs (lv_eq (lv_sub hl [0] rfl) rfl) (va_eq hP ew1) (va_eqD hD ew1) hS
          · have hl : lv_has ls 1 [(0, .ref (c 0))] := hl
            have hP : va_P D vwCl (wP c k tp ta 1 f (f + 121) nm) H := hP
            have hD : va_D _ (wP c k tp ta 1 f (f + 121) nm) := hD
            have hJd : ∀ j : Nat, j < 121 → ¬ lgP tp ta f j := hJd
            exact absurd (lg_end (by omega) hfr.2) (hJd _ (by omega))
      · refine r_aload_n C dX1_advance_65 rfl (lv_at hl 0 rfl) ?_
        refine r_iconst C dX1_advance_66 ?_
        refine p_X1_29 C hP hD hS 0 (wP c k tp ta 0 f f nm) rfl (Nat.le_of_ble_eq_true rfl) rfl dX1_advance_67 (fun H locs hP hD hS => ?_)
        refine r_goto C (tgt := 192) dX1_advance_70 (by decide) ?_
        exact r_vretW C hP hS (by rw [(ad_end (sa := sa) (nm := nm) hf (by omega)).1]; dsimp only; rw [(ad_end (sa := sa) (nm := nm) hf (by omega)).2]) dX1_advance_192
    · refine r_aload_n C dX1_advance_19 rfl (lv_at hl 0 rfl) ?_
      refine g_X1_9 C hP 0 rfl rfl dX1_advance_20 ?_
      refine r_aload_n C dX1_advance_23 rfl (lv_at hl 0 rfl) ?_
      refine g_X1_26 C hP 0 rfl rfl dX1_advance_24 ?_
      refine r_iald C hP 1 rfl dX1_advance_27 (by omega) (by omega) (by decide) ?_
      refine r_bipush C dX1_advance_28 (by decide) ?_
      refine r_icmp_ne C (tgt := 46) dX1_advance_30 (by decide) (by have := htp (en + n); exact ⟨by omega, by omega⟩) ⟨by decide, by decide⟩ (fun h8 => ?_) (fun h8 => ?_)
      · have hsk : skP tp ta en n := sk_no (by omega) h8
        obtain ⟨f, hf⟩ : ∃ f : Int, f = tkF tp ta en := ⟨_, rfl⟩
        have ef : en + (n : Int) = f := by rw [hf, tkF, fst0_yes (p := skP tp ta en) hsk hJn (n := 121) (by omega)]
        have hfr := tkF_rg (tp := tp) he he1
        rw [← hf] at hfr
        have er7 : wP c k tp ta tk (en + n) en nm = wP c k tp ta tk f en nm := by rw [ef]
        have hP := va_eq hP er7
        have hD := va_eqD hD er7
        refine r_aload_n C dX1_advance_46 rfl (lv_at hl 0 rfl) ?_
        refine r_aload_n C dX1_advance_47 rfl (lv_at hl 0 rfl) ?_
        refine g_X1_26 C hP 0 rfl rfl dX1_advance_48 ?_
        refine p_X1_15 C hP hD hS 0 (wP c k tp ta tk f f nm) rfl (Nat.le_of_ble_eq_true rfl) rfl dX1_advance_51 (fun H locs hP hD hS => ?_)
        refine r_aload_n C dX1_advance_54 rfl (lv_at hl 0 rfl) ?_
        refine g_X1_26 C hP 0 rfl rfl dX1_advance_55 ?_
        refine r_aload_n C dX1_advance_58 rfl (lv_at hl 0 rfl) ?_
        refine g_X1_126 C hP 0 rfl rfl dX1_advance_59 ?_
        refine r_icmp_lt C (tgt := 73) dX1_advance_62 (by decide) (by exact ⟨by omega, by omega⟩) (by exact ⟨by omega, by omega⟩) (fun h9 => ?_) (fun h9 => ?_)
        · refine r_aload_n C dX1_advance_73 rfl (lv_at hl 0 rfl) ?_
          refine g_X1_9 C hP 0 rfl rfl dX1_advance_74 ?_
          refine r_aload_n C dX1_advance_77 rfl (lv_at hl 0 rfl) ?_
          refine g_X1_26 C hP 0 rfl rfl dX1_advance_78 ?_
          refine r_iald C hP 1 rfl dX1_advance_81 (by omega) (by omega) (by decide) ?_
          refine r_cSR1 C m_X1_128 (cP_isLetter (by have := htp (f); exact ⟨by omega, by omega⟩)) pn0 hl.1 dX1_advance_82 ?_
          refine r_ifB_eq C (tgt := 132) dX1_advance_85 (by decide) (fun h10 => ?_) (fun h10 => ?_)
          · refine r_aload_n C dX1_advance_132 rfl (lv_at hl 0 rfl) ?_
            refine g_X1_9 C hP 0 rfl rfl dX1_advance_133 ?_
            refine r_aload_n C dX1_advance_136 rfl (lv_at hl 0 rfl) ?_
            refine g_X1_26 C hP 0 rfl rfl dX1_advance_137 ?_
            refine r_iald C hP 1 rfl dX1_advance_140 (by omega) (by omega) (by decide) ?_
            refine r_cSR1 C m_X1_132 (cP_isDigit (by have := htp (f); exact ⟨by omega, by omega⟩)) pn0 hl.1 dX1_advance_141 ?_
            refine r_ifB_eq C (tgt := 159) dX1_advance_144 (by decide) (fun h11 => ?_) (fun h11 => ?_)
            · refine r_aload_n C dX1_advance_159 rfl (lv_at hl 0 rfl) ?_
              refine r_aload_n C dX1_advance_160 rfl (lv_at hl 0 rfl) ?_
              refine g_X1_9 C hP 0 rfl rfl dX1_advance_161 ?_
              refine r_aload_n C dX1_advance_164 rfl (lv_at hl 0 rfl) ?_
              refine g_X1_26 C hP 0 rfl rfl dX1_advance_165 ?_
              refine r_iald C hP 1 rfl dX1_advance_168 (by omega) (by omega) (by decide) ?_
              refine r_bipush C dX1_advance_169 (by decide) ?_
              refine r_icmp_ne C (tgt := 178) dX1_advance_171 (by decide) (by have := htp (f); exact ⟨by omega, by omega⟩) ⟨by decide, by decide⟩ (fun h12 => ?_) (fun h12 => ?_)
              · refine r_iconst C dX1_advance_178 ?_
                refine p_X1_29 C hP hD hS 0 (wP c k tp ta 4 f f nm) rfl (Nat.le_of_ble_eq_true rfl) rfl dX1_advance_179 (fun H locs hP hD hS => ?_)
                refine r_aload_n C dX1_advance_182 rfl (lv_at hl 0 rfl) ?_
                refine r_dup C dX1_advance_183 rfl ?_
                refine g_X1_15 C hP 0 rfl rfl dX1_advance_184 ?_
                refine r_iconst C dX1_advance_187 ?_
                refine r_iadd C dX1_advance_188 ?_
                refine p_X1_15 C hP hD hS 0 (wP c k tp ta 4 f (f + 1) nm) rfl (Nat.le_of_ble_eq_true rfl) rfl dX1_advance_189 (fun H locs hP hD hS => ?_)
                exact r_vretW C hP hS (by rw [(ad_o (sa := sa) (nm := nm) hf (by omega) h10 h11).1]; dsimp only; rw [(ad_o (sa := sa) (nm := nm) hf (by omega) h10 h11).2, if_neg h12]) dX1_advance_192
              · refine r_iconst C dX1_advance_174 ?_
                refine r_goto C (tgt := 179) dX1_advance_175 (by decide) ?_
                refine p_X1_29 C hP hD hS 0 (wP c k tp ta 3 f f nm) rfl (Nat.le_of_ble_eq_true rfl) rfl dX1_advance_179 (fun H locs hP hD hS => ?_)
                refine r_aload_n C dX1_advance_182 rfl (lv_at hl 0 rfl) ?_
                refine r_dup C dX1_advance_183 rfl ?_
                refine g_X1_15 C hP 0 rfl rfl dX1_advance_184 ?_
                refine r_iconst C dX1_advance_187 ?_
                refine r_iadd C dX1_advance_188 ?_
                refine p_X1_15 C hP hD hS 0 (wP c k tp ta 3 f (f + 1) nm) rfl (Nat.le_of_ble_eq_true rfl) rfl dX1_advance_189 (fun H locs hP hD hS => ?_)
                exact r_vretW C hP hS (by rw [(ad_o (sa := sa) (nm := nm) hf (by omega) h10 h11).1]; dsimp only; rw [(ad_o (sa := sa) (nm := nm) hf (by omega) h10 h11).2, if_pos h12]) dX1_advance_192
            · refine r_aload_n C dX1_advance_147 rfl (lv_at hl 0 rfl) ?_
              refine r_iconst C dX1_advance_148 ?_
              refine p_X1_29 C hP hD hS 0 (wP c k tp ta 2 f f nm) rfl (Nat.le_of_ble_eq_true rfl) rfl dX1_advance_149 (fun H locs hP hD hS => ?_)
              refine r_aload_n C dX1_advance_152 rfl (lv_at hl 0 rfl) ?_
              refine r_cVW0 C m_X1_135 (cP_readDigits (c := c) (tp := tp) (ta := ta) (tk := 2) (sa := f) (en := f) (nm := nm) (by omega) (by omega) (by omega) htp) hP hD hS [0, 1] (wP c k tp ta 2 f (f + ((dgE tp ta f : Nat) : Int)) (mnN tp f (dgE tp ta f))) rfl rfl rfl rfl (wP_ad.trans wP_ad.symm) rfl rfl hl.1 dX1_advance_153 (fun H locs hP hD hS => ?_)
              refine r_goto C (tgt := 192) dX1_advance_156 (by decide) ?_
              exact r_vretW C hP hS (by rw [(ad_d (sa := sa) (nm := nm) hf (by omega) (by omega) hta h11).1]; dsimp only; rw [(ad_d (sa := sa) (nm := nm) hf (by omega) (by omega) hta h11).2]) dX1_advance_192
          · refine r_aload_n C dX1_advance_88 rfl (lv_at hl 0 rfl) ?_
            refine r_iconst C dX1_advance_89 ?_
            refine p_X1_29 C hP hD hS 0 (wP c k tp ta 1 f f nm) rfl (Nat.le_of_ble_eq_true rfl) rfl dX1_advance_90 (fun H locs hP hD hS => ?_)
            refine r_loopWJ (fun d : Nat => [(0, .ref (c 0))]) (fun d : Nat => wP c k tp ta 1 f (f + d) nm) (121) (fun d : Nat => ∀ j : Nat, j < d → ¬ lgP tp ta f j) (fun j h => absurd h (Nat.not_lt_zero j)) (lv_eq (lv_sub hl [0] rfl) rfl) (va_eq hP (by rw [show f + ((0 : Nat) : Int) = f by omega])) (va_eqD hD (by rw [show f + ((0 : Nat) : Int) = f by omega])) hS (fun d hd ihd hJd ls H locs hl hP hD hS => ?_) (fun hJd ls H locs hl hP hD hS => ?_)
            · have hl : lv_has ls 1 [(0, .ref (c 0))] := hl
              have hP : va_P D vwCl (wP c k tp ta 1 f (f + d) nm) H := hP
              have hD : va_D _ (wP c k tp ta 1 f (f + d) nm) := hD
              have hJd : ∀ j : Nat, j < d → ¬ lgP tp ta f j := hJd
              refine r_aload_n C dX1_advance_93 rfl (lv_at hl 0 rfl) ?_
              refine g_X1_15 C hP 0 rfl rfl dX1_advance_94 ?_
              refine r_aload_n C dX1_advance_97 rfl (lv_at hl 0 rfl) ?_
              refine g_X1_126 C hP 0 rfl rfl dX1_advance_98 ?_
              refine r_icmp_ge C (tgt := 192) dX1_advance_101 (by decide) (by exact ⟨by omega, by omega⟩) (by exact ⟨by omega, by omega⟩) (fun h13 => ?_) (fun h13 => ?_)
              · have hlg : lgP tp ta f d := lg_hi (by omega)
                exact r_vretW C hP hS (by rw [(ad_w (sa := sa) (nm := nm) hf (by omega) h10 hJd hlg (by omega)).1]; dsimp only; rw [(ad_w (sa := sa) (nm := nm) hf (by omega) h10 hJd hlg (by omega)).2]) dX1_advance_192
              · refine r_aload_n C dX1_advance_104 rfl (lv_at hl 0 rfl) ?_
                refine g_X1_9 C hP 0 rfl rfl dX1_advance_105 ?_
                refine r_aload_n C dX1_advance_108 rfl (lv_at hl 0 rfl) ?_
                refine g_X1_15 C hP 0 rfl rfl dX1_advance_109 ?_
                refine r_iald C hP 1 rfl dX1_advance_112 (by omega) (by omega) (by decide) ?_
                refine r_cSR1 C m_X1_128 (cP_isLetter (by have := htp (f + d); exact ⟨by omega, by omega⟩)) pn0 hl.1 dX1_advance_113 ?_
                refine r_ifB_eq C (tgt := 192) dX1_advance_116 (by decide) (fun h14 => ?_) (fun h14 => ?_)
                · have hlg : lgP tp ta f d := lg_no (by omega) h14
                  exact r_vretW C hP hS (by rw [(ad_w (sa := sa) (nm := nm) hf (by omega) h10 hJd hlg (by omega)).1]; dsimp only; rw [(ad_w (sa := sa) (nm := nm) hf (by omega) h10 hJd hlg (by omega)).2]) dX1_advance_192
                · refine r_aload_n C dX1_advance_119 rfl (lv_at hl 0 rfl) ?_
                  refine r_dup C dX1_advance_120 rfl ?_
                  refine g_X1_15 C hP 0 rfl rfl dX1_advance_121 ?_
                  refine r_iconst C dX1_advance_124 ?_
                  refine r_iadd C dX1_advance_125 ?_
                  refine p_X1_15 C hP hD hS 0 (wP c k tp ta 1 f ((f + d) + 1) nm) rfl (Nat.le_of_ble_eq_true rfl) rfl dX1_advance_126 (fun H locs hP hD hS => ?_)
                  refine r_goto C (tgt := 93) dX1_advance_129 (by decide) ?_
                  have ew2 : wP c k tp ta 1 f ((f + d) + 1) nm = wP c k tp ta 1 f (f + (d + 1)) nm := (by rw [show f + ((d : Int) + 1) = f + d + 1 by omega])
                  exact ihd (lt_s hJd (lg_yes (by omega) h14)) ls H locs (lv_eq (lv_sub hl [0] rfl) rfl) (va_eq hP ew2) (va_eqD hD ew2) hS
            · have hl : lv_has ls 1 [(0, .ref (c 0))] := hl
              have hP : va_P D vwCl (wP c k tp ta 1 f (f + 121) nm) H := hP
              have hD : va_D _ (wP c k tp ta 1 f (f + 121) nm) := hD
              have hJd : ∀ j : Nat, j < 121 → ¬ lgP tp ta f j := hJd
              exact absurd (lg_end (by omega) hfr.2) (hJd _ (by omega))
        · refine r_aload_n C dX1_advance_65 rfl (lv_at hl 0 rfl) ?_
          refine r_iconst C dX1_advance_66 ?_
          refine p_X1_29 C hP hD hS 0 (wP c k tp ta 0 f f nm) rfl (Nat.le_of_ble_eq_true rfl) rfl dX1_advance_67 (fun H locs hP hD hS => ?_)
          refine r_goto C (tgt := 192) dX1_advance_70 (by decide) ?_
          exact r_vretW C hP hS (by rw [(ad_end (sa := sa) (nm := nm) hf (by omega)).1]; dsimp only; rw [(ad_end (sa := sa) (nm := nm) hf (by omega)).2]) dX1_advance_192
      · refine r_aload_n C dX1_advance_33 rfl (lv_at hl 0 rfl) ?_
        refine r_dup C dX1_advance_34 rfl ?_
        refine g_X1_26 C hP 0 rfl rfl dX1_advance_35 ?_
        refine r_iconst C dX1_advance_38 ?_
        refine r_iadd C dX1_advance_39 ?_
        refine p_X1_26 C hP hD hS 0 (wP c k tp ta tk ((en + n) + 1) en nm) rfl (Nat.le_of_ble_eq_true rfl) rfl dX1_advance_40 (fun H locs hP hD hS => ?_)
        refine r_goto C (tgt := 8) dX1_advance_43 (by decide) ?_
        have ew3 : wP c k tp ta tk ((en + n) + 1) en nm = wP c k tp ta tk (en + (n + 1)) en nm := (by rw [show en + ((n : Int) + 1) = en + n + 1 by omega])
        exact ihn (lt_s hJn (sk_yes (by omega) h8)) ls H locs (lv_eq (lv_sub hl [0] rfl) rfl) (va_eq hP ew3) (va_eqD hD ew3) hS
  · have hl : lv_has ls 1 [(0, .ref (c 0))] := hl
    have hP : va_P D vwCl (wP c k tp ta tk (en + 121) en nm) H := hP
    have hD : va_D _ (wP c k tp ta tk (en + 121) en nm) := hD
    have hJn : ∀ j : Nat, j < 121 → ¬ skP tp ta en j := hJn
    exact absurd (sk_end he he1) (hJn _ (by omega))
end CLASS
