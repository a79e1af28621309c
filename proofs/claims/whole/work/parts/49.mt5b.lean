section CLASS
variable {l : Launch} {D : va_G} {k : Nat → ClassId} {a c : Nat → Nat} {s t kq tp bi si st : Int → Int} {wr tw kw : Int64} {y ty ky ta tk sa en nm ik bt sz : Int} {nu nf : Int → Int64}
section RZE
variable {p : Program} {l : Launch} {e : Env} {R : Room} {s : State} {m : MethodId} {args : Array Value} {below : List Frame} {meth : Method} {c : Code} {H : Heap} {locs : List Loc} {X : Type}
variable {cc : ByteArray} {nL : Nat} {own : String} {rt : Option FieldType} {D : va_G} {k : Nat → ClassId} {pc : Nat} {ls : Array Slot} {w : va_W}
theorem r_zretE (C : Cx p s m args meth c cc nL own (some .boolean) D k) {w0 : va_W} {w' : X → va_W} {x : Int32} {P : Prop} [Decidable P] (hP : va_P D vwCl w H) (hS : va_S (Ad w0) s.heap H locs) (z : X) (hw : w = w' z) (h : x = iB P) (hd : decode cc pc = .ok (.ireturn, 1)) : W p l e R s m args below meth c H locs 0 0 (MQ below (qE D w0 w' (some (.int (iB P)))) args s 0 0 (Ad w0)) (F0 m pc ls [.int x]) := by
  subst h; subst hw
  exact W.zret C.1.1 C.1.2.1 C.2.2.1 (nar_b P) (fun t ht _ => ⟨rfl, ⟨z, by rw [ht]; exact hP⟩, hS.F ht⟩) hS.2.2 hd C.2.2.2
end RZE
set_option maxHeartbeats 400000 in
set_option maxRecDepth 100000 in
theorem cT_lays {sh : Int} (zsh : In32 sh) (hs : Ok s) (hbi : ∀ i, 0 ≤ bi i ∧ bi i ≤ 64) (hsi : ∀ i, 0 ≤ si i ∧ si i ≤ 40) : ME l yX3_lays cX3_lays 7 (some .int) 2 42 D k [.ref (a 0), .int (iI sh)] (wT a k s (lB (wrF s)) y t tw ty kq (lB (wrF kq)) ky tp ta tk sa en nm bi si nu st ik) (fun x : (Int → Int) × Int64 × Int × Int × Int × Int => wT a k ((fLays s st bi si nu sh).2.1) (lB (wrF ((fLays s st bi si nu sh).2.1))) y x.1 x.2.1 x.2.2.1 kq (lB (wrF kq)) ky tp ta x.2.2.2.1 x.2.2.2.2.1 x.2.2.2.2.2 nm bi si nu ((fLays s st bi si nu sh).2.2) ik) (some (.int (iI ((fLays s st bi si nu sh).1)))) := by
  refine ME.mk RX3 rfl (by decide +kernel) (Nat.le_of_ble_eq_true rfl) (fun p e U m0 below meth cd ls C hP hD hS hl => ?_)
  have hl : lv_has ls 7 [(0, .ref (a 0)), (1, .int (iI sh))] := hl
  have zsh1 := zsh.1
  have zsh2 := zsh.2
  have h00 := hs.1 0 (by decide)
  have h06 := hs.2.2.1
  have h98 := hsi sh
  refine r_iload_n C dX3_lays_0 rfl (lv_at hl 1 rfl) ?_
  refine r_cSR1 C m_X3_189 (cT_noSheet (by exact ⟨by omega, by omega⟩)) pn0 hl.1 dX3_lays_1 ?_
  refine r_ifB_eq C (tgt := 14) dX3_lays_4 (by decide) (fun h1 => ?_) (fun h1 => ?_)
  · have h1 := Classical.not_not.mp h1
    refine r_aload_n C dX3_lays_14 rfl (lv_at hl 0 rfl) ?_
    refine g_X3_31 C hP 0 rfl rfl dX3_lays_15 ?_
    refine r_iload_n C dX3_lays_18 rfl (lv_at hl 1 rfl) ?_
    refine r_aaldS C hP 24 (a := a) rfl dX3_lays_19 (by omega) (by omega) ?_
    refine r_astore_n C [(2, .ref (a (25 + 2 * sh.toNat))), (0, .ref (a 0)), (1, .int (iI sh))] dX3_lays_20 rfl hl (by decide) rfl (fun ls hl => ?_)
    refine r_aload_n C dX3_lays_21 rfl (lv_at hl 0 rfl) ?_
    refine r_cVR0 C m_X3_199 (cS_isMissing (c := fun i => a (25 + 2 * sh.toNat + i)) (nf := shF nu sh) (bt := bi sh) (sz := si sh) (by have := hbi sh; omega) (by have := hbi sh; omega)) (hp_T_nu (by omega) (by omega) hP) rfl rfl hl.1 dX3_lays_22 ?_
    refine r_ifB_eq C (tgt := 35) dX3_lays_25 (by decide) (fun h2 => ?_) (fun h2 => ?_)
    · refine r_iconst C dX3_lays_35 ?_
      refine r_istore_n C [(3, .int (iI 0)), (2, .ref (a (25 + 2 * sh.toNat))), (0, .ref (a 0)), (1, .int (iI sh))] dX3_lays_36 rfl hl (by decide) rfl (fun ls hl => ?_)
      refine r_iconst C dX3_lays_37 ?_
      refine r_istore C [(4, .int (iI 0)), (3, .int (iI 0)), (2, .ref (a (25 + 2 * sh.toNat))), (0, .ref (a 0)), (1, .int (iI sh))] dX3_lays_38 hl (by decide) rfl (fun ls hl => ?_)
      refine r_loopW (fun n : Nat => [(0, .ref (a 0)), (1, .int (iI sh)), (2, .ref (a (25 + 2 * sh.toNat))), (3, .int (iI (lyN nu sh n))), (4, .int (iI n))]) (fun n : Nat => wT a k (lyS s nu sh n) (lB (wrF (lyS s nu sh n))) y t tw ty kq (lB (wrF kq)) ky tp ta tk sa en nm bi si nu st ik) ((si sh).toNat) (lv_eq (lv_sub hl [3, 4, 2, 1, 0] rfl) rfl) (va_eq hP rfl) (va_eqD hD rfl) hS (fun n hn ihn ls H locs hl hP hD hS => ?_) (fun ls H locs hl hP hD hS => ?_)
      · have hl : lv_has ls 7 [(0, .ref (a 0)), (1, .int (iI sh)), (2, .ref (a (25 + 2 * sh.toNat))), (3, .int (iI (lyN nu sh n))), (4, .int (iI n))] := hl
        have hP : va_P D vwCl (wT a k (lyS s nu sh n) (lB (wrF (lyS s nu sh n))) y t tw ty kq (lB (wrF kq)) ky tp ta tk sa en nm bi si nu st ik) H := hP
        have hD : va_D _ (wT a k (lyS s nu sh n) (lB (wrF (lyS s nu sh n))) y t tw ty kq (lB (wrF kq)) ky tp ta tk sa en nm bi si nu st ik) := hD
        have hsl : Ok (lyS s nu sh n) := ok_lyS hs nu sh n (by omega)
        refine r_iload C dX3_lays_40 (lv_at hl 4 rfl) ?_
        refine r_aload_n C dX3_lays_42 rfl (lv_at hl 2 rfl) ?_
        refine g_X3_196 C hP (25 + 2 * sh.toNat) (wT_sh (by omega) (by omega)) rfl dX3_lays_43 ?_
        refine r_icmp_ge C (tgt := 97) dX3_lays_46 (by decide) (by exact ⟨by omega, by omega⟩) (by have := hsi sh; exact ⟨by omega, by omega⟩) (fun h3 => ?_) (fun h3 => ?_)
        · exfalso; omega
        · refine r_aload_n C dX3_lays_49 rfl (lv_at hl 2 rfl) ?_
          refine g_X3_214 C hP (25 + 2 * sh.toNat) (wT_sh (by omega) (by omega)) rfl dX3_lays_50 ?_
          refine r_iload C dX3_lays_53 (lv_at hl 4 rfl) ?_
          refine r_laldV C hP (26 + 2 * sh.toNat) (nu (40 * sh + n)) (wT_nu (by omega) (by omega)) dX3_lays_55 (by omega) (by omega) (by decide) (sh_at (by omega) (by omega)) ?_
          refine r_lstore C [(5, .long (lI ((nu (40 * sh + n)).toInt))), (0, .ref (a 0)), (1, .int (iI sh)), (2, .ref (a (25 + 2 * sh.toNat))), (3, .int (iI (lyN nu sh n))), (4, .int (iI n))] dX3_lays_56 hl (by decide) rfl (fun ls hl => ?_)
          refine r_lload C dX3_lays_58 (lv_at hl 0 rfl) ?_
          refine r_lconst C (z := 0) dX3_lays_60 (by decide) ?_
          refine r_lcmp_lt C (tgt := 91) dX3_lays_61 dX3_lays_62 (by decide) (by have := in64_rg (nu (40 * sh + n)); exact ⟨by omega, by omega⟩) ⟨by decide, by decide⟩ (fun h4 => ?_) (fun h4 => ?_)
          · refine r_iinc C 5 [(4, .int (iI (n + 1))), (5, .long (lI ((nu (40 * sh + n)).toInt))), (0, .ref (a 0)), (1, .int (iI sh)), (2, .ref (a (25 + 2 * sh.toNat))), (3, .int (iI (lyN nu sh n)))] dX3_lays_91 hl rfl (by decide) rfl (fun ls hl => ?_)
            refine r_goto C (tgt := 40) dX3_lays_94 (by decide) ?_
            have ew1 : wT a k (lyS s nu sh n) (lB (wrF (lyS s nu sh n))) y t tw ty kq (lB (wrF kq)) ky tp ta tk sa en nm bi si nu st ik = wT a k (lyS s nu sh (n + 1)) (lB (wrF (lyS s nu sh (n + 1)))) y t tw ty kq (lB (wrF kq)) ky tp ta tk sa en nm bi si nu st ik := (by rw [lyS, if_neg (show ¬ (0 ≤ (nu (40 * sh + n)).toInt ∧ (nu (40 * sh + n)).toInt ≤ 5) by omega), up_self])
            exact ihn ls H locs (lv_eq (lv_sub hl [2, 3, 4, 5, 0] rfl) (by rw [lyN, if_neg (show ¬ (0 ≤ (nu (40 * sh + n)).toInt ∧ (nu (40 * sh + n)).toInt ≤ 5) by omega), Int.add_zero]; rfl)) (va_eq hP ew1) (va_eqD hD ew1) hS
          · refine r_lload C dX3_lays_65 (lv_at hl 0 rfl) ?_
            refine r_ldc2 C (6) kl_X3_224 (by decide) dX3_lays_67 ?_
            refine r_lcmp_ge C (tgt := 91) dX3_lays_70 dX3_lays_71 (by decide) (by have := in64_rg (nu (40 * sh + n)); exact ⟨by omega, by omega⟩) ⟨by decide, by decide⟩ (fun h5 => ?_) (fun h5 => ?_)
            · refine r_iinc C 5 [(4, .int (iI (n + 1))), (5, .long (lI ((nu (40 * sh + n)).toInt))), (0, .ref (a 0)), (1, .int (iI sh)), (2, .ref (a (25 + 2 * sh.toNat))), (3, .int (iI (lyN nu sh n)))] dX3_lays_91 hl rfl (by decide) rfl (fun ls hl => ?_)
              refine r_goto C (tgt := 40) dX3_lays_94 (by decide) ?_
              have ew2 : wT a k (lyS s nu sh n) (lB (wrF (lyS s nu sh n))) y t tw ty kq (lB (wrF kq)) ky tp ta tk sa en nm bi si nu st ik = wT a k (lyS s nu sh (n + 1)) (lB (wrF (lyS s nu sh (n + 1)))) y t tw ty kq (lB (wrF kq)) ky tp ta tk sa en nm bi si nu st ik := (by rw [lyS, if_neg (show ¬ (0 ≤ (nu (40 * sh + n)).toInt ∧ (nu (40 * sh + n)).toInt ≤ 5) by omega), up_self])
              exact ihn ls H locs (lv_eq (lv_sub hl [2, 3, 4, 5, 0] rfl) (by rw [lyN, if_neg (show ¬ (0 ≤ (nu (40 * sh + n)).toInt ∧ (nu (40 * sh + n)).toInt ≤ 5) by omega), Int.add_zero]; rfl)) (va_eq hP ew2) (va_eqD hD ew2) hS
            · refine r_aload_n C dX3_lays_74 rfl (lv_at hl 1 rfl) ?_
              refine g_X3_10 C hP 0 rfl rfl dX3_lays_75 ?_
              refine r_iconst C dX3_lays_78 ?_
              refine r_iload C dX3_lays_79 (lv_at hl 5 rfl) ?_
              refine r_lload C dX3_lays_81 (lv_at hl 0 rfl) ?_
              refine r_l2i C dX3_lays_83 ?_
              refine r_cVW3 C m_X3_53 (cW_paint1 (b := (fun i => a (1 + i))) (s := lyS s nu sh n) (y := y) (by omega) (by omega) (by have := in64_rg (nu (40 * sh + n)); omega) (by have := in64_rg (nu (40 * sh + n)); omega) hsl) hP hD hS [1, 2, 3, 4, 5, 6, 7] (wT a k (up (lyS s nu sh n) (51 + n) ((nu (40 * sh + n)).toInt)) (lB (wrF (up (lyS s nu sh n) (51 + n) ((nu (40 * sh + n)).toInt)))) y t tw ty kq (lB (wrF kq)) ky tp ta tk sa en nm bi si nu st ik) rfl lc_T_s rfl lp_T_s (wT_ad.trans wT_ad.symm) rfl rfl hl.1 dX3_lays_84 (fun H locs hP hD hS => ?_)
              have hs3 : Ok (up (lyS s nu sh n) (51 + n) ((nu (40 * sh + n)).toInt)) := ok_up hsl ⟨by have := in64_rg (nu (40 * sh + n)); omega, by have := in64_rg (nu (40 * sh + n)); omega⟩ ⟨by have := in64_rg (nu (40 * sh + n)); omega, by have := in64_rg (nu (40 * sh + n)); omega⟩ (fun _ => by have := in64_rg (nu (40 * sh + n)); omega) (fun _ _ _ _ => by have := in64_rg (nu (40 * sh + n)); omega)
              refine r_pop C dX3_lays_87 rfl ?_
              refine r_iinc C 4 [(3, .int (iI (lyN nu sh n + 1))), (5, .long (lI ((nu (40 * sh + n)).toInt))), (0, .ref (a 0)), (1, .int (iI sh)), (2, .ref (a (25 + 2 * sh.toNat))), (4, .int (iI n))] dX3_lays_88 hl rfl (by decide) rfl (fun ls hl => ?_)
              refine r_iinc C 5 [(4, .int (iI (n + 1))), (3, .int (iI (lyN nu sh n + 1))), (5, .long (lI ((nu (40 * sh + n)).toInt))), (0, .ref (a 0)), (1, .int (iI sh)), (2, .ref (a (25 + 2 * sh.toNat)))] dX3_lays_91 hl rfl (by decide) rfl (fun ls hl => ?_)
              refine r_goto C (tgt := 40) dX3_lays_94 (by decide) ?_
              have ew4 : wT a k (up (lyS s nu sh n) (51 + n) ((nu (40 * sh + n)).toInt)) (lB (wrF (up (lyS s nu sh n) (51 + n) ((nu (40 * sh + n)).toInt)))) y t tw ty kq (lB (wrF kq)) ky tp ta tk sa en nm bi si nu st ik = wT a k (lyS s nu sh (n + 1)) (lB (wrF (lyS s nu sh (n + 1)))) y t tw ty kq (lB (wrF kq)) ky tp ta tk sa en nm bi si nu st ik := (by rw [lyS, if_pos (show 0 ≤ (nu (40 * sh + n)).toInt ∧ (nu (40 * sh + n)).toInt ≤ 5 by omega)])
              exact ihn ls H locs (lv_eq (lv_sub hl [3, 4, 5, 1, 0] rfl) (by rw [lyN, if_pos (show 0 ≤ (nu (40 * sh + n)).toInt ∧ (nu (40 * sh + n)).toInt ≤ 5 by omega)]; rfl)) (va_eq hP ew4) (va_eqD hD ew4) hS
      · have hl : lv_has ls 7 [(0, .ref (a 0)), (1, .int (iI sh)), (2, .ref (a (25 + 2 * sh.toNat))), (3, .int (iI (lyN nu sh (si sh).toNat))), (4, .int (iI ((si sh).toNat)))] := hl
        have hP : va_P D vwCl (wT a k (lyS s nu sh (si sh).toNat) (lB (wrF (lyS s nu sh (si sh).toNat))) y t tw ty kq (lB (wrF kq)) ky tp ta tk sa en nm bi si nu st ik) H := hP
        have hD : va_D _ (wT a k (lyS s nu sh (si sh).toNat) (lB (wrF (lyS s nu sh (si sh).toNat))) y t tw ty kq (lB (wrF kq)) ky tp ta tk sa en nm bi si nu st ik) := hD
        have hsl : Ok (lyS s nu sh (si sh).toNat) := ok_lyS hs nu sh ((si sh).toNat) (by omega)
        refine r_iload C dX3_lays_40 (lv_at hl 4 rfl) ?_
        refine r_aload_n C dX3_lays_42 rfl (lv_at hl 2 rfl) ?_
        refine g_X3_196 C hP (25 + 2 * sh.toNat) (wT_sh (by omega) (by omega)) rfl dX3_lays_43 ?_
        refine r_icmp_ge C (tgt := 97) dX3_lays_46 (by decide) (by have := hsi sh; exact ⟨by omega, by omega⟩) (by have := hsi sh; exact ⟨by omega, by omega⟩) (fun h6 => ?_) (fun h6 => ?_)
        · refine r_iload_n C dX3_lays_97 rfl (lv_at hl 3 rfl) ?_
          exact r_iretE C hP hS (t, tw, ty, tk, sa, en) (by first | (simp only [fLays, wsh, fD, fV, h1, h2, h6, not_true_eq_false, not_false_eq_true, and_true, true_and, and_false, false_and, or_true, true_or, or_false, false_or, if_true, if_false, ne_eq, reduceIte, show ¬ (-1000000006 : Int) = 0 by decide, show ¬ (-1000000001 : Int) = 0 by decide, eq_self]; done) | (exfalso; omega)) (by first | (simp only [fLays, wsh, fD, fV, h1, h2, h6, not_true_eq_false, not_false_eq_true, and_true, true_and, and_false, false_and, or_true, true_or, or_false, false_or, if_true, if_false, ne_eq, reduceIte, show ¬ (-1000000006 : Int) = 0 by decide, show ¬ (-1000000001 : Int) = 0 by decide, eq_self]; done) | (exfalso; omega)) dX3_lays_98
        · exfalso; omega
    · refine r_aload_n C dX3_lays_28 rfl (lv_at hl 1 rfl) ?_
      refine r_ldc C (-1000000006) ki_X3_203 (by decide) dX3_lays_29 ?_
      refine r_cVWA1 C m_X3_49 (cT_finding (by omega) (by omega)) hP hD hS (wT_ad.trans wT_ad.symm) rfl rfl hl.1 dX3_lays_31 (fun H locs hP hD hS => ?_)
      exact r_iretE C hP hS (t, tw, ty, tk, sa, en) (by first | (simp only [fLays, wsh, fD, fV, h1, h2, not_true_eq_false, not_false_eq_true, and_true, true_and, and_false, false_and, or_true, true_or, or_false, false_or, if_true, if_false, ne_eq, reduceIte, show ¬ (-1000000006 : Int) = 0 by decide, show ¬ (-1000000001 : Int) = 0 by decide, eq_self]; done) | (exfalso; omega)) (by first | (simp only [fLays, wsh, fD, fV, h1, h2, not_true_eq_false, not_false_eq_true, and_true, true_and, and_false, false_and, or_true, true_or, or_false, false_or, if_true, if_false, ne_eq, reduceIte, show ¬ (-1000000006 : Int) = 0 by decide, show ¬ (-1000000001 : Int) = 0 by decide, eq_self]; done) | (exfalso; omega)) dX3_lays_34
  · refine r_aload_n C dX3_lays_7 rfl (lv_at hl 0 rfl) ?_
    refine r_ldc C (-1000000001) ki_X3_48 (by decide) dX3_lays_8 ?_
    refine r_cVWA1 C m_X3_49 (cT_finding (by omega) (by omega)) hP hD hS (wT_ad.trans wT_ad.symm) rfl rfl hl.1 dX3_lays_10 (fun H locs hP hD hS => ?_)
    exact r_iretE C hP hS (t, tw, ty, tk, sa, en) (by first | (simp only [fLays, wsh, fD, fV, h1, not_true_eq_false, not_false_eq_true, and_true, true_and, and_false, false_and, or_true, true_or, or_false, false_or, if_true, if_false, ne_eq, reduceIte, show ¬ (-1000000006 : Int) = 0 by decide, show ¬ (-1000000001 : Int) = 0 by decide, eq_self]; done) | (exfalso; omega)) (by first | (simp only [fLays, wsh, fD, fV, h1, not_true_eq_false, not_false_eq_true, and_true, true_and, and_false, false_and, or_true, true_or, or_false, false_or, if_true, if_false, ne_eq, reduceIte, show ¬ (-1000000006 : Int) = 0 by decide, show ¬ (-1000000001 : Int) = 0 by decide, eq_self]; done) | (exfalso; omega)) dX3_lays_13
set_option maxHeartbeats 400000 in
set_option maxRecDepth 100000 in
theorem cT_book {sh : Int} (zsh : In32 sh) (hs : Ok s) (hbi : ∀ i, 0 ≤ bi i ∧ bi i ≤ 64) (hsi : ∀ i, 0 ≤ si i ∧ si i ≤ 40) : ME l yX3_book cX3_book 4 (some .int) 6 138 D k [.ref (a 0), .int (iI sh)] (wT a k s (lB (wrF s)) y t tw ty kq (lB (wrF kq)) ky tp ta tk sa en nm bi si nu st ik) (fun x : (Int → Int) × Int64 × Int × Int × Int × Int => wT a k s (lB (wrF s)) y x.1 x.2.1 x.2.2.1 kq (lB (wrF kq)) ky tp ta x.2.2.2.1 x.2.2.2.2.1 x.2.2.2.2.2 nm bi si ((fBook s st bi si nu sh).2.2) ((fBook s st bi si nu sh).2.1) ik) (some (.int (iI ((fBook s st bi si nu sh).1)))) := by
  refine ME.mk RX3 rfl (by decide +kernel) (Nat.le_of_ble_eq_true rfl) (fun p e U m0 below meth cd ls C hP hD hS hl => ?_)
  have hl : lv_has ls 4 [(0, .ref (a 0)), (1, .int (iI sh))] := hl
  have zsh1 := zsh.1
  have zsh2 := zsh.2
  have h00 := hs.1 0 (by decide)
  have h06 := hs.2.2.1
  have h98 := hsi sh
  refine r_iload_n C dX3_book_0 rfl (lv_at hl 1 rfl) ?_
  refine r_cSR1 C m_X3_189 (cT_noSheet (by exact ⟨by omega, by omega⟩)) pn0 hl.1 dX3_book_1 ?_
  refine r_ifB_eq C (tgt := 14) dX3_book_4 (by decide) (fun h1 => ?_) (fun h1 => ?_)
  · have h1 := Classical.not_not.mp h1
    refine r_aload_n C dX3_book_14 rfl (lv_at hl 0 rfl) ?_
    refine g_X3_31 C hP 0 rfl rfl dX3_book_15 ?_
    refine r_iload_n C dX3_book_18 rfl (lv_at hl 1 rfl) ?_
    refine r_aaldS C hP 24 (a := a) rfl dX3_book_19 (by omega) (by omega) ?_
    refine r_astore_n C [(2, .ref (a (25 + 2 * sh.toNat))), (0, .ref (a 0)), (1, .int (iI sh))] dX3_book_20 rfl hl (by decide) rfl (fun ls hl => ?_)
    refine r_aload_n C dX3_book_21 rfl (lv_at hl 0 rfl) ?_
    refine r_cVR0 C m_X3_199 (cS_isMissing (c := fun i => a (25 + 2 * sh.toNat + i)) (nf := shF nu sh) (bt := bi sh) (sz := si sh) (by have := hbi sh; omega) (by have := hbi sh; omega)) (hp_T_nu (by omega) (by omega) hP) rfl rfl hl.1 dX3_book_22 ?_
    refine r_ifB_eq C (tgt := 35) dX3_book_25 (by decide) (fun h2 => ?_) (fun h2 => ?_)
    · refine r_aload_n C dX3_book_35 rfl (lv_at hl 1 rfl) ?_
      refine g_X3_16 C hP 0 rfl rfl dX3_book_36 ?_
      refine r_aload_n C dX3_book_39 rfl (lv_at hl 1 rfl) ?_
      refine g_X3_10 C hP 0 rfl rfl dX3_book_40 ?_
      refine r_cVW1 C m_X3_150 (cW_become (b := (fun i => a (8 + i))) (d := (fun i => a (1 + i))) (s := t) (t := s) (wr := tw) (tw := lB (wrF s)) (y := ty) (ty := y)) hP hD hS [8, 9, 10, 11, 12, 13, 14, 1, 2, 3, 4, 5, 6, 7] (wT a k s (lB (wrF s)) y s (lB (wrF s)) y kq (lB (wrF kq)) ky tp ta tk sa en nm bi si nu st ik) rfl lc_T_t_s rfl lp_T_t_s (wT_ad.trans wT_ad.symm) rfl rfl hl.1 dX3_book_43 (fun H locs hP hD hS => ?_)
      refine r_iconst C dX3_book_46 ?_
      refine r_istore_n C [(3, .int (iI 0)), (2, .ref (a (25 + 2 * sh.toNat))), (0, .ref (a 0)), (1, .int (iI sh))] dX3_book_47 rfl hl (by decide) rfl (fun ls hl => ?_)
      refine r_loopW (fun n : Nat => [(0, .ref (a 0)), (1, .int (iI sh)), (2, .ref (a (25 + 2 * sh.toNat))), (3, .int (iI n))]) (fun n : Nat => wT a k s (lB (wrF s)) y (ysN s (-1) n) (lB (wrF (ysN s (-1) n))) y kq (lB (wrF kq)) ky tp ta tk sa en nm bi si (bkN s nu sh (bi sh) n) st ik) ((si sh).toNat) (lv_eq (lv_sub hl [2, 3, 1, 0] rfl) rfl) (va_eq hP rfl) (va_eqD hD rfl) hS (fun n hn ihn ls H locs hl hP hD hS => ?_) (fun ls H locs hl hP hD hS => ?_)
      · have hl : lv_has ls 4 [(0, .ref (a 0)), (1, .int (iI sh)), (2, .ref (a (25 + 2 * sh.toNat))), (3, .int (iI n))] := hl
        have hP : va_P D vwCl (wT a k s (lB (wrF s)) y (ysN s (-1) n) (lB (wrF (ysN s (-1) n))) y kq (lB (wrF kq)) ky tp ta tk sa en nm bi si (bkN s nu sh (bi sh) n) st ik) H := hP
        have hD : va_D _ (wT a k s (lB (wrF s)) y (ysN s (-1) n) (lB (wrF (ysN s (-1) n))) y kq (lB (wrF kq)) ky tp ta tk sa en nm bi si (bkN s nu sh (bi sh) n) st ik) := hD
        have hsl : Ok (ysN s (-1) n) := ok_ysN hs (-1) n
        refine r_iload_n C dX3_book_48 rfl (lv_at hl 3 rfl) ?_
        refine r_aload_n C dX3_book_49 rfl (lv_at hl 2 rfl) ?_
        refine g_X3_196 C hP (25 + 2 * sh.toNat) (wT_sh (by omega) (by omega)) rfl dX3_book_50 ?_
        refine r_icmp_ge C (tgt := 86) dX3_book_53 (by decide) (by exact ⟨by omega, by omega⟩) (by have := hsi sh; exact ⟨by omega, by omega⟩) (fun h3 => ?_) (fun h3 => ?_)
        · exfalso; omega
        · refine r_aload_n C dX3_book_56 rfl (lv_at hl 2 rfl) ?_
          refine r_iload_n C dX3_book_57 rfl (lv_at hl 3 rfl) ?_
          refine r_aload_n C dX3_book_58 rfl (lv_at hl 0 rfl) ?_
          refine g_X3_16 C hP 0 rfl rfl dX3_book_59 ?_
          refine r_cVR0 C m_X3_136 (cW_howManyWrong (b := (fun i => a (8 + i))) (s := ysN s (-1) n) (y := y) ) (hp_T_t hP) rfl rfl hl.1 dX3_book_62 ?_
          refine r_i2l C dX3_book_65 (by have := wrongMany_rg ((ysN s (-1) n)); exact ⟨by omega, by omega⟩) ?_
          refine r_cVW2 C m_X3_204 (cS_put (c := fun i => a (25 + 2 * sh.toNat + i)) (nf := shF (bkN s nu sh (bi sh) n) sh) (bt := bi sh) (sz := si sh) (i := n) (v := wrongMany (ysN s (-1) n)) (by omega) (by omega) (by have := hbi sh; omega) (by have := hbi sh; omega)) hP hD hS [25 + 2 * sh.toNat, 26 + 2 * sh.toNat] (wT a k s (lB (wrF s)) y (ysN s (-1) n) (lB (wrF (ysN s (-1) n))) y kq (lB (wrF kq)) ky tp ta tk sa en nm bi si (up (bkN s nu sh (bi sh) n) (40 * sh + n) (lI (nrw (bi sh) (wrongMany (ysN s (-1) n))))) st ik) (nd2 _) (lc_T_nu (by omega) (by omega)) rfl (lp_T_nu (by omega) (by omega) (sh_up (by omega) (by omega)) rfl rfl (fun j _ _ hj => ⟨sh_uo (by omega) (by omega) hj, rfl, rfl⟩)) (wT_ad.trans wT_ad.symm) rfl rfl hl.1 dX3_book_66 (fun H locs hP hD hS => ?_)
          refine r_pop2 C dX3_book_69 ?_
          refine r_aload_n C dX3_book_70 rfl (lv_at hl 0 rfl) ?_
          refine g_X3_16 C hP 0 rfl rfl dX3_book_71 ?_
          refine r_iconst C dX3_book_74 ?_
          refine r_iconst C dX3_book_75 ?_
          refine r_cVW2 C m_X3_143 (cW_passYears (b := (fun i => a (8 + i))) (s := ysN s (-1) n) (y := y) (by omega) (by omega) (by exact ⟨by omega, by omega⟩) hsl) hP hD hS [8, 9, 10, 11, 12, 13, 14] (wT a k s (lB (wrF s)) y (ysN (ysN s (-1) n) (-1) (1 : Int).toNat) (lB (wrF (ysN (ysN s (-1) n) (-1) (1 : Int).toNat))) y kq (lB (wrF kq)) ky tp ta tk sa en nm bi si (up (bkN s nu sh (bi sh) n) (40 * sh + n) (lI (nrw (bi sh) (wrongMany (ysN s (-1) n))))) st ik) rfl lc_T_t rfl lp_T_t (wT_ad.trans wT_ad.symm) rfl rfl hl.1 dX3_book_76 (fun H locs hP hD hS => ?_)
          have ht1 : Ok (ysN (ysN s (-1) n) (-1) (1 : Int).toNat) := ok_ysN hsl ((-1)) _
          refine r_pop C dX3_book_79 rfl ?_
          refine r_iinc C 3 [(3, .int (iI (n + 1))), (0, .ref (a 0)), (1, .int (iI sh)), (2, .ref (a (25 + 2 * sh.toNat)))] dX3_book_80 hl rfl (by decide) rfl (fun ls hl => ?_)
          refine r_goto C (tgt := 48) dX3_book_83 (by decide) ?_
          have ew2 : wT a k s (lB (wrF s)) y (ysN (ysN s (-1) n) (-1) (1 : Int).toNat) (lB (wrF (ysN (ysN s (-1) n) (-1) (1 : Int).toNat))) y kq (lB (wrF kq)) ky tp ta tk sa en nm bi si (up (bkN s nu sh (bi sh) n) (40 * sh + n) (lI (nrw (bi sh) (wrongMany (ysN s (-1) n))))) st ik = wT a k s (lB (wrF s)) y (ysN s (-1) (n + 1)) (lB (wrF (ysN s (-1) (n + 1)))) y kq (lB (wrF kq)) ky tp ta tk sa en nm bi si (bkN s nu sh (bi sh) (n + 1)) st ik := (by rw [ys_1, bkN])
          exact ihn ls H locs (lv_eq (lv_sub hl [1, 2, 3, 0] rfl) rfl) (va_eq hP ew2) (va_eqD hD ew2) hS
      · have hl : lv_has ls 4 [(0, .ref (a 0)), (1, .int (iI sh)), (2, .ref (a (25 + 2 * sh.toNat))), (3, .int (iI ((si sh).toNat)))] := hl
        have hP : va_P D vwCl (wT a k s (lB (wrF s)) y (ysN s (-1) (si sh).toNat) (lB (wrF (ysN s (-1) (si sh).toNat))) y kq (lB (wrF kq)) ky tp ta tk sa en nm bi si (bkN s nu sh (bi sh) (si sh).toNat) st ik) H := hP
        have hD : va_D _ (wT a k s (lB (wrF s)) y (ysN s (-1) (si sh).toNat) (lB (wrF (ysN s (-1) (si sh).toNat))) y kq (lB (wrF kq)) ky tp ta tk sa en nm bi si (bkN s nu sh (bi sh) (si sh).toNat) st ik) := hD
        have hsl : Ok (ysN s (-1) (si sh).toNat) := ok_ysN hs (-1) ((si sh).toNat)
        refine r_iload_n C dX3_book_48 rfl (lv_at hl 3 rfl) ?_
        refine r_aload_n C dX3_book_49 rfl (lv_at hl 2 rfl) ?_
        refine g_X3_196 C hP (25 + 2 * sh.toNat) (wT_sh (by omega) (by omega)) rfl dX3_book_50 ?_
        refine r_icmp_ge C (tgt := 86) dX3_book_53 (by decide) (by have := hsi sh; exact ⟨by omega, by omega⟩) (by have := hsi sh; exact ⟨by omega, by omega⟩) (fun h4 => ?_) (fun h4 => ?_)
        · refine r_aload_n C dX3_book_86 rfl (lv_at hl 2 rfl) ?_
          refine g_X3_196 C hP (25 + 2 * sh.toNat) (wT_sh (by omega) (by omega)) rfl dX3_book_87 ?_
          exact r_iretE C hP hS (ysN s (-1) (si sh).toNat, lB (wrF (ysN s (-1) (si sh).toNat)), y, tk, sa, en) (by first | (simp only [fBook, wsh, fD, fV, h1, h2, h4, not_true_eq_false, not_false_eq_true, and_true, true_and, and_false, false_and, or_true, true_or, or_false, false_or, if_true, if_false, ne_eq, reduceIte, show ¬ (-1000000006 : Int) = 0 by decide, show ¬ (-1000000001 : Int) = 0 by decide, eq_self]; done) | (exfalso; omega)) (by first | (simp only [fBook, wsh, fD, fV, h1, h2, h4, not_true_eq_false, not_false_eq_true, and_true, true_and, and_false, false_and, or_true, true_or, or_false, false_or, if_true, if_false, ne_eq, reduceIte, show ¬ (-1000000006 : Int) = 0 by decide, show ¬ (-1000000001 : Int) = 0 by decide, eq_self]; done) | (exfalso; omega)) dX3_book_90
        · exfalso; omega
    · refine r_aload_n C dX3_book_28 rfl (lv_at hl 1 rfl) ?_
      refine r_ldc C (-1000000006) ki_X3_203 (by decide) dX3_book_29 ?_
      refine r_cVWA1 C m_X3_49 (cT_finding (by omega) (by omega)) hP hD hS (wT_ad.trans wT_ad.symm) rfl rfl hl.1 dX3_book_31 (fun H locs hP hD hS => ?_)
      exact r_iretE C hP hS (t, tw, ty, tk, sa, en) (by first | (simp only [fBook, wsh, fD, fV, h1, h2, not_true_eq_false, not_false_eq_true, and_true, true_and, and_false, false_and, or_true, true_or, or_false, false_or, if_true, if_false, ne_eq, reduceIte, show ¬ (-1000000006 : Int) = 0 by decide, show ¬ (-1000000001 : Int) = 0 by decide, eq_self]; done) | (exfalso; omega)) (by first | (simp only [fBook, wsh, fD, fV, h1, h2, not_true_eq_false, not_false_eq_true, and_true, true_and, and_false, false_and, or_true, true_or, or_false, false_or, if_true, if_false, ne_eq, reduceIte, show ¬ (-1000000006 : Int) = 0 by decide, show ¬ (-1000000001 : Int) = 0 by decide, eq_self]; done) | (exfalso; omega)) dX3_book_34
  · refine r_aload_n C dX3_book_7 rfl (lv_at hl 0 rfl) ?_
    refine r_ldc C (-1000000001) ki_X3_48 (by decide) dX3_book_8 ?_
    refine r_cVWA1 C m_X3_49 (cT_finding (by omega) (by omega)) hP hD hS (wT_ad.trans wT_ad.symm) rfl rfl hl.1 dX3_book_10 (fun H locs hP hD hS => ?_)
    exact r_iretE C hP hS (t, tw, ty, tk, sa, en) (by first | (simp only [fBook, wsh, fD, fV, h1, not_true_eq_false, not_false_eq_true, and_true, true_and, and_false, false_and, or_true, true_or, or_false, false_or, if_true, if_false, ne_eq, reduceIte, show ¬ (-1000000006 : Int) = 0 by decide, show ¬ (-1000000001 : Int) = 0 by decide, eq_self]; done) | (exfalso; omega)) (by first | (simp only [fBook, wsh, fD, fV, h1, not_true_eq_false, not_false_eq_true, and_true, true_and, and_false, false_and, or_true, true_or, or_false, false_or, if_true, if_false, ne_eq, reduceIte, show ¬ (-1000000006 : Int) = 0 by decide, show ¬ (-1000000001 : Int) = 0 by decide, eq_self]; done) | (exfalso; omega)) dX3_book_13
set_option maxHeartbeats 400000 in
set_option maxRecDepth 100000 in
theorem cT_trialGoesAs  {sh : Int} (hsh : 0 ≤ sh) (hsh1 : sh ≤ 3) (ht : Ok t) (hsi : ∀ i, 0 ≤ si i ∧ si i ≤ 40) : ME l yX3_trialGoesAs cX3_trialGoesAs 3 (some .boolean) 6 138 D k [.ref (a 0), .ref (a (25 + 2 * sh.toNat))] (wT a k s (lB (wrF s)) y t (lB (wrF t)) ty kq (lB (wrF kq)) ky tp ta tk sa en nm bi si nu st ik) (fun x : (Int → Int) × Int64 × Int => wT a k s (lB (wrF s)) y x.1 x.2.1 x.2.2 kq (lB (wrF kq)) ky tp ta tk sa en nm bi si nu st ik) (some (.int (iB ((si sh).toNat ≤ ibF t si nu sh)))) := by
  refine ME.mk RX3 rfl (by decide +kernel) (Nat.le_of_ble_eq_true rfl) (fun p e U m0 below meth cd ls C hP hD hS hl => ?_)
  have hl : lv_has ls 3 [(0, .ref (a 0)), (1, .ref (a (25 + 2 * sh.toNat)))] := hl
  have h98 := hsi sh
  refine r_iconst C dX3_trialGoesAs_0 ?_
  refine r_istore_n C [(2, .int (iI 0)), (0, .ref (a 0)), (1, .ref (a (25 + 2 * sh.toNat)))] dX3_trialGoesAs_1 rfl hl (by decide) rfl (fun ls hl => ?_)
  refine r_loopWJ (fun n : Nat => [(0, .ref (a 0)), (1, .ref (a (25 + 2 * sh.toNat))), (2, .int (iI n))]) (fun n : Nat => wT a k s (lB (wrF s)) y (ysN t (-1) n) (lB (wrF (ysN t (-1) n))) ty kq (lB (wrF kq)) ky tp ta tk sa en nm bi si nu st ik) ((si sh).toNat) (fun n : Nat => ∀ j : Nat, j < n → ¬ ibP t nu sh j) (fun j h => absurd h (Nat.not_lt_zero j)) (lv_eq (lv_sub hl [1, 2, 0] rfl) rfl) (va_eq hP rfl) (va_eqD hD rfl) hS (fun n hn ihn hJn ls H locs hl hP hD hS => ?_) (fun hJn ls H locs hl hP hD hS => ?_)
  · have hl : lv_has ls 3 [(0, .ref (a 0)), (1, .ref (a (25 + 2 * sh.toNat))), (2, .int (iI n))] := hl
    have hP : va_P D vwCl (wT a k s (lB (wrF s)) y (ysN t (-1) n) (lB (wrF (ysN t (-1) n))) ty kq (lB (wrF kq)) ky tp ta tk sa en nm bi si nu st ik) H := hP
    have hD : va_D _ (wT a k s (lB (wrF s)) y (ysN t (-1) n) (lB (wrF (ysN t (-1) n))) ty kq (lB (wrF kq)) ky tp ta tk sa en nm bi si nu st ik) := hD
    have hJn : ∀ j : Nat, j < n → ¬ ibP t nu sh j := hJn
    have hsl : Ok (ysN t (-1) n) := ok_ysN ht (-1) n
    refine r_iload_n C dX3_trialGoesAs_2 rfl (lv_at hl 2 rfl) ?_
    refine r_aload_n C dX3_trialGoesAs_3 rfl (lv_at hl 1 rfl) ?_
    refine g_X3_196 C hP (25 + 2 * sh.toNat) (wT_sh (by omega) (by omega)) rfl dX3_trialGoesAs_4 ?_
    refine r_icmp_ge C (tgt := 46) dX3_trialGoesAs_7 (by decide) (by exact ⟨by omega, by omega⟩) (by have := hsi sh; exact ⟨by omega, by omega⟩) (fun h1 => ?_) (fun h1 => ?_)
    · exfalso; omega
    · refine r_aload_n C dX3_trialGoesAs_10 rfl (lv_at hl 1 rfl) ?_
      refine g_X3_214 C hP (25 + 2 * sh.toNat) (wT_sh (by omega) (by omega)) rfl dX3_trialGoesAs_11 ?_
      refine r_iload_n C dX3_trialGoesAs_14 rfl (lv_at hl 2 rfl) ?_
      refine r_laldV C hP (26 + 2 * sh.toNat) (nu (40 * sh + n)) (wT_nu (by omega) (by omega)) dX3_trialGoesAs_15 (by omega) (by omega) (by decide) (sh_at (by omega) (by omega)) ?_
      refine r_aload_n C dX3_trialGoesAs_16 rfl (lv_at hl 0 rfl) ?_
      refine g_X3_16 C hP 0 rfl rfl dX3_trialGoesAs_17 ?_
      refine r_cVR0 C m_X3_136 (cW_howManyWrong (b := (fun i => a (8 + i))) (s := ysN t (-1) n) (y := ty) ) (hp_T_t hP) rfl rfl hl.1 dX3_trialGoesAs_20 ?_
      refine r_i2l C dX3_trialGoesAs_23 (by have := wrongMany_rg ((ysN t (-1) n)); exact ⟨by omega, by omega⟩) ?_
      refine r_lcmp_eq C (tgt := 30) dX3_trialGoesAs_24 dX3_trialGoesAs_25 (by decide) (by have := in64_rg (nu (40 * sh + n)); exact ⟨by omega, by omega⟩) (by have := wrongMany_rg ((ysN t (-1) n)); exact ⟨by omega, by omega⟩) (fun h2 => ?_) (fun h2 => ?_)
      · refine r_aload_n C dX3_trialGoesAs_30 rfl (lv_at hl 0 rfl) ?_
        refine g_X3_16 C hP 0 rfl rfl dX3_trialGoesAs_31 ?_
        refine r_iconst C dX3_trialGoesAs_34 ?_
        refine r_iconst C dX3_trialGoesAs_35 ?_
        refine r_cVW2 C m_X3_143 (cW_passYears (b := (fun i => a (8 + i))) (s := ysN t (-1) n) (y := ty) (by omega) (by omega) (by exact ⟨by omega, by omega⟩) hsl) hP hD hS [8, 9, 10, 11, 12, 13, 14] (wT a k s (lB (wrF s)) y (ysN (ysN t (-1) n) (-1) (1 : Int).toNat) (lB (wrF (ysN (ysN t (-1) n) (-1) (1 : Int).toNat))) ty kq (lB (wrF kq)) ky tp ta tk sa en nm bi si nu st ik) rfl lc_T_t rfl lp_T_t (wT_ad.trans wT_ad.symm) rfl rfl hl.1 dX3_trialGoesAs_36 (fun H locs hP hD hS => ?_)
        have ht1 : Ok (ysN (ysN t (-1) n) (-1) (1 : Int).toNat) := ok_ysN hsl ((-1)) _
        refine r_pop C dX3_trialGoesAs_39 rfl ?_
        refine r_iinc C 2 [(2, .int (iI (n + 1))), (0, .ref (a 0)), (1, .ref (a (25 + 2 * sh.toNat)))] dX3_trialGoesAs_40 hl rfl (by decide) rfl (fun ls hl => ?_)
        refine r_goto C (tgt := 2) dX3_trialGoesAs_43 (by decide) ?_
        have ew2 : wT a k s (lB (wrF s)) y (ysN (ysN t (-1) n) (-1) (1 : Int).toNat) (lB (wrF (ysN (ysN t (-1) n) (-1) (1 : Int).toNat))) ty kq (lB (wrF kq)) ky tp ta tk sa en nm bi si nu st ik = wT a k s (lB (wrF s)) y (ysN t (-1) (n + 1)) (lB (wrF (ysN t (-1) (n + 1)))) ty kq (lB (wrF kq)) ky tp ta tk sa en nm bi si nu st ik := (by rw [ys_1])
        exact ihn (lt_s hJn (fun q => q h2)) ls H locs (lv_eq (lv_sub hl [1, 2, 0] rfl) rfl) (va_eq hP ew2) (va_eqD hD ew2) hS
      · refine r_iconst C dX3_trialGoesAs_28 ?_
        exact r_zretE C hP hS (ysN t (-1) n, lB (wrF (ysN t (-1) n)), ty) rfl (iB0 (by rw [ibF, fst0_yes (p := ibP t nu sh) h2 hJn hn]; omega)) dX3_trialGoesAs_29
  · have hl : lv_has ls 3 [(0, .ref (a 0)), (1, .ref (a (25 + 2 * sh.toNat))), (2, .int (iI ((si sh).toNat)))] := hl
    have hP : va_P D vwCl (wT a k s (lB (wrF s)) y (ysN t (-1) (si sh).toNat) (lB (wrF (ysN t (-1) (si sh).toNat))) ty kq (lB (wrF kq)) ky tp ta tk sa en nm bi si nu st ik) H := hP
    have hD : va_D _ (wT a k s (lB (wrF s)) y (ysN t (-1) (si sh).toNat) (lB (wrF (ysN t (-1) (si sh).toNat))) ty kq (lB (wrF kq)) ky tp ta tk sa en nm bi si nu st ik) := hD
    have hJn : ∀ j : Nat, j < (si sh).toNat → ¬ ibP t nu sh j := hJn
    have hsl : Ok (ysN t (-1) (si sh).toNat) := ok_ysN ht (-1) ((si sh).toNat)
    refine r_iload_n C dX3_trialGoesAs_2 rfl (lv_at hl 2 rfl) ?_
    refine r_aload_n C dX3_trialGoesAs_3 rfl (lv_at hl 1 rfl) ?_
    refine g_X3_196 C hP (25 + 2 * sh.toNat) (wT_sh (by omega) (by omega)) rfl dX3_trialGoesAs_4 ?_
    refine r_icmp_ge C (tgt := 46) dX3_trialGoesAs_7 (by decide) (by have := hsi sh; exact ⟨by omega, by omega⟩) (by have := hsi sh; exact ⟨by omega, by omega⟩) (fun h3 => ?_) (fun h3 => ?_)
    · refine r_iconst C dX3_trialGoesAs_46 ?_
      exact r_zretE C hP hS (ysN t (-1) (si sh).toNat, lB (wrF (ysN t (-1) (si sh).toNat)), ty) rfl (iB1 (by rw [ibF, fst0_no hJn]; exact Nat.le_refl _)) dX3_trialGoesAs_47
    · exfalso; omega
end CLASS
