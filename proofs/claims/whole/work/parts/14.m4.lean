section MODEL
variable {l : Launch} {D : va_G} {k : Nat → ClassId} {a : Nat → Nat} {s kp ot sd st sp tp bi si : Int → Int} {nu mo : Int → Int64} {ik dl tl ta fr to va iw : Int}
set_option maxHeartbeats 4000000 in
set_option maxRecDepth 100000 in
theorem cM_mends {m : Int} {c : Int} (hm : 0 ≤ m) (hm1 : m < 6) (hc : 0 ≤ c) (hc1 : c < 48) (hs : Ok s) : MW l yX4_mends cX4_mends 5 none 2 43 D k [.ref (a 0), .int (iI m), .int (iI c)] (wM a k s kp ot sd st sp tp bi si nu mo ik dl tl ta fr to va iw) (wM a k (mends s m c) kp ot sd st sp tp bi si nu mo ik dl tl ta fr to va iw) none := by
  refine MW.mk RX4 rfl (by decide +kernel) (Nat.le_of_ble_eq_true rfl) (fun p e U m0 below meth cd ls C hP hD hS hl => ?_)
  have hl : lv_has ls 5 [(0, .ref (a 0)), (1, .int (iI m)), (2, .int (iI c))] := hl
  refine r_aload_n C dX4_mends_0 rfl (lv_at hl 0 rfl) ?_
  refine g_X4_7 C hP 0 rfl rfl dX4_mends_1 ?_
  refine r_iload_n C dX4_mends_4 rfl (lv_at hl 1 rfl) ?_
  refine r_iconst C dX4_mends_5 ?_
  refine r_cSR2 C m_X4_57 cM_spot pn0 hl.1 dX4_mends_6 ?_
  refine r_iload_n C dX4_mends_9 rfl (lv_at hl 2 rfl) ?_
  refine r_iast C hP hD hS 1 (wM a k (up s (99 + 4 * m + 1) c) kp ot sd st sp tp bi si nu mo ik dl tl ta fr to va iw) rfl dX4_mends_10 (by omega) (by omega) (by decide) rfl (fun H locs hP hD hS => ?_)
  have hs1 : Ok (up s (99 + 4 * m + 1) c) := ok_up hs ⟨by omega, by omega⟩ ⟨by omega, by omega⟩ (fun _ => by omega) (fun _ _ _ _ => by omega)
  refine r_aload_n C dX4_mends_11 rfl (lv_at hl 0 rfl) ?_
  refine r_iload_n C dX4_mends_12 rfl (lv_at hl 1 rfl) ?_
  refine r_iconst C dX4_mends_13 ?_
  refine r_cVR2 C m_X4_86 (cM_its (by omega) (by omega) (by omega) (by omega)) hP rfl rfl hl.1 dX4_mends_14 ?_
  refine r_iconst C dX4_mends_17 ?_
  refine r_icmp_ne C (tgt := 39) dX4_mends_18 (by decide) (by have := hs1.1 (99 + 4 * m + 0) (by omega); exact ⟨by omega, by omega⟩) ⟨by decide, by decide⟩ (fun h1 => ?_) (fun h1 => ?_)
  · refine r_aload_n C dX4_mends_39 rfl (lv_at hl 0 rfl) ?_
    refine g_X4_7 C hP 0 rfl rfl dX4_mends_40 ?_
    refine r_iconst C dX4_mends_43 ?_
    refine r_iload_n C dX4_mends_44 rfl (lv_at hl 2 rfl) ?_
    refine r_iadd C dX4_mends_45 ?_
    refine r_aload_n C dX4_mends_46 rfl (lv_at hl 0 rfl) ?_
    refine g_X4_7 C hP 0 rfl rfl dX4_mends_47 ?_
    refine r_bipush C dX4_mends_50 (by decide) ?_
    refine r_iload_n C dX4_mends_52 rfl (lv_at hl 2 rfl) ?_
    refine r_iadd C dX4_mends_53 ?_
    refine r_iald C hP 1 rfl dX4_mends_54 (by omega) (by omega) (by decide) ?_
    refine r_iast C hP hD hS 1 (wM a k (up (up s (99 + 4 * m + 1) c) (3 + c) ((up s (99 + 4 * m + 1) c) (51 + c))) kp ot sd st sp tp bi si nu mo ik dl tl ta fr to va iw) rfl dX4_mends_55 (by omega) (by omega) (by decide) rfl (fun H locs hP hD hS => ?_)
    have hs2 : Ok (up (up s (99 + 4 * m + 1) c) (3 + c) ((up s (99 + 4 * m + 1) c) (51 + c))) := ok_up hs1 ⟨by have := hs1.1 (51 + c) (by omega); omega, by have := hs1.1 (51 + c) (by omega); omega⟩ ⟨by have := hs1.1 (51 + c) (by omega); omega, by have := hs1.1 (51 + c) (by omega); omega⟩ (fun _ => by have := hs1.1 (51 + c) (by omega); omega) (fun _ _ _ _ => by have := hs1.1 (51 + c) (by omega); omega)
    refine r_iconst C dX4_mends_56 ?_
    refine r_istore_n C [(3, .int (iI 0)), (0, .ref (a 0)), (1, .int (iI m)), (2, .int (iI c))] dX4_mends_57 rfl hl (by decide) rfl (fun ls hl => ?_)
    refine r_loopW (fun n : Nat => [(0, .ref (a 0)), (1, .int (iI m)), (2, .int (iI c)), (3, .int (iI n))]) (fun n : Nat => wM a k (mlp (mst s m c) c n) kp ot sd st sp tp bi si nu mo ik dl tl ta fr to va iw) (4) (lv_eq (lv_sub hl [1, 2, 3, 0] rfl) rfl) (va_eq hP rfl) (va_eqD hD rfl) hS (fun n hn ihn ls H locs hl hP hD hS => ?_) (fun ls H locs hl hP hD hS => ?_)
    · have hl : lv_has ls 5 [(0, .ref (a 0)), (1, .int (iI m)), (2, .int (iI c)), (3, .int (iI n))] := hl
      have hP : va_P D vwCl (wM a k (mlp (mst s m c) c n) kp ot sd st sp tp bi si nu mo ik dl tl ta fr to va iw) H := hP
      have hD : va_D _ (wM a k (mlp (mst s m c) c n) kp ot sd st sp tp bi si nu mo ik dl tl ta fr to va iw) := hD
      have hsl : Ok (mlp (mst s m c) c n) := ok_mlp (ok_mst hs hc hc1 hm hm1) hc hc1 n
      refine r_iload_n C dX4_mends_58 rfl (lv_at hl 3 rfl) ?_
      refine r_iconst C dX4_mends_59 ?_
      refine r_icmp_ge C (tgt := 155) dX4_mends_60 (by decide) (by exact ⟨by omega, by omega⟩) ⟨by decide, by decide⟩ (fun h2 => ?_) (fun h2 => ?_)
      · exfalso; omega
      · refine r_iload_n C dX4_mends_63 rfl (lv_at hl 2 rfl) ?_
        refine r_iload_n C dX4_mends_64 rfl (lv_at hl 3 rfl) ?_
        refine r_cSR2 C m_X4_65 (cM_beside (by omega) (by omega) (by exact ⟨by omega, by omega⟩)) pn0 hl.1 dX4_mends_65 ?_
        refine r_istore C [(4, .int (iI (besd c n))), (0, .ref (a 0)), (1, .int (iI m)), (2, .int (iI c)), (3, .int (iI n))] dX4_mends_68 hl (by decide) rfl (fun ls hl => ?_)
        refine r_iload C dX4_mends_70 (lv_at hl 0 rfl) ?_
        refine r_if_lt C (tgt := 110) dX4_mends_72 (by decide) (by have := besd_lt (c := c) (w := n) (by omega) (by omega); exact ⟨by omega, by omega⟩) (fun h3 => ?_) (fun h3 => ?_)
        · refine r_iload C dX4_mends_110 (lv_at hl 0 rfl) ?_
          refine r_if_lt C (tgt := 149) dX4_mends_112 (by decide) (by have := besd_lt (c := c) (w := n) (by omega) (by omega); exact ⟨by omega, by omega⟩) (fun h4 => ?_) (fun h4 => ?_)
          · refine r_iinc C 4 [(3, .int (iI (n + 1))), (4, .int (iI (besd c n))), (0, .ref (a 0)), (1, .int (iI m)), (2, .int (iI c))] dX4_mends_149 hl rfl (by decide) rfl (fun ls hl => ?_)
            refine r_goto C (tgt := 58) dX4_mends_152 (by decide) ?_
            have ew3 : wM a k (mlp (mst s m c) c n) kp ot sd st sp tp bi si nu mo ik dl tl ta fr to va iw = wM a k (mlp (mst s m c) c (n + 1)) kp ot sd st sp tp bi si nu mo ik dl tl ta fr to va iw := (by first | (simp only [mlp, mstep, h1, h2, h3, h4, not_true_eq_false, not_false_eq_true, and_true, true_and, and_false, false_and, or_true, true_or, or_false, false_or, if_true, if_false, ne_eq, reduceIte]; done) | (exfalso; omega))
            exact ihn ls H locs (lv_eq (lv_sub hl [2, 3, 4, 0] rfl) rfl) (va_eq hP ew3) (va_eqD hD ew3) hS
          · refine r_aload_n C dX4_mends_115 rfl (lv_at hl 1 rfl) ?_
            refine g_X4_7 C hP 0 rfl rfl dX4_mends_116 ?_
            refine r_iconst C dX4_mends_119 ?_
            refine r_iload_n C dX4_mends_120 rfl (lv_at hl 3 rfl) ?_
            refine r_iadd C dX4_mends_121 ?_
            refine r_iald C hP 1 rfl dX4_mends_122 (by omega) (by omega) (by decide) ?_
            refine r_iconst C dX4_mends_123 ?_
            refine r_icmp_ne C (tgt := 149) dX4_mends_124 (by decide) (by have := hsl.1 (3 + c) (by omega); exact ⟨by omega, by omega⟩) ⟨by decide, by decide⟩ (fun h5 => ?_) (fun h5 => ?_)
            · refine r_iinc C 4 [(3, .int (iI (n + 1))), (4, .int (iI (besd c n))), (0, .ref (a 0)), (1, .int (iI m)), (2, .int (iI c))] dX4_mends_149 hl rfl (by decide) rfl (fun ls hl => ?_)
              refine r_goto C (tgt := 58) dX4_mends_152 (by decide) ?_
              have ew4 : wM a k (mlp (mst s m c) c n) kp ot sd st sp tp bi si nu mo ik dl tl ta fr to va iw = wM a k (mlp (mst s m c) c (n + 1)) kp ot sd st sp tp bi si nu mo ik dl tl ta fr to va iw := (by first | (simp only [mlp, mstep, h1, h2, h3, h4, h5, not_true_eq_false, not_false_eq_true, and_true, true_and, and_false, false_and, or_true, true_or, or_false, false_or, if_true, if_false, ne_eq, reduceIte]; done) | (exfalso; omega))
              exact ihn ls H locs (lv_eq (lv_sub hl [2, 3, 4, 0] rfl) rfl) (va_eq hP ew4) (va_eqD hD ew4) hS
            · refine r_aload_n C dX4_mends_127 rfl (lv_at hl 1 rfl) ?_
              refine g_X4_7 C hP 0 rfl rfl dX4_mends_128 ?_
              refine r_iconst C dX4_mends_131 ?_
              refine r_iload C dX4_mends_132 (lv_at hl 0 rfl) ?_
              refine r_iadd C dX4_mends_134 ?_
              refine r_iald C hP 1 rfl dX4_mends_135 (by have := besd_lt (c := c) (w := n) (by omega) (by omega); omega) (by have := besd_lt (c := c) (w := n) (by omega) (by omega); omega) (by decide) ?_
              refine r_if_ne C (tgt := 149) dX4_mends_136 (by decide) (by have := besd_lt (c := c) (w := n) (by omega) (by omega); have := hsl.1 (3 + (besd c n)) (by have := besd_lt (c := c) (w := n) (by omega) (by omega); omega); exact ⟨by omega, by omega⟩) (fun h6 => ?_) (fun h6 => ?_)
              · refine r_iinc C 4 [(3, .int (iI (n + 1))), (4, .int (iI (besd c n))), (0, .ref (a 0)), (1, .int (iI m)), (2, .int (iI c))] dX4_mends_149 hl rfl (by decide) rfl (fun ls hl => ?_)
                refine r_goto C (tgt := 58) dX4_mends_152 (by decide) ?_
                have ew5 : wM a k (mlp (mst s m c) c n) kp ot sd st sp tp bi si nu mo ik dl tl ta fr to va iw = wM a k (mlp (mst s m c) c (n + 1)) kp ot sd st sp tp bi si nu mo ik dl tl ta fr to va iw := (by first | (simp only [mlp, mstep, h1, h2, h3, h4, eq_true h5, h6, not_true_eq_false, not_false_eq_true, and_true, true_and, and_false, false_and, or_true, true_or, or_false, false_or, if_true, if_false, ne_eq, reduceIte]; done) | (exfalso; omega))
                exact ihn ls H locs (lv_eq (lv_sub hl [2, 3, 4, 0] rfl) rfl) (va_eq hP ew5) (va_eqD hD ew5) hS
              · refine r_aload_n C dX4_mends_139 rfl (lv_at hl 1 rfl) ?_
                refine g_X4_7 C hP 0 rfl rfl dX4_mends_140 ?_
                refine r_iconst C dX4_mends_143 ?_
                refine r_iload C dX4_mends_144 (lv_at hl 0 rfl) ?_
                refine r_iadd C dX4_mends_146 ?_
                refine r_iconst C dX4_mends_147 ?_
                refine r_iast C hP hD hS 1 (wM a k (up (mlp (mst s m c) c n) (3 + (besd c n)) 5) kp ot sd st sp tp bi si nu mo ik dl tl ta fr to va iw) rfl dX4_mends_148 (by have := besd_lt (c := c) (w := n) (by omega) (by omega); omega) (by have := besd_lt (c := c) (w := n) (by omega) (by omega); omega) (by decide) rfl (fun H locs hP hD hS => ?_)
                have hs6 : Ok (up (mlp (mst s m c) c n) (3 + (besd c n)) 5) := ok_up hsl ⟨by have := besd_lt (c := c) (w := n) (by omega) (by omega); omega, by have := besd_lt (c := c) (w := n) (by omega) (by omega); omega⟩ ⟨by have := besd_lt (c := c) (w := n) (by omega) (by omega); omega, by have := besd_lt (c := c) (w := n) (by omega) (by omega); omega⟩ (fun _ => by have := besd_lt (c := c) (w := n) (by omega) (by omega); omega) (fun _ _ _ _ => by have := besd_lt (c := c) (w := n) (by omega) (by omega); omega)
                refine r_iinc C 4 [(3, .int (iI (n + 1))), (4, .int (iI (besd c n))), (0, .ref (a 0)), (1, .int (iI m)), (2, .int (iI c))] dX4_mends_149 hl rfl (by decide) rfl (fun ls hl => ?_)
                refine r_goto C (tgt := 58) dX4_mends_152 (by decide) ?_
                have ew7 : wM a k (up (mlp (mst s m c) c n) (3 + (besd c n)) 5) kp ot sd st sp tp bi si nu mo ik dl tl ta fr to va iw = wM a k (mlp (mst s m c) c (n + 1)) kp ot sd st sp tp bi si nu mo ik dl tl ta fr to va iw := (by first | (simp only [mlp, mstep, h1, h2, h3, h4, eq_true h5, eq_true h6, not_true_eq_false, not_false_eq_true, and_true, true_and, and_false, false_and, or_true, true_or, or_false, false_or, if_true, if_false, ne_eq, reduceIte]; done) | (exfalso; omega))
                exact ihn ls H locs (lv_eq (lv_sub hl [2, 3, 4, 0] rfl) rfl) (va_eq hP ew7) (va_eqD hD ew7) hS
        · refine r_aload_n C dX4_mends_75 rfl (lv_at hl 1 rfl) ?_
          refine g_X4_7 C hP 0 rfl rfl dX4_mends_76 ?_
          refine r_iconst C dX4_mends_79 ?_
          refine r_iload_n C dX4_mends_80 rfl (lv_at hl 3 rfl) ?_
          refine r_iadd C dX4_mends_81 ?_
          refine r_iald C hP 1 rfl dX4_mends_82 (by omega) (by omega) (by decide) ?_
          refine r_iconst C dX4_mends_83 ?_
          refine r_icmp_ne C (tgt := 110) dX4_mends_84 (by decide) (by have := hsl.1 (3 + c) (by omega); exact ⟨by omega, by omega⟩) ⟨by decide, by decide⟩ (fun h7 => ?_) (fun h7 => ?_)
          · refine r_iload C dX4_mends_110 (lv_at hl 0 rfl) ?_
            refine r_if_lt C (tgt := 149) dX4_mends_112 (by decide) (by have := besd_lt (c := c) (w := n) (by omega) (by omega); exact ⟨by omega, by omega⟩) (fun h8 => ?_) (fun h8 => ?_)
            · refine r_iinc C 4 [(3, .int (iI (n + 1))), (4, .int (iI (besd c n))), (0, .ref (a 0)), (1, .int (iI m)), (2, .int (iI c))] dX4_mends_149 hl rfl (by decide) rfl (fun ls hl => ?_)
              refine r_goto C (tgt := 58) dX4_mends_152 (by decide) ?_
              have ew8 : wM a k (mlp (mst s m c) c n) kp ot sd st sp tp bi si nu mo ik dl tl ta fr to va iw = wM a k (mlp (mst s m c) c (n + 1)) kp ot sd st sp tp bi si nu mo ik dl tl ta fr to va iw := (by first | (simp only [mlp, mstep, h1, h2, h3, h7, h8, not_true_eq_false, not_false_eq_true, and_true, true_and, and_false, false_and, or_true, true_or, or_false, false_or, if_true, if_false, ne_eq, reduceIte]; done) | (exfalso; omega))
              exact ihn ls H locs (lv_eq (lv_sub hl [2, 3, 4, 0] rfl) rfl) (va_eq hP ew8) (va_eqD hD ew8) hS
            · refine r_aload_n C dX4_mends_115 rfl (lv_at hl 1 rfl) ?_
              refine g_X4_7 C hP 0 rfl rfl dX4_mends_116 ?_
              refine r_iconst C dX4_mends_119 ?_
              refine r_iload_n C dX4_mends_120 rfl (lv_at hl 3 rfl) ?_
              refine r_iadd C dX4_mends_121 ?_
              refine r_iald C hP 1 rfl dX4_mends_122 (by omega) (by omega) (by decide) ?_
              refine r_iconst C dX4_mends_123 ?_
              refine r_icmp_ne C (tgt := 149) dX4_mends_124 (by decide) (by have := hsl.1 (3 + c) (by omega); exact ⟨by omega, by omega⟩) ⟨by decide, by decide⟩ (fun h9 => ?_) (fun h9 => ?_)
              · refine r_iinc C 4 [(3, .int (iI (n + 1))), (4, .int (iI (besd c n))), (0, .ref (a 0)), (1, .int (iI m)), (2, .int (iI c))] dX4_mends_149 hl rfl (by decide) rfl (fun ls hl => ?_)
                refine r_goto C (tgt := 58) dX4_mends_152 (by decide) ?_
                have ew9 : wM a k (mlp (mst s m c) c n) kp ot sd st sp tp bi si nu mo ik dl tl ta fr to va iw = wM a k (mlp (mst s m c) c (n + 1)) kp ot sd st sp tp bi si nu mo ik dl tl ta fr to va iw := (by first | (simp only [mlp, mstep, h1, h2, h3, h7, h8, h9, not_true_eq_false, not_false_eq_true, and_true, true_and, and_false, false_and, or_true, true_or, or_false, false_or, if_true, if_false, ne_eq, reduceIte]; done) | (exfalso; omega))
                exact ihn ls H locs (lv_eq (lv_sub hl [2, 3, 4, 0] rfl) rfl) (va_eq hP ew9) (va_eqD hD ew9) hS
              · refine r_aload_n C dX4_mends_127 rfl (lv_at hl 1 rfl) ?_
                refine g_X4_7 C hP 0 rfl rfl dX4_mends_128 ?_
                refine r_iconst C dX4_mends_131 ?_
                refine r_iload C dX4_mends_132 (lv_at hl 0 rfl) ?_
                refine r_iadd C dX4_mends_134 ?_
                refine r_iald C hP 1 rfl dX4_mends_135 (by have := besd_lt (c := c) (w := n) (by omega) (by omega); omega) (by have := besd_lt (c := c) (w := n) (by omega) (by omega); omega) (by decide) ?_
                refine r_if_ne C (tgt := 149) dX4_mends_136 (by decide) (by have := besd_lt (c := c) (w := n) (by omega) (by omega); have := hsl.1 (3 + (besd c n)) (by have := besd_lt (c := c) (w := n) (by omega) (by omega); omega); exact ⟨by omega, by omega⟩) (fun h10 => ?_) (fun h10 => ?_)
                · refine r_iinc C 4 [(3, .int (iI (n + 1))), (4, .int (iI (besd c n))), (0, .ref (a 0)), (1, .int (iI m)), (2, .int (iI c))] dX4_mends_149 hl rfl (by decide) rfl (fun ls hl => ?_)
                  refine r_goto C (tgt := 58) dX4_mends_152 (by decide) ?_
                  have ew10 : wM a k (mlp (mst s m c) c n) kp ot sd st sp tp bi si nu mo ik dl tl ta fr to va iw = wM a k (mlp (mst s m c) c (n + 1)) kp ot sd st sp tp bi si nu mo ik dl tl ta fr to va iw := (by first | (simp only [mlp, mstep, h1, h2, h3, h7, h8, eq_true h9, h10, not_true_eq_false, not_false_eq_true, and_true, true_and, and_false, false_and, or_true, true_or, or_false, false_or, if_true, if_false, ne_eq, reduceIte]; done) | (exfalso; omega))
                  exact ihn ls H locs (lv_eq (lv_sub hl [2, 3, 4, 0] rfl) rfl) (va_eq hP ew10) (va_eqD hD ew10) hS
                · refine r_aload_n C dX4_mends_139 rfl (lv_at hl 1 rfl) ?_
                  refine g_X4_7 C hP 0 rfl rfl dX4_mends_140 ?_
                  refine r_iconst C dX4_mends_143 ?_
                  refine r_iload C dX4_mends_144 (lv_at hl 0 rfl) ?_
                  refine r_iadd C dX4_mends_146 ?_
                  refine r_iconst C dX4_mends_147 ?_
                  refine r_iast C hP hD hS 1 (wM a k (up (mlp (mst s m c) c n) (3 + (besd c n)) 5) kp ot sd st sp tp bi si nu mo ik dl tl ta fr to va iw) rfl dX4_mends_148 (by have := besd_lt (c := c) (w := n) (by omega) (by omega); omega) (by have := besd_lt (c := c) (w := n) (by omega) (by omega); omega) (by decide) rfl (fun H locs hP hD hS => ?_)
                  have hs11 : Ok (up (mlp (mst s m c) c n) (3 + (besd c n)) 5) := ok_up hsl ⟨by have := besd_lt (c := c) (w := n) (by omega) (by omega); omega, by have := besd_lt (c := c) (w := n) (by omega) (by omega); omega⟩ ⟨by have := besd_lt (c := c) (w := n) (by omega) (by omega); omega, by have := besd_lt (c := c) (w := n) (by omega) (by omega); omega⟩ (fun _ => by have := besd_lt (c := c) (w := n) (by omega) (by omega); omega) (fun _ _ _ _ => by have := besd_lt (c := c) (w := n) (by omega) (by omega); omega)
                  refine r_iinc C 4 [(3, .int (iI (n + 1))), (4, .int (iI (besd c n))), (0, .ref (a 0)), (1, .int (iI m)), (2, .int (iI c))] dX4_mends_149 hl rfl (by decide) rfl (fun ls hl => ?_)
                  refine r_goto C (tgt := 58) dX4_mends_152 (by decide) ?_
                  have ew12 : wM a k (up (mlp (mst s m c) c n) (3 + (besd c n)) 5) kp ot sd st sp tp bi si nu mo ik dl tl ta fr to va iw = wM a k (mlp (mst s m c) c (n + 1)) kp ot sd st sp tp bi si nu mo ik dl tl ta fr to va iw := (by first | (simp only [mlp, mstep, h1, h2, h3, h7, h8, eq_true h9, eq_true h10, not_true_eq_false, not_false_eq_true, and_true, true_and, and_false, false_and, or_true, true_or, or_false, false_or, if_true, if_false, ne_eq, reduceIte]; done) | (exfalso; omega))
                  exact ihn ls H locs (lv_eq (lv_sub hl [2, 3, 4, 0] rfl) rfl) (va_eq hP ew12) (va_eqD hD ew12) hS
          · refine r_aload_n C dX4_mends_87 rfl (lv_at hl 1 rfl) ?_
            refine g_X4_7 C hP 0 rfl rfl dX4_mends_88 ?_
            refine r_iconst C dX4_mends_91 ?_
            refine r_iload C dX4_mends_92 (lv_at hl 0 rfl) ?_
            refine r_iadd C dX4_mends_94 ?_
            refine r_iald C hP 1 rfl dX4_mends_95 (by have := besd_lt (c := c) (w := n) (by omega) (by omega); omega) (by have := besd_lt (c := c) (w := n) (by omega) (by omega); omega) (by decide) ?_
            refine r_iconst C dX4_mends_96 ?_
            refine r_icmp_ne C (tgt := 110) dX4_mends_97 (by decide) (by have := besd_lt (c := c) (w := n) (by omega) (by omega); have := hsl.1 (3 + (besd c n)) (by have := besd_lt (c := c) (w := n) (by omega) (by omega); omega); exact ⟨by omega, by omega⟩) ⟨by decide, by decide⟩ (fun h11 => ?_) (fun h11 => ?_)
            · refine r_iload C dX4_mends_110 (lv_at hl 0 rfl) ?_
              refine r_if_lt C (tgt := 149) dX4_mends_112 (by decide) (by have := besd_lt (c := c) (w := n) (by omega) (by omega); exact ⟨by omega, by omega⟩) (fun h12 => ?_) (fun h12 => ?_)
              · refine r_iinc C 4 [(3, .int (iI (n + 1))), (4, .int (iI (besd c n))), (0, .ref (a 0)), (1, .int (iI m)), (2, .int (iI c))] dX4_mends_149 hl rfl (by decide) rfl (fun ls hl => ?_)
                refine r_goto C (tgt := 58) dX4_mends_152 (by decide) ?_
                have ew13 : wM a k (mlp (mst s m c) c n) kp ot sd st sp tp bi si nu mo ik dl tl ta fr to va iw = wM a k (mlp (mst s m c) c (n + 1)) kp ot sd st sp tp bi si nu mo ik dl tl ta fr to va iw := (by first | (simp only [mlp, mstep, h1, h2, h3, eq_true h7, h11, h12, not_true_eq_false, not_false_eq_true, and_true, true_and, and_false, false_and, or_true, true_or, or_false, false_or, if_true, if_false, ne_eq, reduceIte]; done) | (exfalso; omega))
                exact ihn ls H locs (lv_eq (lv_sub hl [2, 3, 4, 0] rfl) rfl) (va_eq hP ew13) (va_eqD hD ew13) hS
              · refine r_aload_n C dX4_mends_115 rfl (lv_at hl 1 rfl) ?_
                refine g_X4_7 C hP 0 rfl rfl dX4_mends_116 ?_
                refine r_iconst C dX4_mends_119 ?_
                refine r_iload_n C dX4_mends_120 rfl (lv_at hl 3 rfl) ?_
                refine r_iadd C dX4_mends_121 ?_
                refine r_iald C hP 1 rfl dX4_mends_122 (by omega) (by omega) (by decide) ?_
                refine r_iconst C dX4_mends_123 ?_
                refine r_icmp_ne C (tgt := 149) dX4_mends_124 (by decide) (by have := hsl.1 (3 + c) (by omega); exact ⟨by omega, by omega⟩) ⟨by decide, by decide⟩ (fun h13 => ?_) (fun h13 => ?_)
                · refine r_iinc C 4 [(3, .int (iI (n + 1))), (4, .int (iI (besd c n))), (0, .ref (a 0)), (1, .int (iI m)), (2, .int (iI c))] dX4_mends_149 hl rfl (by decide) rfl (fun ls hl => ?_)
                  refine r_goto C (tgt := 58) dX4_mends_152 (by decide) ?_
                  have ew14 : wM a k (mlp (mst s m c) c n) kp ot sd st sp tp bi si nu mo ik dl tl ta fr to va iw = wM a k (mlp (mst s m c) c (n + 1)) kp ot sd st sp tp bi si nu mo ik dl tl ta fr to va iw := (by first | (simp only [mlp, mstep, h1, h2, h3, eq_true h7, h11, h12, h13, not_true_eq_false, not_false_eq_true, and_true, true_and, and_false, false_and, or_true, true_or, or_false, false_or, if_true, if_false, ne_eq, reduceIte]; done) | (exfalso; omega))
                  exact ihn ls H locs (lv_eq (lv_sub hl [2, 3, 4, 0] rfl) rfl) (va_eq hP ew14) (va_eqD hD ew14) hS
                · refine r_aload_n C dX4_mends_127 rfl (lv_at hl 1 rfl) ?_
                  refine g_X4_7 C hP 0 rfl rfl dX4_mends_128 ?_
                  refine r_iconst C dX4_mends_131 ?_
                  refine r_iload C dX4_mends_132 (lv_at hl 0 rfl) ?_
                  refine r_iadd C dX4_mends_134 ?_
                  refine r_iald C hP 1 rfl dX4_mends_135 (by have := besd_lt (c := c) (w := n) (by omega) (by omega); omega) (by have := besd_lt (c := c) (w := n) (by omega) (by omega); omega) (by decide) ?_
                  refine r_if_ne C (tgt := 149) dX4_mends_136 (by decide) (by have := besd_lt (c := c) (w := n) (by omega) (by omega); have := hsl.1 (3 + (besd c n)) (by have := besd_lt (c := c) (w := n) (by omega) (by omega); omega); exact ⟨by omega, by omega⟩) (fun h14 => ?_) (fun h14 => ?_)
                  · refine r_iinc C 4 [(3, .int (iI (n + 1))), (4, .int (iI (besd c n))), (0, .ref (a 0)), (1, .int (iI m)), (2, .int (iI c))] dX4_mends_149 hl rfl (by decide) rfl (fun ls hl => ?_)
                    refine r_goto C (tgt := 58) dX4_mends_152 (by decide) ?_
                    have ew15 : wM a k (mlp (mst s m c) c n) kp ot sd st sp tp bi si nu mo ik dl tl ta fr to va iw = wM a k (mlp (mst s m c) c (n + 1)) kp ot sd st sp tp bi si nu mo ik dl tl ta fr to va iw := (by first | (simp only [mlp, mstep, h1, h2, h3, eq_true h7, h11, h12, eq_true h13, h14, not_true_eq_false, not_false_eq_true, and_true, true_and, and_false, false_and, or_true, true_or, or_false, false_or, if_true, if_false, ne_eq, reduceIte]; done) | (exfalso; omega))
                    exact ihn ls H locs (lv_eq (lv_sub hl [2, 3, 4, 0] rfl) rfl) (va_eq hP ew15) (va_eqD hD ew15) hS
                  · refine r_aload_n C dX4_mends_139 rfl (lv_at hl 1 rfl) ?_
                    refine g_X4_7 C hP 0 rfl rfl dX4_mends_140 ?_
                    refine r_iconst C dX4_mends_143 ?_
                    refine r_iload C dX4_mends_144 (lv_at hl 0 rfl) ?_
                    refine r_iadd C dX4_mends_146 ?_
                    refine r_iconst C dX4_mends_147 ?_
                    refine r_iast C hP hD hS 1 (wM a k (up (mlp (mst s m c) c n) (3 + (besd c n)) 5) kp ot sd st sp tp bi si nu mo ik dl tl ta fr to va iw) rfl dX4_mends_148 (by have := besd_lt (c := c) (w := n) (by omega) (by omega); omega) (by have := besd_lt (c := c) (w := n) (by omega) (by omega); omega) (by decide) rfl (fun H locs hP hD hS => ?_)
                    have hs16 : Ok (up (mlp (mst s m c) c n) (3 + (besd c n)) 5) := ok_up hsl ⟨by have := besd_lt (c := c) (w := n) (by omega) (by omega); omega, by have := besd_lt (c := c) (w := n) (by omega) (by omega); omega⟩ ⟨by have := besd_lt (c := c) (w := n) (by omega) (by omega); omega, by have := besd_lt (c := c) (w := n) (by omega) (by omega); omega⟩ (fun _ => by have := besd_lt (c := c) (w := n) (by omega) (by omega); omega) (fun _ _ _ _ => by have := besd_lt (c := c) (w := n) (by omega) (by omega); omega)
                    refine r_iinc C 4 [(3, .int (iI (n + 1))), (4, .int (iI (besd c n))), (0, .ref (a 0)), (1, .int (iI m)), (2, .int (iI c))] dX4_mends_149 hl rfl (by decide) rfl (fun ls hl => ?_)
                    refine r_goto C (tgt := 58) dX4_mends_152 (by decide) ?_
                    have ew17 : wM a k (up (mlp (mst s m c) c n) (3 + (besd c n)) 5) kp ot sd st sp tp bi si nu mo ik dl tl ta fr to va iw = wM a k (mlp (mst s m c) c (n + 1)) kp ot sd st sp tp bi si nu mo ik dl tl ta fr to va iw := (by first | (simp only [mlp, mstep, h1, h2, h3, eq_true h7, h11, h12, eq_true h13, eq_true h14, not_true_eq_false, not_false_eq_true, and_true, true_and, and_false, false_and, or_true, true_or, or_false, false_or, if_true, if_false, ne_eq, reduceIte]; done) | (exfalso; omega))
                    exact ihn ls H locs (lv_eq (lv_sub hl [2, 3, 4, 0] rfl) rfl) (va_eq hP ew17) (va_eqD hD ew17) hS
            · refine r_aload_n C dX4_mends_100 rfl (lv_at hl 1 rfl) ?_
              refine g_X4_7 C hP 0 rfl rfl dX4_mends_101 ?_
              refine r_iconst C dX4_mends_104 ?_
              refine r_iload C dX4_mends_105 (lv_at hl 0 rfl) ?_
              refine r_iadd C dX4_mends_107 ?_
              refine r_iconst C dX4_mends_108 ?_
              refine r_iast C hP hD hS 1 (wM a k (up (mlp (mst s m c) c n) (3 + (besd c n)) 0) kp ot sd st sp tp bi si nu mo ik dl tl ta fr to va iw) rfl dX4_mends_109 (by have := besd_lt (c := c) (w := n) (by omega) (by omega); omega) (by have := besd_lt (c := c) (w := n) (by omega) (by omega); omega) (by decide) rfl (fun H locs hP hD hS => ?_)
              have hs18 : Ok (up (mlp (mst s m c) c n) (3 + (besd c n)) 0) := ok_up hsl ⟨by have := besd_lt (c := c) (w := n) (by omega) (by omega); omega, by have := besd_lt (c := c) (w := n) (by omega) (by omega); omega⟩ ⟨by have := besd_lt (c := c) (w := n) (by omega) (by omega); omega, by have := besd_lt (c := c) (w := n) (by omega) (by omega); omega⟩ (fun _ => by have := besd_lt (c := c) (w := n) (by omega) (by omega); omega) (fun _ _ _ _ => by have := besd_lt (c := c) (w := n) (by omega) (by omega); omega)
              refine r_iload C dX4_mends_110 (lv_at hl 0 rfl) ?_
              refine r_if_lt C (tgt := 149) dX4_mends_112 (by decide) (by have := besd_lt (c := c) (w := n) (by omega) (by omega); exact ⟨by omega, by omega⟩) (fun h15 => ?_) (fun h15 => ?_)
              · refine r_iinc C 4 [(3, .int (iI (n + 1))), (4, .int (iI (besd c n))), (0, .ref (a 0)), (1, .int (iI m)), (2, .int (iI c))] dX4_mends_149 hl rfl (by decide) rfl (fun ls hl => ?_)
                refine r_goto C (tgt := 58) dX4_mends_152 (by decide) ?_
                have ew19 : wM a k (up (mlp (mst s m c) c n) (3 + (besd c n)) 0) kp ot sd st sp tp bi si nu mo ik dl tl ta fr to va iw = wM a k (mlp (mst s m c) c (n + 1)) kp ot sd st sp tp bi si nu mo ik dl tl ta fr to va iw := (by first | (simp only [mlp, mstep, h1, h2, h3, eq_true h7, eq_true h11, h15, not_true_eq_false, not_false_eq_true, and_true, true_and, and_false, false_and, or_true, true_or, or_false, false_or, if_true, if_false, ne_eq, reduceIte]; done) | (exfalso; omega))
                exact ihn ls H locs (lv_eq (lv_sub hl [2, 3, 4, 0] rfl) rfl) (va_eq hP ew19) (va_eqD hD ew19) hS
              · refine r_aload_n C dX4_mends_115 rfl (lv_at hl 1 rfl) ?_
                refine g_X4_7 C hP 0 rfl rfl dX4_mends_116 ?_
                refine r_iconst C dX4_mends_119 ?_
                refine r_iload_n C dX4_mends_120 rfl (lv_at hl 3 rfl) ?_
                refine r_iadd C dX4_mends_121 ?_
                refine r_iald C hP 1 rfl dX4_mends_122 (by omega) (by omega) (by decide) ?_
                refine r_iconst C dX4_mends_123 ?_
                refine r_icmp_ne C (tgt := 149) dX4_mends_124 (by decide) (by have := besd_lt (c := c) (w := n) (by omega) (by omega); have := hsl.1 (3 + (besd c n)) (by have := besd_lt (c := c) (w := n) (by omega) (by omega); omega); have := hs18.1 (3 + c) (by omega); exact ⟨by omega, by omega⟩) ⟨by decide, by decide⟩ (fun h16 => ?_) (fun h16 => ?_)
                · refine r_iinc C 4 [(3, .int (iI (n + 1))), (4, .int (iI (besd c n))), (0, .ref (a 0)), (1, .int (iI m)), (2, .int (iI c))] dX4_mends_149 hl rfl (by decide) rfl (fun ls hl => ?_)
                  refine r_goto C (tgt := 58) dX4_mends_152 (by decide) ?_
                  have ew20 : wM a k (up (mlp (mst s m c) c n) (3 + (besd c n)) 0) kp ot sd st sp tp bi si nu mo ik dl tl ta fr to va iw = wM a k (mlp (mst s m c) c (n + 1)) kp ot sd st sp tp bi si nu mo ik dl tl ta fr to va iw := (by first | (simp only [mlp, mstep, h1, h2, h3, eq_true h7, eq_true h11, h15, h16, not_true_eq_false, not_false_eq_true, and_true, true_and, and_false, false_and, or_true, true_or, or_false, false_or, if_true, if_false, ne_eq, reduceIte]; done) | (exfalso; omega))
                  exact ihn ls H locs (lv_eq (lv_sub hl [2, 3, 4, 0] rfl) rfl) (va_eq hP ew20) (va_eqD hD ew20) hS
                · refine r_aload_n C dX4_mends_127 rfl (lv_at hl 1 rfl) ?_
                  refine g_X4_7 C hP 0 rfl rfl dX4_mends_128 ?_
                  refine r_iconst C dX4_mends_131 ?_
                  refine r_iload C dX4_mends_132 (lv_at hl 0 rfl) ?_
                  refine r_iadd C dX4_mends_134 ?_
                  refine r_iald C hP 1 rfl dX4_mends_135 (by have := besd_lt (c := c) (w := n) (by omega) (by omega); omega) (by have := besd_lt (c := c) (w := n) (by omega) (by omega); omega) (by decide) ?_
                  refine r_if_ne C (tgt := 149) dX4_mends_136 (by decide) (by have := besd_lt (c := c) (w := n) (by omega) (by omega); have := hsl.1 (3 + (besd c n)) (by have := besd_lt (c := c) (w := n) (by omega) (by omega); omega); have := hs18.1 (3 + (besd c n)) (by have := besd_lt (c := c) (w := n) (by omega) (by omega); omega); exact ⟨by omega, by omega⟩) (fun h17 => ?_) (fun h17 => ?_)
                  · refine r_iinc C 4 [(3, .int (iI (n + 1))), (4, .int (iI (besd c n))), (0, .ref (a 0)), (1, .int (iI m)), (2, .int (iI c))] dX4_mends_149 hl rfl (by decide) rfl (fun ls hl => ?_)
                    refine r_goto C (tgt := 58) dX4_mends_152 (by decide) ?_
                    have ew21 : wM a k (up (mlp (mst s m c) c n) (3 + (besd c n)) 0) kp ot sd st sp tp bi si nu mo ik dl tl ta fr to va iw = wM a k (mlp (mst s m c) c (n + 1)) kp ot sd st sp tp bi si nu mo ik dl tl ta fr to va iw := (by first | (simp only [mlp, mstep, h1, h2, h3, eq_true h7, eq_true h11, h15, eq_true h16, h17, not_true_eq_false, not_false_eq_true, and_true, true_and, and_false, false_and, or_true, true_or, or_false, false_or, if_true, if_false, ne_eq, reduceIte]; done) | (exfalso; omega))
                    exact ihn ls H locs (lv_eq (lv_sub hl [2, 3, 4, 0] rfl) rfl) (va_eq hP ew21) (va_eqD hD ew21) hS
                  · refine r_aload_n C dX4_mends_139 rfl (lv_at hl 1 rfl) ?_
                    refine g_X4_7 C hP 0 rfl rfl dX4_mends_140 ?_
                    refine r_iconst C dX4_mends_143 ?_
                    refine r_iload C dX4_mends_144 (lv_at hl 0 rfl) ?_
                    refine r_iadd C dX4_mends_146 ?_
                    refine r_iconst C dX4_mends_147 ?_
                    refine r_iast C hP hD hS 1 (wM a k (up (up (mlp (mst s m c) c n) (3 + (besd c n)) 0) (3 + (besd c n)) 5) kp ot sd st sp tp bi si nu mo ik dl tl ta fr to va iw) rfl dX4_mends_148 (by have := besd_lt (c := c) (w := n) (by omega) (by omega); omega) (by have := besd_lt (c := c) (w := n) (by omega) (by omega); omega) (by decide) rfl (fun H locs hP hD hS => ?_)
                    have hs22 : Ok (up (up (mlp (mst s m c) c n) (3 + (besd c n)) 0) (3 + (besd c n)) 5) := ok_up hs18 ⟨by have := besd_lt (c := c) (w := n) (by omega) (by omega); omega, by have := besd_lt (c := c) (w := n) (by omega) (by omega); omega⟩ ⟨by have := besd_lt (c := c) (w := n) (by omega) (by omega); omega, by have := besd_lt (c := c) (w := n) (by omega) (by omega); omega⟩ (fun _ => by have := besd_lt (c := c) (w := n) (by omega) (by omega); omega) (fun _ _ _ _ => by have := besd_lt (c := c) (w := n) (by omega) (by omega); omega)
                    refine r_iinc C 4 [(3, .int (iI (n + 1))), (4, .int (iI (besd c n))), (0, .ref (a 0)), (1, .int (iI m)), (2, .int (iI c))] dX4_mends_149 hl rfl (by decide) rfl (fun ls hl => ?_)
                    refine r_goto C (tgt := 58) dX4_mends_152 (by decide) ?_
                    have ew23 : wM a k (up (up (mlp (mst s m c) c n) (3 + (besd c n)) 0) (3 + (besd c n)) 5) kp ot sd st sp tp bi si nu mo ik dl tl ta fr to va iw = wM a k (mlp (mst s m c) c (n + 1)) kp ot sd st sp tp bi si nu mo ik dl tl ta fr to va iw := (by first | (simp only [mlp, mstep, h1, h2, h3, eq_true h7, eq_true h11, h15, eq_true h16, eq_true h17, not_true_eq_false, not_false_eq_true, and_true, true_and, and_false, false_and, or_true, true_or, or_false, false_or, if_true, if_false, ne_eq, reduceIte]; done) | (exfalso; omega))
                    exact ihn ls H locs (lv_eq (lv_sub hl [2, 3, 4, 0] rfl) rfl) (va_eq hP ew23) (va_eqD hD ew23) hS
    · have hl : lv_has ls 5 [(0, .ref (a 0)), (1, .int (iI m)), (2, .int (iI c)), (3, .int (iI 4))] := hl
      have hP : va_P D vwCl (wM a k (mlp (mst s m c) c 4) kp ot sd st sp tp bi si nu mo ik dl tl ta fr to va iw) H := hP
      have hD : va_D _ (wM a k (mlp (mst s m c) c 4) kp ot sd st sp tp bi si nu mo ik dl tl ta fr to va iw) := hD
      have hsl : Ok (mlp (mst s m c) c 4) := ok_mlp (ok_mst hs hc hc1 hm hm1) hc hc1 4
      refine r_iload_n C dX4_mends_58 rfl (lv_at hl 3 rfl) ?_
      refine r_iconst C dX4_mends_59 ?_
      refine r_icmp_ge C (tgt := 155) dX4_mends_60 (by decide) ⟨by decide, by decide⟩ ⟨by decide, by decide⟩ (fun h18 => ?_) (fun h18 => ?_)
      · exact r_vretW C hP hS (by first | (simp only [mends, h1, h18, not_true_eq_false, not_false_eq_true, and_true, true_and, and_false, false_and, or_true, true_or, or_false, false_or, if_true, if_false, ne_eq, reduceIte]; done) | (exfalso; omega)) dX4_mends_155
      · exfalso; omega
  · refine r_aload_n C dX4_mends_21 rfl (lv_at hl 0 rfl) ?_
    refine g_X4_7 C hP 0 rfl rfl dX4_mends_22 ?_
    refine r_bipush C dX4_mends_25 (by decide) ?_
    refine r_iload_n C dX4_mends_27 rfl (lv_at hl 2 rfl) ?_
    refine r_iadd C dX4_mends_28 ?_
    refine r_aload_n C dX4_mends_29 rfl (lv_at hl 0 rfl) ?_
    refine g_X4_7 C hP 0 rfl rfl dX4_mends_30 ?_
    refine r_iconst C dX4_mends_33 ?_
    refine r_iload_n C dX4_mends_34 rfl (lv_at hl 2 rfl) ?_
    refine r_iadd C dX4_mends_35 ?_
    refine r_iald C hP 1 rfl dX4_mends_36 (by omega) (by omega) (by decide) ?_
    refine r_iast C hP hD hS 1 (wM a k (up (up s (99 + 4 * m + 1) c) (51 + c) ((up s (99 + 4 * m + 1) c) (3 + c))) kp ot sd st sp tp bi si nu mo ik dl tl ta fr to va iw) rfl dX4_mends_37 (by omega) (by omega) (by decide) rfl (fun H locs hP hD hS => ?_)
    have hs24 : Ok (up (up s (99 + 4 * m + 1) c) (51 + c) ((up s (99 + 4 * m + 1) c) (3 + c))) := ok_up hs1 ⟨by have := hs1.1 (3 + c) (by omega); omega, by have := hs1.1 (3 + c) (by omega); omega⟩ ⟨by have := hs1.1 (3 + c) (by omega); omega, by have := hs1.1 (3 + c) (by omega); omega⟩ (fun _ => by have := hs1.1 (3 + c) (by omega); omega) (fun _ _ _ _ => by have := hs1.1 (3 + c) (by omega); omega)
    exact r_vretW C hP hS (by first | (simp only [mends, eq_true h1, not_true_eq_false, not_false_eq_true, and_true, true_and, and_false, false_and, or_true, true_or, or_false, false_or, if_true, if_false, ne_eq, reduceIte]; done) | (exfalso; omega)) dX4_mends_38
set_option maxHeartbeats 4000000 in
set_option maxRecDepth 100000 in
theorem cM_pays {m : Int} {c : Int} (hm : 0 ≤ m) (hm1 : m < 6) (hc : 0 ≤ c) (hc1 : c < 48) (hs : Ok s) : MW l yX4_pays cX4_pays 5 (some .boolean) 3 73 D k [.ref (a 0), .int (iI m), .int (iI c)] (wM a k s kp ot sd st sp tp bi si nu mo ik dl tl ta fr to va iw) (wM a k (payS s m c) kp ot sd st sp tp bi si nu mo ik dl tl ta fr to va iw) (some (.int (iB (cost s m c ≤ s (99 + 4 * m + 2))))) := by
  refine MW.mk RX4 rfl (by decide +kernel) (Nat.le_of_ble_eq_true rfl) (fun p e U m0 below meth cd ls C hP hD hS hl => ?_)
  have hl : lv_has ls 5 [(0, .ref (a 0)), (1, .int (iI m)), (2, .int (iI c))] := hl
  refine r_aload_n C dX4_pays_0 rfl (lv_at hl 0 rfl) ?_
  refine r_iload_n C dX4_pays_1 rfl (lv_at hl 1 rfl) ?_
  refine r_iload_n C dX4_pays_2 rfl (lv_at hl 2 rfl) ?_
  refine r_cVR2 C m_X4_103 (cM_costOf (by omega) (by omega) (by omega) (by omega) hs) hP rfl rfl hl.1 dX4_pays_3 ?_
  refine r_istore_n C [(3, .int (iI (cost s m c))), (0, .ref (a 0)), (1, .int (iI m)), (2, .int (iI c))] dX4_pays_6 rfl hl (by decide) rfl (fun ls hl => ?_)
  refine r_aload_n C dX4_pays_7 rfl (lv_at hl 1 rfl) ?_
  refine r_iload_n C dX4_pays_8 rfl (lv_at hl 2 rfl) ?_
  refine r_iconst C dX4_pays_9 ?_
  refine r_cVR2 C m_X4_86 (cM_its (by omega) (by omega) (by omega) (by omega)) hP rfl rfl hl.1 dX4_pays_10 ?_
  refine r_iload_n C dX4_pays_13 rfl (lv_at hl 0 rfl) ?_
  refine r_icmp_ge C (tgt := 19) dX4_pays_14 (by decide) (by have := hs.1 (99 + 4 * m + 2) (by omega); exact ⟨by omega, by omega⟩) (by have := cost_rg hs (m := m) (c := c) (by omega) (by omega); exact ⟨by omega, by omega⟩) (fun h1 => ?_) (fun h1 => ?_)
  · refine r_aload_n C dX4_pays_19 rfl (lv_at hl 1 rfl) ?_
    refine r_iload_n C dX4_pays_20 rfl (lv_at hl 2 rfl) ?_
    refine r_iconst C dX4_pays_21 ?_
    refine r_cVR2 C m_X4_86 (cM_its (by omega) (by omega) (by omega) (by omega)) hP rfl rfl hl.1 dX4_pays_22 ?_
    refine r_iload_n C dX4_pays_25 rfl (lv_at hl 0 rfl) ?_
    refine r_iadd C dX4_pays_26 ?_
    refine r_istore C [(4, .int (iI ((s (99 + 4 * m + 3)) + (cost s m c)))), (3, .int (iI (cost s m c))), (0, .ref (a 0)), (1, .int (iI m)), (2, .int (iI c))] dX4_pays_27 hl (by decide) rfl (fun ls hl => ?_)
    refine r_aload_n C dX4_pays_29 rfl (lv_at hl 2 rfl) ?_
    refine g_X4_7 C hP 0 rfl rfl dX4_pays_30 ?_
    refine r_iload_n C dX4_pays_33 rfl (lv_at hl 3 rfl) ?_
    refine r_iconst C dX4_pays_34 ?_
    refine r_cSR2 C m_X4_57 cM_spot pn0 hl.1 dX4_pays_35 ?_
    refine r_dup2 C dX4_pays_38 rfl rfl ?_
    refine r_iald C hP 1 rfl dX4_pays_39 (by omega) (by omega) (by decide) ?_
    refine r_iload_n C dX4_pays_40 rfl (lv_at hl 1 rfl) ?_
    refine r_isub C dX4_pays_41 ?_
    refine r_iast C hP hD hS 1 (wM a k (up s (99 + 4 * m + 2) ((s (99 + 4 * m + 2)) - (cost s m c))) kp ot sd st sp tp bi si nu mo ik dl tl ta fr to va iw) rfl dX4_pays_42 (by omega) (by omega) (by decide) rfl (fun H locs hP hD hS => ?_)
    have hs1 : Ok (up s (99 + 4 * m + 2) ((s (99 + 4 * m + 2)) - (cost s m c))) := ok_up hs ⟨by have := cost_rg hs (m := m) (c := c) (by omega) (by omega); have := hs.1 (99 + 4 * m + 2) (by omega); omega, by have := cost_rg hs (m := m) (c := c) (by omega) (by omega); have := hs.1 (99 + 4 * m + 2) (by omega); omega⟩ ⟨by have := cost_rg hs (m := m) (c := c) (by omega) (by omega); have := hs.1 (99 + 4 * m + 2) (by omega); omega, by have := cost_rg hs (m := m) (c := c) (by omega) (by omega); have := hs.1 (99 + 4 * m + 2) (by omega); omega⟩ (fun _ => by have := cost_rg hs (m := m) (c := c) (by omega) (by omega); have := hs.1 (99 + 4 * m + 2) (by omega); omega) (fun _ _ _ _ => by have := cost_rg hs (m := m) (c := c) (by omega) (by omega); have := hs.1 (99 + 4 * m + 2) (by omega); omega)
    refine r_aload_n C dX4_pays_43 rfl (lv_at hl 2 rfl) ?_
    refine g_X4_7 C hP 0 rfl rfl dX4_pays_44 ?_
    refine r_iload_n C dX4_pays_47 rfl (lv_at hl 3 rfl) ?_
    refine r_iconst C dX4_pays_48 ?_
    refine r_cSR2 C m_X4_57 cM_spot pn0 hl.1 dX4_pays_49 ?_
    refine r_iload C dX4_pays_52 (lv_at hl 0 rfl) ?_
    refine r_ldc C (99999) ki_X4_123 (by decide) dX4_pays_54 ?_
    refine r_icmp_le C (tgt := 64) dX4_pays_56 (by decide) (by have := cost_rg hs (m := m) (c := c) (by omega) (by omega); have := hs.1 (99 + 4 * m + 3) (by omega); exact ⟨by omega, by omega⟩) ⟨by decide, by decide⟩ (fun h2 => ?_) (fun h2 => ?_)
    · refine r_iload C dX4_pays_64 (lv_at hl 0 rfl) ?_
      refine r_iast C hP hD hS 1 (wM a k (up (up s (99 + 4 * m + 2) ((s (99 + 4 * m + 2)) - (cost s m c))) (99 + 4 * m + 3) ((s (99 + 4 * m + 3)) + (cost s m c))) kp ot sd st sp tp bi si nu mo ik dl tl ta fr to va iw) rfl dX4_pays_66 (by omega) (by omega) (by decide) rfl (fun H locs hP hD hS => ?_)
      have hs2 : Ok (up (up s (99 + 4 * m + 2) ((s (99 + 4 * m + 2)) - (cost s m c))) (99 + 4 * m + 3) ((s (99 + 4 * m + 3)) + (cost s m c))) := ok_up hs1 ⟨by have := cost_rg hs (m := m) (c := c) (by omega) (by omega); have := hs.1 (99 + 4 * m + 3) (by omega); omega, by have := cost_rg hs (m := m) (c := c) (by omega) (by omega); have := hs.1 (99 + 4 * m + 3) (by omega); omega⟩ ⟨by have := cost_rg hs (m := m) (c := c) (by omega) (by omega); have := hs.1 (99 + 4 * m + 3) (by omega); omega, by have := cost_rg hs (m := m) (c := c) (by omega) (by omega); have := hs.1 (99 + 4 * m + 3) (by omega); omega⟩ (fun _ => by have := cost_rg hs (m := m) (c := c) (by omega) (by omega); have := hs.1 (99 + 4 * m + 3) (by omega); omega) (fun _ _ _ _ => by have := cost_rg hs (m := m) (c := c) (by omega) (by omega); have := hs.1 (99 + 4 * m + 3) (by omega); omega)
      refine r_aload_n C dX4_pays_67 rfl (lv_at hl 2 rfl) ?_
      refine r_iload_n C dX4_pays_68 rfl (lv_at hl 3 rfl) ?_
      refine r_iload_n C dX4_pays_69 rfl (lv_at hl 4 rfl) ?_
      refine r_cVW2 C m_X4_124 (cM_mends (by omega) (by omega) (by omega) (by omega) hs2) hP hD hS [0, 1, 2, 3, 4, 5, 6, 7, 8, 9, 10, 11] (wM a k (mends (up (up s (99 + 4 * m + 2) ((s (99 + 4 * m + 2)) - (cost s m c))) (99 + 4 * m + 3) ((s (99 + 4 * m + 3)) + (cost s m c))) m c) kp ot sd st sp tp bi si nu mo ik dl tl ta fr to va iw) rfl rfl rfl rfl rfl rfl rfl hl.1 dX4_pays_70 (fun H locs hP hD hS => ?_)
      have hs3 : Ok (mends (up (up s (99 + 4 * m + 2) ((s (99 + 4 * m + 2)) - (cost s m c))) (99 + 4 * m + 3) ((s (99 + 4 * m + 3)) + (cost s m c))) m c) := ok_mends hs2 (by omega) (by omega) (by omega) (by omega)
      refine r_iconst C dX4_pays_73 ?_
      exact r_zretW C hP hS (by first | (simp only [payS, pay2, ← Int.not_lt, h1, h2, not_true_eq_false, not_false_eq_true, and_true, true_and, and_false, false_and, or_true, true_or, or_false, false_or, if_true, if_false, ne_eq, reduceIte]; done) | (exfalso; omega)) (iB1 (by omega)) dX4_pays_74
    · refine r_ldc C (99999) ki_X4_123 (by decide) dX4_pays_59 ?_
      refine r_goto C (tgt := 66) dX4_pays_61 (by decide) ?_
      refine r_iast C hP hD hS 1 (wM a k (up (up s (99 + 4 * m + 2) ((s (99 + 4 * m + 2)) - (cost s m c))) (99 + 4 * m + 3) 99999) kp ot sd st sp tp bi si nu mo ik dl tl ta fr to va iw) rfl dX4_pays_66 (by omega) (by omega) (by decide) rfl (fun H locs hP hD hS => ?_)
      have hs4 : Ok (up (up s (99 + 4 * m + 2) ((s (99 + 4 * m + 2)) - (cost s m c))) (99 + 4 * m + 3) 99999) := ok_up hs1 ⟨by omega, by omega⟩ ⟨by omega, by omega⟩ (fun _ => by omega) (fun _ _ _ _ => by omega)
      refine r_aload_n C dX4_pays_67 rfl (lv_at hl 2 rfl) ?_
      refine r_iload_n C dX4_pays_68 rfl (lv_at hl 3 rfl) ?_
      refine r_iload_n C dX4_pays_69 rfl (lv_at hl 4 rfl) ?_
      refine r_cVW2 C m_X4_124 (cM_mends (by omega) (by omega) (by omega) (by omega) hs4) hP hD hS [0, 1, 2, 3, 4, 5, 6, 7, 8, 9, 10, 11] (wM a k (mends (up (up s (99 + 4 * m + 2) ((s (99 + 4 * m + 2)) - (cost s m c))) (99 + 4 * m + 3) 99999) m c) kp ot sd st sp tp bi si nu mo ik dl tl ta fr to va iw) rfl rfl rfl rfl rfl rfl rfl hl.1 dX4_pays_70 (fun H locs hP hD hS => ?_)
      have hs5 : Ok (mends (up (up s (99 + 4 * m + 2) ((s (99 + 4 * m + 2)) - (cost s m c))) (99 + 4 * m + 3) 99999) m c) := ok_mends hs4 (by omega) (by omega) (by omega) (by omega)
      refine r_iconst C dX4_pays_73 ?_
      exact r_zretW C hP hS (by first | (simp only [payS, pay2, ← Int.not_lt, h1, h2, not_true_eq_false, not_false_eq_true, and_true, true_and, and_false, false_and, or_true, true_or, or_false, false_or, if_true, if_false, ne_eq, reduceIte]; done) | (exfalso; omega)) (iB1 (by omega)) dX4_pays_74
  · refine r_iconst C dX4_pays_17 ?_
    exact r_zretW C hP hS (by first | (simp only [payS, pay2, ← Int.not_lt, h1, not_true_eq_false, not_false_eq_true, and_true, true_and, and_false, false_and, or_true, true_or, or_false, false_or, if_true, if_false, ne_eq, reduceIte]; done) | (exfalso; omega)) (iB0 (by omega)) dX4_pays_18
set_option maxHeartbeats 4000000 in
set_option maxRecDepth 100000 in
theorem cM_adds {kd : Int} {c : Int} (hk : 0 ≤ kd) (hk1 : kd < 6) (hc : 0 ≤ c) (hc1 : c < 48) (hs : Ok s) (h6 : s 0 < 6) : MW l yX4_adds cX4_adds 4 (some .int) 1 21 D k [.ref (a 0), .int (iI kd), .int (iI c)] (wM a k s kp ot sd st sp tp bi si nu mo ik dl tl ta fr to va iw) (wM a k (addS s kd c 50) kp ot sd st sp tp bi si nu mo ik dl tl ta fr to va iw) (some (.int (iI (s 0)))) := by
  refine MW.mk RX4 rfl (by decide +kernel) (Nat.le_of_ble_eq_true rfl) (fun p e U m0 below meth cd ls C hP hD hS hl => ?_)
  have hl : lv_has ls 4 [(0, .ref (a 0)), (1, .int (iI kd)), (2, .int (iI c))] := hl
  have h00 := hs.1 0 (by decide)
  refine r_aload_n C dX4_adds_0 rfl (lv_at hl 0 rfl) ?_
  refine g_X4_7 C hP 0 rfl rfl dX4_adds_1 ?_
  refine r_iconst C dX4_adds_4 ?_
  refine r_iald C hP 1 rfl dX4_adds_5 (by omega) (by omega) (by decide) ?_
  refine r_istore_n C [(3, .int (iI (s (0)))), (0, .ref (a 0)), (1, .int (iI kd)), (2, .int (iI c))] dX4_adds_6 rfl hl (by decide) rfl (fun ls hl => ?_)
  refine r_aload_n C dX4_adds_7 rfl (lv_at hl 1 rfl) ?_
  refine g_X4_7 C hP 0 rfl rfl dX4_adds_8 ?_
  refine r_iload_n C dX4_adds_11 rfl (lv_at hl 0 rfl) ?_
  refine r_iconst C dX4_adds_12 ?_
  refine r_cSR2 C m_X4_57 cM_spot pn0 hl.1 dX4_adds_13 ?_
  refine r_iload_n C dX4_adds_16 rfl (lv_at hl 2 rfl) ?_
  refine r_iast C hP hD hS 1 (wM a k (up s (99 + 4 * (s (0)) + 0) kd) kp ot sd st sp tp bi si nu mo ik dl tl ta fr to va iw) rfl dX4_adds_17 (by have := hs.1 (0) (by omega); omega) (by have := hs.1 (0) (by omega); omega) (by decide) rfl (fun H locs hP hD hS => ?_)
  have hs1 : Ok (up s (99 + 4 * (s (0)) + 0) kd) := ok_up hs ⟨by have := hs.1 (0) (by omega); omega, by have := hs.1 (0) (by omega); omega⟩ ⟨by have := hs.1 (0) (by omega); omega, by have := hs.1 (0) (by omega); omega⟩ (fun _ => by have := hs.1 (0) (by omega); omega) (fun _ _ _ _ => by have := hs.1 (0) (by omega); omega)
  refine r_aload_n C dX4_adds_18 rfl (lv_at hl 1 rfl) ?_
  refine g_X4_7 C hP 0 rfl rfl dX4_adds_19 ?_
  refine r_iload_n C dX4_adds_22 rfl (lv_at hl 0 rfl) ?_
  refine r_iconst C dX4_adds_23 ?_
  refine r_cSR2 C m_X4_57 cM_spot pn0 hl.1 dX4_adds_24 ?_
  refine r_iload_n C dX4_adds_27 rfl (lv_at hl 3 rfl) ?_
  refine r_iast C hP hD hS 1 (wM a k (up (up s (99 + 4 * (s (0)) + 0) kd) (99 + 4 * (s (0)) + 1) c) kp ot sd st sp tp bi si nu mo ik dl tl ta fr to va iw) rfl dX4_adds_28 (by have := hs.1 (0) (by omega); omega) (by have := hs.1 (0) (by omega); omega) (by decide) rfl (fun H locs hP hD hS => ?_)
  have hs2 : Ok (up (up s (99 + 4 * (s (0)) + 0) kd) (99 + 4 * (s (0)) + 1) c) := ok_up hs1 ⟨by have := hs.1 (0) (by omega); omega, by have := hs.1 (0) (by omega); omega⟩ ⟨by have := hs.1 (0) (by omega); omega, by have := hs.1 (0) (by omega); omega⟩ (fun _ => by have := hs.1 (0) (by omega); omega) (fun _ _ _ _ => by have := hs.1 (0) (by omega); omega)
  refine r_aload_n C dX4_adds_29 rfl (lv_at hl 1 rfl) ?_
  refine g_X4_7 C hP 0 rfl rfl dX4_adds_30 ?_
  refine r_iload_n C dX4_adds_33 rfl (lv_at hl 0 rfl) ?_
  refine r_iconst C dX4_adds_34 ?_
  refine r_cSR2 C m_X4_57 cM_spot pn0 hl.1 dX4_adds_35 ?_
  refine r_bipush C dX4_adds_38 (by decide) ?_
  refine r_iast C hP hD hS 1 (wM a k (up (up (up s (99 + 4 * (s (0)) + 0) kd) (99 + 4 * (s (0)) + 1) c) (99 + 4 * (s (0)) + 2) 50) kp ot sd st sp tp bi si nu mo ik dl tl ta fr to va iw) rfl dX4_adds_40 (by have := hs.1 (0) (by omega); omega) (by have := hs.1 (0) (by omega); omega) (by decide) rfl (fun H locs hP hD hS => ?_)
  have hs3 : Ok (up (up (up s (99 + 4 * (s (0)) + 0) kd) (99 + 4 * (s (0)) + 1) c) (99 + 4 * (s (0)) + 2) 50) := ok_up hs2 ⟨by have := hs.1 (0) (by omega); omega, by have := hs.1 (0) (by omega); omega⟩ ⟨by have := hs.1 (0) (by omega); omega, by have := hs.1 (0) (by omega); omega⟩ (fun _ => by have := hs.1 (0) (by omega); omega) (fun _ _ _ _ => by have := hs.1 (0) (by omega); omega)
  refine r_aload_n C dX4_adds_41 rfl (lv_at hl 1 rfl) ?_
  refine g_X4_7 C hP 0 rfl rfl dX4_adds_42 ?_
  refine r_iload_n C dX4_adds_45 rfl (lv_at hl 0 rfl) ?_
  refine r_iconst C dX4_adds_46 ?_
  refine r_cSR2 C m_X4_57 cM_spot pn0 hl.1 dX4_adds_47 ?_
  refine r_iconst C dX4_adds_50 ?_
  refine r_iast C hP hD hS 1 (wM a k (up (up (up (up s (99 + 4 * (s (0)) + 0) kd) (99 + 4 * (s (0)) + 1) c) (99 + 4 * (s (0)) + 2) 50) (99 + 4 * (s (0)) + 3) 0) kp ot sd st sp tp bi si nu mo ik dl tl ta fr to va iw) rfl dX4_adds_51 (by have := hs.1 (0) (by omega); omega) (by have := hs.1 (0) (by omega); omega) (by decide) rfl (fun H locs hP hD hS => ?_)
  have hs4 : Ok (up (up (up (up s (99 + 4 * (s (0)) + 0) kd) (99 + 4 * (s (0)) + 1) c) (99 + 4 * (s (0)) + 2) 50) (99 + 4 * (s (0)) + 3) 0) := ok_up hs3 ⟨by have := hs.1 (0) (by omega); omega, by have := hs.1 (0) (by omega); omega⟩ ⟨by have := hs.1 (0) (by omega); omega, by have := hs.1 (0) (by omega); omega⟩ (fun _ => by have := hs.1 (0) (by omega); omega) (fun _ _ _ _ => by have := hs.1 (0) (by omega); omega)
  refine r_aload_n C dX4_adds_52 rfl (lv_at hl 1 rfl) ?_
  refine g_X4_7 C hP 0 rfl rfl dX4_adds_53 ?_
  refine r_iconst C dX4_adds_56 ?_
  refine r_dup2 C dX4_adds_57 rfl rfl ?_
  refine r_iald C hP 1 rfl dX4_adds_58 (by omega) (by omega) (by decide) ?_
  refine r_iconst C dX4_adds_59 ?_
  refine r_iadd C dX4_adds_60 ?_
  refine r_iast C hP hD hS 1 (wM a k (up (up (up (up (up s (99 + 4 * (s (0)) + 0) kd) (99 + 4 * (s (0)) + 1) c) (99 + 4 * (s (0)) + 2) 50) (99 + 4 * (s (0)) + 3) 0) 0 (((up (up (up (up s (99 + 4 * (s (0)) + 0) kd) (99 + 4 * (s (0)) + 1) c) (99 + 4 * (s (0)) + 2) 50) (99 + 4 * (s (0)) + 3) 0) (0)) + 1)) kp ot sd st sp tp bi si nu mo ik dl tl ta fr to va iw) rfl dX4_adds_61 (by omega) (by omega) (by decide) rfl (fun H locs hP hD hS => ?_)
  refine r_iload_n C dX4_adds_62 rfl (lv_at hl 0 rfl) ?_
  exact r_iretW C hP hS (by rw [addS]) rfl dX4_adds_63
set_option maxHeartbeats 4000000 in
set_option maxRecDepth 100000 in
theorem cM_year  (hs : Ok s) (hdl : In32 dl) : MW l yX4_year cX4_year 5 none 4 98 D k [.ref (a 0)] (wM a k s kp ot sd st sp tp bi si nu mo ik dl tl ta fr to va iw) (wM a k (year s dl) kp ot sd st sp tp bi si nu mo ik dl tl ta fr to va iw) none := by
  refine MW.mk RX4 rfl (by decide +kernel) (Nat.le_of_ble_eq_true rfl) (fun p e U m0 below meth cd ls C hP hD hS hl => ?_)
  have hl : lv_has ls 5 [(0, .ref (a 0))] := hl
  have hdl1 := hdl.1
  have hdl2 := hdl.2
  have h00 := hs.1 0 (by decide)
  have h06 := hs.2.2.1
  refine r_iconst C dX4_year_0 ?_
  refine r_istore_n C [(1, .int (iI 0)), (0, .ref (a 0))] dX4_year_1 rfl hl (by decide) rfl (fun ls hl => ?_)
  refine r_loopW (fun n : Nat => [(0, .ref (a 0)), (1, .int (iI n))]) (fun n : Nat => wM a k (yrL s dl n) kp ot sd st sp tp bi si nu mo ik dl tl ta fr to va iw) ((s 0).toNat) (lv_eq (lv_sub hl [1, 0] rfl) rfl) (va_eq hP rfl) (va_eqD hD rfl) hS (fun n hn ihn ls H locs hl hP hD hS => ?_) (fun ls H locs hl hP hD hS => ?_)
  · have hl : lv_has ls 5 [(0, .ref (a 0)), (1, .int (iI n))] := hl
    have hP : va_P D vwCl (wM a k (yrL s dl n) kp ot sd st sp tp bi si nu mo ik dl tl ta fr to va iw) H := hP
    have hD : va_D _ (wM a k (yrL s dl n) kp ot sd st sp tp bi si nu mo ik dl tl ta fr to va iw) := hD
    have hsl : Ok (yrL s dl n) := ok_yrL hs dl n (by omega)
    have h01 : (yrL s dl n) 0 = s 0 := yrL_lo (by decide) n
    refine r_iload_n C dX4_year_2 rfl (lv_at hl 1 rfl) ?_
    refine r_aload_n C dX4_year_3 rfl (lv_at hl 0 rfl) ?_
    refine g_X4_7 C hP 0 rfl rfl dX4_year_4 ?_
    refine r_iconst C dX4_year_7 ?_
    refine r_iald C hP 1 rfl dX4_year_8 (by omega) (by omega) (by decide) ?_
    refine r_icmp_ge C (tgt := 88) dX4_year_9 (by decide) (by exact ⟨by omega, by omega⟩) (by have := hsl.1 (0) (by omega); exact ⟨by omega, by omega⟩) (fun h1 => ?_) (fun h1 => ?_)
    · exfalso; omega
    · refine r_iload_n C dX4_year_12 rfl (lv_at hl 1 rfl) ?_
      refine r_aload_n C dX4_year_13 rfl (lv_at hl 0 rfl) ?_
      refine g_X4_25 C hP 0 rfl rfl dX4_year_14 ?_
      refine r_icmp_ne C (tgt := 24) dX4_year_17 (by decide) (by exact ⟨by omega, by omega⟩) (by exact ⟨by omega, by omega⟩) (fun h2 => ?_) (fun h2 => ?_)
      · refine r_aload_n C dX4_year_24 rfl (lv_at hl 0 rfl) ?_
        refine r_iload_n C dX4_year_25 rfl (lv_at hl 1 rfl) ?_
        refine r_cVR1 C m_X4_112 (cM_goesFor (by omega) (by omega) hsl) hP rfl rfl hl.1 dX4_year_26 ?_
        refine r_istore_n C [(2, .int (iI (goesFor (yrL s dl n) n))), (0, .ref (a 0)), (1, .int (iI n))] dX4_year_29 rfl hl (by decide) rfl (fun ls hl => ?_)
        refine r_iload_n C dX4_year_30 rfl (lv_at hl 0 rfl) ?_
        refine r_if_lt C (tgt := 82) dX4_year_31 (by decide) (by have := goesFor_rg hsl (m := n) (by omega) (by omega); exact ⟨by omega, by omega⟩) (fun h3 => ?_) (fun h3 => ?_)
        · refine r_iinc C 2 [(1, .int (iI (n + 1))), (2, .int (iI (goesFor (yrL s dl n) n))), (0, .ref (a 0))] dX4_year_82 hl rfl (by decide) rfl (fun ls hl => ?_)
          refine r_goto C (tgt := 2) dX4_year_85 (by decide) ?_
          have ew1 : wM a k (yrL s dl n) kp ot sd st sp tp bi si nu mo ik dl tl ta fr to va iw = wM a k (yrL s dl (n + 1)) kp ot sd st sp tp bi si nu mo ik dl tl ta fr to va iw := (by first | (simp only [yrL, yrM, yrG, h1, h2, h3, not_true_eq_false, not_false_eq_true, and_true, true_and, and_false, false_and, or_true, true_or, or_false, false_or, if_true, if_false, ne_eq, reduceIte]; done) | (exfalso; omega))
          exact ihn ls H locs (lv_eq (lv_sub hl [2, 0] rfl) rfl) (va_eq hP ew1) (va_eqD hD ew1) hS
        · refine r_aload_n C dX4_year_34 rfl (lv_at hl 1 rfl) ?_
          refine r_iload_n C dX4_year_35 rfl (lv_at hl 2 rfl) ?_
          refine r_iload_n C dX4_year_36 rfl (lv_at hl 0 rfl) ?_
          refine r_cVW2 C m_X4_128 (cM_pays (by omega) (by omega) (by have := goesFor_rg hsl (m := n) (by omega) (by omega); omega) (by have := goesFor_rg hsl (m := n) (by omega) (by omega); omega) hsl) hP hD hS [0, 1, 2, 3, 4, 5, 6, 7, 8, 9, 10, 11] (wM a k (payS (yrL s dl n) n (goesFor (yrL s dl n) n)) kp ot sd st sp tp bi si nu mo ik dl tl ta fr to va iw) rfl rfl rfl rfl rfl rfl rfl hl.1 dX4_year_37 (fun H locs hP hD hS => ?_)
          have hs2 : Ok (payS (yrL s dl n) n (goesFor (yrL s dl n) n)) := ok_payS hsl (by have := goesFor_rg hsl (m := n) (by omega) (by omega); omega) (by have := goesFor_rg hsl (m := n) (by omega) (by omega); omega) (by omega) (by omega)
          refine r_istore_n C [(3, .int (iB (cost (yrL s dl n) n (goesFor (yrL s dl n) n) ≤ (yrL s dl n) (99 + 4 * n + 2)))), (2, .int (iI (goesFor (yrL s dl n) n))), (0, .ref (a 0)), (1, .int (iI n))] dX4_year_40 rfl hl (by decide) rfl (fun ls hl => ?_)
          refine r_aload_n C dX4_year_41 rfl (lv_at hl 2 rfl) ?_
          refine r_iload_n C dX4_year_42 rfl (lv_at hl 3 rfl) ?_
          refine r_iconst C dX4_year_43 ?_
          refine r_cVR2 C m_X4_86 (cM_its (by omega) (by omega) (by omega) (by omega)) hP rfl rfl hl.1 dX4_year_44 ?_
          refine r_aload_n C dX4_year_47 rfl (lv_at hl 2 rfl) ?_
          refine g_X4_7 C hP 0 rfl rfl dX4_year_48 ?_
          refine r_iconst C dX4_year_51 ?_
          refine r_iald C hP 1 rfl dX4_year_52 (by omega) (by omega) (by decide) ?_
          refine r_iadd C dX4_year_53 ?_
          refine r_istore C [(4, .int (iI (((payS (yrL s dl n) n (goesFor (yrL s dl n) n)) (99 + 4 * n + 2)) + ((payS (yrL s dl n) n (goesFor (yrL s dl n) n)) (2))))), (3, .int (iB (cost (yrL s dl n) n (goesFor (yrL s dl n) n) ≤ (yrL s dl n) (99 + 4 * n + 2)))), (2, .int (iI (goesFor (yrL s dl n) n))), (0, .ref (a 0)), (1, .int (iI n))] dX4_year_54 hl (by decide) rfl (fun ls hl => ?_)
          refine r_aload_n C dX4_year_56 rfl (lv_at hl 3 rfl) ?_
          refine g_X4_7 C hP 0 rfl rfl dX4_year_57 ?_
          refine r_iload_n C dX4_year_60 rfl (lv_at hl 4 rfl) ?_
          refine r_iconst C dX4_year_61 ?_
          refine r_cSR2 C m_X4_57 cM_spot pn0 hl.1 dX4_year_62 ?_
          refine r_iload C dX4_year_65 (lv_at hl 0 rfl) ?_
          refine r_sipush C dX4_year_67 (by decide) ?_
          refine r_icmp_le C (tgt := 79) dX4_year_70 (by decide) (by have := goesFor_rg hsl (m := n) (by omega) (by omega); have := hs2.1 (99 + 4 * n + 2) (by omega); have := hs2.1 (2) (by omega); exact ⟨by omega, by omega⟩) ⟨by decide, by decide⟩ (fun h4 => ?_) (fun h4 => ?_)
          · refine r_iload C dX4_year_79 (lv_at hl 0 rfl) ?_
            refine r_iast C hP hD hS 1 (wM a k (up (payS (yrL s dl n) n (goesFor (yrL s dl n) n)) (99 + 4 * n + 2) (((payS (yrL s dl n) n (goesFor (yrL s dl n) n)) (99 + 4 * n + 2)) + ((payS (yrL s dl n) n (goesFor (yrL s dl n) n)) (2)))) kp ot sd st sp tp bi si nu mo ik dl tl ta fr to va iw) rfl dX4_year_81 (by omega) (by omega) (by decide) rfl (fun H locs hP hD hS => ?_)
            have hs3 : Ok (up (payS (yrL s dl n) n (goesFor (yrL s dl n) n)) (99 + 4 * n + 2) (((payS (yrL s dl n) n (goesFor (yrL s dl n) n)) (99 + 4 * n + 2)) + ((payS (yrL s dl n) n (goesFor (yrL s dl n) n)) (2)))) := ok_up hs2 ⟨by have := goesFor_rg hsl (m := n) (by omega) (by omega); have := hs2.1 (99 + 4 * n + 2) (by omega); have := hs2.1 (2) (by omega); omega, by have := goesFor_rg hsl (m := n) (by omega) (by omega); have := hs2.1 (99 + 4 * n + 2) (by omega); have := hs2.1 (2) (by omega); omega⟩ ⟨by have := goesFor_rg hsl (m := n) (by omega) (by omega); have := hs2.1 (99 + 4 * n + 2) (by omega); have := hs2.1 (2) (by omega); omega, by have := goesFor_rg hsl (m := n) (by omega) (by omega); have := hs2.1 (99 + 4 * n + 2) (by omega); have := hs2.1 (2) (by omega); omega⟩ (fun _ => by have := goesFor_rg hsl (m := n) (by omega) (by omega); have := hs2.1 (99 + 4 * n + 2) (by omega); have := hs2.1 (2) (by omega); omega) (fun _ _ _ _ => by have := goesFor_rg hsl (m := n) (by omega) (by omega); have := hs2.1 (99 + 4 * n + 2) (by omega); have := hs2.1 (2) (by omega); omega)
            refine r_iinc C 4 [(1, .int (iI (n + 1))), (4, .int (iI (((payS (yrL s dl n) n (goesFor (yrL s dl n) n)) (99 + 4 * n + 2)) + ((payS (yrL s dl n) n (goesFor (yrL s dl n) n)) (2))))), (3, .int (iB (cost (yrL s dl n) n (goesFor (yrL s dl n) n) ≤ (yrL s dl n) (99 + 4 * n + 2)))), (2, .int (iI (goesFor (yrL s dl n) n))), (0, .ref (a 0))] dX4_year_82 hl rfl (by decide) rfl (fun ls hl => ?_)
            refine r_goto C (tgt := 2) dX4_year_85 (by decide) ?_
            have ew4 : wM a k (up (payS (yrL s dl n) n (goesFor (yrL s dl n) n)) (99 + 4 * n + 2) (((payS (yrL s dl n) n (goesFor (yrL s dl n) n)) (99 + 4 * n + 2)) + ((payS (yrL s dl n) n (goesFor (yrL s dl n) n)) (2)))) kp ot sd st sp tp bi si nu mo ik dl tl ta fr to va iw = wM a k (yrL s dl (n + 1)) kp ot sd st sp tp bi si nu mo ik dl tl ta fr to va iw := (by first | (simp only [yrL, yrM, yrG, h1, h2, h3, h4, not_true_eq_false, not_false_eq_true, and_true, true_and, and_false, false_and, or_true, true_or, or_false, false_or, if_true, if_false, ne_eq, reduceIte]; done) | (exfalso; omega))
            exact ihn ls H locs (lv_eq (lv_sub hl [4, 0] rfl) rfl) (va_eq hP ew4) (va_eqD hD ew4) hS
          · refine r_sipush C dX4_year_73 (by decide) ?_
            refine r_goto C (tgt := 81) dX4_year_76 (by decide) ?_
            refine r_iast C hP hD hS 1 (wM a k (up (payS (yrL s dl n) n (goesFor (yrL s dl n) n)) (99 + 4 * n + 2) 9999) kp ot sd st sp tp bi si nu mo ik dl tl ta fr to va iw) rfl dX4_year_81 (by omega) (by omega) (by decide) rfl (fun H locs hP hD hS => ?_)
            have hs5 : Ok (up (payS (yrL s dl n) n (goesFor (yrL s dl n) n)) (99 + 4 * n + 2) 9999) := ok_up hs2 ⟨by omega, by omega⟩ ⟨by omega, by omega⟩ (fun _ => by omega) (fun _ _ _ _ => by omega)
            refine r_iinc C 4 [(1, .int (iI (n + 1))), (4, .int (iI (((payS (yrL s dl n) n (goesFor (yrL s dl n) n)) (99 + 4 * n + 2)) + ((payS (yrL s dl n) n (goesFor (yrL s dl n) n)) (2))))), (3, .int (iB (cost (yrL s dl n) n (goesFor (yrL s dl n) n) ≤ (yrL s dl n) (99 + 4 * n + 2)))), (2, .int (iI (goesFor (yrL s dl n) n))), (0, .ref (a 0))] dX4_year_82 hl rfl (by decide) rfl (fun ls hl => ?_)
            refine r_goto C (tgt := 2) dX4_year_85 (by decide) ?_
            have ew6 : wM a k (up (payS (yrL s dl n) n (goesFor (yrL s dl n) n)) (99 + 4 * n + 2) 9999) kp ot sd st sp tp bi si nu mo ik dl tl ta fr to va iw = wM a k (yrL s dl (n + 1)) kp ot sd st sp tp bi si nu mo ik dl tl ta fr to va iw := (by first | (simp only [yrL, yrM, yrG, h1, h2, h3, h4, not_true_eq_false, not_false_eq_true, and_true, true_and, and_false, false_and, or_true, true_or, or_false, false_or, if_true, if_false, ne_eq, reduceIte]; done) | (exfalso; omega))
            exact ihn ls H locs (lv_eq (lv_sub hl [4, 0] rfl) rfl) (va_eq hP ew6) (va_eqD hD ew6) hS
      · refine r_iconst C dX4_year_20 ?_
        refine r_goto C (tgt := 29) dX4_year_21 (by decide) ?_
        refine r_istore_n C [(2, .int (iI (-1))), (0, .ref (a 0)), (1, .int (iI n))] dX4_year_29 rfl hl (by decide) rfl (fun ls hl => ?_)
        refine r_iload_n C dX4_year_30 rfl (lv_at hl 0 rfl) ?_
        refine r_if_lt C (tgt := 82) dX4_year_31 (by decide) ⟨by decide, by decide⟩ (fun h5 => ?_) (fun h5 => ?_)
        · refine r_iinc C 2 [(1, .int (iI (n + 1))), (2, .int (iI (-1))), (0, .ref (a 0))] dX4_year_82 hl rfl (by decide) rfl (fun ls hl => ?_)
          refine r_goto C (tgt := 2) dX4_year_85 (by decide) ?_
          have ew7 : wM a k (yrL s dl n) kp ot sd st sp tp bi si nu mo ik dl tl ta fr to va iw = wM a k (yrL s dl (n + 1)) kp ot sd st sp tp bi si nu mo ik dl tl ta fr to va iw := (by first | (simp only [yrL, yrM, yrG, h1, eq_true h2, h5, not_true_eq_false, not_false_eq_true, and_true, true_and, and_false, false_and, or_true, true_or, or_false, false_or, if_true, if_false, ne_eq, reduceIte]; done) | (exfalso; omega))
          exact ihn ls H locs (lv_eq (lv_sub hl [2, 0] rfl) rfl) (va_eq hP ew7) (va_eqD hD ew7) hS
        · exact absurd h5 (by decide)
  · have hl : lv_has ls 5 [(0, .ref (a 0)), (1, .int (iI ((s 0).toNat)))] := hl
    have hP : va_P D vwCl (wM a k (yrL s dl (s 0).toNat) kp ot sd st sp tp bi si nu mo ik dl tl ta fr to va iw) H := hP
    have hD : va_D _ (wM a k (yrL s dl (s 0).toNat) kp ot sd st sp tp bi si nu mo ik dl tl ta fr to va iw) := hD
    have hsl : Ok (yrL s dl (s 0).toNat) := ok_yrL hs dl ((s 0).toNat) (by omega)
    have h01 : (yrL s dl (s 0).toNat) 0 = s 0 := yrL_lo (by decide) ((s 0).toNat)
    refine r_iload_n C dX4_year_2 rfl (lv_at hl 1 rfl) ?_
    refine r_aload_n C dX4_year_3 rfl (lv_at hl 0 rfl) ?_
    refine g_X4_7 C hP 0 rfl rfl dX4_year_4 ?_
    refine r_iconst C dX4_year_7 ?_
    refine r_iald C hP 1 rfl dX4_year_8 (by omega) (by omega) (by decide) ?_
    refine r_icmp_ge C (tgt := 88) dX4_year_9 (by decide) (by exact ⟨by omega, by omega⟩) (by have := hsl.1 (0) (by omega); exact ⟨by omega, by omega⟩) (fun h6 => ?_) (fun h6 => ?_)
    · refine r_aload_n C dX4_year_88 rfl (lv_at hl 0 rfl) ?_
      refine g_X4_7 C hP 0 rfl rfl dX4_year_89 ?_
      refine r_iconst C dX4_year_92 ?_
      refine r_dup2 C dX4_year_93 rfl rfl ?_
      refine r_iald C hP 1 rfl dX4_year_94 (by omega) (by omega) (by decide) ?_
      refine r_iconst C dX4_year_95 ?_
      refine r_iadd C dX4_year_96 ?_
      refine r_iast C hP hD hS 1 (wM a k (up (yrL s dl (s 0).toNat) 1 (((yrL s dl (s 0).toNat) (1)) + 1)) kp ot sd st sp tp bi si nu mo ik dl tl ta fr to va iw) rfl dX4_year_97 (by omega) (by omega) (by decide) rfl (fun H locs hP hD hS => ?_)
      have hs8 : Ok (up (yrL s dl (s 0).toNat) 1 (((yrL s dl (s 0).toNat) (1)) + 1)) := ok_year hsl _
      exact r_vretW C hP hS rfl dX4_year_98
    · exfalso; omega
set_option maxHeartbeats 4000000 in
set_option maxRecDepth 100000 in
theorem cM_goesOn {n0 : Int} (hn0 : 0 ≤ n0) (hn1 : n0 ≤ 100) (hs : Ok s) (hdl : In32 dl) : MW l yX4_goesOn cX4_goesOn 3 none 5 122 D k [.ref (a 0), .int (iI n0)] (wM a k s kp ot sd st sp tp bi si nu mo ik dl tl ta fr to va iw) (wM a k (ysN s dl n0.toNat) kp ot sd st sp tp bi si nu mo ik dl tl ta fr to va iw) none := by
  refine MW.mk RX4 rfl (by decide +kernel) (Nat.le_of_ble_eq_true rfl) (fun p e U m0 below meth cd ls C hP hD hS hl => ?_)
  have hl : lv_has ls 3 [(0, .ref (a 0)), (1, .int (iI n0))] := hl
  have hdl1 := hdl.1
  have hdl2 := hdl.2
  refine r_iconst C dX4_goesOn_0 ?_
  refine r_istore_n C [(2, .int (iI 0)), (0, .ref (a 0)), (1, .int (iI n0))] dX4_goesOn_1 rfl hl (by decide) rfl (fun ls hl => ?_)
  refine r_loopW (fun n : Nat => [(0, .ref (a 0)), (1, .int (iI n0)), (2, .int (iI n))]) (fun n : Nat => wM a k (ysN s dl n) kp ot sd st sp tp bi si nu mo ik dl tl ta fr to va iw) (n0.toNat) (lv_eq (lv_sub hl [1, 2, 0] rfl) rfl) (va_eq hP rfl) (va_eqD hD rfl) hS (fun n hn ihn ls H locs hl hP hD hS => ?_) (fun ls H locs hl hP hD hS => ?_)
  · have hl : lv_has ls 3 [(0, .ref (a 0)), (1, .int (iI n0)), (2, .int (iI n))] := hl
    have hP : va_P D vwCl (wM a k (ysN s dl n) kp ot sd st sp tp bi si nu mo ik dl tl ta fr to va iw) H := hP
    have hD : va_D _ (wM a k (ysN s dl n) kp ot sd st sp tp bi si nu mo ik dl tl ta fr to va iw) := hD
    have hsl : Ok (ysN s dl n) := ok_ysN hs dl n
    refine r_iload_n C dX4_goesOn_2 rfl (lv_at hl 2 rfl) ?_
    refine r_iload_n C dX4_goesOn_3 rfl (lv_at hl 1 rfl) ?_
    refine r_icmp_ge C (tgt := 17) dX4_goesOn_4 (by decide) (by exact ⟨by omega, by omega⟩) (by exact ⟨by omega, by omega⟩) (fun h1 => ?_) (fun h1 => ?_)
    · exfalso; omega
    · refine r_aload_n C dX4_goesOn_7 rfl (lv_at hl 0 rfl) ?_
      refine r_cVW0 C m_X4_135 (cM_year hsl (by exact ⟨by omega, by omega⟩)) hP hD hS [0, 1, 2, 3, 4, 5, 6, 7, 8, 9, 10, 11] (wM a k (year (ysN s dl n) dl) kp ot sd st sp tp bi si nu mo ik dl tl ta fr to va iw) rfl rfl rfl rfl rfl rfl rfl hl.1 dX4_goesOn_8 (fun H locs hP hD hS => ?_)
      have hs1 : Ok (year (ysN s dl n) dl) := ok_yearS hsl dl
      refine r_iinc C 2 [(2, .int (iI (n + 1))), (0, .ref (a 0)), (1, .int (iI n0))] dX4_goesOn_11 hl rfl (by decide) rfl (fun ls hl => ?_)
      refine r_goto C (tgt := 2) dX4_goesOn_14 (by decide) ?_
      exact ihn ls H locs (lv_eq (lv_sub hl [1, 2, 0] rfl) rfl) (va_eq hP rfl) (va_eqD hD rfl) hS
  · have hl : lv_has ls 3 [(0, .ref (a 0)), (1, .int (iI n0)), (2, .int (iI n0.toNat))] := hl
    have hP : va_P D vwCl (wM a k (ysN s dl n0.toNat) kp ot sd st sp tp bi si nu mo ik dl tl ta fr to va iw) H := hP
    have hD : va_D _ (wM a k (ysN s dl n0.toNat) kp ot sd st sp tp bi si nu mo ik dl tl ta fr to va iw) := hD
    have hsl : Ok (ysN s dl n0.toNat) := ok_ysN hs dl n0.toNat
    refine r_iload_n C dX4_goesOn_2 rfl (lv_at hl 2 rfl) ?_
    refine r_iload_n C dX4_goesOn_3 rfl (lv_at hl 1 rfl) ?_
    refine r_icmp_ge C (tgt := 17) dX4_goesOn_4 (by decide) (by exact ⟨by omega, by omega⟩) (by exact ⟨by omega, by omega⟩) (fun h2 => ?_) (fun h2 => ?_)
    · exact r_vretW C hP hS rfl dX4_goesOn_17
    · exfalso; omega
set_option maxHeartbeats 4000000 in
set_option maxRecDepth 100000 in
theorem cM_wrongOn {n0 : Int} (hn0 : 0 ≤ n0) (hn1 : n0 ≤ 100) (hs : Ok s) (hdl : In32 dl) : MW l yX4_wrongOn cX4_wrongOn 2 (some .int) 6 144 D k [.ref (a 0), .int (iI n0)] (wM a k s kp ot sd st sp tp bi si nu mo ik dl tl ta fr to va iw) (wM a k s kp ot (cpN s sd 123) st sp tp bi si nu mo ik dl tl ta fr to va iw) (some (.int (iI (wrongMany (ysN s dl n0.toNat))))) := by
  refine MW.mk RX4 rfl (by decide +kernel) (Nat.le_of_ble_eq_true rfl) (fun p e U m0 below meth cd ls C hP hD hS hl => ?_)
  have hl : lv_has ls 2 [(0, .ref (a 0)), (1, .int (iI n0))] := hl
  have hdl1 := hdl.1
  have hdl2 := hdl.2
  refine r_aload_n C dX4_wrongOn_0 rfl (lv_at hl 0 rfl) ?_
  refine r_cVW0 C m_X4_149 cM_laysAside hP hD hS [0, 1, 2, 3, 4, 5, 6, 7, 8, 9, 10, 11] (wM a k s kp ot (cpN s sd 123) st sp tp bi si nu mo ik dl tl ta fr to va iw) rfl rfl rfl rfl rfl rfl rfl hl.1 dX4_wrongOn_1 (fun H locs hP hD hS => ?_)
  refine r_aload_n C dX4_wrongOn_4 rfl (lv_at hl 0 rfl) ?_
  refine r_iload_n C dX4_wrongOn_5 rfl (lv_at hl 1 rfl) ?_
  refine r_cVW1 C m_X4_140 (cM_goesOn (by omega) (by omega) hs (by exact ⟨by omega, by omega⟩)) hP hD hS [0, 1, 2, 3, 4, 5, 6, 7, 8, 9, 10, 11] (wM a k (ysN s dl n0.toNat) kp ot (cpN s sd 123) st sp tp bi si nu mo ik dl tl ta fr to va iw) rfl rfl rfl rfl rfl rfl rfl hl.1 dX4_wrongOn_6 (fun H locs hP hD hS => ?_)
  have hs1 : Ok (ysN s dl n0.toNat) := ok_ysN hs dl _
  refine r_aload_n C dX4_wrongOn_9 rfl (lv_at hl 0 rfl) ?_
  refine r_aload_n C dX4_wrongOn_10 rfl (lv_at hl 0 rfl) ?_
  refine r_cVR0 C m_X4_131 (cM_wrongMany hs1) hP rfl rfl hl.1 dX4_wrongOn_11 ?_
  refine r_cVW1 C m_X4_152 (cM_takesBack2 hs.2.1 hs1.2.1) hP hD hS [0, 1, 2, 3, 4, 5, 6, 7, 8, 9, 10, 11] (wM a k s kp ot (cpN s sd 123) st sp tp bi si nu mo ik dl tl ta fr to va iw) rfl rfl rfl rfl rfl rfl rfl hl.1 dX4_wrongOn_14 (fun H locs hP hD hS => ?_)
  exact r_iretW C hP hS rfl rfl dX4_wrongOn_17
end MODEL
