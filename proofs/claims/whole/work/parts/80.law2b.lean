section LAWC
variable {p : Program} {l : Launch} {e : Env} {s₀ : State} {m : MethodId} {below : List Frame} {meth : Method} {cd : Code} {b L : Nat} {xs : Nat → Int32} {Z : SZ} {D : va_G} {k : Nat → ClassId} {a d : Nat → Nat} {H : Heap} {locs : List Loc} {ls : Array Slot} {i : Nat} {Q : State → Prop}
variable {s t kq kp ot sd st sp tp bi si : Int → Int} {nu mo : Int → Int64} {tw : Int64} {y ty ky ta tk sa en nm ik tl fr to va iw : Int}
set_option maxRecDepth 100000 in
set_option maxHeartbeats 400000 in
theorem lw_c13 (hE : lw_E p s₀ m meth cd b L xs Z D k) (hi : i + 6 ≤ L) (hl : lv_has ls 4 [(3, .int (iI (i : Int))), (2, .ref (d 0)), (1, .ref (a 0)), (0, .ref b)]) (hW : lw_W Z.1 D (wT a k s (lB (wrF s)) y t tw ty kq (lB (wrF kq)) ky tp ta tk sa en nm bi si nu st ik) (wM d k s kp ot sd st sp tp bi si nu mo ik (-1) tl ta fr to va iw) s₀.heap H locs) (hI : lw_I s kq kp tp bi si y ky ta nm ik va) (kk : lw_K 1343 p l e s₀ m b below meth cd Z D k a d ls Q) : W p l e room_1 s₀ m #[Value.ref b] below meth cd H locs 600000 7302250 Q (F0 m 614 ls []) := by
  obtain ⟨C, hX, hbl, hZ, hSV, hL⟩ := hE
  have hbA : ¬ (fun q : Nat => Z.1 ≤ q) b := by show ¬ Z.1 ≤ b; rw [hZ]; exact Nat.not_le.mpr hbl
  obtain ⟨hT, hM, hDT, hDM, hAp, hS⟩ := hW
  have l0 := lv_at hl 3 rfl
  have l1 := lv_at hl 2 rfl
  have l2 := lv_at hl 1 rfl
  have l3 := lv_at hl 0 rfl
  refine r_aload_n (pc := 614) C dL_law_614 rfl l1 ?_
  refine r_arg (pc := 615) C hX hbl hbA hS l0 l3 1 rfl (by omega) hL dL_law_615 dL_law_616 dL_law_617 dL_law_618 dL_law_619 ?_
  refine r_arg (pc := 620) C hX hbl hbA hS l0 l3 2 rfl (by omega) hL dL_law_620 dL_law_621 dL_law_622 dL_law_623 dL_law_624 ?_
  refine r_arg (pc := 625) C hX hbl hbA hS l0 l3 3 rfl (by omega) hL dL_law_625 dL_law_626 dL_law_627 dL_law_628 dL_law_629 ?_
  refine r_lc3 (pc := 630) C m_L_69 (cT_on (l := l) (D := D) (k := k) (a := a) (s := s) (t := t) (tw := tw) (ty := ty) (kq := kq) (ky := ky) (tp := tp) (ta := ta) (tk := tk) (sa := sa) (en := en) (nm := nm) (bi := bi) (si := si) (nu := nu) (st := st) (ik := ik) (y := y) (m := (xs (i + 1)).toInt) (n0 := (xs (i + 2)).toInt) (w := (xs (i + 3)).toInt) (in32_of _) (in32_of _) (in32_of _) hI.2.1.1) hT hM hDT hAp hS (fun _ => wT_ad.trans wT_ad.symm) rfl rfl hl.1 dL_law_630 (fun x H locs hT hM hDT hAp hS => ?_) ⟨(Nat.le_of_ble_eq_true rfl), (Nat.le_of_ble_eq_true rfl)⟩ (Nat.le_of_ble_eq_true rfl) ⟨(Nat.le_of_ble_eq_true rfl), (Nat.le_of_ble_eq_true rfl)⟩
  refine r_aload_n (pc := 633) C dL_law_633 rfl l2 ?_
  refine r_arg (pc := 634) C hX hbl hbA hS l0 l3 1 rfl (by omega) hL dL_law_634 dL_law_635 dL_law_636 dL_law_637 dL_law_638 ?_
  refine r_arg (pc := 639) C hX hbl hbA hS l0 l3 2 rfl (by omega) hL dL_law_639 dL_law_640 dL_law_641 dL_law_642 dL_law_643 ?_
  refine r_arg (pc := 644) C hX hbl hbA hS l0 l3 3 rfl (by omega) hL dL_law_644 dL_law_645 dL_law_646 dL_law_647 dL_law_648 ?_
  refine r_lc3 (pc := 649) C m_L_72 (cM_on (l := l) (D := D) (k := k) (a := d) (s := s) (kp := kp) (ot := ot) (sd := sd) (st := st) (sp := sp) (tp := tp) (bi := bi) (si := si) (nu := nu) (mo := mo) (ik := ik) (tl := tl) (ta := ta) (fr := fr) (to := to) (va := va) (iw := iw) (m := (xs (i + 1)).toInt) (n0 := (xs (i + 2)).toInt) (w := (xs (i + 3)).toInt) (in32_of _) (in32_of _) (in32_of _) hI.2.1.1) hM hT hDM hAp.sy hS (fun _ => wM_ad.trans wM_ad.symm) rfl rfl hl.1 dL_law_649 (fun x' H locs hM hT hDM hAp hS => ?_) ⟨(Nat.le_of_ble_eq_true rfl), (Nat.le_of_ble_eq_true rfl)⟩ (Nat.le_of_ble_eq_true rfl) ⟨(Nat.le_of_ble_eq_true rfl), (Nat.le_of_ble_eq_true rfl)⟩
  refine r_same (pc := 652) (tgt := 1343) C dL_law_652 (by decide) ?_
  exact kk _ _ _ _ _ _ _ _ _ _ _ _ _ _ _ _ _ _ _ _ _ _ _ _ _ _ _ _ _ _ ⟨hT, hM, hDT, hDM, hAp.sy, hS⟩ (hI.st (inv_eq hI.2.1 (rd_on _ _ _ _ _)))
set_option maxRecDepth 100000 in
set_option maxHeartbeats 400000 in
theorem lw_c14 (hE : lw_E p s₀ m meth cd b L xs Z D k) (hi : i + 6 ≤ L) (hl : lv_has ls 4 [(3, .int (iI (i : Int))), (2, .ref (d 0)), (1, .ref (a 0)), (0, .ref b)]) (hW : lw_W Z.1 D (wT a k s (lB (wrF s)) y t tw ty kq (lB (wrF kq)) ky tp ta tk sa en nm bi si nu st ik) (wM d k s kp ot sd st sp tp bi si nu mo ik (-1) tl ta fr to va iw) s₀.heap H locs) (hI : lw_I s kq kp tp bi si y ky ta nm ik va) (kk : lw_K 1343 p l e s₀ m b below meth cd Z D k a d ls Q) : W p l e room_1 s₀ m #[Value.ref b] below meth cd H locs 600000 7302250 Q (F0 m 657 ls []) := by
  obtain ⟨C, hX, hbl, hZ, hSV, hL⟩ := hE
  have hbA : ¬ (fun q : Nat => Z.1 ≤ q) b := by show ¬ Z.1 ≤ b; rw [hZ]; exact Nat.not_le.mpr hbl
  obtain ⟨hT, hM, hDT, hDM, hAp, hS⟩ := hW
  have l0 := lv_at hl 3 rfl
  have l1 := lv_at hl 2 rfl
  have l2 := lv_at hl 1 rfl
  have l3 := lv_at hl 0 rfl
  refine r_aload_n (pc := 657) C dL_law_657 rfl l1 ?_
  refine r_arg (pc := 658) C hX hbl hbA hS l0 l3 1 rfl (by omega) hL dL_law_658 dL_law_659 dL_law_660 dL_law_661 dL_law_662 ?_
  refine r_lc1 (pc := 663) C m_L_73 (cT_wrong (l := l) (D := D) (k := k) (a := a) (s := s) (t := t) (tw := tw) (ty := ty) (kq := kq) (ky := ky) (tp := tp) (ta := ta) (tk := tk) (sa := sa) (en := en) (nm := nm) (bi := bi) (si := si) (nu := nu) (st := st) (ik := ik) (y := y) (n0 := (xs (i + 1)).toInt) (in32_of _) hI.2.1.1) hT hM hDT hAp hS (fun _ => wT_ad.trans wT_ad.symm) rfl rfl hl.1 dL_law_663 (fun x H locs hT hM hDT hAp hS => ?_) ⟨(Nat.le_of_ble_eq_true rfl), (Nat.le_of_ble_eq_true rfl)⟩ (Nat.le_of_ble_eq_true rfl) ⟨(Nat.le_of_ble_eq_true rfl), (Nat.le_of_ble_eq_true rfl)⟩
  refine r_aload_n (pc := 666) C dL_law_666 rfl l2 ?_
  refine r_arg (pc := 667) C hX hbl hbA hS l0 l3 1 rfl (by omega) hL dL_law_667 dL_law_668 dL_law_669 dL_law_670 dL_law_671 ?_
  refine r_lc1 (pc := 672) C m_L_76 (cM_wrong (l := l) (D := D) (k := k) (a := d) (s := s) (kp := kp) (ot := ot) (sd := sd) (st := st) (sp := sp) (tp := tp) (bi := bi) (si := si) (nu := nu) (mo := mo) (ik := ik) (tl := tl) (ta := ta) (fr := fr) (to := to) (va := va) (iw := iw) (n0 := (xs (i + 1)).toInt) (in32_of _) hI.2.1.1) hM hT hDM hAp.sy hS (fun _ => wM_ad.trans wM_ad.symm) rfl rfl hl.1 dL_law_672 (fun x' H locs hM hT hDM hAp hS => ?_) ⟨(Nat.le_of_ble_eq_true rfl), (Nat.le_of_ble_eq_true rfl)⟩ (Nat.le_of_ble_eq_true rfl) ⟨(Nat.le_of_ble_eq_true rfl), (Nat.le_of_ble_eq_true rfl)⟩
  refine r_same (pc := 675) (tgt := 1343) C dL_law_675 (by decide) ?_
  exact kk _ _ _ _ _ _ _ _ _ _ _ _ _ _ _ _ _ _ _ _ _ _ _ _ _ _ _ _ _ _ ⟨hT, hM, hDT, hDM, hAp.sy, hS⟩ (hI.st (inv_eq hI.2.1 (rd_wrong _ _ _)))
set_option maxRecDepth 100000 in
set_option maxHeartbeats 400000 in
theorem lw_c15 (hE : lw_E p s₀ m meth cd b L xs Z D k) (hi : i + 6 ≤ L) (hl : lv_has ls 4 [(3, .int (iI (i : Int))), (2, .ref (d 0)), (1, .ref (a 0)), (0, .ref b)]) (hW : lw_W Z.1 D (wT a k s (lB (wrF s)) y t tw ty kq (lB (wrF kq)) ky tp ta tk sa en nm bi si nu st ik) (wM d k s kp ot sd st sp tp bi si nu mo ik (-1) tl ta fr to va iw) s₀.heap H locs) (hI : lw_I s kq kp tp bi si y ky ta nm ik va) (kk : lw_K 1343 p l e s₀ m b below meth cd Z D k a d ls Q) : W p l e room_1 s₀ m #[Value.ref b] below meth cd H locs 600000 7302250 Q (F0 m 680 ls []) := by
  obtain ⟨C, hX, hbl, hZ, hSV, hL⟩ := hE
  have hbA : ¬ (fun q : Nat => Z.1 ≤ q) b := by show ¬ Z.1 ≤ b; rw [hZ]; exact Nat.not_le.mpr hbl
  obtain ⟨hT, hM, hDT, hDM, hAp, hS⟩ := hW
  have l0 := lv_at hl 3 rfl
  have l1 := lv_at hl 2 rfl
  have l2 := lv_at hl 1 rfl
  have l3 := lv_at hl 0 rfl
  refine r_aload_n (pc := 680) C dL_law_680 rfl l1 ?_
  refine r_lc0 (pc := 681) C m_L_77 (cT_done (l := l) (D := D) (k := k) (a := a) (s := s) (t := t) (tw := tw) (ty := ty) (kq := kq) (ky := ky) (tp := tp) (ta := ta) (tk := tk) (sa := sa) (en := en) (nm := nm) (bi := bi) (si := si) (nu := nu) (st := st) (ik := ik) (y := y) hI.2.1.1) hT hM hDT hAp hS (fun _ => wT_ad.trans wT_ad.symm) rfl rfl hl.1 dL_law_681 (fun x H locs hT hM hDT hAp hS => ?_) ⟨(Nat.le_of_ble_eq_true rfl), (Nat.le_of_ble_eq_true rfl)⟩ (Nat.le_of_ble_eq_true rfl) ⟨(Nat.le_of_ble_eq_true rfl), (Nat.le_of_ble_eq_true rfl)⟩
  refine r_aload_n (pc := 684) C dL_law_684 rfl l2 ?_
  refine r_lc0 (pc := 685) C m_L_81 (cM_done (l := l) (D := D) (k := k) (a := d) (s := s) (kp := kp) (ot := ot) (sd := sd) (st := st) (sp := sp) (tp := tp) (bi := bi) (si := si) (nu := nu) (mo := mo) (ik := ik) (tl := tl) (ta := ta) (fr := fr) (to := to) (va := va) (iw := iw) hI.2.1.1) hM hT hDM hAp.sy hS (fun _ => wM_ad.trans wM_ad.symm) rfl rfl hl.1 dL_law_685 (fun x' H locs hM hT hDM hAp hS => ?_) ⟨(Nat.le_of_ble_eq_true rfl), (Nat.le_of_ble_eq_true rfl)⟩ (Nat.le_of_ble_eq_true rfl) ⟨(Nat.le_of_ble_eq_true rfl), (Nat.le_of_ble_eq_true rfl)⟩
  refine r_same (pc := 688) (tgt := 1343) C dL_law_688 (by decide) ?_
  exact kk _ _ _ _ _ _ _ _ _ _ _ _ _ _ _ _ _ _ _ _ _ _ _ _ _ _ _ _ _ _ ⟨hT, hM, hDT, hDM, hAp.sy, hS⟩ (hI.st (inv_eq hI.2.1 (rd_done _ _)))
set_option maxRecDepth 100000 in
set_option maxHeartbeats 400000 in
theorem lw_c16 (hE : lw_E p s₀ m meth cd b L xs Z D k) (hi : i + 6 ≤ L) (hl : lv_has ls 4 [(3, .int (iI (i : Int))), (2, .ref (d 0)), (1, .ref (a 0)), (0, .ref b)]) (hW : lw_W Z.1 D (wT a k s (lB (wrF s)) y t tw ty kq (lB (wrF kq)) ky tp ta tk sa en nm bi si nu st ik) (wM d k s kp ot sd st sp tp bi si nu mo ik (-1) tl ta fr to va iw) s₀.heap H locs) (hI : lw_I s kq kp tp bi si y ky ta nm ik va) (kk : lw_K 1343 p l e s₀ m b below meth cd Z D k a d ls Q) : W p l e room_1 s₀ m #[Value.ref b] below meth cd H locs 600000 7302250 Q (F0 m 693 ls []) := by
  obtain ⟨C, hX, hbl, hZ, hSV, hL⟩ := hE
  have hbA : ¬ (fun q : Nat => Z.1 ≤ q) b := by show ¬ Z.1 ≤ b; rw [hZ]; exact Nat.not_le.mpr hbl
  obtain ⟨hT, hM, hDT, hDM, hAp, hS⟩ := hW
  have l0 := lv_at hl 3 rfl
  have l1 := lv_at hl 2 rfl
  have l2 := lv_at hl 1 rfl
  have l3 := lv_at hl 0 rfl
  refine r_aload_n (pc := 693) C dL_law_693 rfl l1 ?_
  refine r_arg (pc := 694) C hX hbl hbA hS l0 l3 1 rfl (by omega) hL dL_law_694 dL_law_695 dL_law_696 dL_law_697 dL_law_698 ?_
  refine r_lc1 (pc := 699) C m_L_82 (cT_when (l := l) (D := D) (k := k) (a := a) (s := s) (t := t) (tw := tw) (ty := ty) (kq := kq) (ky := ky) (tp := tp) (ta := ta) (tk := tk) (sa := sa) (en := en) (nm := nm) (bi := bi) (si := si) (nu := nu) (st := st) (ik := ik) (y := y) (c0 := (xs (i + 1)).toInt) (in32_of _) hI.2.1.1) hT hM hDT hAp hS (fun _ => wT_ad.trans wT_ad.symm) rfl rfl hl.1 dL_law_699 (fun x H locs hT hM hDT hAp hS => ?_) ⟨(Nat.le_of_ble_eq_true rfl), (Nat.le_of_ble_eq_true rfl)⟩ (Nat.le_of_ble_eq_true rfl) ⟨(Nat.le_of_ble_eq_true rfl), (Nat.le_of_ble_eq_true rfl)⟩
  refine r_aload_n (pc := 702) C dL_law_702 rfl l2 ?_
  refine r_arg (pc := 703) C hX hbl hbA hS l0 l3 1 rfl (by omega) hL dL_law_703 dL_law_704 dL_law_705 dL_law_706 dL_law_707 ?_
  refine r_lc1 (pc := 708) C m_L_85 (cM_when (l := l) (D := D) (k := k) (a := d) (s := s) (kp := kp) (ot := ot) (sd := sd) (st := st) (sp := sp) (tp := tp) (bi := bi) (si := si) (nu := nu) (mo := mo) (ik := ik) (tl := tl) (ta := ta) (fr := fr) (to := to) (va := va) (iw := iw) (c := (xs (i + 1)).toInt) (in32_of _) hI.2.1.1) hM hT hDM hAp.sy hS (fun _ => wM_ad.trans wM_ad.symm) rfl rfl hl.1 dL_law_708 (fun x' H locs hM hT hDM hAp hS => ?_) ⟨(Nat.le_of_ble_eq_true rfl), (Nat.le_of_ble_eq_true rfl)⟩ (Nat.le_of_ble_eq_true rfl) ⟨(Nat.le_of_ble_eq_true rfl), (Nat.le_of_ble_eq_true rfl)⟩
  refine r_same (pc := 711) (tgt := 1343) C dL_law_711 (by decide) ?_
  exact kk _ _ _ _ _ _ _ _ _ _ _ _ _ _ _ _ _ _ _ _ _ _ _ _ _ _ _ _ _ _ ⟨hT, hM, hDT, hDM, hAp.sy, hS⟩ (hI.st (inv_eq hI.2.1 (rd_when _ _ _)))
set_option maxRecDepth 100000 in
set_option maxHeartbeats 400000 in
theorem lw_c17 (hE : lw_E p s₀ m meth cd b L xs Z D k) (hi : i + 6 ≤ L) (hl : lv_has ls 4 [(3, .int (iI (i : Int))), (2, .ref (d 0)), (1, .ref (a 0)), (0, .ref b)]) (hW : lw_W Z.1 D (wT a k s (lB (wrF s)) y t tw ty kq (lB (wrF kq)) ky tp ta tk sa en nm bi si nu st ik) (wM d k s kp ot sd st sp tp bi si nu mo ik (-1) tl ta fr to va iw) s₀.heap H locs) (hI : lw_I s kq kp tp bi si y ky ta nm ik va) (kk : lw_K 1343 p l e s₀ m b below meth cd Z D k a d ls Q) : W p l e room_1 s₀ m #[Value.ref b] below meth cd H locs 600000 7302250 Q (F0 m 716 ls []) := by
  obtain ⟨C, hX, hbl, hZ, hSV, hL⟩ := hE
  have hbA : ¬ (fun q : Nat => Z.1 ≤ q) b := by show ¬ Z.1 ≤ b; rw [hZ]; exact Nat.not_le.mpr hbl
  obtain ⟨hT, hM, hDT, hDM, hAp, hS⟩ := hW
  have l0 := lv_at hl 3 rfl
  have l1 := lv_at hl 2 rfl
  have l2 := lv_at hl 1 rfl
  have l3 := lv_at hl 0 rfl
  refine r_aload_n (pc := 716) C dL_law_716 rfl l1 ?_
  refine r_arg (pc := 717) C hX hbl hbA hS l0 l3 1 rfl (by omega) hL dL_law_717 dL_law_718 dL_law_719 dL_law_720 dL_law_721 ?_
  refine r_lc1 (pc := 722) C m_L_86 (cT_cheapest (l := l) (D := D) (k := k) (a := a) (s := s) (t := t) (tw := tw) (ty := ty) (kq := kq) (ky := ky) (tp := tp) (ta := ta) (tk := tk) (sa := sa) (en := en) (nm := nm) (bi := bi) (si := si) (nu := nu) (st := st) (ik := ik) (y := y) (m := (xs (i + 1)).toInt) (in32_of _) hI.2.1.1) hT hM hDT hAp hS (fun _ => wT_ad.trans wT_ad.symm) rfl rfl hl.1 dL_law_722 (fun x H locs hT hM hDT hAp hS => ?_) ⟨(Nat.le_of_ble_eq_true rfl), (Nat.le_of_ble_eq_true rfl)⟩ (Nat.le_of_ble_eq_true rfl) ⟨(Nat.le_of_ble_eq_true rfl), (Nat.le_of_ble_eq_true rfl)⟩
  refine r_aload_n (pc := 725) C dL_law_725 rfl l2 ?_
  refine r_arg (pc := 726) C hX hbl hbA hS l0 l3 1 rfl (by omega) hL dL_law_726 dL_law_727 dL_law_728 dL_law_729 dL_law_730 ?_
  refine r_lc1 (pc := 731) C m_L_89 (cM_cheapest (l := l) (D := D) (k := k) (a := d) (s := s) (kp := kp) (ot := ot) (sd := sd) (st := st) (sp := sp) (tp := tp) (bi := bi) (si := si) (nu := nu) (mo := mo) (ik := ik) (tl := tl) (ta := ta) (fr := fr) (to := to) (va := va) (iw := iw) (m := (xs (i + 1)).toInt) (in32_of _) hI.2.1.1) hM hT hDM hAp.sy hS (fun _ => wM_ad.trans wM_ad.symm) rfl rfl hl.1 dL_law_731 (fun x' H locs hM hT hDM hAp hS => ?_) ⟨(Nat.le_of_ble_eq_true rfl), (Nat.le_of_ble_eq_true rfl)⟩ (Nat.le_of_ble_eq_true rfl) ⟨(Nat.le_of_ble_eq_true rfl), (Nat.le_of_ble_eq_true rfl)⟩
  refine r_same (pc := 734) (tgt := 1343) C dL_law_734 (by decide) ?_
  exact kk _ _ _ _ _ _ _ _ _ _ _ _ _ _ _ _ _ _ _ _ _ _ _ _ _ _ _ _ _ _ ⟨hT, hM, hDT, hDM, hAp.sy, hS⟩ (hI.st (inv_eq hI.2.1 (rd_cheapest _ _ _)))
set_option maxRecDepth 100000 in
set_option maxHeartbeats 400000 in
theorem lw_c18 (hE : lw_E p s₀ m meth cd b L xs Z D k) (hi : i + 6 ≤ L) (hl : lv_has ls 4 [(3, .int (iI (i : Int))), (2, .ref (d 0)), (1, .ref (a 0)), (0, .ref b)]) (hW : lw_W Z.1 D (wT a k s (lB (wrF s)) y t tw ty kq (lB (wrF kq)) ky tp ta tk sa en nm bi si nu st ik) (wM d k s kp ot sd st sp tp bi si nu mo ik (-1) tl ta fr to va iw) s₀.heap H locs) (hI : lw_I s kq kp tp bi si y ky ta nm ik va) (kk : lw_K 1343 p l e s₀ m b below meth cd Z D k a d ls Q) : W p l e room_1 s₀ m #[Value.ref b] below meth cd H locs 600000 7302250 Q (F0 m 739 ls []) := by
  obtain ⟨C, hX, hbl, hZ, hSV, hL⟩ := hE
  have hbA : ¬ (fun q : Nat => Z.1 ≤ q) b := by show ¬ Z.1 ≤ b; rw [hZ]; exact Nat.not_le.mpr hbl
  obtain ⟨hT, hM, hDT, hDM, hAp, hS⟩ := hW
  have l0 := lv_at hl 3 rfl
  have l1 := lv_at hl 2 rfl
  have l2 := lv_at hl 1 rfl
  have l3 := lv_at hl 0 rfl
  refine r_aload_n (pc := 739) C dL_law_739 rfl l1 ?_
  refine r_arg (pc := 740) C hX hbl hbA hS l0 l3 1 rfl (by omega) hL dL_law_740 dL_law_741 dL_law_742 dL_law_743 dL_law_744 ?_
  refine r_lc1 (pc := 745) C m_L_90 (cT_best (l := l) (D := D) (k := k) (a := a) (s := s) (t := t) (tw := tw) (ty := ty) (kq := kq) (ky := ky) (tp := tp) (ta := ta) (tk := tk) (sa := sa) (en := en) (nm := nm) (bi := bi) (si := si) (nu := nu) (st := st) (ik := ik) (y := y) (m := (xs (i + 1)).toInt) (in32_of _) hI.2.1.1) hT hM hDT hAp hS (fun _ => wT_ad.trans wT_ad.symm) rfl rfl hl.1 dL_law_745 (fun x H locs hT hM hDT hAp hS => ?_) ⟨(Nat.le_of_ble_eq_true rfl), (Nat.le_of_ble_eq_true rfl)⟩ (Nat.le_of_ble_eq_true rfl) ⟨(Nat.le_of_ble_eq_true rfl), (Nat.le_of_ble_eq_true rfl)⟩
  refine r_aload_n (pc := 748) C dL_law_748 rfl l2 ?_
  refine r_arg (pc := 749) C hX hbl hbA hS l0 l3 1 rfl (by omega) hL dL_law_749 dL_law_750 dL_law_751 dL_law_752 dL_law_753 ?_
  refine r_lc1 (pc := 754) C m_L_93 (cM_best (l := l) (D := D) (k := k) (a := d) (s := s) (kp := kp) (ot := ot) (sd := sd) (st := st) (sp := sp) (tp := tp) (bi := bi) (si := si) (nu := nu) (mo := mo) (ik := ik) (tl := tl) (ta := ta) (fr := fr) (to := to) (va := va) (iw := iw) (m := (xs (i + 1)).toInt) (in32_of _) hI.2.1.1) hM hT hDM hAp.sy hS (fun _ => wM_ad.trans wM_ad.symm) rfl rfl hl.1 dL_law_754 (fun x' H locs hM hT hDM hAp hS => ?_) ⟨(Nat.le_of_ble_eq_true rfl), (Nat.le_of_ble_eq_true rfl)⟩ (Nat.le_of_ble_eq_true rfl) ⟨(Nat.le_of_ble_eq_true rfl), (Nat.le_of_ble_eq_true rfl)⟩
  refine r_same (pc := 757) (tgt := 1343) C dL_law_757 (by decide) ?_
  exact kk _ _ _ _ _ _ _ _ _ _ _ _ _ _ _ _ _ _ _ _ _ _ _ _ _ _ _ _ _ _ ⟨hT, hM, hDT, hDM, hAp.sy, hS⟩ (hI.st (inv_eq hI.2.1 (rd_best _ _ _)))
set_option maxRecDepth 100000 in
set_option maxHeartbeats 400000 in
theorem lw_c19 (hE : lw_E p s₀ m meth cd b L xs Z D k) (hi : i + 6 ≤ L) (hl : lv_has ls 4 [(3, .int (iI (i : Int))), (2, .ref (d 0)), (1, .ref (a 0)), (0, .ref b)]) (hW : lw_W Z.1 D (wT a k s (lB (wrF s)) y t tw ty kq (lB (wrF kq)) ky tp ta tk sa en nm bi si nu st ik) (wM d k s kp ot sd st sp tp bi si nu mo ik (-1) tl ta fr to va iw) s₀.heap H locs) (hI : lw_I s kq kp tp bi si y ky ta nm ik va) (kk : lw_K 1343 p l e s₀ m b below meth cd Z D k a d ls Q) : W p l e room_1 s₀ m #[Value.ref b] below meth cd H locs 600000 7302250 Q (F0 m 762 ls []) := by
  obtain ⟨C, hX, hbl, hZ, hSV, hL⟩ := hE
  have hbA : ¬ (fun q : Nat => Z.1 ≤ q) b := by show ¬ Z.1 ≤ b; rw [hZ]; exact Nat.not_le.mpr hbl
  obtain ⟨hT, hM, hDT, hDM, hAp, hS⟩ := hW
  have l0 := lv_at hl 3 rfl
  have l1 := lv_at hl 2 rfl
  have l2 := lv_at hl 1 rfl
  have l3 := lv_at hl 0 rfl
  refine r_aload_n (pc := 762) C dL_law_762 rfl l1 ?_
  refine r_arg (pc := 763) C hX hbl hbA hS l0 l3 1 rfl (by omega) hL dL_law_763 dL_law_764 dL_law_765 dL_law_766 dL_law_767 ?_
  refine r_lc1 (pc := 768) C m_L_94 (cT_two (l := l) (D := D) (k := k) (a := a) (s := s) (t := t) (tw := tw) (ty := ty) (kq := kq) (ky := ky) (tp := tp) (ta := ta) (tk := tk) (sa := sa) (en := en) (nm := nm) (bi := bi) (si := si) (nu := nu) (st := st) (ik := ik) (y := y) (m := (xs (i + 1)).toInt) (in32_of _) hI.2.1.1) hT hM hDT hAp hS (fun _ => wT_ad.trans wT_ad.symm) rfl rfl hl.1 dL_law_768 (fun x H locs hT hM hDT hAp hS => ?_) ⟨(Nat.le_of_ble_eq_true rfl), (Nat.le_of_ble_eq_true rfl)⟩ (Nat.le_of_ble_eq_true rfl) ⟨(Nat.le_of_ble_eq_true rfl), (Nat.le_of_ble_eq_true rfl)⟩
  refine r_aload_n (pc := 771) C dL_law_771 rfl l2 ?_
  refine r_arg (pc := 772) C hX hbl hbA hS l0 l3 1 rfl (by omega) hL dL_law_772 dL_law_773 dL_law_774 dL_law_775 dL_law_776 ?_
  refine r_lc1 (pc := 777) C m_L_97 (cM_two (l := l) (D := D) (k := k) (a := d) (s := s) (kp := kp) (ot := ot) (sd := sd) (st := st) (sp := sp) (tp := tp) (bi := bi) (si := si) (nu := nu) (mo := mo) (ik := ik) (tl := tl) (ta := ta) (fr := fr) (to := to) (va := va) (iw := iw) (m := (xs (i + 1)).toInt) (in32_of _) hI.2.1.1) hM hT hDM hAp.sy hS (fun _ => wM_ad.trans wM_ad.symm) rfl rfl hl.1 dL_law_777 (fun x' H locs hM hT hDM hAp hS => ?_) ⟨(Nat.le_of_ble_eq_true rfl), (Nat.le_of_ble_eq_true rfl)⟩ (Nat.le_of_ble_eq_true rfl) ⟨(Nat.le_of_ble_eq_true rfl), (Nat.le_of_ble_eq_true rfl)⟩
  refine r_same (pc := 780) (tgt := 1343) C dL_law_780 (by decide) ?_
  exact kk _ _ _ _ _ _ _ _ _ _ _ _ _ _ _ _ _ _ _ _ _ _ _ _ _ _ _ _ _ _ ⟨hT, hM, hDT, hDM, hAp.sy, hS⟩ (hI.st (inv_eq hI.2.1 (rd_two _ _ _)))
set_option maxRecDepth 100000 in
set_option maxHeartbeats 400000 in
theorem lw_c20 (hE : lw_E p s₀ m meth cd b L xs Z D k) (hi : i + 6 ≤ L) (hl : lv_has ls 4 [(3, .int (iI (i : Int))), (2, .ref (d 0)), (1, .ref (a 0)), (0, .ref b)]) (hW : lw_W Z.1 D (wT a k s (lB (wrF s)) y t tw ty kq (lB (wrF kq)) ky tp ta tk sa en nm bi si nu st ik) (wM d k s kp ot sd st sp tp bi si nu mo ik (-1) tl ta fr to va iw) s₀.heap H locs) (hI : lw_I s kq kp tp bi si y ky ta nm ik va) (kk : lw_K 1343 p l e s₀ m b below meth cd Z D k a d ls Q) : W p l e room_1 s₀ m #[Value.ref b] below meth cd H locs 600000 7302250 Q (F0 m 785 ls []) := by
  obtain ⟨C, hX, hbl, hZ, hSV, hL⟩ := hE
  have hbA : ¬ (fun q : Nat => Z.1 ≤ q) b := by show ¬ Z.1 ≤ b; rw [hZ]; exact Nat.not_le.mpr hbl
  obtain ⟨hT, hM, hDT, hDM, hAp, hS⟩ := hW
  have l0 := lv_at hl 3 rfl
  have l1 := lv_at hl 2 rfl
  have l2 := lv_at hl 1 rfl
  have l3 := lv_at hl 0 rfl
  refine r_aload_n (pc := 785) C dL_law_785 rfl l1 ?_
  refine r_arg (pc := 786) C hX hbl hbA hS l0 l3 1 rfl (by omega) hL dL_law_786 dL_law_787 dL_law_788 dL_law_789 dL_law_790 ?_
  refine r_lc1 (pc := 791) C m_L_98 (cT_left (l := l) (D := D) (k := k) (a := a) (s := s) (t := t) (tw := tw) (ty := ty) (kq := kq) (ky := ky) (tp := tp) (ta := ta) (tk := tk) (sa := sa) (en := en) (nm := nm) (bi := bi) (si := si) (nu := nu) (st := st) (ik := ik) (y := y) (m := (xs (i + 1)).toInt) (in32_of _) hI.2.1.1) hT hM hDT hAp hS (fun _ => wT_ad.trans wT_ad.symm) rfl rfl hl.1 dL_law_791 (fun x H locs hT hM hDT hAp hS => ?_) ⟨(Nat.le_of_ble_eq_true rfl), (Nat.le_of_ble_eq_true rfl)⟩ (Nat.le_of_ble_eq_true rfl) ⟨(Nat.le_of_ble_eq_true rfl), (Nat.le_of_ble_eq_true rfl)⟩
  refine r_aload_n (pc := 794) C dL_law_794 rfl l2 ?_
  refine r_arg (pc := 795) C hX hbl hbA hS l0 l3 1 rfl (by omega) hL dL_law_795 dL_law_796 dL_law_797 dL_law_798 dL_law_799 ?_
  refine r_lc1 (pc := 800) C m_L_101 (cM_left (l := l) (D := D) (k := k) (a := d) (s := s) (kp := kp) (ot := ot) (sd := sd) (st := st) (sp := sp) (tp := tp) (bi := bi) (si := si) (nu := nu) (mo := mo) (ik := ik) (tl := tl) (ta := ta) (fr := fr) (to := to) (va := va) (iw := iw) (m := (xs (i + 1)).toInt) (in32_of _) hI.2.1.1) hM hT hDM hAp.sy hS (fun _ => wM_ad.trans wM_ad.symm) rfl rfl hl.1 dL_law_800 (fun x' H locs hM hT hDM hAp hS => ?_) ⟨(Nat.le_of_ble_eq_true rfl), (Nat.le_of_ble_eq_true rfl)⟩ (Nat.le_of_ble_eq_true rfl) ⟨(Nat.le_of_ble_eq_true rfl), (Nat.le_of_ble_eq_true rfl)⟩
  refine r_same (pc := 803) (tgt := 1343) C dL_law_803 (by decide) ?_
  exact kk _ _ _ _ _ _ _ _ _ _ _ _ _ _ _ _ _ _ _ _ _ _ _ _ _ _ _ _ _ _ ⟨hT, hM, hDT, hDM, hAp.sy, hS⟩ (hI.st (inv_eq hI.2.1 (rd_left _ _ _)))
set_option maxRecDepth 100000 in
set_option maxHeartbeats 400000 in
theorem lw_c21 (hE : lw_E p s₀ m meth cd b L xs Z D k) (hi : i + 6 ≤ L) (hl : lv_has ls 4 [(3, .int (iI (i : Int))), (2, .ref (d 0)), (1, .ref (a 0)), (0, .ref b)]) (hW : lw_W Z.1 D (wT a k s (lB (wrF s)) y t tw ty kq (lB (wrF kq)) ky tp ta tk sa en nm bi si nu st ik) (wM d k s kp ot sd st sp tp bi si nu mo ik (-1) tl ta fr to va iw) s₀.heap H locs) (hI : lw_I s kq kp tp bi si y ky ta nm ik va) (kk : lw_K 1343 p l e s₀ m b below meth cd Z D k a d ls Q) : W p l e room_1 s₀ m #[Value.ref b] below meth cd H locs 600000 7302250 Q (F0 m 808 ls []) := by
  obtain ⟨C, hX, hbl, hZ, hSV, hL⟩ := hE
  have hbA : ¬ (fun q : Nat => Z.1 ≤ q) b := by show ¬ Z.1 ≤ b; rw [hZ]; exact Nat.not_le.mpr hbl
  obtain ⟨hT, hM, hDT, hDM, hAp, hS⟩ := hW
  have l0 := lv_at hl 3 rfl
  have l1 := lv_at hl 2 rfl
  have l2 := lv_at hl 1 rfl
  have l3 := lv_at hl 0 rfl
  refine r_aload_n (pc := 808) C dL_law_808 rfl l1 ?_
  refine r_arg (pc := 809) C hX hbl hbA hS l0 l3 1 rfl (by omega) hL dL_law_809 dL_law_810 dL_law_811 dL_law_812 dL_law_813 ?_
  refine r_arg (pc := 814) C hX hbl hbA hS l0 l3 2 rfl (by omega) hL dL_law_814 dL_law_815 dL_law_816 dL_law_817 dL_law_818 ?_
  refine r_lc2 (pc := 819) C m_L_102 (cT_kind (l := l) (D := D) (k := k) (a := a) (s := s) (t := t) (tw := tw) (ty := ty) (kq := kq) (ky := ky) (tp := tp) (ta := ta) (tk := tk) (sa := sa) (en := en) (nm := nm) (bi := bi) (si := si) (nu := nu) (st := st) (ik := ik) (y := y) (m := (xs (i + 1)).toInt) (n0 := (xs (i + 2)).toInt) (in32_of _) (in32_of _) hI.2.1.1) hT hM hDT hAp hS (fun _ => wT_ad.trans wT_ad.symm) rfl rfl hl.1 dL_law_819 (fun x H locs hT hM hDT hAp hS => ?_) ⟨(Nat.le_of_ble_eq_true rfl), (Nat.le_of_ble_eq_true rfl)⟩ (Nat.le_of_ble_eq_true rfl) ⟨(Nat.le_of_ble_eq_true rfl), (Nat.le_of_ble_eq_true rfl)⟩
  refine r_aload_n (pc := 822) C dL_law_822 rfl l2 ?_
  refine r_arg (pc := 823) C hX hbl hbA hS l0 l3 1 rfl (by omega) hL dL_law_823 dL_law_824 dL_law_825 dL_law_826 dL_law_827 ?_
  refine r_arg (pc := 828) C hX hbl hbA hS l0 l3 2 rfl (by omega) hL dL_law_828 dL_law_829 dL_law_830 dL_law_831 dL_law_832 ?_
  refine r_lc2 (pc := 833) C m_L_105 (cM_kind (l := l) (D := D) (k := k) (a := d) (s := s) (kp := kp) (ot := ot) (sd := sd) (st := st) (sp := sp) (tp := tp) (bi := bi) (si := si) (nu := nu) (mo := mo) (ik := ik) (tl := tl) (ta := ta) (fr := fr) (to := to) (va := va) (iw := iw) (m := (xs (i + 1)).toInt) (y := (xs (i + 2)).toInt) (in32_of _) (in32_of _) hI.2.1.1) hM hT hDM hAp.sy hS (fun _ => wM_ad.trans wM_ad.symm) rfl rfl hl.1 dL_law_833 (fun x' H locs hM hT hDM hAp hS => ?_) ⟨(Nat.le_of_ble_eq_true rfl), (Nat.le_of_ble_eq_true rfl)⟩ (Nat.le_of_ble_eq_true rfl) ⟨(Nat.le_of_ble_eq_true rfl), (Nat.le_of_ble_eq_true rfl)⟩
  refine r_same (pc := 836) (tgt := 1343) C dL_law_836 (by decide) ?_
  exact kk _ _ _ _ _ _ _ _ _ _ _ _ _ _ _ _ _ _ _ _ _ _ _ _ _ _ _ _ _ _ ⟨hT, hM, hDT, hDM, hAp.sy, hS⟩ (hI.st (inv_eq hI.2.1 (rd_kind _ _ _ _)))
set_option maxRecDepth 100000 in
set_option maxHeartbeats 400000 in
theorem lw_c22 (hE : lw_E p s₀ m meth cd b L xs Z D k) (hi : i + 6 ≤ L) (hl : lv_has ls 4 [(3, .int (iI (i : Int))), (2, .ref (d 0)), (1, .ref (a 0)), (0, .ref b)]) (hW : lw_W Z.1 D (wT a k s (lB (wrF s)) y t tw ty kq (lB (wrF kq)) ky tp ta tk sa en nm bi si nu st ik) (wM d k s kp ot sd st sp tp bi si nu mo ik (-1) tl ta fr to va iw) s₀.heap H locs) (hI : lw_I s kq kp tp bi si y ky ta nm ik va) (kk : lw_K 1343 p l e s₀ m b below meth cd Z D k a d ls Q) : W p l e room_1 s₀ m #[Value.ref b] below meth cd H locs 600000 7302250 Q (F0 m 841 ls []) := by
  obtain ⟨C, hX, hbl, hZ, hSV, hL⟩ := hE
  have hbA : ¬ (fun q : Nat => Z.1 ≤ q) b := by show ¬ Z.1 ≤ b; rw [hZ]; exact Nat.not_le.mpr hbl
  obtain ⟨hT, hM, hDT, hDM, hAp, hS⟩ := hW
  have l0 := lv_at hl 3 rfl
  have l1 := lv_at hl 2 rfl
  have l2 := lv_at hl 1 rfl
  have l3 := lv_at hl 0 rfl
  refine r_aload_n (pc := 841) C dL_law_841 rfl l1 ?_
  refine r_arg (pc := 842) C hX hbl hbA hS l0 l3 1 rfl (by omega) hL dL_law_842 dL_law_843 dL_law_844 dL_law_845 dL_law_846 ?_
  refine r_arg (pc := 847) C hX hbl hbA hS l0 l3 2 rfl (by omega) hL dL_law_847 dL_law_848 dL_law_849 dL_law_850 dL_law_851 ?_
  refine r_lc2 (pc := 852) C m_L_106 (cT_purse (l := l) (D := D) (k := k) (a := a) (s := s) (t := t) (tw := tw) (ty := ty) (kq := kq) (ky := ky) (tp := tp) (ta := ta) (tk := tk) (sa := sa) (en := en) (nm := nm) (bi := bi) (si := si) (nu := nu) (st := st) (ik := ik) (y := y) (m := (xs (i + 1)).toInt) (n0 := (xs (i + 2)).toInt) (in32_of _) (in32_of _) hI.2.1.1) hT hM hDT hAp hS (fun _ => wT_ad.trans wT_ad.symm) rfl rfl hl.1 dL_law_852 (fun x H locs hT hM hDT hAp hS => ?_) ⟨(Nat.le_of_ble_eq_true rfl), (Nat.le_of_ble_eq_true rfl)⟩ (Nat.le_of_ble_eq_true rfl) ⟨(Nat.le_of_ble_eq_true rfl), (Nat.le_of_ble_eq_true rfl)⟩
  refine r_aload_n (pc := 855) C dL_law_855 rfl l2 ?_
  refine r_arg (pc := 856) C hX hbl hbA hS l0 l3 1 rfl (by omega) hL dL_law_856 dL_law_857 dL_law_858 dL_law_859 dL_law_860 ?_
  refine r_arg (pc := 861) C hX hbl hbA hS l0 l3 2 rfl (by omega) hL dL_law_861 dL_law_862 dL_law_863 dL_law_864 dL_law_865 ?_
  refine r_lc2 (pc := 866) C m_L_109 (cM_purse (l := l) (D := D) (k := k) (a := d) (s := s) (kp := kp) (ot := ot) (sd := sd) (st := st) (sp := sp) (tp := tp) (bi := bi) (si := si) (nu := nu) (mo := mo) (ik := ik) (tl := tl) (ta := ta) (fr := fr) (to := to) (va := va) (iw := iw) (m := (xs (i + 1)).toInt) (y := (xs (i + 2)).toInt) (in32_of _) (in32_of _) hI.2.1.1) hM hT hDM hAp.sy hS (fun _ => wM_ad.trans wM_ad.symm) rfl rfl hl.1 dL_law_866 (fun x' H locs hM hT hDM hAp hS => ?_) ⟨(Nat.le_of_ble_eq_true rfl), (Nat.le_of_ble_eq_true rfl)⟩ (Nat.le_of_ble_eq_true rfl) ⟨(Nat.le_of_ble_eq_true rfl), (Nat.le_of_ble_eq_true rfl)⟩
  refine r_same (pc := 869) (tgt := 1343) C dL_law_869 (by decide) ?_
  exact kk _ _ _ _ _ _ _ _ _ _ _ _ _ _ _ _ _ _ _ _ _ _ _ _ _ _ _ _ _ _ ⟨hT, hM, hDT, hDM, hAp.sy, hS⟩ (hI.st (inv_eq hI.2.1 (rd_purse _ _ _ _)))
set_option maxRecDepth 100000 in
set_option maxHeartbeats 400000 in
theorem lw_c23 (hE : lw_E p s₀ m meth cd b L xs Z D k) (hi : i + 6 ≤ L) (hl : lv_has ls 4 [(3, .int (iI (i : Int))), (2, .ref (d 0)), (1, .ref (a 0)), (0, .ref b)]) (hW : lw_W Z.1 D (wT a k s (lB (wrF s)) y t tw ty kq (lB (wrF kq)) ky tp ta tk sa en nm bi si nu st ik) (wM d k s kp ot sd st sp tp bi si nu mo ik (-1) tl ta fr to va iw) s₀.heap H locs) (hI : lw_I s kq kp tp bi si y ky ta nm ik va) (kk : lw_K 1343 p l e s₀ m b below meth cd Z D k a d ls Q) : W p l e room_1 s₀ m #[Value.ref b] below meth cd H locs 600000 7302250 Q (F0 m 874 ls []) := by
  obtain ⟨C, hX, hbl, hZ, hSV, hL⟩ := hE
  have hbA : ¬ (fun q : Nat => Z.1 ≤ q) b := by show ¬ Z.1 ≤ b; rw [hZ]; exact Nat.not_le.mpr hbl
  obtain ⟨hT, hM, hDT, hDM, hAp, hS⟩ := hW
  have l0 := lv_at hl 3 rfl
  have l1 := lv_at hl 2 rfl
  have l2 := lv_at hl 1 rfl
  have l3 := lv_at hl 0 rfl
  refine r_aload_n (pc := 874) C dL_law_874 rfl l1 ?_
  refine r_arg (pc := 875) C hX hbl hbA hS l0 l3 1 rfl (by omega) hL dL_law_875 dL_law_876 dL_law_877 dL_law_878 dL_law_879 ?_
  refine r_lc1 (pc := 880) C m_L_110 (cT_needed (l := l) (D := D) (k := k) (a := a) (s := s) (t := t) (tw := tw) (ty := ty) (kq := kq) (ky := ky) (tp := tp) (ta := ta) (tk := tk) (sa := sa) (en := en) (nm := nm) (bi := bi) (si := si) (nu := nu) (st := st) (ik := ik) (y := y) (n0 := (xs (i + 1)).toInt) (in32_of _) hI.2.1.1) hT hM hDT hAp hS (fun _ => wT_ad.trans wT_ad.symm) rfl rfl hl.1 dL_law_880 (fun x H locs hT hM hDT hAp hS => ?_) ⟨(Nat.le_of_ble_eq_true rfl), (Nat.le_of_ble_eq_true rfl)⟩ (Nat.le_of_ble_eq_true rfl) ⟨(Nat.le_of_ble_eq_true rfl), (Nat.le_of_ble_eq_true rfl)⟩
  refine r_aload_n (pc := 883) C dL_law_883 rfl l2 ?_
  refine r_arg (pc := 884) C hX hbl hbA hS l0 l3 1 rfl (by omega) hL dL_law_884 dL_law_885 dL_law_886 dL_law_887 dL_law_888 ?_
  refine r_lc1 (pc := 889) C m_L_113 (cM_needed (l := l) (D := D) (k := k) (a := d) (s := s) (kp := kp) (ot := ot) (sd := sd) (st := st) (sp := sp) (tp := tp) (bi := bi) (si := si) (nu := nu) (mo := mo) (ik := ik) (tl := tl) (ta := ta) (fr := fr) (to := to) (va := va) (iw := iw) (y := (xs (i + 1)).toInt) (in32_of _) hI.2.1.1) hM hT hDM hAp.sy hS (fun _ => wM_ad.trans wM_ad.symm) rfl rfl hl.1 dL_law_889 (fun x' H locs hM hT hDM hAp hS => ?_) ⟨(Nat.le_of_ble_eq_true rfl), (Nat.le_of_ble_eq_true rfl)⟩ (Nat.le_of_ble_eq_true rfl) ⟨(Nat.le_of_ble_eq_true rfl), (Nat.le_of_ble_eq_true rfl)⟩
  refine r_same (pc := 892) (tgt := 1343) C dL_law_892 (by decide) ?_
  exact kk _ _ _ _ _ _ _ _ _ _ _ _ _ _ _ _ _ _ _ _ _ _ _ _ _ _ _ _ _ _ ⟨hT, hM, hDT, hDM, hAp.sy, hS⟩ (hI.st (inv_eq hI.2.1 (rd_needed _ _ _)))
set_option maxRecDepth 100000 in
set_option maxHeartbeats 400000 in
theorem lw_c24 (hE : lw_E p s₀ m meth cd b L xs Z D k) (hi : i + 6 ≤ L) (hl : lv_has ls 4 [(3, .int (iI (i : Int))), (2, .ref (d 0)), (1, .ref (a 0)), (0, .ref b)]) (hW : lw_W Z.1 D (wT a k s (lB (wrF s)) y t tw ty kq (lB (wrF kq)) ky tp ta tk sa en nm bi si nu st ik) (wM d k s kp ot sd st sp tp bi si nu mo ik (-1) tl ta fr to va iw) s₀.heap H locs) (hI : lw_I s kq kp tp bi si y ky ta nm ik va) (kk : lw_K 1343 p l e s₀ m b below meth cd Z D k a d ls Q) : W p l e room_1 s₀ m #[Value.ref b] below meth cd H locs 600000 7302250 Q (F0 m 897 ls []) := by
  obtain ⟨C, hX, hbl, hZ, hSV, hL⟩ := hE
  have hbA : ¬ (fun q : Nat => Z.1 ≤ q) b := by show ¬ Z.1 ≤ b; rw [hZ]; exact Nat.not_le.mpr hbl
  obtain ⟨hT, hM, hDT, hDM, hAp, hS⟩ := hW
  have l0 := lv_at hl 3 rfl
  have l1 := lv_at hl 2 rfl
  have l2 := lv_at hl 1 rfl
  have l3 := lv_at hl 0 rfl
  refine r_aload_n (pc := 897) C dL_law_897 rfl l1 ?_
  refine r_arg (pc := 898) C hX hbl hbA hS l0 l3 1 rfl (by omega) hL dL_law_898 dL_law_899 dL_law_900 dL_law_901 dL_law_902 ?_
  refine r_arg (pc := 903) C hX hbl hbA hS l0 l3 2 rfl (by omega) hL dL_law_903 dL_law_904 dL_law_905 dL_law_906 dL_law_907 ?_
  refine r_arg (pc := 908) C hX hbl hbA hS l0 l3 3 rfl (by omega) hL dL_law_908 dL_law_909 dL_law_910 dL_law_911 dL_law_912 ?_
  refine r_lc3 (pc := 913) C m_L_114 (cT_way (l := l) (D := D) (k := k) (a := a) (s := s) (t := t) (tw := tw) (ty := ty) (kq := kq) (ky := ky) (tp := tp) (ta := ta) (tk := tk) (sa := sa) (en := en) (nm := nm) (bi := bi) (si := si) (nu := nu) (st := st) (ik := ik) (y := y) (b := (xs (i + 1)).toInt) (g := (xs (i + 2)).toInt) (w := (xs (i + 3)).toInt) (in32_of _) (in32_of _) (in32_of _) hI.2.1.1) hT hM hDT hAp hS (fun _ => wT_ad.trans wT_ad.symm) rfl rfl hl.1 dL_law_913 (fun x H locs hT hM hDT hAp hS => ?_) ⟨(Nat.le_of_ble_eq_true rfl), (Nat.le_of_ble_eq_true rfl)⟩ (Nat.le_of_ble_eq_true rfl) ⟨(Nat.le_of_ble_eq_true rfl), (Nat.le_of_ble_eq_true rfl)⟩
  refine r_aload_n (pc := 916) C dL_law_916 rfl l2 ?_
  refine r_arg (pc := 917) C hX hbl hbA hS l0 l3 1 rfl (by omega) hL dL_law_917 dL_law_918 dL_law_919 dL_law_920 dL_law_921 ?_
  refine r_arg (pc := 922) C hX hbl hbA hS l0 l3 2 rfl (by omega) hL dL_law_922 dL_law_923 dL_law_924 dL_law_925 dL_law_926 ?_
  refine r_arg (pc := 927) C hX hbl hbA hS l0 l3 3 rfl (by omega) hL dL_law_927 dL_law_928 dL_law_929 dL_law_930 dL_law_931 ?_
  refine r_lc3 (pc := 932) C m_L_117 (cM_way (l := l) (D := D) (k := k) (a := d) (s := s) (kp := kp) (ot := ot) (sd := sd) (st := st) (sp := sp) (tp := tp) (bi := bi) (si := si) (nu := nu) (mo := mo) (ik := ik) (tl := tl) (ta := ta) (fr := fr) (to := to) (va := va) (iw := iw) (b := (xs (i + 1)).toInt) (g := (xs (i + 2)).toInt) (w := (xs (i + 3)).toInt) (in32_of _) (in32_of _) (in32_of _) hI.2.1.1) hM hT hDM hAp.sy hS (fun _ => wM_ad.trans wM_ad.symm) rfl rfl hl.1 dL_law_932 (fun x' H locs hM hT hDM hAp hS => ?_) ⟨(Nat.le_of_ble_eq_true rfl), (Nat.le_of_ble_eq_true rfl)⟩ (Nat.le_of_ble_eq_true rfl) ⟨(Nat.le_of_ble_eq_true rfl), (Nat.le_of_ble_eq_true rfl)⟩
  refine r_same (pc := 935) (tgt := 1343) C dL_law_935 (by decide) ?_
  exact kk _ _ _ _ _ _ _ _ _ _ _ _ _ _ _ _ _ _ _ _ _ _ _ _ _ _ _ _ _ _ ⟨hT, hM, hDT, hDM, hAp.sy, hS⟩ (hI.st (inv_eq hI.2.1 (rd_way _ _ _ _ _)))
set_option maxRecDepth 100000 in
set_option maxHeartbeats 400000 in
theorem lw_c25 (hE : lw_E p s₀ m meth cd b L xs Z D k) (hi : i + 6 ≤ L) (hl : lv_has ls 4 [(3, .int (iI (i : Int))), (2, .ref (d 0)), (1, .ref (a 0)), (0, .ref b)]) (hW : lw_W Z.1 D (wT a k s (lB (wrF s)) y t tw ty kq (lB (wrF kq)) ky tp ta tk sa en nm bi si nu st ik) (wM d k s kp ot sd st sp tp bi si nu mo ik (-1) tl ta fr to va iw) s₀.heap H locs) (hI : lw_I s kq kp tp bi si y ky ta nm ik va) (kk : lw_K 1343 p l e s₀ m b below meth cd Z D k a d ls Q) : W p l e room_1 s₀ m #[Value.ref b] below meth cd H locs 600000 7302250 Q (F0 m 940 ls []) := by
  obtain ⟨C, hX, hbl, hZ, hSV, hL⟩ := hE
  have hbA : ¬ (fun q : Nat => Z.1 ≤ q) b := by show ¬ Z.1 ≤ b; rw [hZ]; exact Nat.not_le.mpr hbl
  obtain ⟨hT, hM, hDT, hDM, hAp, hS⟩ := hW
  have l0 := lv_at hl 3 rfl
  have l1 := lv_at hl 2 rfl
  have l2 := lv_at hl 1 rfl
  have l3 := lv_at hl 0 rfl
  refine r_aload_n (pc := 940) C dL_law_940 rfl l1 ?_
  refine r_arg (pc := 941) C hX hbl hbA hS l0 l3 1 rfl (by omega) hL dL_law_941 dL_law_942 dL_law_943 dL_law_944 dL_law_945 ?_
  refine r_arg (pc := 946) C hX hbl hbA hS l0 l3 2 rfl (by omega) hL dL_law_946 dL_law_947 dL_law_948 dL_law_949 dL_law_950 ?_
  refine r_lc2 (pc := 951) C m_L_118 (cT_feed (l := l) (D := D) (k := k) (a := a) (s := s) (t := t) (tw := tw) (ty := ty) (kq := kq) (ky := ky) (tp := tp) (ta := ta) (tk := tk) (sa := sa) (en := en) (nm := nm) (bi := bi) (si := si) (nu := nu) (st := st) (ik := ik) (y := y) (b := (xs (i + 1)).toInt) (n0 := (xs (i + 2)).toInt) (in32_of _) (in32_of _) hI.2.2.2.2.2.2.2.1) hT hM hDT hAp hS (fun _ => wT_ad.trans wT_ad.symm) rfl rfl hl.1 dL_law_951 (fun x H locs hT hM hDT hAp hS => ?_) ⟨(Nat.le_of_ble_eq_true rfl), (Nat.le_of_ble_eq_true rfl)⟩ (Nat.le_of_ble_eq_true rfl) ⟨(Nat.le_of_ble_eq_true rfl), (Nat.le_of_ble_eq_true rfl)⟩
  refine r_aload_n (pc := 954) C dL_law_954 rfl l2 ?_
  refine r_arg (pc := 955) C hX hbl hbA hS l0 l3 1 rfl (by omega) hL dL_law_955 dL_law_956 dL_law_957 dL_law_958 dL_law_959 ?_
  refine r_arg (pc := 960) C hX hbl hbA hS l0 l3 2 rfl (by omega) hL dL_law_960 dL_law_961 dL_law_962 dL_law_963 dL_law_964 ?_
  refine r_lc2 (pc := 965) C m_L_121 (cM_feed (l := l) (D := D) (k := k) (a := d) (s := s) (kp := kp) (ot := ot) (sd := sd) (st := st) (sp := sp) (tp := tp) (bi := bi) (si := si) (nu := nu) (mo := mo) (ik := ik) (tl := tl) (ta := ta) (fr := fr) (to := to) (va := va) (iw := iw) (b := (xs (i + 1)).toInt) (n0 := (xs (i + 2)).toInt) (in32_of _) (in32_of _) hI.2.2.2.2.2.2.2.1) hM hT hDM hAp.sy hS (fun _ => wM_ad.trans wM_ad.symm) rfl rfl hl.1 dL_law_965 (fun x' H locs hM hT hDM hAp hS => ?_) ⟨(Nat.le_of_ble_eq_true rfl), (Nat.le_of_ble_eq_true rfl)⟩ (Nat.le_of_ble_eq_true rfl) ⟨(Nat.le_of_ble_eq_true rfl), (Nat.le_of_ble_eq_true rfl)⟩
  refine r_same (pc := 968) (tgt := 1343) C dL_law_968 (by decide) ?_
  exact kk _ _ _ _ _ _ _ _ _ _ _ _ _ _ _ _ _ _ _ _ _ _ _ _ _ _ _ _ _ _ ⟨hT, hM, hDT, hDM, hAp.sy, hS⟩ ⟨hI.1, hI.2.1, hI.2.2.1, hI.2.2.2.1, hI.2.2.2.2.1, hI.2.2.2.2.2.1, (rg_feed hI.2.2.2.2.2.2.1 hI.2.2.2.2.2.2.2.1).1, (rg_feed hI.2.2.2.2.2.2.1 hI.2.2.2.2.2.2.2.1).2, hI.2.2.2.2.2.2.2.2⟩
end LAWC
