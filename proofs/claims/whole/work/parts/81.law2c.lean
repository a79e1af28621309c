section LAWC
variable {p : Program} {l : Launch} {e : Env} {s₀ : State} {m : MethodId} {below : List Frame} {meth : Method} {cd : Code} {b L : Nat} {xs : Nat → Int32} {Z : SZ} {D : va_G} {k : Nat → ClassId} {a d : Nat → Nat} {H : Heap} {locs : List Loc} {ls : Array Slot} {i : Nat} {Q : State → Prop}
variable {s t kq kp ot sd st sp tp bi si : Int → Int} {nu mo : Int → Int64} {tw : Int64} {y ty ky ta tk sa en nm ik tl fr to va iw : Int}
set_option maxRecDepth 100000 in
set_option maxHeartbeats 400000 in
theorem lw_c26 (hE : lw_E p s₀ m meth cd b L xs Z D k) (hi : i + 6 ≤ L) (hl : lv_has ls 4 [(3, .int (iI (i : Int))), (2, .ref (d 0)), (1, .ref (a 0)), (0, .ref b)]) (hW : lw_W Z.1 D (wT a k s (lB (wrF s)) y t tw ty kq (lB (wrF kq)) ky tp ta tk sa en nm bi si nu st ik) (wM d k s kp ot sd st sp tp bi si nu mo ik (-1) tl ta fr to va iw) s₀.heap H locs) (hI : lw_I s kq kp tp bi si y ky ta nm ik va) (kk : lw_K 1343 p l e s₀ m b below meth cd Z D k a d ls Q) : W p l e room_1 s₀ m #[Value.ref b] below meth cd H locs 600000 7302250 Q (F0 m 973 ls []) := by
  obtain ⟨C, hX, hbl, hZ, hSV, hL⟩ := hE
  have hbA : ¬ (fun q : Nat => Z.1 ≤ q) b := by show ¬ Z.1 ≤ b; rw [hZ]; exact Nat.not_le.mpr hbl
  obtain ⟨hT, hM, hDT, hDM, hAp, hS⟩ := hW
  have l0 := lv_at hl 3 rfl
  have l1 := lv_at hl 2 rfl
  have l2 := lv_at hl 1 rfl
  have l3 := lv_at hl 0 rfl
  refine r_aload_n (pc := 973) C dL_law_973 rfl l1 ?_
  refine r_lc0 (pc := 974) C m_L_122 (cT_wipe (l := l) (D := D) (k := k) (a := a) (s := s) (t := t) (tw := tw) (ty := ty) (kq := kq) (ky := ky) (tp := tp) (ta := ta) (tk := tk) (sa := sa) (en := en) (nm := nm) (bi := bi) (si := si) (nu := nu) (st := st) (ik := ik) (y := y)) hT hM hDT hAp hS (fun _ => wT_ad.trans wT_ad.symm) rfl rfl hl.1 dL_law_974 (fun x H locs hT hM hDT hAp hS => ?_) ⟨(Nat.le_of_ble_eq_true rfl), (Nat.le_of_ble_eq_true rfl)⟩ (Nat.le_of_ble_eq_true rfl) ⟨(Nat.le_of_ble_eq_true rfl), (Nat.le_of_ble_eq_true rfl)⟩
  refine r_aload_n (pc := 977) C dL_law_977 rfl l2 ?_
  refine r_lc0 (pc := 978) C m_L_125 (cM_wipe (l := l) (D := D) (k := k) (a := d) (s := s) (kp := kp) (ot := ot) (sd := sd) (st := st) (sp := sp) (tp := tp) (bi := bi) (si := si) (nu := nu) (mo := mo) (ik := ik) (tl := tl) (ta := ta) (fr := fr) (to := to) (va := va) (iw := iw)) hM hT hDM hAp.sy hS (fun _ => wM_ad.trans wM_ad.symm) rfl rfl hl.1 dL_law_978 (fun x' H locs hM hT hDM hAp hS => ?_) ⟨(Nat.le_of_ble_eq_true rfl), (Nat.le_of_ble_eq_true rfl)⟩ (Nat.le_of_ble_eq_true rfl) ⟨(Nat.le_of_ble_eq_true rfl), (Nat.le_of_ble_eq_true rfl)⟩
  refine r_same (pc := 981) (tgt := 1343) C dL_law_981 (by decide) ?_
  exact kk _ _ _ _ _ _ _ _ _ _ _ _ _ _ _ _ _ _ _ _ _ _ _ _ _ _ _ _ _ _ ⟨hT, hM, hDT, hDM, hAp.sy, hS⟩ ⟨hI.1, hI.2.1, hI.2.2.1, hI.2.2.2.1, hI.2.2.2.2.1, hI.2.2.2.2.2.1, hI.2.2.2.2.2.2.1, ⟨Int.le_refl 0, by decide⟩, hI.2.2.2.2.2.2.2.2⟩
set_option maxRecDepth 100000 in
set_option maxHeartbeats 400000 in
theorem lw_c27 (hE : lw_E p s₀ m meth cd b L xs Z D k) (hi : i + 6 ≤ L) (hl : lv_has ls 4 [(3, .int (iI (i : Int))), (2, .ref (d 0)), (1, .ref (a 0)), (0, .ref b)]) (hW : lw_W Z.1 D (wT a k s (lB (wrF s)) y t tw ty kq (lB (wrF kq)) ky tp ta tk sa en nm bi si nu st ik) (wM d k s kp ot sd st sp tp bi si nu mo ik (-1) tl ta fr to va iw) s₀.heap H locs) (hI : lw_I s kq kp tp bi si y ky ta nm ik va) (kk : lw_K 1343 p l e s₀ m b below meth cd Z D k a d ls Q) : W p l e room_1 s₀ m #[Value.ref b] below meth cd H locs 600000 7302250 Q (F0 m 986 ls []) := by
  obtain ⟨C, hX, hbl, hZ, hSV, hL⟩ := hE
  have hbA : ¬ (fun q : Nat => Z.1 ≤ q) b := by show ¬ Z.1 ≤ b; rw [hZ]; exact Nat.not_le.mpr hbl
  obtain ⟨hT, hM, hDT, hDM, hAp, hS⟩ := hW
  have l0 := lv_at hl 3 rfl
  have l1 := lv_at hl 2 rfl
  have l2 := lv_at hl 1 rfl
  have l3 := lv_at hl 0 rfl
  refine r_aload_n (pc := 986) C dL_law_986 rfl l1 ?_
  refine r_lcX (pc := 987) C m_L_126 (cT_map (l := l) (D := D) (k := k) (a := a) (s := s) (t := t) (tw := tw) (ty := ty) (kq := kq) (ky := ky) (tp := tp) (ta := ta) (tk := tk) (sa := sa) (en := en) (nm := nm) (bi := bi) (si := si) (nu := nu) (st := st) (ik := ik) (y := y) (Z := Z) (va := va) hI.2.1.1 hI.2.2.2.2.2.2.1 hI.2.2.2.2.2.2.2.1 hI.2.2.2.2.2.2.2.2.2.2.1 hI.2.2.2.2.2.2.2.2.2.2.2) (hSV.kept (fun q h1 h2 => hS.2.1 q h1 h2)) hT hM hDT hAp hS (fun _ => wT_ad.trans wT_ad.symm) rfl rfl hl.1 dL_law_987 (fun x H locs hT hM hDT hAp hS => ?_) ⟨(Nat.le_of_ble_eq_true rfl), (Nat.le_of_ble_eq_true rfl)⟩ (Nat.le_of_ble_eq_true rfl) ⟨(Nat.le_of_ble_eq_true rfl), (Nat.le_of_ble_eq_true rfl)⟩
  refine r_aload_n (pc := 990) C dL_law_990 rfl l2 ?_
  refine r_lc0 (pc := 991) C m_L_129 (cM_map (l := l) (D := D) (k := k) (a := d) (s := s) (kp := kp) (ot := ot) (sd := sd) (st := st) (sp := sp) (tp := tp) (bi := bi) (si := si) (nu := nu) (mo := mo) (ik := ik) (tl := tl) (ta := ta) (fr := fr) (to := to) (va := va) (iw := iw) hI.2.1.1 hI.2.2.2.2.2.2.1 hI.2.2.2.2.2.2.2.1 hI.2.2.2.2.2.2.2.2.2.2.2) hM hT hDM hAp.sy hS (fun _ => wM_ad.trans wM_ad.symm) rfl rfl hl.1 dL_law_991 (fun x' H locs hM hT hDM hAp hS => ?_) ⟨(Nat.le_of_ble_eq_true rfl), (Nat.le_of_ble_eq_true rfl)⟩ (Nat.le_of_ble_eq_true rfl) ⟨(Nat.le_of_ble_eq_true rfl), (Nat.le_of_ble_eq_true rfl)⟩
  refine r_same (pc := 994) (tgt := 1343) C dL_law_994 (by decide) ?_
  exact kk _ _ _ _ _ _ _ _ _ _ _ _ _ _ _ _ _ _ _ _ _ _ _ _ _ _ _ _ _ _ ⟨hT, hM, hDT, hDM, hAp.sy, hS⟩ ⟨hI.1.trans (inv_map hI.2.1 hI.2.2.2.2.2.2.2.1.1 hI.2.2.2.2.2.2.2.1.2 hI.2.2.2.2.2.2.2.2.2.2.2).2.symm, (inv_map hI.2.1 hI.2.2.2.2.2.2.2.1.1 hI.2.2.2.2.2.2.2.1.2 hI.2.2.2.2.2.2.2.2.2.2.2).1, hI.2.2.1, hI.2.2.2.1, hI.2.2.2.2.1, hI.2.2.2.2.2.1, hI.2.2.2.2.2.2.1, ⟨Int.le_refl 0, by decide⟩, hI.2.2.2.2.2.2.2.2.1, hI.2.2.2.2.2.2.2.2.2.1, nm_map hI.2.2.2.2.2.2.1 hI.2.2.2.2.2.2.2.1.1 hI.2.2.2.2.2.2.2.2.2.2.1, va_map hI.2.2.2.2.2.2.2.1.1 hI.2.2.2.2.2.2.2.1.2 hI.2.2.2.2.2.2.2.2.2.2.2⟩
set_option maxRecDepth 100000 in
set_option maxHeartbeats 400000 in
theorem lw_c28 (hE : lw_E p s₀ m meth cd b L xs Z D k) (hi : i + 6 ≤ L) (hl : lv_has ls 4 [(3, .int (iI (i : Int))), (2, .ref (d 0)), (1, .ref (a 0)), (0, .ref b)]) (hW : lw_W Z.1 D (wT a k s (lB (wrF s)) y t tw ty kq (lB (wrF kq)) ky tp ta tk sa en nm bi si nu st ik) (wM d k s kp ot sd st sp tp bi si nu mo ik (-1) tl ta fr to va iw) s₀.heap H locs) (hI : lw_I s kq kp tp bi si y ky ta nm ik va) (kk : lw_K 1343 p l e s₀ m b below meth cd Z D k a d ls Q) : W p l e room_1 s₀ m #[Value.ref b] below meth cd H locs 600000 7302250 Q (F0 m 999 ls []) := by
  obtain ⟨C, hX, hbl, hZ, hSV, hL⟩ := hE
  have hbA : ¬ (fun q : Nat => Z.1 ≤ q) b := by show ¬ Z.1 ≤ b; rw [hZ]; exact Nat.not_le.mpr hbl
  obtain ⟨hT, hM, hDT, hDM, hAp, hS⟩ := hW
  have l0 := lv_at hl 3 rfl
  have l1 := lv_at hl 2 rfl
  have l2 := lv_at hl 1 rfl
  have l3 := lv_at hl 0 rfl
  refine r_aload_n (pc := 999) C dL_law_999 rfl l1 ?_
  refine r_arg (pc := 1000) C hX hbl hbA hS l0 l3 1 rfl (by omega) hL dL_law_1000 dL_law_1001 dL_law_1002 dL_law_1003 dL_law_1004 ?_
  refine r_arg (pc := 1005) C hX hbl hbA hS l0 l3 2 rfl (by omega) hL dL_law_1005 dL_law_1006 dL_law_1007 dL_law_1008 dL_law_1009 ?_
  refine r_arg (pc := 1010) C hX hbl hbA hS l0 l3 3 rfl (by omega) hL dL_law_1010 dL_law_1011 dL_law_1012 dL_law_1013 dL_law_1014 ?_
  refine r_lc3 (pc := 1015) C m_L_130 (cT_sheet (l := l) (D := D) (k := k) (a := a) (s := s) (t := t) (tw := tw) (ty := ty) (kq := kq) (ky := ky) (tp := tp) (ta := ta) (tk := tk) (sa := sa) (en := en) (nm := nm) (bi := bi) (si := si) (nu := nu) (st := st) (ik := ik) (y := y) (sh := (xs (i + 1)).toInt) (b := (xs (i + 2)).toInt) (n0 := (xs (i + 3)).toInt) (in32_of _) (in32_of _) (in32_of _) hI.2.2.2.2.2.2.2.2.1 hI.2.2.2.2.2.2.2.2.2.1) hT hM hDT hAp hS (fun _ => wT_ad.trans wT_ad.symm) rfl rfl hl.1 dL_law_1015 (fun x H locs hT hM hDT hAp hS => ?_) ⟨(Nat.le_of_ble_eq_true rfl), (Nat.le_of_ble_eq_true rfl)⟩ (Nat.le_of_ble_eq_true rfl) ⟨(Nat.le_of_ble_eq_true rfl), (Nat.le_of_ble_eq_true rfl)⟩
  refine r_aload_n (pc := 1018) C dL_law_1018 rfl l2 ?_
  refine r_arg (pc := 1019) C hX hbl hbA hS l0 l3 1 rfl (by omega) hL dL_law_1019 dL_law_1020 dL_law_1021 dL_law_1022 dL_law_1023 ?_
  refine r_arg (pc := 1024) C hX hbl hbA hS l0 l3 2 rfl (by omega) hL dL_law_1024 dL_law_1025 dL_law_1026 dL_law_1027 dL_law_1028 ?_
  refine r_arg (pc := 1029) C hX hbl hbA hS l0 l3 3 rfl (by omega) hL dL_law_1029 dL_law_1030 dL_law_1031 dL_law_1032 dL_law_1033 ?_
  refine r_lc3 (pc := 1034) C m_L_133 (cM_sheet (l := l) (D := D) (k := k) (a := d) (s := s) (kp := kp) (ot := ot) (sd := sd) (st := st) (sp := sp) (tp := tp) (bi := bi) (si := si) (nu := nu) (mo := mo) (ik := ik) (tl := tl) (ta := ta) (fr := fr) (to := to) (va := va) (iw := iw) (sh := (xs (i + 1)).toInt) (b := (xs (i + 2)).toInt) (n0 := (xs (i + 3)).toInt) (in32_of _) (in32_of _) (in32_of _) hI.2.2.2.2.2.2.2.2.1 hI.2.2.2.2.2.2.2.2.2.1) hM hT hDM hAp.sy hS (fun _ => wM_ad.trans wM_ad.symm) rfl rfl hl.1 dL_law_1034 (fun x' H locs hM hT hDM hAp hS => ?_) ⟨(Nat.le_of_ble_eq_true rfl), (Nat.le_of_ble_eq_true rfl)⟩ (Nat.le_of_ble_eq_true rfl) ⟨(Nat.le_of_ble_eq_true rfl), (Nat.le_of_ble_eq_true rfl)⟩
  refine r_same (pc := 1037) (tgt := 1343) C dL_law_1037 (by decide) ?_
  exact kk _ _ _ _ _ _ _ _ _ _ _ _ _ _ _ _ _ _ _ _ _ _ _ _ _ _ _ _ _ _ ⟨hT, hM, hDT, hDM, hAp.sy, hS⟩ ⟨hI.1, hI.2.1, hI.2.2.1, hI.2.2.2.1, hI.2.2.2.2.1, hI.2.2.2.2.2.1, hI.2.2.2.2.2.2.1, hI.2.2.2.2.2.2.2.1, (rg_sheet hI.2.2.2.2.2.2.2.2.1 hI.2.2.2.2.2.2.2.2.2.1).1, (rg_sheet hI.2.2.2.2.2.2.2.2.1 hI.2.2.2.2.2.2.2.2.2.1).2, hI.2.2.2.2.2.2.2.2.2.2⟩
set_option maxRecDepth 100000 in
set_option maxHeartbeats 400000 in
theorem lw_c29 (hE : lw_E p s₀ m meth cd b L xs Z D k) (hi : i + 6 ≤ L) (hl : lv_has ls 4 [(3, .int (iI (i : Int))), (2, .ref (d 0)), (1, .ref (a 0)), (0, .ref b)]) (hW : lw_W Z.1 D (wT a k s (lB (wrF s)) y t tw ty kq (lB (wrF kq)) ky tp ta tk sa en nm bi si nu st ik) (wM d k s kp ot sd st sp tp bi si nu mo ik (-1) tl ta fr to va iw) s₀.heap H locs) (hI : lw_I s kq kp tp bi si y ky ta nm ik va) (kk : lw_K 1343 p l e s₀ m b below meth cd Z D k a d ls Q) : W p l e room_1 s₀ m #[Value.ref b] below meth cd H locs 600000 7302250 Q (F0 m 1042 ls []) := by
  obtain ⟨C, hX, hbl, hZ, hSV, hL⟩ := hE
  have hbA : ¬ (fun q : Nat => Z.1 ≤ q) b := by show ¬ Z.1 ≤ b; rw [hZ]; exact Nat.not_le.mpr hbl
  obtain ⟨hT, hM, hDT, hDM, hAp, hS⟩ := hW
  have l0 := lv_at hl 3 rfl
  have l1 := lv_at hl 2 rfl
  have l2 := lv_at hl 1 rfl
  have l3 := lv_at hl 0 rfl
  refine r_aload_n (pc := 1042) C dL_law_1042 rfl l1 ?_
  refine r_arg (pc := 1043) C hX hbl hbA hS l0 l3 1 rfl (by omega) hL dL_law_1043 dL_law_1044 dL_law_1045 dL_law_1046 dL_law_1047 ?_
  refine r_arg (pc := 1048) C hX hbl hbA hS l0 l3 2 rfl (by omega) hL dL_law_1048 dL_law_1049 dL_law_1050 dL_law_1051 dL_law_1052 ?_
  refine r_arg (pc := 1053) C hX hbl hbA hS l0 l3 3 rfl (by omega) hL dL_law_1053 dL_law_1054 dL_law_1055 dL_law_1056 dL_law_1057 ?_
  refine lv_i2l (pc := 1058) C.1.1 C.1.2.1 dL_law_1058 rfl ?_
  refine r_bipush (pc := 1059) C dL_law_1059 (by decide) ?_
  refine lv_lshl (pc := 1061) C.1.1 C.1.2.1 dL_law_1061 rfl ?_
  refine r_arg (pc := 1062) C hX hbl hbA hS l0 l3 4 rfl (by omega) hL dL_law_1062 dL_law_1063 dL_law_1064 dL_law_1065 dL_law_1066 ?_
  refine lv_i2l (pc := 1067) C.1.1 C.1.2.1 dL_law_1067 rfl ?_
  refine r_ldc2 (pc := 1068) C 4294967295 (tb_t 1063 (by decide +kernel) rfl) rfl dL_law_1068 ?_
  refine lv_land (pc := 1071) C.1.1 C.1.2.1 dL_law_1071 ?_
  refine lv_lor (pc := 1072) C.1.1 C.1.2.1 dL_law_1072 ?_
  refine r_toL ?_
  refine r_lc3 (pc := 1073) C m_L_136 (cT_write (l := l) (D := D) (k := k) (a := a) (s := s) (t := t) (tw := tw) (ty := ty) (kq := kq) (ky := ky) (tp := tp) (ta := ta) (tk := tk) (sa := sa) (en := en) (nm := nm) (bi := bi) (si := si) (nu := nu) (st := st) (ik := ik) (y := y) (sh := (xs (i + 1)).toInt) (i := (xs (i + 2)).toInt) (v := _) (in32_of _) (in32_of _) hI.2.2.2.2.2.2.2.2.1 hI.2.2.2.2.2.2.2.2.2.1) hT hM hDT hAp hS (fun _ => wT_ad.trans wT_ad.symm) rfl rfl hl.1 dL_law_1073 (fun x H locs hT hM hDT hAp hS => ?_) ⟨(Nat.le_of_ble_eq_true rfl), (Nat.le_of_ble_eq_true rfl)⟩ (Nat.le_of_ble_eq_true rfl) ⟨(Nat.le_of_ble_eq_true rfl), (Nat.le_of_ble_eq_true rfl)⟩
  refine r_aload_n (pc := 1076) C dL_law_1076 rfl l2 ?_
  refine r_arg (pc := 1077) C hX hbl hbA hS l0 l3 1 rfl (by omega) hL dL_law_1077 dL_law_1078 dL_law_1079 dL_law_1080 dL_law_1081 ?_
  refine r_arg (pc := 1082) C hX hbl hbA hS l0 l3 2 rfl (by omega) hL dL_law_1082 dL_law_1083 dL_law_1084 dL_law_1085 dL_law_1086 ?_
  refine r_arg (pc := 1087) C hX hbl hbA hS l0 l3 3 rfl (by omega) hL dL_law_1087 dL_law_1088 dL_law_1089 dL_law_1090 dL_law_1091 ?_
  refine lv_i2l (pc := 1092) C.1.1 C.1.2.1 dL_law_1092 rfl ?_
  refine r_bipush (pc := 1093) C dL_law_1093 (by decide) ?_
  refine lv_lshl (pc := 1095) C.1.1 C.1.2.1 dL_law_1095 rfl ?_
  refine r_arg (pc := 1096) C hX hbl hbA hS l0 l3 4 rfl (by omega) hL dL_law_1096 dL_law_1097 dL_law_1098 dL_law_1099 dL_law_1100 ?_
  refine lv_i2l (pc := 1101) C.1.1 C.1.2.1 dL_law_1101 rfl ?_
  refine r_ldc2 (pc := 1102) C 4294967295 (tb_t 1063 (by decide +kernel) rfl) rfl dL_law_1102 ?_
  refine lv_land (pc := 1105) C.1.1 C.1.2.1 dL_law_1105 ?_
  refine lv_lor (pc := 1106) C.1.1 C.1.2.1 dL_law_1106 ?_
  refine r_toL ?_
  refine r_lc3 (pc := 1107) C m_L_140 (cM_write (l := l) (D := D) (k := k) (a := d) (s := s) (kp := kp) (ot := ot) (sd := sd) (st := st) (sp := sp) (tp := tp) (bi := bi) (si := si) (nu := nu) (mo := mo) (ik := ik) (tl := tl) (ta := ta) (fr := fr) (to := to) (va := va) (iw := iw) (sh := (xs (i + 1)).toInt) (i := (xs (i + 2)).toInt) (v := _) (in32_of _) (in32_of _) (in64_of _) hI.2.2.2.2.2.2.2.2.1 hI.2.2.2.2.2.2.2.2.2.1) hM hT hDM hAp.sy hS (fun _ => wM_ad.trans wM_ad.symm) rfl rfl hl.1 dL_law_1107 (fun x' H locs hM hT hDM hAp hS => ?_) ⟨(Nat.le_of_ble_eq_true rfl), (Nat.le_of_ble_eq_true rfl)⟩ (Nat.le_of_ble_eq_true rfl) ⟨(Nat.le_of_ble_eq_true rfl), (Nat.le_of_ble_eq_true rfl)⟩
  refine r_sameL (pc := 1110) (tgt := 1343) C dL_law_1110 dL_law_1111 (by decide) ?_
  exact kk _ _ _ _ _ _ _ _ _ _ _ _ _ _ _ _ _ _ _ _ _ _ _ _ _ _ _ _ _ _ ⟨hT, hM, hDT, hDM, hAp.sy, hS⟩ hI
set_option maxRecDepth 100000 in
set_option maxHeartbeats 400000 in
theorem lw_c30 (hE : lw_E p s₀ m meth cd b L xs Z D k) (hi : i + 6 ≤ L) (hl : lv_has ls 4 [(3, .int (iI (i : Int))), (2, .ref (d 0)), (1, .ref (a 0)), (0, .ref b)]) (hW : lw_W Z.1 D (wT a k s (lB (wrF s)) y t tw ty kq (lB (wrF kq)) ky tp ta tk sa en nm bi si nu st ik) (wM d k s kp ot sd st sp tp bi si nu mo ik (-1) tl ta fr to va iw) s₀.heap H locs) (hI : lw_I s kq kp tp bi si y ky ta nm ik va) (kk : lw_K 1343 p l e s₀ m b below meth cd Z D k a d ls Q) : W p l e room_1 s₀ m #[Value.ref b] below meth cd H locs 600000 7302250 Q (F0 m 1116 ls []) := by
  obtain ⟨C, hX, hbl, hZ, hSV, hL⟩ := hE
  have hbA : ¬ (fun q : Nat => Z.1 ≤ q) b := by show ¬ Z.1 ≤ b; rw [hZ]; exact Nat.not_le.mpr hbl
  obtain ⟨hT, hM, hDT, hDM, hAp, hS⟩ := hW
  have l0 := lv_at hl 3 rfl
  have l1 := lv_at hl 2 rfl
  have l2 := lv_at hl 1 rfl
  have l3 := lv_at hl 0 rfl
  refine r_aload_n (pc := 1116) C dL_law_1116 rfl l1 ?_
  refine r_arg (pc := 1117) C hX hbl hbA hS l0 l3 1 rfl (by omega) hL dL_law_1117 dL_law_1118 dL_law_1119 dL_law_1120 dL_law_1121 ?_
  refine r_arg (pc := 1122) C hX hbl hbA hS l0 l3 2 rfl (by omega) hL dL_law_1122 dL_law_1123 dL_law_1124 dL_law_1125 dL_law_1126 ?_
  refine r_arg (pc := 1127) C hX hbl hbA hS l0 l3 3 rfl (by omega) hL dL_law_1127 dL_law_1128 dL_law_1129 dL_law_1130 dL_law_1131 ?_
  refine r_arg (pc := 1132) C hX hbl hbA hS l0 l3 4 rfl (by omega) hL dL_law_1132 dL_law_1133 dL_law_1134 dL_law_1135 dL_law_1136 ?_
  refine r_arg (pc := 1137) C hX hbl hbA hS l0 l3 5 rfl (by omega) hL dL_law_1137 dL_law_1138 dL_law_1139 dL_law_1140 dL_law_1141 ?_
  refine r_lc5 (pc := 1142) C m_L_141 (cT_copy (l := l) (D := D) (k := k) (a := a) (s := s) (t := t) (tw := tw) (ty := ty) (kq := kq) (ky := ky) (tp := tp) (ta := ta) (tk := tk) (sa := sa) (en := en) (nm := nm) (bi := bi) (si := si) (nu := nu) (st := st) (ik := ik) (y := y) (sh := (xs (i + 1)).toInt) (f := (xs (i + 2)).toInt) (th := (xs (i + 3)).toInt) (g := (xs (i + 4)).toInt) (n0 := (xs (i + 5)).toInt) (in32_of _) (in32_of _) (in32_of _) (in32_of _) (in32_of _) hI.2.2.2.2.2.2.2.2.1 hI.2.2.2.2.2.2.2.2.2.1) hT hM hDT hAp hS (fun _ => wT_ad.trans wT_ad.symm) rfl rfl hl.1 dL_law_1142 (fun x H locs hT hM hDT hAp hS => ?_) ⟨(Nat.le_of_ble_eq_true rfl), (Nat.le_of_ble_eq_true rfl)⟩ (Nat.le_of_ble_eq_true rfl) ⟨(Nat.le_of_ble_eq_true rfl), (Nat.le_of_ble_eq_true rfl)⟩
  refine r_aload_n (pc := 1145) C dL_law_1145 rfl l2 ?_
  refine r_arg (pc := 1146) C hX hbl hbA hS l0 l3 1 rfl (by omega) hL dL_law_1146 dL_law_1147 dL_law_1148 dL_law_1149 dL_law_1150 ?_
  refine r_arg (pc := 1151) C hX hbl hbA hS l0 l3 2 rfl (by omega) hL dL_law_1151 dL_law_1152 dL_law_1153 dL_law_1154 dL_law_1155 ?_
  refine r_arg (pc := 1156) C hX hbl hbA hS l0 l3 3 rfl (by omega) hL dL_law_1156 dL_law_1157 dL_law_1158 dL_law_1159 dL_law_1160 ?_
  refine r_arg (pc := 1161) C hX hbl hbA hS l0 l3 4 rfl (by omega) hL dL_law_1161 dL_law_1162 dL_law_1163 dL_law_1164 dL_law_1165 ?_
  refine r_arg (pc := 1166) C hX hbl hbA hS l0 l3 5 rfl (by omega) hL dL_law_1166 dL_law_1167 dL_law_1168 dL_law_1169 dL_law_1170 ?_
  refine r_lc5 (pc := 1171) C m_L_145 (cM_copy (l := l) (D := D) (k := k) (a := d) (s := s) (kp := kp) (ot := ot) (sd := sd) (st := st) (sp := sp) (tp := tp) (bi := bi) (si := si) (nu := nu) (mo := mo) (ik := ik) (tl := tl) (ta := ta) (fr := fr) (to := to) (va := va) (iw := iw) (sh := (xs (i + 1)).toInt) (f := (xs (i + 2)).toInt) (t := (xs (i + 3)).toInt) (g := (xs (i + 4)).toInt) (n0 := (xs (i + 5)).toInt) (in32_of _) (in32_of _) (in32_of _) (in32_of _) (in32_of _) hI.2.2.2.2.2.2.2.2.1 hI.2.2.2.2.2.2.2.2.2.1) hM hT hDM hAp.sy hS (fun _ => wM_ad.trans wM_ad.symm) rfl rfl hl.1 dL_law_1171 (fun x' H locs hM hT hDM hAp hS => ?_) ⟨(Nat.le_of_ble_eq_true rfl), (Nat.le_of_ble_eq_true rfl)⟩ (Nat.le_of_ble_eq_true rfl) ⟨(Nat.le_of_ble_eq_true rfl), (Nat.le_of_ble_eq_true rfl)⟩
  refine r_same (pc := 1174) (tgt := 1343) C dL_law_1174 (by decide) ?_
  exact kk _ _ _ _ _ _ _ _ _ _ _ _ _ _ _ _ _ _ _ _ _ _ _ _ _ _ _ _ _ _ ⟨hT, hM, hDT, hDM, hAp.sy, hS⟩ hI
set_option maxRecDepth 100000 in
set_option maxHeartbeats 400000 in
theorem lw_c31 (hE : lw_E p s₀ m meth cd b L xs Z D k) (hi : i + 6 ≤ L) (hl : lv_has ls 4 [(3, .int (iI (i : Int))), (2, .ref (d 0)), (1, .ref (a 0)), (0, .ref b)]) (hW : lw_W Z.1 D (wT a k s (lB (wrF s)) y t tw ty kq (lB (wrF kq)) ky tp ta tk sa en nm bi si nu st ik) (wM d k s kp ot sd st sp tp bi si nu mo ik (-1) tl ta fr to va iw) s₀.heap H locs) (hI : lw_I s kq kp tp bi si y ky ta nm ik va) (kk : lw_K 1343 p l e s₀ m b below meth cd Z D k a d ls Q) : W p l e room_1 s₀ m #[Value.ref b] below meth cd H locs 600000 7302250 Q (F0 m 1179 ls []) := by
  obtain ⟨C, hX, hbl, hZ, hSV, hL⟩ := hE
  have hbA : ¬ (fun q : Nat => Z.1 ≤ q) b := by show ¬ Z.1 ≤ b; rw [hZ]; exact Nat.not_le.mpr hbl
  obtain ⟨hT, hM, hDT, hDM, hAp, hS⟩ := hW
  have l0 := lv_at hl 3 rfl
  have l1 := lv_at hl 2 rfl
  have l2 := lv_at hl 1 rfl
  have l3 := lv_at hl 0 rfl
  refine r_aload_n (pc := 1179) C dL_law_1179 rfl l1 ?_
  refine r_arg (pc := 1180) C hX hbl hbA hS l0 l3 1 rfl (by omega) hL dL_law_1180 dL_law_1181 dL_law_1182 dL_law_1183 dL_law_1184 ?_
  refine r_lc1 (pc := 1185) C m_L_146 (cT_lays (l := l) (D := D) (k := k) (a := a) (s := s) (t := t) (tw := tw) (ty := ty) (kq := kq) (ky := ky) (tp := tp) (ta := ta) (tk := tk) (sa := sa) (en := en) (nm := nm) (bi := bi) (si := si) (nu := nu) (st := st) (ik := ik) (y := y) (sh := (xs (i + 1)).toInt) (in32_of _) hI.2.1.1 hI.2.2.2.2.2.2.2.2.1 hI.2.2.2.2.2.2.2.2.2.1) hT hM hDT hAp hS (fun _ => wT_ad.trans wT_ad.symm) rfl rfl hl.1 dL_law_1185 (fun x H locs hT hM hDT hAp hS => ?_) ⟨(Nat.le_of_ble_eq_true rfl), (Nat.le_of_ble_eq_true rfl)⟩ (Nat.le_of_ble_eq_true rfl) ⟨(Nat.le_of_ble_eq_true rfl), (Nat.le_of_ble_eq_true rfl)⟩
  refine r_aload_n (pc := 1188) C dL_law_1188 rfl l2 ?_
  refine r_arg (pc := 1189) C hX hbl hbA hS l0 l3 1 rfl (by omega) hL dL_law_1189 dL_law_1190 dL_law_1191 dL_law_1192 dL_law_1193 ?_
  refine r_lc1 (pc := 1194) C m_L_149 (cM_lays (l := l) (D := D) (k := k) (a := d) (s := s) (kp := kp) (ot := ot) (sd := sd) (st := st) (sp := sp) (tp := tp) (bi := bi) (si := si) (nu := nu) (mo := mo) (ik := ik) (tl := tl) (ta := ta) (fr := fr) (to := to) (va := va) (iw := iw) (sh := (xs (i + 1)).toInt) (in32_of _) hI.2.1.1 hI.2.2.2.2.2.2.2.2.1 hI.2.2.2.2.2.2.2.2.2.1) hM hT hDM hAp.sy hS (fun _ => wM_ad.trans wM_ad.symm) rfl rfl hl.1 dL_law_1194 (fun x' H locs hM hT hDM hAp hS => ?_) ⟨(Nat.le_of_ble_eq_true rfl), (Nat.le_of_ble_eq_true rfl)⟩ (Nat.le_of_ble_eq_true rfl) ⟨(Nat.le_of_ble_eq_true rfl), (Nat.le_of_ble_eq_true rfl)⟩
  refine r_same (pc := 1197) (tgt := 1343) C dL_law_1197 (by decide) ?_
  exact kk _ _ _ _ _ _ _ _ _ _ _ _ _ _ _ _ _ _ _ _ _ _ _ _ _ _ _ _ _ _ ⟨hT, hM, hDT, hDM, hAp.sy, hS⟩ (hI.st (inv_lays hI.2.1 hI.2.2.2.2.2.2.2.2.2.1))
set_option maxRecDepth 100000 in
set_option maxHeartbeats 400000 in
theorem lw_c32 (hE : lw_E p s₀ m meth cd b L xs Z D k) (hi : i + 6 ≤ L) (hl : lv_has ls 4 [(3, .int (iI (i : Int))), (2, .ref (d 0)), (1, .ref (a 0)), (0, .ref b)]) (hW : lw_W Z.1 D (wT a k s (lB (wrF s)) y t tw ty kq (lB (wrF kq)) ky tp ta tk sa en nm bi si nu st ik) (wM d k s kp ot sd st sp tp bi si nu mo ik (-1) tl ta fr to va iw) s₀.heap H locs) (hI : lw_I s kq kp tp bi si y ky ta nm ik va) (kk : lw_K 1343 p l e s₀ m b below meth cd Z D k a d ls Q) : W p l e room_1 s₀ m #[Value.ref b] below meth cd H locs 600000 7302250 Q (F0 m 1202 ls []) := by
  obtain ⟨C, hX, hbl, hZ, hSV, hL⟩ := hE
  have hbA : ¬ (fun q : Nat => Z.1 ≤ q) b := by show ¬ Z.1 ≤ b; rw [hZ]; exact Nat.not_le.mpr hbl
  obtain ⟨hT, hM, hDT, hDM, hAp, hS⟩ := hW
  have l0 := lv_at hl 3 rfl
  have l1 := lv_at hl 2 rfl
  have l2 := lv_at hl 1 rfl
  have l3 := lv_at hl 0 rfl
  refine r_aload_n (pc := 1202) C dL_law_1202 rfl l1 ?_
  refine r_arg (pc := 1203) C hX hbl hbA hS l0 l3 1 rfl (by omega) hL dL_law_1203 dL_law_1204 dL_law_1205 dL_law_1206 dL_law_1207 ?_
  refine r_lc1 (pc := 1208) C m_L_150 (cT_book (l := l) (D := D) (k := k) (a := a) (s := s) (t := t) (tw := tw) (ty := ty) (kq := kq) (ky := ky) (tp := tp) (ta := ta) (tk := tk) (sa := sa) (en := en) (nm := nm) (bi := bi) (si := si) (nu := nu) (st := st) (ik := ik) (y := y) (sh := (xs (i + 1)).toInt) (in32_of _) hI.2.1.1 hI.2.2.2.2.2.2.2.2.1 hI.2.2.2.2.2.2.2.2.2.1) hT hM hDT hAp hS (fun _ => wT_ad.trans wT_ad.symm) rfl rfl hl.1 dL_law_1208 (fun x H locs hT hM hDT hAp hS => ?_) ⟨(Nat.le_of_ble_eq_true rfl), (Nat.le_of_ble_eq_true rfl)⟩ (Nat.le_of_ble_eq_true rfl) ⟨(Nat.le_of_ble_eq_true rfl), (Nat.le_of_ble_eq_true rfl)⟩
  refine r_aload_n (pc := 1211) C dL_law_1211 rfl l2 ?_
  refine r_arg (pc := 1212) C hX hbl hbA hS l0 l3 1 rfl (by omega) hL dL_law_1212 dL_law_1213 dL_law_1214 dL_law_1215 dL_law_1216 ?_
  refine r_lc1 (pc := 1217) C m_L_153 (cM_book (l := l) (D := D) (k := k) (a := d) (s := s) (kp := kp) (ot := ot) (sd := sd) (st := st) (sp := sp) (tp := tp) (bi := bi) (si := si) (nu := nu) (mo := mo) (ik := ik) (tl := tl) (ta := ta) (fr := fr) (to := to) (va := va) (iw := iw) (sh := (xs (i + 1)).toInt) (in32_of _) hI.2.1.1 hI.2.2.2.2.2.2.2.2.1 hI.2.2.2.2.2.2.2.2.2.1) hM hT hDM hAp.sy hS (fun _ => wM_ad.trans wM_ad.symm) rfl rfl hl.1 dL_law_1217 (fun x' H locs hM hT hDM hAp hS => ?_) ⟨(Nat.le_of_ble_eq_true rfl), (Nat.le_of_ble_eq_true rfl)⟩ (Nat.le_of_ble_eq_true rfl) ⟨(Nat.le_of_ble_eq_true rfl), (Nat.le_of_ble_eq_true rfl)⟩
  refine r_same (pc := 1220) (tgt := 1343) C dL_law_1220 (by decide) ?_
  exact kk _ _ _ _ _ _ _ _ _ _ _ _ _ _ _ _ _ _ _ _ _ _ _ _ _ _ _ _ _ _ ⟨hT, hM, hDT, hDM, hAp.sy, hS⟩ hI
set_option maxRecDepth 100000 in
set_option maxHeartbeats 400000 in
theorem lw_c33 (hE : lw_E p s₀ m meth cd b L xs Z D k) (hi : i + 6 ≤ L) (hl : lv_has ls 4 [(3, .int (iI (i : Int))), (2, .ref (d 0)), (1, .ref (a 0)), (0, .ref b)]) (hW : lw_W Z.1 D (wT a k s (lB (wrF s)) y t tw ty kq (lB (wrF kq)) ky tp ta tk sa en nm bi si nu st ik) (wM d k s kp ot sd st sp tp bi si nu mo ik (-1) tl ta fr to va iw) s₀.heap H locs) (hI : lw_I s kq kp tp bi si y ky ta nm ik va) (kk : lw_K 1343 p l e s₀ m b below meth cd Z D k a d ls Q) : W p l e room_1 s₀ m #[Value.ref b] below meth cd H locs 600000 7302250 Q (F0 m 1225 ls []) := by
  obtain ⟨C, hX, hbl, hZ, hSV, hL⟩ := hE
  have hbA : ¬ (fun q : Nat => Z.1 ≤ q) b := by show ¬ Z.1 ≤ b; rw [hZ]; exact Nat.not_le.mpr hbl
  obtain ⟨hT, hM, hDT, hDM, hAp, hS⟩ := hW
  have l0 := lv_at hl 3 rfl
  have l1 := lv_at hl 2 rfl
  have l2 := lv_at hl 1 rfl
  have l3 := lv_at hl 0 rfl
  refine r_aload_n (pc := 1225) C dL_law_1225 rfl l1 ?_
  refine r_arg (pc := 1226) C hX hbl hbA hS l0 l3 1 rfl (by omega) hL dL_law_1226 dL_law_1227 dL_law_1228 dL_law_1229 dL_law_1230 ?_
  refine r_arg (pc := 1231) C hX hbl hbA hS l0 l3 2 rfl (by omega) hL dL_law_1231 dL_law_1232 dL_law_1233 dL_law_1234 dL_law_1235 ?_
  refine r_lc2 (pc := 1236) C m_L_154 (cT_read (l := l) (D := D) (k := k) (a := a) (s := s) (t := t) (tw := tw) (ty := ty) (kq := kq) (ky := ky) (tp := tp) (ta := ta) (tk := tk) (sa := sa) (en := en) (nm := nm) (bi := bi) (si := si) (nu := nu) (st := st) (ik := ik) (y := y) (sh := (xs (i + 1)).toInt) (m := (xs (i + 2)).toInt) (in32_of _) (in32_of _) hI.2.1.1 hI.2.2.2.2.2.2.2.2.1 hI.2.2.2.2.2.2.2.2.2.1) hT hM hDT hAp hS (fun _ => wT_ad.trans wT_ad.symm) rfl rfl hl.1 dL_law_1236 (fun x H locs hT hM hDT hAp hS => ?_) ⟨(Nat.le_of_ble_eq_true rfl), (Nat.le_of_ble_eq_true rfl)⟩ (Nat.le_of_ble_eq_true rfl) ⟨(Nat.le_of_ble_eq_true rfl), (Nat.le_of_ble_eq_true rfl)⟩
  refine r_aload_n (pc := 1239) C dL_law_1239 rfl l2 ?_
  refine r_arg (pc := 1240) C hX hbl hbA hS l0 l3 1 rfl (by omega) hL dL_law_1240 dL_law_1241 dL_law_1242 dL_law_1243 dL_law_1244 ?_
  refine r_arg (pc := 1245) C hX hbl hbA hS l0 l3 2 rfl (by omega) hL dL_law_1245 dL_law_1246 dL_law_1247 dL_law_1248 dL_law_1249 ?_
  refine r_lc2 (pc := 1250) C m_L_157 (cM_read (l := l) (D := D) (k := k) (a := d) (s := s) (kp := kp) (ot := ot) (sd := sd) (st := st) (sp := sp) (tp := tp) (bi := bi) (si := si) (nu := nu) (mo := mo) (ik := ik) (tl := tl) (ta := ta) (fr := fr) (to := to) (va := va) (iw := iw) (sh := (xs (i + 1)).toInt) (m := (xs (i + 2)).toInt) (in32_of _) (in32_of _) hI.2.1.1 hI.2.2.2.2.2.2.2.2.1 hI.2.2.2.2.2.2.2.2.2.1) hM hT hDM hAp.sy hS (fun _ => wM_ad.trans wM_ad.symm) rfl rfl hl.1 dL_law_1250 (fun x' H locs hM hT hDM hAp hS => ?_) ⟨(Nat.le_of_ble_eq_true rfl), (Nat.le_of_ble_eq_true rfl)⟩ (Nat.le_of_ble_eq_true rfl) ⟨(Nat.le_of_ble_eq_true rfl), (Nat.le_of_ble_eq_true rfl)⟩
  refine r_same (pc := 1253) (tgt := 1343) C dL_law_1253 (by decide) ?_
  exact kk _ _ _ _ _ _ _ _ _ _ _ _ _ _ _ _ _ _ _ _ _ _ _ _ _ _ _ _ _ _ ⟨hT, hM, hDT, hDM, hAp.sy, hS⟩ (hI.st (inv_eq hI.2.1 (rd_read _ _ _ _ _ _ _)))
set_option maxRecDepth 100000 in
set_option maxHeartbeats 400000 in
theorem lw_c34 (hE : lw_E p s₀ m meth cd b L xs Z D k) (hi : i + 6 ≤ L) (hl : lv_has ls 4 [(3, .int (iI (i : Int))), (2, .ref (d 0)), (1, .ref (a 0)), (0, .ref b)]) (hW : lw_W Z.1 D (wT a k s (lB (wrF s)) y t tw ty kq (lB (wrF kq)) ky tp ta tk sa en nm bi si nu st ik) (wM d k s kp ot sd st sp tp bi si nu mo ik (-1) tl ta fr to va iw) s₀.heap H locs) (hI : lw_I s kq kp tp bi si y ky ta nm ik va) (kk : lw_K 1343 p l e s₀ m b below meth cd Z D k a d ls Q) : W p l e room_1 s₀ m #[Value.ref b] below meth cd H locs 600000 7302250 Q (F0 m 1258 ls []) := by
  obtain ⟨C, hX, hbl, hZ, hSV, hL⟩ := hE
  have hbA : ¬ (fun q : Nat => Z.1 ≤ q) b := by show ¬ Z.1 ≤ b; rw [hZ]; exact Nat.not_le.mpr hbl
  obtain ⟨hT, hM, hDT, hDM, hAp, hS⟩ := hW
  have l0 := lv_at hl 3 rfl
  have l1 := lv_at hl 2 rfl
  have l2 := lv_at hl 1 rfl
  have l3 := lv_at hl 0 rfl
  refine r_aload_n (pc := 1258) C dL_law_1258 rfl l1 ?_
  refine r_lc0 (pc := 1259) C m_L_158 (cT_image (l := l) (D := D) (k := k) (a := a) (s := s) (t := t) (tw := tw) (ty := ty) (kq := kq) (ky := ky) (tp := tp) (ta := ta) (tk := tk) (sa := sa) (en := en) (nm := nm) (bi := bi) (si := si) (nu := nu) (st := st) (ik := ik) (y := y)) hT hM hDT hAp hS (fun _ => wT_ad.trans wT_ad.symm) rfl rfl hl.1 dL_law_1259 (fun x H locs hT hM hDT hAp hS => ?_) ⟨(Nat.le_of_ble_eq_true rfl), (Nat.le_of_ble_eq_true rfl)⟩ (Nat.le_of_ble_eq_true rfl) ⟨(Nat.le_of_ble_eq_true rfl), (Nat.le_of_ble_eq_true rfl)⟩
  refine r_aload_n (pc := 1262) C dL_law_1262 rfl l2 ?_
  refine r_lc0 (pc := 1263) C m_L_161 (cM_image (l := l) (D := D) (k := k) (a := d) (s := s) (kp := kp) (ot := ot) (sd := sd) (st := st) (sp := sp) (tp := tp) (bi := bi) (si := si) (nu := nu) (mo := mo) (ik := ik) (tl := tl) (ta := ta) (fr := fr) (to := to) (va := va) (iw := iw) hI.2.1.1 hI.2.2.2.1) hM hT hDM hAp.sy hS (fun _ => wM_ad.trans wM_ad.symm) rfl rfl hl.1 dL_law_1263 (fun x' H locs hM hT hDM hAp hS => ?_) ⟨(Nat.le_of_ble_eq_true rfl), (Nat.le_of_ble_eq_true rfl)⟩ (Nat.le_of_ble_eq_true rfl) ⟨(Nat.le_of_ble_eq_true rfl), (Nat.le_of_ble_eq_true rfl)⟩
  refine r_same (pc := 1266) (tgt := 1343) C dL_law_1266 (by decide) ?_
  exact kk _ _ _ _ _ _ _ _ _ _ _ _ _ _ _ _ _ _ _ _ _ _ _ _ _ _ _ _ _ _ ⟨hT, hM, hDT, hDM, hAp.sy, hS⟩ ⟨hI.1, hI.2.1, hI.2.1, hI.2.1.1, ⟨by decide, by decide⟩, Or.inr ⟨rfl, hI.1⟩, hI.2.2.2.2.2.2⟩
set_option maxRecDepth 100000 in
set_option maxHeartbeats 400000 in
theorem lw_c35 (hE : lw_E p s₀ m meth cd b L xs Z D k) (hi : i + 6 ≤ L) (hl : lv_has ls 4 [(3, .int (iI (i : Int))), (2, .ref (d 0)), (1, .ref (a 0)), (0, .ref b)]) (hW : lw_W Z.1 D (wT a k s (lB (wrF s)) y t tw ty kq (lB (wrF kq)) ky tp ta tk sa en nm bi si nu st ik) (wM d k s kp ot sd st sp tp bi si nu mo ik (-1) tl ta fr to va iw) s₀.heap H locs) (hI : lw_I s kq kp tp bi si y ky ta nm ik va) (kk : lw_K 1343 p l e s₀ m b below meth cd Z D k a d ls Q) : W p l e room_1 s₀ m #[Value.ref b] below meth cd H locs 600000 7302250 Q (F0 m 1271 ls []) := by
  obtain ⟨C, hX, hbl, hZ, hSV, hL⟩ := hE
  have hbA : ¬ (fun q : Nat => Z.1 ≤ q) b := by show ¬ Z.1 ≤ b; rw [hZ]; exact Nat.not_le.mpr hbl
  obtain ⟨hT, hM, hDT, hDM, hAp, hS⟩ := hW
  have hk := hI.2.2.2.2.2.1
  have hu : fUndo s st kp ik = fUndo s st kq ik := by
    rcases hk with h | h
    · unfold fUndo; rw [if_pos h, if_pos h]
    · rw [h.1]
  have hMu := cM_undo (l := l) (D := D) (k := k) (a := d) (s := s) (kp := kp) (ot := ot) (sd := sd) (st := st) (sp := sp) (tp := tp) (bi := bi) (si := si) (nu := nu) (mo := mo) (ik := ik) (tl := tl) (ta := ta) (fr := fr) (to := to) (va := va) (iw := iw) hI.2.1.1 hI.2.2.2.1 hI.2.2.2.2.1
  rw [hu] at hMu
  have hv : Inv (fUndo s st kq ik).2.1 ∧ (if ik = 0 then y else ky) = (fUndo s st kq ik).2.1 1 := by
    by_cases h : ik = 0
    · rw [show fUndo s st kq ik = fD s st (-1000000004) from if_pos h, if_pos h]; exact ⟨hI.2.1, hI.1⟩
    · rw [show fUndo s st kq ik = (kq 0, kq, st) from if_neg h, if_neg h]; exact ⟨hI.2.2.1, (hk.resolve_left h).2⟩
  have l0 := lv_at hl 3 rfl
  have l1 := lv_at hl 2 rfl
  have l2 := lv_at hl 1 rfl
  have l3 := lv_at hl 0 rfl
  refine r_aload_n (pc := 1271) C dL_law_1271 rfl l1 ?_
  refine r_lc0 (pc := 1272) C m_L_162 (cT_undo (l := l) (D := D) (k := k) (a := a) (s := s) (t := t) (tw := tw) (ty := ty) (kq := kq) (ky := ky) (tp := tp) (ta := ta) (tk := tk) (sa := sa) (en := en) (nm := nm) (bi := bi) (si := si) (nu := nu) (st := st) (ik := ik) (y := y) hI.2.2.2.2.1) hT hM hDT hAp hS (fun _ => wT_ad.trans wT_ad.symm) rfl rfl hl.1 dL_law_1272 (fun x H locs hT hM hDT hAp hS => ?_) ⟨(Nat.le_of_ble_eq_true rfl), (Nat.le_of_ble_eq_true rfl)⟩ (Nat.le_of_ble_eq_true rfl) ⟨(Nat.le_of_ble_eq_true rfl), (Nat.le_of_ble_eq_true rfl)⟩
  refine r_aload_n (pc := 1275) C dL_law_1275 rfl l2 ?_
  refine r_lc0 (pc := 1276) C m_L_165 hMu hM hT hDM hAp.sy hS (fun _ => wM_ad.trans wM_ad.symm) rfl rfl hl.1 dL_law_1276 (fun x' H locs hM hT hDM hAp hS => ?_) ⟨(Nat.le_of_ble_eq_true rfl), (Nat.le_of_ble_eq_true rfl)⟩ (Nat.le_of_ble_eq_true rfl) ⟨(Nat.le_of_ble_eq_true rfl), (Nat.le_of_ble_eq_true rfl)⟩
  refine r_same (pc := 1279) (tgt := 1343) C dL_law_1279 (by decide) ?_
  exact kk _ _ _ _ _ _ _ _ _ _ _ _ _ _ _ _ _ _ _ _ _ _ _ _ _ _ _ _ _ _ ⟨hT, hM, hDT, hDM, hAp.sy, hS⟩ ⟨hv.2, hv.1, hI.2.2⟩
set_option maxRecDepth 100000 in
set_option maxHeartbeats 400000 in
theorem lw_c36 (hE : lw_E p s₀ m meth cd b L xs Z D k) (hi : i + 6 ≤ L) (hl : lv_has ls 4 [(3, .int (iI (i : Int))), (2, .ref (d 0)), (1, .ref (a 0)), (0, .ref b)]) (hW : lw_W Z.1 D (wT a k s (lB (wrF s)) y t tw ty kq (lB (wrF kq)) ky tp ta tk sa en nm bi si nu st ik) (wM d k s kp ot sd st sp tp bi si nu mo ik (-1) tl ta fr to va iw) s₀.heap H locs) (hI : lw_I s kq kp tp bi si y ky ta nm ik va) (kk : lw_K 1343 p l e s₀ m b below meth cd Z D k a d ls Q) : W p l e room_1 s₀ m #[Value.ref b] below meth cd H locs 600000 7302250 Q (F0 m 1284 ls []) := by
  obtain ⟨C, hX, hbl, hZ, hSV, hL⟩ := hE
  have hbA : ¬ (fun q : Nat => Z.1 ≤ q) b := by show ¬ Z.1 ≤ b; rw [hZ]; exact Nat.not_le.mpr hbl
  obtain ⟨hT, hM, hDT, hDM, hAp, hS⟩ := hW
  have l0 := lv_at hl 3 rfl
  have l1 := lv_at hl 2 rfl
  have l2 := lv_at hl 1 rfl
  have l3 := lv_at hl 0 rfl
  refine r_aload_n (pc := 1284) C dL_law_1284 rfl l1 ?_
  refine r_lc0 (pc := 1285) C m_L_166 (cT_tear (l := l) (D := D) (k := k) (a := a) (s := s) (t := t) (tw := tw) (ty := ty) (kq := kq) (ky := ky) (tp := tp) (ta := ta) (tk := tk) (sa := sa) (en := en) (nm := nm) (bi := bi) (si := si) (nu := nu) (st := st) (ik := ik) (y := y) hI.2.2.2.2.1) hT hM hDT hAp hS (fun _ => wT_ad.trans wT_ad.symm) rfl rfl hl.1 dL_law_1285 (fun x H locs hT hM hDT hAp hS => ?_) ⟨(Nat.le_of_ble_eq_true rfl), (Nat.le_of_ble_eq_true rfl)⟩ (Nat.le_of_ble_eq_true rfl) ⟨(Nat.le_of_ble_eq_true rfl), (Nat.le_of_ble_eq_true rfl)⟩
  refine r_aload_n (pc := 1288) C dL_law_1288 rfl l2 ?_
  refine r_lc0 (pc := 1289) C m_L_169 (cM_tear (l := l) (D := D) (k := k) (a := d) (s := s) (kp := kp) (ot := ot) (sd := sd) (st := st) (sp := sp) (tp := tp) (bi := bi) (si := si) (nu := nu) (mo := mo) (ik := ik) (tl := tl) (ta := ta) (fr := fr) (to := to) (va := va) (iw := iw) hI.2.2.2.2.1) hM hT hDM hAp.sy hS (fun _ => wM_ad.trans wM_ad.symm) rfl rfl hl.1 dL_law_1289 (fun x' H locs hM hT hDM hAp hS => ?_) ⟨(Nat.le_of_ble_eq_true rfl), (Nat.le_of_ble_eq_true rfl)⟩ (Nat.le_of_ble_eq_true rfl) ⟨(Nat.le_of_ble_eq_true rfl), (Nat.le_of_ble_eq_true rfl)⟩
  refine r_same (pc := 1292) (tgt := 1343) C dL_law_1292 (by decide) ?_
  exact kk _ _ _ _ _ _ _ _ _ _ _ _ _ _ _ _ _ _ _ _ _ _ _ _ _ _ _ _ _ _ ⟨hT, hM, hDT, hDM, hAp.sy, hS⟩ ⟨hI.1, hI.2.1, hI.2.2.1, hI.2.2.2.1, ⟨by decide, by decide⟩, Or.inl rfl, hI.2.2.2.2.2.2⟩
set_option maxRecDepth 100000 in
set_option maxHeartbeats 400000 in
theorem lw_c37 (hE : lw_E p s₀ m meth cd b L xs Z D k) (hi : i + 6 ≤ L) (hl : lv_has ls 4 [(3, .int (iI (i : Int))), (2, .ref (d 0)), (1, .ref (a 0)), (0, .ref b)]) (hW : lw_W Z.1 D (wT a k s (lB (wrF s)) y t tw ty kq (lB (wrF kq)) ky tp ta tk sa en nm bi si nu st ik) (wM d k s kp ot sd st sp tp bi si nu mo ik (-1) tl ta fr to va iw) s₀.heap H locs) (hI : lw_I s kq kp tp bi si y ky ta nm ik va) (kk : lw_K 1343 p l e s₀ m b below meth cd Z D k a d ls Q) : W p l e room_1 s₀ m #[Value.ref b] below meth cd H locs 600000 7302250 Q (F0 m 1297 ls []) := by
  obtain ⟨C, hX, hbl, hZ, hSV, hL⟩ := hE
  have hbA : ¬ (fun q : Nat => Z.1 ≤ q) b := by show ¬ Z.1 ≤ b; rw [hZ]; exact Nat.not_le.mpr hbl
  obtain ⟨hT, hM, hDT, hDM, hAp, hS⟩ := hW
  have l0 := lv_at hl 3 rfl
  have l1 := lv_at hl 2 rfl
  have l2 := lv_at hl 1 rfl
  have l3 := lv_at hl 0 rfl
  refine r_aload_n (pc := 1297) C dL_law_1297 rfl l1 ?_
  refine r_arg (pc := 1298) C hX hbl hbA hS l0 l3 1 rfl (by omega) hL dL_law_1298 dL_law_1299 dL_law_1300 dL_law_1301 dL_law_1302 ?_
  refine r_lc1 (pc := 1303) C m_L_170 (cT_count (l := l) (D := D) (k := k) (a := a) (s := s) (t := t) (tw := tw) (ty := ty) (kq := kq) (ky := ky) (tp := tp) (ta := ta) (tk := tk) (sa := sa) (en := en) (nm := nm) (bi := bi) (si := si) (nu := nu) (st := st) (ik := ik) (y := y) (w := (xs (i + 1)).toInt) (in32_of _) hI.2.1.1) hT hM hDT hAp hS (fun _ => wT_ad.trans wT_ad.symm) rfl rfl hl.1 dL_law_1303 (fun x H locs hT hM hDT hAp hS => ?_) ⟨(Nat.le_of_ble_eq_true rfl), (Nat.le_of_ble_eq_true rfl)⟩ (Nat.le_of_ble_eq_true rfl) ⟨(Nat.le_of_ble_eq_true rfl), (Nat.le_of_ble_eq_true rfl)⟩
  refine r_aload_n (pc := 1306) C dL_law_1306 rfl l2 ?_
  refine r_arg (pc := 1307) C hX hbl hbA hS l0 l3 1 rfl (by omega) hL dL_law_1307 dL_law_1308 dL_law_1309 dL_law_1310 dL_law_1311 ?_
  refine r_lc1 (pc := 1312) C m_L_173 (cM_count (l := l) (D := D) (k := k) (a := d) (s := s) (kp := kp) (ot := ot) (sd := sd) (st := st) (sp := sp) (tp := tp) (bi := bi) (si := si) (nu := nu) (mo := mo) (ik := ik) (tl := tl) (ta := ta) (fr := fr) (to := to) (va := va) (iw := iw) (w := (xs (i + 1)).toInt) (in32_of _) hI.2.1.1) hM hT hDM hAp.sy hS (fun _ => wM_ad.trans wM_ad.symm) rfl rfl hl.1 dL_law_1312 (fun x' H locs hM hT hDM hAp hS => ?_) ⟨(Nat.le_of_ble_eq_true rfl), (Nat.le_of_ble_eq_true rfl)⟩ (Nat.le_of_ble_eq_true rfl) ⟨(Nat.le_of_ble_eq_true rfl), (Nat.le_of_ble_eq_true rfl)⟩
  refine r_same (pc := 1315) (tgt := 1343) C dL_law_1315 (by decide) ?_
  exact kk _ _ _ _ _ _ _ _ _ _ _ _ _ _ _ _ _ _ _ _ _ _ _ _ _ _ _ _ _ _ ⟨hT, hM, hDT, hDM, hAp.sy, hS⟩ (hI.st (inv_eq hI.2.1 (rd_count _ _ _ _)))
set_option maxRecDepth 100000 in
set_option maxHeartbeats 400000 in
theorem lw_c38 (hE : lw_E p s₀ m meth cd b L xs Z D k) (hi : i + 6 ≤ L) (hl : lv_has ls 4 [(3, .int (iI (i : Int))), (2, .ref (d 0)), (1, .ref (a 0)), (0, .ref b)]) (hW : lw_W Z.1 D (wT a k s (lB (wrF s)) y t tw ty kq (lB (wrF kq)) ky tp ta tk sa en nm bi si nu st ik) (wM d k s kp ot sd st sp tp bi si nu mo ik (-1) tl ta fr to va iw) s₀.heap H locs) (hI : lw_I s kq kp tp bi si y ky ta nm ik va) (kk : lw_K 1343 p l e s₀ m b below meth cd Z D k a d ls Q) : W p l e room_1 s₀ m #[Value.ref b] below meth cd H locs 600000 7302250 Q (F0 m 1320 ls []) := by
  obtain ⟨C, hX, hbl, hZ, hSV, hL⟩ := hE
  have hbA : ¬ (fun q : Nat => Z.1 ≤ q) b := by show ¬ Z.1 ≤ b; rw [hZ]; exact Nat.not_le.mpr hbl
  obtain ⟨hT, hM, hDT, hDM, hAp, hS⟩ := hW
  have l0 := lv_at hl 3 rfl
  have l1 := lv_at hl 2 rfl
  have l2 := lv_at hl 1 rfl
  have l3 := lv_at hl 0 rfl
  refine r_aload_n (pc := 1320) C dL_law_1320 rfl l1 ?_
  refine r_arg (pc := 1321) C hX hbl hbA hS l0 l3 1 rfl (by omega) hL dL_law_1321 dL_law_1322 dL_law_1323 dL_law_1324 dL_law_1325 ?_
  refine r_lc1 (pc := 1326) C m_L_174 (cT_status (l := l) (D := D) (k := k) (a := a) (s := s) (t := t) (tw := tw) (ty := ty) (kq := kq) (ky := ky) (tp := tp) (ta := ta) (tk := tk) (sa := sa) (en := en) (nm := nm) (bi := bi) (si := si) (nu := nu) (st := st) (ik := ik) (y := y) (w := (xs (i + 1)).toInt) (in32_of _)) hT hM hDT hAp hS (fun _ => wT_ad.trans wT_ad.symm) rfl rfl hl.1 dL_law_1326 (fun x H locs hT hM hDT hAp hS => ?_) ⟨(Nat.le_of_ble_eq_true rfl), (Nat.le_of_ble_eq_true rfl)⟩ (Nat.le_of_ble_eq_true rfl) ⟨(Nat.le_of_ble_eq_true rfl), (Nat.le_of_ble_eq_true rfl)⟩
  refine r_aload_n (pc := 1329) C dL_law_1329 rfl l2 ?_
  refine r_arg (pc := 1330) C hX hbl hbA hS l0 l3 1 rfl (by omega) hL dL_law_1330 dL_law_1331 dL_law_1332 dL_law_1333 dL_law_1334 ?_
  refine r_lc1 (pc := 1335) C m_L_177 (cM_status (l := l) (D := D) (k := k) (a := d) (s := s) (kp := kp) (ot := ot) (sd := sd) (st := st) (sp := sp) (tp := tp) (bi := bi) (si := si) (nu := nu) (mo := mo) (ik := ik) (tl := tl) (ta := ta) (fr := fr) (to := to) (va := va) (iw := iw) (w := (xs (i + 1)).toInt) (in32_of _) hI.2.1.1) hM hT hDM hAp.sy hS (fun _ => wM_ad.trans wM_ad.symm) rfl rfl hl.1 dL_law_1335 (fun x' H locs hM hT hDM hAp hS => ?_) ⟨(Nat.le_of_ble_eq_true rfl), (Nat.le_of_ble_eq_true rfl)⟩ (Nat.le_of_ble_eq_true rfl) ⟨(Nat.le_of_ble_eq_true rfl), (Nat.le_of_ble_eq_true rfl)⟩
  refine r_same (pc := 1338) (tgt := 1343) C dL_law_1338 (by decide) ?_
  exact kk _ _ _ _ _ _ _ _ _ _ _ _ _ _ _ _ _ _ _ _ _ _ _ _ _ _ _ _ _ _ ⟨hT, hM, hDT, hDM, hAp.sy, hS⟩ (hI.st (inv_eq hI.2.1 (rd_status _ _ _)))
end LAWC
