set_option maxRecDepth 100000 in
theorem cI_X1 (l : Launch) (D : va_G) (k : Nat → ClassId) (a sz : Nat) : MN sz l yX1_init cX1_init 1 2 32 1 120 D k [.ref a] [(a, .inr (1, [.null, .int 0, .int 0, .int 0, .int 0, .int 0]))] (fun q : Nat → Nat => [(a, .inr (1, [.ref (q 0), .int 0, .int 0, .int 0, .int 0, .int 0])), ((q 0), .inl (k 0, 120, .inl (arr (fun _ => 0))))]) := by
  refine MN.mk RX1 rfl (by decide) (Nat.le_of_ble_eq_true rfl) (fun p e s m below meth c ls C hnm hP hD hS hA hl => ?_)
  have hl : lv_has ls 1 [(0, .ref a)] := hl
  refine lv_aload_n C.1.1 C.1.2.1 dX1_init_0 rfl (lv_at hl 0 rfl) ?_
  refine W.objInit C.1.1 C.1.2.1 C.1.2.2.2.1 (C.1.2.2.2.2 _ oi_X1) (C.1.2.2.2.2 _ oi_I) (C.1.2.2.2.2 _ oi_C) rfl (by rw [C.1.2.2.1]; exact hl.1) rfl dX1_init_1 (Nat.le_of_ble_eq_true rfl) (Nat.le_of_ble_eq_true rfl) ?_
  refine W.eq (g2 := F0 m 4 ls []) rfl ?_
  refine lv_aload_n C.1.1 C.1.2.1 dX1_init_4 rfl (lv_at hl 0 rfl) ?_
  refine r_bipush C dX1_init_5 (by decide) ?_
  refine r_newI C hP hD hS hA 120 rfl (by decide) (Nat.le_of_ble_eq_true rfl) (Nat.le_of_ble_eq_true rfl) dX1_init_7 (fun q0 H hP hD hS => ?_)
  refine r_putF C hnm hP hD hS 0 0 (ci := 1) (Cn := RX1) (T := TX1) (N := 6) (w1 := [(a, .inr (1, [.ref q0, .int 0, .int 0, .int 0, .int 0, .int 0])), (q0, .inl (k 0, 120, .inl (arr (fun _ => 0))))]) rfl inTX1 tyX1_ok nmX1 (by decide) fl_X1_9 rfl rfl rfl rfl rfl rfl (Nat.lt_of_lt_of_le (by decide : 0 < 6) (Nat.le_of_ble_eq_true rfl)) rfl dX1_init_9 (fun H locs hP hD hS => ?_)
  exact r_vretN C hP hD hS (fun _ => q0) rfl dX1_init_12
set_option maxRecDepth 100000 in
theorem cI_X2 (l : Launch) (D : va_G) (k : Nat → ClassId) (a sz : Nat) : MN sz l yX2_init cX2_init 1 2 32 6 120 D k [.ref a] [(a, .inr (2, [.null, .null, .null, .null, .null, .null, .int 0, .int 0, .int 0, .long 0]))] (fun q : Nat → Nat => [(a, .inr (2, [.ref (q 0), .ref (q 1), .ref (q 2), .ref (q 3), .ref (q 4), .ref (q 5), .int 0, .int 0, .int (iI 2), .long 0])), ((q 0), .inl (k 0, 48, .inl (arr (fun _ => 0)))), ((q 1), .inl (k 0, 48, .inl (arr (fun _ => 0)))), ((q 2), .inl (k 0, 6, .inl (arr (fun _ => 0)))), ((q 3), .inl (k 0, 6, .inl (arr (fun _ => 0)))), ((q 4), .inl (k 0, 6, .inl (arr (fun _ => 0)))), ((q 5), .inl (k 0, 6, .inl (arr (fun _ => 0))))]) := by
  refine MN.mk RX2 rfl (by decide) (Nat.le_of_ble_eq_true rfl) (fun p e s m below meth c ls C hnm hP hD hS hA hl => ?_)
  have hl : lv_has ls 1 [(0, .ref a)] := hl
  refine lv_aload_n C.1.1 C.1.2.1 dX2_init_0 rfl (lv_at hl 0 rfl) ?_
  refine W.objInit C.1.1 C.1.2.1 C.1.2.2.2.1 (C.1.2.2.2.2 _ oi_X2) (C.1.2.2.2.2 _ oi_I) (C.1.2.2.2.2 _ oi_C) rfl (by rw [C.1.2.2.1]; exact hl.1) rfl dX2_init_1 (Nat.le_of_ble_eq_true rfl) (Nat.le_of_ble_eq_true rfl) ?_
  refine W.eq (g2 := F0 m 4 ls []) rfl ?_
  refine lv_aload_n C.1.1 C.1.2.1 dX2_init_4 rfl (lv_at hl 0 rfl) ?_
  refine r_bipush C dX2_init_5 (by decide) ?_
  refine r_newI C hP hD hS hA 48 rfl (by decide) (Nat.le_of_ble_eq_true rfl) (Nat.le_of_ble_eq_true rfl) dX2_init_7 (fun q0 H hP hD hS => ?_)
  refine r_putF C hnm hP hD hS 0 0 (ci := 2) (Cn := RX2) (T := TX2) (N := 10) (w1 := [(a, .inr (2, [.ref q0, .null, .null, .null, .null, .null, .int 0, .int 0, .int 0, .long 0])), (q0, .inl (k 0, 48, .inl (arr (fun _ => 0))))]) rfl inTX2 tyX2_ok nmX2 (by decide) fl_X2_9 rfl rfl rfl rfl rfl rfl (Nat.lt_of_lt_of_le (by decide : 0 < 10) (Nat.le_of_ble_eq_true rfl)) rfl dX2_init_9 (fun H locs hP hD hS => ?_)
  refine lv_aload_n C.1.1 C.1.2.1 dX2_init_12 rfl (lv_at hl 0 rfl) ?_
  refine r_bipush C dX2_init_13 (by decide) ?_
  refine r_newI C hP hD hS hA 48 rfl (by decide) (Nat.le_of_ble_eq_true rfl) (Nat.le_of_ble_eq_true rfl) dX2_init_15 (fun q1 H hP hD hS => ?_)
  refine r_putF C hnm hP hD hS 0 1 (ci := 2) (Cn := RX2) (T := TX2) (N := 10) (w1 := [(a, .inr (2, [.ref q0, .ref q1, .null, .null, .null, .null, .int 0, .int 0, .int 0, .long 0])), (q0, .inl (k 0, 48, .inl (arr (fun _ => 0)))), (q1, .inl (k 0, 48, .inl (arr (fun _ => 0))))]) rfl inTX2 tyX2_ok nmX2 (by decide) fl_X2_15 rfl rfl rfl rfl rfl rfl (Nat.lt_of_lt_of_le (by decide : 1 < 10) (Nat.le_of_ble_eq_true rfl)) rfl dX2_init_17 (fun H locs hP hD hS => ?_)
  refine lv_aload_n C.1.1 C.1.2.1 dX2_init_20 rfl (lv_at hl 0 rfl) ?_
  refine r_bipush C dX2_init_21 (by decide) ?_
  refine r_newI C hP hD hS hA 6 rfl (by decide) (Nat.le_of_ble_eq_true rfl) (Nat.le_of_ble_eq_true rfl) dX2_init_23 (fun q2 H hP hD hS => ?_)
  refine r_putF C hnm hP hD hS 0 2 (ci := 2) (Cn := RX2) (T := TX2) (N := 10) (w1 := [(a, .inr (2, [.ref q0, .ref q1, .ref q2, .null, .null, .null, .int 0, .int 0, .int 0, .long 0])), (q0, .inl (k 0, 48, .inl (arr (fun _ => 0)))), (q1, .inl (k 0, 48, .inl (arr (fun _ => 0)))), (q2, .inl (k 0, 6, .inl (arr (fun _ => 0))))]) rfl inTX2 tyX2_ok nmX2 (by decide) fl_X2_18 rfl rfl rfl rfl rfl rfl (Nat.lt_of_lt_of_le (by decide : 2 < 10) (Nat.le_of_ble_eq_true rfl)) rfl dX2_init_25 (fun H locs hP hD hS => ?_)
  refine lv_aload_n C.1.1 C.1.2.1 dX2_init_28 rfl (lv_at hl 0 rfl) ?_
  refine r_bipush C dX2_init_29 (by decide) ?_
  refine r_newI C hP hD hS hA 6 rfl (by decide) (Nat.le_of_ble_eq_true rfl) (Nat.le_of_ble_eq_true rfl) dX2_init_31 (fun q3 H hP hD hS => ?_)
  refine r_putF C hnm hP hD hS 0 3 (ci := 2) (Cn := RX2) (T := TX2) (N := 10) (w1 := [(a, .inr (2, [.ref q0, .ref q1, .ref q2, .ref q3, .null, .null, .int 0, .int 0, .int 0, .long 0])), (q0, .inl (k 0, 48, .inl (arr (fun _ => 0)))), (q1, .inl (k 0, 48, .inl (arr (fun _ => 0)))), (q2, .inl (k 0, 6, .inl (arr (fun _ => 0)))), (q3, .inl (k 0, 6, .inl (arr (fun _ => 0))))]) rfl inTX2 tyX2_ok nmX2 (by decide) fl_X2_21 rfl rfl rfl rfl rfl rfl (Nat.lt_of_lt_of_le (by decide : 3 < 10) (Nat.le_of_ble_eq_true rfl)) rfl dX2_init_33 (fun H locs hP hD hS => ?_)
  refine lv_aload_n C.1.1 C.1.2.1 dX2_init_36 rfl (lv_at hl 0 rfl) ?_
  refine r_bipush C dX2_init_37 (by decide) ?_
  refine r_newI C hP hD hS hA 6 rfl (by decide) (Nat.le_of_ble_eq_true rfl) (Nat.le_of_ble_eq_true rfl) dX2_init_39 (fun q4 H hP hD hS => ?_)
  refine r_putF C hnm hP hD hS 0 4 (ci := 2) (Cn := RX2) (T := TX2) (N := 10) (w1 := [(a, .inr (2, [.ref q0, .ref q1, .ref q2, .ref q3, .ref q4, .null, .int 0, .int 0, .int 0, .long 0])), (q0, .inl (k 0, 48, .inl (arr (fun _ => 0)))), (q1, .inl (k 0, 48, .inl (arr (fun _ => 0)))), (q2, .inl (k 0, 6, .inl (arr (fun _ => 0)))), (q3, .inl (k 0, 6, .inl (arr (fun _ => 0)))), (q4, .inl (k 0, 6, .inl (arr (fun _ => 0))))]) rfl inTX2 tyX2_ok nmX2 (by decide) fl_X2_24 rfl rfl rfl rfl rfl rfl (Nat.lt_of_lt_of_le (by decide : 4 < 10) (Nat.le_of_ble_eq_true rfl)) rfl dX2_init_41 (fun H locs hP hD hS => ?_)
  refine lv_aload_n C.1.1 C.1.2.1 dX2_init_44 rfl (lv_at hl 0 rfl) ?_
  refine r_bipush C dX2_init_45 (by decide) ?_
  refine r_newI C hP hD hS hA 6 rfl (by decide) (Nat.le_of_ble_eq_true rfl) (Nat.le_of_ble_eq_true rfl) dX2_init_47 (fun q5 H hP hD hS => ?_)
  refine r_putF C hnm hP hD hS 0 5 (ci := 2) (Cn := RX2) (T := TX2) (N := 10) (w1 := [(a, .inr (2, [.ref q0, .ref q1, .ref q2, .ref q3, .ref q4, .ref q5, .int 0, .int 0, .int 0, .long 0])), (q0, .inl (k 0, 48, .inl (arr (fun _ => 0)))), (q1, .inl (k 0, 48, .inl (arr (fun _ => 0)))), (q2, .inl (k 0, 6, .inl (arr (fun _ => 0)))), (q3, .inl (k 0, 6, .inl (arr (fun _ => 0)))), (q4, .inl (k 0, 6, .inl (arr (fun _ => 0)))), (q5, .inl (k 0, 6, .inl (arr (fun _ => 0))))]) rfl inTX2 tyX2_ok nmX2 (by decide) fl_X2_27 rfl rfl rfl rfl rfl rfl (Nat.lt_of_lt_of_le (by decide : 5 < 10) (Nat.le_of_ble_eq_true rfl)) rfl dX2_init_49 (fun H locs hP hD hS => ?_)
  refine lv_aload_n C.1.1 C.1.2.1 dX2_init_52 rfl (lv_at hl 0 rfl) ?_
  refine r_iconst C dX2_init_53 ?_
  refine r_put C hP hD hS 0 8 (ci := 2) (Cn := RX2) (T := TX2) (N := 10) (w1 := [(a, .inr (2, [.ref q0, .ref q1, .ref q2, .ref q3, .ref q4, .ref q5, .int 0, .int 0, .int (iI 2), .long 0])), (q0, .inl (k 0, 48, .inl (arr (fun _ => 0)))), (q1, .inl (k 0, 48, .inl (arr (fun _ => 0)))), (q2, .inl (k 0, 6, .inl (arr (fun _ => 0)))), (q3, .inl (k 0, 6, .inl (arr (fun _ => 0)))), (q4, .inl (k 0, 6, .inl (arr (fun _ => 0)))), (q5, .inl (k 0, 6, .inl (arr (fun _ => 0))))]) rfl inTX2 tyX2_ok nmX2 (by decide) fl_X2_30 rfl rfl rfl rfl rfl rfl (Nat.lt_of_lt_of_le (by decide : 8 < 10) (Nat.le_of_ble_eq_true rfl)) rfl dX2_init_54 (fun H locs hP hD hS => ?_)
  exact r_vretN C hP hD hS (fun i => match i with | 0 => q0 | 1 => q1 | 2 => q2 | 3 => q3 | 4 => q4 | _ => q5) rfl dX2_init_57
