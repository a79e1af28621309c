set_option maxRecDepth 100000 in
theorem cI_X0 (l : Launch) (D : va_G) (k : Nat → ClassId) (a sz : Nat) : MN sz l yX0_init cX0_init 1 2 32 1 40 D k [.ref a] [(a, .inr (0, [.null, .int 0, .int 0]))] (fun q : Nat => [(a, .inr (0, [.ref q, .int 0, .int 0])), (q, .inl (k 1, 40, .inr (.inl (arL (fun _ => 0)))))]) := by
  refine MN.mk RX0 rfl (by decide) (Nat.le_of_ble_eq_true rfl) (fun p e s m below meth c ls C hnm hP hD hS hA hl => ?_)
  have hl : lv_has ls 1 [(0, .ref a)] := hl
  refine lv_aload_n C.1.1 C.1.2.1 dX0_init_0 rfl (lv_at hl 0 rfl) ?_
  refine W.objInit C.1.1 C.1.2.1 C.1.2.2.2.1 (C.1.2.2.2.2 _ oi_X0) (C.1.2.2.2.2 _ oi_I) (C.1.2.2.2.2 _ oi_C) rfl (by rw [C.1.2.2.1]; exact hl.1) rfl dX0_init_1 (Nat.le_of_ble_eq_true rfl) (Nat.le_of_ble_eq_true rfl) ?_
  refine W.eq (g2 := F0 m 4 ls []) rfl ?_
  refine lv_aload_n C.1.1 C.1.2.1 dX0_init_4 rfl (lv_at hl 0 rfl) ?_
  refine r_bipush C dX0_init_5 (by decide) ?_
  refine r_newJ C hP hD hS hA 40 rfl (by decide) (Nat.le_of_ble_eq_true rfl) (Nat.le_of_ble_eq_true rfl) dX0_init_7 (fun q H hP hD hS => ?_)
  refine r_putF C hnm hP hD hS 0 0 (ci := 0) (Cn := RX0) (T := TX0) (N := 3) (w1 := [(a, .inr (0, [.ref q, .int 0, .int 0])), (q, .inl (k 1, 40, .inr (.inl (arL (fun _ => 0)))))]) rfl inTX0 tyX0_ok nmX0 (by decide) fl_X0_9 rfl rfl rfl rfl rfl rfl (by decide) rfl dX0_init_9 (fun H locs hP hD hS => ?_)
  exact r_vretN C hP hD hS q rfl dX0_init_12
