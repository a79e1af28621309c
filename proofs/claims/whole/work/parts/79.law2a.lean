section LAWC
variable {p : Program} {l : Launch} {e : Env} {s₀ : State} {m : MethodId} {below : List Frame} {meth : Method} {cd : Code} {b L : Nat} {xs : Nat → Int32} {Z : SZ} {D : va_G} {k : Nat → ClassId} {a d : Nat → Nat} {H : Heap} {locs : List Loc} {ls : Array Slot} {i : Nat} {Q : State → Prop}
variable {s t kq kp ot sd st sp tp bi si : Int → Int} {nu mo : Int → Int64} {tw : Int64} {y ty ky ta tk sa en nm ik tl fr to va iw : Int}
set_option maxRecDepth 100000 in
set_option maxHeartbeats 400000 in
theorem lw_c0 (hE : lw_E p s₀ m meth cd b L xs Z D k) (hi : i + 6 ≤ L) (hl : lv_has ls 4 [(3, .int (iI (i : Int))), (2, .ref (d 0)), (1, .ref (a 0)), (0, .ref b)]) (hW : lw_W Z.1 D (wT a k s (lB (wrF s)) y t tw ty kq (lB (wrF kq)) ky tp ta tk sa en nm bi si nu st ik) (wM d k s kp ot sd st sp tp bi si nu mo ik (-1) tl ta fr to va iw) s₀.heap H locs) (hI : lw_I s kq kp tp bi si y ky ta nm ik va) (kk : lw_K 1343 p l e s₀ m b below meth cd Z D k a d ls Q) : W p l e room_1 s₀ m #[Value.ref b] below meth cd H locs 600000 7302250 Q (F0 m 204 ls []) := by
  obtain ⟨C, hX, hbl, hZ, hSV, hL⟩ := hE
  have hbA : ¬ (fun q : Nat => Z.1 ≤ q) b := by show ¬ Z.1 ≤ b; rw [hZ]; exact Nat.not_le.mpr hbl
  obtain ⟨hT, hM, hDT, hDM, hAp, hS⟩ := hW
  have l0 := lv_at hl 3 rfl
  have l1 := lv_at hl 2 rfl
  have l2 := lv_at hl 1 rfl
  have l3 := lv_at hl 0 rfl
  refine r_aload_n (pc := 204) C dL_law_204 rfl l1 ?_
  refine r_arg (pc := 205) C hX hbl hbA hS l0 l3 1 rfl (by omega) hL dL_law_205 dL_law_206 dL_law_207 dL_law_208 dL_law_209 ?_
  refine r_arg (pc := 210) C hX hbl hbA hS l0 l3 2 rfl (by omega) hL dL_law_210 dL_law_211 dL_law_212 dL_law_213 dL_law_214 ?_
  refine r_arg (pc := 215) C hX hbl hbA hS l0 l3 3 rfl (by omega) hL dL_law_215 dL_law_216 dL_law_217 dL_law_218 dL_law_219 ?_
  refine r_lc3 (pc := 220) C m_L_13 (cT_draw (l := l) (D := D) (k := k) (a := a) (s := s) (t := t) (tw := tw) (ty := ty) (kq := kq) (ky := ky) (tp := tp) (ta := ta) (tk := tk) (sa := sa) (en := en) (nm := nm) (bi := bi) (si := si) (nu := nu) (st := st) (ik := ik) (y := y) (c0 := (xs (i + 1)).toInt) (w := (xs (i + 2)).toInt) (v := (xs (i + 3)).toInt) (in32_of _) (in32_of _) (in32_of _) hI.2.1.1) hT hM hDT hAp hS (fun _ => wT_ad.trans wT_ad.symm) rfl rfl hl.1 dL_law_220 (fun x H locs hT hM hDT hAp hS => ?_) ⟨(Nat.le_of_ble_eq_true rfl), (Nat.le_of_ble_eq_true rfl)⟩ (Nat.le_of_ble_eq_true rfl) ⟨(Nat.le_of_ble_eq_true rfl), (Nat.le_of_ble_eq_true rfl)⟩
  refine r_aload_n (pc := 223) C dL_law_223 rfl l2 ?_
  refine r_arg (pc := 224) C hX hbl hbA hS l0 l3 1 rfl (by omega) hL dL_law_224 dL_law_225 dL_law_226 dL_law_227 dL_law_228 ?_
  refine r_arg (pc := 229) C hX hbl hbA hS l0 l3 2 rfl (by omega) hL dL_law_229 dL_law_230 dL_law_231 dL_law_232 dL_law_233 ?_
  refine r_arg (pc := 234) C hX hbl hbA hS l0 l3 3 rfl (by omega) hL dL_law_234 dL_law_235 dL_law_236 dL_law_237 dL_law_238 ?_
  refine r_lc3 (pc := 239) C m_L_17 (cM_draw (l := l) (D := D) (k := k) (a := d) (s := s) (kp := kp) (ot := ot) (sd := sd) (st := st) (sp := sp) (tp := tp) (bi := bi) (si := si) (nu := nu) (mo := mo) (ik := ik) (tl := tl) (ta := ta) (fr := fr) (to := to) (va := va) (iw := iw) (c := (xs (i + 1)).toInt) (w := (xs (i + 2)).toInt) (v := (xs (i + 3)).toInt) (in32_of _) (in32_of _) (in32_of _) hI.2.1.1) hM hT hDM hAp.sy hS (fun _ => wM_ad.trans wM_ad.symm) rfl rfl hl.1 dL_law_239 (fun x' H locs hM hT hDM hAp hS => ?_) ⟨(Nat.le_of_ble_eq_true rfl), (Nat.le_of_ble_eq_true rfl)⟩ (Nat.le_of_ble_eq_true rfl) ⟨(Nat.le_of_ble_eq_true rfl), (Nat.le_of_ble_eq_true rfl)⟩
  refine r_same (pc := 242) (tgt := 1343) C dL_law_242 (by decide) ?_
  exact kk _ _ _ _ _ _ _ _ _ _ _ _ _ _ _ _ _ _ _ _ _ _ _ _ _ _ _ _ _ _ ⟨hT, hM, hDT, hDM, hAp.sy, hS⟩ (hI.st (inv_draw hI.2.1))
set_option maxRecDepth 100000 in
set_option maxHeartbeats 400000 in
theorem lw_c1 (hE : lw_E p s₀ m meth cd b L xs Z D k) (hi : i + 6 ≤ L) (hl : lv_has ls 4 [(3, .int (iI (i : Int))), (2, .ref (d 0)), (1, .ref (a 0)), (0, .ref b)]) (hW : lw_W Z.1 D (wT a k s (lB (wrF s)) y t tw ty kq (lB (wrF kq)) ky tp ta tk sa en nm bi si nu st ik) (wM d k s kp ot sd st sp tp bi si nu mo ik (-1) tl ta fr to va iw) s₀.heap H locs) (hI : lw_I s kq kp tp bi si y ky ta nm ik va) (kk : lw_K 1343 p l e s₀ m b below meth cd Z D k a d ls Q) : W p l e room_1 s₀ m #[Value.ref b] below meth cd H locs 600000 7302250 Q (F0 m 247 ls []) := by
  obtain ⟨C, hX, hbl, hZ, hSV, hL⟩ := hE
  have hbA : ¬ (fun q : Nat => Z.1 ≤ q) b := by show ¬ Z.1 ≤ b; rw [hZ]; exact Nat.not_le.mpr hbl
  obtain ⟨hT, hM, hDT, hDM, hAp, hS⟩ := hW
  have l0 := lv_at hl 3 rfl
  have l1 := lv_at hl 2 rfl
  have l2 := lv_at hl 1 rfl
  have l3 := lv_at hl 0 rfl
  refine r_aload_n (pc := 247) C dL_law_247 rfl l1 ?_
  refine r_arg (pc := 248) C hX hbl hbA hS l0 l3 1 rfl (by omega) hL dL_law_248 dL_law_249 dL_law_250 dL_law_251 dL_law_252 ?_
  refine r_arg (pc := 253) C hX hbl hbA hS l0 l3 2 rfl (by omega) hL dL_law_253 dL_law_254 dL_law_255 dL_law_256 dL_law_257 ?_
  refine r_lc2 (pc := 258) C m_L_18 (cT_cell (l := l) (D := D) (k := k) (a := a) (s := s) (t := t) (tw := tw) (ty := ty) (kq := kq) (ky := ky) (tp := tp) (ta := ta) (tk := tk) (sa := sa) (en := en) (nm := nm) (bi := bi) (si := si) (nu := nu) (st := st) (ik := ik) (y := y) (c0 := (xs (i + 1)).toInt) (w := (xs (i + 2)).toInt) (in32_of _) (in32_of _) hI.2.1.1) hT hM hDT hAp hS (fun _ => wT_ad.trans wT_ad.symm) rfl rfl hl.1 dL_law_258 (fun x H locs hT hM hDT hAp hS => ?_) ⟨(Nat.le_of_ble_eq_true rfl), (Nat.le_of_ble_eq_true rfl)⟩ (Nat.le_of_ble_eq_true rfl) ⟨(Nat.le_of_ble_eq_true rfl), (Nat.le_of_ble_eq_true rfl)⟩
  refine r_aload_n (pc := 261) C dL_law_261 rfl l2 ?_
  refine r_arg (pc := 262) C hX hbl hbA hS l0 l3 1 rfl (by omega) hL dL_law_262 dL_law_263 dL_law_264 dL_law_265 dL_law_266 ?_
  refine r_arg (pc := 267) C hX hbl hbA hS l0 l3 2 rfl (by omega) hL dL_law_267 dL_law_268 dL_law_269 dL_law_270 dL_law_271 ?_
  refine r_lc2 (pc := 272) C m_L_22 (cM_cell (l := l) (D := D) (k := k) (a := d) (s := s) (kp := kp) (ot := ot) (sd := sd) (st := st) (sp := sp) (tp := tp) (bi := bi) (si := si) (nu := nu) (mo := mo) (ik := ik) (tl := tl) (ta := ta) (fr := fr) (to := to) (va := va) (iw := iw) (c := (xs (i + 1)).toInt) (w := (xs (i + 2)).toInt) (in32_of _) (in32_of _) hI.2.1.1) hM hT hDM hAp.sy hS (fun _ => wM_ad.trans wM_ad.symm) rfl rfl hl.1 dL_law_272 (fun x' H locs hM hT hDM hAp hS => ?_) ⟨(Nat.le_of_ble_eq_true rfl), (Nat.le_of_ble_eq_true rfl)⟩ (Nat.le_of_ble_eq_true rfl) ⟨(Nat.le_of_ble_eq_true rfl), (Nat.le_of_ble_eq_true rfl)⟩
  refine r_same (pc := 275) (tgt := 1343) C dL_law_275 (by decide) ?_
  exact kk _ _ _ _ _ _ _ _ _ _ _ _ _ _ _ _ _ _ _ _ _ _ _ _ _ _ _ _ _ _ ⟨hT, hM, hDT, hDM, hAp.sy, hS⟩ (hI.st (inv_eq hI.2.1 (rd_cell _ _ _ _)))
set_option maxRecDepth 100000 in
set_option maxHeartbeats 400000 in
theorem lw_c2 (hE : lw_E p s₀ m meth cd b L xs Z D k) (hi : i + 6 ≤ L) (hl : lv_has ls 4 [(3, .int (iI (i : Int))), (2, .ref (d 0)), (1, .ref (a 0)), (0, .ref b)]) (hW : lw_W Z.1 D (wT a k s (lB (wrF s)) y t tw ty kq (lB (wrF kq)) ky tp ta tk sa en nm bi si nu st ik) (wM d k s kp ot sd st sp tp bi si nu mo ik (-1) tl ta fr to va iw) s₀.heap H locs) (hI : lw_I s kq kp tp bi si y ky ta nm ik va) (kk : lw_K 1343 p l e s₀ m b below meth cd Z D k a d ls Q) : W p l e room_1 s₀ m #[Value.ref b] below meth cd H locs 600000 7302250 Q (F0 m 280 ls []) := by
  obtain ⟨C, hX, hbl, hZ, hSV, hL⟩ := hE
  have hbA : ¬ (fun q : Nat => Z.1 ≤ q) b := by show ¬ Z.1 ≤ b; rw [hZ]; exact Nat.not_le.mpr hbl
  obtain ⟨hT, hM, hDT, hDM, hAp, hS⟩ := hW
  have l0 := lv_at hl 3 rfl
  have l1 := lv_at hl 2 rfl
  have l2 := lv_at hl 1 rfl
  have l3 := lv_at hl 0 rfl
  refine r_aload_n (pc := 280) C dL_law_280 rfl l1 ?_
  refine r_arg (pc := 281) C hX hbl hbA hS l0 l3 1 rfl (by omega) hL dL_law_281 dL_law_282 dL_law_283 dL_law_284 dL_law_285 ?_
  refine r_lc1 (pc := 286) C m_L_23 (cT_cells (l := l) (D := D) (k := k) (a := a) (s := s) (t := t) (tw := tw) (ty := ty) (kq := kq) (ky := ky) (tp := tp) (ta := ta) (tk := tk) (sa := sa) (en := en) (nm := nm) (bi := bi) (si := si) (nu := nu) (st := st) (ik := ik) (y := y) (w := (xs (i + 1)).toInt) (in32_of _) hI.2.1.1) hT hM hDT hAp hS (fun _ => wT_ad.trans wT_ad.symm) rfl rfl hl.1 dL_law_286 (fun x H locs hT hM hDT hAp hS => ?_) ⟨(Nat.le_of_ble_eq_true rfl), (Nat.le_of_ble_eq_true rfl)⟩ (Nat.le_of_ble_eq_true rfl) ⟨(Nat.le_of_ble_eq_true rfl), (Nat.le_of_ble_eq_true rfl)⟩
  refine r_aload_n (pc := 289) C dL_law_289 rfl l2 ?_
  refine r_arg (pc := 290) C hX hbl hbA hS l0 l3 1 rfl (by omega) hL dL_law_290 dL_law_291 dL_law_292 dL_law_293 dL_law_294 ?_
  refine r_lc1 (pc := 295) C m_L_27 (cM_cells (l := l) (D := D) (k := k) (a := d) (s := s) (kp := kp) (ot := ot) (sd := sd) (st := st) (sp := sp) (tp := tp) (bi := bi) (si := si) (nu := nu) (mo := mo) (ik := ik) (tl := tl) (ta := ta) (fr := fr) (to := to) (va := va) (iw := iw) (w := (xs (i + 1)).toInt) (in32_of _) hI.2.1.1) hM hT hDM hAp.sy hS (fun _ => wM_ad.trans wM_ad.symm) rfl rfl hl.1 dL_law_295 (fun x' H locs hM hT hDM hAp hS => ?_) ⟨(Nat.le_of_ble_eq_true rfl), (Nat.le_of_ble_eq_true rfl)⟩ (Nat.le_of_ble_eq_true rfl) ⟨(Nat.le_of_ble_eq_true rfl), (Nat.le_of_ble_eq_true rfl)⟩
  refine r_sameL (pc := 298) (tgt := 1343) C dL_law_298 dL_law_299 (by decide) ?_
  exact kk _ _ _ _ _ _ _ _ _ _ _ _ _ _ _ _ _ _ _ _ _ _ _ _ _ _ _ _ _ _ ⟨hT, hM, hDT, hDM, hAp.sy, hS⟩ (hI.st (inv_eq hI.2.1 (rd_cells _ _ _)))
set_option maxRecDepth 100000 in
set_option maxHeartbeats 400000 in
theorem lw_c3 (hE : lw_E p s₀ m meth cd b L xs Z D k) (hi : i + 6 ≤ L) (hl : lv_has ls 4 [(3, .int (iI (i : Int))), (2, .ref (d 0)), (1, .ref (a 0)), (0, .ref b)]) (hW : lw_W Z.1 D (wT a k s (lB (wrF s)) y t tw ty kq (lB (wrF kq)) ky tp ta tk sa en nm bi si nu st ik) (wM d k s kp ot sd st sp tp bi si nu mo ik (-1) tl ta fr to va iw) s₀.heap H locs) (hI : lw_I s kq kp tp bi si y ky ta nm ik va) (kk : lw_K 1343 p l e s₀ m b below meth cd Z D k a d ls Q) : W p l e room_1 s₀ m #[Value.ref b] below meth cd H locs 600000 7302250 Q (F0 m 304 ls []) := by
  obtain ⟨C, hX, hbl, hZ, hSV, hL⟩ := hE
  have hbA : ¬ (fun q : Nat => Z.1 ≤ q) b := by show ¬ Z.1 ≤ b; rw [hZ]; exact Nat.not_le.mpr hbl
  obtain ⟨hT, hM, hDT, hDM, hAp, hS⟩ := hW
  have l0 := lv_at hl 3 rfl
  have l1 := lv_at hl 2 rfl
  have l2 := lv_at hl 1 rfl
  have l3 := lv_at hl 0 rfl
  refine r_aload_n (pc := 304) C dL_law_304 rfl l1 ?_
  refine r_arg (pc := 305) C hX hbl hbA hS l0 l3 1 rfl (by omega) hL dL_law_305 dL_law_306 dL_law_307 dL_law_308 dL_law_309 ?_
  refine r_lc1 (pc := 310) C m_L_28 (cT_income (l := l) (D := D) (k := k) (a := a) (s := s) (t := t) (tw := tw) (ty := ty) (kq := kq) (ky := ky) (tp := tp) (ta := ta) (tk := tk) (sa := sa) (en := en) (nm := nm) (bi := bi) (si := si) (nu := nu) (st := st) (ik := ik) (y := y) (v := (xs (i + 1)).toInt) (in32_of _) hI.2.1.1) hT hM hDT hAp hS (fun _ => wT_ad.trans wT_ad.symm) rfl rfl hl.1 dL_law_310 (fun x H locs hT hM hDT hAp hS => ?_) ⟨(Nat.le_of_ble_eq_true rfl), (Nat.le_of_ble_eq_true rfl)⟩ (Nat.le_of_ble_eq_true rfl) ⟨(Nat.le_of_ble_eq_true rfl), (Nat.le_of_ble_eq_true rfl)⟩
  refine r_aload_n (pc := 313) C dL_law_313 rfl l2 ?_
  refine r_arg (pc := 314) C hX hbl hbA hS l0 l3 1 rfl (by omega) hL dL_law_314 dL_law_315 dL_law_316 dL_law_317 dL_law_318 ?_
  refine r_lc1 (pc := 319) C m_L_32 (cM_income (l := l) (D := D) (k := k) (a := d) (s := s) (kp := kp) (ot := ot) (sd := sd) (st := st) (sp := sp) (tp := tp) (bi := bi) (si := si) (nu := nu) (mo := mo) (ik := ik) (tl := tl) (ta := ta) (fr := fr) (to := to) (va := va) (iw := iw) (v := (xs (i + 1)).toInt) (in32_of _) hI.2.1.1) hM hT hDM hAp.sy hS (fun _ => wM_ad.trans wM_ad.symm) rfl rfl hl.1 dL_law_319 (fun x' H locs hM hT hDM hAp hS => ?_) ⟨(Nat.le_of_ble_eq_true rfl), (Nat.le_of_ble_eq_true rfl)⟩ (Nat.le_of_ble_eq_true rfl) ⟨(Nat.le_of_ble_eq_true rfl), (Nat.le_of_ble_eq_true rfl)⟩
  refine r_same (pc := 322) (tgt := 1343) C dL_law_322 (by decide) ?_
  exact kk _ _ _ _ _ _ _ _ _ _ _ _ _ _ _ _ _ _ _ _ _ _ _ _ _ _ _ _ _ _ ⟨hT, hM, hDT, hDM, hAp.sy, hS⟩ (hI.st (inv_income hI.2.1))
set_option maxRecDepth 100000 in
set_option maxHeartbeats 400000 in
theorem lw_c4 (hE : lw_E p s₀ m meth cd b L xs Z D k) (hi : i + 6 ≤ L) (hl : lv_has ls 4 [(3, .int (iI (i : Int))), (2, .ref (d 0)), (1, .ref (a 0)), (0, .ref b)]) (hW : lw_W Z.1 D (wT a k s (lB (wrF s)) y t tw ty kq (lB (wrF kq)) ky tp ta tk sa en nm bi si nu st ik) (wM d k s kp ot sd st sp tp bi si nu mo ik (-1) tl ta fr to va iw) s₀.heap H locs) (hI : lw_I s kq kp tp bi si y ky ta nm ik va) (kk : lw_K 1343 p l e s₀ m b below meth cd Z D k a d ls Q) : W p l e room_1 s₀ m #[Value.ref b] below meth cd H locs 600000 7302250 Q (F0 m 327 ls []) := by
  obtain ⟨C, hX, hbl, hZ, hSV, hL⟩ := hE
  have hbA : ¬ (fun q : Nat => Z.1 ≤ q) b := by show ¬ Z.1 ≤ b; rw [hZ]; exact Nat.not_le.mpr hbl
  obtain ⟨hT, hM, hDT, hDM, hAp, hS⟩ := hW
  have l0 := lv_at hl 3 rfl
  have l1 := lv_at hl 2 rfl
  have l2 := lv_at hl 1 rfl
  have l3 := lv_at hl 0 rfl
  refine r_aload_n (pc := 327) C dL_law_327 rfl l1 ?_
  refine r_arg (pc := 328) C hX hbl hbA hS l0 l3 1 rfl (by omega) hL dL_law_328 dL_law_329 dL_law_330 dL_law_331 dL_law_332 ?_
  refine r_arg (pc := 333) C hX hbl hbA hS l0 l3 2 rfl (by omega) hL dL_law_333 dL_law_334 dL_law_335 dL_law_336 dL_law_337 ?_
  refine r_lc2 (pc := 338) C m_L_33 (cT_mender (l := l) (D := D) (k := k) (a := a) (s := s) (t := t) (tw := tw) (ty := ty) (kq := kq) (ky := ky) (tp := tp) (ta := ta) (tk := tk) (sa := sa) (en := en) (nm := nm) (bi := bi) (si := si) (nu := nu) (st := st) (ik := ik) (y := y) (kd := (xs (i + 1)).toInt) (c0 := (xs (i + 2)).toInt) (in32_of _) (in32_of _) hI.2.1.1) hT hM hDT hAp hS (fun _ => wT_ad.trans wT_ad.symm) rfl rfl hl.1 dL_law_338 (fun x H locs hT hM hDT hAp hS => ?_) ⟨(Nat.le_of_ble_eq_true rfl), (Nat.le_of_ble_eq_true rfl)⟩ (Nat.le_of_ble_eq_true rfl) ⟨(Nat.le_of_ble_eq_true rfl), (Nat.le_of_ble_eq_true rfl)⟩
  refine r_aload_n (pc := 341) C dL_law_341 rfl l2 ?_
  refine r_arg (pc := 342) C hX hbl hbA hS l0 l3 1 rfl (by omega) hL dL_law_342 dL_law_343 dL_law_344 dL_law_345 dL_law_346 ?_
  refine r_arg (pc := 347) C hX hbl hbA hS l0 l3 2 rfl (by omega) hL dL_law_347 dL_law_348 dL_law_349 dL_law_350 dL_law_351 ?_
  refine r_lc2 (pc := 352) C m_L_36 (cM_mender (l := l) (D := D) (k := k) (a := d) (s := s) (kp := kp) (ot := ot) (sd := sd) (st := st) (sp := sp) (tp := tp) (bi := bi) (si := si) (nu := nu) (mo := mo) (ik := ik) (tl := tl) (ta := ta) (fr := fr) (to := to) (va := va) (iw := iw) (kd := (xs (i + 1)).toInt) (c := (xs (i + 2)).toInt) (in32_of _) (in32_of _) hI.2.1.1) hM hT hDM hAp.sy hS (fun _ => wM_ad.trans wM_ad.symm) rfl rfl hl.1 dL_law_352 (fun x' H locs hM hT hDM hAp hS => ?_) ⟨(Nat.le_of_ble_eq_true rfl), (Nat.le_of_ble_eq_true rfl)⟩ (Nat.le_of_ble_eq_true rfl) ⟨(Nat.le_of_ble_eq_true rfl), (Nat.le_of_ble_eq_true rfl)⟩
  refine r_same (pc := 355) (tgt := 1343) C dL_law_355 (by decide) ?_
  exact kk _ _ _ _ _ _ _ _ _ _ _ _ _ _ _ _ _ _ _ _ _ _ _ _ _ _ _ _ _ _ ⟨hT, hM, hDT, hDM, hAp.sy, hS⟩ (hI.st (inv_mender hI.2.1))
set_option maxRecDepth 100000 in
set_option maxHeartbeats 400000 in
theorem lw_c5 (hE : lw_E p s₀ m meth cd b L xs Z D k) (hi : i + 6 ≤ L) (hl : lv_has ls 4 [(3, .int (iI (i : Int))), (2, .ref (d 0)), (1, .ref (a 0)), (0, .ref b)]) (hW : lw_W Z.1 D (wT a k s (lB (wrF s)) y t tw ty kq (lB (wrF kq)) ky tp ta tk sa en nm bi si nu st ik) (wM d k s kp ot sd st sp tp bi si nu mo ik (-1) tl ta fr to va iw) s₀.heap H locs) (hI : lw_I s kq kp tp bi si y ky ta nm ik va) (kk : lw_K 1343 p l e s₀ m b below meth cd Z D k a d ls Q) : W p l e room_1 s₀ m #[Value.ref b] below meth cd H locs 600000 7302250 Q (F0 m 360 ls []) := by
  obtain ⟨C, hX, hbl, hZ, hSV, hL⟩ := hE
  have hbA : ¬ (fun q : Nat => Z.1 ≤ q) b := by show ¬ Z.1 ≤ b; rw [hZ]; exact Nat.not_le.mpr hbl
  obtain ⟨hT, hM, hDT, hDM, hAp, hS⟩ := hW
  have l0 := lv_at hl 3 rfl
  have l1 := lv_at hl 2 rfl
  have l2 := lv_at hl 1 rfl
  have l3 := lv_at hl 0 rfl
  refine r_aload_n (pc := 360) C dL_law_360 rfl l1 ?_
  refine r_arg (pc := 361) C hX hbl hbA hS l0 l3 1 rfl (by omega) hL dL_law_361 dL_law_362 dL_law_363 dL_law_364 dL_law_365 ?_
  refine r_arg (pc := 366) C hX hbl hbA hS l0 l3 2 rfl (by omega) hL dL_law_366 dL_law_367 dL_law_368 dL_law_369 dL_law_370 ?_
  refine r_lc2 (pc := 371) C m_L_37 (cT_of (l := l) (D := D) (k := k) (a := a) (s := s) (t := t) (tw := tw) (ty := ty) (kq := kq) (ky := ky) (tp := tp) (ta := ta) (tk := tk) (sa := sa) (en := en) (nm := nm) (bi := bi) (si := si) (nu := nu) (st := st) (ik := ik) (y := y) (m := (xs (i + 1)).toInt) (w := (xs (i + 2)).toInt) (in32_of _) (in32_of _) hI.2.1.1) hT hM hDT hAp hS (fun _ => wT_ad.trans wT_ad.symm) rfl rfl hl.1 dL_law_371 (fun x H locs hT hM hDT hAp hS => ?_) ⟨(Nat.le_of_ble_eq_true rfl), (Nat.le_of_ble_eq_true rfl)⟩ (Nat.le_of_ble_eq_true rfl) ⟨(Nat.le_of_ble_eq_true rfl), (Nat.le_of_ble_eq_true rfl)⟩
  refine r_aload_n (pc := 374) C dL_law_374 rfl l2 ?_
  refine r_arg (pc := 375) C hX hbl hbA hS l0 l3 1 rfl (by omega) hL dL_law_375 dL_law_376 dL_law_377 dL_law_378 dL_law_379 ?_
  refine r_arg (pc := 380) C hX hbl hbA hS l0 l3 2 rfl (by omega) hL dL_law_380 dL_law_381 dL_law_382 dL_law_383 dL_law_384 ?_
  refine r_lc2 (pc := 385) C m_L_40 (cM_of (l := l) (D := D) (k := k) (a := d) (s := s) (kp := kp) (ot := ot) (sd := sd) (st := st) (sp := sp) (tp := tp) (bi := bi) (si := si) (nu := nu) (mo := mo) (ik := ik) (tl := tl) (ta := ta) (fr := fr) (to := to) (va := va) (iw := iw) (m := (xs (i + 1)).toInt) (w := (xs (i + 2)).toInt) (in32_of _) (in32_of _) hI.2.1.1) hM hT hDM hAp.sy hS (fun _ => wM_ad.trans wM_ad.symm) rfl rfl hl.1 dL_law_385 (fun x' H locs hM hT hDM hAp hS => ?_) ⟨(Nat.le_of_ble_eq_true rfl), (Nat.le_of_ble_eq_true rfl)⟩ (Nat.le_of_ble_eq_true rfl) ⟨(Nat.le_of_ble_eq_true rfl), (Nat.le_of_ble_eq_true rfl)⟩
  refine r_same (pc := 388) (tgt := 1343) C dL_law_388 (by decide) ?_
  exact kk _ _ _ _ _ _ _ _ _ _ _ _ _ _ _ _ _ _ _ _ _ _ _ _ _ _ _ _ _ _ ⟨hT, hM, hDT, hDM, hAp.sy, hS⟩ (hI.st (inv_eq hI.2.1 (rd_of _ _ _ _)))
set_option maxRecDepth 100000 in
set_option maxHeartbeats 400000 in
theorem lw_c6 (hE : lw_E p s₀ m meth cd b L xs Z D k) (hi : i + 6 ≤ L) (hl : lv_has ls 4 [(3, .int (iI (i : Int))), (2, .ref (d 0)), (1, .ref (a 0)), (0, .ref b)]) (hW : lw_W Z.1 D (wT a k s (lB (wrF s)) y t tw ty kq (lB (wrF kq)) ky tp ta tk sa en nm bi si nu st ik) (wM d k s kp ot sd st sp tp bi si nu mo ik (-1) tl ta fr to va iw) s₀.heap H locs) (hI : lw_I s kq kp tp bi si y ky ta nm ik va) (kk : lw_K 1343 p l e s₀ m b below meth cd Z D k a d ls Q) : W p l e room_1 s₀ m #[Value.ref b] below meth cd H locs 600000 7302250 Q (F0 m 393 ls []) := by
  obtain ⟨C, hX, hbl, hZ, hSV, hL⟩ := hE
  have hbA : ¬ (fun q : Nat => Z.1 ≤ q) b := by show ¬ Z.1 ≤ b; rw [hZ]; exact Nat.not_le.mpr hbl
  obtain ⟨hT, hM, hDT, hDM, hAp, hS⟩ := hW
  have l0 := lv_at hl 3 rfl
  have l1 := lv_at hl 2 rfl
  have l2 := lv_at hl 1 rfl
  have l3 := lv_at hl 0 rfl
  refine r_aload_n (pc := 393) C dL_law_393 rfl l1 ?_
  refine r_arg (pc := 394) C hX hbl hbA hS l0 l3 1 rfl (by omega) hL dL_law_394 dL_law_395 dL_law_396 dL_law_397 dL_law_398 ?_
  refine r_arg (pc := 399) C hX hbl hbA hS l0 l3 2 rfl (by omega) hL dL_law_399 dL_law_400 dL_law_401 dL_law_402 dL_law_403 ?_
  refine r_arg (pc := 404) C hX hbl hbA hS l0 l3 3 rfl (by omega) hL dL_law_404 dL_law_405 dL_law_406 dL_law_407 dL_law_408 ?_
  refine r_lc3 (pc := 409) C m_L_41 (cT_set (l := l) (D := D) (k := k) (a := a) (s := s) (t := t) (tw := tw) (ty := ty) (kq := kq) (ky := ky) (tp := tp) (ta := ta) (tk := tk) (sa := sa) (en := en) (nm := nm) (bi := bi) (si := si) (nu := nu) (st := st) (ik := ik) (y := y) (m := (xs (i + 1)).toInt) (w := (xs (i + 2)).toInt) (v := (xs (i + 3)).toInt) (in32_of _) (in32_of _) (in32_of _) hI.2.1.1) hT hM hDT hAp hS (fun _ => wT_ad.trans wT_ad.symm) rfl rfl hl.1 dL_law_409 (fun x H locs hT hM hDT hAp hS => ?_) ⟨(Nat.le_of_ble_eq_true rfl), (Nat.le_of_ble_eq_true rfl)⟩ (Nat.le_of_ble_eq_true rfl) ⟨(Nat.le_of_ble_eq_true rfl), (Nat.le_of_ble_eq_true rfl)⟩
  refine r_aload_n (pc := 412) C dL_law_412 rfl l2 ?_
  refine r_arg (pc := 413) C hX hbl hbA hS l0 l3 1 rfl (by omega) hL dL_law_413 dL_law_414 dL_law_415 dL_law_416 dL_law_417 ?_
  refine r_arg (pc := 418) C hX hbl hbA hS l0 l3 2 rfl (by omega) hL dL_law_418 dL_law_419 dL_law_420 dL_law_421 dL_law_422 ?_
  refine r_arg (pc := 423) C hX hbl hbA hS l0 l3 3 rfl (by omega) hL dL_law_423 dL_law_424 dL_law_425 dL_law_426 dL_law_427 ?_
  refine r_lc3 (pc := 428) C m_L_44 (cM_set (l := l) (D := D) (k := k) (a := d) (s := s) (kp := kp) (ot := ot) (sd := sd) (st := st) (sp := sp) (tp := tp) (bi := bi) (si := si) (nu := nu) (mo := mo) (ik := ik) (tl := tl) (ta := ta) (fr := fr) (to := to) (va := va) (iw := iw) (m := (xs (i + 1)).toInt) (w := (xs (i + 2)).toInt) (v := (xs (i + 3)).toInt) (in32_of _) (in32_of _) (in32_of _) hI.2.1.1) hM hT hDM hAp.sy hS (fun _ => wM_ad.trans wM_ad.symm) rfl rfl hl.1 dL_law_428 (fun x' H locs hM hT hDM hAp hS => ?_) ⟨(Nat.le_of_ble_eq_true rfl), (Nat.le_of_ble_eq_true rfl)⟩ (Nat.le_of_ble_eq_true rfl) ⟨(Nat.le_of_ble_eq_true rfl), (Nat.le_of_ble_eq_true rfl)⟩
  refine r_same (pc := 431) (tgt := 1343) C dL_law_431 (by decide) ?_
  exact kk _ _ _ _ _ _ _ _ _ _ _ _ _ _ _ _ _ _ _ _ _ _ _ _ _ _ _ _ _ _ ⟨hT, hM, hDT, hDM, hAp.sy, hS⟩ (hI.st (inv_set hI.2.1))
set_option maxRecDepth 100000 in
set_option maxHeartbeats 400000 in
theorem lw_c7 (hE : lw_E p s₀ m meth cd b L xs Z D k) (hi : i + 6 ≤ L) (hl : lv_has ls 4 [(3, .int (iI (i : Int))), (2, .ref (d 0)), (1, .ref (a 0)), (0, .ref b)]) (hW : lw_W Z.1 D (wT a k s (lB (wrF s)) y t tw ty kq (lB (wrF kq)) ky tp ta tk sa en nm bi si nu st ik) (wM d k s kp ot sd st sp tp bi si nu mo ik (-1) tl ta fr to va iw) s₀.heap H locs) (hI : lw_I s kq kp tp bi si y ky ta nm ik va) (kk : lw_K 1343 p l e s₀ m b below meth cd Z D k a d ls Q) : W p l e room_1 s₀ m #[Value.ref b] below meth cd H locs 600000 7302250 Q (F0 m 436 ls []) := by
  obtain ⟨C, hX, hbl, hZ, hSV, hL⟩ := hE
  have hbA : ¬ (fun q : Nat => Z.1 ≤ q) b := by show ¬ Z.1 ≤ b; rw [hZ]; exact Nat.not_le.mpr hbl
  obtain ⟨hT, hM, hDT, hDM, hAp, hS⟩ := hW
  have l0 := lv_at hl 3 rfl
  have l1 := lv_at hl 2 rfl
  have l2 := lv_at hl 1 rfl
  have l3 := lv_at hl 0 rfl
  refine r_aload_n (pc := 436) C dL_law_436 rfl l1 ?_
  refine r_arg (pc := 437) C hX hbl hbA hS l0 l3 1 rfl (by omega) hL dL_law_437 dL_law_438 dL_law_439 dL_law_440 dL_law_441 ?_
  refine r_arg (pc := 442) C hX hbl hbA hS l0 l3 2 rfl (by omega) hL dL_law_442 dL_law_443 dL_law_444 dL_law_445 dL_law_446 ?_
  refine r_lc2 (pc := 447) C m_L_45 (cT_turn (l := l) (D := D) (k := k) (a := a) (s := s) (t := t) (tw := tw) (ty := ty) (kq := kq) (ky := ky) (tp := tp) (ta := ta) (tk := tk) (sa := sa) (en := en) (nm := nm) (bi := bi) (si := si) (nu := nu) (st := st) (ik := ik) (y := y) (m := (xs (i + 1)).toInt) (kd := (xs (i + 2)).toInt) (in32_of _) (in32_of _) hI.2.1.1) hT hM hDT hAp hS (fun _ => wT_ad.trans wT_ad.symm) rfl rfl hl.1 dL_law_447 (fun x H locs hT hM hDT hAp hS => ?_) ⟨(Nat.le_of_ble_eq_true rfl), (Nat.le_of_ble_eq_true rfl)⟩ (Nat.le_of_ble_eq_true rfl) ⟨(Nat.le_of_ble_eq_true rfl), (Nat.le_of_ble_eq_true rfl)⟩
  refine r_aload_n (pc := 450) C dL_law_450 rfl l2 ?_
  refine r_arg (pc := 451) C hX hbl hbA hS l0 l3 1 rfl (by omega) hL dL_law_451 dL_law_452 dL_law_453 dL_law_454 dL_law_455 ?_
  refine r_arg (pc := 456) C hX hbl hbA hS l0 l3 2 rfl (by omega) hL dL_law_456 dL_law_457 dL_law_458 dL_law_459 dL_law_460 ?_
  refine r_lc2 (pc := 461) C m_L_48 (cM_turn (l := l) (D := D) (k := k) (a := d) (s := s) (kp := kp) (ot := ot) (sd := sd) (st := st) (sp := sp) (tp := tp) (bi := bi) (si := si) (nu := nu) (mo := mo) (ik := ik) (tl := tl) (ta := ta) (fr := fr) (to := to) (va := va) (iw := iw) (m := (xs (i + 1)).toInt) (kd := (xs (i + 2)).toInt) (in32_of _) (in32_of _) hI.2.1.1) hM hT hDM hAp.sy hS (fun _ => wM_ad.trans wM_ad.symm) rfl rfl hl.1 dL_law_461 (fun x' H locs hM hT hDM hAp hS => ?_) ⟨(Nat.le_of_ble_eq_true rfl), (Nat.le_of_ble_eq_true rfl)⟩ (Nat.le_of_ble_eq_true rfl) ⟨(Nat.le_of_ble_eq_true rfl), (Nat.le_of_ble_eq_true rfl)⟩
  refine r_same (pc := 464) (tgt := 1343) C dL_law_464 (by decide) ?_
  exact kk _ _ _ _ _ _ _ _ _ _ _ _ _ _ _ _ _ _ _ _ _ _ _ _ _ _ _ _ _ _ ⟨hT, hM, hDT, hDM, hAp.sy, hS⟩ (hI.st (inv_turn hI.2.1))
set_option maxRecDepth 100000 in
set_option maxHeartbeats 400000 in
theorem lw_c8 (hE : lw_E p s₀ m meth cd b L xs Z D k) (hi : i + 6 ≤ L) (hl : lv_has ls 4 [(3, .int (iI (i : Int))), (2, .ref (d 0)), (1, .ref (a 0)), (0, .ref b)]) (hW : lw_W Z.1 D (wT a k s (lB (wrF s)) y t tw ty kq (lB (wrF kq)) ky tp ta tk sa en nm bi si nu st ik) (wM d k s kp ot sd st sp tp bi si nu mo ik (-1) tl ta fr to va iw) s₀.heap H locs) (hI : lw_I s kq kp tp bi si y ky ta nm ik va) (kk : lw_K 1343 p l e s₀ m b below meth cd Z D k a d ls Q) : W p l e room_1 s₀ m #[Value.ref b] below meth cd H locs 600000 7302250 Q (F0 m 469 ls []) := by
  obtain ⟨C, hX, hbl, hZ, hSV, hL⟩ := hE
  have hbA : ¬ (fun q : Nat => Z.1 ≤ q) b := by show ¬ Z.1 ≤ b; rw [hZ]; exact Nat.not_le.mpr hbl
  obtain ⟨hT, hM, hDT, hDM, hAp, hS⟩ := hW
  have l0 := lv_at hl 3 rfl
  have l1 := lv_at hl 2 rfl
  have l2 := lv_at hl 1 rfl
  have l3 := lv_at hl 0 rfl
  refine r_aload_n (pc := 469) C dL_law_469 rfl l1 ?_
  refine r_arg (pc := 470) C hX hbl hbA hS l0 l3 1 rfl (by omega) hL dL_law_470 dL_law_471 dL_law_472 dL_law_473 dL_law_474 ?_
  refine r_arg (pc := 475) C hX hbl hbA hS l0 l3 2 rfl (by omega) hL dL_law_475 dL_law_476 dL_law_477 dL_law_478 dL_law_479 ?_
  refine r_lc2 (pc := 480) C m_L_49 (cT_as (l := l) (D := D) (k := k) (a := a) (s := s) (t := t) (tw := tw) (ty := ty) (kq := kq) (ky := ky) (tp := tp) (ta := ta) (tk := tk) (sa := sa) (en := en) (nm := nm) (bi := bi) (si := si) (nu := nu) (st := st) (ik := ik) (y := y) (m := (xs (i + 1)).toInt) (kd := (xs (i + 2)).toInt) (in32_of _) (in32_of _) hI.2.1.1 hI.2.1.2.1) hT hM hDT hAp hS (fun _ => wT_ad.trans wT_ad.symm) rfl rfl hl.1 dL_law_480 (fun x H locs hT hM hDT hAp hS => ?_) ⟨(Nat.le_of_ble_eq_true rfl), (Nat.le_of_ble_eq_true rfl)⟩ (Nat.le_of_ble_eq_true rfl) ⟨(Nat.le_of_ble_eq_true rfl), (Nat.le_of_ble_eq_true rfl)⟩
  refine r_aload_n (pc := 483) C dL_law_483 rfl l2 ?_
  refine r_arg (pc := 484) C hX hbl hbA hS l0 l3 1 rfl (by omega) hL dL_law_484 dL_law_485 dL_law_486 dL_law_487 dL_law_488 ?_
  refine r_arg (pc := 489) C hX hbl hbA hS l0 l3 2 rfl (by omega) hL dL_law_489 dL_law_490 dL_law_491 dL_law_492 dL_law_493 ?_
  refine r_lc2 (pc := 494) C m_L_52 (cM_as (l := l) (D := D) (k := k) (a := d) (s := s) (kp := kp) (ot := ot) (sd := sd) (st := st) (sp := sp) (tp := tp) (bi := bi) (si := si) (nu := nu) (mo := mo) (ik := ik) (tl := tl) (ta := ta) (fr := fr) (to := to) (va := va) (iw := iw) (m := (xs (i + 1)).toInt) (kd := (xs (i + 2)).toInt) (in32_of _) (in32_of _) hI.2.1.1) hM hT hDM hAp.sy hS (fun _ => wM_ad.trans wM_ad.symm) rfl rfl hl.1 dL_law_494 (fun x' H locs hM hT hDM hAp hS => ?_) ⟨(Nat.le_of_ble_eq_true rfl), (Nat.le_of_ble_eq_true rfl)⟩ (Nat.le_of_ble_eq_true rfl) ⟨(Nat.le_of_ble_eq_true rfl), (Nat.le_of_ble_eq_true rfl)⟩
  refine r_same (pc := 497) (tgt := 1343) C dL_law_497 (by decide) ?_
  exact kk _ _ _ _ _ _ _ _ _ _ _ _ _ _ _ _ _ _ _ _ _ _ _ _ _ _ _ _ _ _ ⟨hT, hM, hDT, hDM, hAp.sy, hS⟩ (hI.st (inv_eq hI.2.1 (rd_as _ _ _ _)))
set_option maxRecDepth 100000 in
set_option maxHeartbeats 400000 in
theorem lw_c9 (hE : lw_E p s₀ m meth cd b L xs Z D k) (hi : i + 6 ≤ L) (hl : lv_has ls 4 [(3, .int (iI (i : Int))), (2, .ref (d 0)), (1, .ref (a 0)), (0, .ref b)]) (hW : lw_W Z.1 D (wT a k s (lB (wrF s)) y t tw ty kq (lB (wrF kq)) ky tp ta tk sa en nm bi si nu st ik) (wM d k s kp ot sd st sp tp bi si nu mo ik (-1) tl ta fr to va iw) s₀.heap H locs) (hI : lw_I s kq kp tp bi si y ky ta nm ik va) (kk : lw_K 1343 p l e s₀ m b below meth cd Z D k a d ls Q) : W p l e room_1 s₀ m #[Value.ref b] below meth cd H locs 600000 7302250 Q (F0 m 502 ls []) := by
  obtain ⟨C, hX, hbl, hZ, hSV, hL⟩ := hE
  have hbA : ¬ (fun q : Nat => Z.1 ≤ q) b := by show ¬ Z.1 ≤ b; rw [hZ]; exact Nat.not_le.mpr hbl
  obtain ⟨hT, hM, hDT, hDM, hAp, hS⟩ := hW
  have l0 := lv_at hl 3 rfl
  have l1 := lv_at hl 2 rfl
  have l2 := lv_at hl 1 rfl
  have l3 := lv_at hl 0 rfl
  refine r_aload_n (pc := 502) C dL_law_502 rfl l1 ?_
  refine r_arg (pc := 503) C hX hbl hbA hS l0 l3 1 rfl (by omega) hL dL_law_503 dL_law_504 dL_law_505 dL_law_506 dL_law_507 ?_
  refine r_arg (pc := 508) C hX hbl hbA hS l0 l3 2 rfl (by omega) hL dL_law_508 dL_law_509 dL_law_510 dL_law_511 dL_law_512 ?_
  refine r_lc2 (pc := 513) C m_L_53 (cT_cost (l := l) (D := D) (k := k) (a := a) (s := s) (t := t) (tw := tw) (ty := ty) (kq := kq) (ky := ky) (tp := tp) (ta := ta) (tk := tk) (sa := sa) (en := en) (nm := nm) (bi := bi) (si := si) (nu := nu) (st := st) (ik := ik) (y := y) (m := (xs (i + 1)).toInt) (c0 := (xs (i + 2)).toInt) (in32_of _) (in32_of _) hI.2.1.1) hT hM hDT hAp hS (fun _ => wT_ad.trans wT_ad.symm) rfl rfl hl.1 dL_law_513 (fun x H locs hT hM hDT hAp hS => ?_) ⟨(Nat.le_of_ble_eq_true rfl), (Nat.le_of_ble_eq_true rfl)⟩ (Nat.le_of_ble_eq_true rfl) ⟨(Nat.le_of_ble_eq_true rfl), (Nat.le_of_ble_eq_true rfl)⟩
  refine r_aload_n (pc := 516) C dL_law_516 rfl l2 ?_
  refine r_arg (pc := 517) C hX hbl hbA hS l0 l3 1 rfl (by omega) hL dL_law_517 dL_law_518 dL_law_519 dL_law_520 dL_law_521 ?_
  refine r_arg (pc := 522) C hX hbl hbA hS l0 l3 2 rfl (by omega) hL dL_law_522 dL_law_523 dL_law_524 dL_law_525 dL_law_526 ?_
  refine r_lc2 (pc := 527) C m_L_56 (cM_cost (l := l) (D := D) (k := k) (a := d) (s := s) (kp := kp) (ot := ot) (sd := sd) (st := st) (sp := sp) (tp := tp) (bi := bi) (si := si) (nu := nu) (mo := mo) (ik := ik) (tl := tl) (ta := ta) (fr := fr) (to := to) (va := va) (iw := iw) (m := (xs (i + 1)).toInt) (c := (xs (i + 2)).toInt) (in32_of _) (in32_of _) hI.2.1.1) hM hT hDM hAp.sy hS (fun _ => wM_ad.trans wM_ad.symm) rfl rfl hl.1 dL_law_527 (fun x' H locs hM hT hDM hAp hS => ?_) ⟨(Nat.le_of_ble_eq_true rfl), (Nat.le_of_ble_eq_true rfl)⟩ (Nat.le_of_ble_eq_true rfl) ⟨(Nat.le_of_ble_eq_true rfl), (Nat.le_of_ble_eq_true rfl)⟩
  refine r_same (pc := 530) (tgt := 1343) C dL_law_530 (by decide) ?_
  exact kk _ _ _ _ _ _ _ _ _ _ _ _ _ _ _ _ _ _ _ _ _ _ _ _ _ _ _ _ _ _ ⟨hT, hM, hDT, hDM, hAp.sy, hS⟩ (hI.st (inv_eq hI.2.1 (rd_cost _ _ _ _)))
set_option maxRecDepth 100000 in
set_option maxHeartbeats 400000 in
theorem lw_c10 (hE : lw_E p s₀ m meth cd b L xs Z D k) (hi : i + 6 ≤ L) (hl : lv_has ls 4 [(3, .int (iI (i : Int))), (2, .ref (d 0)), (1, .ref (a 0)), (0, .ref b)]) (hW : lw_W Z.1 D (wT a k s (lB (wrF s)) y t tw ty kq (lB (wrF kq)) ky tp ta tk sa en nm bi si nu st ik) (wM d k s kp ot sd st sp tp bi si nu mo ik (-1) tl ta fr to va iw) s₀.heap H locs) (hI : lw_I s kq kp tp bi si y ky ta nm ik va) (kk : lw_K 1343 p l e s₀ m b below meth cd Z D k a d ls Q) : W p l e room_1 s₀ m #[Value.ref b] below meth cd H locs 600000 7302250 Q (F0 m 535 ls []) := by
  obtain ⟨C, hX, hbl, hZ, hSV, hL⟩ := hE
  have hbA : ¬ (fun q : Nat => Z.1 ≤ q) b := by show ¬ Z.1 ≤ b; rw [hZ]; exact Nat.not_le.mpr hbl
  obtain ⟨hT, hM, hDT, hDM, hAp, hS⟩ := hW
  have l0 := lv_at hl 3 rfl
  have l1 := lv_at hl 2 rfl
  have l2 := lv_at hl 1 rfl
  have l3 := lv_at hl 0 rfl
  refine r_aload_n (pc := 535) C dL_law_535 rfl l1 ?_
  refine r_arg (pc := 536) C hX hbl hbA hS l0 l3 1 rfl (by omega) hL dL_law_536 dL_law_537 dL_law_538 dL_law_539 dL_law_540 ?_
  refine r_arg (pc := 541) C hX hbl hbA hS l0 l3 2 rfl (by omega) hL dL_law_541 dL_law_542 dL_law_543 dL_law_544 dL_law_545 ?_
  refine r_lc2 (pc := 546) C m_L_57 (cT_mend (l := l) (D := D) (k := k) (a := a) (s := s) (t := t) (tw := tw) (ty := ty) (kq := kq) (ky := ky) (tp := tp) (ta := ta) (tk := tk) (sa := sa) (en := en) (nm := nm) (bi := bi) (si := si) (nu := nu) (st := st) (ik := ik) (y := y) (m := (xs (i + 1)).toInt) (c0 := (xs (i + 2)).toInt) (in32_of _) (in32_of _) hI.2.1.1) hT hM hDT hAp hS (fun _ => wT_ad.trans wT_ad.symm) rfl rfl hl.1 dL_law_546 (fun x H locs hT hM hDT hAp hS => ?_) ⟨(Nat.le_of_ble_eq_true rfl), (Nat.le_of_ble_eq_true rfl)⟩ (Nat.le_of_ble_eq_true rfl) ⟨(Nat.le_of_ble_eq_true rfl), (Nat.le_of_ble_eq_true rfl)⟩
  refine r_aload_n (pc := 549) C dL_law_549 rfl l2 ?_
  refine r_arg (pc := 550) C hX hbl hbA hS l0 l3 1 rfl (by omega) hL dL_law_550 dL_law_551 dL_law_552 dL_law_553 dL_law_554 ?_
  refine r_arg (pc := 555) C hX hbl hbA hS l0 l3 2 rfl (by omega) hL dL_law_555 dL_law_556 dL_law_557 dL_law_558 dL_law_559 ?_
  refine r_lc2 (pc := 560) C m_L_60 (cM_mend (l := l) (D := D) (k := k) (a := d) (s := s) (kp := kp) (ot := ot) (sd := sd) (st := st) (sp := sp) (tp := tp) (bi := bi) (si := si) (nu := nu) (mo := mo) (ik := ik) (tl := tl) (ta := ta) (fr := fr) (to := to) (va := va) (iw := iw) (m := (xs (i + 1)).toInt) (c := (xs (i + 2)).toInt) (in32_of _) (in32_of _) hI.2.1.1) hM hT hDM hAp.sy hS (fun _ => wM_ad.trans wM_ad.symm) rfl rfl hl.1 dL_law_560 (fun x' H locs hM hT hDM hAp hS => ?_) ⟨(Nat.le_of_ble_eq_true rfl), (Nat.le_of_ble_eq_true rfl)⟩ (Nat.le_of_ble_eq_true rfl) ⟨(Nat.le_of_ble_eq_true rfl), (Nat.le_of_ble_eq_true rfl)⟩
  refine r_same (pc := 563) (tgt := 1343) C dL_law_563 (by decide) ?_
  exact kk _ _ _ _ _ _ _ _ _ _ _ _ _ _ _ _ _ _ _ _ _ _ _ _ _ _ _ _ _ _ ⟨hT, hM, hDT, hDM, hAp.sy, hS⟩ (hI.st (inv_mend hI.2.1))
set_option maxRecDepth 100000 in
set_option maxHeartbeats 400000 in
theorem lw_c11 (hE : lw_E p s₀ m meth cd b L xs Z D k) (hi : i + 6 ≤ L) (hl : lv_has ls 4 [(3, .int (iI (i : Int))), (2, .ref (d 0)), (1, .ref (a 0)), (0, .ref b)]) (hW : lw_W Z.1 D (wT a k s (lB (wrF s)) y t tw ty kq (lB (wrF kq)) ky tp ta tk sa en nm bi si nu st ik) (wM d k s kp ot sd st sp tp bi si nu mo ik (-1) tl ta fr to va iw) s₀.heap H locs) (hI : lw_I s kq kp tp bi si y ky ta nm ik va) (kk : lw_K 1343 p l e s₀ m b below meth cd Z D k a d ls Q) : W p l e room_1 s₀ m #[Value.ref b] below meth cd H locs 600000 7302250 Q (F0 m 568 ls []) := by
  obtain ⟨C, hX, hbl, hZ, hSV, hL⟩ := hE
  have hbA : ¬ (fun q : Nat => Z.1 ≤ q) b := by show ¬ Z.1 ≤ b; rw [hZ]; exact Nat.not_le.mpr hbl
  obtain ⟨hT, hM, hDT, hDM, hAp, hS⟩ := hW
  obtain rfl := hI.1
  have l0 := lv_at hl 3 rfl
  have l1 := lv_at hl 2 rfl
  have l2 := lv_at hl 1 rfl
  have l3 := lv_at hl 0 rfl
  refine r_aload_n (pc := 568) C dL_law_568 rfl l1 ?_
  refine r_arg (pc := 569) C hX hbl hbA hS l0 l3 1 rfl (by omega) hL dL_law_569 dL_law_570 dL_law_571 dL_law_572 dL_law_573 ?_
  refine r_lc1 (pc := 574) C m_L_61 (cT_years (l := l) (D := D) (k := k) (a := a) (s := s) (t := t) (tw := tw) (ty := ty) (kq := kq) (ky := ky) (tp := tp) (ta := ta) (tk := tk) (sa := sa) (en := en) (nm := nm) (bi := bi) (si := si) (nu := nu) (st := st) (ik := ik) (n0 := (xs (i + 1)).toInt) (in32_of _) hI.2.1.1 hI.2.1.2.2) hT hM hDT hAp hS (fun _ => wT_ad.trans wT_ad.symm) rfl rfl hl.1 dL_law_574 (fun x H locs hT hM hDT hAp hS => ?_) ⟨(Nat.le_of_ble_eq_true rfl), (Nat.le_of_ble_eq_true rfl)⟩ (Nat.le_of_ble_eq_true rfl) ⟨(Nat.le_of_ble_eq_true rfl), (Nat.le_of_ble_eq_true rfl)⟩
  refine r_aload_n (pc := 577) C dL_law_577 rfl l2 ?_
  refine r_arg (pc := 578) C hX hbl hbA hS l0 l3 1 rfl (by omega) hL dL_law_578 dL_law_579 dL_law_580 dL_law_581 dL_law_582 ?_
  refine r_lc1 (pc := 583) C m_L_64 (cM_years (l := l) (D := D) (k := k) (a := d) (s := s) (kp := kp) (ot := ot) (sd := sd) (st := st) (sp := sp) (tp := tp) (bi := bi) (si := si) (nu := nu) (mo := mo) (ik := ik) (tl := tl) (ta := ta) (fr := fr) (to := to) (va := va) (iw := iw) (n0 := (xs (i + 1)).toInt) (in32_of _) hI.2.1.1 hI.2.1.2.2) hM hT hDM hAp.sy hS (fun _ => wM_ad.trans wM_ad.symm) rfl rfl hl.1 dL_law_583 (fun x' H locs hM hT hDM hAp hS => ?_) ⟨(Nat.le_of_ble_eq_true rfl), (Nat.le_of_ble_eq_true rfl)⟩ (Nat.le_of_ble_eq_true rfl) ⟨(Nat.le_of_ble_eq_true rfl), (Nat.le_of_ble_eq_true rfl)⟩
  refine r_same (pc := 586) (tgt := 1343) C dL_law_586 (by decide) ?_
  exact kk _ _ _ _ _ _ _ _ _ _ _ _ _ _ _ _ _ _ _ _ _ _ _ _ _ _ _ _ _ _ ⟨hT, hM, hDT, hDM, hAp.sy, hS⟩ ⟨rfl, inv_years hI.2.1, hI.2.2⟩
set_option maxRecDepth 100000 in
set_option maxHeartbeats 400000 in
theorem lw_c12 (hE : lw_E p s₀ m meth cd b L xs Z D k) (hi : i + 6 ≤ L) (hl : lv_has ls 4 [(3, .int (iI (i : Int))), (2, .ref (d 0)), (1, .ref (a 0)), (0, .ref b)]) (hW : lw_W Z.1 D (wT a k s (lB (wrF s)) y t tw ty kq (lB (wrF kq)) ky tp ta tk sa en nm bi si nu st ik) (wM d k s kp ot sd st sp tp bi si nu mo ik (-1) tl ta fr to va iw) s₀.heap H locs) (hI : lw_I s kq kp tp bi si y ky ta nm ik va) (kk : lw_K 1343 p l e s₀ m b below meth cd Z D k a d ls Q) : W p l e room_1 s₀ m #[Value.ref b] below meth cd H locs 600000 7302250 Q (F0 m 591 ls []) := by
  obtain ⟨C, hX, hbl, hZ, hSV, hL⟩ := hE
  have hbA : ¬ (fun q : Nat => Z.1 ≤ q) b := by show ¬ Z.1 ≤ b; rw [hZ]; exact Nat.not_le.mpr hbl
  obtain ⟨hT, hM, hDT, hDM, hAp, hS⟩ := hW
  obtain rfl := hI.1
  have l0 := lv_at hl 3 rfl
  have l1 := lv_at hl 2 rfl
  have l2 := lv_at hl 1 rfl
  have l3 := lv_at hl 0 rfl
  refine r_aload_n (pc := 591) C dL_law_591 rfl l1 ?_
  refine r_arg (pc := 592) C hX hbl hbA hS l0 l3 1 rfl (by omega) hL dL_law_592 dL_law_593 dL_law_594 dL_law_595 dL_law_596 ?_
  refine r_lc1 (pc := 597) C m_L_65 (cT_now (l := l) (D := D) (k := k) (a := a) (s := s) (t := t) (tw := tw) (ty := ty) (kq := kq) (ky := ky) (tp := tp) (ta := ta) (tk := tk) (sa := sa) (en := en) (nm := nm) (bi := bi) (si := si) (nu := nu) (st := st) (ik := ik) (w := (xs (i + 1)).toInt) (in32_of _) hI.2.1.1) hT hM hDT hAp hS (fun _ => wT_ad.trans wT_ad.symm) rfl rfl hl.1 dL_law_597 (fun x H locs hT hM hDT hAp hS => ?_) ⟨(Nat.le_of_ble_eq_true rfl), (Nat.le_of_ble_eq_true rfl)⟩ (Nat.le_of_ble_eq_true rfl) ⟨(Nat.le_of_ble_eq_true rfl), (Nat.le_of_ble_eq_true rfl)⟩
  refine r_aload_n (pc := 600) C dL_law_600 rfl l2 ?_
  refine r_arg (pc := 601) C hX hbl hbA hS l0 l3 1 rfl (by omega) hL dL_law_601 dL_law_602 dL_law_603 dL_law_604 dL_law_605 ?_
  refine r_lc1 (pc := 606) C m_L_68 (cM_now (l := l) (D := D) (k := k) (a := d) (s := s) (kp := kp) (ot := ot) (sd := sd) (st := st) (sp := sp) (tp := tp) (bi := bi) (si := si) (nu := nu) (mo := mo) (ik := ik) (tl := tl) (ta := ta) (fr := fr) (to := to) (va := va) (iw := iw) (w := (xs (i + 1)).toInt) (in32_of _) hI.2.1.1) hM hT hDM hAp.sy hS (fun _ => wM_ad.trans wM_ad.symm) rfl rfl hl.1 dL_law_606 (fun x' H locs hM hT hDM hAp hS => ?_) ⟨(Nat.le_of_ble_eq_true rfl), (Nat.le_of_ble_eq_true rfl)⟩ (Nat.le_of_ble_eq_true rfl) ⟨(Nat.le_of_ble_eq_true rfl), (Nat.le_of_ble_eq_true rfl)⟩
  refine r_same (pc := 609) (tgt := 1343) C dL_law_609 (by decide) ?_
  exact kk _ _ _ _ _ _ _ _ _ _ _ _ _ _ _ _ _ _ _ _ _ _ _ _ _ _ _ _ _ _ ⟨hT, hM, hDT, hDM, hAp.sy, hS⟩ (hI.st (inv_eq hI.2.1 (rd_now _ _ _)))
end LAWC
