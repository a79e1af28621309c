/-! fresh worlds -/
def A0 (q : Nat) (x : Nat → Nat) : Nat → Nat
  | 0 => q
  | i + 1 => x (i + 1)
def A1 (q : Nat) (x : Nat → Nat) : Nat → Nat
  | 0 => q
  | i + 1 => x i
def s00 : Int → Int := up (fun _ => 0) 2 2
def zF : Int → Int := fun _ => 0
theorem s00_n {i : Int} (h : i ≠ 2) : s00 i = 0 := up_n h
theorem la_00 : laF s00 = fun _ => 0 := funext fun i => by unfold laF cu; split; exact s00_n (by omega); rfl
theorem ma_00 : maF s00 = fun _ => 0 := funext fun i => by unfold maF cu; split; exact s00_n (by omega); rfl
theorem ki_00 : kiF s00 = fun _ => 0 := funext fun i => by unfold kiF cu; split; exact s00_n (by omega); rfl
theorem pl_00 : plF s00 = fun _ => 0 := funext fun i => by unfold plF cu; split; exact s00_n (by omega); rfl
theorem pu_00 : puF s00 = fun _ => 0 := funext fun i => by unfold puF cu; split; exact s00_n (by omega); rfl
theorem pa_00 : paF s00 = fun _ => 0 := funext fun i => by unfold paF cu; split; exact s00_n (by omega); rfl
theorem sh_00 (j : Int) : shF (fun _ => 0) j = fun _ => 0 := funext fun i => by unfold shF; split <;> rfl
theorem wr_00 : wrF s00 = fun _ => false := funext fun i => by
  have h : ¬ untrue s00 (i : Int) := fun h => h (by rw [s00_n (by omega), s00_n (by omega)])
  show (decide (i < 48) && decide (untrue s00 (i : Int))) = false
  rw [decide_eq_false h, Bool.and_false]
theorem lB_00 : lB (wrF s00) = 0 := by
  rw [wr_00]
  exact lB_0.symm
theorem ok_00 : Ok s00 := by
  refine ⟨fun i _ => ?_, fun i h => s00_n (by omega), ?_, fun m _ _ => ?_⟩
  · show 0 ≤ (if i = 2 then (2 : Int) else 0) ∧ (if i = 2 then (2 : Int) else 0) < 100000
    split <;> omega
  · rw [s00_n (by omega)]; decide
  · rw [s00_n (by omega)]; decide
theorem inv_00 : Inv s00 := by
  refine ⟨ok_00, fun i _ _ => ?_, ?_, ?_⟩
  · rw [s00_n (by omega)]; decide
  · rw [s00_n (by omega)]; decide
  · rw [s00_n (by omega)]; decide
theorem ok_zF : Ok zF := ⟨fun i _ => ⟨Int.le_refl 0, by show (0 : Int) < 100000; decide⟩, fun i h => rfl, by show (0 : Int) ≤ 6; decide, fun m _ _ => by show (0 : Int) < 48; decide⟩
def wT1 (a : Nat) (b : Nat → Nat) (k : Nat → ClassId) : va_W := [(a, .inr (3, [.ref (b 1), .ref (b 8), .ref (b 15), .ref (b 22), .ref (b 24), .ref (b 33), .int 0])), ((b 1), .inr (2, [.ref (b 2), .ref (b 3), .ref (b 4), .ref (b 5), .ref (b 6), .ref (b 7), .int 0, .int 0, .int (iI 2), .long 0])), ((b 2), .inl (k 0, 48, .inl (arr (fun _ => 0)))), ((b 3), .inl (k 0, 48, .inl (arr (fun _ => 0)))), ((b 4), .inl (k 0, 6, .inl (arr (fun _ => 0)))), ((b 5), .inl (k 0, 6, .inl (arr (fun _ => 0)))), ((b 6), .inl (k 0, 6, .inl (arr (fun _ => 0)))), ((b 7), .inl (k 0, 6, .inl (arr (fun _ => 0)))), ((b 8), .inr (2, [.ref (b 9), .ref (b 10), .ref (b 11), .ref (b 12), .ref (b 13), .ref (b 14), .int 0, .int 0, .int (iI 2), .long 0])), ((b 9), .inl (k 0, 48, .inl (arr (fun _ => 0)))), ((b 10), .inl (k 0, 48, .inl (arr (fun _ => 0)))), ((b 11), .inl (k 0, 6, .inl (arr (fun _ => 0)))), ((b 12), .inl (k 0, 6, .inl (arr (fun _ => 0)))), ((b 13), .inl (k 0, 6, .inl (arr (fun _ => 0)))), ((b 14), .inl (k 0, 6, .inl (arr (fun _ => 0)))), ((b 15), .inr (2, [.ref (b 16), .ref (b 17), .ref (b 18), .ref (b 19), .ref (b 20), .ref (b 21), .int 0, .int 0, .int (iI 2), .long 0])), ((b 16), .inl (k 0, 48, .inl (arr (fun _ => 0)))), ((b 17), .inl (k 0, 48, .inl (arr (fun _ => 0)))), ((b 18), .inl (k 0, 6, .inl (arr (fun _ => 0)))), ((b 19), .inl (k 0, 6, .inl (arr (fun _ => 0)))), ((b 20), .inl (k 0, 6, .inl (arr (fun _ => 0)))), ((b 21), .inl (k 0, 6, .inl (arr (fun _ => 0)))), ((b 22), .inr (1, [.ref (b 23), .int 0, .int 0, .int 0, .int 0, .int 0])), ((b 23), .inl (k 0, 120, .inl (arr (fun _ => 0)))), ((b 24), .inl (k 2, 4, .inr (.inr (.inr (.inr (fun j => some (A0 a b (25 + 2 * j)))))))), ((b 25), .inr (0, [.ref (b 26), .int 0, .int 0])), ((b 26), .inl (k 1, 40, .inr (.inl (arL (fun _ => 0))))), ((b 27), .inr (0, [.ref (b 28), .int 0, .int 0])), ((b 28), .inl (k 1, 40, .inr (.inl (arL (fun _ => 0))))), ((b 29), .inr (0, [.ref (b 30), .int 0, .int 0])), ((b 30), .inl (k 1, 40, .inr (.inl (arL (fun _ => 0))))), ((b 31), .inr (0, [.ref (b 32), .int 0, .int 0])), ((b 32), .inl (k 1, 40, .inr (.inl (arL (fun _ => 0))))), ((b 33), .inl (k 0, 7, .inl (arr (fun _ => 0))))]
theorem fresh_T (a : Nat) (b : Nat → Nat) (k : Nat → ClassId) : wT1 a b k = wT (A0 a b) k s00 (lB (wrF s00)) 0 s00 (lB (wrF s00)) 0 s00 (lB (wrF s00)) 0 zF 0 0 0 0 0 zF zF (fun _ => 0) zF 0 := by
  unfold wT wW wS
  rw [lB_00, la_00, ma_00, ki_00, pl_00, pu_00, pa_00, sh_00, sh_00, sh_00, sh_00]
  rfl
theorem P_chg {D : va_G} {w : va_W} {H : Heap} (h : va_P D vwCl w H) (i : Nat) {q n : Nat} {cA : ClassId} {f f' : Nat → Option Nat} {w1 : va_W} (he : w[i]? = some (q, .inl (cA, n, .inr (.inr (.inr (.inr f)))))) (hf : ∀ j, j < n → f j = f' j) (hw : w.set i (q, .inl (cA, n, .inr (.inr (.inr (.inr f'))))) = w1) : va_P D vwCl w1 H := by
  subst hw
  have hlt : i < w.length := (List.getElem?_eq_some_iff.mp he).1
  intro j x hx
  by_cases e : i = j
  · subst e
    rw [List.getElem?_set, if_pos rfl, if_pos hlt] at hx
    cases hx
    have h1 : H[q]? = some (vp_cell cA (n, .inr (.inr (.inr (.inr f))))) := h i _ he
    show H[q]? = some (vp_cell cA (n, .inr (.inr (.inr (.inr f')))))
    rw [h1, vp_cell_q, vp_cell_q, arrV_ext (fun j hj => by rw [hf j hj])]
  · rw [List.getElem?_set_ne e] at hx
    exact h j x hx
theorem fresh_PT {D : va_G} {H : Heap} {a : Nat} {b : Nat → Nat} {k : Nat → ClassId} (h : va_P D vwCl (wT0 a b k) H) : va_P D vwCl (wT (A0 a b) k s00 (lB (wrF s00)) 0 s00 (lB (wrF s00)) 0 s00 (lB (wrF s00)) 0 zF 0 0 0 0 0 zF zF (fun _ => 0) zF 0) H := by
  rw [← fresh_T]
  refine P_chg h 24 (f' := fun j => some (A0 a b (25 + 2 * j))) rfl (fun j hj => ?_) rfl
  rcases (show j = 0 ∨ j = 1 ∨ j = 2 ∨ j = 3 by omega) with rfl | rfl | rfl | rfl <;> rfl
theorem fresh_DT {A : Nat → Prop} {a : Nat} {b : Nat → Nat} {k : Nat → ClassId} (h : va_D A (wT0 a b k)) : va_D A (wT (A0 a b) k s00 (lB (wrF s00)) 0 s00 (lB (wrF s00)) 0 s00 (lB (wrF s00)) 0 zF 0 0 0 0 0 zF zF (fun _ => 0) zF 0) := h.same (wT_ad.trans rfl)
theorem P_l {D : va_G} {w w2 : va_W} {H : Heap} (h : va_P D vwCl (w ++ w2) H) : va_P D vwCl w H := fun i q hi => h i q (by rw [List.getElem?_append_left (List.getElem?_eq_some_iff.mp hi).1]; exact hi)
theorem P_r {D : va_G} {w w2 : va_W} {H : Heap} (h : va_P D vwCl (w ++ w2) H) : va_P D vwCl w2 H := fun i q hi => h (w.length + i) q (by rw [List.getElem?_append_right (Nat.le_add_right _ _), Nat.add_sub_cancel_left]; exact hi)
theorem D_l {A : Nat → Prop} {w w2 : va_W} (h : va_D A (w ++ w2)) : va_D A w := ⟨fun i j p q hi hj hpq => h.1 i j p q (by rw [List.getElem?_append_left (List.getElem?_eq_some_iff.mp hi).1]; exact hi) (by rw [List.getElem?_append_left (List.getElem?_eq_some_iff.mp hj).1]; exact hj) hpq, fun i q hi => h.2 i q (by rw [List.getElem?_append_left (List.getElem?_eq_some_iff.mp hi).1]; exact hi)⟩
theorem D_r {A : Nat → Prop} {w w2 : va_W} (h : va_D A (w ++ w2)) : va_D A w2 := by
  have key : ∀ (i : Nat) (q : Nat × va_E), w2[i]? = some q → (w ++ w2)[w.length + i]? = some q := fun i q hi => by rw [List.getElem?_append_right (Nat.le_add_right _ _), Nat.add_sub_cancel_left]; exact hi
  refine ⟨fun i j p q hi hj hpq => ?_, fun i q hi => h.2 _ q (key i q hi)⟩
  have := h.1 _ _ p q (key i p hi) (key j q hj) hpq
  omega
theorem ap_of {A : Nat → Prop} {w w2 : va_W} (h : va_D A (w ++ w2)) : ap_W w w2 := by
  rintro q ⟨i, e, hi⟩ ⟨j, e', hj⟩
  have hlt : i < w.length := (List.getElem?_eq_some_iff.mp hi).1
  have h1 : (w ++ w2)[i]? = some (q, e) := by rw [List.getElem?_append_left hlt]; exact hi
  have h2 : (w ++ w2)[w.length + j]? = some (q, e') := by rw [List.getElem?_append_right (Nat.le_add_right _ _), Nat.add_sub_cancel_left]; exact hj
  have := h.1 _ _ _ _ h1 h2 rfl
  omega
theorem ap_to {w w' w2 w2' : va_W} (h : ap_W w w2) (e : w'.map (·.1) = w.map (·.1)) (e2 : w2'.map (·.1) = w2.map (·.1)) : ap_W w' w2' := fun q h1 h2 => h q (Ad_same e h1) (Ad_same e2 h2)
theorem fresh_M {D : va_G} {H : Heap} {a : Nat} {q : Nat → Nat} {k : Nat → ClassId} (h : va_P D vwCl [(a, .inr (4, [.ref (q 0), .ref (q 1), .ref (q 2), .ref (q 3), .ref (q 4), .int 0, .int (iI (-1)), .int 0, .ref (q 5), .ref (q 6), .int 0, .int 0, .int 0, .int 0, .int 0, .ref (q 7), .ref (q 8), .ref (q 9), .ref (q 10)])), ((q 0), .inl (k 0, 123, .inl (arr (up (fun _ => 0) 2 2)))), ((q 1), .inl (k 0, 123, .inl (arr (fun _ => 0)))), ((q 2), .inl (k 0, 123, .inl (arr (fun _ => 0)))), ((q 3), .inl (k 0, 123, .inl (arr (fun _ => 0)))), ((q 4), .inl (k 0, 7, .inl (arr (fun _ => 0)))), ((q 5), .inl (k 0, 48, .inl (arr (fun _ => 0)))), ((q 6), .inl (k 0, 120, .inl (arr (fun _ => 0)))), ((q 7), .inl (k 0, 4, .inl (arr (fun _ => 0)))), ((q 8), .inl (k 0, 4, .inl (arr (fun _ => 0)))), ((q 9), .inl (k 1, 160, .inr (.inl (arL (fun _ => 0))))), ((q 10), .inl (k 1, 40, .inr (.inl (arL (fun _ => 0)))))] H) : va_P D vwCl (wM (A1 a q) k s00 zF zF zF zF zF zF zF zF (fun _ => 0) (fun _ => 0) 0 (-1) 0 0 0 0 0 0) H := h
set_option maxRecDepth 100000 in
set_option maxHeartbeats 4000000 in
theorem whole_start {p : Program} {e : Env} {s : State} {m : MethodId} {below : List Frame} {meth : Method} {c : Code} (l : Launch) (hflags : l.flags = flags0) {b L : Nat} {xs : Nat → Int32} (hL : L ≤ 3072) (C0 : lw_At p s m meth c b L xs) : W p l e room_1 s m #[Value.ref b] below meth c s.heap [] 0 0 (lw_Z below #[Value.ref b] s) (entryFrame m ([Value.ref b] : List Value).toArray 4) := by
  obtain ⟨hx, hb, hr, hml, hown, hts, hX, hbl, hlocks, hgv⟩ := id C0
  obtain ⟨D, k, hEV, hEX⟩ := law_EV hts
  obtain ⟨Z, hZ, hSV⟩ := law_SV hts hgv
  have C : Cx p s m #[Value.ref b] meth c cL_law 4 RL ret D k := ⟨⟨hx, hb, hml, hown, fun w h => hts w (tb_in h)⟩, hEV, hr, hlocks⟩
  have hA : ∀ q : Nat, s.heap.size ≤ q → (fun q : Nat => Z.1 ≤ q) q := fun q h => by show Z.1 ≤ q; rw [hZ]; exact h
  have hS : va_S (fun q : Nat => Z.1 ≤ q) s.heap s.heap [] := va_S.rf
  have hP : va_P D vwCl [] s.heap := fun k q h => by simp at h
  have hD : va_D (fun q : Nat => Z.1 ≤ q) [] := ⟨fun i j p q h => by simp at h, fun k q h => by simp at h⟩
  have hl := lv_entry ([.ref b]) (n := 4) (Nat.le_of_ble_eq_true rfl)
  rw [lg_entry_eq]
  generalize (lg_sl ([.ref b]) ++ List.replicate (4 - (lg_sl ([.ref b])).length) Slot.unset).toArray = ls at hl ⊢
  have hl : lv_has ls 4 [(0, .ref b)] := hl
  refine r_new (pc := 0) (ci := 3) (N := 7) (Cn := RX3) (T := TX3) (ty0 := tyX3) (fs := [.null, .null, .null, .null, .null, .null, .int 0]) C hP hD hS hA rfl inTX3 tyX3_ok (tb_t 13 (by decide +kernel) rfl) (tb_t 14 (by decide +kernel) rfl) (tb_t 1 (by decide +kernel) rfl) df_X3 (Nat.le_of_ble_eq_true rfl) (Nat.le_of_ble_eq_true rfl) dL_law_0 (fun q H hP hD hS => ?_)
  have hP : va_P D vwCl [(q, .inr (3, [.null, .null, .null, .null, .null, .null, .int 0]))] H := hP
  have hD : va_D (fun q : Nat => Z.1 ≤ q) [(q, .inr (3, [.null, .null, .null, .null, .null, .null, .int 0]))] := hD
  refine r_dup (pc := 3) C dL_law_3 rfl ?_
  refine r_cIP (pc := 4) (wr := []) (wc := [(q, .inr (3, [.null, .null, .null, .null, .null, .null, .int 0]))]) C (tb_t 15 (by decide +kernel) rfl) (tb_t 16 (by decide +kernel) rfl) (tb_t 1 (by decide +kernel) rfl) co_X3_init rfl (by decide +kernel) (cI_X3 l D k q H.size) (pre_N2 C.2.1 hEX hP (hD.weaken (fun _ _ _ _ => trivial))) ⟨(Nat.le_of_ble_eq_true rfl), (Nat.le_of_ble_eq_true rfl)⟩ hP hD hS hA [0] [] rfl rfl (by decide) (by decide) hl.1 (Nat.le_of_ble_eq_true rfl) dL_law_4 ⟨(Nat.le_of_ble_eq_true rfl), (Nat.le_of_ble_eq_true rfl)⟩ (fun x H locs hP hD hS => ?_)
  have hP : va_P D vwCl (wT0 q x k) H := hP
  have hD : va_D (fun q : Nat => Z.1 ≤ q) (wT0 q x k) := hD
  refine r_astore_n (pc := 7) C [(1, .ref q), (0, .ref b)] dL_law_7 rfl hl (by decide) rfl (fun ls hl => ?_)
  refine r_new (pc := 8) (ci := 4) (N := 19) (Cn := RX4) (T := TX4) (ty0 := tyX4) (fs := [.null, .null, .null, .null, .null, .int 0, .int 0, .int 0, .null, .null, .int 0, .int 0, .int 0, .int 0, .int 0, .null, .null, .null, .null]) C hP hD hS hA rfl inTX4 tyX4_ok (tb_t 621 (by decide +kernel) rfl) (tb_t 622 (by decide +kernel) rfl) (tb_t 5 (by decide +kernel) rfl) df_X4 (Nat.le_of_ble_eq_true rfl) (Nat.le_of_ble_eq_true rfl) dL_law_8 (fun q2 H hP hD hS => ?_)
  refine r_dup (pc := 11) C dL_law_11 rfl ?_
  refine r_cIP (pc := 12) (wr := wT0 q x k) (wc := [(q2, .inr (4, [.null, .null, .null, .null, .null, .int 0, .int 0, .int 0, .null, .null, .int 0, .int 0, .int 0, .int 0, .int 0, .null, .null, .null, .null]))]) C (tb_t 623 (by decide +kernel) rfl) (tb_t 624 (by decide +kernel) rfl) (tb_t 5 (by decide +kernel) rfl) co_X4_init rfl (by decide +kernel) (cI_X4 l D k q2 H.size) (pre_N C.2.1 (P_r hP) ((D_r hD).weaken (fun _ _ _ _ => trivial))) ⟨(Nat.le_of_ble_eq_true rfl), (Nat.le_of_ble_eq_true rfl)⟩ hP hD hS hA [34] [0, 1, 2, 3, 4, 5, 6, 7, 8, 9, 10, 11, 12, 13, 14, 15, 16, 17, 18, 19, 20, 21, 22, 23, 24, 25, 26, 27, 28, 29, 30, 31, 32, 33] rfl rfl (by decide) (by decide) hl.1 (Nat.le_of_ble_eq_true rfl) dL_law_12 ⟨(Nat.le_of_ble_eq_true rfl), (Nat.le_of_ble_eq_true rfl)⟩ (fun x2 H locs hP hD hS => ?_)
  refine r_astore_n (pc := 15) C [(2, .ref q2), (1, .ref q), (0, .ref b)] dL_law_15 rfl hl (by decide) rfl (fun ls hl => ?_)
  refine r_iconst (pc := 16) C dL_law_16 ?_
  refine r_istore_n (pc := 17) C [(3, .int (iI 0)), (2, .ref q2), (1, .ref q), (0, .ref b)] dL_law_17 rfl hl (by decide) rfl (fun ls hl => ?_)
  refine W.widen (k := 600000) (n := 7302250) (Nat.le_of_ble_eq_true rfl) (Nat.le_of_ble_eq_true rfl) ?_
  exact lw_loop (a := A0 q x) (d := A1 q2 x2) ⟨C, hX, hbl, hZ, hSV, hL⟩ L 0 (Nat.zero_le L) (by omega) s00 s00 s00 zF zF zF zF zF zF zF zF (fun _ => 0) (fun _ => 0) (lB (wrF s00)) 0 0 0 0 0 0 0 0 0 0 0 0 0 0 H locs ls ⟨fresh_PT (P_l hP), fresh_M (P_r hP), fresh_DT (D_l hD), (D_r hD).same (wM_ad.trans rfl), ap_to (ap_of hD) (wT_ad.trans rfl) (wM_ad.trans rfl), hS⟩ ⟨(s00_n (by decide)).symm, inv_00, inv_00, ok_zF, ⟨by decide, by decide⟩, Or.inl rfl, fun _ => ⟨Int.le_refl 0, by show (0 : Int) ≤ 255; decide⟩, ⟨by decide, by decide⟩, fun _ => ⟨Int.le_refl 0, by show (0 : Int) ≤ 64; decide⟩, fun _ => ⟨Int.le_refl 0, by show (0 : Int) ≤ 40; decide⟩, ⟨by decide, by decide⟩, ⟨by decide, by decide⟩⟩ hl
