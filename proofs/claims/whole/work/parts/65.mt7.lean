section CLASS
variable {l : Launch} {D : va_G} {k : Nat → ClassId} {a b c : Nat → Nat} {A : Nat → Prop} {ad av : Nat} {tx : List Int} {Z : SZ} {s t kq tp bi si st : Int → Int} {wr tw kw : Int64} {y ty ky ta tk sa en nm ik bt sz : Int} {nu nf : Int → Int64}
theorem lc_T_pw : [22, 23, 8, 9, 10, 11, 12, 13, 14].map (fun i => (wT a k s wr y t tw ty kq kw ky tp ta tk sa en nm bi si nu st ik)[i]?) = (wPW (fun i => a (8 + i)) (fun i => a (22 + i)) k tp ta tk sa en nm t tw ty).map some := lc_T_tp_t
theorem lp_T_pw {tp' t' : Int → Int} {ta' tk' sa' en' nm' ty' : Int} {tw' : Int64} : putW (wT a k s wr y t tw ty kq kw ky tp ta tk sa en nm bi si nu st ik) [22, 23, 8, 9, 10, 11, 12, 13, 14] (wPW (fun i => a (8 + i)) (fun i => a (22 + i)) k tp' ta' tk' sa' en' nm' t' tw' ty') = wT a k s wr y t' tw' ty' kq kw ky tp' ta' tk' sa' en' nm' bi si nu st ik := lp_T_tp_t
def MEX {X : Type} (Z : SZ) (l : Launch) (y : MethodName) (cc : ByteArray) (nL : Nat) (rt : Option FieldType) (fr lo : Nat) (D : va_G) (k : Nat → ClassId) (As : List Value) (w : va_W) (w' : X → va_W) (ov : Option Value) : Prop :=
  Met l y (.code y cc nL rt :: TB) (rM fr lo) (va_Pc As (fun U => va_P D vwCl w U.heap ∧ EV D k U ∧ va_D (fun q => Z.1 ≤ q) w ∧ SVu Z U)) (qE D w w' ov) 0 0 (Ad w)
theorem MEX.mk {X : Type} {Z : SZ} {l : Launch} {y : MethodName} {cc : ByteArray} {nL : Nat} {rt : Option FieldType} {fr lo : Nat} {D : va_G} {k : Nat → ClassId} {As : List Value} {w : va_W} {w' : X → va_W} {ov : Option Value} (own : String) (ho : y.cls = own) (hy : plainName own = true) (hn : (lg_sl As).length ≤ nL)
    (body : ∀ (p : Program) (e : Env) (s : State) (m : MethodId) (below : List Frame) (meth : Method) (c : Code) (ls : Array Slot), Cx p s m As.toArray meth c cc nL own rt D k → va_D (fun q => Z.1 ≤ q) w → SV Z s s.heap → va_P D vwCl w s.heap → va_D (Ad w) w → va_S (Ad w) s.heap s.heap [] → lv_has ls nL (lv_args 0 As) → W p l e (rM fr lo) s m As.toArray below meth c s.heap [] 0 0 (MQ below (qE D w w' ov) As.toArray s 0 0 (Ad w)) (F0 m 0 ls [])) : MEX Z l y cc nL rt fr lo D k As w w' ov := by
  subst ho
  refine Met.ofW (cc := cc) (maxL := nL) (ret := rt) hy rfl ?_
  intro p e s m args below meth c s₁ B hml hv
  obtain ⟨rfl, hP, hE, hD, hZ⟩ := hv
  have hts := atoms_spec (ws := Cond.code y cc nL rt :: TB) B.pre
  have hl := lv_entry As hn
  rw [lg_entry_eq]
  exact body p e s m below meth c _ ⟨⟨B.exec, B.bytes, hml, findClass_of_methodNamed B.named, fun w h => hts w (List.mem_cons_of_mem _ h)⟩, hE, B.returns, B.notSynchronized⟩ hD hZ hP ⟨hD.1, fun i q hq => ⟨i, q.2, hq⟩⟩ va_S.rf hl
set_option maxHeartbeats 400000 in
set_option maxRecDepth 100000 in
theorem cT_map  {va : Int} (hs : Ok s) (htp : ∀ i, 0 ≤ tp i ∧ tp i ≤ 255) (hta : 0 ≤ ta ∧ ta ≤ 120) (hnm : 0 ≤ nm ∧ nm ≤ 10000) (hva : -2147483648 ≤ va ∧ va < 2147483647) : MEX Z l yX3_map cX3_map 2 (some .int) 9 198 D k [.ref (a 0)] (wT a k s (lB (wrF s)) y t tw ty kq (lB (wrF kq)) ky tp ta tk sa en nm bi si nu st ik) (fun x : (Int → Int) × Int64 × Int × Int × Int × Int => wT a k ((fMap s tp ta va).2) (lB (wrF ((fMap s tp ta va).2))) y x.1 x.2.1 x.2.2.1 kq (lB (wrF kq)) ky tp 0 x.2.2.2.1 x.2.2.2.2.1 x.2.2.2.2.2 ((crO tp ta s (adC tp ta (sa, 0, nm))).2.2.2.2) bi si nu st ik) (some (.int (iI ((fMap s tp ta va).1)))) := by
  refine MEX.mk RX3 rfl (by decide +kernel) (Nat.le_of_ble_eq_true rfl) (fun p e U m0 below meth cd ls C hA hZ hP hD hS hl => ?_)
  have hl : lv_has ls 2 [(0, .ref (a 0))] := hl
  refine r_aload_n C dX3_map_0 rfl (lv_at hl 0 rfl) ?_
  refine g_X3_16 C hP 0 rfl rfl dX3_map_1 ?_
  refine r_aload_n C dX3_map_4 rfl (lv_at hl 0 rfl) ?_
  refine g_X3_10 C hP 0 rfl rfl dX3_map_5 ?_
  refine r_cVW1 C m_X3_150 (cW_become (b := (fun i => a (8 + i))) (d := (fun i => a (1 + i))) (s := t) (t := s) (wr := tw) (tw := lB (wrF s)) (y := ty) (ty := y)) hP hD hS [8, 9, 10, 11, 12, 13, 14, 1, 2, 3, 4, 5, 6, 7] (wT a k s (lB (wrF s)) y s (lB (wrF s)) y kq (lB (wrF kq)) ky tp ta tk sa en nm bi si nu st ik) rfl lc_T_t_s rfl lp_T_t_s (wT_ad.trans wT_ad.symm) rfl rfl hl.1 dX3_map_8 (fun H locs hP hD hS => ?_)
  refine r_aload_n C dX3_map_11 rfl (lv_at hl 0 rfl) ?_
  refine g_X3_25 C hP 0 rfl rfl dX3_map_12 ?_
  refine r_aload_n C dX3_map_15 rfl (lv_at hl 0 rfl) ?_
  refine g_X3_16 C hP 0 rfl rfl dX3_map_16 ?_
  have hA2 := va_D.same (w1 := wT a k s (lB (wrF s)) y s (lB (wrF s)) y kq (lB (wrF kq)) ky tp ta tk sa en nm bi si nu st ik) hA (wT_ad.trans wT_ad.symm)
  refine r_cVWX (As := [.ref (a 8)]) C m_X3_185 (cP_readInto (Z := Z) (b := fun i => a (8 + i)) (c := fun i => a (22 + i)) (tp := tp) (ta := ta) (tk := tk) (sa := sa) (en := en) (nm := nm) (s := s) (y := y) hta.1 hta.2 hnm.1 hnm.2 htp hs) (hZ.by hA hS) (hA2.sub [22, 23, 8, 9, 10, 11, 12, 13, 14] rfl lc_T_pw) rfl hP hD hS [22, 23, 8, 9, 10, 11, 12, 13, 14] (wT a k s (lB (wrF s)) y ((crO tp ta s (adC tp ta (sa, 0, nm))).2.1) (lB (wrF ((crO tp ta s (adC tp ta (sa, 0, nm))).2.1))) y kq (lB (wrF kq)) ky tp ta (tkC tp ta (crO tp ta s (adC tp ta (sa, 0, nm))).2.2.1) ((crO tp ta s (adC tp ta (sa, 0, nm))).2.2.1) ((crO tp ta s (adC tp ta (sa, 0, nm))).2.2.2.1) ((crO tp ta s (adC tp ta (sa, 0, nm))).2.2.2.2) bi si nu st ik) lc_T_pw rfl lp_T_pw (wT_ad.trans wT_ad.symm) rfl rfl hl.1 dX3_map_19 (fun H locs hP hD hS => ?_)
  have hcA := crA_rg (s := s) htp (p := (adC tp ta (sa, 0, nm))) (ad_ci htp (p := (sa, 0, nm)) (Int.le_refl 0) hta.1 hnm.1 hnm.2) hta.2
  have hcm := cr_map (s := s) (va := va) (rq_0 (tp := tp) (ta := ta) (sa := sa) (nm := nm) hta.1 hta.2 hva) hs hta.2 rfl
  refine r_istore_n C [(1, .int (iI (crA tp ta s (adC tp ta (sa, 0, nm))))), (0, .ref (a 0))] dX3_map_22 rfl hl (by decide) rfl (fun ls hl => ?_)
  refine r_iload_n C dX3_map_23 rfl (lv_at hl 0 rfl) ?_
  refine r_if_le C (tgt := 38) dX3_map_24 (by decide) (by have := hcA; exact ⟨by omega, by omega⟩) (fun h1 => ?_) (fun h1 => ?_)
  · refine r_aload_n C dX3_map_38 rfl (lv_at hl 1 rfl) ?_
    refine g_X3_25 C hP 0 rfl rfl dX3_map_39 ?_
    refine r_iconst C dX3_map_42 ?_
    refine p_X3_179 C hP hD hS 22 (wT a k s (lB (wrF s)) y ((crO tp ta s (adC tp ta (sa, 0, nm))).2.1) (lB (wrF ((crO tp ta s (adC tp ta (sa, 0, nm))).2.1))) y kq (lB (wrF kq)) ky tp 0 (tkC tp ta (crO tp ta s (adC tp ta (sa, 0, nm))).2.2.1) ((crO tp ta s (adC tp ta (sa, 0, nm))).2.2.1) ((crO tp ta s (adC tp ta (sa, 0, nm))).2.2.2.1) ((crO tp ta s (adC tp ta (sa, 0, nm))).2.2.2.2) bi si nu st ik) rfl (Nat.le_of_ble_eq_true rfl) rfl dX3_map_43 (fun H locs hP hD hS => ?_)
    refine r_iload_n C dX3_map_46 rfl (lv_at hl 0 rfl) ?_
    exact r_iretE C hP hS ((crO tp ta s (adC tp ta (sa, 0, nm))).2.1, lB (wrF ((crO tp ta s (adC tp ta (sa, 0, nm))).2.1)), y, tkC tp ta (crO tp ta s (adC tp ta (sa, 0, nm))).2.2.1, (crO tp ta s (adC tp ta (sa, 0, nm))).2.2.1, (crO tp ta s (adC tp ta (sa, 0, nm))).2.2.2.1) (by rw [hcm.2.2 (by omega)]) (congrArg iI hcm.1) dX3_map_47
  · refine r_aload_n C dX3_map_27 rfl (lv_at hl 1 rfl) ?_
    refine g_X3_10 C hP 0 rfl rfl dX3_map_28 ?_
    refine r_aload_n C dX3_map_31 rfl (lv_at hl 1 rfl) ?_
    refine g_X3_16 C hP 0 rfl rfl dX3_map_32 ?_
    refine r_cVW1 C m_X3_150 (cW_become (b := (fun i => a (1 + i))) (d := (fun i => a (8 + i))) (s := s) (t := (crO tp ta s (adC tp ta (sa, 0, nm))).2.1) (wr := lB (wrF s)) (tw := lB (wrF ((crO tp ta s (adC tp ta (sa, 0, nm))).2.1))) (y := y) (ty := y)) hP hD hS [1, 2, 3, 4, 5, 6, 7, 8, 9, 10, 11, 12, 13, 14] (wT a k ((crO tp ta s (adC tp ta (sa, 0, nm))).2.1) (lB (wrF ((crO tp ta s (adC tp ta (sa, 0, nm))).2.1))) y ((crO tp ta s (adC tp ta (sa, 0, nm))).2.1) (lB (wrF ((crO tp ta s (adC tp ta (sa, 0, nm))).2.1))) y kq (lB (wrF kq)) ky tp ta (tkC tp ta (crO tp ta s (adC tp ta (sa, 0, nm))).2.2.1) ((crO tp ta s (adC tp ta (sa, 0, nm))).2.2.1) ((crO tp ta s (adC tp ta (sa, 0, nm))).2.2.2.1) ((crO tp ta s (adC tp ta (sa, 0, nm))).2.2.2.2) bi si nu st ik) rfl lc_T_s_t rfl lp_T_s_t (wT_ad.trans wT_ad.symm) rfl rfl hl.1 dX3_map_35 (fun H locs hP hD hS => ?_)
    refine r_aload_n C dX3_map_38 rfl (lv_at hl 1 rfl) ?_
    refine g_X3_25 C hP 0 rfl rfl dX3_map_39 ?_
    refine r_iconst C dX3_map_42 ?_
    refine p_X3_179 C hP hD hS 22 (wT a k ((crO tp ta s (adC tp ta (sa, 0, nm))).2.1) (lB (wrF ((crO tp ta s (adC tp ta (sa, 0, nm))).2.1))) y ((crO tp ta s (adC tp ta (sa, 0, nm))).2.1) (lB (wrF ((crO tp ta s (adC tp ta (sa, 0, nm))).2.1))) y kq (lB (wrF kq)) ky tp 0 (tkC tp ta (crO tp ta s (adC tp ta (sa, 0, nm))).2.2.1) ((crO tp ta s (adC tp ta (sa, 0, nm))).2.2.1) ((crO tp ta s (adC tp ta (sa, 0, nm))).2.2.2.1) ((crO tp ta s (adC tp ta (sa, 0, nm))).2.2.2.2) bi si nu st ik) rfl (Nat.le_of_ble_eq_true rfl) rfl dX3_map_43 (fun H locs hP hD hS => ?_)
    refine r_iload_n C dX3_map_46 rfl (lv_at hl 0 rfl) ?_
    exact r_iretE C hP hS ((crO tp ta s (adC tp ta (sa, 0, nm))).2.1, lB (wrF ((crO tp ta s (adC tp ta (sa, 0, nm))).2.1)), y, tkC tp ta (crO tp ta s (adC tp ta (sa, 0, nm))).2.2.1, (crO tp ta s (adC tp ta (sa, 0, nm))).2.2.1, (crO tp ta s (adC tp ta (sa, 0, nm))).2.2.2.1) (by rw [← hcm.2.1 (by omega)]) (congrArg iI hcm.1) dX3_map_47
end CLASS
