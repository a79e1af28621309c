/-! strings: contracts with something that stays (E) -/
def qO (ov : Option Value) : Array Value → State → Outcome → State → Prop := fun _ st oc t => oc = .returned ov ∧ t.heap = st.heap
def MRX (E : State → Prop) (l : Launch) (y : MethodName) (cc : ByteArray) (nL : Nat) (rt : Option FieldType) (fr lo : Nat) (D : va_G) (k : Nat → ClassId) (As : List Value) (w : va_W) (ov : Option Value) : Prop :=
  Met l y (.code y cc nL rt :: TB) (rM fr lo) (va_Pc As (fun U => va_P D vwCl w U.heap ∧ EV D k U ∧ E U)) (qO ov) 0 0 (fun _ => False)
def Stb (E : State → Prop) : Prop := ∀ (U : State) (g : JFrame) (mk : MethodId) (a : Array Value), E U → E (U.calling g mk a)
theorem MRX.mk {E : State → Prop} {l : Launch} {y : MethodName} {cc : ByteArray} {nL : Nat} {rt : Option FieldType} {fr lo : Nat} {D : va_G} {k : Nat → ClassId} {As : List Value} {w : va_W} {ov : Option Value} (own : String) (ho : y.cls = own) (hy : plainName own = true) (hn : (lg_sl As).length ≤ nL)
    (body : ∀ (p : Program) (e : Env) (s : State) (m : MethodId) (below : List Frame) (meth : Method) (c : Code) (ls : Array Slot), Cx p s m As.toArray meth c cc nL own rt D k → va_P D vwCl w s.heap → E s → lv_has ls nL (lv_args 0 As) → W p l e (rM fr lo) s m As.toArray below meth c s.heap [] 0 0 (MQ below (qO ov) As.toArray s 0 0 (fun _ => False)) (F0 m 0 ls [])) : MRX E l y cc nL rt fr lo D k As w ov := by
  subst ho
  refine Met.ofW (cc := cc) (maxL := nL) (ret := rt) hy rfl ?_
  intro p e s m args below meth c s₁ B hml hv
  obtain ⟨rfl, hP, hE, hX⟩ := hv
  have hts := atoms_spec (ws := Cond.code y cc nL rt :: TB) B.pre
  have hl := lv_entry As hn
  rw [lg_entry_eq]
  exact body p e s m below meth c _ ⟨⟨B.exec, B.bytes, hml, findClass_of_methodNamed B.named, fun w h => hts w (List.mem_cons_of_mem _ h)⟩, hE, B.returns, B.notSynchronized⟩ hP hX hl
/-- a string constant: its cell, its bytes' cell -/
def SE (A : Nat → Prop) (ad av : Nat) (l : List Int) (U : State) (H : Heap) : Prop :=
  va_O "java/lang/String" ad A U H ∧ va_OF "java/lang/String" "coder" "B" (.int 0) ad A U H ∧ va_OF "java/lang/String" "value" "[B" (.ref av) ad A U H ∧ va_T .byte av l.length (fun j => .int (iI (l.getD j 0))) A U H ∧ va_Z "java/lang/String" "COMPACT_STRINGS" "Z" (.int 1) A U H ∧ va_Zq "jdk/internal/util/Preconditions" "SIOOBE_FORMATTER" "Ljava/util/function/BiFunction;" A U H
theorem SE.moved {A : Nat → Prop} {ad av : Nat} {l : List Int} {u U : State} {H : Heap} (hvm : u.vm.Alike U.vm) (h : SE A ad av l u H) : SE A ad av l U H := ⟨va_O.moved hvm h.1, va_OF.moved hvm h.2.1, va_OF.moved hvm h.2.2.1, va_T.moved hvm h.2.2.2.1, va_Z.moved hvm h.2.2.2.2.1, va_Zq.moved hvm h.2.2.2.2.2⟩
theorem SE.kept {A : Nat → Prop} {ad av : Nat} {l : List Int} {U : State} {H H1 : Heap} (h : SE A ad av l U H) (hq : ∀ a : Nat, a < H.size → ¬ A a → H1[a]? = H[a]?) : SE A ad av l U H1 := ⟨va_O.kept h.1 hq, va_OF.kept h.2.1 hq, va_OF.kept h.2.2.1 hq, va_T.kept h.2.2.2.1 hq, va_Z.kept h.2.2.2.2.1 hq, va_Zq.kept h.2.2.2.2.2 hq⟩
theorem SE.narrow {A B : Nat → Prop} {ad av : Nat} {l : List Int} {U : State} {H : Heap} (h : SE A ad av l U H) (hAB : ∀ q, B q → A q) : SE B ad av l U H := ⟨va_O.narrow h.1 hAB, va_OF.narrow h.2.1 hAB, va_OF.narrow h.2.2.1 hAB, va_T.narrow h.2.2.2.1 hAB, va_Z.narrow h.2.2.2.2.1 hAB, va_Zq.narrow h.2.2.2.2.2 hAB⟩
abbrev SEu (A : Nat → Prop) (ad av : Nat) (l : List Int) : State → Prop := fun U => SE A ad av l U U.heap
theorem SE_st (A : Nat → Prop) (ad av : Nat) (l : List Int) : Stb (SEu A ad av l) := fun U g mk a h => SE.moved (u := U) (Vm.Alike.refl U.vm) h
theorem SE_wm {A : Nat → Prop} {ad av : Nat} {l : List Int} {s : State} {H : Heap} (h : SE A ad av l s H) : ∀ U : State, U.heap = H → s.WarmedH U.vm → SEu A ad av l U := fun U hU hW => by
  show SE A ad av l U U.heap
  rw [hU]
  exact SE.moved hW.alike h
section XR
variable {p : Program} {l : Launch} {e : Env} {R : Room} {s : State} {m : MethodId} {args : Array Value} {below : List Frame} {meth : Method} {c : Code} {H : Heap} {locs : List Loc} {cells slots : Nat} {Q : State → Prop}
variable {cc : ByteArray} {nL : Nat} {own : String} {rt : Option FieldType} {D : va_G} {k : Nat → ClassId} {pc : Nat} {ls : Array Slot} {rest : List Value} {w : va_W} {E : State → Prop}
variable {y : MethodName} {cb : ByteArray} {nM : Nat} {rc : Option FieldType} {fr lo i n : Nat} {As : List Value} {ov : Option Value} {b : Nat} {Cn : String}
theorem W.callQO {g : JFrame} {a : Array Value} (hr : CallRun p l e R s m args below meth c H locs cells slots 0 0 g rest (qO ov a) (fun _ => False)) (kk : W p l e R s m args below meth c H locs cells slots Q { g with pc := g.pc + 3, stack := ov.toList ++ rest }) : W p l e R s m args below meth c H locs cells slots Q g := by
  intro U hU X
  obtain ⟨v', st₀, t, T', L, h0, X', hL, e1, ⟨hv, hh⟩, st⟩ := hr U hU X
  cases hv
  obtain ⟨t2, a1, b1⟩ := kk T' (by rw [e1, hh, h0]) (Stand.forget X' (fun q h => (hL q h).elim))
  exact ⟨t2, st t2 a1, b1⟩
theorem pre_X {As' : List Value} (hE : EV D k s) (hPc : va_P D vwCl w H) (hX : ∀ U : State, U.heap = H → s.WarmedH U.vm → E U) (hc : Stb E) : PreS s H (va_Pc As' (fun U => va_P D vwCl w U.heap ∧ EV D k U ∧ E U)) As' :=
  ⟨fun a U g mk q => ⟨q.1, q.2.1, EV.call q.2.2.1, hc U g mk _ q.2.2.2⟩, fun U hU hW => ⟨rfl, by rw [hU]; exact hPc, hE.warm hW, hX U hU hW⟩⟩
theorem r_cVX (C : Cx p s m args meth c cc nL own rt D k) (hq : CV own i Cn y cb nM rc n) (hM : MRX E l y cb nM rc fr lo D k (.ref b :: As) w ov) (hX : ∀ U : State, U.heap = H → s.WarmedH U.vm → E U) (hst : Stb E) (hn : As.length = n) (hPc : va_P D vwCl w H) (hrec : ∃ cell : Cell, H[b]? = some cell ∧ cell.vm.isStatics = false ∧ s.vm.findClass Cn = some cell.cls) (hls : ls.size = nL) (hd : decode cc pc = .ok (.invokevirtual i, 3))
    (kk : W p l e R s m args below meth c H locs cells slots Q (F0 m (pc + 3) ls (ov.toList ++ rest))) (hR : fr + 1 ≤ R.frames ∧ 8 + (nM + 11) + lo ≤ R.locals := by exact ⟨Nat.le_of_ble_eq_true rfl, Nat.le_of_ble_eq_true rfl⟩) (hrm : (rest.map fun v => v.category).sum ≤ 8 := by exact Nat.le_of_ble_eq_true rfl) (hcs : cells ≤ R.cells ∧ slots ≤ R.slots := by exact ⟨Nat.zero_le _, Nat.zero_le _⟩) : W p l e R s m args below meth c H locs cells slots Q (F0 m pc ls (As.reverse ++ .ref b :: rest)) :=
  W.callQO (W.runV (As := As) (rest := rest) C.1 hM (c_cw C hq hR) ⟨(pre_X (As' := .ref b :: As) C.2.1 hPc hX hst).1, hrec, (pre_X (As' := .ref b :: As) C.2.1 hPc hX hst).2⟩ rfl hn hls rfl (lv_room hrm) hd hcs) kk
theorem r_cSX (C : Cx p s m args meth c cc nL own rt D k) (hq : CS own i y cb nM rc n) (hM : MRX E l y cb nM rc fr lo D k As w ov) (hX : ∀ U : State, U.heap = H → s.WarmedH U.vm → E U) (hst : Stb E) (hn : As.length = n) (hPc : va_P D vwCl w H) (hls : ls.size = nL) (hd : decode cc pc = .ok (.invokestatic i, 3))
    (kk : W p l e R s m args below meth c H locs cells slots Q (F0 m (pc + 3) ls (ov.toList ++ rest))) (hR : fr + 1 ≤ R.frames ∧ 8 + (nM + 11) + lo ≤ R.locals := by exact ⟨Nat.le_of_ble_eq_true rfl, Nat.le_of_ble_eq_true rfl⟩) (hrm : (rest.map fun v => v.category).sum ≤ 8 := by exact Nat.le_of_ble_eq_true rfl) (hcs : cells ≤ R.cells ∧ slots ≤ R.slots := by exact ⟨Nat.zero_le _, Nat.zero_le _⟩) : W p l e R s m args below meth c H locs cells slots Q (F0 m pc ls (As.reverse ++ rest)) :=
  W.callQO (W.runS (As := As) (rest := rest) C.1 hM (c_cs C hq hR) (pre_X C.2.1 hPc hX hst) rfl hn hls rfl (lv_room hrm) hd hcs) kk
theorem r_zretX (C : Cx p s m args meth c cc nL own rt D k) {ty : FieldType} {v : Int32} (hrt : rt = some ty) (hn : narrow ty (.int v) = .int v) (hd : decode cc pc = .ok (.ireturn, 1)) : W p l e R s m args below meth c s.heap [] 0 0 (MQ below (qO (some (.int v))) args s 0 0 (fun _ => False)) (F0 m pc ls [.int v]) := by
  subst hrt
  exact W.zret C.1.1 C.1.2.1 C.2.2.1 hn (fun t ht _ => ⟨rfl, ht⟩) (fun _ h => absurd h List.not_mem_nil) hd C.2.2.2
theorem r_iretX (C : Cx p s m args meth c cc nL own (some .int) D k) {v : Int32} (hd : decode cc pc = .ok (.ireturn, 1)) : W p l e R s m args below meth c s.heap [] 0 0 (MQ below (qO (some (.int v))) args s 0 0 (fun _ => False)) (F0 m pc ls [.int v]) := W.iret C.1.1 C.1.2.1 C.2.2.1 (fun t ht _ => ⟨rfl, ht⟩) (fun _ h => absurd h List.not_mem_nil) hd C.2.2.2
theorem r_vretX (C : Cx p s m args meth c cc nL own none D k) (hd : decode cc pc = .ok (.return_, 1)) : W p l e R s m args below meth c s.heap [] 0 0 (MQ below (qO none) args s 0 0 (fun _ => False)) (F0 m pc ls []) := W.vret C.1.1 C.1.2.1 C.2.2.1 (fun t ht _ => ⟨rfl, ht⟩) (fun _ h => absurd h List.not_mem_nil) hd C.2.2.2
end XR
theorem shr0 : ∀ n : Nat, n < 128 → iI (n : Int) >>> ((0 : Int32) &&& 31) = iI (n : Int) := by decide +kernel
theorem chr0 : ∀ n : Nat, n < 256 → (((iI (n : Int)) &&& iI 255).toUInt32 % 65536).toInt32 = iI (n : Int) := by decide +kernel
theorem chr1 : ∀ n : Nat, n < 256 → narrow .char (.int (iI (n : Int))) = .int (iI (n : Int)) := by decide +kernel
theorem fl_J0_38 : Cond.fieldLink RJ0 38 "java/lang/String" "COMPACT_STRINGS" "Z" ∈ TB := tb_t 465 (by decide +kernel) rfl
theorem fl_J0_1053 : Cond.fieldLink RJ0 1053 "jdk/internal/util/Preconditions" "SIOOBE_FORMATTER" "Ljava/util/function/BiFunction;" ∈ TB := tb_t 481 (by decide +kernel) rfl
theorem fl_J0_9 : Cond.fieldLink RJ0 9 "java/lang/String" "value" "[B" ∈ TB := tb_t 1064 (by decide +kernel) rfl
theorem fl_J0_15 : Cond.fieldLink RJ0 15 "java/lang/String" "coder" "B" ∈ TB := tb_t 1065 (by decide +kernel) rfl
section JSTR
variable {l : Launch} {D : va_G} {k : Nat → ClassId} {A : Nat → Prop} {ad av : Nat} {tx : List Int}
theorem cJ_coder : MRX (SEu A ad av tx) l yJ0_coder_7d493 cJ0_coder_7d493 1 (some .byte) 0 0 D k [.ref ad] [] (some (.int 0)) := by
  refine MRX.mk RJ0 rfl (by decide +kernel) (Nat.le_of_ble_eq_true rfl) (fun p e U m0 below meth cd ls C hP hE hl => ?_)
  have hl : lv_has ls 1 [(0, .ref ad)] := hl
  refine va_gets C.1.1 C.1.2.1 hE.2.2.2.2.1 va_S.rf C.1.2.2.2.1 (C.1.2.2.2.2 _ fl_J0_38) (fun _ h => h) dJ0_coder_7d493_0 ?_
  refine lv_if_eq C.1.1 C.1.2.1 (tgt := 13) dJ0_coder_7d493_3 (by decide) (fun h => absurd h (by decide)) (fun h => ?_)
  refine r_aload_n C dJ0_coder_7d493_6 rfl (lv_at hl 0 rfl) ?_
  refine vk_getf C.1.1 C.1.2.1 hE.2.1 va_S.rf C.1.2.2.2.1 (C.1.2.2.2.2 _ fl_J0_15) (fun _ h => h) dJ0_coder_7d493_7 ?_
  refine r_goto C (tgt := 14) dJ0_coder_7d493_10 (by decide) ?_
  exact r_zretX C rfl (by decide) dJ0_coder_7d493_14
theorem cJ_isLatin1 : MRX (SEu A ad av tx) l yJ0_isLatin1_aae02 cJ0_isLatin1_aae02 1 (some .boolean) 0 0 D k [.ref ad] [] (some (.int 1)) := by
  refine MRX.mk RJ0 rfl (by decide +kernel) (Nat.le_of_ble_eq_true rfl) (fun p e U m0 below meth cd ls C hP hE hl => ?_)
  have hl : lv_has ls 1 [(0, .ref ad)] := hl
  refine va_gets C.1.1 C.1.2.1 hE.2.2.2.2.1 va_S.rf C.1.2.2.2.1 (C.1.2.2.2.2 _ fl_J0_38) (fun _ h => h) dJ0_isLatin1_aae02_0 ?_
  refine lv_if_eq C.1.1 C.1.2.1 (tgt := 17) dJ0_isLatin1_aae02_3 (by decide) (fun h => absurd h (by decide)) (fun h => ?_)
  refine r_aload_n C dJ0_isLatin1_aae02_6 rfl (lv_at hl 0 rfl) ?_
  refine vk_getf C.1.1 C.1.2.1 hE.2.1 va_S.rf C.1.2.2.2.1 (C.1.2.2.2.2 _ fl_J0_15) (fun _ h => h) dJ0_isLatin1_aae02_7 ?_
  refine lv_if_ne C.1.1 C.1.2.1 (tgt := 17) dJ0_isLatin1_aae02_10 (by decide) (fun h => absurd rfl h) (fun h => ?_)
  refine r_iconst C dJ0_isLatin1_aae02_13 ?_
  refine r_goto C (tgt := 18) dJ0_isLatin1_aae02_14 (by decide) ?_
  exact r_zretX C (v := iI 1) rfl (by decide) dJ0_isLatin1_aae02_18
theorem cJ_length (ht : tx.length < 128) : MRX (SEu A ad av tx) l yJ0_length_8abf5 cJ0_length_8abf5 1 (some .int) 1 20 D k [.ref ad] [] (some (.int (iI (tx.length : Int)))) := by
  refine MRX.mk RJ0 rfl (by decide +kernel) (Nat.le_of_ble_eq_true rfl) (fun p e U m0 below meth cd ls C hP hE hl => ?_)
  have hl : lv_has ls 1 [(0, .ref ad)] := hl
  refine r_aload_n C dJ0_length_8abf5_0 rfl (lv_at hl 0 rfl) ?_
  refine vk_getf C.1.1 C.1.2.1 hE.2.2.1 va_S.rf C.1.2.2.2.1 (C.1.2.2.2.2 _ fl_J0_9) (fun _ h => h) dJ0_length_8abf5_1 ?_
  refine va_tlen C.1.1 C.1.2.1 hE.2.2.2.1 va_S.rf (v := iI (tx.length : Int)) (iI_nat tx.length).symm dJ0_length_8abf5_4 ?_
  refine r_aload_n C dJ0_length_8abf5_5 rfl (lv_at hl 0 rfl) ?_
  refine r_cVX (As := []) C m_J0_335 cJ_coder (SE_wm hE) (SE_st _ _ _ _) rfl pn0 (by obtain ⟨cell, a, b, c, -⟩ := hE.1; exact ⟨cell, a, b, c⟩) hl.1 dJ0_length_8abf5_6 ?_
  refine lv_ishr C.1.1 C.1.2.1 dJ0_length_8abf5_9 ?_
  rw [shr0 _ ht]
  exact r_iretX C dJ0_length_8abf5_10
theorem cJ_checkIndex3 {z n : Int} {v : Value} (h0 : 0 ≤ z) (h : z < n) (hn : n < 2147483648) (hv : v.category = 1) : MRX (SEu A ad av tx) l yJ3_checkIndex_8e157 cJ3_checkIndex_8e157 3 (some .int) 0 0 D k [.int (iI z), .int (iI n), v] [] (some (.int (iI z))) := by
  refine MRX.mk RJ3 rfl (by decide +kernel) (by show (lg_sl [.int (iI z), .int (iI n), v]).length ≤ 3; simp [lg_sl, hv, show (Value.int (iI z)).category = 1 from rfl, show (Value.int (iI n)).category = 1 from rfl]) (fun p e U m0 below meth cd ls C hP hE hl => ?_)
  have hl : lv_has ls 3 [(0, .int (iI z)), (1, .int (iI n)), (2, v)] := hl
  refine r_iload_n C dJ3_checkIndex_8e157_0 rfl (lv_at hl 0 rfl) ?_
  refine r_if_lt C (tgt := 9) dJ3_checkIndex_8e157_1 (by decide) ⟨by omega, by omega⟩ (fun h1 => absurd h1 (by omega)) (fun h1 => ?_)
  refine r_iload_n C dJ3_checkIndex_8e157_4 rfl (lv_at hl 0 rfl) ?_
  refine r_iload_n C dJ3_checkIndex_8e157_5 rfl (lv_at hl 1 rfl) ?_
  refine r_icmp_lt C (tgt := 16) dJ3_checkIndex_8e157_6 (by decide) ⟨by omega, by omega⟩ ⟨by omega, by omega⟩ (fun h2 => ?_) (fun h2 => absurd h h2)
  refine r_iload_n C dJ3_checkIndex_8e157_16 rfl (lv_at hl 0 rfl) ?_
  exact r_iretX C dJ3_checkIndex_8e157_17
theorem cJ_checkIndex {z n : Int} (h0 : 0 ≤ z) (h : z < n) (hn : n < 2147483648) : MRX (SEu A ad av tx) l yJ0_checkIndex_df160 cJ0_checkIndex_df160 2 none 1 22 D k [.int (iI z), .int (iI n)] [] none := by
  refine MRX.mk RJ0 rfl (by decide +kernel) (Nat.le_of_ble_eq_true rfl) (fun p e U m0 below meth cd ls C hP hE hl => ?_)
  have hl : lv_has ls 2 [(0, .int (iI z)), (1, .int (iI n))] := hl
  refine r_iload_n C dJ0_checkIndex_df160_0 rfl (lv_at hl 0 rfl) ?_
  refine r_iload_n C dJ0_checkIndex_df160_1 rfl (lv_at hl 1 rfl) ?_
  rcases hE.2.2.2.2.2 with hz | ⟨t9, hz⟩
  · refine va_gets C.1.1 C.1.2.1 hz va_S.rf C.1.2.2.2.1 (C.1.2.2.2.2 _ fl_J0_1053) (fun _ h => h) dJ0_checkIndex_df160_2 ?_
    refine r_cSX (As := [.int (iI z), .int (iI n), .null]) C m_J0_1059 (cJ_checkIndex3 h0 h hn rfl) (SE_wm hE) (SE_st _ _ _ _) rfl pn0 hl.1 dJ0_checkIndex_df160_5 ?_
    refine r_pop C dJ0_checkIndex_df160_8 rfl ?_
    exact r_vretX C dJ0_checkIndex_df160_9
  · refine va_gets C.1.1 C.1.2.1 hz va_S.rf C.1.2.2.2.1 (C.1.2.2.2.2 _ fl_J0_1053) (fun _ h => h) dJ0_checkIndex_df160_2 ?_
    refine r_cSX (As := [.int (iI z), .int (iI n), .ref t9]) C m_J0_1059 (cJ_checkIndex3 h0 h hn rfl) (SE_wm hE) (SE_st _ _ _ _) rfl pn0 hl.1 dJ0_checkIndex_df160_5 ?_
    refine r_pop C dJ0_checkIndex_df160_8 rfl ?_
    exact r_vretX C dJ0_checkIndex_df160_9
theorem cJ_charAt1 {z : Nat} (ht : tx.length < 128) (h : z < tx.length) (hc : ∀ i : Nat, i < tx.length → 0 ≤ tx.getD i 0 ∧ tx.getD i 0 < 256) : MRX (SEu A ad av tx) l yJ1_charAt_3b067 cJ1_charAt_3b067 2 (some .char) 2 43 D k [.ref av, .int (iI (z : Int))] [] (some (.int (iI (tx.getD z 0)))) := by
  refine MRX.mk RJ1 rfl (by decide +kernel) (Nat.le_of_ble_eq_true rfl) (fun p e U m0 below meth cd ls C hP hE hl => ?_)
  have hl : lv_has ls 2 [(0, .ref av), (1, .int (iI (z : Int)))] := hl
  refine r_iload_n C dJ1_charAt_3b067_0 rfl (lv_at hl 1 rfl) ?_
  refine r_aload_n C dJ1_charAt_3b067_1 rfl (lv_at hl 0 rfl) ?_
  refine va_tlen C.1.1 C.1.2.1 hE.2.2.2.1 va_S.rf (v := iI (tx.length : Int)) (iI_nat tx.length).symm dJ1_charAt_3b067_2 ?_
  refine r_cSX (As := [.int (iI (z : Int)), .int (iI (tx.length : Int))]) C m_J1_9 (cJ_checkIndex (by omega) (by omega) (by omega)) (SE_wm hE) (SE_st _ _ _ _) rfl pn0 hl.1 dJ1_charAt_3b067_3 ?_
  refine r_aload_n C dJ1_charAt_3b067_6 rfl (lv_at hl 0 rfl) ?_
  refine r_iload_n C dJ1_charAt_3b067_7 rfl (lv_at hl 1 rfl) ?_
  refine va_tb C.1.1 C.1.2.1 hE.2.2.2.1 va_S.rf (iI_ix (by omega) (by omega) (by omega)) (v := .int (iI (tx.getD z 0))) (by rw [iI_clamp (by omega) (by omega), Int.toNat_natCast]) dJ1_charAt_3b067_8 ?_
  refine r_sipush C dJ1_charAt_3b067_9 (by decide) ?_
  refine lv_iand C.1.1 C.1.2.1 dJ1_charAt_3b067_12 ?_
  have hz := hc z h
  obtain ⟨q, hq⟩ := Int.eq_ofNat_of_zero_le hz.1
  rw [hq] at hz ⊢
  refine lv_i2c C.1.1 C.1.2.1 dJ1_charAt_3b067_13 (chr0 q (by omega)) ?_
  exact r_zretX C rfl (chr1 q (by omega)) dJ1_charAt_3b067_14
theorem cJ_charAt {z : Nat} (ht : tx.length < 128) (h : z < tx.length) (hc : ∀ i : Nat, i < tx.length → 0 ≤ tx.getD i 0 ∧ tx.getD i 0 < 256) : MRX (SEu A ad av tx) l yJ0_charAt_5068e cJ0_charAt_5068e 2 (some .char) 3 64 D k [.ref ad, .int (iI (z : Int))] [] (some (.int (iI (tx.getD z 0)))) := by
  refine MRX.mk RJ0 rfl (by decide +kernel) (Nat.le_of_ble_eq_true rfl) (fun p e U m0 below meth cd ls C hP hE hl => ?_)
  have hl : lv_has ls 2 [(0, .ref ad), (1, .int (iI (z : Int)))] := hl
  refine r_aload_n C dJ0_charAt_5068e_0 rfl (lv_at hl 0 rfl) ?_
  refine r_cVX (As := []) C m_J0_492 cJ_isLatin1 (SE_wm hE) (SE_st _ _ _ _) rfl pn0 (by obtain ⟨cell, a, b, c, -⟩ := hE.1; exact ⟨cell, a, b, c⟩) hl.1 dJ0_charAt_5068e_1 ?_
  refine lv_if_eq C.1.1 C.1.2.1 (tgt := 16) dJ0_charAt_5068e_4 (by decide) (fun h9 => absurd h9 (by decide)) (fun h9 => ?_)
  refine r_aload_n C dJ0_charAt_5068e_7 rfl (lv_at hl 0 rfl) ?_
  refine vk_getf C.1.1 C.1.2.1 hE.2.2.1 va_S.rf C.1.2.2.2.1 (C.1.2.2.2.2 _ fl_J0_9) (fun _ h => h) dJ0_charAt_5068e_8 ?_
  refine r_iload_n C dJ0_charAt_5068e_11 rfl (lv_at hl 1 rfl) ?_
  refine r_cSX (As := [.ref av, .int (iI (z : Int))]) C m_J0_495 (cJ_charAt1 ht h hc) (SE_wm hE) (SE_st _ _ _ _) rfl pn0 hl.1 dJ0_charAt_5068e_12 ?_
  have hz := hc z h
  obtain ⟨q, hq⟩ := Int.eq_ofNat_of_zero_le hz.1
  rw [hq] at hz ⊢
  exact r_zretX C rfl (chr1 q (by omega)) dJ0_charAt_5068e_15
end JSTR
