/-! the class's eighteen string constants -/
def sIx : Nat → Nat
  | 0 => 93
  | 1 => 95
  | 2 => 97
  | 3 => 99
  | 4 => 101
  | 5 => 103
  | 6 => 105
  | 7 => 107
  | 8 => 109
  | 9 => 111
  | 10 => 113
  | 11 => 115
  | 12 => 40
  | 13 => 49
  | 14 => 51
  | 15 => 61
  | 16 => 70
  | _ => 79
def sTx : Nat → String
  | 0 => "mender"
  | 1 => "digger"
  | 2 => "clerk"
  | 3 => "briber"
  | 4 => "mover"
  | 5 => "insurer"
  | 6 => "plain"
  | 7 => "water"
  | 8 => "wood"
  | 9 => "village"
  | 10 => "hill"
  | 11 => "road"
  | 12 => "land"
  | 13 => "map"
  | 14 => "income"
  | 15 => "at"
  | 16 => "purse"
  | _ => "to"
def sLs : Nat → List Int
  | 0 => kdL 0
  | 1 => kdL 1
  | 2 => kdL 2
  | 3 => kdL 3
  | 4 => kdL 4
  | 5 => kdL 5
  | 6 => srL 0
  | 7 => srL 1
  | 8 => srL 2
  | 9 => srL 3
  | 10 => srL 4
  | 11 => srL 5
  | 12 => laL
  | 13 => maL
  | 14 => inL
  | 15 => atL
  | 16 => puL
  | _ => toL
abbrev SZ : Type := Nat × (Nat → Nat) × (Nat → Nat)
def SV (Z : SZ) (U : State) (H : Heap) : Prop := ∀ i : Nat, i < 18 → vk_R RX1 (sIx i) (sTx i) (Z.2.1 i) U ∧ SE (fun q => Z.1 ≤ q) (Z.2.1 i) (Z.2.2 i) (sLs i) U H
abbrev SVu (Z : SZ) : State → Prop := fun U => SV Z U U.heap
theorem SV_st (Z : SZ) : Stb (SVu Z) := fun U g mk a h i hi => ⟨vk_R.same (u := U) rfl (h i hi).1, SE.moved (u := U) (Vm.Alike.refl U.vm) (h i hi).2⟩
theorem SV_wm {Z : SZ} {s : State} {H : Heap} (h : SV Z s H) : ∀ U : State, U.heap = H → s.WarmedH U.vm → SVu Z U := fun U hU hW i hi => by
  refine ⟨vk_R.warm hW (h i hi).1, ?_⟩
  rw [hU]
  exact SE.moved hW.alike (h i hi).2
theorem SV.kept {Z : SZ} {U : State} {H H1 : Heap} (h : SV Z U H) (hq : ∀ a : Nat, a < H.size → ¬ Z.1 ≤ a → H1[a]? = H[a]?) : SV Z U H1 := fun i hi => ⟨(h i hi).1, (h i hi).2.kept hq⟩
theorem SV.by {Z : SZ} {s : State} {H : Heap} {locs : List Loc} {w : va_W} (h : SV Z s s.heap) (hA : va_D (fun q => Z.1 ≤ q) w) (hS : va_S (Ad w) s.heap H locs) : SV Z s H := h.kept (fun a h1 h2 => hS.2.1 a h1 (fun q => by
  obtain ⟨j, x, hj⟩ := q
  exact h2 (hA.2 j _ hj)))
/-- a method of the class that uses strings: reads -/
def MWX (Z : SZ) (l : Launch) (y : MethodName) (cc : ByteArray) (nL : Nat) (rt : Option FieldType) (fr lo : Nat) (D : va_G) (k : Nat → ClassId) (As : List Value) (w w' : va_W) (ov : Option Value) : Prop :=
  Met l y (.code y cc nL rt :: TB) (rM fr lo) (va_Pc As (fun U => va_P D vwCl w U.heap ∧ EV D k U ∧ va_D (fun q => Z.1 ≤ q) w ∧ SVu Z U)) (qW D w w' ov) 0 0 (Ad w)
theorem MWX.mk {Z : SZ} {l : Launch} {y : MethodName} {cc : ByteArray} {nL : Nat} {rt : Option FieldType} {fr lo : Nat} {D : va_G} {k : Nat → ClassId} {As : List Value} {w w' : va_W} {ov : Option Value} (own : String) (ho : y.cls = own) (hy : plainName own = true) (hn : (lg_sl As).length ≤ nL)
    (body : ∀ (p : Program) (e : Env) (s : State) (m : MethodId) (below : List Frame) (meth : Method) (c : Code) (ls : Array Slot), Cx p s m As.toArray meth c cc nL own rt D k → va_D (fun q => Z.1 ≤ q) w → SV Z s s.heap → va_P D vwCl w s.heap → va_D (Ad w) w → va_S (Ad w) s.heap s.heap [] → lv_has ls nL (lv_args 0 As) → W p l e (rM fr lo) s m As.toArray below meth c s.heap [] 0 0 (MQ below (qW D w w' ov) As.toArray s 0 0 (Ad w)) (F0 m 0 ls [])) : MWX Z l y cc nL rt fr lo D k As w w' ov := by
  subst ho
  refine Met.ofW (cc := cc) (maxL := nL) (ret := rt) hy rfl ?_
  intro p e s m args below meth c s₁ B hml hv
  obtain ⟨rfl, hP, hE, hD, hZ⟩ := hv
  have hts := atoms_spec (ws := Cond.code y cc nL rt :: TB) B.pre
  have hl := lv_entry As hn
  rw [lg_entry_eq]
  exact body p e s m below meth c _ ⟨⟨B.exec, B.bytes, hml, findClass_of_methodNamed B.named, fun w h => hts w (List.mem_cons_of_mem _ h)⟩, hE, B.returns, B.notSynchronized⟩ hD hZ hP ⟨hD.1, fun i q hq => ⟨i, q.2, hq⟩⟩ va_S.rf hl
section XW
variable {p : Program} {l : Launch} {e : Env} {R : Room} {s : State} {m : MethodId} {args : Array Value} {below : List Frame} {meth : Method} {c : Code} {H : Heap} {locs : List Loc} {cells slots : Nat} {Q : State → Prop}
variable {cc : ByteArray} {nL : Nat} {own : String} {rt : Option FieldType} {D : va_G} {k : Nat → ClassId} {pc : Nat} {ls : Array Slot} {rest : List Value} {w w' : va_W} {Z : SZ} {A : Nat → Prop} {H0 : Heap}
variable {y : MethodName} {cb : ByteArray} {nM : Nat} {rc : Option FieldType} {fr lo i n : Nat} {As : List Value} {ov : Option Value} {b ci N : Nat} {Cn : String} {T : u_T} {fs : List Value}
theorem pre_WX {As' : List Value} (hE : EV D k s) (hPc : va_P D vwCl w H) (hDc : va_D (fun q => Z.1 ≤ q) w) (hX : SV Z s H) : PreS s H (va_Pc As' (fun U => va_P D vwCl w U.heap ∧ EV D k U ∧ va_D (fun q => Z.1 ≤ q) w ∧ SVu Z U)) As' :=
  ⟨fun a U g mk q => ⟨q.1, q.2.1, EV.call q.2.2.1, q.2.2.2.1, SV_st Z U g mk _ q.2.2.2.2⟩, fun U hU hW => ⟨rfl, by rw [hU]; exact hPc, hE.warm hW, hDc, SV_wm hX U hU hW⟩⟩
/-- a call on a part of the world, with strings -/
theorem r_cVWX {W0 : va_W} (C : Cx p s m args meth c cc nL own rt D k) (hq : CV own i Cn y cb nM rc n) (hM : MWX Z l y cb nM rc fr lo D k (.ref b :: As) w w' ov) (hX : SV Z s H) (hZD : va_D (fun q => Z.1 ≤ q) w) (hn : As.length = n) (hP : va_P D vwCl W0 H) (hD : va_D A W0) (hS : va_S A H0 H locs) (isC : List Nat) (W1 : va_W) (hC : isC.map (fun i => W0[i]?) = w.map some) (hlen : isC.length = w'.length) (hW : putW W0 isC w' = W1) (ha : W1.map (·.1) = W0.map (·.1)) (hc : vwCl[ci]? = some (Cn, T, N)) (he : w[0]? = some (b, .inr (ci, fs))) (hls : ls.size = nL) (hd : decode cc pc = .ok (.invokevirtual i, 3))
    (kk : ∀ (H1 : Heap) (locs1 : List Loc), va_P D vwCl W1 H1 → va_D A W1 → va_S A H0 H1 locs1 → W p l e R s m args below meth c H1 locs1 cells slots Q (F0 m (pc + 3) ls (ov.toList ++ rest))) (hR : fr + 1 ≤ R.frames ∧ 8 + (nM + 11) + lo ≤ R.locals := by exact ⟨Nat.le_of_ble_eq_true rfl, Nat.le_of_ble_eq_true rfl⟩) (hrm : (rest.map fun v => v.category).sum ≤ 8 := by exact Nat.le_of_ble_eq_true rfl) (hcs : cells ≤ R.cells ∧ slots ≤ R.slots := by exact ⟨Nat.zero_le _, Nat.zero_le _⟩) : W p l e R s m args below meth c H locs cells slots Q (F0 m pc ls (As.reverse ++ .ref b :: rest)) := by
  have hPc : va_P D vwCl w H := by
    intro j q hq
    have h1 : (isC.map (fun i => W0[i]?))[j]? = some (some q) := by rw [hC, List.getElem?_map, hq]; rfl
    rw [List.getElem?_map] at h1
    cases hi : isC[j]? with
    | none => rw [hi] at h1; cases h1
    | some i => rw [hi] at h1; exact hP i q (Option.some.inj h1)
  exact W.callQW (W.runV (As := As) (rest := rest) C.1 hM (c_cw C hq hR) ⟨(pre_WX (As' := .ref b :: As) C.2.1 hPc hZD hX).1, va_recv C.2.1.1 hPc hc he, (pre_WX (As' := .ref b :: As) C.2.1 hPc hZD hX).2⟩ rfl hn hls rfl (lv_room hrm) hd hcs) hP hD hS isC W1 hC hlen hW ha kk
/-- a call on the whole world, with strings -/
theorem r_cVWXA (C : Cx p s m args meth c cc nL own rt D k) (hq : CV own i Cn y cb nM rc n) (hM : MWX Z l y cb nM rc fr lo D k (.ref b :: As) w w' ov) (hX : SV Z s H) (hZD : va_D (fun q => Z.1 ≤ q) w) (hn : As.length = n) (hP : va_P D vwCl w H) (hD : va_D A w) (hS : va_S A H0 H locs) (ha : w'.map (·.1) = w.map (·.1)) (hc : vwCl[ci]? = some (Cn, T, N)) (he : w[0]? = some (b, .inr (ci, fs))) (hls : ls.size = nL) (hd : decode cc pc = .ok (.invokevirtual i, 3))
    (kk : ∀ (H1 : Heap) (locs1 : List Loc), va_P D vwCl w' H1 → va_D A w' → va_S A H0 H1 locs1 → W p l e R s m args below meth c H1 locs1 cells slots Q (F0 m (pc + 3) ls (ov.toList ++ rest))) (hR : fr + 1 ≤ R.frames ∧ 8 + (nM + 11) + lo ≤ R.locals := by exact ⟨Nat.le_of_ble_eq_true rfl, Nat.le_of_ble_eq_true rfl⟩) (hrm : (rest.map fun v => v.category).sum ≤ 8 := by exact Nat.le_of_ble_eq_true rfl) (hcs : cells ≤ R.cells ∧ slots ≤ R.slots := by exact ⟨Nat.zero_le _, Nat.zero_le _⟩) : W p l e R s m args below meth c H locs cells slots Q (F0 m pc ls (As.reverse ++ .ref b :: rest)) := 
  W.callQWA (W.runV (As := As) (rest := rest) C.1 hM (c_cw C hq hR) ⟨(pre_WX (As' := .ref b :: As) C.2.1 hP hZD hX).1, va_recv C.2.1.1 hP hc he, (pre_WX (As' := .ref b :: As) C.2.1 hP hZD hX).2⟩ rfl hn hls rfl (lv_room hrm) hd hcs) hD hS ha kk
theorem r_bretX (C : Cx p s m args meth c cc nL own (some .boolean) D k) {x : Int32} {P : Prop} [Decidable P] (h : x = iB P) (hd : decode cc pc = .ok (.ireturn, 1)) : W p l e R s m args below meth c s.heap [] 0 0 (MQ below (qO (some (.int (iB P)))) args s 0 0 (fun _ => False)) (F0 m pc ls [.int x]) := by
  subst h
  exact W.zret C.1.1 C.1.2.1 C.2.2.1 (nar_b P) (fun t ht _ => ⟨rfl, ht⟩) (fun _ h => absurd h List.not_mem_nil) hd C.2.2.2
theorem r_iretXe (C : Cx p s m args meth c cc nL own (some .int) D k) {x y : Int32} (h : x = y) (hd : decode cc pc = .ok (.ireturn, 1)) : W p l e R s m args below meth c s.heap [] 0 0 (MQ below (qO (some (.int y))) args s 0 0 (fun _ => False)) (F0 m pc ls [.int x]) := by
  subst h
  exact r_iretX C hd
theorem r_aretX (C : Cx p s m args meth c cc nL own (some (.object "java/lang/String")) D k) {q : Nat} (hd : decode cc pc = .ok (.areturn, 1)) : W p l e R s m args below meth c s.heap [] 0 0 (MQ below (qO (some (.ref q))) args s 0 0 (fun _ => False)) (F0 m pc ls [.ref q]) := W.aret C.1.1 C.1.2.1 C.2.2.1 (Or.inl ⟨_, rfl⟩) (Or.inr ⟨_, rfl⟩) (fun t ht _ => ⟨rfl, ht⟩) (fun _ h => absurd h List.not_mem_nil) hd C.2.2.2
theorem r_ldcS (C : Cx p s m args meth c cc nL RX1 rt D k) {tx : String} {j q : Nat} (hZ : vk_R RX1 j tx q s) (hd : decode cc pc = .ok (.ldc j, 2)) (kk : W p l e R s m args below meth c H locs cells slots Q (F0 m (pc + 2) ls (.ref q :: rest))) : W p l e R s m args below meth c H locs cells slots Q (F0 m pc ls rest) := va_ldcS C.1.1 C.1.2.1 C.1.2.2.2.1 hZ hd kk
end XW
section NAMES
variable {l : Launch} {D : va_G} {k : Nat → ClassId} {Z : SZ}
theorem cP_nameOfKind {n : Nat} (hn : n < 6) : MRX (SVu Z) l yX1_nameOfKind cX1_nameOfKind 1 (some (.object "java/lang/String")) 0 0 D k [.int (iI (n : Int))] [] (some (.ref (Z.2.1 (0 + n)))) := by
  refine MRX.mk RX1 rfl (by decide +kernel) (Nat.le_of_ble_eq_true rfl) (fun p e U m0 below meth cd ls C hP hE hl => ?_)
  have hl : lv_has ls 1 [(0, .int (iI (n : Int)))] := hl
  refine r_iload_n C dX1_nameOfKind_0 rfl (lv_at hl 0 rfl) ?_
  have h6 : n = 0 ∨ n = 1 ∨ n = 2 ∨ n = 3 ∨ n = 4 ∨ n = 5 := by omega
  rcases h6 with rfl | rfl | rfl | rfl | rfl | rfl
  · refine r_tableIn C (0) rfl dX1_nameOfKind_1 (by decide) (by decide) rfl (tgt := 36) (by decide) ?_
    refine r_ldcS C (hE 0 (by decide)).1 dX1_nameOfKind_36 ?_
    exact r_aretX C dX1_nameOfKind_38
  · refine r_tableIn C (1) rfl dX1_nameOfKind_1 (by decide) (by decide) rfl (tgt := 39) (by decide) ?_
    refine r_ldcS C (hE 1 (by decide)).1 dX1_nameOfKind_39 ?_
    exact r_aretX C dX1_nameOfKind_41
  · refine r_tableIn C (2) rfl dX1_nameOfKind_1 (by decide) (by decide) rfl (tgt := 42) (by decide) ?_
    refine r_ldcS C (hE 2 (by decide)).1 dX1_nameOfKind_42 ?_
    exact r_aretX C dX1_nameOfKind_44
  · refine r_tableIn C (3) rfl dX1_nameOfKind_1 (by decide) (by decide) rfl (tgt := 45) (by decide) ?_
    refine r_ldcS C (hE 3 (by decide)).1 dX1_nameOfKind_45 ?_
    exact r_aretX C dX1_nameOfKind_47
  · refine r_tableIn C (4) rfl dX1_nameOfKind_1 (by decide) (by decide) rfl (tgt := 48) (by decide) ?_
    refine r_ldcS C (hE 4 (by decide)).1 dX1_nameOfKind_48 ?_
    exact r_aretX C dX1_nameOfKind_50
  · refine r_tableOut C dX1_nameOfKind_1 ⟨by decide, by decide⟩ (by decide) (tgt := 51) (by decide) ?_
    refine r_ldcS C (hE 5 (by decide)).1 dX1_nameOfKind_51 ?_
    exact r_aretX C dX1_nameOfKind_53
theorem cP_nameOfSort {n : Nat} (hn : n < 6) : MRX (SVu Z) l yX1_nameOfSort cX1_nameOfSort 1 (some (.object "java/lang/String")) 0 0 D k [.int (iI (n : Int))] [] (some (.ref (Z.2.1 (6 + n)))) := by
  refine MRX.mk RX1 rfl (by decide +kernel) (Nat.le_of_ble_eq_true rfl) (fun p e U m0 below meth cd ls C hP hE hl => ?_)
  have hl : lv_has ls 1 [(0, .int (iI (n : Int)))] := hl
  refine r_iload_n C dX1_nameOfSort_0 rfl (lv_at hl 0 rfl) ?_
  have h6 : n = 0 ∨ n = 1 ∨ n = 2 ∨ n = 3 ∨ n = 4 ∨ n = 5 := by omega
  rcases h6 with rfl | rfl | rfl | rfl | rfl | rfl
  · refine r_tableIn C (0) rfl dX1_nameOfSort_1 (by decide) (by decide) rfl (tgt := 36) (by decide) ?_
    refine r_ldcS C (hE 6 (by decide)).1 dX1_nameOfSort_36 ?_
    exact r_aretX C dX1_nameOfSort_38
  · refine r_tableIn C (1) rfl dX1_nameOfSort_1 (by decide) (by decide) rfl (tgt := 39) (by decide) ?_
    refine r_ldcS C (hE 7 (by decide)).1 dX1_nameOfSort_39 ?_
    exact r_aretX C dX1_nameOfSort_41
  · refine r_tableIn C (2) rfl dX1_nameOfSort_1 (by decide) (by decide) rfl (tgt := 42) (by decide) ?_
    refine r_ldcS C (hE 8 (by decide)).1 dX1_nameOfSort_42 ?_
    exact r_aretX C dX1_nameOfSort_44
  · refine r_tableIn C (3) rfl dX1_nameOfSort_1 (by decide) (by decide) rfl (tgt := 45) (by decide) ?_
    refine r_ldcS C (hE 9 (by decide)).1 dX1_nameOfSort_45 ?_
    exact r_aretX C dX1_nameOfSort_47
  · refine r_tableIn C (4) rfl dX1_nameOfSort_1 (by decide) (by decide) rfl (tgt := 48) (by decide) ?_
    refine r_ldcS C (hE 10 (by decide)).1 dX1_nameOfSort_48 ?_
    exact r_aretX C dX1_nameOfSort_50
  · refine r_tableOut C dX1_nameOfSort_1 ⟨by decide, by decide⟩ (by decide) (tgt := 51) (by decide) ?_
    refine r_ldcS C (hE 11 (by decide)).1 dX1_nameOfSort_51 ?_
    exact r_aretX C dX1_nameOfSort_53
end NAMES
