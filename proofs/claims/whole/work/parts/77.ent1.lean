/-! what holds at the law's entry -/
theorem law_EV {s : State} {args : Array Value} (hts : ∀ w ∈ lw_tbl, w.before args s = true) : ∃ (D : va_G) (k : Nat → ClassId), EV D k s ∧ ex_S s := by
  have htb : ∀ w ∈ TB, w.before args s = true := fun w h => hts w (tb_in h)
  have htt : ∀ (i : Nat) (w : Cond), tables_1[i]? = some w → w.before args s = true := fun i w h => hts w (List.mem_append_right _ (List.mem_of_getElem? h))
  obtain ⟨c0, i0, h0⟩ := u_known (C := RX0) (T := TX0) (N := 3) (n := 3) htb inTX0 (htt 100 _ (by decide +kernel))
  obtain ⟨c1, i1, h1⟩ := u_known (C := RX1) (T := TX1) (N := 6) (n := 6) htb inTX1 (htt 72 _ (by decide +kernel))
  obtain ⟨c2, i2, h2⟩ := u_known (C := RX2) (T := TX2) (N := 10) (n := 10) htb inTX2 (htt 22 _ (by decide +kernel))
  obtain ⟨c3, i3, h3⟩ := u_known (C := RX3) (T := TX3) (N := 7) (n := 7) htb inTX3 (htt 14 _ (by decide +kernel))
  obtain ⟨c4, i4, h4⟩ := u_known (C := RX4) (T := TX4) (N := 19) (n := 19) htb inTX4 (htt 622 _ (by decide +kernel))
  obtain ⟨cI, kI, mI, eI, fI, gI⟩ := Cond.arrayClass_spec (htb _ ac_I)
  obtain ⟨cJ, kJ, mJ, eJ, fJ, gJ⟩ := Cond.arrayClass_spec (htb _ ac_J)
  have hao : (Cond.arrayOver (.object RX0)).before args s = true := htt 99 _ (by decide +kernel)
  obtain ⟨comp, cQ, kQ, q1, -, q3, q4, q5⟩ := Cond.arrayOver_spec hao
  refine ⟨(fun i => match i with | 0 => c0 | 1 => c1 | 2 => c2 | 3 => c3 | _ => c4, fun i => match i with | 0 => i0 | 1 => i1 | 2 => i2 | 3 => i3 | _ => i4), fun i => match i with | 0 => cI | 1 => cJ | _ => cQ, ⟨⟨fun c q hq => ?_, fun c q hq => ?_⟩, ?_⟩, ?_, va_AO.of hao⟩
  · match c, hq with
    | 0, hq => cases hq; exact h0
    | 1, hq => cases hq; exact h1
    | 2, hq => cases hq; exact h2
    | 3, hq => cases hq; exact h3
    | 4, hq => cases hq; exact h4
    | c + 5, hq => exact absurd (show c + 5 < 5 from (List.getElem?_eq_some_iff.mp hq).1) (by omega)
  · match c, hq with
    | 0, hq => cases hq; exact ⟨fun N z => ⟨fun k h => (by cases h), kI, fI, mI, gI⟩, eI⟩
    | 1, hq => cases hq; exact ⟨fun N z => ⟨fun k h => (by cases h), kJ, fJ, mJ, gJ⟩, eJ⟩
    | 2, hq => cases hq; exact ⟨fun N z => ⟨fun k h => (by cases h), kQ, q3, comp, q4⟩, kQ, comp, q3, q4, q1, q5⟩
    | c + 3, hq => exact absurd (show c + 3 < 3 from (List.getElem?_eq_some_iff.mp hq).1) (by omega)
  · exact List.forall_mem_cons.mpr ⟨va_Nw.of rfl (htt 169 _ (by decide +kernel)), List.forall_mem_cons.mpr ⟨va_Nw.of rfl (htt 228 _ (by decide +kernel)), List.forall_mem_cons.mpr ⟨va_Nw.of rfl (htt 229 _ (by decide +kernel)), fun _ q => absurd q List.not_mem_nil⟩⟩⟩
  · exact List.forall_mem_cons.mpr ⟨va_Nw.of rfl (htt 23 _ (by decide +kernel)), List.forall_mem_cons.mpr ⟨va_Nw.of rfl (htt 73 _ (by decide +kernel)), List.forall_mem_cons.mpr ⟨va_Nw.of rfl (htt 101 _ (by decide +kernel)), fun _ q => absurd q List.not_mem_nil⟩⟩⟩
/-- what the Statement gives of a string constant -/
def strC (kx : Nat) (l : List Int) : List Cond := [.exactly (.string RX1 kx) "java/lang/String", .eq (.field (.string RX1 kx) "java/lang/String" "coder" "B") (.int 0), .arrayOf (.field (.string RX1 kx) "java/lang/String" "value" "[B") .byte, .eq (.length (.field (.string RX1 kx) "java/lang/String" "value" "[B")) (.int (Int32.ofNat l.length))] ++ (List.range l.length).map (fun j => .eq (.elem (.field (.string RX1 kx) "java/lang/String" "value" "[B") (.int (Int32.ofNat j))) (.int (iI (l.getD j 0))))
theorem law_str {s : State} {args : Array Value} {kx : Nat} {tx : String} {l : List Int} {A : Nat → Prop} (hN : l.length < 2 ^ 31) (h1 : (Cond.stringRef RX1 kx tx).before args s = true) (hs : ∀ c ∈ strC kx l, c.before args s = true) (hZ : va_Z "java/lang/String" "COMPACT_STRINGS" "Z" (.int 1) A s s.heap) (hQ : va_Zq "jdk/internal/util/Preconditions" "SIOOBE_FORMATTER" "Ljava/util/function/BiFunction;" A s s.heap) (hA : ∀ a : Nat, a < s.heap.size → ¬ A a) : ∃ q : Nat × Nat, vk_R RX1 kx tx q.1 s ∧ SE A q.1 q.2 l s s.heap := by
  have g0 : (Cond.exactly (.string RX1 kx) "java/lang/String").before args s = true := hs _ (List.mem_of_getElem? (i := 0) rfl)
  have g1 : (Cond.eq (.field (.string RX1 kx) "java/lang/String" "coder" "B") (.int 0)).before args s = true := hs _ (List.mem_of_getElem? (i := 1) rfl)
  have g2 : (Cond.arrayOf (.field (.string RX1 kx) "java/lang/String" "value" "[B") .byte).before args s = true := hs _ (List.mem_of_getElem? (i := 2) rfl)
  have g3 : (Cond.eq (.length (.field (.string RX1 kx) "java/lang/String" "value" "[B")) (.int (Int32.ofNat l.length))).before args s = true := hs _ (List.mem_of_getElem? (i := 3) rfl)
  have g4 : ∀ j : Nat, j < l.length → (Cond.eq (.elem (.field (.string RX1 kx) "java/lang/String" "value" "[B") (.int (Int32.ofNat j))) (.int (iI (l.getD j 0)))).before args s = true := fun j hj => hs _ (List.mem_append_right _ (List.mem_map.mpr ⟨j, List.mem_range.mpr hj, rfl⟩))
  obtain ⟨a, c, cA, kA, q1, q2, q3, q4, q5, q6, -⟩ := Cond.exactly_spec (args := args) (first := s) (o := none) (s := s) (idx := []) g0
  obtain ⟨t, ht, hT⟩ := va_Tof (f := fun j => .int (iI (l.getD j 0))) (A := A) hN g2 (va_eqt g3) (fun j hj => va_eqt (g4 j hj)) hA
  exact ⟨(a, t), vk_R.of h1 q1, va_Oof g0 q1 hA, vk_OFof q1 (va_eqt g1) hA, vk_OFof q1 ht hA, hT, hZ, hQ⟩
theorem str_tb : ∀ i, i < 18 → Cond.stringRef RX1 (sIx i) (sTx i) ∈ tables_1 := by decide +kernel
theorem str_ln : ∀ i, i < 18 → (sLs i).length < 2 ^ 31 := by decide +kernel
theorem str_in : ∀ i, i < 18 → ∀ c ∈ strC (sIx i) (sLs i), c ∈ flatC (Jvm.Cond.and given_1 narrow_1) := by decide +kernel
theorem law_SV {s : State} {args : Array Value} (hts : ∀ w ∈ lw_tbl, w.before args s = true) (hgv : (Jvm.Cond.and given_1 narrow_1).before args s = true) : ∃ Z : SZ, Z.1 = s.heap.size ∧ SV Z s s.heap := by
  have htt : ∀ (i : Nat) (w : Cond), tables_1[i]? = some w → w.before args s = true := fun i w h => hts w (List.mem_append_right _ (List.mem_of_getElem? h))
  have hs := flat_of_before _ hgv
  have hA : ∀ a : Nat, a < s.heap.size → ¬ (fun q : Nat => s.heap.size ≤ q) a := fun a h => Nat.not_le.mpr h
  have hZ : va_Z "java/lang/String" "COMPACT_STRINGS" "Z" (.int 1) (fun q : Nat => s.heap.size ≤ q) s s.heap := va_Zof (htt 466 _ (by decide +kernel)) (htt 9 _ (by decide +kernel)) (va_eqi (hs _ (by decide +kernel))) hA
  have hQ : va_Zq "jdk/internal/util/Preconditions" "SIOOBE_FORMATTER" "Ljava/util/function/BiFunction;" (fun q : Nat => s.heap.size ≤ q) s s.heap := va_Zqof (htt 482 _ (by decide +kernel)) (htt 11 _ (by decide +kernel)) (hs _ (by decide +kernel)) hA
  have key : ∀ i : Nat, ∃ q : Nat × Nat, i < 18 → vk_R RX1 (sIx i) (sTx i) q.1 s ∧ SE (fun q : Nat => s.heap.size ≤ q) q.1 q.2 (sLs i) s s.heap := by
    intro i
    by_cases hi : i < 18
    · obtain ⟨q, h⟩ := law_str (str_ln i hi) (hts _ (List.mem_append_right _ (str_tb i hi))) (fun c hc => hs c (str_in i hi c hc)) hZ hQ hA
      exact ⟨q, fun _ => h⟩
    · exact ⟨(0, 0), fun h => absurd h hi⟩
  refine ⟨(s.heap.size, fun i => (Classical.choose (key i)).1, fun i => (Classical.choose (key i)).2), rfl, fun i hi => ?_⟩
  exact Classical.choose_spec (key i) hi
