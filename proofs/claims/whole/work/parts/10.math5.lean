/-! a public method's end: the scratch cells are some -/
abbrev Sc : Type := (Int → Int) × (Int → Int) × (Int → Int) × (Int → Int64) × Int × Int × Int × Int × Int
def qE {X : Type} (D : va_G) (w : va_W) (w' : X → va_W) (ov : Option Value) : Array Value → State → Outcome → State → Prop := fun _ st oc t => oc = .returned ov ∧ (∃ x : X, va_P D vwCl (w' x) t.heap) ∧ va_F (Ad w) st t
def ME {X : Type} (l : Launch) (y : MethodName) (cc : ByteArray) (nL : Nat) (rt : Option FieldType) (fr lo : Nat) (D : va_G) (k : Nat → ClassId) (As : List Value) (w : va_W) (w' : X → va_W) (ov : Option Value) : Prop :=
  Met l y (.code y cc nL rt :: TB) (rM fr lo) (va_Pc As (fun U => va_P D vwCl w U.heap ∧ EV D k U ∧ va_D (fun _ => True) w)) (qE D w w' ov) 0 0 (Ad w)
theorem ME.mk {X : Type} {l : Launch} {y : MethodName} {cc : ByteArray} {nL : Nat} {rt : Option FieldType} {fr lo : Nat} {D : va_G} {k : Nat → ClassId} {As : List Value} {w : va_W} {w' : X → va_W} {ov : Option Value} (own : String) (ho : y.cls = own) (hy : plainName own = true) (hn : (lg_sl As).length ≤ nL)
    (body : ∀ (p : Program) (e : Env) (s : State) (m : MethodId) (below : List Frame) (meth : Method) (c : Code) (ls : Array Slot), Cx p s m As.toArray meth c cc nL own rt D k → va_P D vwCl w s.heap → va_D (Ad w) w → va_S (Ad w) s.heap s.heap [] → lv_has ls nL (lv_args 0 As) → W p l e (rM fr lo) s m As.toArray below meth c s.heap [] 0 0 (MQ below (qE D w w' ov) As.toArray s 0 0 (Ad w)) (F0 m 0 ls [])) : ME l y cc nL rt fr lo D k As w w' ov := by
  subst ho
  refine Met.ofW (cc := cc) (maxL := nL) (ret := rt) hy rfl ?_
  intro p e s m args below meth c s₁ B hml hv
  obtain ⟨rfl, hP, hE, hD⟩ := hv
  have hts := atoms_spec (ws := Cond.code y cc nL rt :: TB) B.pre
  have hl := lv_entry As hn
  rw [lg_entry_eq]
  exact body p e s m below meth c _ ⟨⟨B.exec, B.bytes, hml, findClass_of_methodNamed B.named, fun w h => hts w (List.mem_cons_of_mem _ h)⟩, hE, B.returns, B.notSynchronized⟩ hP ⟨hD.1, fun i q hq => ⟨i, q.2, hq⟩⟩ va_S.rf hl
section RE
variable {p : Program} {l : Launch} {e : Env} {R : Room} {s : State} {m : MethodId} {args : Array Value} {below : List Frame} {meth : Method} {c : Code} {H : Heap} {locs : List Loc} {X : Type}
variable {cc : ByteArray} {nL : Nat} {own : String} {rt : Option FieldType} {D : va_G} {k : Nat → ClassId} {pc : Nat} {ls : Array Slot} {w : va_W}
theorem r_iretE (C : Cx p s m args meth c cc nL own (some .int) D k) {w0 : va_W} {w' : X → va_W} {x y : Int32} (hP : va_P D vwCl w H) (hS : va_S (Ad w0) s.heap H locs) (z : X) (hw : w = w' z) (h : x = y) (hd : decode cc pc = .ok (.ireturn, 1)) : W p l e R s m args below meth c H locs 0 0 (MQ below (qE D w0 w' (some (.int y))) args s 0 0 (Ad w0)) (F0 m pc ls [.int x]) := by
  subst h; subst hw
  exact W.iret C.1.1 C.1.2.1 C.2.2.1 (fun t ht _ => ⟨rfl, ⟨z, by rw [ht]; exact hP⟩, hS.F ht⟩) hS.2.2 hd C.2.2.2
theorem r_lretE (C : Cx p s m args meth c cc nL own (some .long) D k) {w0 : va_W} {w' : X → va_W} {x y : Int64} (hP : va_P D vwCl w H) (hS : va_S (Ad w0) s.heap H locs) (z : X) (hw : w = w' z) (h : x = y) (hd : decode cc pc = .ok (.lreturn, 1)) : W p l e R s m args below meth c H locs 0 0 (MQ below (qE D w0 w' (some (.long y))) args s 0 0 (Ad w0)) (F0 m pc ls [.long x]) := by
  subst h; subst hw
  exact W.lret C.1.1 C.1.2.1 C.2.2.1 (fun t ht _ => ⟨rfl, ⟨z, by rw [ht]; exact hP⟩, hS.F ht⟩) hS.2.2 hd C.2.2.2
end RE
/-! what the public methods answer: (answer, the row s, the counts of findings) -/
abbrev Tr : Type := Int × (Int → Int) × (Int → Int)
def fnd (st : Int → Int) (f : Int) : Int → Int := up st (-1000000001 - f) (st (-1000000001 - f) + 1)
def fD (s st : Int → Int) (f : Int) : Tr := (f, s, fnd st f)
def fV (s st : Int → Int) (v : Int) : Tr := (v, s, st)
def fDraw (s st : Int → Int) (c w v : Int) : Tr := if 0 ≤ c ∧ c ≤ 47 then (if 0 ≤ w ∧ w ≤ 1 then (if 0 ≤ v ∧ v ≤ 5 then (s ((if w = 0 then 3 else 51) + c), up s ((if w = 0 then 3 else 51) + c) v, st) else fD s st (-1000000001)) else fD s st (-1000000001)) else fD s st (-1000000001)
def fCell (s st : Int → Int) (c w : Int) : Tr := if 0 ≤ c ∧ c ≤ 47 then (if 0 ≤ w ∧ w ≤ 4 then fV s st (if w = 0 then s (3 + c) else if w = 1 then s (51 + c) else if w = 2 then (if untrue s c then 1 else 0) else if w = 3 then wrongBeside s c else thA s c (s 0).toNat) else fD s st (-1000000001)) else fD s st (-1000000001)
def fIncome (s st : Int → Int) (v : Int) : Tr := if 0 ≤ v ∧ v ≤ 20 then (s 2, up s 2 v, st) else fD s st (-1000000001)
def fMender (s st : Int → Int) (kd c : Int) : Tr := if 0 ≤ kd ∧ kd ≤ 5 then (if 0 ≤ c ∧ c ≤ 47 then (if s 0 = 6 then fD s st (-1000000002) else (s 0, addS s kd c 50, st)) else fD s st (-1000000001)) else fD s st (-1000000001)
def fOf (s st : Int → Int) (m w : Int) : Tr := if 0 ≤ m ∧ m ≤ s 0 - 1 then (if 0 ≤ w ∧ w ≤ 5 then fV s st (if w < 4 then s (99 + 4 * m + w) else if w = 4 then goesFor s m else if goesFor s m < 0 then 0 else cost s m (goesFor s m)) else fD s st (-1000000001)) else fD s st (-1000000001)
def fSet (s st : Int → Int) (m w v : Int) : Tr :=
  if w = 1 then (if 0 ≤ m ∧ m ≤ s 0 - 1 then (if 0 ≤ v ∧ v ≤ 47 then (s (99 + 4 * m + w), up s (99 + 4 * m + w) v, st) else fD s st (-1000000001)) else fD s st (-1000000001))
  else if w = 2 then (if 0 ≤ m ∧ m ≤ s 0 - 1 then (if 0 ≤ v ∧ v ≤ 9999 then (s (99 + 4 * m + w), up s (99 + 4 * m + w) v, st) else fD s st (-1000000001)) else fD s st (-1000000001))
  else fD s st (-1000000001)
def fTurn (s st : Int → Int) (m kd : Int) : Tr := if 0 ≤ m ∧ m ≤ s 0 - 1 then (if 0 ≤ kd ∧ kd ≤ 5 then (s (99 + 4 * m + 0), up s (99 + 4 * m + 0) kd, st) else fD s st (-1000000001)) else fD s st (-1000000001)
def fAs (s st : Int → Int) (m kd : Int) : Tr := if 0 ≤ m ∧ m ≤ s 0 - 1 then (if 0 ≤ kd ∧ kd ≤ 5 then (if kd = 0 ∨ s (99 + 4 * m + 0) = kd ∨ (3 < s (99 + 4 * m + 0) ∧ s (99 + 4 * m + 0) - 3 = kd) then fV s st (s (99 + 4 * m + 2)) else fD s st (-1000000003)) else fD s st (-1000000001)) else fD s st (-1000000001)
def fCost (s st : Int → Int) (m c : Int) : Tr := if 0 ≤ m ∧ m ≤ s 0 - 1 then (if 0 ≤ c ∧ c ≤ 47 then (if untrue s c then fV s st (cost s m c) else fD s st (-1000000005)) else fD s st (-1000000001)) else fD s st (-1000000001)
def fMend (s st : Int → Int) (m c : Int) : Tr := if 0 ≤ m ∧ m ≤ s 0 - 1 then (if 0 ≤ c ∧ c ≤ 47 then (if untrue s c then (if cost s m c ≤ s (99 + 4 * m + 2) then (wrongMany (payS s m c), payS s m c, st) else fD s st (-1000000005)) else fD s st (-1000000005)) else fD s st (-1000000001)) else fD s st (-1000000001)
def fYears (s st : Int → Int) (n : Int) : Tr := if 1 ≤ n ∧ n ≤ 60 then (if s 1 + n ≤ 9999 then (wrongMany (ysN s (-1) n.toNat), ysN s (-1) n.toNat, st) else fD s st (-1000000005)) else fD s st (-1000000001)
def fNow (s st : Int → Int) (w : Int) : Tr := if w = 0 then fV s st (s 1) else if w = 1 then fV s st (wrongMany s) else if w = 2 then fV s st (tgt s 2 (s 0).toNat) else if w = 3 then fV s st (tgt s 3 (s 0).toNat) else if w = 4 then fV s st (s 2) else fD s st (-1000000001)
def fOn (s st : Int → Int) (m n w : Int) : Tr := if 0 ≤ m ∧ m ≤ s 0 - 1 then (if 0 ≤ n ∧ n ≤ 60 then (if 0 ≤ w ∧ w ≤ 2 then fV s st ((ysN s (-1) n.toNat) (99 + 4 * m + (1 + w))) else fD s st (-1000000001)) else fD s st (-1000000001)) else fD s st (-1000000001)
def fWrong (s st : Int → Int) (n : Int) : Tr := if 0 ≤ n ∧ n ≤ 60 then fV s st (wrongMany (ysN s (-1) n.toNat)) else fD s st (-1000000001)
/-- the first of 0 .. n-1 with p, else n -/
def fst0 (p : Nat → Prop) [DecidablePred p] : Nat → Nat
  | 0 => 0
  | n + 1 => if fst0 p n < n then fst0 p n else if p n then n else n + 1
theorem fst0_no {p : Nat → Prop} [DecidablePred p] : ∀ {n : Nat}, (∀ j, j < n → ¬ p j) → fst0 p n = n
  | 0, _ => rfl
  | n + 1, h => by rw [fst0, fst0_no (fun j hj => h j (by omega)), if_neg (by omega), if_neg (h n (by omega))]
theorem fst0_yes {p : Nat → Prop} [DecidablePred p] {i : Nat} (hp : p i) (h : ∀ j, j < i → ¬ p j) : ∀ {n : Nat}, i < n → fst0 p n = i
  | 0, q => absurd q (Nat.not_lt_zero i)
  | n + 1, q => by
    rcases Nat.lt_or_ge i n with r | r
    · rw [fst0, fst0_yes hp h r, if_pos r]
    · have e : n = i := by omega
      subst e
      rw [fst0, fst0_no h, if_neg (by omega), if_pos hp]
theorem fst0_le (p : Nat → Prop) [DecidablePred p] : ∀ n : Nat, fst0 p n ≤ n
  | 0 => Nat.le_refl 0
  | n + 1 => by
    have := fst0_le p n
    rw [fst0]
    split
    · omega
    · split <;> omega
def fDone (s st : Int → Int) : Tr := if fst0 (fun n => wrongMany (ysN s (-1) n) ≤ 0) 61 ≤ 60 then fV s st (fst0 (fun n => wrongMany (ysN s (-1) n) ≤ 0) 61) else fD s st (-1000000004)
def fWhen (s st : Int → Int) (c : Int) : Tr := if 0 ≤ c ∧ c ≤ 47 then (if fst0 (fun n => ¬ untrue (ysN s (-1) n) c) 61 ≤ 60 then fV s st (fst0 (fun n => ¬ untrue (ysN s (-1) n) c) 61) else fD s st (-1000000004)) else fD s st (-1000000001)
def chN (s : Int → Int) (m : Int) : Nat → Int
  | 0 => -1
  | n + 1 => if untrue s n then (if chN s m n < 0 then n else if cost s m n < cost s m (chN s m n) then n else chN s m n) else chN s m n
theorem chN_rg (s : Int → Int) (m : Int) : ∀ n : Nat, -1 ≤ chN s m n ∧ chN s m n < n ∨ n = 0 ∧ chN s m n = -1
  | 0 => Or.inr ⟨rfl, rfl⟩
  | n + 1 => by
    have ih := chN_rg s m n
    refine Or.inl ?_
    rw [chN]
    repeat' split
    all_goals omega
def fCheap (s st : Int → Int) (m : Int) : Tr := if 0 ≤ m ∧ m ≤ s 0 - 1 then (if chN s m 48 < 0 then fD s st (-1000000004) else fV s st (chN s m 48)) else fD s st (-1000000001)
def bsN (s : Int → Int) (m : Int) : Nat → Int × Int
  | 0 => (-1, 48)
  | n + 1 => if untrue s n then (if wrongMany (mends s m n) < (bsN s m n).2 then ((n : Int), wrongMany (mends s m n)) else bsN s m n) else bsN s m n
theorem bsN_rg (s : Int → Int) (m : Int) : ∀ n : Nat, n ≤ 48 → (-1 ≤ (bsN s m n).1 ∧ (bsN s m n).1 < 48) ∧ 0 ≤ (bsN s m n).2 ∧ (bsN s m n).2 ≤ 48
  | 0, _ => by rw [bsN]; exact ⟨⟨by decide, by decide⟩, by decide, by decide⟩
  | n + 1, h => by
    have ih := bsN_rg s m n (by omega)
    have h1 := wrongMany_rg (mends s m n)
    rw [bsN]
    split
    · split
      · exact ⟨⟨by dsimp only; omega, by dsimp only; omega⟩, h1⟩
      · exact ih
    · exact ih
def fBest (s st : Int → Int) (m : Int) : Tr := if 0 ≤ m ∧ m ≤ s 0 - 1 then (if (bsN s m 48).1 < 0 then fD s st (-1000000004) else fV s st (bsN s m 48).1) else fD s st (-1000000001)
