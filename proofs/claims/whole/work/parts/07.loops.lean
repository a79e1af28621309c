/-! loops, joins -/
theorem lv_eq {ls : Array Slot} {nL : Nat} {a b : List (Nat × Value)} (h : lv_has ls nL a) (e : a = b) : lv_has ls nL b := e ▸ h
theorem va_eq {D : va_G} {cl : List vw_C} {a b : va_W} {H : Heap} (h : va_P D cl a H) (e : a = b) : va_P D cl b H := e ▸ h
theorem va_eqD {A : Nat → Prop} {a b : va_W} (h : va_D A a) (e : a = b) : va_D A b := e ▸ h
theorem iB1 {P : Prop} [Decidable P] (h : P) : iI 1 = iB P := by rw [iB, if_pos h]; rfl
theorem iB0 {P : Prop} [Decidable P] (h : ¬ P) : iI 0 = iB P := by rw [iB, if_neg h]; rfl
section LOOPS
variable {p : Program} {l : Launch} {e : Env} {R : Room} {s : State} {m : MethodId} {args : Array Value} {below : List Frame} {meth : Method} {c : Code} {H : Heap} {locs : List Loc} {cells slots : Nat} {Q : State → Prop}
variable {nL : Nat} {D : va_G} {pc : Nat} {ls : Array Slot} {A : Nat → Prop} {H0 : Heap}
theorem r_loopR (I : Nat → List (Nat × Value)) (N : Nat) (h0 : lv_has ls nL (I 0))
    (step : ∀ n : Nat, n < N → (∀ ls : Array Slot, lv_has ls nL (I (n + 1)) → W p l e R s m args below meth c H locs cells slots Q (F0 m pc ls [])) → ∀ ls : Array Slot, lv_has ls nL (I n) → W p l e R s m args below meth c H locs cells slots Q (F0 m pc ls []))
    (out : ∀ ls : Array Slot, lv_has ls nL (I N) → W p l e R s m args below meth c H locs cells slots Q (F0 m pc ls [])) : W p l e R s m args below meth c H locs cells slots Q (F0 m pc ls []) := by
  have key : ∀ j n : Nat, n + j = N → ∀ ls : Array Slot, lv_has ls nL (I n) → W p l e R s m args below meth c H locs cells slots Q (F0 m pc ls []) := by
    intro j
    induction j with
    | zero => intro n hn ls hl; rw [Nat.add_zero] at hn; subst hn; exact out ls hl
    | succ j ih => intro n hn ls hl; exact step n (by omega) (fun ls hl => ih (n + 1) (by omega) ls hl) ls hl
  exact key N 0 (Nat.zero_add N) ls h0
theorem r_loopW (I : Nat → List (Nat × Value)) (Wd : Nat → va_W) (N : Nat) (h0 : lv_has ls nL (I 0)) (hP : va_P D vwCl (Wd 0) H) (hD : va_D A (Wd 0)) (hS : va_S A H0 H locs)
    (step : ∀ n : Nat, n < N → (∀ (ls : Array Slot) (H : Heap) (locs : List Loc), lv_has ls nL (I (n + 1)) → va_P D vwCl (Wd (n + 1)) H → va_D A (Wd (n + 1)) → va_S A H0 H locs → W p l e R s m args below meth c H locs cells slots Q (F0 m pc ls [])) → ∀ (ls : Array Slot) (H : Heap) (locs : List Loc), lv_has ls nL (I n) → va_P D vwCl (Wd n) H → va_D A (Wd n) → va_S A H0 H locs → W p l e R s m args below meth c H locs cells slots Q (F0 m pc ls []))
    (out : ∀ (ls : Array Slot) (H : Heap) (locs : List Loc), lv_has ls nL (I N) → va_P D vwCl (Wd N) H → va_D A (Wd N) → va_S A H0 H locs → W p l e R s m args below meth c H locs cells slots Q (F0 m pc ls [])) : W p l e R s m args below meth c H locs cells slots Q (F0 m pc ls []) := by
  have key : ∀ j n : Nat, n + j = N → ∀ (ls : Array Slot) (H : Heap) (locs : List Loc), lv_has ls nL (I n) → va_P D vwCl (Wd n) H → va_D A (Wd n) → va_S A H0 H locs → W p l e R s m args below meth c H locs cells slots Q (F0 m pc ls []) := by
    intro j
    induction j with
    | zero => intro n hn ls H locs hl hP hD hS; rw [Nat.add_zero] at hn; subst hn; exact out ls H locs hl hP hD hS
    | succ j ih => intro n hn ls H locs hl hP hD hS; exact step n (by omega) (fun ls H locs hl hP hD hS => ih (n + 1) (by omega) ls H locs hl hP hD hS) ls H locs hl hP hD hS
  exact key N 0 (Nat.zero_add N) ls H locs h0 hP hD hS
theorem r_joinR (pcJ : Nat) {X : Type} (Px : X → Prop) (I : X → List (Nat × Value)) (St : X → List Value) {g : JFrame}
    (kJ : ∀ (x : X) (ls : Array Slot), Px x → lv_has ls nL (I x) → W p l e R s m args below meth c H locs cells slots Q (F0 m pcJ ls (St x)))
    (km : (∀ (x : X) (ls : Array Slot), Px x → lv_has ls nL (I x) → W p l e R s m args below meth c H locs cells slots Q (F0 m pcJ ls (St x))) → W p l e R s m args below meth c H locs cells slots Q g) : W p l e R s m args below meth c H locs cells slots Q g := km kJ
theorem r_joinW (pcJ : Nat) {X : Type} (Px : X → Prop) (I : X → List (Nat × Value)) (St : X → List Value) (Wd : X → va_W) {g : JFrame}
    (kJ : ∀ (x : X) (ls : Array Slot) (H : Heap) (locs : List Loc), Px x → lv_has ls nL (I x) → va_P D vwCl (Wd x) H → va_D A (Wd x) → va_S A H0 H locs → W p l e R s m args below meth c H locs cells slots Q (F0 m pcJ ls (St x)))
    (km : (∀ (x : X) (ls : Array Slot) (H : Heap) (locs : List Loc), Px x → lv_has ls nL (I x) → va_P D vwCl (Wd x) H → va_D A (Wd x) → va_S A H0 H locs → W p l e R s m args below meth c H locs cells slots Q (F0 m pcJ ls (St x))) → W p l e R s m args below meth c H locs cells slots Q g) : W p l e R s m args below meth c H locs cells slots Q g := km kJ
end LOOPS
/-! the reference's cells -/
def wM (a : Nat → Nat) (k : Nat → ClassId) (s kp ot sd st sp tp bi si : Int → Int) (nu mo : Int → Int64) (ik id tl ta fr to va iw : Int) : va_W :=
  [(a 0, .inr (4, [.ref (a 1), .ref (a 2), .ref (a 3), .ref (a 4), .ref (a 5), .int (iI ik), .int (iI id), .int (iI tl), .ref (a 6), .ref (a 7), .int (iI ta), .int (iI fr), .int (iI to), .int (iI va), .int (iI iw), .ref (a 8), .ref (a 9), .ref (a 10), .ref (a 11)])),
   (a 1, .inl (k 0, 123, .inl (arr s))), (a 2, .inl (k 0, 123, .inl (arr kp))), (a 3, .inl (k 0, 123, .inl (arr ot))), (a 4, .inl (k 0, 123, .inl (arr sd))), (a 5, .inl (k 0, 7, .inl (arr st))), (a 6, .inl (k 0, 48, .inl (arr sp))), (a 7, .inl (k 0, 120, .inl (arr tp))), (a 8, .inl (k 0, 4, .inl (arr bi))), (a 9, .inl (k 0, 4, .inl (arr si))),
   (a 10, .inl (k 1, 160, .inr (.inl (arL nu)))), (a 11, .inl (k 1, 40, .inr (.inl (arL mo))))]
