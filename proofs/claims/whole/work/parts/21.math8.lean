/-! ways -/
abbrev opn (s : Int → Int) (c w : Int) : Prop := (w = 0 ∧ ¬ s (3 + c) = 1) ∨ (¬ w = 0 ∧ (s (3 + c) = 5 ∨ s (3 + c) = 3))
def wyI (s : Int → Int) (b w : Int) (sp : Int → Int) : Nat → Int → Int
  | 0 => sp
  | n + 1 => up (wyI s b w sp n) n (if (n : Int) = b then (if opn s n w then 0 else 48) else 48)
def wyS (t : Int → Int) (c d : Int) : Int → Int := up t c (if besd c d < 0 then t c else if t (besd c d) + 1 < t c then t (besd c d) + 1 else t c)
def wyW (t : Int → Int) (c : Int) : Nat → Int → Int
  | 0 => t
  | n + 1 => wyS (wyW t c n) c n
def wyK (s : Int → Int) (w : Int) (t : Int → Int) : Nat → Int → Int
  | 0 => t
  | n + 1 => if opn s ((n : Int) % 48) w then wyW (wyK s w t n) ((n : Int) % 48) 4 else wyK s w t n
def Rs (t : Int → Int) : Prop := ∀ i, 0 ≤ i → i < 48 → 0 ≤ t i ∧ t i ≤ 48
theorem wyI_in (s : Int → Int) (b w : Int) (sp : Int → Int) {j : Nat} : ∀ {n : Nat}, j < n → wyI s b w sp n j = (if (j : Int) = b then (if opn s j w then 0 else 48) else 48)
  | 0, h => absurd h (Nat.not_lt_zero j)
  | n + 1, h => by
    rw [wyI]
    rcases Nat.lt_or_ge j n with q | q
    · rw [up_n (by omega), wyI_in s b w sp q]
    · have e : j = n := by omega
      subst e
      rw [up_s]
theorem rs_wyI (s : Int → Int) (b w : Int) (sp : Int → Int) : Rs (wyI s b w sp 48) := by
  intro i h0 h1
  obtain ⟨j, rfl⟩ := Int.eq_ofNat_of_zero_le h0
  rw [wyI_in s b w sp (show j < 48 by omega)]
  repeat' split
  all_goals omega
theorem rs_wyS {t : Int → Int} (h : Rs t) {c d : Int} (hc : 0 ≤ c) (hc1 : c < 48) : Rs (wyS t c d) := by
  intro i h0 h1
  have hb := besd_lt (w := d) hc hc1
  unfold wyS
  by_cases e : i = c
  · subst e
    rw [up_s]
    have h2 := h i h0 h1
    split
    · exact h2
    · have h3 := h (besd i d) (by omega) hb.2
      split <;> omega
  · rw [up_n e]; exact h i h0 h1
theorem rs_wyW {t : Int → Int} (h : Rs t) {c : Int} (hc : 0 ≤ c) (hc1 : c < 48) : ∀ n : Nat, Rs (wyW t c n)
  | 0 => h
  | n + 1 => rs_wyS (rs_wyW h hc hc1 n) hc hc1
theorem rs_wyK (s : Int → Int) (w : Int) {t : Int → Int} (h : Rs t) : ∀ n : Nat, Rs (wyK s w t n)
  | 0 => h
  | n + 1 => by
    rw [wyK]
    split
    · exact rs_wyW (rs_wyK s w h n) (by omega) (by omega) 4
    · exact rs_wyK s w h n
/-- alike on 0 .. 47 -/
def A48 (t u : Int → Int) : Prop := ∀ i, 0 ≤ i → i < 48 → t i = u i
theorem a48_wyI (s : Int → Int) (b w : Int) (sp sq : Int → Int) : A48 (wyI s b w sp 48) (wyI s b w sq 48) := by
  intro i h0 h1
  obtain ⟨j, rfl⟩ := Int.eq_ofNat_of_zero_le h0
  rw [wyI_in s b w sp (show j < 48 by omega), wyI_in s b w sq (show j < 48 by omega)]
theorem a48_wyS {t u : Int → Int} (h : A48 t u) {c d : Int} (hc : 0 ≤ c) (hc1 : c < 48) : A48 (wyS t c d) (wyS u c d) := by
  intro i h0 h1
  have hb := besd_lt (w := d) hc hc1
  unfold wyS
  by_cases e : i = c
  · subst e
    rw [up_s, up_s, h i h0 h1]
    by_cases q : besd i d < 0
    · rw [if_pos q, if_pos q]
    · rw [if_neg q, if_neg q, h (besd i d) (by omega) hb.2]
  · rw [up_n e, up_n e]; exact h i h0 h1
theorem a48_wyW {t u : Int → Int} (h : A48 t u) {c : Int} (hc : 0 ≤ c) (hc1 : c < 48) : ∀ n : Nat, A48 (wyW t c n) (wyW u c n)
  | 0 => h
  | n + 1 => a48_wyS (a48_wyW h hc hc1 n) hc hc1
theorem a48_wyK (s : Int → Int) (w : Int) {t u : Int → Int} (h : A48 t u) : ∀ n : Nat, A48 (wyK s w t n) (wyK s w u n)
  | 0 => h
  | n + 1 => by
    rw [wyK, wyK]
    split
    · exact a48_wyW (a48_wyK s w h n) (by omega) (by omega) 4
    · exact a48_wyK s w h n
abbrev wayV (s : Int → Int) (b e w : Int) : Int := wyK s w (wyI s b w (fun _ => 0) 48) 2304 e
theorem wayV_sp (s sp : Int → Int) (b w : Int) {e : Int} (h0 : 0 ≤ e) (h1 : e ≤ 47) : wyK s w (wyI s b w sp 48) 2304 e = wayV s b e w := a48_wyK s w (a48_wyI s b w sp _) 2304 e h0 (by omega)
def fWay (s st : Int → Int) (b e w : Int) : Tr := if 0 ≤ b ∧ b ≤ 47 then (if 0 ≤ e ∧ e ≤ 47 then (if 0 ≤ w ∧ w ≤ 1 then (if wayV s b e w < 48 then fV s st (wayV s b e w) else fD s st (-1000000004)) else fD s st (-1000000001)) else fD s st (-1000000001)) else fD s st (-1000000001)
/-! the text -/
def bAt (tp : Int → Int) (ta i : Int) : Int := if i < ta then tp i else -1
abbrev isL (b : Int) : Prop := 97 ≤ b ∧ b ≤ 122
abbrev isD (b : Int) : Prop := 48 ≤ b ∧ b ≤ 57
abbrev skP (tp : Int → Int) (ta p : Int) : Nat → Prop := fun j => ¬ bAt tp ta (p + j) = 32
def tkF (tp : Int → Int) (ta p : Int) : Int := p + (fst0 (skP tp ta p) 121 : Nat)
abbrev tk1 (ta f : Int) : Int := if f < ta then f + 1 else f
abbrev tkP (tp : Int → Int) (ta f : Int) : Nat → Prop := fun j => ¬ ((isL (bAt tp ta f) ∧ isL (bAt tp ta (tk1 ta f + j))) ∨ (isD (bAt tp ta f) ∧ isD (bAt tp ta (tk1 ta f + j))))
def tkT (tp : Int → Int) (ta f : Int) : Int := tk1 ta f + (fst0 (tkP tp ta f) 121 : Nat)
theorem fst0_at {p : Nat → Prop} [DecidablePred p] : ∀ {n : Nat}, fst0 p n < n → p (fst0 p n)
  | 0, h => absurd h (Nat.not_lt_zero _)
  | n + 1, h => by
    rw [fst0] at h ⊢
    split
    · next q => exact fst0_at q
    · split
      · next q1 q2 => exact q2
      · next q1 q2 => rw [if_neg q1, if_neg q2] at h; omega
theorem fst0_lt {p : Nat → Prop} [DecidablePred p] {n : Nat} : ∀ {j : Nat}, j < fst0 p n → ¬ p j := by
  intro j hj hp
  have hle := fst0_le p n
  induction n with
  | zero => rw [fst0] at hj; omega
  | succ n ih =>
    rw [fst0] at hj
    split at hj
    · exact ih hj (fst0_le p n)
    · split at hj
      · next q1 q2 => exact ih (by have := fst0_le p n; omega) (fst0_le p n)
      · next q1 q2 =>
        rcases Nat.lt_or_ge j n with r | r
        · exact ih (by have := fst0_le p n; omega) (fst0_le p n)
        · have e : j = n := by omega
          subst e
          exact q2 hp
theorem fst0_ub {p : Nat → Prop} [DecidablePred p] {n i : Nat} (hp : p i) : fst0 p n ≤ i := by
  rcases Nat.lt_or_ge i (fst0 p n) with h | h
  · exact absurd hp (fst0_lt h)
  · exact h
theorem bAt_hi {tp : Int → Int} {ta i : Int} (h : ta ≤ i) : bAt tp ta i = -1 := if_neg (by omega)
theorem tkF_rg {tp : Int → Int} {ta p : Int} (h0 : 0 ≤ p) (h1 : p ≤ ta) : p ≤ tkF tp ta p ∧ tkF tp ta p ≤ ta := by
  have h2 : fst0 (skP tp ta p) 121 ≤ (ta - p).toNat := fst0_ub (by
    show ¬ bAt tp ta (p + ((ta - p).toNat : Nat)) = 32
    rw [bAt_hi (by omega)]; decide)
  unfold tkF
  omega
theorem tkT_rg {tp : Int → Int} {ta f : Int} (h0 : 0 ≤ f) (h1 : f ≤ ta) : tk1 ta f ≤ tkT tp ta f ∧ tkT tp ta f ≤ ta := by
  have h3 : tk1 ta f ≤ ta := by unfold tk1; split <;> omega
  have h2 : fst0 (tkP tp ta f) 121 ≤ (ta - tk1 ta f).toNat := fst0_ub (by
    show ¬ ((isL (bAt tp ta f) ∧ isL (bAt tp ta (tk1 ta f + ((ta - tk1 ta f).toNat : Nat)))) ∨ (isD (bAt tp ta f) ∧ isD (bAt tp ta (tk1 ta f + ((ta - tk1 ta f).toNat : Nat)))))
    rw [bAt_hi (show ta ≤ tk1 ta f + ((ta - tk1 ta f).toNat : Nat) by omega)]
    unfold isL isD
    omega)
  unfold tkT
  omega
theorem i01 : (0 : Int) ≤ 0 ∧ (0 : Int) ≤ 1 := by decide
theorem i11 : (0 : Int) ≤ 1 ∧ (1 : Int) ≤ 1 := by decide
theorem i1n : ¬ (1 : Int) = 0 := by decide
/-- from, to, value, isWrong -/
abbrev PS : Type := Int × Int × Int × Int
def mstP (tp : Int → Int) (ta b : Int) (q : PS) : PS := if q.2.2.2 = 0 then (if b = 0 then (q.1, q.2.1, q.2.2.1, 1) else (tkF tp ta q.2.1, tkT tp ta (tkF tp ta q.2.1), q.2.2.1, 0)) else (q.1, q.2.1, q.2.2.1, 1)
def wdZ (tp : Int → Int) (f : Int) : Nat → Int
  | 0 => 0
  | n + 1 => if wdZ tp f n ≤ 36028797018963967 then (lI (32 * wdZ tp f n + (tp (f + n) - 96))).toInt else wdZ tp f n
theorem wdZ_rg (tp : Int → Int) (f : Int) : ∀ n : Nat, -9223372036854775808 ≤ wdZ tp f n ∧ wdZ tp f n < 9223372036854775808
  | 0 => by rw [wdZ]; decide
  | n + 1 => by
    have ih := wdZ_rg tp f n
    rw [wdZ]
    split
    · exact in64_rg _
    · exact ih
def wrd (tp : Int → Int) (ta : Int) (q : PS) : Int := if q.2.2.2 = 0 then (if isL (bAt tp ta q.1) then wdZ tp q.1 (q.2.1 - q.1).toNat else 0) else 0
theorem wrd_rg (tp : Int → Int) (ta : Int) (q : PS) : -9223372036854775808 ≤ wrd tp ta q ∧ wrd tp ta q < 9223372036854775808 := by
  unfold wrd
  split
  · split
    · exact wdZ_rg _ _ _
    · decide
  · decide
def nmN (tp : Int → Int) (f : Int) : Nat → Int
  | 0 => 0
  | n + 1 => if nmN tp f n ≤ 9999 then 10 * nmN tp f n + tp (f + n) - 48 else nmN tp f n
theorem nmN_rg {tp : Int → Int} {f : Int} {n : Nat} (h : ∀ i : Nat, i < n → isD (tp (f + i))) : ∀ j : Nat, j ≤ n → 0 ≤ nmN tp f j ∧ nmN tp f j ≤ 99999
  | 0, _ => by rw [nmN]; decide
  | j + 1, hj => by
    have ih := nmN_rg h j (by omega)
    have h1 := h j (by omega)
    unfold isD at h1
    rw [nmN]
    split <;> omega
abbrev nmV (tp : Int → Int) (ta : Int) (q : PS) : Int := if isD (bAt tp ta q.1) then nmN tp q.1 (q.2.1 - q.1).toNat else 0
def numP (tp : Int → Int) (ta lo hi : Int) (q : PS) : PS := if q.2.2.2 = 0 then mstP tp ta (if isD (bAt tp ta q.1) then (if lo ≤ nmV tp ta q ∧ nmV tp ta q ≤ hi then 1 else 0) else 0) (q.1, q.2.1, nmV tp ta q, q.2.2.2) else q
def PI (tp : Int → Int) (ta : Int) (q : PS) : Prop := (0 ≤ q.1 ∧ q.1 ≤ q.2.1 ∧ q.2.1 ≤ ta ∧ ta ≤ 120 ∧ (q.1 < ta → q.1 < q.2.1)) ∧ (isD (bAt tp ta q.1) → ∀ i, q.1 ≤ i → i < q.2.1 → isD (tp i)) ∧ (isL (bAt tp ta q.1) → ∀ i, q.1 ≤ i → i < q.2.1 → isL (tp i)) ∧ (0 ≤ q.2.2.2 ∧ q.2.2.2 ≤ 1) ∧ (-2147483648 ≤ q.2.2.1 ∧ q.2.2.1 < 2147483647)
theorem tk_same {tp : Int → Int} {ta f : Int} (h0 : 0 ≤ f) (h1 : f ≤ ta) {i : Int} (hi : f ≤ i) (hi2 : i < tkT tp ta f) : (isD (bAt tp ta f) → isD (tp i)) ∧ (isL (bAt tp ta f) → isL (tp i)) := by
  have hr := tkT_rg (tp := tp) h0 h1
  have hlt : i < ta := by omega
  by_cases e : i = f
  · subst e
    rw [show bAt tp ta i = tp i from if_pos hlt]
    exact ⟨fun h => h, fun h => h⟩
  · have e1 : tk1 ta f = f + 1 := if_pos (by omega)
    have hlt2 : (i - (f + 1)).toNat < fst0 (tkP tp ta f) 121 := by unfold tkT at hi2; omega
    have hn := fst0_lt hlt2
    have e2 : bAt tp ta (tk1 ta f + ((i - (f + 1)).toNat : Nat)) = tp i := by
      rw [e1, show f + 1 + (((i - (f + 1)).toNat : Nat) : Int) = i by omega]
      exact if_pos hlt
    have hc : (isL (bAt tp ta f) ∧ isL (bAt tp ta (tk1 ta f + ((i - (f + 1)).toNat : Nat)))) ∨ (isD (bAt tp ta f) ∧ isD (bAt tp ta (tk1 ta f + ((i - (f + 1)).toNat : Nat)))) := Classical.not_not.mp hn
    rw [e2] at hc
    unfold isL isD at *
    constructor
    · intro h; rcases hc with hc | hc <;> omega
    · intro h; rcases hc with hc | hc <;> omega
theorem pi_tok {tp : Int → Int} {ta p v : Int} (h0 : 0 ≤ p) (h1 : p ≤ ta) (h2 : ta ≤ 120) (hv : -2147483648 ≤ v ∧ v < 2147483647) : PI tp ta (tkF tp ta p, tkT tp ta (tkF tp ta p), v, 0) := by
  have a := tkF_rg (tp := tp) h0 h1
  have b := tkT_rg (tp := tp) (f := tkF tp ta p) (by omega) a.2
  have c : tkF tp ta p ≤ tk1 ta (tkF tp ta p) ∧ (tkF tp ta p < ta → tkF tp ta p < tk1 ta (tkF tp ta p)) := by
    unfold tk1
    split <;> omega
  refine ⟨⟨by dsimp only; omega, by dsimp only; omega, by dsimp only; omega, h2, by dsimp only; omega⟩, fun h i hi hi2 => (tk_same (by omega) a.2 hi hi2).1 h, fun h i hi hi2 => (tk_same (by omega) a.2 hi hi2).2 h, i01, hv⟩
theorem pi_mst {tp : Int → Int} {ta : Int} {q : PS} (h : PI tp ta q) (b : Int) : PI tp ta (mstP tp ta b q) := by
  unfold mstP
  split
  · split
    · exact ⟨h.1, h.2.1, h.2.2.1, i11, h.2.2.2.2⟩
    · exact pi_tok (by have := h.1; omega) h.1.2.2.1 h.1.2.2.2.1 h.2.2.2.2
  · exact ⟨h.1, h.2.1, h.2.2.1, i11, h.2.2.2.2⟩
theorem nmV_rg {tp : Int → Int} {ta : Int} {q : PS} (h : PI tp ta q) : 0 ≤ nmV tp ta q ∧ nmV tp ta q ≤ 99999 := by
  unfold nmV
  split
  · next hd => exact nmN_rg (n := (q.2.1 - q.1).toNat) (fun i hi => h.2.1 hd (q.1 + i) (by omega) (by omega)) _ (Nat.le_refl _)
  · decide
theorem pi_num {tp : Int → Int} {ta : Int} {q : PS} (h : PI tp ta q) (lo hi : Int) : PI tp ta (numP tp ta lo hi q) := by
  have hv := nmV_rg h
  unfold numP
  split
  · exact pi_mst (q := (q.1, q.2.1, nmV tp ta q, q.2.2.2)) ⟨h.1, h.2.1, h.2.2.1, h.2.2.2.1, ⟨by dsimp only; omega, by dsimp only; omega⟩⟩ _
  · exact h
theorem mst_iw {tp : Int → Int} {ta b : Int} {q : PS} (h1 : (mstP tp ta b q).2.2.2 = 0) : q.2.2.2 = 0 ∧ ¬ b = 0 := by
  unfold mstP at h1
  split at h1
  · next h0 =>
    split at h1
    · exact absurd h1 i1n
    · next hb => exact ⟨h0, hb⟩
  · exact absurd h1 i1n
theorem mst_va (tp : Int → Int) (ta b : Int) (q : PS) : (mstP tp ta b q).2.2.1 = q.2.2.1 := by
  unfold mstP
  split
  · split <;> rfl
  · rfl
/-- behind a number that was read -/
theorem num_va {tp : Int → Int} {ta : Int} {q : PS} (h : PI tp ta q) (lo hi : Int) (h0 : q.2.2.2 = 0) : 0 ≤ (numP tp ta lo hi q).2.2.1 ∧ (numP tp ta lo hi q).2.2.1 ≤ 99999 := by
  have hv := nmV_rg h
  rw [numP, if_pos h0, mst_va]
  exact hv
theorem num_ok {tp : Int → Int} {ta : Int} {q : PS} (lo hi : Int) (h1 : (numP tp ta lo hi q).2.2.2 = 0) : q.2.2.2 = 0 ∧ lo ≤ (numP tp ta lo hi q).2.2.1 ∧ (numP tp ta lo hi q).2.2.1 ≤ hi := by
  by_cases h0 : q.2.2.2 = 0
  · rw [numP, if_pos h0] at h1 ⊢
    rw [mst_va]
    have h2 := (mst_iw h1).2
    by_cases hd : isD (bAt tp ta q.1)
    · by_cases hr : lo ≤ nmV tp ta q ∧ nmV tp ta q ≤ hi
      · exact ⟨h0, hr⟩
      · rw [if_pos hd, if_neg hr] at h2; exact absurd rfl h2
    · rw [if_neg hd] at h2; exact absurd rfl h2
  · rw [numP, if_neg h0] at h1
    exact absurd h1 h0
theorem mst_1 {tp : Int → Int} {ta : Int} {q : PS} (h0 : q.2.2.2 = 0) : (mstP tp ta 1 q).2.2.2 = 0 := by
  unfold mstP
  rw [if_pos h0, if_neg (by decide)]
def kdH (w : Int) : Int := if w = 441913522 then 0 else if w = 143891634 then 1 else if w = 3544651 then 2 else if w = 86280370 then 3 else if w = 14145714 then 4 else if w = 10154068146 then 5 else -1
def srH (w : Int) : Int := if w = 17171758 then 0 else if w = 24170674 then 1 else if w = 769508 then 2 else if w = 23937287397 then 3 else if w = 271756 then 4 else if w = 605220 then 5 else -1
theorem kdH_rg (w : Int) : -1 ≤ kdH w ∧ kdH w ≤ 5 := by
  unfold kdH
  repeat' split
  all_goals omega
theorem srH_rg (w : Int) : -1 ≤ srH w ∧ srH w ≤ 5 := by
  unfold srH
  repeat' split
  all_goals omega
theorem wrd_iw {tp : Int → Int} {ta : Int} {q : PS} (h : ¬ wrd tp ta q = 0) : q.2.2.2 = 0 := by
  unfold wrd at h
  split at h
  · next h0 => exact h0
  · exact absurd rfl h
abbrev SQ : Type := (Int → Int) × PS
def mdT (tp : Int → Int) (ta kd : Int) (s : Int → Int) (q : PS) : SQ := if q.2.2.2 = 0 then (if wrd tp ta q = 17484389 then (up (addS s kd q.2.2.1 50) (99 + 4 * s 0 + 2) (numP tp ta 0 9999 (mstP tp ta 1 q)).2.2.1, numP tp ta 0 9999 (mstP tp ta 1 q)) else (addS s kd q.2.2.1 50, q)) else (s, q)
def mdI (tp : Int → Int) (ta kd : Int) (s : Int → Int) (q : PS) : SQ := mdT tp ta kd s (numP tp ta 0 47 (mstP tp ta (if wrd tp ta (mstP tp ta (if s 0 < 6 then 1 else 0) q) = 52 then 1 else 0) (mstP tp ta (if s 0 < 6 then 1 else 0) q)))
/-- cells first .. last of a row become a sort -/
def clN (s : Int → Int) (b f v : Int) : Nat → Int → Int
  | 0 => s
  | n + 1 => up (clN s b f v n) (b + (f + n)) v
def clE (tp : Int → Int) (ta b : Int) (s : Int → Int) (f v : Int) (q : PS) : SQ :=
  if wrd tp ta q = 655 then (if (numP tp ta f 47 (mstP tp ta 1 q)).2.2.2 = 0 then clN s b f v ((numP tp ta f 47 (mstP tp ta 1 q)).2.2.1 + 1 - f).toNat else s, numP tp ta f 47 (mstP tp ta 1 q))
  else (if q.2.2.2 = 0 then clN s b f v 1 else s, q)
def clI (tp : Int → Int) (ta b : Int) (s : Int → Int) (q : PS) : SQ :=
  clE tp ta b s (numP tp ta 0 47 (mstP tp ta 1 q)).2.2.1 (srH (wrd tp ta (numP tp ta 0 47 (mstP tp ta 1 q)))) (mstP tp ta (if srH (wrd tp ta (numP tp ta 0 47 (mstP tp ta 1 q))) < 0 then 0 else 1) (numP tp ta 0 47 (mstP tp ta 1 q)))
def inI (tp : Int → Int) (ta : Int) (s : Int → Int) (q : PS) : SQ := (up s 2 (if (numP tp ta 0 20 (mstP tp ta (if wrd tp ta q = 316784037 then 1 else 0) q)).2.2.2 = 0 then (numP tp ta 0 20 (mstP tp ta (if wrd tp ta q = 316784037 then 1 else 0) q)).2.2.1 else s 2), numP tp ta 0 20 (mstP tp ta (if wrd tp ta q = 316784037 then 1 else 0) q))
def itI (tp : Int → Int) (ta : Int) (s : Int → Int) (q : PS) : SQ :=
  if kdH (wrd tp ta q) < 0 then (if wrd tp ta q = 394692 then clI tp ta 3 s q else if wrd tp ta q = 13360 then clI tp ta 51 s q else inI tp ta s q) else mdI tp ta (kdH (wrd tp ta q)) s q
theorem pi_mdI {tp : Int → Int} {ta kd : Int} {s : Int → Int} {q : PS} (h : PI tp ta q) : PI tp ta (mdI tp ta kd s q).2 := by
  unfold mdI mdT
  have h3 := pi_num (pi_mst (pi_mst h (if s 0 < 6 then 1 else 0)) (if wrd tp ta (mstP tp ta (if s 0 < 6 then 1 else 0) q) = 52 then 1 else 0)) 0 47
  generalize numP tp ta 0 47 (mstP tp ta (if wrd tp ta (mstP tp ta (if s 0 < 6 then 1 else 0) q) = 52 then 1 else 0) (mstP tp ta (if s 0 < 6 then 1 else 0) q)) = r at h3 ⊢
  split
  · split
    · exact pi_num (pi_mst h3 1) 0 9999
    · exact h3
  · exact h3
theorem pi_clI {tp : Int → Int} {ta b : Int} {s : Int → Int} {q : PS} (h : PI tp ta q) : PI tp ta (clI tp ta b s q).2 := by
  unfold clI clE
  have h3 := pi_num (pi_mst h 1) 0 47
  generalize numP tp ta 0 47 (mstP tp ta 1 q) = r at h3 ⊢
  have h4 := pi_mst h3 (if srH (wrd tp ta r) < 0 then 0 else 1)
  generalize mstP tp ta (if srH (wrd tp ta r) < 0 then 0 else 1) r = u at h4 ⊢
  split
  · exact pi_num (pi_mst h4 1) _ 47
  · exact h4
theorem pi_inI {tp : Int → Int} {ta : Int} {s : Int → Int} {q : PS} (h : PI tp ta q) : PI tp ta (inI tp ta s q).2 := pi_num (pi_mst h _) 0 20
theorem pi_itI {tp : Int → Int} {ta : Int} {s : Int → Int} {q : PS} (h : PI tp ta q) : PI tp ta (itI tp ta s q).2 := by
  unfold itI
  split
  · split
    · exact pi_clI h
    · split
      · exact pi_clI h
      · exact pi_inI h
  · exact pi_mdI h
theorem ok_clN {s : Int → Int} (hs : Ok s) {b f v : Int} (hb : b = 3 ∨ b = 51) (hf : 0 ≤ f) (hv : 0 ≤ v) (hv1 : v < 6) : ∀ n : Nat, f + n ≤ 48 → Ok (clN s b f v n)
  | 0, _ => hs
  | n + 1, h => ok_up (ok_clN hs hb hf hv hv1 n (by omega)) ⟨by omega, by omega⟩ ⟨by omega, by omega⟩ (fun _ => by omega) (fun _ _ _ _ => by omega)
theorem ok_mdT {tp : Int → Int} {ta kd : Int} {s : Int → Int} {q : PS} (h : PI tp ta q) (hs : Ok s) (hk : 0 ≤ kd) (hk1 : kd < 6) (hq : q.2.2.2 = 0 → s 0 < 6 ∧ 0 ≤ q.2.2.1 ∧ q.2.2.1 ≤ 47) : Ok (mdT tp ta kd s q).1 := by
  have h00 := hs.1 0 (by decide)
  unfold mdT
  by_cases hw : q.2.2.2 = 0
  · have h4 := hq hw
    have h7 := ok_addS hs (kd := kd) (c := q.2.2.1) (pu := 50) h4.1 hk hk1 h4.2.1 (by omega) (by decide) (by decide)
    rw [if_pos hw]
    by_cases hx : wrd tp ta q = 17484389
    · rw [if_pos hx]
      have h8 := num_va (pi_mst h 1) 0 9999 (mst_1 hw)
      exact ok_up h7 ⟨by omega, by omega⟩ ⟨h8.1, by omega⟩ (fun _ => by omega) (fun _ _ _ _ => by omega)
    · rw [if_neg hx]; exact h7
  · rw [if_neg hw]; exact hs
theorem mdI_ok {tp : Int → Int} {ta : Int} {s : Int → Int} {q : PS} (hw : (numP tp ta 0 47 (mstP tp ta (if wrd tp ta (mstP tp ta (if s 0 < 6 then 1 else 0) q) = 52 then 1 else 0) (mstP tp ta (if s 0 < 6 then 1 else 0) q))).2.2.2 = 0) : s 0 < 6 ∧ 0 ≤ (numP tp ta 0 47 (mstP tp ta (if wrd tp ta (mstP tp ta (if s 0 < 6 then 1 else 0) q) = 52 then 1 else 0) (mstP tp ta (if s 0 < 6 then 1 else 0) q))).2.2.1 ∧ (numP tp ta 0 47 (mstP tp ta (if wrd tp ta (mstP tp ta (if s 0 < 6 then 1 else 0) q) = 52 then 1 else 0) (mstP tp ta (if s 0 < 6 then 1 else 0) q))).2.2.1 ≤ 47 := by
  have h4 := num_ok 0 47 hw
  have h5 := mst_iw (mst_iw h4.1).1
  refine ⟨?_, h4.2⟩
  by_cases g : s 0 < 6
  · exact g
  · rw [if_neg g] at h5; exact absurd rfl h5.2
theorem ok_mdI {tp : Int → Int} {ta kd : Int} {s : Int → Int} {q : PS} (h : PI tp ta q) (hs : Ok s) (hk : 0 ≤ kd) (hk1 : kd < 6) : Ok (mdI tp ta kd s q).1 :=
  ok_mdT (pi_num (pi_mst (pi_mst h _) _) 0 47) hs hk hk1 mdI_ok
theorem ok_clE {tp : Int → Int} {ta b : Int} {s : Int → Int} {f v : Int} {q : PS} (hs : Ok s) (hb : b = 3 ∨ b = 51) (hq : q.2.2.2 = 0 → 0 ≤ f ∧ f ≤ 47 ∧ 0 ≤ v ∧ v ≤ 5) : Ok (clE tp ta b s f v q).1 := by
  unfold clE
  by_cases hx : wrd tp ta q = 655
  · rw [if_pos hx]
    by_cases hw : (numP tp ta f 47 (mstP tp ta 1 q)).2.2.2 = 0
    · have h4 := num_ok _ 47 hw
      have h6 := hq (mst_iw h4.1).1
      show Ok (if _ then _ else _)
      rw [if_pos hw]
      exact ok_clN hs hb h6.1 h6.2.2.1 (by omega) _ (by omega)
    · show Ok (if _ then _ else _)
      rw [if_neg hw]; exact hs
  · rw [if_neg hx]
    by_cases hw : q.2.2.2 = 0
    · have h6 := hq hw
      show Ok (if _ then _ else _)
      rw [if_pos hw]
      exact ok_clN hs hb h6.1 h6.2.2.1 (by omega) 1 (by omega)
    · show Ok (if _ then _ else _)
      rw [if_neg hw]; exact hs
theorem clI_ok {tp : Int → Int} {ta : Int} {q : PS} (h5 : (mstP tp ta (if srH (wrd tp ta (numP tp ta 0 47 (mstP tp ta 1 q))) < 0 then 0 else 1) (numP tp ta 0 47 (mstP tp ta 1 q))).2.2.2 = 0) : 0 ≤ (numP tp ta 0 47 (mstP tp ta 1 q)).2.2.1 ∧ (numP tp ta 0 47 (mstP tp ta 1 q)).2.2.1 ≤ 47 ∧ 0 ≤ srH (wrd tp ta (numP tp ta 0 47 (mstP tp ta 1 q))) ∧ srH (wrd tp ta (numP tp ta 0 47 (mstP tp ta 1 q))) ≤ 5 := by
  have hsr := srH_rg (wrd tp ta (numP tp ta 0 47 (mstP tp ta 1 q)))
  have h6 := mst_iw h5
  have h7 := num_ok 0 47 h6.1
  refine ⟨h7.2.1, h7.2.2, ?_, hsr.2⟩
  by_cases g : srH (wrd tp ta (numP tp ta 0 47 (mstP tp ta 1 q))) < 0
  · rw [if_pos g] at h6; exact absurd rfl h6.2
  · omega
theorem ok_clI {tp : Int → Int} {ta b : Int} {s : Int → Int} {q : PS} (hs : Ok s) (hb : b = 3 ∨ b = 51) : Ok (clI tp ta b s q).1 := ok_clE hs hb clI_ok
theorem ok_inI {tp : Int → Int} {ta : Int} {s : Int → Int} {q : PS} (hs : Ok s) : Ok (inI tp ta s q).1 := by
  have h2 := hs.1 2 (by decide)
  unfold inI
  generalize mstP tp ta (if wrd tp ta q = 316784037 then 1 else 0) q = r
  by_cases hw : (numP tp ta 0 20 r).2.2.2 = 0
  · have h4 := num_ok 0 20 hw
    rw [if_pos hw]
    exact ok_up hs ⟨by omega, by omega⟩ ⟨h4.2.1, by omega⟩ (fun _ => by omega) (fun _ _ _ _ => by omega)
  · rw [if_neg hw]
    exact ok_up hs ⟨by omega, by omega⟩ h2 (fun _ => by omega) (fun _ _ _ _ => by omega)
theorem ok_itI {tp : Int → Int} {ta : Int} {s : Int → Int} {q : PS} (h : PI tp ta q) (hs : Ok s) : Ok (itI tp ta s q).1 := by
  have hk := kdH_rg (wrd tp ta q)
  unfold itI
  split
  · split
    · exact ok_clI hs (Or.inl rfl)
    · split
      · exact ok_clI hs (Or.inr rfl)
      · exact ok_inI hs
  · exact ok_mdI h hs (by omega) (by omega)
theorem lI_mul (a b : Int) : lI a * lI b = lI (a * b) := (Int64.ofInt_mul a b).symm
theorem lI_add (a b : Int) : lI a + lI b = lI (a + b) := (Int64.ofInt_add a b).symm
section LROWS2
variable {p : Program} {l : Launch} {e : Env} {R : Room} {s : State} {m : MethodId} {args : Array Value} {below : List Frame} {meth : Method} {c : Code} {H : Heap} {locs : List Loc} {cells slots : Nat} {Q : State → Prop}
variable {cc : ByteArray} {nL : Nat} {own : String} {rt : Option FieldType} {D : va_G} {k : Nat → ClassId} {pc : Nat} {ls : Array Slot} {rest : List Value}
theorem r_lmul (C : Cx p s m args meth c cc nL own rt D k) {a b : Int} (hd : decode cc pc = .ok (.lmul, 1)) (kk : W p l e R s m args below meth c H locs cells slots Q (F0 m (pc + 1) ls (.long (lI (a * b)) :: rest))) : W p l e R s m args below meth c H locs cells slots Q (F0 m pc ls (.long (lI b) :: .long (lI a) :: rest)) := lv_lmul C.1.1 C.1.2.1 hd (by rw [lI_mul]; exact kk)
theorem r_ladd (C : Cx p s m args meth c cc nL own rt D k) {a b : Int} (hd : decode cc pc = .ok (.ladd, 1)) (kk : W p l e R s m args below meth c H locs cells slots Q (F0 m (pc + 1) ls (.long (lI (a + b)) :: rest))) : W p l e R s m args below meth c H locs cells slots Q (F0 m pc ls (.long (lI b) :: .long (lI a) :: rest)) := lv_ladd C.1.1 C.1.2.1 hd (by rw [lI_add]; exact kk)
end LROWS2
theorem bAt_rg {tp : Int → Int} (h : ∀ i, 0 ≤ tp i ∧ tp i ≤ 255) (ta i : Int) : -1 ≤ bAt tp ta i ∧ bAt tp ta i ≤ 255 := by
  have := h i
  unfold bAt
  split <;> omega
theorem sk_end {tp : Int → Int} {ta p : Int} (h0 : 0 ≤ p) (h1 : p ≤ ta) : skP tp ta p (ta - p).toNat := by
  show ¬ bAt tp ta (p + ((ta - p).toNat : Nat)) = 32
  rw [bAt_hi (by omega)]; decide
theorem tk_end {tp : Int → Int} {ta f : Int} (h0 : 0 ≤ f) (h1 : f ≤ ta) : tkP tp ta f (ta - tk1 ta f).toNat := by
  have h3 : tk1 ta f ≤ ta := by unfold tk1; split <;> omega
  show ¬ ((isL (bAt tp ta f) ∧ isL (bAt tp ta (tk1 ta f + ((ta - tk1 ta f).toNat : Nat)))) ∨ (isD (bAt tp ta f) ∧ isD (bAt tp ta (tk1 ta f + ((ta - tk1 ta f).toNat : Nat)))))
  rw [bAt_hi (show ta ≤ tk1 ta f + ((ta - tk1 ta f).toNat : Nat) by omega)]
  unfold isL isD
  omega
theorem tk1_rg {ta f : Int} (h0 : 0 ≤ f) : 0 ≤ tk1 ta f ∧ tk1 ta f ≤ f + 1 := by
  unfold tk1
  split <;> omega
theorem nmN_J {tp : Int → Int} {ta fr to va iw : Int} (h : PI tp ta (fr, to, va, iw)) {n : Nat} (hJ : n = 0 ∨ isD (bAt tp ta fr)) (hn : n ≤ (to - fr).toNat) : 0 ≤ nmN tp fr n ∧ nmN tp fr n ≤ 99999 := by
  rcases hJ with rfl | hd
  · rw [nmN]; decide
  · exact nmN_rg (n := (to - fr).toNat) (fun i hi => h.2.1 hd (fr + i) (by omega) (by show fr + i < to; omega)) n hn
