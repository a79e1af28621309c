/-! what the law's loop keeps of the row s -/
def Kd (s : Int → Int) : Prop := ∀ i, 0 ≤ i → i < 6 → s (99 + 4 * i + 0) ≤ 5
/-- alike in kinds and year -/
def Ky (s t : Int → Int) : Prop := (∀ i, 0 ≤ i → i < 6 → t (99 + 4 * i + 0) = s (99 + 4 * i + 0)) ∧ t 1 = s 1
theorem ky_rf (s : Int → Int) : Ky s s := ⟨fun _ _ _ => rfl, rfl⟩
theorem ky_tr {s t u : Int → Int} (h : Ky s t) (g : Ky t u) : Ky s u := ⟨fun i a b => (g.1 i a b).trans (h.1 i a b), g.2.trans h.2⟩
theorem ky_kd {s t : Int → Int} (h : Ky s t) (k : Kd s) : Kd t := fun i a b => by rw [h.1 i a b]; exact k i a b
theorem ky_up {s : Int → Int} {j v : Int} (h1 : j ≠ 1) (hk : ∀ i, 0 ≤ i → i < 6 → 99 + 4 * i + 0 ≠ j) : Ky s (up s j v) := ⟨fun i a b => up_n (hk i a b), up_n (fun e => h1 e.symm)⟩
theorem ky_mlp {t : Int → Int} {c : Int} (h0 : 0 ≤ c) (h1 : c < 48) (n : Nat) : Ky t (mlp t c n) := ⟨fun i _ _ => mlp_hi h0 h1 (by omega) n, mlp_lo (by decide) n⟩
theorem ky_mends {s : Int → Int} {m c : Int} (h0 : 0 ≤ c) (h1 : c < 48) (hm : 0 ≤ m) : Ky s (mends s m c) := by
  have k1 : Ky s (up s (99 + 4 * m + 1) c) := ky_up (by omega) (fun i _ _ => by omega)
  unfold mends
  split
  · exact ky_tr k1 (ky_up (by omega) (fun i _ _ => by omega))
  · exact ky_tr (ky_tr k1 (ky_up (by omega) (fun i _ _ => by omega))) (ky_mlp h0 h1 4)
theorem ky_pay2 {s : Int → Int} {m c : Int} (hm : 0 ≤ m) : Ky s (pay2 s m c) := ky_tr (ky_up (by omega) (fun i _ _ => by omega)) (ky_up (by omega) (fun i _ _ => by omega))
theorem ky_payS {s : Int → Int} {m c : Int} (h0 : 0 ≤ c) (h1 : c < 48) (hm : 0 ≤ m) : Ky s (payS s m c) := by
  unfold payS
  split
  · exact ky_tr (ky_pay2 hm) (ky_mends h0 h1 hm)
  · exact ky_rf s
theorem ky_yrM {s : Int → Int} (hs : Ok s) {dl m : Int} (hm : 0 ≤ m) (hm1 : m < 6) : Ky s (yrM s dl m) := by
  have h := goesFor_rg hs hm hm1
  unfold yrM
  split
  · exact ky_rf s
  · split
    · exact ky_rf s
    · exact ky_tr (ky_payS (by omega) h.2 hm) (ky_up (by omega) (fun i _ _ => by omega))
theorem ky_yrL {s : Int → Int} (hs : Ok s) (dl : Int) : ∀ n : Nat, n ≤ 6 → Ky s (yrL s dl n)
  | 0, _ => ky_rf s
  | n + 1, h => ky_tr (ky_yrL hs dl n (by omega)) (ky_yrM (ok_yrL hs dl n (by omega)) (by omega) (by omega))
theorem kd_ysN {s : Int → Int} (hs : Ok s) (hk : Kd s) (dl : Int) : ∀ n : Nat, Kd (ysN s dl n)
  | 0 => hk
  | n + 1 => by
    have ih := kd_ysN hs hk dl n
    have ho := ok_ysN hs dl n
    have h6 := ho.2.2.1
    have h0 := ho.1 0 (by decide)
    have k := ky_kd (ky_yrL ho dl ((ysN s dl n) 0).toNat (by omega)) ih
    intro i a b
    show year (ysN s dl n) dl (99 + 4 * i + 0) ≤ 5
    unfold year
    rw [up_n (by omega)]
    exact k i a b
def Inv (s : Int → Int) : Prop := Ok s ∧ Kd s ∧ 0 ≤ s 1 ∧ s 1 ≤ 9999
theorem inv_ky {s t : Int → Int} (h : Inv s) (ho : Ok t) (k : Ky s t) : Inv t ∧ t 1 = s 1 := ⟨⟨ho, ky_kd k h.2.1, by rw [k.2]; exact h.2.2.1, by rw [k.2]; exact h.2.2.2⟩, k.2⟩
theorem inv_rf {s : Int → Int} (h : Inv s) : Inv s ∧ s 1 = s 1 := ⟨h, rfl⟩
section INVS
variable {s st : Int → Int}
theorem inv_draw (h : Inv s) {c w v : Int} : Inv (fDraw s st c w v).2.1 ∧ (fDraw s st c w v).2.1 1 = s 1 := by
  unfold fDraw
  split
  · split
    · split
      · exact inv_ky h (ok_paint h.1 (by omega) (by omega) (by omega) (by omega)) (ky_up (by split <;> omega) (fun i _ _ => by split <;> omega))
      · exact inv_rf h
    · exact inv_rf h
  · exact inv_rf h
theorem inv_income (h : Inv s) {v : Int} : Inv (fIncome s st v).2.1 ∧ (fIncome s st v).2.1 1 = s 1 := by
  unfold fIncome
  split
  · exact inv_ky h (ok_up h.1 ⟨by omega, by omega⟩ ⟨by omega, by omega⟩ (fun _ => by omega) (fun _ _ _ _ => by omega)) (ky_up (by omega) (fun i _ _ => by omega))
  · exact inv_rf h
theorem addS_1 {kd c pu : Int} (h0 : 0 ≤ s 0) : addS s kd c pu 1 = s 1 := by
  unfold addS
  rw [up_n (by omega), up_n (by omega), up_n (by omega), up_n (by omega), up_n (by omega)]
theorem kd_addS (hk : Kd s) {kd c pu : Int} (h0 : 0 ≤ s 0) (hkd : kd ≤ 5) : Kd (addS s kd c pu) := by
  intro i a b
  unfold addS
  rw [up_n (by omega), up_n (by omega), up_n (by omega), up_n (by omega)]
  by_cases e : 99 + 4 * i + 0 = 99 + 4 * s 0 + 0
  · rw [e, up_s]; exact hkd
  · rw [up_n e]; exact hk i a b
theorem inv_addS (h : Inv s) {kd c pu : Int} (h6 : s 0 < 6) (hk : 0 ≤ kd) (hk1 : kd < 6) (hc : 0 ≤ c) (hc1 : c < 48) (hp : 0 ≤ pu) (hp1 : pu < 10000) : Inv (addS s kd c pu) ∧ addS s kd c pu 1 = s 1 := by
  have h0 := (h.1.1 0 (by decide)).1
  have e := addS_1 (kd := kd) (c := c) (pu := pu) h0
  exact ⟨⟨ok_addS h.1 h6 hk hk1 hc hc1 hp hp1, kd_addS h.2.1 h0 (by omega), by rw [e]; exact h.2.2.1, by rw [e]; exact h.2.2.2⟩, e⟩
theorem inv_mender (h : Inv s) {kd c : Int} : Inv (fMender s st kd c).2.1 ∧ (fMender s st kd c).2.1 1 = s 1 := by
  have h6 := h.1.2.2.1
  unfold fMender
  split
  · split
    · split
      · exact inv_rf h
      · exact inv_addS h (by omega) (by omega) (by omega) (by omega) (by omega) (by decide) (by decide)
    · exact inv_rf h
  · exact inv_rf h
theorem inv_set (h : Inv s) {m w v : Int} : Inv (fSet s st m w v).2.1 ∧ (fSet s st m w v).2.1 1 = s 1 := by
  have h6 := h.1.2.2.1
  unfold fSet
  repeat' split
  all_goals first | exact inv_rf h | exact inv_ky h (ok_up h.1 ⟨by omega, by omega⟩ ⟨by omega, by omega⟩ (fun _ => by omega) (fun _ _ _ _ => by omega)) (ky_up (by omega) (fun i _ _ => by omega))
theorem inv_turn (h : Inv s) {m kd : Int} : Inv (fTurn s st m kd).2.1 ∧ (fTurn s st m kd).2.1 1 = s 1 := by
  have h6 := h.1.2.2.1
  unfold fTurn
  split
  · split
    · have e : up s (99 + 4 * m + 0) kd 1 = s 1 := up_n (by omega)
      refine ⟨⟨ok_up h.1 ⟨by omega, by omega⟩ ⟨by omega, by omega⟩ (fun _ => by omega) (fun _ _ _ _ => by omega), fun i a b => ?_, by dsimp only; rw [e]; exact h.2.2.1, by dsimp only; rw [e]; exact h.2.2.2⟩, e⟩
      dsimp only
      by_cases z : 99 + 4 * i + 0 = 99 + 4 * m + 0
      · rw [z, up_s]; omega
      · rw [up_n z]; exact h.2.1 i a b
    · exact inv_rf h
  · exact inv_rf h
theorem inv_mend (h : Inv s) {m c : Int} : Inv (fMend s st m c).2.1 ∧ (fMend s st m c).2.1 1 = s 1 := by
  have h6 := h.1.2.2.1
  unfold fMend
  split
  · split
    · split
      · split
        · exact inv_ky h (ok_payS h.1 (by omega) (by omega) (by omega) (by omega)) (ky_payS (by omega) (by omega) (by omega))
        · exact inv_rf h
      · exact inv_rf h
    · exact inv_rf h
  · exact inv_rf h
theorem inv_years (h : Inv s) {n : Int} : Inv (fYears s st n).2.1 := by
  unfold fYears
  split
  · split
    · next h1 h2 =>
      have e := ysN_1 s (-1) n.toNat
      refine ⟨ok_ysN h.1 (-1) _, kd_ysN h.1 h.2.1 (-1) _, ?_, ?_⟩ <;> dsimp only <;> rw [e] <;> have := h.2.2.1 <;> omega
    · exact h
  · exact h
theorem inv_lays (h : Inv s) {bi si : Int → Int} {nu : Int → Int64} {sh : Int} (hsi : ∀ i, 0 ≤ si i ∧ si i ≤ 40) : Inv (fLays s st bi si nu sh).2.1 ∧ (fLays s st bi si nu sh).2.1 1 = s 1 := by
  have key : ∀ n : Nat, n ≤ 40 → Ky s (lyS s nu sh n) := by
    intro n
    induction n with
    | zero => intro _; exact ky_rf s
    | succ n ih => intro hn; exact ky_tr (ih (by omega)) (ky_up (by omega) (fun i _ _ => by omega))
  have hz := hsi sh
  unfold fLays
  split
  · exact inv_ky h (ok_lyS h.1 nu sh _ (by omega)) (key _ (by omega))
  · exact inv_rf h
end INVS
