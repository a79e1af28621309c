/-! mending, by the class's words -/
def spB (v : Int) : Int := if v = 1 then 5 else if v = 3 then 0 else -1
def spT (v : Int) : Int := if v = 1 then 0 else 5
theorem spB_rg (v : Int) : -1 ≤ spB v ∧ spB v ≤ 5 := by
  unfold spB
  repeat' split
  all_goals omega
theorem spT_rg (v : Int) : 0 ≤ spT v ∧ spT v ≤ 5 := by
  unfold spT
  split <;> omega
theorem besd_ne {c w : Int} (h0 : 0 ≤ c) : besd c w ≠ c := by
  unfold besd
  repeat' split
  all_goals omega
theorem besd_inj : ∀ c : Nat, c < 48 → ∀ v : Nat, v < 4 → ∀ w : Nat, w < 4 → besd c v = besd c w → 0 ≤ besd c v → v = w := by decide +kernel
theorem mstep_sp {t : Int → Int} {c w : Int} (h0 : 0 ≤ c) (ht : ¬ besd c w < 0 → 0 ≤ t (3 + besd c w)) : mstep t c w = if ¬ besd c w < 0 ∧ t (3 + besd c w) = spB (t (3 + c)) then up t (3 + besd c w) (spT (t (3 + c))) else t := by
  have hne := besd_ne (w := w) h0
  unfold mstep spB spT
  by_cases hb : besd c w < 0
  · simp only [hb, not_true_eq_false, false_and, if_false]
  · have h1 := ht hb
    simp only [hb, not_false_eq_true, true_and]
    by_cases e1 : t (3 + c) = 1
    · simp only [e1, true_and, if_true]
      by_cases e5 : t (3 + besd c w) = 5
      · rw [if_pos e5, if_neg]
        intro q
        rw [up_n (show (3 + c : Int) ≠ 3 + besd c w by omega), e1] at q
        exact absurd q.1 (by decide)
      · rw [if_neg e5, if_neg]
        intro q
        rw [e1] at q
        exact absurd q.1 (by decide)
    · simp only [e1, false_and, if_false]
      by_cases e3 : t (3 + c) = 3
      · simp only [e3, true_and, if_true]
      · simp only [e3, false_and, if_false]
        rw [if_neg (by omega)]
theorem mstep_at {t : Int → Int} {c w i : Int} (hi : i ≠ 3 + besd c w) : mstep t c w i = t i := by
  unfold mstep
  have h1 : (if ¬ besd c w < 0 ∧ t (3 + c) = 1 ∧ t (3 + besd c w) = 5 then up t (3 + besd c w) 0 else t) i = t i := by
    split
    · rw [up_n hi]
    · rfl
  generalize (if ¬ besd c w < 0 ∧ t (3 + c) = 1 ∧ t (3 + besd c w) = 5 then up t (3 + besd c w) 0 else t) = u at h1 ⊢
  split
  · rw [up_n hi, h1]
  · exact h1
theorem mlp_at {t : Int → Int} {c i : Int} : ∀ n : Nat, (∀ w : Nat, w < n → i ≠ 3 + besd c w) → mlp t c n i = t i
  | 0, _ => rfl
  | n + 1, h => by rw [mlp, mstep_at (h n (by omega)), mlp_at n (fun w hw => h w (by omega))]
theorem mlp_c {t : Int → Int} {c : Int} (h0 : 0 ≤ c) (n : Nat) : mlp t c n (3 + c) = t (3 + c) := mlp_at n (fun w _ => by have := besd_ne (w := (w : Int)) h0; omega)
theorem mlp_b {t : Int → Int} {c : Int} (h0 : 0 ≤ c) (h1 : c < 48) {n : Nat} (hn : n < 4) (hb : ¬ besd c n < 0) : mlp t c n (3 + besd c n) = t (3 + besd c n) := mlp_at n (fun w hw q => by
  obtain ⟨c', rfl⟩ := Int.eq_ofNat_of_zero_le h0
  have := besd_inj c' (by omega) w (by omega) n hn (by omega) (by omega)
  omega)
theorem mlp_hi {t : Int → Int} {c i : Int} (h0 : 0 ≤ c) (h1 : c < 48) (hi : 51 ≤ i) (n : Nat) : mlp t c n i = t i := mlp_at n (fun w _ => by have := besd_lt (w := (w : Int)) h0 h1; omega)
theorem mlp_s1 {t : Int → Int} (ht : Ok t) {c : Int} (h0 : 0 ≤ c) (h1 : c < 48) {n : Nat} (hn : n < 4) {v : Int} (hv : t (3 + c) = v) (hb : ¬ besd c n < 0) (h : mlp t c n (3 + besd c n) = spB v) : up (mlp t c n) (3 + besd c n) (spT v) = mlp t c (n + 1) := by
  rw [mlp, mstep_sp h0 (fun q => by have := ((ok_mlp ht h0 h1 n).1 (3 + besd c n) (by omega)).1; exact this), mlp_c h0, hv, if_pos ⟨hb, h⟩]
theorem mlp_s2 {t : Int → Int} (ht : Ok t) {c : Int} (h0 : 0 ≤ c) (h1 : c < 48) {n : Nat} {v : Int} (hv : t (3 + c) = v) (h : besd c n < 0 ∨ ¬ mlp t c n (3 + besd c n) = spB v) : mlp t c n = mlp t c (n + 1) := by
  rw [mlp, mstep_sp h0 (fun q => by have := ((ok_mlp ht h0 h1 n).1 (3 + besd c n) (by omega)).1; exact this), mlp_c h0, hv, if_neg (fun q => by rcases h with h | h; exact q.1 h; exact h q.2)]
theorem mst_c {s : Int → Int} {m c : Int} (h1 : c < 48) (hm : 0 ≤ m) : mst s m c (3 + c) = s (51 + c) := by
  unfold mst
  rw [up_s, up_n (by omega)]
theorem mst_o {s : Int → Int} {m c i : Int} (hm : 0 ≤ m) (hi : i < 99) (hc : i ≠ 3 + c) : mst s m c i = s i := by
  unfold mst
  rw [up_n hc, up_n (by omega)]
/-- what a mending leaves wrong -/
theorem wr_mst {s : Int → Int} {m c : Int} (h0 : 0 ≤ c) (h1 : c < 48) (hm : 0 ≤ m) : lB (anF (wrF s) (noF (onF c))) = lB (wrF (mst s m c)) := by
  refine wr_clr h0 h1 (fun i a b e => ?_) (fun q => q ?_)
  · unfold untrue
    rw [mst_o hm (by omega) (by omega), mst_o hm (by omega) (by omega)]
  · rw [mst_c h1 hm, mst_o hm (by omega) (by omega)]
theorem wr_bri {s : Int → Int} {m c : Int} (h0 : 0 ≤ c) (h1 : c < 48) (hm : 0 ≤ m) (hk : s (99 + 4 * m + 0) = 3) : lB (anF (wrF s) (noF (onF c))) = lB (wrF (mends s m c)) := by
  have e : mends s m c = up (up s (99 + 4 * m + 1) c) (51 + c) ((up s (99 + 4 * m + 1) c) (3 + c)) := by
    unfold mends
    rw [if_pos (by rw [up_n (by omega)]; exact hk)]
  rw [e]
  refine wr_clr h0 h1 (fun i a b q => ?_) (fun q => q ?_)
  · unfold untrue
    rw [up_n (by omega), up_n (by omega), up_n (by omega), up_n (by omega)]
  · rw [up_s, up_n (by omega)]
theorem mends_n {s : Int → Int} {m c : Int} (hk : ¬ s (99 + 4 * m + 0) = 3) : mends s m c = mlp (mst s m c) c 4 := by
  unfold mends
  rw [if_neg (by rw [up_n (by omega)]; exact hk)]
section WO
variable {s : Int → Int} {m c : Int} {n : Nat}
theorem wo_up (hs : Ok s) (h0 : 0 ≤ c) (h1 : c < 48) (hm : 0 ≤ m) (hm1 : m < 6) (hn : n < 4) (hb : ¬ besd c n < 0) (h : s (3 + besd c n) = spB (s (51 + c))) : mlp (mst s m c) c (n + 1) = up (mlp (mst s m c) c n) (3 + besd c n) (spT (s (51 + c))) := by
  have hne := besd_ne (w := (n : Int)) h0
  have hbl := besd_lt (w := (n : Int)) h0 h1
  exact (mlp_s1 (ok_mst hs h0 h1 hm hm1) h0 h1 hn (mst_c h1 hm) hb (by rw [mlp_b h0 h1 hn hb, mst_o hm (by omega) (by omega)]; exact h)).symm
theorem wo_map (h0 : 0 ≤ c) (h1 : c < 48) (hm : 0 ≤ m) (hb : ¬ besd c n < 0) (j : Nat) : mlp (mst s m c) c j (51 + besd c n) = s (51 + besd c n) := by
  have hbl := besd_lt (w := (n : Int)) h0 h1
  rw [mlp_hi h0 h1 (by omega), mst_o hm (by omega) (by omega)]
theorem wo_clr (hs : Ok s) (h0 : 0 ≤ c) (h1 : c < 48) (hm : 0 ≤ m) (hm1 : m < 6) (hn : n < 4) (hb : ¬ besd c n < 0) (h : s (3 + besd c n) = spB (s (51 + c))) (hq : s (51 + besd c n) = spT (s (51 + c))) : lB (anF (wrF (mlp (mst s m c) c n)) (noF (onF (besd c n)))) = lB (wrF (mlp (mst s m c) c (n + 1))) := by
  have hbl := besd_lt (w := (n : Int)) h0 h1
  rw [wo_up hs h0 h1 hm hm1 hn hb h]
  refine wr_la0 (by omega) hbl.2 ?_
  rw [up_s, up_n (by omega), wo_map h0 h1 hm hb, hq]
theorem wo_set (hs : Ok s) (h0 : 0 ≤ c) (h1 : c < 48) (hm : 0 ≤ m) (hm1 : m < 6) (hn : n < 4) (hb : ¬ besd c n < 0) (h : s (3 + besd c n) = spB (s (51 + c))) (hq : ¬ s (51 + besd c n) = spT (s (51 + c))) : lB (orF (wrF (mlp (mst s m c) c n)) (onF (besd c n))) = lB (wrF (mlp (mst s m c) c (n + 1))) := by
  have hbl := besd_lt (w := (n : Int)) h0 h1
  rw [wo_up hs h0 h1 hm hm1 hn hb h]
  refine wr_la1 (by omega) hbl.2 ?_
  rw [up_s, up_n (by omega), wo_map h0 h1 hm hb]
  exact fun q => hq q.symm
theorem wo_no (hs : Ok s) (h0 : 0 ≤ c) (h1 : c < 48) (hm : 0 ≤ m) (hm1 : m < 6) (hn : n < 4) (h : besd c n < 0 ∨ ¬ s (3 + besd c n) = spB (s (51 + c))) : lB (wrF (mlp (mst s m c) c n)) = lB (wrF (mlp (mst s m c) c (n + 1))) := by
  have hne := besd_ne (w := (n : Int)) h0
  have hbl := besd_lt (w := (n : Int)) h0 h1
  rw [← mlp_s2 (ok_mst hs h0 h1 hm hm1) h0 h1 (mst_c h1 hm) (n := n) (by
    by_cases hb : besd c n < 0
    · exact Or.inl hb
    · right
      rw [mlp_b h0 h1 hn hb, mst_o hm (by omega) (by omega)]
      exact h.resolve_left hb)]
end WO
theorem cntU_lt {t : Int → Int} {c : Nat} (h : ¬ untrue t c) : ∀ n : Nat, c < n → cntU t n ≤ n - 1
  | 0, q => absurd q (Nat.not_lt_zero c)
  | n + 1, q => by
    rw [cntU]
    rcases Nat.lt_or_ge c n with r | r
    · have := cntU_lt h n r
      split <;> omega
    · have e : c = n := by omega
      subst e
      have := (cntU_rg t c).2
      rw [if_neg h]; omega
theorem mends_true {s : Int → Int} {m c : Int} (h0 : 0 ≤ c) (h1 : c < 48) (hm : 0 ≤ m) : ¬ untrue (mends s m c) c := by
  unfold untrue
  intro q
  apply q
  by_cases hk : s (99 + 4 * m + 0) = 3
  · have e : mends s m c = up (up s (99 + 4 * m + 1) c) (51 + c) ((up s (99 + 4 * m + 1) c) (3 + c)) := by
      unfold mends
      rw [if_pos (by rw [up_n (by omega)]; exact hk)]
    rw [e, up_s, up_n (by omega)]
  · rw [mends_n hk, mlp_c h0, mst_c h1 hm, mlp_hi h0 h1 (by omega), mst_o hm (by omega) (by omega)]
theorem mends_47 {s : Int → Int} {m : Int} {c : Nat} (h1 : c < 48) (hm : 0 ≤ m) : wrongMany (mends s m c) ≤ 47 := by
  have := cntU_lt (mends_true (s := s) (m := m) (c := (c : Int)) (by omega) (by omega) hm) 48 h1
  unfold wrongMany
  omega
def bfN (s : Int → Int) (m : Int) : Nat → Int × Int
  | 0 => (-1, 49)
  | n + 1 => if untrue s n then (if wrongMany (mends s m n) < (bfN s m n).2 then ((n : Int), wrongMany (mends s m n)) else bfN s m n) else bfN s m n
theorem bf_bs {s : Int → Int} {m : Int} (hm : 0 ≤ m) : ∀ n : Nat, n ≤ 48 → (bfN s m n = (-1, 49) ∧ bsN s m n = (-1, 48)) ∨ (bfN s m n = bsN s m n ∧ 0 ≤ (bfN s m n).1 ∧ (bfN s m n).2 ≤ 47)
  | 0, _ => Or.inl ⟨rfl, rfl⟩
  | n + 1, h => by
    have h47 := mends_47 (s := s) (m := m) (c := n) (by omega) hm
    rw [bfN, bsN]
    by_cases hu : untrue s n
    · rw [if_pos hu, if_pos hu]
      rcases bf_bs hm n (by omega) with ⟨a, b⟩ | ⟨a, b, c⟩
      · rw [a, b]
        right
        rw [if_pos (show wrongMany (mends s m n) < 49 by omega), if_pos (show wrongMany (mends s m n) < 48 by omega)]
        exact ⟨rfl, by dsimp only; omega, h47⟩
      · right
        rw [← a]
        split
        · exact ⟨rfl, by dsimp only; omega, h47⟩
        · exact ⟨rfl, b, c⟩
    · rw [if_neg hu, if_neg hu]
      exact bf_bs hm n (by omega)
theorem bf_best {s : Int → Int} {m : Int} (hm : 0 ≤ m) : (bfN s m 48).1 = (bsN s m 48).1 := by
  rcases bf_bs (s := s) hm 48 (Nat.le_refl 48) with ⟨a, b⟩ | ⟨a, b, c⟩
  · rw [a, b]
  · rw [a]
theorem bf_rg {s : Int → Int} {m : Int} (hm : 0 ≤ m) (n : Nat) (h : n ≤ 48) : (-1 ≤ (bfN s m n).1 ∧ (bfN s m n).1 < 48) ∧ 0 ≤ (bfN s m n).2 ∧ (bfN s m n).2 ≤ 49 := by
  have r := bsN_rg s m n h
  rcases bf_bs (s := s) hm n h with ⟨a, b⟩ | ⟨a, b, c⟩
  · rw [a]; decide
  · rw [a]; exact ⟨r.1, r.2.1, by omega⟩
/-! years -/
def yrW (s : Int → Int) (m : Int) : Int → Int := if goesFor s m < 0 then s else yrG (payS s m (goesFor s m)) m
theorem yrM_w {s : Int → Int} {dl m : Int} : yrM s dl m = if m = dl then s else yrW s m := rfl
theorem ok_yrW {s : Int → Int} (hs : Ok s) {m : Int} (hm : 0 ≤ m) (hm1 : m < 6) : Ok (yrW s m) := by
  have := ok_yrM hs (dl := m - 1) hm hm1
  rw [yrM_w, if_neg (by omega)] at this
  exact this
/-- alike but for the year -/
def Ay (s t : Int → Int) : Prop := ∀ i, i ≠ 1 → s i = t i
theorem wr_ay {s t : Int → Int} (h : Ay s t) : wrF s = wrF t := wrF_cong (fun i _ _ => by
  unfold untrue
  rw [h (3 + i) (by omega), h (51 + i) (by omega)])
theorem cnt_ay {s t : Int → Int} (h : Ay s t) : ∀ n : Nat, cntU s n = cntU t n
  | 0 => rfl
  | n + 1 => by
    rw [cntU, cntU, cnt_ay h n]
    unfold untrue
    rw [h (3 + n) (by omega), h (51 + n) (by omega)]
theorem ay_year (s : Int → Int) (dl : Int) : Ay (year s dl) (yrL s dl (s 0).toNat) := fun i hi => by
  unfold year
  rw [up_n hi]
theorem yrL_none {s : Int → Int} {dl : Int} (h : ∀ i, 0 ≤ i → i < 48 → ¬ untrue s i) : ∀ n : Nat, yrL s dl n = s
  | 0 => rfl
  | n + 1 => by
    rw [yrL, yrL_none h n, yrM]
    have e : goesFor s n = -1 := by
      unfold goesFor
      rw [gf_none h 48 (Nat.le_refl 48)]
    rw [e, if_pos (show (-1 : Int) < 0 by decide)]
    split <;> rfl
theorem ys_stop {s : Int → Int} {dl : Int} {n : Nat} (h : ∀ i, 0 ≤ i → i < 48 → ¬ untrue (ysN s dl n) i) : ∀ j : Nat, Ay (ysN s dl (n + j)) (ysN s dl n)
  | 0 => fun i _ => rfl
  | j + 1 => by
    have ih := ys_stop h j
    have h2 : ∀ i, 0 ≤ i → i < 48 → ¬ untrue (ysN s dl (n + j)) i := by
      intro i a b q
      apply h i a b
      unfold untrue at q ⊢
      rw [← ih (3 + i) (by omega), ← ih (51 + i) (by omega)]
      exact q
    intro i hi
    show year (ysN s dl (n + j)) dl i = _
    rw [ay_year _ _ i hi, yrL_none h2]
    exact ih i hi
section WY
variable {b : Nat → Nat} {k : Nat → ClassId} {s t : Int → Int} {y : Int}
theorem wW_ay (h : Ay s t) : wW b k s (lB (wrF s)) y = wW b k t (lB (wrF t)) y := by rw [wr_ay h]; exact wW_cong h
theorem wW_year {dl : Int} : wW b k (year s dl) (lB (wrF (year s dl))) y = wW b k (yrL s dl (s 0).toNat) (lB (wrF (yrL s dl (s 0).toNat))) y := wW_ay (ay_year s dl)
end WY
theorem wr_yrG {t : Int → Int} {m : Int} (hm : 0 ≤ m) : wrF (yrG t m) = wrF t := by
  unfold yrG
  exact wrF_o (by omega)
theorem cpy_cu {n : Nat} {f g : Int → Int} : va_cpy (arr (cu n f)) (arr (cu n g)) 0 0 n = arr (cu n f) := by
  funext j
  unfold va_cpy
  by_cases h : 0 ≤ j ∧ j < 0 + n
  · rw [if_pos h]
    congr 1
    omega
  · rw [if_neg h]
    unfold arr cu
    rw [if_neg (by omega), if_neg (by omega)]
/-- the cells of a sort -/
def loF (s : Int → Int) (v : Int) (n : Nat) : Nat → Bool := fun i => decide (i < n) && decide (s (3 + i) = v)
theorem lo_0 (s : Int → Int) (v : Int) : lB (fun _ => false) = lB (loF s v 0) := lB_cong (fun i _ => by unfold loF; rw [decide_eq_false (Nat.not_lt_zero i)]; rfl)
theorem lo_s1 {s : Int → Int} {v : Int} {n : Nat} (h : s (3 + n) = v) : lB (orF (loF s v n) (onF n)) = lB (loF s v (n + 1)) := lB_cong (fun i _ => by
  unfold orF loF onF
  rw [Int.toNat_natCast]
  by_cases e : i = n
  · subst e; rw [decide_eq_true h]; simp
  · rw [decide_eq_false e, Bool.or_false]
    by_cases q : i < n
    · rw [decide_eq_true q, decide_eq_true (show i < n + 1 by omega)]
    · rw [decide_eq_false q, decide_eq_false (show ¬ i < n + 1 by omega)])
theorem lo_s0 {s : Int → Int} {v : Int} {n : Nat} (h : ¬ s (3 + n) = v) : lB (loF s v n) = lB (loF s v (n + 1)) := lB_cong (fun i _ => by
  unfold loF
  by_cases e : i = n
  · subst e; rw [decide_eq_false h]; simp
  · by_cases q : i < n
    · rw [decide_eq_true q, decide_eq_true (show i < n + 1 by omega)]
    · rw [decide_eq_false q, decide_eq_false (show ¬ i < n + 1 by omega)])
theorem lI_p2 {n : Nat} (h : n < 63) : lI (2 ^ n) = lB (onF (n : Int)) := by
  rw [← lI_shl1 n h]
  exact lB_one (by omega) (by omega)
theorem cs_lo (s : Int → Int) {w : Int} (hw : ¬ w = 0) : ∀ n : Nat, n ≤ 48 → lI (csN s w n) = lB (loF s (w - 1) n)
  | 0, _ => by rw [csN, ← lo_0]; exact lB_0
  | n + 1, h => by
    have ih := cs_lo s hw n (by omega)
    have r := csN_rg s w n
    rw [csN, if_neg hw]
    by_cases q : s (3 + n) = w - 1
    · rw [if_pos q, Int.toNat_natCast, ← lI_or r.1 r.2, ih, lI_p2 (by omega), lB_or]
      exact lo_s1 q
    · rw [if_neg q, Int.add_zero, ih]
      exact lo_s0 q
theorem cs_wr (s : Int → Int) : ∀ n : Nat, n ≤ 48 → lI (csN s 0 n) = lB (fun i => decide (i < n) && wrF s i)
  | 0, _ => by
    rw [csN, lB_0]
    exact lB_cong (fun i _ => by rw [decide_eq_false (Nat.not_lt_zero i)]; rfl)
  | n + 1, h => by
    have ih := cs_wr s n (by omega)
    have r := csN_rg s 0 n
    rw [csN, if_pos rfl]
    have hn : wrF s n = decide (untrue s n) := by
      unfold wrF
      rw [decide_eq_true (show n < 48 by omega), Bool.true_and]
    by_cases q : untrue s n
    · rw [if_pos q, Int.toNat_natCast, ← lI_or r.1 r.2, ih, lI_p2 (by omega), lB_or]
      refine lB_cong (fun i _ => ?_)
      unfold onF
      rw [Int.toNat_natCast]
      by_cases e : i = n
      · subst e; rw [hn, decide_eq_true q]; simp
      · rw [decide_eq_false e, Bool.or_false]
        by_cases z : i < n
        · rw [decide_eq_true z, decide_eq_true (show i < n + 1 by omega)]
        · rw [decide_eq_false z, decide_eq_false (show ¬ i < n + 1 by omega)]
    · rw [if_neg q, Int.add_zero, ih]
      refine lB_cong (fun i _ => ?_)
      by_cases e : i = n
      · subst e; rw [hn, decide_eq_false q]; simp
      · by_cases z : i < n
        · rw [decide_eq_true z, decide_eq_true (show i < n + 1 by omega)]
        · rw [decide_eq_false z, decide_eq_false (show ¬ i < n + 1 by omega)]
theorem cs_wr48 (s : Int → Int) : lI (csN s 0 48) = lB (wrF s) := by
  rw [cs_wr s 48 (Nat.le_refl 48)]
  refine lB_cong (fun i _ => ?_)
  unfold wrF
  cases decide (i < 48) <;> simp
