/-! the row's invariant, costs, mending, years -/
def Ok (s : Int → Int) : Prop := (∀ i, i ≠ 1 → 0 ≤ s i ∧ s i < 100000) ∧ (∀ i, i < 0 ∨ 123 ≤ i → s i = 0) ∧ s 0 ≤ 6 ∧ ∀ m, 0 ≤ m → m < 6 → s (99 + 4 * m + 1) < 48
theorem Ok.rg {s : Int → Int} (h : Ok s) : Rg s := h.1
theorem ok_up {s : Int → Int} (h : Ok s) {z v : Int} (hz : 0 ≤ z ∧ z < 123) (hv : 0 ≤ v ∧ v < 100000) (h0 : z = 0 → v ≤ 6) (ha : ∀ m, 0 ≤ m → m < 6 → 99 + 4 * m + 1 = z → v < 48) : Ok (up s z v) := by
  refine ⟨fun i hi => ?_, fun i hi => ?_, ?_, fun m h1 h2 => ?_⟩
  · by_cases e : i = z
    · subst e; rw [up_s]; exact hv
    · rw [up_n e]; exact h.1 i hi
  · rw [up_n (by omega)]; exact h.2.1 i hi
  · by_cases e : 0 = z
    · subst e; rw [up_s]; exact h0 rfl
    · rw [up_n e]; exact h.2.2.1
  · by_cases e : 99 + 4 * m + 1 = z
    · rw [e, up_s]; exact ha m h1 h2 e
    · rw [up_n e]; exact h.2.2.2 m h1 h2
theorem ok_year {s : Int → Int} (h : Ok s) (v : Int) : Ok (up s 1 v) := by
  refine ⟨fun i hi => ?_, fun i hi => ?_, ?_, fun m h1 h2 => ?_⟩
  · rw [up_n hi]; exact h.1 i hi
  · rw [up_n (by omega)]; exact h.2.1 i hi
  · rw [up_n (by omega)]; exact h.2.2.1
  · rw [up_n (by omega)]; exact h.2.2.2 m h1 h2
def atl (v : Int) : Int := if v < 1 then 1 else v
def plainC (s : Int → Int) (c : Int) : Int := 3 * (if s (3 + c) < s (51 + c) then s (51 + c) - s (3 + c) else s (3 + c) - s (51 + c)) + 2
def dugC (s : Int → Int) (c : Int) : Int := if s (3 + c) = 1 ∨ s (51 + c) = 1 then plainC s c / 2 else plainC s c
def cost (s : Int → Int) (m c : Int) : Int :=
  if s (99 + 4 * m + 0) = 1 then dugC s c else if s (99 + 4 * m + 0) = 2 then plainC s c + wrongBeside s c else if s (99 + 4 * m + 0) = 3 then 2 * (4 + wrongBeside s c)
  else if s (99 + 4 * m + 0) = 4 then (if s (3 + c) = 3 ∨ s (51 + c) = 3 then atl (dugC s c - 5) else dugC s c)
  else if s (99 + 4 * m + 0) = 5 then atl (plainC s c + wrongBeside s c - s (99 + 4 * m + 2) / 10) else plainC s c
theorem plainC_rg {s : Int → Int} (hs : Ok s) {c : Int} (h0 : 0 ≤ c) : 2 ≤ plainC s c ∧ plainC s c ≤ 299999 := by
  have h1 := hs.1 (3 + c) (by omega); have h2 := hs.1 (51 + c) (by omega)
  unfold plainC
  split <;> omega
theorem dugC_rg {s : Int → Int} (hs : Ok s) {c : Int} (h0 : 0 ≤ c) : 1 ≤ dugC s c ∧ dugC s c ≤ 299999 := by
  have h := plainC_rg hs h0
  unfold dugC
  split <;> omega
theorem cost_rg {s : Int → Int} (hs : Ok s) {m c : Int} (h0 : 0 ≤ c) (hm : 0 ≤ m) : 1 ≤ cost s m c ∧ cost s m c ≤ 300003 := by
  have h1 := plainC_rg hs h0; have h2 := dugC_rg hs h0; have h3 := cntB_rg s c 4; have h4 := hs.1 (99 + 4 * m + 2) (by omega)
  unfold cost atl wrongBeside
  repeat' split
  all_goals omega
def gfv (s : Int → Int) (m c : Int) : Int := if ¬ untrue s c then 0 else if s (99 + 4 * m + 0) = 5 then cost s m c else 100 - apt (s (99 + 4 * m + 1)) c
def gf (s : Int → Int) (m : Int) : Nat → Int × Int
  | 0 => (-1, 0)
  | n + 1 => if gfv s m n ≤ (gf s m n).2 then gf s m n else ((n : Int), gfv s m n)
theorem gfv_rg {s : Int → Int} (hs : Ok s) {m c : Int} (h0 : 0 ≤ c) (h1 : c < 48) (hm : 0 ≤ m) (hm1 : m < 6) : 0 ≤ gfv s m c ∧ gfv s m c ≤ 300003 := by
  have h3 := cost_rg hs h0 hm; have h4 := hs.1 (99 + 4 * m + 1) (by omega); have h5 := apt_rg h4.1 (hs.2.2.2 m hm hm1) h0 h1
  unfold gfv
  repeat' split
  all_goals omega
theorem gf_rg {s : Int → Int} (hs : Ok s) {m : Int} (hm : 0 ≤ m) (hm1 : m < 6) : ∀ n : Nat, n ≤ 48 → (-1 ≤ (gf s m n).1 ∧ (gf s m n).1 < 48) ∧ 0 ≤ (gf s m n).2 ∧ (gf s m n).2 ≤ 300003
  | 0, _ => by rw [gf]; exact ⟨⟨by decide, by decide⟩, by decide, by decide⟩
  | n + 1, h => by
    have ih := gf_rg hs hm hm1 n (by omega)
    have h1 := gfv_rg hs (m := m) (c := n) (by omega) (by omega) hm hm1
    rw [gf]
    split
    · exact ih
    · exact ⟨⟨by dsimp only; omega, by dsimp only; omega⟩, h1⟩
abbrev goesFor (s : Int → Int) (m : Int) : Int := (gf s m 48).1
def mst (s : Int → Int) (m c : Int) : Int → Int := up (up s (99 + 4 * m + 1) c) (3 + c) ((up s (99 + 4 * m + 1) c) (51 + c))
def mstep (t : Int → Int) (c w : Int) : Int → Int :=
  if ¬ besd c w < 0 ∧ (if ¬ besd c w < 0 ∧ t (3 + c) = 1 ∧ t (3 + besd c w) = 5 then up t (3 + besd c w) 0 else t) (3 + c) = 3 ∧ (if ¬ besd c w < 0 ∧ t (3 + c) = 1 ∧ t (3 + besd c w) = 5 then up t (3 + besd c w) 0 else t) (3 + besd c w) = 0
  then up (if ¬ besd c w < 0 ∧ t (3 + c) = 1 ∧ t (3 + besd c w) = 5 then up t (3 + besd c w) 0 else t) (3 + besd c w) 5
  else (if ¬ besd c w < 0 ∧ t (3 + c) = 1 ∧ t (3 + besd c w) = 5 then up t (3 + besd c w) 0 else t)
def mlp (t : Int → Int) (c : Int) : Nat → Int → Int
  | 0 => t
  | n + 1 => mstep (mlp t c n) c n
def mends (s : Int → Int) (m c : Int) : Int → Int :=
  if (up s (99 + 4 * m + 1) c) (99 + 4 * m + 0) = 3 then up (up s (99 + 4 * m + 1) c) (51 + c) ((up s (99 + 4 * m + 1) c) (3 + c)) else mlp (mst s m c) c 4
theorem ok_at {s : Int → Int} (hs : Ok s) {m c : Int} (hc : 0 ≤ c) (hc1 : c < 48) (hm : 0 ≤ m) (hm1 : m < 6) : Ok (up s (99 + 4 * m + 1) c) := ok_up hs ⟨by omega, by omega⟩ ⟨by omega, by omega⟩ (fun _ => by omega) (fun _ _ _ _ => by omega)
theorem ok_mst {s : Int → Int} (hs : Ok s) {m c : Int} (hc : 0 ≤ c) (hc1 : c < 48) (hm : 0 ≤ m) (hm1 : m < 6) : Ok (mst s m c) := ok_up (ok_at hs hc hc1 hm hm1) ⟨by omega, by omega⟩ ((ok_at hs hc hc1 hm hm1).1 _ (by omega)) (fun _ => by omega) (fun _ _ _ _ => by omega)
theorem ok_land {s : Int → Int} (hs : Ok s) {o v : Int} (h0 : ¬ o < 0) (h1 : o < 48) (hv : 0 ≤ v) (hv1 : v < 100000) : Ok (up s (3 + o) v) := ok_up hs ⟨by omega, by omega⟩ ⟨by omega, by omega⟩ (fun _ => by omega) (fun _ _ _ _ => by omega)
theorem ok_mstep {t : Int → Int} (hs : Ok t) {c w : Int} (hc : 0 ≤ c) (hc1 : c < 48) : Ok (mstep t c w) := by
  have hb := besd_lt (w := w) hc hc1
  have h1 : Ok (if ¬ besd c w < 0 ∧ t (3 + c) = 1 ∧ t (3 + besd c w) = 5 then up t (3 + besd c w) 0 else t) := by
    split
    · next h => exact ok_land hs h.1 hb.2 (by decide) (by decide)
    · exact hs
  unfold mstep
  generalize (if ¬ besd c w < 0 ∧ t (3 + c) = 1 ∧ t (3 + besd c w) = 5 then up t (3 + besd c w) 0 else t) = u at h1 ⊢
  split
  · next h => exact ok_land h1 h.1 hb.2 (by decide) (by decide)
  · exact h1
theorem ok_mlp {t : Int → Int} (hs : Ok t) {c : Int} (hc : 0 ≤ c) (hc1 : c < 48) : ∀ n : Nat, Ok (mlp t c n)
  | 0 => hs
  | n + 1 => ok_mstep (ok_mlp hs hc hc1 n) hc hc1
theorem ok_mends {s : Int → Int} (hs : Ok s) {m c : Int} (hc : 0 ≤ c) (hc1 : c < 48) (hm : 0 ≤ m) (hm1 : m < 6) : Ok (mends s m c) := by
  unfold mends
  split
  · exact ok_up (ok_at hs hc hc1 hm hm1) ⟨by omega, by omega⟩ ((ok_at hs hc hc1 hm hm1).1 _ (by omega)) (fun _ => by omega) (fun _ _ _ _ => by omega)
  · exact ok_mlp (ok_mst hs hc hc1 hm hm1) hc hc1 4
def pay2 (s : Int → Int) (m c : Int) : Int → Int := up (up s (99 + 4 * m + 2) (s (99 + 4 * m + 2) - cost s m c)) (99 + 4 * m + 3) (if s (99 + 4 * m + 3) + cost s m c ≤ 99999 then s (99 + 4 * m + 3) + cost s m c else 99999)
def payS (s : Int → Int) (m c : Int) : Int → Int := if cost s m c ≤ s (99 + 4 * m + 2) then mends (pay2 s m c) m c else s
theorem ok_pay1 {s : Int → Int} (hs : Ok s) {m c : Int} (hc : 0 ≤ c) (hm : 0 ≤ m) (hm1 : m < 6) (h : ¬ s (99 + 4 * m + 2) < cost s m c) : Ok (up s (99 + 4 * m + 2) (s (99 + 4 * m + 2) - cost s m c)) := by
  have h1 := hs.1 (99 + 4 * m + 2) (by omega); have h3 := cost_rg hs (m := m) hc hm
  exact ok_up hs ⟨by omega, by omega⟩ ⟨by omega, by omega⟩ (fun _ => by omega) (fun _ _ _ _ => by omega)
theorem ok_pay2 {s : Int → Int} (hs : Ok s) {m c : Int} (hc : 0 ≤ c) (hm : 0 ≤ m) (hm1 : m < 6) (h : ¬ s (99 + 4 * m + 2) < cost s m c) : Ok (pay2 s m c) := by
  have h1 := hs.1 (99 + 4 * m + 2) (by omega); have h2 := hs.1 (99 + 4 * m + 3) (by omega); have h3 := cost_rg hs (m := m) hc hm
  exact ok_up (ok_pay1 hs hc hm hm1 h) ⟨by omega, by omega⟩ (by split <;> omega) (fun _ => by omega) (fun _ _ _ _ => by omega)
theorem ok_payS {s : Int → Int} (hs : Ok s) {m c : Int} (hc : 0 ≤ c) (hc1 : c < 48) (hm : 0 ≤ m) (hm1 : m < 6) : Ok (payS s m c) := by
  unfold payS
  split
  · next h => exact ok_mends (ok_pay2 hs hc hm hm1 (Int.not_lt.mpr h)) hc hc1 hm hm1
  · exact hs
def yrG (t : Int → Int) (m : Int) : Int → Int := up t (99 + 4 * m + 2) (if t (99 + 4 * m + 2) + t 2 ≤ 9999 then t (99 + 4 * m + 2) + t 2 else 9999)
def yrM (s : Int → Int) (dl m : Int) : Int → Int := if m = dl then s else if goesFor s m < 0 then s else yrG (payS s m (goesFor s m)) m
def yrL (s : Int → Int) (dl : Int) : Nat → Int → Int
  | 0 => s
  | n + 1 => yrM (yrL s dl n) dl n
def year (s : Int → Int) (dl : Int) : Int → Int := up (yrL s dl (s 0).toNat) 1 ((yrL s dl (s 0).toNat) 1 + 1)
def ysN (s : Int → Int) (dl : Int) : Nat → Int → Int
  | 0 => s
  | n + 1 => year (ysN s dl n) dl
theorem ok_yrG {t : Int → Int} (hs : Ok t) {m : Int} (hm : 0 ≤ m) (hm1 : m < 6) : Ok (yrG t m) := by
  have h1 := hs.1 (99 + 4 * m + 2) (by omega); have h2 := hs.1 2 (by omega)
  exact ok_up hs ⟨by omega, by omega⟩ (by split <;> omega) (fun _ => by omega) (fun _ _ _ _ => by omega)
theorem ok_yrM {s : Int → Int} (hs : Ok s) {dl m : Int} (hm : 0 ≤ m) (hm1 : m < 6) : Ok (yrM s dl m) := by
  have h := gf_rg hs hm hm1 48 (Nat.le_refl 48)
  unfold yrM
  split
  · exact hs
  · split
    · exact hs
    · next h2 => exact ok_yrG (ok_payS hs (Int.not_lt.mp h2) h.1.2 hm hm1) hm hm1
theorem ok_yrL {s : Int → Int} (hs : Ok s) (dl : Int) : ∀ n : Nat, n ≤ 6 → Ok (yrL s dl n)
  | 0, _ => hs
  | n + 1, h => ok_yrM (ok_yrL hs dl n (by omega)) (by omega) (by omega)
theorem mstep_lo {t : Int → Int} {c w i : Int} (hi : i < 3) : mstep t c w i = t i := by
  unfold mstep
  have h1 : (if ¬ besd c w < 0 ∧ t (3 + c) = 1 ∧ t (3 + besd c w) = 5 then up t (3 + besd c w) 0 else t) i = t i := by
    split
    · next h => rw [up_n (by omega)]
    · rfl
  generalize (if ¬ besd c w < 0 ∧ t (3 + c) = 1 ∧ t (3 + besd c w) = 5 then up t (3 + besd c w) 0 else t) = u at h1 ⊢
  split
  · next h => rw [up_n (by omega), h1]
  · exact h1
theorem mlp_lo {t : Int → Int} {c i : Int} (hi : i < 3) : ∀ n : Nat, mlp t c n i = t i
  | 0 => rfl
  | n + 1 => by rw [mlp, mstep_lo hi, mlp_lo hi n]
theorem mends_lo {s : Int → Int} {m c i : Int} (hc : 0 ≤ c) (hm : 0 ≤ m) (hi : i < 3) : mends s m c i = s i := by
  unfold mends
  split
  · rw [up_n (by omega), up_n (by omega)]
  · rw [mlp_lo hi, mst, up_n (by omega), up_n (by omega)]
theorem payS_lo {s : Int → Int} {m c i : Int} (hc : 0 ≤ c) (hm : 0 ≤ m) (hi : i < 3) : payS s m c i = s i := by
  unfold payS
  split
  · rw [mends_lo hc hm hi, pay2, up_n (by omega), up_n (by omega)]
  · rfl
theorem yrM_lo {s : Int → Int} {dl m i : Int} (hm : 0 ≤ m) (hi : i < 3) : yrM s dl m i = s i := by
  unfold yrM
  split
  · rfl
  · split
    · rfl
    · rw [yrG, up_n (by omega), payS_lo (by omega) hm hi]
theorem yrL_lo {s : Int → Int} {dl i : Int} (hi : i < 3) : ∀ n : Nat, yrL s dl n i = s i
  | 0 => rfl
  | n + 1 => by rw [yrL, yrM_lo (by omega) hi, yrL_lo hi n]
theorem ok_yearS {s : Int → Int} (hs : Ok s) (dl : Int) : Ok (year s dl) := ok_year (ok_yrL hs dl _ (by have h := hs.2.2.1; have := hs.1 0 (by decide); omega)) _
theorem ok_ysN {s : Int → Int} (hs : Ok s) (dl : Int) : ∀ n : Nat, Ok (ysN s dl n)
  | 0 => hs
  | n + 1 => ok_yearS (ok_ysN hs dl n) dl
/-- the first n places of f, the rest of g -/
def cpN (f g : Int → Int) (n : Nat) : Int → Int := fun i => if 0 ≤ i ∧ i < n then f i else g i
theorem cpN_0 (f g : Int → Int) : cpN f g 0 = g := by
  funext i
  unfold cpN
  rw [if_neg (by omega)]
theorem cpN_s (f g : Int → Int) (n : Nat) : up (cpN f g n) n (f n) = cpN f g (n + 1) := by
  funext i
  unfold up cpN
  by_cases h : i = n
  · subst h; rw [if_pos rfl, if_pos (by omega)]
  · rw [if_neg h]
    by_cases h1 : 0 ≤ i ∧ i < n
    · rw [if_pos h1, if_pos (by omega)]
    · rw [if_neg h1, if_neg (by omega)]
def Zr (s : Int → Int) : Prop := ∀ i, i < 0 ∨ 123 ≤ i → s i = 0
theorem cpN_all {f g : Int → Int} (hf : Zr f) (hg : Zr g) : cpN f g 123 = f := by
  funext i
  unfold cpN
  by_cases h1 : 0 ≤ i ∧ i < (123 : Nat)
  · rw [if_pos h1]
  · rw [if_neg h1, hf i (by omega), hg i (by omega)]
