/-! what the reference does, as functions of its row s -/
def Rg (s : Int → Int) : Prop := ∀ i, i ≠ 1 → 0 ≤ s i ∧ s i < 100000
abbrev untrue (s : Int → Int) (c : Int) : Prop := s (3 + c) ≠ s (51 + c)
def besd (c w : Int) : Int := if w = 0 then (if c / 8 = 0 then -1 else c - 8) else if w = 1 then (if c % 8 = 7 then -1 else c + 1) else if w = 2 then (if c / 8 = 5 then -1 else c + 8) else (if c % 8 = 0 then -1 else c - 1)
theorem besd_lt {c w : Int} (h0 : 0 ≤ c) (h1 : c < 48) : -1 ≤ besd c w ∧ besd c w < 48 := by
  unfold besd
  repeat' split
  all_goals omega
def apt (a b : Int) : Int := (if a / 8 - b / 8 < 0 then -(a / 8 - b / 8) else a / 8 - b / 8) + (if a % 8 - b % 8 < 0 then -(a % 8 - b % 8) else a % 8 - b % 8)
theorem apt_rg {a b : Int} (h0 : 0 ≤ a) (h1 : a < 48) (h2 : 0 ≤ b) (h3 : b < 48) : 0 ≤ apt a b ∧ apt a b < 13 := by
  unfold apt
  split <;> split <;> omega
def cntU (s : Int → Int) : Nat → Int
  | 0 => 0
  | n + 1 => cntU s n + (if untrue s n then 1 else 0)
theorem cntU_rg (s : Int → Int) : ∀ n : Nat, 0 ≤ cntU s n ∧ cntU s n ≤ n
  | 0 => ⟨Int.le_refl 0, Int.le_refl 0⟩
  | n + 1 => by
    have h := cntU_rg s n
    rw [cntU]
    split <;> omega
abbrev wrongMany (s : Int → Int) : Int := cntU s 48
def cntB (s : Int → Int) (c : Int) : Nat → Int
  | 0 => 0
  | n + 1 => cntB s c n + (if 0 ≤ besd c n ∧ untrue s (besd c n) then 1 else 0)
theorem cntB_rg (s : Int → Int) (c : Int) : ∀ n : Nat, 0 ≤ cntB s c n ∧ cntB s c n ≤ n
  | 0 => ⟨Int.le_refl 0, Int.le_refl 0⟩
  | n + 1 => by
    have h := cntB_rg s c n
    rw [cntB]
    split <;> omega
abbrev wrongBeside (s : Int → Int) (c : Int) : Int := cntB s c 4
theorem pn0 {D : va_G} {cl : List vw_C} {H : Heap} : va_P D cl [] H := fun k q h => by simp at h
