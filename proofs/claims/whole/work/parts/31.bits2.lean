theorem pop3_eq {d : Nat → Nat} (h : ∀ j, d j < 8) : pop3 (fldN 4 d 16) = fldN 8 (fun j => d (2 * j) + d (2 * j + 1)) 8 := by
  have h0 : d 0 < 2 ^ 4 := by have := h 0; omega
  have h1 := fldN_next (w := 4) (c := d) h0 15 (fun j => if j < 15 then d j + d (j + 1) else d j) (fun j => rfl)
  unfold pop3
  rw [show fldN 4 d 16 + fldN 4 d 16 / 16 = fldN 4 d (15 + 1) + fldN 4 d (15 + 1) / 2 ^ 4 from rfl, h1, ← mk4]
  have h2 := fldN_even (w := 4) (c := fun j => if j < 15 then d j + d (j + 1) else d j) (fun j => by
    have a := h j; have b := h (j + 1)
    split <;> omega) 8
  rw [show 15 + 1 = 2 * 8 from rfl, h2]
  exact fldN_cong 8 (fun j hj => by rw [if_pos (by omega)])
def prN (c : Nat → Nat) : Nat → Nat := fun j => c (2 * j) + c (2 * j + 1)
theorem prN_lt {c : Nat → Nat} {b : Nat} (h : ∀ j, c j ≤ b) (j : Nat) : prN c j ≤ 2 * b := by
  have h1 := h (2 * j)
  have h2 := h (2 * j + 1)
  show c (2 * j) + c (2 * j + 1) ≤ 2 * b
  omega
theorem dv8 {a y : Nat} (h : a < 256) : (a + 256 * y) / 256 = y := by omega
theorem pop4_eq {a b c d e f g h : Nat} (ha : a < 256) : pop4 (a + 256 * (b + 256 * (c + 256 * (d + 256 * (e + 256 * (f + 256 * (g + 256 * h))))))) = (a + b) + 256 * ((b + c) + 256 * ((c + d) + 256 * ((d + e) + 256 * ((e + f) + 256 * ((f + g) + 256 * ((g + h) + 256 * h)))))) := by
  unfold pop4
  rw [dv8 ha]
  clear ha
  omega
theorem pop5_eq {a b c d e f g h : Nat} (ha : a < 256) (hb : b < 256) : pop5 (a + 256 * (b + 256 * (c + 256 * (d + 256 * (e + 256 * (f + 256 * (g + 256 * h))))))) = (a + c) + 256 * ((b + d) + 256 * ((c + e) + 256 * ((d + f) + 256 * ((e + g) + 256 * ((f + h) + 256 * (g + 256 * h)))))) := by
  unfold pop5
  rw [show (65536 : Nat) = 256 * 256 from rfl, ← Nat.div_div_eq_div_mul, dv8 ha, dv8 hb]
  clear ha hb
  omega
theorem pop6_eq {a b c d y : Nat} (ha : a < 256) (hb : b < 256) (hc : c < 256) (hd : d < 256) : pop6 (a + 256 * (b + 256 * (c + 256 * (d + 256 * y)))) = (a + y) + 256 * (b + 256 * (c + 256 * (d + 256 * y))) := by
  unfold pop6
  rw [show (4294967296 : Nat) = 256 * 256 * 256 * 256 from rfl, ← Nat.div_div_eq_div_mul, ← Nat.div_div_eq_div_mul, ← Nat.div_div_eq_div_mul, dv8 ha, dv8 hb, dv8 hc, dv8 hd]
  clear ha hb hc hd
  omega
theorem md128 {s k : Nat} (h : s < 128) : (s + 256 * k) % 128 = s := by omega
theorem fld8 (G : Nat → Nat) : fldN 8 G 8 = G 0 + 256 * (G 1 + 256 * (G 2 + 256 * (G 3 + 256 * (G 4 + 256 * (G 5 + 256 * (G 6 + 256 * G 7)))))) := by
  rw [fldN_succ, fldN_succ, fldN_succ, fldN_succ, fldN_succ, fldN_succ, fldN_succ, fldN_succ, fldN]
  rfl
theorem sm8 (G : Nat → Nat) : smN G 8 = ((((((G 0 + G 1) + G 2) + G 3) + G 4) + G 5) + G 6) + G 7 := by
  rw [smN, smN, smN, smN, smN, smN, smN, smN, smN, Nat.zero_add]
theorem pop_8 {G : Nat → Nat} (hG : ∀ j, G j ≤ 8) : pop6 (pop5 (pop4 (fldN 8 G 8))) % 128 = smN G 8 := by
  have h0 := hG 0; have h1 := hG 1; have h2 := hG 2; have h3 := hG 3; have h4 := hG 4; have h5 := hG 5; have h6 := hG 6; have h7 := hG 7
  rw [fld8, sm8]
  generalize G 0 = a at *; generalize G 1 = b at *; generalize G 2 = c at *; generalize G 3 = d at *; generalize G 4 = e at *; generalize G 5 = f at *; generalize G 6 = g at *; generalize G 7 = h at *
  rw [pop4_eq (by omega), pop5_eq (by omega) (by omega), pop6_eq (by omega) (by omega) (by omega) (by omega)]
  rw [show a + b + (c + d) + (e + f + (g + h) + 256 * (f + g + h + 256 * (g + h + 256 * h))) = (a + b + c + d + e + f + g + h) + 256 * (f + g + h + 256 * (g + h + 256 * h)) by omega, Nat.add_assoc, ← Nat.mul_add]
  exact md128 (by omega)
theorem pop_all {x : Nat} (hx : x < 2 ^ 64) : popN x = smN (btN x) 64 := by
  have hb : ∀ j, btN x j ≤ 1 := fun j => Nat.le_of_lt_succ (btN_lt x j)
  have h1 : ∀ j, prN (btN x) j ≤ 2 := prN_lt hb
  have h2 : ∀ j, prN (prN (btN x)) j ≤ 4 := prN_lt h1
  have h3 : ∀ j, prN (prN (prN (btN x))) j ≤ 8 := prN_lt h2
  have s1 : smN (btN x) 64 = smN (prN (btN x)) 32 := smN_two (btN x) 32
  have s2 : smN (prN (btN x)) 32 = smN (prN (prN (btN x))) 16 := smN_two _ 16
  have s3 : smN (prN (prN (btN x))) 16 = smN (prN (prN (prN (btN x)))) 8 := smN_two _ 8
  have e1 : pop1 x = fldN 2 (prN (btN x)) 32 := pop1_eq hx
  have e2 : pop2 (fldN 2 (prN (btN x)) 32) = fldN 4 (prN (prN (btN x))) 16 := pop2_eq (fun j => by have := h1 j; omega)
  have e3 : pop3 (fldN 4 (prN (prN (btN x))) 16) = fldN 8 (prN (prN (prN (btN x)))) 8 := pop3_eq (fun j => by have := h2 j; omega)
  unfold popN
  rw [e1, e2, e3, s1, s2, s3]
  exact pop_8 h3
