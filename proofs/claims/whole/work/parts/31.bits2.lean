theorem pop3_eq {d : Nat → Nat} (h : ∀ j, d j < 8) : pop3 (fldN 4 d 16) = fldN 8 (fun j => d (2 * j) + d (2 * j + 1)) 8 := by
  have h0 : d 0 < 2 ^ 4 := by have := h 0; omega
  have h1 := fldN_next (w := 4) (c := d) h0 15 (fun j => if j < 15 then d j + d (j + 1) else d j) (fun j => rfl)
  unfold pop3
  rw [show fldN 4 d 16 + fldN 4 d 16 / 16 = fldN 4 d (15 + 1) + fldN 4 d (15 + 1) / 2 ^ 4 from rfl, h1, ← mk4]
  have h2 := fldN_even (w := 4) (c := fun j => if j < 15 then d j + d (j + 1) else d j) (fun j => by
    have a := h j; have b := h (j + 1)
    split <;> omega) 8
  rw [show 15 + 1 = 2 * 8 from rfl, h2]
  exact fldN_cong 8 (fun j hj => by rw [if_pos (by omega)])
theorem pop_end {a b c d e f g h : Nat} (ha : a ≤ 8) (hb : b ≤ 8) (hc : c ≤ 8) (hd : d ≤ 8) (he : e ≤ 8) (hf : f ≤ 8) (hg : g ≤ 8) (hh : h ≤ 8) :
    pop6 (pop5 (pop4 (a + b * 256 + c * 65536 + d * 16777216 + e * 4294967296 + f * 1099511627776 + g * 281474976710656 + h * 72057594037927936))) % 128 = a + b + c + d + e + f + g + h := by
  have e4 : pop4 (a + b * 256 + c * 65536 + d * 16777216 + e * 4294967296 + f * 1099511627776 + g * 281474976710656 + h * 72057594037927936) = (a + b) + (b + c) * 256 + (c + d) * 65536 + (d + e) * 16777216 + (e + f) * 4294967296 + (f + g) * 1099511627776 + (g + h) * 281474976710656 + h * 72057594037927936 := by unfold pop4; omega
  rw [e4]
  have e5 : pop5 ((a + b) + (b + c) * 256 + (c + d) * 65536 + (d + e) * 16777216 + (e + f) * 4294967296 + (f + g) * 1099511627776 + (g + h) * 281474976710656 + h * 72057594037927936) = (a + b + c + d) + (b + c + d + e) * 256 + (c + d + e + f) * 65536 + (d + e + f + g) * 16777216 + (e + f + g + h) * 4294967296 + (f + g + h) * 1099511627776 + (g + h) * 281474976710656 + h * 72057594037927936 := by unfold pop5; omega
  rw [e5]
  have e6 : pop6 ((a + b + c + d) + (b + c + d + e) * 256 + (c + d + e + f) * 65536 + (d + e + f + g) * 16777216 + (e + f + g + h) * 4294967296 + (f + g + h) * 1099511627776 + (g + h) * 281474976710656 + h * 72057594037927936) = (a + b + c + d + e + f + g + h) + 256 * ((b + c + d + e + f + g + h) + (c + d + e + f + g + h) * 256 + (d + e + f + g + h) * 65536 + (e + f + g + h) * 16777216 + (f + g + h) * 4294967296 + (g + h) * 1099511627776 + h * 281474976710656) := by unfold pop6; omega
  rw [e6]
  generalize (b + c + d + e + f + g + h) + (c + d + e + f + g + h) * 256 + (d + e + f + g + h) * 65536 + (e + f + g + h) * 16777216 + (f + g + h) * 4294967296 + (g + h) * 1099511627776 + h * 281474976710656 = K
  omega
theorem pop_all {x : Nat} (hx : x < 2 ^ 64) : popN x = smN (btN x) 64 := by
  unfold popN
  have hb : ∀ j, btN x j < 2 := btN_lt x
  rw [pop1_eq hx, pop2_eq (fun j => by have := hb (2 * j); have := hb (2 * j + 1); omega), pop3_eq (fun j => by
    have := hb (2 * (2 * j)); have := hb (2 * (2 * j) + 1); have := hb (2 * (2 * j + 1)); have := hb (2 * (2 * j + 1) + 1); omega)]
  have s1 := smN_two (btN x) 32
  have s2 := smN_two (fun j => btN x (2 * j) + btN x (2 * j + 1)) 16
  have s3 := smN_two (fun j => (btN x (2 * (2 * j)) + btN x (2 * (2 * j) + 1)) + (btN x (2 * (2 * j + 1)) + btN x (2 * (2 * j + 1) + 1))) 8
  rw [show 2 * 32 = 64 from rfl] at s1
  rw [show 2 * 16 = 32 from rfl] at s2
  rw [show 2 * 8 = 16 from rfl] at s3
  rw [s1, s2, s3]
  generalize hg : (fun j => (btN x (2 * (2 * (2 * j))) + btN x (2 * (2 * (2 * j)) + 1)) + (btN x (2 * (2 * (2 * j) + 1)) + btN x (2 * (2 * (2 * j) + 1) + 1)) + ((btN x (2 * (2 * (2 * j + 1))) + btN x (2 * (2 * (2 * j + 1)) + 1)) + (btN x (2 * (2 * (2 * j + 1) + 1)) + btN x (2 * (2 * (2 * j + 1) + 1) + 1)))) = G
  have hG : ∀ j, G j ≤ 8 := by
    intro j
    rw [← hg]
    have := hb (2 * (2 * (2 * j))); have := hb (2 * (2 * (2 * j)) + 1); have := hb (2 * (2 * (2 * j) + 1)); have := hb (2 * (2 * (2 * j) + 1) + 1)
    have := hb (2 * (2 * (2 * j + 1))); have := hb (2 * (2 * (2 * j + 1)) + 1); have := hb (2 * (2 * (2 * j + 1) + 1)); have := hb (2 * (2 * (2 * j + 1) + 1) + 1)
    dsimp only
    omega
  have e := pop_end (hG 0) (hG 1) (hG 2) (hG 3) (hG 4) (hG 5) (hG 6) (hG 7)
  have e2 : fldN 8 G 8 = G 0 + G 1 * 256 + G 2 * 65536 + G 3 * 16777216 + G 4 * 4294967296 + G 5 * 1099511627776 + G 6 * 281474976710656 + G 7 * 72057594037927936 := by
    simp only [fldN]
    omega
  rw [e2, e]
  simp only [smN]
  omega
