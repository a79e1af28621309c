section LAWL
variable {p : Program} {l : Launch} {e : Env} {s₀ : State} {m : MethodId} {below : List Frame} {meth : Method} {cd : Code} {b L : Nat} {xs : Nat → Int32} {Z : SZ} {D : va_G} {k : Nat → ClassId} {a d : Nat → Nat}
set_option maxRecDepth 100000 in
set_option maxHeartbeats 1000000 in
theorem lw_loop (hE : lw_E p s₀ m meth cd b L xs Z D k) : ∀ (n i : Nat), i ≤ L → L < i + 6 * n + 6 → ∀ (r t kq kp ot sd st sp tp bi si : Int → Int) (nu mo : Int → Int64) (tw : Int64) (y ty ky ta tk sa en nm ik tl fr to va iw : Int) (H : Heap) (locs : List Loc) (ls : Array Slot), lw_W Z.1 D (wT a k r (lB (wrF r)) y t tw ty kq (lB (wrF kq)) ky tp ta tk sa en nm bi si nu st ik) (wM d k r kp ot sd st sp tp bi si nu mo ik (-1) tl ta fr to va iw) s₀.heap H locs → lw_I r kq kp tp bi si y ky ta nm ik va → lv_has ls 4 [(3, .int (iI (i : Int))), (2, .ref (d 0)), (1, .ref (a 0)), (0, .ref b)] → W p l e room_1 s₀ m #[Value.ref b] below meth cd H locs 600000 7302250 (lw_Z below #[Value.ref b] s₀) (F0 m 18 ls []) := by
  intro n
  induction n with
  | zero =>
    intro i hiL hn r t kq kp ot sd st sp tp bi si nu mo tw y ty ky ta tk sa en nm ik tl fr to va iw H locs ls hW hI hl
    obtain ⟨C, hX, hbl, hZ, hSV, hL⟩ := id hE
    have hbA : ¬ (fun q : Nat => Z.1 ≤ q) b := by show ¬ Z.1 ≤ b; rw [hZ]; exact Nat.not_le.mpr hbl
    have hS := hW.2.2.2.2.2
    refine r_iload_n (pc := 18) C dL_law_18 rfl (lv_at hl 0 rfl) ?_
    refine r_aload_n (pc := 19) C dL_law_19 rfl (lv_at hl 3 rfl) ?_
    refine va_slen (pc := 20) C.1.1 C.1.2.1 hX hbl hbA hS dL_law_20 ?_
    rw [show Int32.ofNat L = iI (L : Int) from (iI_nat L).symm]
    refine r_bipush (pc := 21) C dL_law_21 (by decide) ?_
    refine r_isub (pc := 23) C dL_law_23 ?_
    refine r_icmp_gt (pc := 24) C (tgt := 1349) dL_law_24 (by decide) ⟨by omega, by omega⟩ ⟨by omega, by omega⟩ (fun h => ?_) (fun h => absurd h (by omega))
    refine lv_iconst (v := 1) (pc := 1349) C.1.1 C.1.2.1 dL_law_1349 (by decide) ?_
    refine va_forget (fun q hq => by have h1 : Z.1 ≤ q.base := hS.2.2 q hq; rw [hZ] at h1; exact h1) ?_
    exact lw_ret C.1.1 C.1.2.1 C.2.2.1 C.2.2.2 dL_law_1350
  | succ n ih =>
    intro i hiL hn r t kq kp ot sd st sp tp bi si nu mo tw y ty ky ta tk sa en nm ik tl fr to va iw H locs ls hW hI hl
    obtain ⟨C, hX, hbl, hZ, hSV, hL⟩ := id hE
    have hbA : ¬ (fun q : Nat => Z.1 ≤ q) b := by show ¬ Z.1 ≤ b; rw [hZ]; exact Nat.not_le.mpr hbl
    have hS := hW.2.2.2.2.2
    refine r_iload_n (pc := 18) C dL_law_18 rfl (lv_at hl 0 rfl) ?_
    refine r_aload_n (pc := 19) C dL_law_19 rfl (lv_at hl 3 rfl) ?_
    refine va_slen (pc := 20) C.1.1 C.1.2.1 hX hbl hbA hS dL_law_20 ?_
    rw [show Int32.ofNat L = iI (L : Int) from (iI_nat L).symm]
    refine r_bipush (pc := 21) C dL_law_21 (by decide) ?_
    refine r_isub (pc := 23) C dL_law_23 ?_
    refine r_icmp_gt (pc := 24) C (tgt := 1349) dL_law_24 (by decide) ⟨by omega, by omega⟩ ⟨by omega, by omega⟩ (fun h => ?_) (fun h => ?_)
    · refine lv_iconst (v := 1) (pc := 1349) C.1.1 C.1.2.1 dL_law_1349 (by decide) ?_
      refine va_forget (fun q hq => by have h1 : Z.1 ≤ q.base := hS.2.2 q hq; rw [hZ] at h1; exact h1) ?_
      exact lw_ret C.1.1 C.1.2.1 C.2.2.1 C.2.2.2 dL_law_1350
    have hi : i + 6 ≤ L := by omega
    have kk : lw_K 1343 p l e s₀ m b below meth cd Z D k a d ls (lw_Z below #[Value.ref b] s₀) := fun r t kq kp ot sd st sp tp bi si nu mo tw y ty ky ta tk sa en nm ik tl fr to va iw H locs hW hI => by
      refine r_iinc (pc := 1343) C 0 [(3, .int (iI ((i : Int) + 6))), (2, .ref (d 0)), (1, .ref (a 0)), (0, .ref b)] dL_law_1343 hl rfl (by decide) rfl (fun ls hl => ?_)
      rw [show ((i : Int) + 6) = ((i + 6 : Nat) : Int) by omega] at hl
      refine r_goto (pc := 1346) C (tgt := 18) dL_law_1346 (by decide) ?_
      exact ih (i + 6) hi (by omega) _ _ _ _ _ _ _ _ _ _ _ _ _ _ _ _ _ _ _ _ _ _ _ _ _ _ _ _ _ _ ls hW hI hl
    refine r_aload_n (pc := 27) C dL_law_27 rfl (lv_at hl 3 rfl) ?_
    refine r_iload_n (pc := 28) C dL_law_28 rfl (lv_at hl 0 rfl) ?_
    refine va_sld (pc := 29) C.1.1 C.1.2.1 hX hbl hbA hS (iI_ix (z := (i : Int)) (n := L) (by omega) (by omega) (by omega)) dL_law_29 ?_
    refine r_bipush (pc := 30) C dL_law_30 (by decide) ?_
    refine r_and63 (pc := 32) C dL_law_32 (fun z h0 h64 => ?_)
    rcases (show z = 0 ∨ z = 1 ∨ z = 2 ∨ z = 3 ∨ z = 4 ∨ z = 5 ∨ z = 6 ∨ z = 7 ∨ z = 8 ∨ z = 9 ∨ z = 10 ∨ z = 11 ∨ z = 12 ∨ z = 13 ∨ z = 14 ∨ z = 15 ∨ z = 16 ∨ z = 17 ∨ z = 18 ∨ z = 19 ∨ z = 20 ∨ z = 21 ∨ z = 22 ∨ z = 23 ∨ z = 24 ∨ z = 25 ∨ z = 26 ∨ z = 27 ∨ z = 28 ∨ z = 29 ∨ z = 30 ∨ z = 31 ∨ z = 32 ∨ z = 33 ∨ z = 34 ∨ z = 35 ∨ z = 36 ∨ z = 37 ∨ z = 38 ∨ 38 < z by omega) with h | h | h | h | h | h | h | h | h | h | h | h | h | h | h | h | h | h | h | h | h | h | h | h | h | h | h | h | h | h | h | h | h | h | h | h | h | h | h | h
    · exact r_tableIn (pc := 33) C 0 h dL_law_33 (off := 171) (tgt := 204) (by decide) (by decide) (by decide +kernel) (by decide) (lw_c0 hE hi hl hW hI kk)
    · exact r_tableIn (pc := 33) C 1 h dL_law_33 (off := 214) (tgt := 247) (by decide) (by decide) (by decide +kernel) (by decide) (lw_c1 hE hi hl hW hI kk)
    · exact r_tableIn (pc := 33) C 2 h dL_law_33 (off := 247) (tgt := 280) (by decide) (by decide) (by decide +kernel) (by decide) (lw_c2 hE hi hl hW hI kk)
    · exact r_tableIn (pc := 33) C 3 h dL_law_33 (off := 271) (tgt := 304) (by decide) (by decide) (by decide +kernel) (by decide) (lw_c3 hE hi hl hW hI kk)
    · exact r_tableIn (pc := 33) C 4 h dL_law_33 (off := 294) (tgt := 327) (by decide) (by decide) (by decide +kernel) (by decide) (lw_c4 hE hi hl hW hI kk)
    · exact r_tableIn (pc := 33) C 5 h dL_law_33 (off := 327) (tgt := 360) (by decide) (by decide) (by decide +kernel) (by decide) (lw_c5 hE hi hl hW hI kk)
    · exact r_tableIn (pc := 33) C 6 h dL_law_33 (off := 360) (tgt := 393) (by decide) (by decide) (by decide +kernel) (by decide) (lw_c6 hE hi hl hW hI kk)
    · exact r_tableIn (pc := 33) C 7 h dL_law_33 (off := 403) (tgt := 436) (by decide) (by decide) (by decide +kernel) (by decide) (lw_c7 hE hi hl hW hI kk)
    · exact r_tableIn (pc := 33) C 8 h dL_law_33 (off := 436) (tgt := 469) (by decide) (by decide) (by decide +kernel) (by decide) (lw_c8 hE hi hl hW hI kk)
    · exact r_tableIn (pc := 33) C 9 h dL_law_33 (off := 469) (tgt := 502) (by decide) (by decide) (by decide +kernel) (by decide) (lw_c9 hE hi hl hW hI kk)
    · exact r_tableIn (pc := 33) C 10 h dL_law_33 (off := 502) (tgt := 535) (by decide) (by decide) (by decide +kernel) (by decide) (lw_c10 hE hi hl hW hI kk)
    · exact r_tableIn (pc := 33) C 11 h dL_law_33 (off := 535) (tgt := 568) (by decide) (by decide) (by decide +kernel) (by decide) (lw_c11 hE hi hl hW hI kk)
    · exact r_tableIn (pc := 33) C 12 h dL_law_33 (off := 558) (tgt := 591) (by decide) (by decide) (by decide +kernel) (by decide) (lw_c12 hE hi hl hW hI kk)
    · exact r_tableIn (pc := 33) C 13 h dL_law_33 (off := 581) (tgt := 614) (by decide) (by decide) (by decide +kernel) (by decide) (lw_c13 hE hi hl hW hI kk)
    · exact r_tableIn (pc := 33) C 14 h dL_law_33 (off := 624) (tgt := 657) (by decide) (by decide) (by decide +kernel) (by decide) (lw_c14 hE hi hl hW hI kk)
    · exact r_tableIn (pc := 33) C 15 h dL_law_33 (off := 647) (tgt := 680) (by decide) (by decide) (by decide +kernel) (by decide) (lw_c15 hE hi hl hW hI kk)
    · exact r_tableIn (pc := 33) C 16 h dL_law_33 (off := 660) (tgt := 693) (by decide) (by decide) (by decide +kernel) (by decide) (lw_c16 hE hi hl hW hI kk)
    · exact r_tableIn (pc := 33) C 17 h dL_law_33 (off := 683) (tgt := 716) (by decide) (by decide) (by decide +kernel) (by decide) (lw_c17 hE hi hl hW hI kk)
    · exact r_tableIn (pc := 33) C 18 h dL_law_33 (off := 706) (tgt := 739) (by decide) (by decide) (by decide +kernel) (by decide) (lw_c18 hE hi hl hW hI kk)
    · exact r_tableIn (pc := 33) C 19 h dL_law_33 (off := 729) (tgt := 762) (by decide) (by decide) (by decide +kernel) (by decide) (lw_c19 hE hi hl hW hI kk)
    · exact r_tableIn (pc := 33) C 20 h dL_law_33 (off := 752) (tgt := 785) (by decide) (by decide) (by decide +kernel) (by decide) (lw_c20 hE hi hl hW hI kk)
    · exact r_tableIn (pc := 33) C 21 h dL_law_33 (off := 775) (tgt := 808) (by decide) (by decide) (by decide +kernel) (by decide) (lw_c21 hE hi hl hW hI kk)
    · exact r_tableIn (pc := 33) C 22 h dL_law_33 (off := 808) (tgt := 841) (by decide) (by decide) (by decide +kernel) (by decide) (lw_c22 hE hi hl hW hI kk)
    · exact r_tableIn (pc := 33) C 23 h dL_law_33 (off := 841) (tgt := 874) (by decide) (by decide) (by decide +kernel) (by decide) (lw_c23 hE hi hl hW hI kk)
    · exact r_tableIn (pc := 33) C 24 h dL_law_33 (off := 864) (tgt := 897) (by decide) (by decide) (by decide +kernel) (by decide) (lw_c24 hE hi hl hW hI kk)
    · exact r_tableIn (pc := 33) C 25 h dL_law_33 (off := 907) (tgt := 940) (by decide) (by decide) (by decide +kernel) (by decide) (lw_c25 hE hi hl hW hI kk)
    · exact r_tableIn (pc := 33) C 26 h dL_law_33 (off := 940) (tgt := 973) (by decide) (by decide) (by decide +kernel) (by decide) (lw_c26 hE hi hl hW hI kk)
    · exact r_tableIn (pc := 33) C 27 h dL_law_33 (off := 953) (tgt := 986) (by decide) (by decide) (by decide +kernel) (by decide) (lw_c27 hE hi hl hW hI kk)
    · exact r_tableIn (pc := 33) C 28 h dL_law_33 (off := 966) (tgt := 999) (by decide) (by decide) (by decide +kernel) (by decide) (lw_c28 hE hi hl hW hI kk)
    · exact r_tableIn (pc := 33) C 29 h dL_law_33 (off := 1009) (tgt := 1042) (by decide) (by decide) (by decide +kernel) (by decide) (lw_c29 hE hi hl hW hI kk)
    · exact r_tableIn (pc := 33) C 30 h dL_law_33 (off := 1083) (tgt := 1116) (by decide) (by decide) (by decide +kernel) (by decide) (lw_c30 hE hi hl hW hI kk)
    · exact r_tableIn (pc := 33) C 31 h dL_law_33 (off := 1146) (tgt := 1179) (by decide) (by decide) (by decide +kernel) (by decide) (lw_c31 hE hi hl hW hI kk)
    · exact r_tableIn (pc := 33) C 32 h dL_law_33 (off := 1169) (tgt := 1202) (by decide) (by decide) (by decide +kernel) (by decide) (lw_c32 hE hi hl hW hI kk)
    · exact r_tableIn (pc := 33) C 33 h dL_law_33 (off := 1192) (tgt := 1225) (by decide) (by decide) (by decide +kernel) (by decide) (lw_c33 hE hi hl hW hI kk)
    · exact r_tableIn (pc := 33) C 34 h dL_law_33 (off := 1225) (tgt := 1258) (by decide) (by decide) (by decide +kernel) (by decide) (lw_c34 hE hi hl hW hI kk)
    · exact r_tableIn (pc := 33) C 35 h dL_law_33 (off := 1238) (tgt := 1271) (by decide) (by decide) (by decide +kernel) (by decide) (lw_c35 hE hi hl hW hI kk)
    · exact r_tableIn (pc := 33) C 36 h dL_law_33 (off := 1251) (tgt := 1284) (by decide) (by decide) (by decide +kernel) (by decide) (lw_c36 hE hi hl hW hI kk)
    · exact r_tableIn (pc := 33) C 37 h dL_law_33 (off := 1264) (tgt := 1297) (by decide) (by decide) (by decide +kernel) (by decide) (lw_c37 hE hi hl hW hI kk)
    · exact r_tableIn (pc := 33) C 38 h dL_law_33 (off := 1287) (tgt := 1320) (by decide) (by decide) (by decide +kernel) (by decide) (lw_c38 hE hi hl hW hI kk)
    · exact r_tableOut (pc := 33) C dL_law_33 (tgt := 1343) ⟨by omega, by omega⟩ (Or.inr h) (by decide) (kk _ _ _ _ _ _ _ _ _ _ _ _ _ _ _ _ _ _ _ _ _ _ _ _ _ _ _ _ _ _ hW hI)
end LAWL
