section INVM
variable {tp : Int → Int} {ta : Int} {s st : Int → Int} {q : PS}
theorem ky_clN {b f v : Int} (hb : b = 3 ∨ b = 51) (hf : 0 ≤ f) : ∀ n : Nat, f + n ≤ 48 → Ky s (clN s b f v n)
  | 0, _ => ky_rf s
  | n + 1, h => ky_tr (ky_clN hb hf n (by omega)) (ky_up (by omega) (fun i _ _ => by omega))
theorem ky_clE {b f v : Int} (hb : b = 3 ∨ b = 51) (hq : q.2.2.2 = 0 → 0 ≤ f ∧ f ≤ 47) : Ky s (clE tp ta b s f v q).1 := by
  unfold clE
  split
  · dsimp only
    split
    · next h1 =>
      have n1 := num_ok (tp := tp) (ta := ta) (q := mstP tp ta 1 q) f 47 h1
      have h0 := hq (mst_iw n1.1).1
      exact ky_clN hb h0.1 _ (by omega)
    · exact ky_rf s
  · dsimp only
    split
    · next h1 => exact ky_clN hb (hq h1).1 1 (by have := (hq h1).2; omega)
    · exact ky_rf s
theorem ky_clI {b : Int} (hb : b = 3 ∨ b = 51) : Ky s (clI tp ta b s q).1 := ky_clE hb (fun h => ⟨(clI_ok h).1, (clI_ok h).2.1⟩)
theorem kd_mdT (hk : Kd s) (h0 : 0 ≤ s 0) {kd : Int} (hkd : kd ≤ 5) : Kd (mdT tp ta kd s q).1 ∧ (mdT tp ta kd s q).1 1 = s 1 := by
  unfold mdT
  split
  · split
    · have k : Ky (addS s kd q.2.2.1 50) (up (addS s kd q.2.2.1 50) (99 + 4 * s 0 + 2) (numP tp ta 0 9999 (mstP tp ta 1 q)).2.2.1) := ky_up (by omega) (fun i _ _ => by omega)
      exact ⟨ky_kd k (kd_addS hk h0 hkd), k.2.trans (addS_1 h0)⟩
    · exact ⟨kd_addS hk h0 hkd, addS_1 h0⟩
  · exact ⟨hk, rfl⟩
theorem inv_itI (h : PI tp ta q) (hi : Inv s) : Inv (itI tp ta s q).1 ∧ (itI tp ta s q).1 1 = s 1 := by
  have ho := ok_itI h hi.1
  have h0 := (hi.1.1 0 (by decide)).1
  have hk := kdH_rg (wrd tp ta q)
  have key : Kd (itI tp ta s q).1 ∧ (itI tp ta s q).1 1 = s 1 := by
    unfold itI
    split
    · split
      · exact ⟨ky_kd (ky_clI (Or.inl rfl)) hi.2.1, (ky_clI (Or.inl rfl)).2⟩
      · split
        · exact ⟨ky_kd (ky_clI (Or.inr rfl)) hi.2.1, (ky_clI (Or.inr rfl)).2⟩
        · have k : Ky s (inI tp ta s q).1 := ky_up (by omega) (fun i _ _ => by omega)
          exact ⟨ky_kd k hi.2.1, k.2⟩
    · exact kd_mdT hi.2.1 h0 hk.2
  exact ⟨⟨ho, key.1, by rw [key.2]; exact hi.2.2.1, by rw [key.2]; exact hi.2.2.2⟩, key.2⟩
theorem inv_mpN (h : PI tp ta q) (hi : Inv s) : ∀ n : Nat, Inv (mpN tp ta s q n).1 ∧ (mpN tp ta s q n).1 1 = s 1
  | 0 => inv_itI h hi
  | n + 1 => by
    have ih := inv_mpN h hi n
    have z := inv_itI (pi_mst (pi_mpN s h n) 1) ih.1
    exact ⟨z.1, z.2.trans ih.2⟩
theorem inv_map (hi : Inv s) {va : Int} (h0 : 0 ≤ ta) (h1 : ta ≤ 120) (hv : -2147483648 ≤ va ∧ va < 2147483647) : Inv (fMap s tp ta va).2 ∧ (fMap s tp ta va).2 1 = s 1 := by
  have hp := pi_tok (tp := tp) (ta := ta) (p := 0) (v := va) (by decide) h0 h1 hv
  have z : Inv (mpR tp ta s (q0P tp ta va)).1 ∧ (mpR tp ta s (q0P tp ta va)).1 1 = s 1 := by
    unfold mpR
    generalize mpF tp ta s (q0P tp ta va) = N
    exact inv_mpN (q := q0P tp ta va) hp hi N
  unfold fMap
  generalize mpR tp ta s (q0P tp ta va) = M at z ⊢
  generalize mpF tp ta s (q0P tp ta va) = N
  split
  · split
    · exact inv_rf hi
    · exact z
  · exact inv_rf hi
theorem va_map {va : Int} (h0 : 0 ≤ ta) (h1 : ta ≤ 120) (hv : -2147483648 ≤ va ∧ va < 2147483647) : -2147483648 ≤ (mpR tp ta s (q0P tp ta va)).2.2.2.1 ∧ (mpR tp ta s (q0P tp ta va)).2.2.2.1 < 2147483647 := by
  have hp := pi_tok (tp := tp) (ta := ta) (p := 0) (v := va) (by decide) h0 h1 hv
  unfold mpR
  generalize mpF tp ta s (q0P tp ta va) = N
  exact (pi_mpN (q := q0P tp ta va) s hp N).2.2.2.2
theorem nm_map (htp : ∀ i, 0 ≤ tp i ∧ tp i ≤ 255) {sa nm : Int} (h0 : 0 ≤ ta) (hn : 0 ≤ nm ∧ nm ≤ 10000) : 0 ≤ (crO tp ta s (adC tp ta (sa, 0, nm))).2.2.2.2 ∧ (crO tp ta s (adC tp ta (sa, 0, nm))).2.2.2.2 ≤ 10000 := by
  have h := ad_ci htp (ta := ta) (p := (sa, 0, nm)) (Int.le_refl 0) h0 hn.1 hn.2
  have hc : CI ta (crO tp ta s (adC tp ta (sa, 0, nm))).2.2 := by
    unfold crO
    split
    · exact ci_it htp (ci_cpR htp h _)
    · exact ci_cpR htp h 120
  exact hc.2.2.2
/-! sheets, tape -/
theorem rg_sheet {bi si : Int → Int} {nu : Int → Int64} {sh b n : Int} (hbi : ∀ i, 0 ≤ bi i ∧ bi i ≤ 64) (hsi : ∀ i, 0 ≤ si i ∧ si i ≤ 40) : (∀ i, 0 ≤ (fSheet st bi si nu sh b n).2.2.1 i ∧ (fSheet st bi si nu sh b n).2.2.1 i ≤ 64) ∧ ∀ i, 0 ≤ (fSheet st bi si nu sh b n).2.2.2.1 i ∧ (fSheet st bi si nu sh b n).2.2.2.1 i ≤ 40 := by
  unfold fSheet
  split
  · split
    · split
      · exact ⟨hbi, hsi⟩
      · split
        · refine ⟨fun i => ?_, fun i => ?_⟩
          · dsimp only
            unfold up
            split
            · omega
            · exact hbi i
          · dsimp only
            unfold up
            split
            · split <;> omega
            · exact hsi i
        · exact ⟨hbi, hsi⟩
    · exact ⟨hbi, hsi⟩
  · exact ⟨hbi, hsi⟩
theorem rg_fdT {b n : Int} {tp : Int → Int} (htp : ∀ i, 0 ≤ tp i ∧ tp i ≤ 255) : ∀ (j : Nat) (i : Int), 0 ≤ fdT tp ta b n j i ∧ fdT tp ta b n j i ≤ 255
  | 0, i => htp i
  | j + 1, i => by
    rw [fdT]
    unfold up
    split
    · have := byt_rg b (n - 1 - j); omega
    · exact rg_fdT htp j i
theorem rg_feed {b n : Int} (htp : ∀ i, 0 ≤ tp i ∧ tp i ≤ 255) (hta : 0 ≤ ta ∧ ta ≤ 120) : (∀ i, 0 ≤ (fFeed st tp ta b n).2.2.1 i ∧ (fFeed st tp ta b n).2.2.1 i ≤ 255) ∧ 0 ≤ (fFeed st tp ta b n).2.2.2 ∧ (fFeed st tp ta b n).2.2.2 ≤ 120 := by
  unfold fFeed
  split
  · split
    · exact ⟨fun i => rg_fdT htp _ i, by dsimp only; omega⟩
    · exact ⟨htp, hta⟩
  · exact ⟨htp, hta⟩
end INVM
