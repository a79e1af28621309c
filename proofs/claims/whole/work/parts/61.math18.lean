def CI (ta : Int) (p : CP) : Prop := 0 ≤ p.1 ∧ p.1 ≤ p.2.1 ∧ p.2.1 ≤ ta ∧ 0 ≤ p.2.2 ∧ p.2.2 ≤ 10000
theorem ad_ci {tp : Int → Int} (htp : ∀ i, 0 ≤ tp i ∧ tp i ≤ 255) {ta : Int} {p : CP} (h0 : 0 ≤ p.2.1) (h1 : p.2.1 ≤ ta) (hn : 0 ≤ p.2.2) (hn1 : p.2.2 ≤ 10000) : CI ta (adC tp ta p) := by
  have a := tkF_rg (tp := tp) h0 h1
  have b := tkT_rg (tp := tp) (f := tkF tp ta p.2.1) (by omega) a.2
  have c : tkF tp ta p.2.1 ≤ tk1 ta (tkF tp ta p.2.1) := by
    unfold tk1
    split <;> omega
  unfold adC CI
  dsimp only
  refine ⟨by omega, by omega, b.2, ?_⟩
  by_cases d : isD (bAt tp ta (tkF tp ta p.2.1))
  · rw [if_pos d]
    exact mnN_rg htp (fun j hj => (tk_same (tp := tp) (ta := ta) (f := tkF tp ta p.2.1) (by omega) a.2 (i := tkF tp ta p.2.1 + j) (by omega) (by omega)).1 d)
  · rw [if_neg d]; exact ⟨hn, hn1⟩
theorem ci_ad {tp : Int → Int} (htp : ∀ i, 0 ≤ tp i ∧ tp i ≤ 255) {ta : Int} {p : CP} (h : CI ta p) : CI ta (adC tp ta p) := ad_ci htp (by have := h.1; have := h.2.1; omega) h.2.2.1 h.2.2.2.1 h.2.2.2.2
theorem ci_it {tp : Int → Int} (htp : ∀ i, 0 ≤ tp i ∧ tp i ≤ 255) {ta : Int} {s : Int → Int} {p : CP} (h : CI ta p) : CI ta (cIt tp ta s p).2.2 := by
  have c1 := ci_ad htp h
  have c2 := ci_ad htp c1
  have c3 := ci_ad htp c2
  have c4 := ci_ad htp c3
  have c5 := ci_ad htp c4
  unfold cIt cCl cIn cMd
  repeat' split
  all_goals first | exact h | exact c1 | exact c2 | exact c3 | exact c4 | exact c5
theorem ci_cpR {tp : Int → Int} (htp : ∀ i, 0 ≤ tp i ∧ tp i ≤ 255) {ta : Int} {s : Int → Int} {p : CP} (h : CI ta p) : ∀ n : Nat, CI ta (cpR tp ta s p n).2
  | 0 => h
  | n + 1 => ci_ad htp (ci_it htp (ci_cpR htp h n))
theorem rq_0 {tp : Int → Int} {ta sa nm va : Int} (h0 : 0 ≤ ta) (h1 : ta ≤ 120) (hv : -2147483648 ≤ va ∧ va < 2147483647) : RQ tp ta (adC tp ta (sa, 0, nm)) (q0P tp ta va) := by
  have hp := pi_tok (tp := tp) (ta := ta) (p := 0) (v := va) (by decide) h0 h1 hv
  refine ⟨rfl, rfl, rfl, fun hd => ?_, hp⟩
  unfold adC at hd ⊢
  dsimp only at hd ⊢
  rw [if_pos hd]
theorem ok_cpR {tp : Int → Int} {ta : Int} {s : Int → Int} {p : CP} {q : PS} (h : RQ tp ta p q) (hs : Ok s) {n : Nat} (hj : ∀ j, j < n → ¬ crT tp ta s p j) : Ok (cpR tp ta s p n).1 := by
  obtain ⟨S, Q, h1, h2, h3, h4⟩ := bf_all h hs n hj
  rw [h2]; exact h3
section LAYPW
variable {D : va_G} {H : Heap} {b c : Nat → Nat} {k : Nat → ClassId} {s s' tp tp' : Int → Int} {wr wr' : Int64} {y y' ta tk sa en nm ta' tk' sa' en' nm' : Int}
def wPW (b c : Nat → Nat) (k : Nat → ClassId) (tp : Int → Int) (ta tk sa en nm : Int) (s : Int → Int) (wr : Int64) (y : Int) : va_W := wP c k tp ta tk sa en nm ++ wW b k s wr y
theorem wPW_ad : (wPW b c k tp ta tk sa en nm s wr y).map (·.1) = [c 0, c 1, b 0, b 1, b 2, b 3, b 4, b 5, b 6] := rfl
theorem hp_PW_tp (hP : va_P D vwCl (wPW b c k tp ta tk sa en nm s wr y) H) : va_P D vwCl (wP c k tp ta tk sa en nm) H := hP.sub [0, 1] rfl
theorem lc_PW_tp : [0, 1].map (fun i => (wPW b c k tp ta tk sa en nm s wr y)[i]?) = (wP c k tp ta tk sa en nm).map some := rfl
theorem lp_PW_tp : putW (wPW b c k tp ta tk sa en nm s wr y) [0, 1] (wP c k tp' ta' tk' sa' en' nm') = wPW b c k tp' ta' tk' sa' en' nm' s wr y := rfl
theorem hp_PW_s (hP : va_P D vwCl (wPW b c k tp ta tk sa en nm s wr y) H) : va_P D vwCl (wW b k s wr y) H := hP.sub [2, 3, 4, 5, 6, 7, 8] rfl
theorem lc_PW_s : [2, 3, 4, 5, 6, 7, 8].map (fun i => (wPW b c k tp ta tk sa en nm s wr y)[i]?) = (wW b k s wr y).map some := rfl
theorem lp_PW_s : putW (wPW b c k tp ta tk sa en nm s wr y) [2, 3, 4, 5, 6, 7, 8] (wW b k s' wr' y') = wPW b c k tp ta tk sa en nm s' wr' y' := rfl
theorem lf_PW_s {j : Nat} {x : Nat × va_E} (h : (wW b k s wr y).set j x = wW b k s' wr' y') : (wPW b c k tp ta tk sa en nm s wr y).set (j + 2) x = wPW b c k tp ta tk sa en nm s' wr' y' := by
  unfold wPW
  exact set_app2 (n := 2) rfl h
end LAYPW
