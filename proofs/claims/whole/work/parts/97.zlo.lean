/-! ===== texts: what a sum leaves ===== -/
theorem stA_lo {s : Int} (hs : 0 ≤ s ∧ s ≤ 3) : ∀ (W : List Int) (v : Int → Int), 0 ≤ v (101 + s) → 0 ≤ (stA s W v).2 (101 + s) ∧ ∀ j, j < 101 → (stA s W v).2 j = v j := by
  intro W
  induction W with
  | nil => intro v h; exact ⟨h, fun j _ => rfl⟩
  | cons x W ih =>
    intro v h
    by_cases q : x = 0
    · have e : stA s (x :: W) v = (x :: W, v) := by simp only [stA, if_pos q]
      rw [e]; exact ⟨h, fun j _ => rfl⟩
    · rw [stA_c q]
      obtain ⟨h1, h2⟩ := ih (tkV s v x) (by rw [tk_c]; omega)
      exact ⟨h1, fun j hj => by rw [h2 j hj, tk_lo hs h hj]⟩
theorem stT_lo {s : Int} (hs : 0 ≤ s ∧ s ≤ 3) : ∀ (W : List Int) (v : Int → Int), 0 ≤ v (101 + s) → 0 ≤ (stT s W v).2 (101 + s) ∧ ∀ j, j < 101 → (stT s W v).2 j = v j := by
  intro W
  induction W with
  | nil => intro v h; exact ⟨h, fun j _ => rfl⟩
  | cons x W ih =>
    intro v h
    by_cases q : x = 103
    · rw [q, stT_c]
      obtain ⟨h1, h2⟩ := ih (tkV s v 103) (by rw [tk_c]; omega)
      exact ⟨h1, fun j hj => by rw [h2 j hj, tk_lo hs h hj]⟩
    · have e : stT s (x :: W) v = (x :: W, v) := by simp only [stT, if_neg q]
      rw [e]; exact ⟨h, fun j _ => rfl⟩
theorem Fc_lo {c : Int → Int} {s p rd p' rd' : Int} {v v' : Int → Int} (hs : 0 ≤ s ∧ s ≤ 3) (h1 : 0 ≤ v (101 + s)) (h4 : 0 ≤ v 4 ∧ v 4 ≤ 6 * s + rd) (hr : 0 ≤ rd ∧ rd ≤ 5) (h : Fc c s p rd v p' rd' v') :
    0 ≤ v' (101 + s) ∧ (0 ≤ v' 4 ∧ v' 4 ≤ 6 * s + rd') ∧ (0 ≤ rd' ∧ rd' ≤ 5) ∧ ∀ j, j ≤ 3 → v' j = v j := by
  rcases h with ⟨_, _, rfl, rfl⟩ | ⟨_, _, rfl, rfl⟩ | ⟨r1, rfl, a, d, _, rfl⟩
  · exact ⟨by rw [tk_c]; omega, by rw [tk_lo hs h1 (by omega)]; exact h4, hr, fun j hj => tk_lo hs h1 (by omega)⟩
  · exact ⟨by rw [tk_c]; omega, by rw [tk_lo hs h1 (by omega)]; exact h4, hr, fun j hj => tk_lo hs h1 (by omega)⟩
  · have v4 : 0 ≤ v 4 ∧ v 4 < 24 := by omega
    have e : rfV s v a d 0 (101 + s) = v (101 + s) := rf_hi v4 (Or.inl (by omega))
    have h1' : 0 ≤ rfV s v a d 0 (101 + s) := by rw [e]; exact h1
    exact ⟨by rw [tk_c, e]; omega, by rw [tk_lo hs h1' (by omega), rf_4]; omega, by omega, fun j hj => by rw [tk_lo hs h1' (by omega), rf_hi v4 (Or.inr hj)]⟩
/-- a sum leaves the bounds of the loop -/
theorem Fn_lo {c : Int → Int} {s : Int} (hs : 0 ≤ s ∧ s ≤ 3) {p' rd2 : Int} {v2 : Int → Int} : ∀ (n : Nat) (p : Int) (b : Bool) (W : List Int) (o rd : Int) (v : Int → Int), Fn c s n p b W o rd v (.inr (p', rd2, v2)) → 0 ≤ v (101 + s) → (0 ≤ v 4 ∧ v 4 ≤ 6 * s + rd) → (0 ≤ rd ∧ rd ≤ 5) → ∀ j, j ≤ 3 → v2 j = v j := by
  intro n
  induction n with
  | zero => intro p b W o rd v h; exact h.elim
  | succ n ih =>
    intro p b W o rd v h h1 h4 hr j hj
    cases b with
    | true =>
      unfold Fn at h
      rcases h with ⟨_, _, h⟩ | ⟨_, p1, rd1, v1, hc, h⟩ | ⟨_, f, _, h⟩
      · exact ih _ _ _ _ _ _ h h1 h4 hr j hj
      · obtain ⟨g1, g4, gr, gj⟩ := Fc_lo hs h1 h4 hr hc
        rw [ih _ _ _ _ _ _ h g1 g4 gr j hj, gj j hj]
      · cases h
    | false =>
      obtain ⟨a1, a2⟩ := stA_lo hs W v h1
      obtain ⟨t1, t2⟩ := stT_lo hs W v h1
      unfold Fn at h
      rcases h with ⟨_, h⟩ | ⟨_, h⟩ | ⟨_, h⟩ | ⟨_, _, h⟩ | ⟨_, ⟨_, h⟩ | ⟨_, h⟩⟩
      · rw [ih _ _ _ _ _ _ h t1 (by rw [t2 4 (by omega)]; exact h4) hr j hj, t2 j (by omega)]
      · rw [ih _ _ _ _ _ _ h a1 (by rw [a2 4 (by omega)]; exact h4) hr j hj, a2 j (by omega)]
      · rw [ih _ _ _ _ _ _ h a1 (by rw [a2 4 (by omega)]; exact h4) hr j hj, a2 j (by omega)]
      · rw [ih _ _ _ _ _ _ h a1 (by rw [a2 4 (by omega)]; exact h4) hr j hj, a2 j (by omega)]
      · cases h
      · have e := Sum.inr.inj h
        rw [(Prod.mk.inj (Prod.mk.inj e).2).2]
        exact a2 j (by omega)
