/-! ===== the reference reads: a sum ===== -/
theorem SW_psh {M : jM} {W : List Int} {x : Int} {y : Int32} (h : SW M W) (hl : W.length < 120) (hy : y = zI x) (hx : x = 0 ∨ (101 ≤ x ∧ x ≤ 103)) : SW (jup (jup M 56 0 W.length y) 11 0 17 (zI ((W.length : Int) + 1))) (x :: W) := by
  subst hy
  obtain ⟨h1, h2, h3, h4⟩ := h
  refine ⟨by rw [jup_self]; exact zc (by simp), ⟨by rw [jup_R (by decide), jup_self], skZ_congr W (fun j hj => by rw [jup_R (by decide), jup_ne (by omega)]) h2⟩, by simp; omega, fun z hz => ?_⟩
  rcases List.mem_cons.mp hz with e | e
  · rw [e]; exact hx
  · exact h4 z e
theorem stA_nz {s : Int} : ∀ (W : List Int) (v : Int → Int), (stA s W v).2 (101 + s) + nz (stA s W v).1 = v (101 + s) + nz W ∧ (stA s W v).1.length ≤ W.length ∧ ((stA s W v).1 = [] ∨ (stA s W v).1.head? = some 0)
  | [], v => ⟨rfl, Nat.le_refl _, Or.inl rfl⟩
  | x :: W, v => by
    by_cases q : x = 0
    · have e : stA s (x :: W) v = (x :: W, v) := by simp only [stA, if_pos q]
      rw [e]; exact ⟨rfl, Nat.le_refl _, Or.inr (by rw [q]; rfl)⟩
    · rw [stA_c q]
      obtain ⟨h1, h2, h3⟩ := stA_nz W (tkV s v x)
      rw [tk_c] at h1
      simp only [nz, if_neg q]
      exact ⟨by omega, by simp; omega, h3⟩
theorem stT_nz {s : Int} : ∀ (W : List Int) (v : Int → Int), (stT s W v).2 (101 + s) + nz (stT s W v).1 = v (101 + s) + nz W ∧ (stT s W v).1.length ≤ W.length
  | [], v => ⟨rfl, Nat.le_refl _⟩
  | x :: W, v => by
    by_cases q : x = 103
    · subst q
      rw [stT_c]
      obtain ⟨h1, h2⟩ := stT_nz W (tkV s v 103)
      rw [tk_c] at h1
      simp only [nz]
      rw [if_neg (by omega)]
      exact ⟨by omega, by simp; omega⟩
    · have e : stT s (x :: W) v = (x :: W, v) := by simp only [stT, if_neg q]
      rw [e]; exact ⟨rfl, Nat.le_refl _⟩
/-! how many parentheses are open -/
def zn : List Int → Int
  | [] => 0
  | x :: W => (if x = 0 then 1 else 0) + zn W
theorem zn_r : ∀ W, 0 ≤ zn W
  | [] => Int.le_refl _
  | x :: W => by
    have := zn_r W
    simp only [zn]
    split <;> omega
theorem stA_zn {s : Int} : ∀ (W : List Int) (v : Int → Int), zn (stA s W v).1 = zn W
  | [], v => rfl
  | x :: W, v => by
    by_cases q : x = 0
    · have e : stA s (x :: W) v = (x :: W, v) := by simp only [stA, if_pos q]
      rw [e]
    · rw [stA_c q, stA_zn W]
      simp only [zn, if_neg q]
      omega
theorem stT_zn {s : Int} : ∀ (W : List Int) (v : Int → Int), zn (stT s W v).1 = zn W
  | [], v => rfl
  | x :: W, v => by
    by_cases q : x = 103
    · subst q
      rw [stT_c, stT_zn W]
      simp only [zn]
      rw [if_neg (by omega)]
      omega
    · have e : stT s (x :: W) v = (x :: W, v) := by simp only [stT, if_neg q]
      rw [e]
theorem zn_pop {W : List Int} (h : W = [] ∨ W.head? = some 0) (hz : 0 < zn W) : ∃ W', W = 0 :: W' ∧ zn W = zn W' + 1 := by
  match W, h, hz with
  | [], _, hz => simp [zn] at hz
  | x :: W, h, _ =>
    have e : x = 0 := by
      rcases h with h | h
      · cases h
      · simpa using h
    subst e
    exact ⟨W, rfl, by simp only [zn, ↓reduceIte]; omega⟩
