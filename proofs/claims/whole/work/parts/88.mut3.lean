theorem cp3_ok {M : jM} {x y : Nat} {Q : Int32 → Nat → jM → Prop} (hx : x < 20) (hy : y < 20) (hxy : x ≠ y) (hb : M 3 y 3 = zI 0 ∨ M 3 y 3 = zI 1) (hQ : ∀ M1, fr [3] M M1 → (∀ i f, i ≠ x → M1 3 i f = M 3 i f) → M1 3 x 1 = M 3 y 1 → M1 3 x 2 = M 3 y 2 → M1 3 x 3 = M 3 y 3 → M1 3 x 0 = nI ((M 3 y 0).toNatClampNeg) → Q 0 0 M1) : ok_X3_copyFrom x y M Q := by
  refine en_X3_copyFrom (bl_X3_copyFrom_0 _ _ _ _ hx hy ?_)
  rintro M2 rfl M3 rfl M4 rfl
  have e3 : jup (jup (jup M 3 x 0 (nI ((M 3 y 0).toNatClampNeg))) 3 x 1 (jup M 3 x 0 (nI ((M 3 y 0).toNatClampNeg)) 3 y 1)) 3 x 2 (jup (jup M 3 x 0 (nI ((M 3 y 0).toNatClampNeg))) 3 x 1 (jup M 3 x 0 (nI ((M 3 y 0).toNatClampNeg)) 3 y 1) 3 y 2) 3 y 3 = M 3 y 3 := by
    rw [jup_ne (by omega), jup_ne (by omega), jup_ne (by omega)]
  refine ⟨?_, ?_⟩
  · rw [e3]
    rcases hb with h | h
    · exact Or.inl (by rw [h]; exact z_0.symm)
    · exact Or.inr (by rw [h]; exact z_1.symm)
  · rintro M5 rfl
    refine hQ _ (fr_up (fr_up (fr_up (fr_up (fr_rf _ _))))) (fun i f hi => ?_) ?_ ?_ ?_ ?_
    · rw [jup_ne (by omega), jup_ne (by omega), jup_ne (by omega), jup_ne (by omega)]
    · rw [jup_ne (by omega), jup_ne (by omega), jup_self, jup_ne (by omega)]
    · rw [jup_ne (by omega), jup_self, jup_ne (by omega), jup_ne (by omega)]
    · rw [jup_self, e3]
    · rw [jup_ne (by omega), jup_ne (by omega), jup_ne (by omega), jup_self]
theorem LR_fr {M M1 : jM} {x y : Nat} {v : Int → Int} (h : LR M y v) (hf : fr [3, 6, 40] M M1) (hnb : jnb M ≤ 100000) (e1 : M1 3 x 1 = M 3 y 1) (e2 : M1 3 x 2 = M 3 y 2) (e3 : M1 3 x 3 = M 3 y 3) (e0 : M1 3 x 0 = nI ((M 3 y 0).toNatClampNeg)) : LR M1 x v := by
  obtain ⟨⟨h1, h2, h3⟩, b, hb, h0, hB⟩ := h
  refine ⟨⟨by rw [e1]; exact h1, by rw [e2]; exact h2, by rw [e3]; exact h3⟩, b, by rw [fr_nb hf]; exact hb, ?_, ?_⟩
  · rw [e0, h0, z_clamp (by omega), z_nI]
    exact zc (by omega)
  · unfold BR BRs at *
    rw [hf 0 (by decide), hf 7 (by decide), hf 20 (by decide), hf 21 (by decide), hf 22 (by decide), hf 24 (by decide), hf 25 (by decide), hf 26 (by decide)]
    exact hB
/-- a program is copied onto the other -/
theorem cpf_ok {M0 : jM} {P R : Nat} {Q : Int32 → Nat → jM → Prop} (hP : P < 2) (hR : R < 2) (hPR : P ≠ R) (hB : B3 M0) (hQ : ∀ M1, fr [3, 6, 40] M0 M1 → (∀ x f, x < 6 * P ∨ 6 * P + 6 ≤ x → M1 3 x f = M0 3 x f) → (∀ l : Nat, l < 6 → M1 3 (6 * P + l) 1 = M0 3 (6 * R + l) 1 ∧ M1 3 (6 * P + l) 2 = M0 3 (6 * R + l) 2 ∧ M1 3 (6 * P + l) 3 = M0 3 (6 * R + l) 3 ∧ M1 3 (6 * P + l) 0 = nI ((M0 3 (6 * R + l) 0).toNatClampNeg)) → (∀ j, j ≠ P → M1 40 j = M0 40 j ∧ M1 6 j = M0 6 j) → (∀ y, y < 3 → M1 40 P y = M0 40 R y) → M1 6 P 2 = M0 6 R 2 → M1 6 P 3 = M0 6 P 3 + 1 → Q 0 0 M1) : ok_X6_copyFrom P R M0 Q := by
  have opts : ∀ (M1 : jM), fr [3] M0 M1 → (∀ x f, x < 6 * P ∨ 6 * P + 6 ≤ x → M1 3 x f = M0 3 x f) → (∀ l : Nat, l < 6 → M1 3 (6 * P + l) 1 = M0 3 (6 * R + l) 1 ∧ M1 3 (6 * P + l) 2 = M0 3 (6 * R + l) 2 ∧ M1 3 (6 * P + l) 3 = M0 3 (6 * R + l) 3 ∧ M1 3 (6 * P + l) 0 = nI ((M0 3 (6 * R + l) 0).toNatClampNeg)) →
      ∀ (d i : Nat) (v2 : Int32) (M : jM), i + d = 3 → v2 = zI (i : Int) → fr [40] M1 M → (∀ j, j ≠ P → M 40 j = M0 40 j) → (∀ y, y < i → M 40 P y = M0 40 R y) → at_X6_copyFrom_31 P R v2 M Q := by
    intro M1 hf hx hl d
    induction d with
    | zero =>
      intro i v2 M hd h2 hfr hj hy
      subst h2
      refine bl_X6_copyFrom_31 _ _ _ _ _ hP hR ?_
      have F3 := hfr 3 (by decide)
      have F6 : M 6 = M0 6 := by rw [hfr 6 (by decide), hf 6 (by decide)]
      refine ⟨fun _ => ?_, fun z => absurd (by rw [z_3, z_leT (by omega)]; trivial) z⟩
      rintro M2 rfl M3 rfl
      refine hQ _ (fr_up (fr_up (fr_tr hf hfr (U := [3, 6, 40])))) (fun x f h => ?_) (fun l hl6 => ?_) (fun j hjP => ⟨?_, ?_⟩) (fun y hy3 => ?_) ?_ ?_
      · rw [jup_R (by decide), jup_R (by decide), F3]; exact hx x f h
      · rw [jup_o (by decide), jup_o (by decide), F3]; exact hl l hl6
      · rw [jup_o (by decide), jup_o (by decide)]; exact hj j hjP
      · funext y
        rw [jup_ne (by omega), jup_ne (by omega), F6]
      · rw [jup_R (by decide), jup_R (by decide)]; exact hy y (by omega)
      · rw [jup_ne (by omega), jup_self, F6]
      · rw [jup_self, jup_ne (by omega), F6]
    | succ d ih =>
      intro i v2 M hd h2 hfr hj hy
      subst h2
      refine bl_X6_copyFrom_31 _ _ _ _ _ hP hR ?_
      refine ⟨fun z => ?_, fun _ => ⟨by rw [z_inT (by omega)]; trivial, by rw [z_inT (by omega)]; trivial, ?_⟩⟩
      · rw [z_3, z_leF (by omega)] at z; exact z.elim
      · rw [z_clamp (by omega), show ((i : Nat) : Int).toNat = i by omega, z_1, z_add]
        rintro M3 rfl
        refine ih (i + 1) _ _ (by omega) (zc (by omega)) (fr_up hfr) (fun j hjP => ?_) (fun y hyi => ?_)
        · rw [← hj j hjP]
          funext z
          exact jup_ne (by omega)
        · by_cases e : y = i
          · rw [e, jup_self, hj R (fun z => hPR z.symm)]
          · rw [jup_ne (by omega)]; exact hy y (by omega)
  have loops : ∀ (d i : Nat) (v2 : Int32) (M : jM), i + d = 6 → v2 = zI (i : Int) → fr [3] M0 M → (∀ x f, x < 6 * P ∨ 6 * P + i ≤ x → M 3 x f = M0 3 x f) → (∀ l : Nat, l < i → M 3 (6 * P + l) 1 = M0 3 (6 * R + l) 1 ∧ M 3 (6 * P + l) 2 = M0 3 (6 * R + l) 2 ∧ M 3 (6 * P + l) 3 = M0 3 (6 * R + l) 3 ∧ M 3 (6 * P + l) 0 = nI ((M0 3 (6 * R + l) 0).toNatClampNeg)) → at_X6_copyFrom_2 P R v2 M Q := by
    intro d
    induction d with
    | zero =>
      intro i v2 M hd h2 hfr hx hl
      subst h2
      refine bl_X6_copyFrom_2 _ _ _ _ _ hP hR ?_
      refine ⟨fun _ => ?_, fun z => absurd (by rw [z_6, z_leT (by omega)]; trivial) z⟩
      have ei : i = 6 := by omega
      subst ei
      exact opts M hfr hx hl 3 0 _ M (by omega) z_0 (fr_rf _ _) (fun j _ => by rw [hfr 40 (by decide)]) (fun y hy => by omega)
    | succ d ih =>
      intro i v2 M hd h2 hfr hx hl
      subst h2
      refine bl_X6_copyFrom_2 _ _ _ _ _ hP hR ?_
      refine ⟨fun z => ?_, fun _ => ⟨by rw [z_inT (by omega)]; trivial, by rw [z_inT (by omega)]; trivial, ?_⟩⟩
      · rw [z_6, z_leF (by omega)] at z; exact z.elim
      · rw [z_clamp (by omega), show ((i : Nat) : Int).toNat = i by omega, z_1, z_add]
        have hy : ∀ f, M 3 (6 * R + i) f = M0 3 (6 * R + i) f := fun f => hx _ _ (by omega)
        refine cp3_ok (by omega) (by omega) (by omega) (by rw [hy 3]; exact B3_01 hB (by omega)) (fun M1 c1 c2 c3 c4 c5 c6 => ⟨fr_nb c1, ?_⟩)
        refine ih (i + 1) _ M1 (by omega) (zc (by omega)) (fr_tr hfr c1) (fun x f h => ?_) (fun l hli => ?_)
        · rw [c2 _ _ (by omega)]; exact hx x f (by omega)
        · by_cases e : l = i
          · rw [e, c3, c4, c5, c6, hy 1, hy 2, hy 3, hy 0]
            exact ⟨rfl, rfl, rfl, rfl⟩
          · rw [c2 _ _ (by omega), c2 _ _ (by omega), c2 _ _ (by omega), c2 _ _ (by omega)]
            exact hl l (by omega)
  refine en_X6_copyFrom (bl_X6_copyFrom_0 _ _ _ _ hP hR ?_)
  exact loops 6 0 _ M0 (by omega) z_0 (fr_rf _ _) (fun x f h => rfl) (fun l hl => by omega)
theorem msv_ok {M0 : jM} {Q : Int32 → Nat → jM → Prop} (hQ : ∀ M1, fm [52, 53] [3, 6, 7] M0 M1 → (∀ j : Nat, j < 3510 → M1 52 0 j = M0 50 0 j) → (∀ j : Nat, j < 3 → M1 53 0 j = M0 51 0 j) → M1 11 0 3 = M0 11 0 0 → M1 11 0 6 = zI 1 → M1 11 0 7 = zI 0 → Q 0 0 M1) : ok_X12_save M0 Q := by
  have opts : ∀ (M1 : jM), fm [52] [7] M0 M1 → M1 11 0 7 = zI 0 → (∀ j : Nat, j < 3510 → M1 52 0 j = M0 50 0 j) → ∀ (d i : Nat) (v1 : Int32) (M : jM), i + d = 3 → v1 = zI (i : Int) → fm [53] [] M1 M → (∀ j : Nat, j < i → M 53 0 j = M0 51 0 j) → at_X12_save_34 v1 M Q := by
    intro M1 hf h7 hr d
    induction d with
    | zero =>
      intro i v1 M hd h1 hfr hy
      subst h1
      refine bl_X12_save_34 _ _ _ ?_
      refine ⟨fun _ => ?_, fun z => absurd (by rw [z_3, z_leT (by omega)]; trivial) z⟩
      rintro M2 rfl M3 rfl
      have hmm : fm [52, 53] [3, 6, 7] M0 M := fm_tr hf hfr
      refine hQ _ (fm_f (fm_f hmm)) (fun j hj => ?_) (fun j hj => ?_) ?_ ?_ ?_
      · rw [jup_R (by decide), jup_R (by decide), hfr.1 52 (by decide) (by decide)]; exact hr j hj
      · rw [jup_R (by decide), jup_R (by decide)]; exact hy j (by omega)
      · rw [jup_ne (by omega), jup_self, hfr.2 0 (by decide), hf.2 0 (by decide)]
      · rw [jup_self, z_1]
      · rw [jup_ne (by omega), jup_ne (by omega), hfr.2 7 (by decide)]; exact h7
    | succ d ih =>
      intro i v1 M hd h1 hfr hy
      subst h1
      refine bl_X12_save_34 _ _ _ ?_
      refine ⟨fun z => ?_, fun _ => ⟨by rw [z_inT (by omega)]; trivial, by rw [z_inT (by omega)]; trivial, ?_⟩⟩
      · rw [z_3, z_leF (by omega)] at z; exact z.elim
      · rw [z_clamp (by omega), show ((i : Nat) : Int).toNat = i by omega, z_1, z_add]
        rintro M3 rfl
        refine ih (i + 1) _ _ (by omega) (zc (by omega)) (fm_up hfr) (fun j hj => ?_)
        by_cases e : j = i
        · rw [e, jup_self, hfr.1 51 (by decide) (by decide), hf.1 51 (by decide) (by decide)]
        · rw [jup_ne (by omega)]; exact hy j (by omega)
  have rows : ∀ (d i : Nat) (v1 : Int32) (M : jM), i + d = 3510 → v1 = zI (i : Int) → fm [52] [7] M0 M → M 11 0 7 = zI 0 → (∀ j : Nat, j < i → M 52 0 j = M0 50 0 j) → at_X12_save_7 v1 M Q := by
    intro d
    induction d with
    | zero =>
      intro i v1 M hd h1 hfr h7 hy
      subst h1
      refine bl_X12_save_7 _ _ _ ?_
      refine ⟨fun _ => ?_, fun z => absurd (by rw [z_3510, z_leT (by omega)]; trivial) z⟩
      exact opts M hfr h7 (fun j hj => hy j (by omega)) 3 0 _ M (by omega) z_0 (fm_rf _ _ _) (fun j hj => by omega)
    | succ d ih =>
      intro i v1 M hd h1 hfr h7 hy
      subst h1
      refine bl_X12_save_7 _ _ _ ?_
      refine ⟨fun z => ?_, fun _ => ⟨by rw [z_inT (by omega)]; trivial, by rw [z_inT (by omega)]; trivial, ?_⟩⟩
      · rw [z_3510, z_leF (by omega)] at z; exact z.elim
      · rw [z_clamp (by omega), show ((i : Nat) : Int).toNat = i by omega, z_1, z_add]
        rintro M3 rfl
        refine ih (i + 1) _ _ (by omega) (zc (by omega)) (fm_up hfr) (by rw [jup_R (by decide)]; exact h7) (fun j hj => ?_)
        by_cases e : j = i
        · rw [e, jup_self, hfr.1 50 (by decide) (by decide)]
        · rw [jup_ne (by omega)]; exact hy j (by omega)
  refine en_X12_save (bl_X12_save_0 _ _ ?_)
  rintro M1 rfl
  rw [z_0]
  exact rows 3510 0 _ _ (by omega) rfl (fm_f (fm_rf _ _ _)) (jup_self _ _ _ _ _) (fun j hj => by omega)
theorem op_save {M : jM} {k : Nat} {n : Int} {w : Int → Int → Int} {o : Int → Int} {ver : Int} {P : jM → Prop} (hR : RLz M k n w o ver) (hk : k ≤ 2000) (hP : ∀ M5, Rz M5 (k + 1) → P M5) : ok_X11_save M (fun _ _ M2 => ok_X12_save M2 (fun _ _ M5 => P M5)) := by
  obtain ⟨hnb, hv⟩ := RLz_n hR hk
  obtain ⟨hG, hPR, hMR, hCI, hv10, hS1, hS2, hS3, hS4, hS5, hS6, hS7⟩ := hR
  have hn := hG.1
  refine en_X11_save (bl_X11_save_0 _ _ ?_)
  refine cpf_ok (by omega) (by omega) (by omega) hS7 (fun M1 c1 c2 c3 c4 c5 c6 c7 => ⟨fr_nb c1, ?_⟩)
  rintro M2 rfl
  refine msv_ok (fun M5 d1 d2 d3 d4 d5 d6 => hP _ ⟨n, w, o, ver, ?_⟩)
  have e : ∀ R, R ∉ [3, 6, 10, 11, 40, 52, 53] → M5 R = M R := fun R hR' => by
    simp only [List.mem_cons, List.not_mem_nil, or_false, not_or] at hR'
    rw [d1.1 R hR'.2.2.2.1 (by simp; omega), jup_o hR'.2.2.1, c1 R (by simp; omega)]
  have e3 : ∀ x f, M5 3 x f = M1 3 x f := fun x f => by rw [d1.1 3 (by decide) (by decide), jup_R (by decide)]
  have e6 : M5 6 = M1 6 := by rw [d1.1 6 (by decide) (by decide), jup_o (by decide)]
  have e40 : M5 40 = M1 40 := by rw [d1.1 40 (by decide) (by decide), jup_o (by decide)]
  have e11 : ∀ f, f ≠ 3 → f ≠ 6 → f ≠ 7 → M5 11 0 f = M 11 0 f := fun f f1 f2 f3 => by rw [d1.2 f (by simp; omega), jup_R (by decide), c1 11 (by decide)]
  have n5 : jnb M5 = jnb M := by unfold jnb; rw [e 99 (by decide)]
  have hP0 : PR M5 0 n w o := PR_pt hPR (fun l l0 l1 => by funext f; rw [e3]; exact c2 _ _ (by omega)) (by rw [e6, (c4 0 (by decide)).2]) (by rw [e40, (c4 0 (by decide)).1]) (e 0 (by decide)) (e 7 (by decide)) (e 20 (by decide)) (e 21 (by decide)) (e 22 (by decide)) (e 24 (by decide)) (e 25 (by decide)) (e 26 (by decide)) n5
  have M2row : ∀ j : Nat, j < 3510 → M5 52 0 j = M 50 0 j := fun j hj => by rw [d2 j hj, jup_R (by decide), c1 50 (by decide)]
  refine ⟨hG, hP0, MR_fr hMR (e11 0 (by decide) (by decide) (by decide)) (e 50 (by decide)) (e 51 (by decide)), CI_eq hCI (by rw [e6, (c4 0 (by decide)).2]) (by rw [e 1 (by decide)]) (e 5 (by decide)) (e 29 (by decide)) (fun j => by rw [e 33 (by decide)]) (e 35 (by decide)), by omega, ?_, ?_, ?_, ?_, ?_, ?_, ?_⟩
  · refine Or.inr ⟨?_, d5, n, w, o, hG, ?_, ?_, ?_, fun l j l0 l1 j0 j1 => ?_⟩
    · rw [d1.1 10 (by decide) (by decide), jup_self, z_1]
    · refine ⟨by rw [e6, c6]; exact hPR.1, ⟨by rw [e40, c5 0 (by omega)]; exact hPR.2.1.1, by rw [e40, c5 1 (by omega)]; exact hPR.2.1.2.1, by rw [e40, c5 2 (by omega)]; exact hPR.2.1.2.2⟩, fun l l0 l1 => ?_⟩
      obtain ⟨g1, g2, g3, g4⟩ := c3 l.toNat (by omega)
      have h1 := LR_fr (hPR.2.2 l l0 l1) c1 hnb g1 g2 g3 g4
      unfold LR BR BRs at *
      rw [e3, e3, e3, e3, e 0 (by decide), e 7 (by decide), e 20 (by decide), e 21 (by decide), e 22 (by decide), e 24 (by decide), e 25 (by decide), e 26 (by decide), n5]
      rw [c1 0 (by decide), c1 7 (by decide), c1 20 (by decide), c1 21 (by decide), c1 22 (by decide), c1 24 (by decide), c1 25 (by decide), c1 26 (by decide), fr_nb c1] at h1
      exact h1
    · rw [d4, jup_R (by decide), c1 11 (by decide)]; exact hMR.1
    · rw [d3 0 (by omega), d3 1 (by omega), d3 2 (by omega), jup_R (by decide), jup_R (by decide), jup_R (by decide), c1 51 (by decide)]; exact hMR.2.1
    · rw [M2row _ (by omega)]; exact hMR.2.2 l j l0 l1 j0 j1
  · exact TX_eq hS2 (by rw [e 8 (by decide)]) (e11 8 (by decide) (by decide) (by decide)) (e 41 (by decide)) (e 54 (by decide))
  · intro j
    rw [e 41 (by decide)]
    exact hS3 j
  · rw [e 8 (by decide), e11 10 (by decide) (by decide) (by decide)]; exact hS4
  · obtain ⟨fa, f1, f2⟩ := hS5
    exact ⟨fa, f1, by rw [e11 28 (by decide) (by decide) (by decide)]; exact f2⟩
  · rw [n5]; omega
  · intro x hx
    rw [e3]
    by_cases q : x < 6 ∨ 12 ≤ x
    · rw [c2 _ _ (by omega)]; exact hS7 x hx
    · have := (c3 (x - 6) (by omega)).2.2.1
      rw [show 6 * 1 + (x - 6) = x by omega] at this
      rw [this]
      exact (B3_01 hS7 (by omega)).imp id (fun h => ⟨by omega, h⟩)
