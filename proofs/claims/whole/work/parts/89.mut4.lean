theorem mrs_ok {M0 : jM} {Q : Int32 → Nat → jM → Prop} (h1 : M0 11 0 6 = zI 1) (hQ : ∀ M1, fm [50, 51] [0, 7] M0 M1 → (∀ j : Nat, j < 3510 → M1 50 0 j = M0 52 0 j) → (∀ j : Nat, j < 3 → M1 51 0 j = M0 53 0 j) → M1 11 0 0 = M0 11 0 3 → M1 11 0 7 = zI 0 → Q 0 0 M1) : ok_X12_restore M0 Q := by
  have ne : ¬ (zI 1 = (0 : Int32)) := fun z => by rw [z_0, z_eqF (by omega)] at z; exact z
  have opts : ∀ (M1 : jM), fm [50] [7] M0 M1 → M1 11 0 7 = zI 0 → (∀ j : Nat, j < 3510 → M1 50 0 j = M0 52 0 j) → ∀ (d i : Nat) (v1 : Int32) (M : jM), i + d = 3 → v1 = zI (i : Int) → fm [51] [] M1 M → (∀ j : Nat, j < i → M 51 0 j = M0 53 0 j) → at_X12_restore_52 v1 M Q := by
    intro M1 hf h7 hr d
    induction d with
    | zero =>
      intro i v1 M hd hv hfr hy
      subst hv
      refine bl_X12_restore_52 _ _ _ ?_
      have e6 : M 11 0 6 = zI 1 := by rw [hfr.2 6 (by decide), hf.2 6 (by decide)]; exact h1
      rw [e6]
      refine ⟨fun _ => ⟨fun z => absurd z ne, fun _ => ?_⟩, fun z => absurd (by rw [z_3, z_leT (by omega)]; trivial) z⟩
      rintro M2 rfl
      have hmm : fm [50, 51] [0, 7] M0 M := fm_tr hf hfr
      refine hQ _ (fm_f hmm) (fun j hj => ?_) (fun j hj => ?_) ?_ ?_
      · rw [jup_R (by decide), hfr.1 50 (by decide) (by decide)]; exact hr j hj
      · rw [jup_R (by decide)]; exact hy j (by omega)
      · rw [jup_self, hfr.2 3 (by decide), hf.2 3 (by decide)]
      · rw [jup_ne (by omega), hfr.2 7 (by decide)]; exact h7
    | succ d ih =>
      intro i v1 M hd hv hfr hy
      subst hv
      refine bl_X12_restore_52 _ _ _ ?_
      have e6 : M 11 0 6 = zI 1 := by rw [hfr.2 6 (by decide), hf.2 6 (by decide)]; exact h1
      rw [e6]
      refine ⟨fun z => ?_, fun _ => ⟨fun z => absurd z ne, fun _ => ⟨by rw [z_inT (by omega)]; trivial, by rw [z_inT (by omega)]; trivial, ?_⟩⟩⟩
      · rw [z_3, z_leF (by omega)] at z; exact z.elim
      · rw [z_clamp (by omega), show ((i : Nat) : Int).toNat = i by omega, z_1, z_add]
        rintro M3 rfl
        refine ih (i + 1) _ _ (by omega) (zc (by omega)) (fm_up hfr) (fun j hj => ?_)
        by_cases e : j = i
        · rw [e, jup_self, hfr.1 53 (by decide) (by decide), hf.1 53 (by decide) (by decide)]
        · rw [jup_ne (by omega)]; exact hy j (by omega)
  have rows : ∀ (d i : Nat) (v1 : Int32) (M : jM), i + d = 3510 → v1 = zI (i : Int) → fm [50] [7] M0 M → M 11 0 7 = zI 0 → (∀ j : Nat, j < i → M 50 0 j = M0 52 0 j) → at_X12_restore_18 v1 M Q := by
    intro d
    induction d with
    | zero =>
      intro i v1 M hd hv hfr h7 hy
      subst hv
      refine bl_X12_restore_18 _ _ _ ?_
      refine ⟨fun _ => ?_, fun z => absurd (by rw [z_3510, z_leT (by omega)]; trivial) z⟩
      exact opts M hfr h7 (fun j hj => hy j (by omega)) 3 0 _ M (by omega) z_0 (fm_rf _ _ _) (fun j hj => by omega)
    | succ d ih =>
      intro i v1 M hd hv hfr h7 hy
      subst hv
      refine bl_X12_restore_18 _ _ _ ?_
      have e6 : M 11 0 6 = zI 1 := by rw [hfr.2 6 (by decide)]; exact h1
      rw [e6]
      refine ⟨fun z => ?_, fun _ => ⟨fun z => absurd z ne, fun _ => ⟨by rw [z_inT (by omega)]; trivial, by rw [z_inT (by omega)]; trivial, ?_⟩⟩⟩
      · rw [z_3510, z_leF (by omega)] at z; exact z.elim
      · rw [z_clamp (by omega), show ((i : Nat) : Int).toNat = i by omega, z_1, z_add]
        rintro M3 rfl
        refine ih (i + 1) _ _ (by omega) (zc (by omega)) (fm_up hfr) (by rw [jup_R (by decide)]; exact h7) (fun j hj => ?_)
        by_cases e : j = i
        · rw [e, jup_self, hfr.1 52 (by decide) (by decide)]
        · rw [jup_ne (by omega)]; exact hy j (by omega)
  refine en_X12_restore (bl_X12_restore_0 _ _ ?_)
  rw [h1]
  refine ⟨fun z => absurd z ne, fun _ => ?_⟩
  rintro M2 rfl
  rw [z_0]
  exact rows 3510 0 _ _ (by omega) rfl (fm_f (fm_rf _ _ _)) (jup_self _ _ _ _ _) (fun j hj => by omega)
theorem mrs0_ok {M0 : jM} {Q : Int32 → Nat → jM → Prop} (h0 : M0 11 0 6 = zI 0) (hQ : ∀ M1, fm [] [7] M0 M1 → M1 11 0 7 = zI 1 → Q 0 0 M1) : ok_X12_restore M0 Q := by
  have z0 : zI 0 = (0 : Int32) := z_0.symm
  refine en_X12_restore (bl_X12_restore_0 _ _ ?_)
  rw [h0]
  refine ⟨fun _ => ?_, fun z => absurd z0 z⟩
  rintro M1 rfl
  have e6 : jup M0 11 0 7 1 11 0 6 = zI 0 := by rw [jup_ne (by omega)]; exact h0
  refine bl_X12_restore_18 _ _ _ ?_
  rw [e6]
  refine ⟨fun z => by rw [z_3510, z_0, z_leF (by omega)] at z; exact z.elim, fun _ => ⟨fun _ => ?_, fun z => absurd z0 z⟩⟩
  refine bl_X12_restore_52 _ _ _ ?_
  rw [e6]
  refine ⟨fun z => by rw [z_3, z_0, z_leF (by omega)] at z; exact z.elim, fun _ => ⟨fun _ => ⟨fun _ => ?_, fun z => absurd z0 z⟩, fun z => absurd z0 z⟩⟩
  rintro M3 rfl
  rw [jup_same]
  exact hQ _ (fm_f (fm_rf _ _ _)) (by rw [jup_self, z_1])
theorem op_restore {M : jM} {k : Nat} {n : Int} {w : Int → Int → Int} {o : Int → Int} {ver : Int} {P : jM → Int32 → Prop} {Q : Int32 → Nat → jM → Prop} (hR : RLz M k n w o ver) (hk : k ≤ 2000) (hP : ∀ M5 r1, Rz M5 (k + 1) → M5 11 0 7 = r1 → P M5 r1) (hq : ∀ r1 M2, ok_X12_restore M2 (fun _ _ M5 => P M5 r1) → Q r1 0 M2) : ok_L_restore M Q := by
  obtain ⟨hnb, hv⟩ := RLz_n hR hk
  have hR0 := hR
  obtain ⟨hG, hPR, hMR, hCI, hv10, hS1, hS2, hS3, hS4, hS5, hS6, hS7⟩ := hR
  have hn := hG.1
  refine wr_restore (en_X11_restore (bl_X11_restore_0 _ _ _ ?_))
  rcases hS1 with ⟨s0, s1⟩ | ⟨s0, s1, n', w', o', hG', hPR', hMS'⟩
  · rw [s0]
    refine ⟨fun _ => ⟨rfl, hq _ _ (mrs0_ok s1 (fun M5 d1 d2 => hP _ _ ⟨n, w, o, ver, RLz_ro hR0 (fr_rf _ _) hCI (fm_mono d1) (FA_fm hS5 d1)⟩ (by rw [d2, z_1])))⟩, fun z => absurd z_0.symm z⟩
  · rw [s0]
    refine ⟨fun z => by rw [z_0, z_eqF (by omega)] at z; exact z.elim, fun _ => ?_⟩
    have hn' := hG'.1
    refine cpf_ok (by omega) (by omega) (by omega) hS7 (fun M1 c1 c2 c3 c4 c5 c6 c7 => ⟨fr_nb c1, fr_nb c1, hq _ _ ?_⟩)
    refine mrs_ok (by rw [c1 11 (by decide)]; exact s1) (fun M5 d1 d2 d3 d4 d5 => hP _ _ ⟨n', w', o', ver + 1, ?_⟩ (by rw [d5, z_0]))
    have e : ∀ R, R ∉ [3, 6, 11, 40, 50, 51] → M5 R = M R := fun R hR' => by
      simp only [List.mem_cons, List.not_mem_nil, or_false, not_or] at hR'
      rw [d1.1 R hR'.2.2.1 (by simp; omega), c1 R (by simp; omega)]
    have e3 : ∀ x f, M5 3 x f = M1 3 x f := fun x f => by rw [d1.1 3 (by decide) (by decide)]
    have e6 : M5 6 = M1 6 := d1.1 6 (by decide) (by decide)
    have e40 : M5 40 = M1 40 := d1.1 40 (by decide) (by decide)
    have e11 : ∀ f, f ≠ 0 → f ≠ 7 → M5 11 0 f = M 11 0 f := fun f f1 f2 => by rw [d1.2 f (by simp; omega), c1 11 (by decide)]
    have n5 : jnb M5 = jnb M := by unfold jnb; rw [e 99 (by decide)]
    have hP1 : PR M5 1 n' w' o' := PR_pt hPR' (fun l l0 l1 => by funext f; rw [e3]; exact c2 _ _ (by omega)) (by rw [e6, (c4 1 (by decide)).2]) (by rw [e40, (c4 1 (by decide)).1]) (e 0 (by decide)) (e 7 (by decide)) (e 20 (by decide)) (e 21 (by decide)) (e 22 (by decide)) (e 24 (by decide)) (e 25 (by decide)) (e 26 (by decide)) n5
    have e52 : M5 52 = M 52 := e 52 (by decide)
    have e53 : M5 53 = M 53 := e 53 (by decide)
    refine ⟨hG', ⟨by rw [e6, c6]; exact hPR'.1, ⟨by rw [e40, c5 0 (by omega)]; exact hPR'.2.1.1, by rw [e40, c5 1 (by omega)]; exact hPR'.2.1.2.1, by rw [e40, c5 2 (by omega)]; exact hPR'.2.1.2.2⟩, fun l l0 l1 => ?_⟩, ⟨?_, ?_, fun l j l0 l1 j0 j1 => ?_⟩, CI_new hCI (by omega) ?_ (by rw [e 1 (by decide)]) (e 5 (by decide)), by omega, ?_, ?_, ?_, ?_, ?_, ?_, ?_⟩
    · obtain ⟨g1, g2, g3, g4⟩ := c3 l.toNat (by omega)
      have h1 := LR_fr (hPR'.2.2 l l0 l1) c1 hnb g1 g2 g3 g4
      unfold LR BR BRs at *
      rw [e3, e3, e3, e3, e 0 (by decide), e 7 (by decide), e 20 (by decide), e 21 (by decide), e 22 (by decide), e 24 (by decide), e 25 (by decide), e 26 (by decide), n5]
      rw [c1 0 (by decide), c1 7 (by decide), c1 20 (by decide), c1 21 (by decide), c1 22 (by decide), c1 24 (by decide), c1 25 (by decide), c1 26 (by decide), fr_nb c1] at h1
      exact h1
    · rw [d4, c1 11 (by decide)]; exact hMS'.1
    · rw [d3 0 (by omega), d3 1 (by omega), d3 2 (by omega), c1 53 (by decide)]; exact hMS'.2.1
    · rw [d2 _ (by omega), c1 52 (by decide)]; exact hMS'.2.2 l j l0 l1 j0 j1
    · rw [e6, c7, hCI.1, z_1, z_add]
    · refine Or.inr ⟨by rw [e 10 (by decide)]; exact s0, by rw [e11 6 (by decide) (by decide)]; exact s1, n', w', o', hG', hP1, ?_⟩
      unfold MS at *
      rw [e11 3 (by decide) (by decide), e52, e53]
      exact hMS'
    · exact TX_eq hS2 (by rw [e 8 (by decide)]) (e11 8 (by decide) (by decide)) (e 41 (by decide)) (e 54 (by decide))
    · intro j
      rw [e 41 (by decide)]
      exact hS3 j
    · rw [e 8 (by decide), e11 10 (by decide) (by decide)]; exact hS4
    · obtain ⟨fa, f1, f2⟩ := hS5
      exact ⟨fa, f1, by rw [e11 28 (by decide) (by decide)]; exact f2⟩
    · rw [n5]; omega
    · intro x hx
      rw [e3]
      by_cases q : 6 ≤ x
      · rw [c2 _ _ (by omega)]; exact hS7 x hx
      · have := (c3 x (by omega)).2.2.1
        rw [show 6 * 0 + x = x by omega] at this
        rw [this]
        exact (B3_01 hS7 (by omega)).imp id (fun h => ⟨by omega, h⟩)
set_option maxHeartbeats 4000000 in
set_option maxRecDepth 100000 in
theorem op_removeLoop {M : jM} {k : Nat} {n : Int} {w : Int → Int → Int} {o : Int → Int} {ver : Int} {a : Int32} {P : jM → Int32 → Int32 → Prop} {Q : Int32 → Nat → jM → Prop} (hR : RLz M k n w o ver) (hk : k ≤ 2000) (hP : ∀ M5 r1 r4, Rz M5 (k + 1) → M5 11 0 7 = r1 → (r1 = 0 → M5 61 0 0 = r4) → P M5 r1 r4) (hq : ∀ r1 M2, ok_X12_removeLoop a M2 (fun r4 _ M5 => P M5 r1 r4) → Q r1 0 M2) : ok_L_removeLoop a M Q := by
  obtain ⟨hnb, hv⟩ := RLz_n hR hk
  have hG := hR.1
  have hPR := hR.2.1
  have hCI := hR.2.2.2.1
  have hn := hG.1
  have h6 := hPR.1
  obtain ⟨a, a1, a2, rfl⟩ := zI_of a
  have hP0 := fun M5 r1 r4 (h : RLz M5 (k + 1) n w o ver) => hP M5 r1 r4 ⟨n, w, o, ver, h⟩
  have key : ∀ (M2 : jM) (r1 : Int32), ((fr SO M M2 ∧ CI M2 n w o ver ∧ ¬ (0 ≤ a ∧ a < n) ∧ r1 = zI 1) ∨ ((0 ≤ a ∧ a < n) ∧ r1 = zI 0 ∧ fr [3, 6, 61] M M2 ∧ M2 61 0 0 = zI (n - 1) ∧ (∀ i f, 6 ≤ i → M2 3 i f = M 3 i f) ∧ (∀ i < 6, M2 3 i 3 = zI 0 ∨ M2 3 i 3 = zI 1) ∧ (∀ l, 0 ≤ l → l < n - 1 → LR M2 (6 * 0 + l.toNat) (if l < a then w l else w (l + 1))) ∧ M2 6 1 = M 6 1 ∧ M2 6 0 2 = zI (n - 1) ∧ M2 6 0 3 = zI (ver + 1))) → ok_X12_removeLoop (zI a) M2 (fun r4 _ M5 => P M5 r1 r4) := by
    intro M2 r1 hr
    refine en_X12_removeLoop (bl_X12_removeLoop_0 _ _ _ ?_)
    rintro M3 rfl
    rcases hr with ⟨hf, hC, q, hr⟩ | ⟨q, hr, hf, h61, c3, cb, cl, c61, c62, c63⟩
    · obtain ⟨hM2, hF2⟩ := RLz_m hR hf
      have e0 := hM2.1
      have fin := ro_thr hR hP0 hf hC (fm_7 (x := zI 0) (fm_rf _ _ _)) (FA_7 hF2) hr (by omega)
      by_cases q4 : a < 0
      · simp (disch := omega) only [jup_self, jup_ne, z_add, z_sub, z_mul, z_neg, z_leT, z_leF, z_ltT, z_ltF, z_eqT, z_eqF, z_inT, z_clamp, z_nI, z_0, z_1, z_2, z_3, z_4, z_5, z_6, z_7, z_8, z_9, z_10, z_11, z_12, z_13, z_14, z_15, z_16, z_17, z_18, z_19, z_20, z_21, z_22, z_23, z_24, z_25, z_26, z_27, z_28, z_29, z_30, z_31, z_32, z_33, z_34, z_35, z_36, z_37, z_38, z_39, z_40, z_41, z_42, z_43, z_44, z_45, z_46, z_47, z_48, z_49, z_50, z_51, z_52, z_53, z_54, z_55, z_56, z_57, z_58, z_59, z_60, z_61, z_77, z_91, z_93, z_97, z_100, z_101, z_102, z_103, z_105, z_111, z_114, z_120, z_123, z_125, z_126, z_200, z_245, z_255, z_576, z_585, z_1000, z_2000, z_3510, z_11700, true_implies, false_implies, implies_true, not_true_eq_false, not_false_eq_true, true_and, and_true, false_and, and_false, ↓reduceIte, Int.reduceToNat, Int.reduceNeg, Int.toNat_natCast, e0]
        rintro M4 rfl
        exact fin _
      · simp (disch := omega) only [jup_self, jup_ne, z_add, z_sub, z_mul, z_neg, z_leT, z_leF, z_ltT, z_ltF, z_eqT, z_eqF, z_inT, z_clamp, z_nI, z_0, z_1, z_2, z_3, z_4, z_5, z_6, z_7, z_8, z_9, z_10, z_11, z_12, z_13, z_14, z_15, z_16, z_17, z_18, z_19, z_20, z_21, z_22, z_23, z_24, z_25, z_26, z_27, z_28, z_29, z_30, z_31, z_32, z_33, z_34, z_35, z_36, z_37, z_38, z_39, z_40, z_41, z_42, z_43, z_44, z_45, z_46, z_47, z_48, z_49, z_50, z_51, z_52, z_53, z_54, z_55, z_56, z_57, z_58, z_59, z_60, z_61, z_77, z_91, z_93, z_97, z_100, z_101, z_102, z_103, z_105, z_111, z_114, z_120, z_123, z_125, z_126, z_200, z_245, z_255, z_576, z_585, z_1000, z_2000, z_3510, z_11700, true_implies, false_implies, implies_true, not_true_eq_false, not_false_eq_true, true_and, and_true, false_and, and_false, ↓reduceIte, Int.reduceToNat, Int.reduceNeg, Int.toNat_natCast, e0]
        rintro M4 rfl
        exact fin _
    · obtain ⟨_, _, hMR, _, hv10, hS1, hS2, hS3, hS4, hS5, hS6, hS7⟩ := hR
      have e0 : M2 11 0 0 = zI n := by rw [hf 11 (by decide)]; exact hMR.1
      simp (disch := omega) only [jup_self, jup_ne, z_add, z_sub, z_mul, z_neg, z_leT, z_leF, z_ltT, z_ltF, z_eqT, z_eqF, z_inT, z_clamp, z_nI, z_0, z_1, z_2, z_3, z_4, z_5, z_6, z_7, z_8, z_9, z_10, z_11, z_12, z_13, z_14, z_15, z_16, z_17, z_18, z_19, z_20, z_21, z_22, z_23, z_24, z_25, z_26, z_27, z_28, z_29, z_30, z_31, z_32, z_33, z_34, z_35, z_36, z_37, z_38, z_39, z_40, z_41, z_42, z_43, z_44, z_45, z_46, z_47, z_48, z_49, z_50, z_51, z_52, z_53, z_54, z_55, z_56, z_57, z_58, z_59, z_60, z_61, z_77, z_91, z_93, z_97, z_100, z_101, z_102, z_103, z_105, z_111, z_114, z_120, z_123, z_125, z_126, z_200, z_245, z_255, z_576, z_585, z_1000, z_2000, z_3510, z_11700, true_implies, false_implies, implies_true, not_true_eq_false, not_false_eq_true, true_and, and_true, false_and, and_false, ↓reduceIte, Int.reduceToNat, Int.reduceNeg, Int.toNat_natCast, e0]
      rintro M4 rfl
      have hrow0 : ∀ l j, 0 ≤ l → l < n → 0 ≤ j → j < 585 → M2 50 0 (585 * l + j).toNat = zI (w l j) := fun l j l0 l1 j0 j1 => by rw [hf 50 (by decide)]; exact hMR.2.2 l j l0 l1 j0 j1
      have fin : ∀ M5, fm [50] [0, 7] M2 M5 → M5 11 0 0 = zI (n - 1) → M5 11 0 7 = zI 0 → (∀ x : Int, 0 ≤ x → x < 585 * (n - 1) → M5 50 0 x.toNat = if x < 585 * a then M2 50 0 x.toNat else M2 50 0 (x + 585).toNat) → P M5 r1 (zI (n - 1)) := by
        intro M5 d1 d2 d3 d4
        have e : ∀ R, R ∉ [3, 6, 11, 50, 61] → M5 R = M R := fun R hR' => by
          simp only [List.mem_cons, List.not_mem_nil, or_false, not_or] at hR'
          rw [d1.1 R hR'.2.2.1 (by simp; omega), hf R (by simp; omega)]
        have e3 : ∀ x f, M5 3 x f = M2 3 x f := fun x f => by rw [d1.1 3 (by decide) (by decide)]
        have e6 : M5 6 = M2 6 := d1.1 6 (by decide) (by decide)
        have e11 : ∀ f, f ≠ 0 → f ≠ 7 → M5 11 0 f = M 11 0 f := fun f f1 f2 => by rw [d1.2 f (by simp; omega), hf 11 (by decide)]
        have n5 : jnb M5 = jnb M := by unfold jnb; rw [e 99 (by decide)]
        have hsn := hS1
        refine hP _ _ _ ⟨n - 1, fun l => if l < a then w l else w (l + 1), o, ver + 1, ⟨by omega, hG.2.1, fun l l0 l1 => ?_⟩, ⟨by rw [e6]; exact c62, by rw [e 40 (by decide)]; exact hPR.2.1, fun l l0 l1 => ?_⟩, ⟨d2, by rw [e 51 (by decide)]; exact hMR.2.1, fun l j l0 l1 j0 j1 => ?_⟩, CI_new hCI (by omega) (by rw [e6]; exact c63) (by rw [e 1 (by decide)]) (e 5 (by decide)), by omega, ?_, ?_, ?_, ?_, ?_, ?_, ?_⟩ (by rw [d3, hr]) (fun _ => by rw [d1.1 61 (by decide) (by decide)]; exact h61)
        · show OKL (if l < a then w l else w (l + 1))
          split
          · exact hG.2.2 l l0 (by omega)
          · exact hG.2.2 (l + 1) (by omega) (by omega)
        · have h1 := cl l l0 l1
          show LR M5 (6 * 0 + l.toNat) (if l < a then w l else w (l + 1))
          have nb2 : jnb M2 = jnb M := fr_nb hf
          unfold LR BR BRs at *
          rw [e3, e3, e3, e3, e 0 (by decide), e 7 (by decide), e 20 (by decide), e 21 (by decide), e 22 (by decide), e 24 (by decide), e 25 (by decide), e 26 (by decide), n5]
          rw [hf 0 (by decide), hf 7 (by decide), hf 20 (by decide), hf 21 (by decide), hf 22 (by decide), hf 24 (by decide), hf 25 (by decide), hf 26 (by decide), nb2] at h1
          exact h1
        · show M5 50 0 (585 * l + j).toNat = zI ((if l < a then w l else w (l + 1)) j)
          rw [d4 (585 * l + j) (by omega) (by omega)]
          by_cases z : l < a
          · rw [if_pos (by omega), if_pos z]; exact hrow0 l j l0 (by omega) j0 j1
          · rw [if_neg (by omega), if_neg z]
            have := hrow0 (l + 1) j (by omega) (by omega) j0 j1
            rw [show 585 * l + j + 585 = 585 * (l + 1) + j by omega]
            exact this
        · refine SN_pt hS1 (by rw [e 10 (by decide)]) (e11 6 (by decide) (by decide)) (e11 3 (by decide) (by decide)) (e 52 (by decide)) (e 53 (by decide)) (fun n' w' o' hG' hP' => ?_)
          have hn' := hG'.1
          exact PR_pt hP' (fun l l0 l1 => by funext f; rw [e3]; exact c3 _ _ (by omega)) (by rw [e6, c61]) (by rw [e 40 (by decide)]) (e 0 (by decide)) (e 7 (by decide)) (e 20 (by decide)) (e 21 (by decide)) (e 22 (by decide)) (e 24 (by decide)) (e 25 (by decide)) (e 26 (by decide)) n5
        · exact TX_eq hS2 (by rw [e 8 (by decide)]) (e11 8 (by decide) (by decide)) (e 41 (by decide)) (e 54 (by decide))
        · intro j
          rw [e 41 (by decide)]
          exact hS3 j
        · rw [e 8 (by decide), e11 10 (by decide) (by decide)]; exact hS4
        · obtain ⟨fa, f1, f2⟩ := hS5
          exact ⟨fa, f1, by rw [e11 28 (by decide) (by decide)]; exact f2⟩
        · rw [n5]; omega
        · intro x hx
          rw [e3]
          by_cases q : 6 ≤ x
          · rw [c3 _ _ q]; exact hS7 x hx
          · exact (cb x (by omega)).imp id (fun h => ⟨by omega, h⟩)
      have loop : ∀ (d : Nat) (x : Int) (v2 : Int32) (M5 : jM), x + d = 585 * (n - 1) → 585 * a ≤ x → v2 = zI x → fm [50] [0, 7] M2 M5 → M5 11 0 0 = zI (n - 1) → M5 11 0 7 = zI 0 → (∀ y : Int, 0 ≤ y → M5 50 0 y.toNat = if 585 * a ≤ y ∧ y < x then M2 50 0 (y + 585).toNat else M2 50 0 y.toNat) → at_X12_removeLoop_35 v2 M5 (fun r4 _ M5 => P M5 r1 r4) := by
        intro d
        induction d with
        | zero =>
          intro x v2 M5 hd hx h2 d1 d2 d3 d4
          subst h2
          refine bl_X12_removeLoop_35 _ _ _ ?_
          simp (disch := omega) only [z_add, z_sub, z_mul, z_neg, z_leT, z_leF, z_ltT, z_ltF, z_eqT, z_eqF, z_inT, z_clamp, z_nI, z_0, z_1, z_2, z_3, z_4, z_5, z_6, z_7, z_8, z_9, z_10, z_11, z_12, z_13, z_14, z_15, z_16, z_17, z_18, z_19, z_20, z_21, z_22, z_23, z_24, z_25, z_26, z_27, z_28, z_29, z_30, z_31, z_32, z_33, z_34, z_35, z_36, z_37, z_38, z_39, z_40, z_41, z_42, z_43, z_44, z_45, z_46, z_47, z_48, z_49, z_50, z_51, z_52, z_53, z_54, z_55, z_56, z_57, z_58, z_59, z_60, z_61, z_77, z_91, z_93, z_97, z_100, z_101, z_102, z_103, z_105, z_111, z_114, z_120, z_123, z_125, z_126, z_200, z_245, z_255, z_576, z_585, z_1000, z_2000, z_3510, z_11700, true_implies, false_implies, implies_true, not_true_eq_false, not_false_eq_true, true_and, and_true, false_and, and_false, ↓reduceIte, Int.reduceToNat, Int.reduceNeg, Int.toNat_natCast, d2]
          refine fin M5 d1 d2 d3 (fun y y0 y1 => ?_)
          rw [d4 y y0]
          by_cases z : y < 585 * a
          · rw [if_pos z, if_neg (by omega)]
          · rw [if_neg z, if_pos (by omega)]
        | succ d ih =>
          intro x v2 M5 hd hx h2 d1 d2 d3 d4
          subst h2
          refine bl_X12_removeLoop_35 _ _ _ ?_
          have e1 := d4 (x + 585) (by omega)
          rw [if_neg (by omega)] at e1
          simp (disch := omega) only [z_add, z_sub, z_mul, z_neg, z_leT, z_leF, z_ltT, z_ltF, z_eqT, z_eqF, z_inT, z_clamp, z_nI, z_0, z_1, z_2, z_3, z_4, z_5, z_6, z_7, z_8, z_9, z_10, z_11, z_12, z_13, z_14, z_15, z_16, z_17, z_18, z_19, z_20, z_21, z_22, z_23, z_24, z_25, z_26, z_27, z_28, z_29, z_30, z_31, z_32, z_33, z_34, z_35, z_36, z_37, z_38, z_39, z_40, z_41, z_42, z_43, z_44, z_45, z_46, z_47, z_48, z_49, z_50, z_51, z_52, z_53, z_54, z_55, z_56, z_57, z_58, z_59, z_60, z_61, z_77, z_91, z_93, z_97, z_100, z_101, z_102, z_103, z_105, z_111, z_114, z_120, z_123, z_125, z_126, z_200, z_245, z_255, z_576, z_585, z_1000, z_2000, z_3510, z_11700, true_implies, false_implies, implies_true, not_true_eq_false, not_false_eq_true, true_and, and_true, false_and, and_false, ↓reduceIte, Int.reduceToNat, Int.reduceNeg, Int.toNat_natCast, d2, e1]
          rintro M6 rfl
          refine ih (x + 1) _ _ (by omega) (by omega) rfl (fm_up d1) (by rw [jup_R (by decide)]; exact d2) (by rw [jup_R (by decide)]; exact d3) (fun y y0 => ?_)
          by_cases z : y = x
          · rw [z, jup_self, if_pos (by omega)]
          · rw [jup_ne (by omega), d4 y y0]
            by_cases z2 : 585 * a ≤ y ∧ y < x
            · rw [if_pos z2, if_pos (by omega)]
            · rw [if_neg z2, if_neg (by omega)]
      refine loop (585 * (n - 1) - 585 * a).toNat (585 * a) _ _ (by omega) (by omega) rfl (fm_f (fm_f (fm_rf _ _ _))) ?_ ?_ (fun y y0 => ?_)
      · rw [jup_self]
      · rw [jup_ne (by omega), jup_self]
      · rw [if_neg (by omega), jup_R (by decide), jup_R (by decide)]
  refine wr_removeLoop (en_X11_removeLoop (bl_X11_removeLoop_0 _ _ _ _ ?_))
  refine ckl_ok hPR hn a1 a2 (fun l0 l1 => ⟨rfl, ?_⟩) (fun z => ⟨rfl, hq _ _ (key M _ (Or.inl ⟨fr_rf _ _, hCI, z, z_1⟩))⟩)
  have hB3 := hR.2.2.2.2.2.2.2.2.2.2.2
  have e63 := hCI.1
  have fin : ∀ M1, fr [3] M M1 → (∀ i f, 6 ≤ i → M1 3 i f = M 3 i f) → (∀ i < 6, M1 3 i 3 = zI 0 ∨ M1 3 i 3 = zI 1) → (∀ l, 0 ≤ l → l < n - 1 → LR M1 (6 * 0 + l.toNat) (if l < a then w l else w (l + 1))) → (∀ M2, M2 = jup M1 6 0 2 (M1 6 0 2 - 1) → ∀ M3, M3 = jup M2 6 0 3 (M2 6 0 3 + 1) → jnb M3 = jnb M ∧ jnb M3 = jnb M ∧ Q 0 0 (jup M3 61 0 (0 : Int32).toNatClampNeg (M3 6 0 2))) := by
    intro M1 d1 d2 d3 d4 M2 hM2 M3 hM3
    subst hM2 hM3
    have F6 := d1 6 (by decide)
    have nb : jnb (jup (jup M1 6 0 2 (M1 6 0 2 - 1)) 6 0 3 (jup M1 6 0 2 (M1 6 0 2 - 1) 6 0 3 + 1)) = jnb M := by rw [jnb_up (by decide), jnb_up (by decide), fr_nb d1]
    refine ⟨nb, nb, ?_⟩
    rw [z00]
    have x62 : jup (jup M1 6 0 2 (M1 6 0 2 - 1)) 6 0 3 (jup M1 6 0 2 (M1 6 0 2 - 1) 6 0 3 + 1) 6 0 2 = zI (n - 1) := by rw [jup_ne (by omega), jup_self, F6, h6, z_1, z_sub]
    have x63 : jup (jup M1 6 0 2 (M1 6 0 2 - 1)) 6 0 3 (jup M1 6 0 2 (M1 6 0 2 - 1) 6 0 3 + 1) 6 0 3 = zI (ver + 1) := by rw [jup_self, jup_ne (by omega), F6, e63, z_1, z_add]
    rw [x62]
    refine hq _ _ (key _ _ (Or.inr ⟨⟨l0, l1⟩, z_0, ?_, ?_, fun i f hi => ?_, fun i hi => ?_, fun l k0 k1 => ?_, ?_, ?_, ?_⟩))
    · exact fr_up (fr_up (fr_up (fr_mono d1)))
    · rw [jup_self]
    · rw [jup_R (by decide), jup_R (by decide), jup_R (by decide)]; exact d2 i f hi
    · rw [jup_R (by decide), jup_R (by decide), jup_R (by decide)]; exact d3 i hi
    · have := d4 l k0 k1
      have e : ∀ R, R ≠ 6 → R ≠ 61 → jup (jup (jup M1 6 0 2 (M1 6 0 2 - 1)) 6 0 3 (jup M1 6 0 2 (M1 6 0 2 - 1) 6 0 3 + 1)) 61 0 0 (zI (n - 1)) R = M1 R := fun R r1 r2 => by rw [jup_o r2, jup_o r1, jup_o r1]
      unfold LR BR BRs jnb at *
      rw [e 3 (by decide) (by decide), e 0 (by decide) (by decide), e 7 (by decide) (by decide), e 20 (by decide) (by decide), e 21 (by decide) (by decide), e 22 (by decide) (by decide), e 24 (by decide) (by decide), e 25 (by decide) (by decide), e 26 (by decide) (by decide), e 99 (by decide) (by decide)]
      exact this
    · rw [jup_o (by decide)]
      funext f
      rw [jup_ne (by omega), jup_ne (by omega), F6]
    · rw [jup_R (by decide)]; exact x62
    · rw [jup_R (by decide)]; exact x63
  have loop : ∀ (d : Nat) (p : Int) (v2 : Int32) (M1 : jM), p + 1 + d = n → a ≤ p → v2 = zI p → fr [3] M M1 → (∀ (i : Nat) f, (6 ≤ i ∨ (i : Int) < a ∨ p ≤ (i : Int)) → M1 3 i f = M 3 i f) → (∀ i < 6, M1 3 i 3 = zI 0 ∨ M1 3 i 3 = zI 1) → (∀ l, a ≤ l → l < p → LR M1 (6 * 0 + l.toNat) (w (l + 1))) → at_X6_remove_10 0 v2 M1 (fun _ _ M4 => jnb M4 = jnb M ∧ jnb M4 = jnb M ∧ Q 0 0 (jup M4 61 0 (0 : Int32).toNatClampNeg (M4 6 0 2))) := by
    intro d
    induction d with
    | zero =>
      intro p v2 M1 hd hp h2 d1 d2 d3 d4
      subst h2
      refine bl_X6_remove_10 _ _ _ _ (by omega) ?_
      have F6 : M1 6 0 2 = zI n := by rw [d1 6 (by decide)]; exact h6
      have hfin := fin M1 d1 (fun i f hi => d2 i f (Or.inl hi)) d3 (fun l k0 k1 => ?_)
      · refine ⟨fun _ => hfin, fun z => absurd (by rw [F6, z_1, z_add, z_leT (by omega)]; trivial) z⟩
      · by_cases z : l < a
        · rw [if_pos z]
          have h1 := hPR.2.2 l k0 (by omega)
          have nb2 := fr_nb d1
          unfold LR BR BRs at *
          rw [d2 _ _ (by omega), d2 _ _ (by omega), d2 _ _ (by omega), d2 _ _ (by omega), d1 0 (by decide), d1 7 (by decide), d1 20 (by decide), d1 21 (by decide), d1 22 (by decide), d1 24 (by decide), d1 25 (by decide), d1 26 (by decide), nb2]
          exact h1
        · rw [if_neg z]; exact d4 l (by omega) (by omega)
    | succ d ih =>
      intro p v2 M1 hd hp h2 d1 d2 d3 d4
      subst h2
      refine bl_X6_remove_10 _ _ _ _ (by omega) ?_
      have F6 : M1 6 0 2 = zI n := by rw [d1 6 (by decide)]; exact h6
      simp (disch := omega) only [z_add, z_sub, z_mul, z_neg, z_leT, z_leF, z_ltT, z_ltF, z_eqT, z_eqF, z_inT, z_clamp, z_nI, z_0, z_1, z_2, z_3, z_4, z_5, z_6, z_7, z_8, z_9, z_10, z_11, z_12, z_13, z_14, z_15, z_16, z_17, z_18, z_19, z_20, z_21, z_22, z_23, z_24, z_25, z_26, z_27, z_28, z_29, z_30, z_31, z_32, z_33, z_34, z_35, z_36, z_37, z_38, z_39, z_40, z_41, z_42, z_43, z_44, z_45, z_46, z_47, z_48, z_49, z_50, z_51, z_52, z_53, z_54, z_55, z_56, z_57, z_58, z_59, z_60, z_61, z_77, z_91, z_93, z_97, z_100, z_101, z_102, z_103, z_105, z_111, z_114, z_120, z_123, z_125, z_126, z_200, z_245, z_255, z_576, z_585, z_1000, z_2000, z_3510, z_11700, true_implies, false_implies, implies_true, not_true_eq_false, not_false_eq_true, true_and, and_true, false_and, and_false, ↓reduceIte, Int.reduceToNat, Int.reduceNeg, Int.toNat_natCast, F6]
      refine cp3_ok (by omega) (by omega) (by omega) (d3 _ (by omega)) (fun M2 g1 g2 g3 g4 g5 g6 => ⟨fr_nb g1, ?_⟩)
      have hLR : LR M1 (6 * 0 + (p + 1).toNat) (w (p + 1)) := by
        have h1 := hPR.2.2 (p + 1) (by omega) (by omega)
        have nb2 := fr_nb d1
        unfold LR BR BRs at *
        rw [d2 _ _ (by omega), d2 _ _ (by omega), d2 _ _ (by omega), d2 _ _ (by omega), d1 0 (by decide), d1 7 (by decide), d1 20 (by decide), d1 21 (by decide), d1 22 (by decide), d1 24 (by decide), d1 25 (by decide), d1 26 (by decide), nb2]
        exact h1
      refine ih (p + 1) _ M2 (by omega) (by omega) rfl (fr_tr d1 g1) (fun i f hi => ?_) (fun i hi => ?_) (fun l k0 k1 => ?_)
      · rw [g2 _ _ (by omega)]; exact d2 i f (by omega)
      · by_cases z : i = 6 * 0 + p.toNat
        · rw [z, g5]; exact d3 _ (by omega)
        · rw [g2 _ _ z]; exact d3 i hi
      · by_cases z : l = p
        · rw [z]; exact LR_fr hLR (fr_mono g1) (by rw [fr_nb d1]; exact hnb) g3 g4 g5 g6
        · have h1 := d4 l k0 (by omega)
          have nb2 := fr_nb g1
          unfold LR BR BRs at *
          rw [g2 _ _ (by omega), g2 _ _ (by omega), g2 _ _ (by omega), g2 _ _ (by omega), g1 0 (by decide), g1 7 (by decide), g1 20 (by decide), g1 21 (by decide), g1 22 (by decide), g1 24 (by decide), g1 25 (by decide), g1 26 (by decide), nb2]
          exact h1
  refine en_X6_remove (bl_X6_remove_0 _ _ _ _ (by omega) ?_)
  refine ⟨fun _ => ?_, fun z => absurd ⟨by rw [z_0, z_leT (by omega)]; trivial, by rw [h6, z_ltT (by omega)]; trivial, by rw [z_6, z_ltT (by omega)]; trivial⟩ z⟩
  exact loop (n - a - 1).toNat a _ M (by omega) (by omega) rfl (fr_rf _ _) (fun i f _ => rfl) (fun i hi => B3_01 hB3 (by omega)) (fun l k0 k1 => by omega)
