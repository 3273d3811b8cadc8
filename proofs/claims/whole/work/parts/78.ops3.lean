set_option maxHeartbeats 4000000 in
set_option maxRecDepth 100000 in
theorem op_height {M : jM} {k : Nat} {n : Int} {w : Int → Int → Int} {o : Int → Int} {ver : Int} {a b : Int32} {P : jM → Int32 → Int32 → Prop} {Q : Int32 → Nat → jM → Prop} (hR : RLz M k n w o ver) (hk : k ≤ 2000) (hP : ∀ M5 r1 r4, RLz M5 (k + 1) n w o ver → M5 11 0 7 = r1 → (r1 = 0 → M5 61 0 0 = r4) → P M5 r1 r4) (hq : ∀ r1 M2, ok_X12_height a b M2 (fun r4 _ M5 => P M5 r1 r4) → Q r1 0 M2) : ok_L_height a b M Q := by
  obtain ⟨hnb, hv⟩ := RLz_n hR hk
  have hG := hR.1
  have hPR := hR.2.1
  have hCI := hR.2.2.2.1
  have hn := hG.1
  have h6 := hPR.1
  obtain ⟨a, a1, a2, rfl⟩ := zI_of a
  obtain ⟨b, b1, b2, rfl⟩ := zI_of b
  have key : ∀ (M2 : jM) (r1 : Int32), fr SO M M2 → CI M2 n w o ver → ((¬ ((0 ≤ a ∧ a < n) ∧ 0 ≤ b ∧ b < w a 3) ∧ r1 = zI 1) ∨ (((0 ≤ a ∧ a < n) ∧ 0 ≤ b ∧ b < w a 3) ∧ r1 = zI 0 ∧ ∃ h, hgN (w a) b (w a (101 + b)) = some [h] ∧ M2 61 0 0 = zI h)) → ok_X12_height (zI a) (zI b) M2 (fun r4 _ M5 => P M5 r1 r4) := by
    intro M2 r1 hf hC hr
    obtain ⟨hM2, hF2⟩ := RLz_m hR hf
    have e0 := hM2.1
    refine en_X12_height (bl_X12_height_0 _ _ _ _ ?_)
    rintro M3 rfl
    have row : 0 ≤ a → a < n → ∀ j, 0 ≤ j → j < 585 → M2 50 0 (585 * a + j).toNat = zI (w a j) := fun h1 h2 => MR_RW hM2 h1 h2
    have i4 : 0 ≤ a → a < n → 0 ≤ w a 3 ∧ w a 3 ≤ 4 := fun h1 h2 => by have := (hG.2.2 a h1 h2).2.1; omega
    rcases hr with ⟨q, hr⟩ | ⟨q, hr, hgt, hh, hv2⟩
    · have fin := ro_thr hR hP hf hC (fm_7 (x := zI 0) (fm_rf _ _ _)) (FA_7 hF2) hr (by omega)
      by_cases q3 : a < 0
      · simp (disch := omega) only [jup_self, jup_ne, z_add, z_sub, z_mul, z_neg, z_leT, z_leF, z_ltT, z_ltF, z_eqT, z_eqF, z_inT, z_clamp, z_nI, z_0, z_1, z_2, z_3, z_4, z_5, z_6, z_7, z_8, z_9, z_10, z_11, z_12, z_13, z_14, z_15, z_16, z_17, z_18, z_19, z_20, z_21, z_22, z_23, z_24, z_25, z_26, z_27, z_28, z_29, z_30, z_31, z_32, z_33, z_34, z_35, z_36, z_37, z_38, z_39, z_40, z_41, z_42, z_43, z_44, z_45, z_46, z_47, z_48, z_49, z_50, z_51, z_52, z_53, z_54, z_55, z_56, z_57, z_58, z_59, z_60, z_61, z_77, z_91, z_93, z_97, z_100, z_101, z_102, z_103, z_105, z_111, z_114, z_120, z_123, z_125, z_126, z_200, z_245, z_255, z_576, z_585, z_1000, z_2000, z_3510, z_11700, true_implies, false_implies, implies_true, not_true_eq_false, not_false_eq_true, true_and, and_true, false_and, and_false, ↓reduceIte, Int.reduceToNat, Int.reduceNeg, Int.toNat_natCast, e0]
        rintro M4 rfl
        exact fin _
      · by_cases q4 : n ≤ a
        · simp (disch := omega) only [jup_self, jup_ne, z_add, z_sub, z_mul, z_neg, z_leT, z_leF, z_ltT, z_ltF, z_eqT, z_eqF, z_inT, z_clamp, z_nI, z_0, z_1, z_2, z_3, z_4, z_5, z_6, z_7, z_8, z_9, z_10, z_11, z_12, z_13, z_14, z_15, z_16, z_17, z_18, z_19, z_20, z_21, z_22, z_23, z_24, z_25, z_26, z_27, z_28, z_29, z_30, z_31, z_32, z_33, z_34, z_35, z_36, z_37, z_38, z_39, z_40, z_41, z_42, z_43, z_44, z_45, z_46, z_47, z_48, z_49, z_50, z_51, z_52, z_53, z_54, z_55, z_56, z_57, z_58, z_59, z_60, z_61, z_77, z_91, z_93, z_97, z_100, z_101, z_102, z_103, z_105, z_111, z_114, z_120, z_123, z_125, z_126, z_200, z_245, z_255, z_576, z_585, z_1000, z_2000, z_3510, z_11700, true_implies, false_implies, implies_true, not_true_eq_false, not_false_eq_true, true_and, and_true, false_and, and_false, ↓reduceIte, Int.reduceToNat, Int.reduceNeg, Int.toNat_natCast, e0]
          rintro M4 rfl
          exact fin _
        · have hRow := row (by omega) (by omega)
          have h4 := i4 (by omega) (by omega)
          by_cases q5 : b < 0
          · simp (disch := omega) only [jup_self, jup_ne, z_add, z_sub, z_mul, z_neg, z_leT, z_leF, z_ltT, z_ltF, z_eqT, z_eqF, z_inT, z_clamp, z_nI, z_0, z_1, z_2, z_3, z_4, z_5, z_6, z_7, z_8, z_9, z_10, z_11, z_12, z_13, z_14, z_15, z_16, z_17, z_18, z_19, z_20, z_21, z_22, z_23, z_24, z_25, z_26, z_27, z_28, z_29, z_30, z_31, z_32, z_33, z_34, z_35, z_36, z_37, z_38, z_39, z_40, z_41, z_42, z_43, z_44, z_45, z_46, z_47, z_48, z_49, z_50, z_51, z_52, z_53, z_54, z_55, z_56, z_57, z_58, z_59, z_60, z_61, z_77, z_91, z_93, z_97, z_100, z_101, z_102, z_103, z_105, z_111, z_114, z_120, z_123, z_125, z_126, z_200, z_245, z_255, z_576, z_585, z_1000, z_2000, z_3510, z_11700, true_implies, false_implies, implies_true, not_true_eq_false, not_false_eq_true, true_and, and_true, false_and, and_false, ↓reduceIte, Int.reduceToNat, Int.reduceNeg, Int.toNat_natCast, e0, hRow]
            rintro M4 rfl
            exact fin _
          · simp (disch := omega) only [jup_self, jup_ne, z_add, z_sub, z_mul, z_neg, z_leT, z_leF, z_ltT, z_ltF, z_eqT, z_eqF, z_inT, z_clamp, z_nI, z_0, z_1, z_2, z_3, z_4, z_5, z_6, z_7, z_8, z_9, z_10, z_11, z_12, z_13, z_14, z_15, z_16, z_17, z_18, z_19, z_20, z_21, z_22, z_23, z_24, z_25, z_26, z_27, z_28, z_29, z_30, z_31, z_32, z_33, z_34, z_35, z_36, z_37, z_38, z_39, z_40, z_41, z_42, z_43, z_44, z_45, z_46, z_47, z_48, z_49, z_50, z_51, z_52, z_53, z_54, z_55, z_56, z_57, z_58, z_59, z_60, z_61, z_77, z_91, z_93, z_97, z_100, z_101, z_102, z_103, z_105, z_111, z_114, z_120, z_123, z_125, z_126, z_200, z_245, z_255, z_576, z_585, z_1000, z_2000, z_3510, z_11700, true_implies, false_implies, implies_true, not_true_eq_false, not_false_eq_true, true_and, and_true, false_and, and_false, ↓reduceIte, Int.reduceToNat, Int.reduceNeg, Int.toNat_natCast, e0, hRow]
            rintro M4 rfl
            exact fin _
    · have hRow := row (by omega) (by omega)
      have h4 := i4 (by omega) (by omega)
      have hst := (hG.2.2 a q.1.1 q.1.2).2.2.2.1 b q.2.1 q.2.2
      have hl := hst.1
      have htk := hst.2.2
      have h44 := (hG.2.2 a q.1.1 q.1.2).2.1
      have loop : ∀ (d : Nat) (kk : Int) (v3 v4 : Int32) (M4 : jM) (hs : List Int), kk + d = w a (101 + b) → 0 ≤ kk → hgN (w a) b kk = some hs → v3 = zI hs.length → v4 = zI kk → fm [57] [] (jup M2 11 0 7 (zI 0)) M4 → skZ (M4 57 0) hs → (∀ x ∈ hs, 1 ≤ x ∧ x ≤ 1 + kk) → at_X12_height_25 (zI a) (zI b) v3 v4 M4 (fun r4 _ M5 => P M5 r1 r4) := by
        intro d
        induction d with
        | zero =>
          intro kk v3 v4 M4 hs hd k0 he h3 h4' hfr hsk hin
          subst h3 h4'
          refine bl_X12_height_25 _ _ _ _ _ _ ?_
          have ek : kk = w a (101 + b) := by omega
          rw [ek] at he
          have e1 : hs = [hgt] := Option.some.inj (he.symm.trans hh)
          subst e1
          have h57 : M4 57 0 0 = zI hgt := hsk.1
          have hRow4 : ∀ j, 0 ≤ j → j < 585 → M4 50 0 (585 * a + j).toNat = zI (w a j) := fun j j0 j1 => by rw [hfr.1 50 (by decide) (by decide), jup_R (by decide)]; exact hRow j j0 j1
          rw [ek]
          simp (disch := omega) only [z_add, z_sub, z_mul, z_neg, z_leT, z_leF, z_ltT, z_ltF, z_eqT, z_eqF, z_inT, z_clamp, z_nI, z_0, z_1, z_2, z_3, z_4, z_5, z_6, z_7, z_8, z_9, z_10, z_11, z_12, z_13, z_14, z_15, z_16, z_17, z_18, z_19, z_20, z_21, z_22, z_23, z_24, z_25, z_26, z_27, z_28, z_29, z_30, z_31, z_32, z_33, z_34, z_35, z_36, z_37, z_38, z_39, z_40, z_41, z_42, z_43, z_44, z_45, z_46, z_47, z_48, z_49, z_50, z_51, z_52, z_53, z_54, z_55, z_56, z_57, z_58, z_59, z_60, z_61, z_77, z_91, z_93, z_97, z_100, z_101, z_102, z_103, z_105, z_111, z_114, z_120, z_123, z_125, z_126, z_200, z_245, z_255, z_576, z_585, z_1000, z_2000, z_3510, z_11700, true_implies, false_implies, implies_true, not_true_eq_false, not_false_eq_true, true_and, and_true, false_and, and_false, ↓reduceIte, Int.reduceToNat, Int.reduceNeg, Int.toNat_natCast, hRow4, h57]
          exact ro_val hR hP hf hC (fm_tr (fm_7 (x := zI 0) (fm_rf SM FM M2)) hfr) (FA_fm (FA_7 hF2) hfr) (by rw [hfr.2 7 (by decide), jup_self, hr]) (by rw [hfr.1 61 (by decide) (by decide), jup_R (by decide)]; exact hv2)
        | succ d ih =>
          intro kk v3 v4 M4 hs hd k0 he h3 h4' hfr hsk hin
          subst h3 h4'
          refine bl_X12_height_25 _ _ _ _ _ _ ?_
          have hRow4 : ∀ j, 0 ≤ j → j < 585 → M4 50 0 (585 * a + j).toNat = zI (w a j) := fun j j0 j1 => by rw [hfr.1 50 (by decide) (by decide), jup_R (by decide)]; exact hRow j j0 j1
          have ht := htk kk k0 (by omega)
          obtain ⟨st0, st1, e0', e1, ho, hva⟩ := hgN_at hh k0 (show kk < w a (101 + b) by omega)
          have e2 : st0 = hs := Option.some.inj (e0'.symm.trans he)
          subst e2
          have hle := hgN_le kk.toNat st0 (by rw [show (kk.toNat : Int) = kk by omega]; exact e0')
          by_cases q5 : 101 ≤ w a ((105 + 120 * b) + kk) ∧ w a ((105 + 120 * b) + kk) ≤ 103
          · obtain ⟨y, x, r, e3, e4⟩ := ho q5
            subst e3 e4
            obtain ⟨s1, s2, s3⟩ := hsk
            simp only [List.length_cons] at s1 s2 hle
            have L1 : (((y :: x :: r).length : Nat) : Int) = (r.length : Int) + 2 := by simp; omega
            have E1 : ((r.length : Int) + 2 + -1 - 1).toNat = r.length := by omega
            have E2 : ((r.length : Int) + 2 + -1).toNat = r.length + 1 := by omega
            have hx := hin x (by simp)
            have hy := hin y (by simp)
            rw [L1]
            simp (disch := omega) only [z_add, z_sub, z_mul, z_neg, z_leT, z_leF, z_ltT, z_ltF, z_eqT, z_eqF, z_inT, z_clamp, z_nI, z_0, z_1, z_2, z_3, z_4, z_5, z_6, z_7, z_8, z_9, z_10, z_11, z_12, z_13, z_14, z_15, z_16, z_17, z_18, z_19, z_20, z_21, z_22, z_23, z_24, z_25, z_26, z_27, z_28, z_29, z_30, z_31, z_32, z_33, z_34, z_35, z_36, z_37, z_38, z_39, z_40, z_41, z_42, z_43, z_44, z_45, z_46, z_47, z_48, z_49, z_50, z_51, z_52, z_53, z_54, z_55, z_56, z_57, z_58, z_59, z_60, z_61, z_77, z_91, z_93, z_97, z_100, z_101, z_102, z_103, z_105, z_111, z_114, z_120, z_123, z_125, z_126, z_200, z_245, z_255, z_576, z_585, z_1000, z_2000, z_3510, z_11700, true_implies, false_implies, implies_true, not_true_eq_false, not_false_eq_true, true_and, and_true, false_and, and_false, ↓reduceIte, Int.reduceToNat, Int.reduceNeg, Int.toNat_natCast, hRow4, E1, E2, s1, s2, z_max]
            rintro M5 rfl
            refine ih (kk + 1) _ _ _ _ (by omega) (by omega) e1 (zc (by simp; omega)) rfl (fm_up hfr) ⟨?_, skZ_congr _ (fun j hj => jup_ne (fun z => by omega)) s3⟩ (fun z hz => ?_)
            · rw [jup_self]
            · rcases List.mem_cons.mp hz with hz | hz
              · omega
              · have := hin z (by simp [hz]); omega
          · obtain ⟨hl9, e4⟩ := hva q5
            subst e4
            have E1 : ((st0.length : Nat) : Int).toNat = st0.length := by omega
            have cl : ∀ M5, M5 = jup M4 57 0 st0.length (zI 1) → at_X12_height_25 (zI a) (zI b) (zI (st0.length + 1)) (zI (kk + 1)) M5 (fun r4 _ M5 => P M5 r1 r4) := by
              rintro M5 rfl
              refine ih (kk + 1) _ _ _ _ (by omega) (by omega) e1 (zc (by simp)) rfl (fm_up hfr) ⟨?_, skZ_congr _ (fun j hj => jup_ne (fun z => by omega)) hsk⟩ (fun z hz => ?_)
              · rw [jup_self]
              · rcases List.mem_cons.mp hz with hz | hz
                · omega
                · have := hin z hz; omega
            by_cases q6 : w a ((105 + 120 * b) + kk) < 101
            · simp (disch := omega) only [z_add, z_sub, z_mul, z_neg, z_leT, z_leF, z_ltT, z_ltF, z_eqT, z_eqF, z_inT, z_clamp, z_nI, z_0, z_1, z_2, z_3, z_4, z_5, z_6, z_7, z_8, z_9, z_10, z_11, z_12, z_13, z_14, z_15, z_16, z_17, z_18, z_19, z_20, z_21, z_22, z_23, z_24, z_25, z_26, z_27, z_28, z_29, z_30, z_31, z_32, z_33, z_34, z_35, z_36, z_37, z_38, z_39, z_40, z_41, z_42, z_43, z_44, z_45, z_46, z_47, z_48, z_49, z_50, z_51, z_52, z_53, z_54, z_55, z_56, z_57, z_58, z_59, z_60, z_61, z_77, z_91, z_93, z_97, z_100, z_101, z_102, z_103, z_105, z_111, z_114, z_120, z_123, z_125, z_126, z_200, z_245, z_255, z_576, z_585, z_1000, z_2000, z_3510, z_11700, true_implies, false_implies, implies_true, not_true_eq_false, not_false_eq_true, true_and, and_true, false_and, and_false, ↓reduceIte, Int.reduceToNat, Int.reduceNeg, Int.toNat_natCast, hRow4, E1]
              exact cl
            · simp (disch := omega) only [z_add, z_sub, z_mul, z_neg, z_leT, z_leF, z_ltT, z_ltF, z_eqT, z_eqF, z_inT, z_clamp, z_nI, z_0, z_1, z_2, z_3, z_4, z_5, z_6, z_7, z_8, z_9, z_10, z_11, z_12, z_13, z_14, z_15, z_16, z_17, z_18, z_19, z_20, z_21, z_22, z_23, z_24, z_25, z_26, z_27, z_28, z_29, z_30, z_31, z_32, z_33, z_34, z_35, z_36, z_37, z_38, z_39, z_40, z_41, z_42, z_43, z_44, z_45, z_46, z_47, z_48, z_49, z_50, z_51, z_52, z_53, z_54, z_55, z_56, z_57, z_58, z_59, z_60, z_61, z_77, z_91, z_93, z_97, z_100, z_101, z_102, z_103, z_105, z_111, z_114, z_120, z_123, z_125, z_126, z_200, z_245, z_255, z_576, z_585, z_1000, z_2000, z_3510, z_11700, true_implies, false_implies, implies_true, not_true_eq_false, not_false_eq_true, true_and, and_true, false_and, and_false, ↓reduceIte, Int.reduceToNat, Int.reduceNeg, Int.toNat_natCast, hRow4, E1]
              exact cl
      have := loop (w a (101 + b)).toNat 0 (zI 0) (zI 0) _ [] (by omega) (by omega) hgN_0 rfl rfl (fm_rf _ _ _) trivial (fun x hx => by simp at hx)
      simp (disch := omega) only [jup_self, jup_ne, z_add, z_sub, z_mul, z_neg, z_leT, z_leF, z_ltT, z_ltF, z_eqT, z_eqF, z_inT, z_clamp, z_nI, z_0, z_1, z_2, z_3, z_4, z_5, z_6, z_7, z_8, z_9, z_10, z_11, z_12, z_13, z_14, z_15, z_16, z_17, z_18, z_19, z_20, z_21, z_22, z_23, z_24, z_25, z_26, z_27, z_28, z_29, z_30, z_31, z_32, z_33, z_34, z_35, z_36, z_37, z_38, z_39, z_40, z_41, z_42, z_43, z_44, z_45, z_46, z_47, z_48, z_49, z_50, z_51, z_52, z_53, z_54, z_55, z_56, z_57, z_58, z_59, z_60, z_61, z_77, z_91, z_93, z_97, z_100, z_101, z_102, z_103, z_105, z_111, z_114, z_120, z_123, z_125, z_126, z_200, z_245, z_255, z_576, z_585, z_1000, z_2000, z_3510, z_11700, true_implies, false_implies, implies_true, not_true_eq_false, not_false_eq_true, true_and, and_true, false_and, and_false, ↓reduceIte, Int.reduceToNat, Int.reduceNeg, Int.toNat_natCast, e0, hRow]
      exact this
  refine wr_height (en_X11_height (bl_X11_height_0 _ _ _ _ _ ?_))
  refine sta_ok hG hPR a1 a2 b1 b2 hnb (fun l0 l1 s0 s1 bb hb c0 hB => ⟨by have := (hG.2.2 a l0 l1).2.1; omega, rfl, ?_⟩) (fun z => ⟨rfl, hq _ _ (key M _ (fr_rf _ _) hCI (Or.inl ⟨z, z_1⟩))⟩)
  obtain ⟨f, h, r, _, _, d3, ⟨_, _, d6, _⟩, _⟩ := hB.2.2 b s0 s1
  simp (disch := omega) only [z_add, z_sub, z_mul, z_neg, z_leT, z_leF, z_ltT, z_ltF, z_eqT, z_eqF, z_inT, z_clamp, z_nI, z_0, z_1, z_2, z_3, z_4, z_5, z_6, z_7, z_8, z_9, z_10, z_11, z_12, z_13, z_14, z_15, z_16, z_17, z_18, z_19, z_20, z_21, z_22, z_23, z_24, z_25, z_26, z_27, z_28, z_29, z_30, z_31, z_32, z_33, z_34, z_35, z_36, z_37, z_38, z_39, z_40, z_41, z_42, z_43, z_44, z_45, z_46, z_47, z_48, z_49, z_50, z_51, z_52, z_53, z_54, z_55, z_56, z_57, z_58, z_59, z_60, z_61, z_77, z_91, z_93, z_97, z_100, z_101, z_102, z_103, z_105, z_111, z_114, z_120, z_123, z_125, z_126, z_200, z_245, z_255, z_576, z_585, z_1000, z_2000, z_3510, z_11700, true_implies, false_implies, implies_true, not_true_eq_false, not_false_eq_true, true_and, and_true, false_and, and_false, ↓reduceIte, Int.reduceToNat, Int.reduceNeg, Int.toNat_natCast, d6]
  exact hq _ _ (key _ _ (o_fr (fr_rf _ _)) (o_CI hCI) (Or.inr ⟨⟨⟨l0, l1⟩, s0, s1⟩, rfl, h, d3, by rw [jup_self]⟩))
set_option maxHeartbeats 4000000 in
set_option maxRecDepth 100000 in
theorem op_value {M : jM} {k : Nat} {n : Int} {w : Int → Int → Int} {o : Int → Int} {ver : Int} {a b c : Int32} {P : jM → Int32 → Int32 → Prop} {Q : Int32 → Nat → jM → Prop} (hR : RLz M k n w o ver) (hk : k ≤ 2000) (hP : ∀ M5 r1 r4, RLz M5 (k + 1) n w o ver → M5 11 0 7 = r1 → (r1 = 0 → M5 61 0 0 = r4) → P M5 r1 r4) (hq : ∀ r1 M2, ok_X12_value a b c M2 (fun r4 _ M5 => P M5 r1 r4) → Q r1 0 M2) : ok_L_value a b c M Q := by
  obtain ⟨hnb, hv⟩ := RLz_n hR hk
  have hG := hR.1
  have hPR := hR.2.1
  have hCI := hR.2.2.2.1
  have hn := hG.1
  have h6 := hPR.1
  obtain ⟨a, a1, a2, rfl⟩ := zI_of a
  obtain ⟨b, b1, b2, rfl⟩ := zI_of b
  obtain ⟨c, c1, c2, rfl⟩ := zI_of c
  have key : ∀ (M2 : jM) (r1 : Int32), fr SO M M2 → CI M2 n w o ver → ((¬ ((0 ≤ a ∧ a < n) ∧ 0 ≤ b ∧ b < w a 3) ∧ r1 = zI 1) ∨ (((0 ≤ a ∧ a < n) ∧ 0 ≤ b ∧ b < w a 3) ∧ ¬ (w a 0 ≤ c ∧ c ≤ w a 1) ∧ r1 = zI 2) ∨ (((0 ≤ a ∧ a < n) ∧ 0 ≤ b ∧ b < w a 3) ∧ (w a 0 ≤ c ∧ c ≤ w a 1) ∧ r1 = zI 0 ∧ ∃ C, M2 61 0 0 = ((evN (iniC (o 2) C) (w a) b c (w a (101 + b))).headD 0))) → ok_X12_value (zI a) (zI b) (zI c) M2 (fun r4 _ M5 => P M5 r1 r4) := by
    intro M2 r1 hf hC hr
    obtain ⟨hM2, hF2⟩ := RLz_m hR hf
    have e0 := hM2.1
    refine en_X12_value (bl_X12_value_0 _ _ _ _ _ ?_)
    rintro M3 rfl
    have row : 0 ≤ a → a < n → ∀ j, 0 ≤ j → j < 585 → M2 50 0 (585 * a + j).toNat = zI (w a j) := fun h1 h2 => MR_RW hM2 h1 h2
    have i4 : 0 ≤ a → a < n → (0 ≤ w a 3 ∧ w a 3 ≤ 4) ∧ 0 ≤ w a 0 ∧ w a 0 ≤ 30 ∧ 0 ≤ w a 1 ∧ w a 1 ≤ 30 := fun h1 h2 => by have h3 := hG.2.2 a h1 h2; have := h3.2.1; have := h3.1; omega
    rcases hr with ⟨q, hr⟩ | ⟨q, q2, hr⟩ | ⟨q, q2, hr, C, hv2⟩
    · have fin := ro_thr hR hP hf hC (fm_7 (x := zI 0) (fm_rf _ _ _)) (FA_7 hF2) hr (by omega)
      by_cases q3 : a < 0
      · simp (disch := omega) only [jup_self, jup_ne, z_add, z_sub, z_mul, z_neg, z_leT, z_leF, z_ltT, z_ltF, z_eqT, z_eqF, z_inT, z_clamp, z_nI, z_0, z_1, z_2, z_3, z_4, z_5, z_6, z_7, z_8, z_9, z_10, z_11, z_12, z_13, z_14, z_15, z_16, z_17, z_18, z_19, z_20, z_21, z_22, z_23, z_24, z_25, z_26, z_27, z_28, z_29, z_30, z_31, z_32, z_33, z_34, z_35, z_36, z_37, z_38, z_39, z_40, z_41, z_42, z_43, z_44, z_45, z_46, z_47, z_48, z_49, z_50, z_51, z_52, z_53, z_54, z_55, z_56, z_57, z_58, z_59, z_60, z_61, z_77, z_91, z_93, z_97, z_100, z_101, z_102, z_103, z_105, z_111, z_114, z_120, z_123, z_125, z_126, z_200, z_245, z_255, z_576, z_585, z_1000, z_2000, z_3510, z_11700, true_implies, false_implies, implies_true, not_true_eq_false, not_false_eq_true, true_and, and_true, false_and, and_false, ↓reduceIte, Int.reduceToNat, Int.reduceNeg, Int.toNat_natCast, e0]
        rintro M4 rfl
        exact fin _
      · by_cases q4 : n ≤ a
        · simp (disch := omega) only [jup_self, jup_ne, z_add, z_sub, z_mul, z_neg, z_leT, z_leF, z_ltT, z_ltF, z_eqT, z_eqF, z_inT, z_clamp, z_nI, z_0, z_1, z_2, z_3, z_4, z_5, z_6, z_7, z_8, z_9, z_10, z_11, z_12, z_13, z_14, z_15, z_16, z_17, z_18, z_19, z_20, z_21, z_22, z_23, z_24, z_25, z_26, z_27, z_28, z_29, z_30, z_31, z_32, z_33, z_34, z_35, z_36, z_37, z_38, z_39, z_40, z_41, z_42, z_43, z_44, z_45, z_46, z_47, z_48, z_49, z_50, z_51, z_52, z_53, z_54, z_55, z_56, z_57, z_58, z_59, z_60, z_61, z_77, z_91, z_93, z_97, z_100, z_101, z_102, z_103, z_105, z_111, z_114, z_120, z_123, z_125, z_126, z_200, z_245, z_255, z_576, z_585, z_1000, z_2000, z_3510, z_11700, true_implies, false_implies, implies_true, not_true_eq_false, not_false_eq_true, true_and, and_true, false_and, and_false, ↓reduceIte, Int.reduceToNat, Int.reduceNeg, Int.toNat_natCast, e0]
          rintro M4 rfl
          exact fin _
        · have hRow := row (by omega) (by omega)
          have h4 := i4 (by omega) (by omega)
          by_cases q5 : b < 0
          · simp (disch := omega) only [jup_self, jup_ne, z_add, z_sub, z_mul, z_neg, z_leT, z_leF, z_ltT, z_ltF, z_eqT, z_eqF, z_inT, z_clamp, z_nI, z_0, z_1, z_2, z_3, z_4, z_5, z_6, z_7, z_8, z_9, z_10, z_11, z_12, z_13, z_14, z_15, z_16, z_17, z_18, z_19, z_20, z_21, z_22, z_23, z_24, z_25, z_26, z_27, z_28, z_29, z_30, z_31, z_32, z_33, z_34, z_35, z_36, z_37, z_38, z_39, z_40, z_41, z_42, z_43, z_44, z_45, z_46, z_47, z_48, z_49, z_50, z_51, z_52, z_53, z_54, z_55, z_56, z_57, z_58, z_59, z_60, z_61, z_77, z_91, z_93, z_97, z_100, z_101, z_102, z_103, z_105, z_111, z_114, z_120, z_123, z_125, z_126, z_200, z_245, z_255, z_576, z_585, z_1000, z_2000, z_3510, z_11700, true_implies, false_implies, implies_true, not_true_eq_false, not_false_eq_true, true_and, and_true, false_and, and_false, ↓reduceIte, Int.reduceToNat, Int.reduceNeg, Int.toNat_natCast, e0, hRow]
            rintro M4 rfl
            exact fin _
          · simp (disch := omega) only [jup_self, jup_ne, z_add, z_sub, z_mul, z_neg, z_leT, z_leF, z_ltT, z_ltF, z_eqT, z_eqF, z_inT, z_clamp, z_nI, z_0, z_1, z_2, z_3, z_4, z_5, z_6, z_7, z_8, z_9, z_10, z_11, z_12, z_13, z_14, z_15, z_16, z_17, z_18, z_19, z_20, z_21, z_22, z_23, z_24, z_25, z_26, z_27, z_28, z_29, z_30, z_31, z_32, z_33, z_34, z_35, z_36, z_37, z_38, z_39, z_40, z_41, z_42, z_43, z_44, z_45, z_46, z_47, z_48, z_49, z_50, z_51, z_52, z_53, z_54, z_55, z_56, z_57, z_58, z_59, z_60, z_61, z_77, z_91, z_93, z_97, z_100, z_101, z_102, z_103, z_105, z_111, z_114, z_120, z_123, z_125, z_126, z_200, z_245, z_255, z_576, z_585, z_1000, z_2000, z_3510, z_11700, true_implies, false_implies, implies_true, not_true_eq_false, not_false_eq_true, true_and, and_true, false_and, and_false, ↓reduceIte, Int.reduceToNat, Int.reduceNeg, Int.toNat_natCast, e0, hRow]
            rintro M4 rfl
            exact fin _
    · have fin := ro_thr hR hP hf hC (fm_7 (x := zI 0) (fm_rf _ _ _)) (FA_7 hF2) hr (by omega)
      have hRow := row (by omega) (by omega)
      have h4 := i4 (by omega) (by omega)
      by_cases q5 : c < w a 0
      · simp (disch := omega) only [jup_self, jup_ne, z_add, z_sub, z_mul, z_neg, z_leT, z_leF, z_ltT, z_ltF, z_eqT, z_eqF, z_inT, z_clamp, z_nI, z_0, z_1, z_2, z_3, z_4, z_5, z_6, z_7, z_8, z_9, z_10, z_11, z_12, z_13, z_14, z_15, z_16, z_17, z_18, z_19, z_20, z_21, z_22, z_23, z_24, z_25, z_26, z_27, z_28, z_29, z_30, z_31, z_32, z_33, z_34, z_35, z_36, z_37, z_38, z_39, z_40, z_41, z_42, z_43, z_44, z_45, z_46, z_47, z_48, z_49, z_50, z_51, z_52, z_53, z_54, z_55, z_56, z_57, z_58, z_59, z_60, z_61, z_77, z_91, z_93, z_97, z_100, z_101, z_102, z_103, z_105, z_111, z_114, z_120, z_123, z_125, z_126, z_200, z_245, z_255, z_576, z_585, z_1000, z_2000, z_3510, z_11700, true_implies, false_implies, implies_true, not_true_eq_false, not_false_eq_true, true_and, and_true, false_and, and_false, ↓reduceIte, Int.reduceToNat, Int.reduceNeg, Int.toNat_natCast, e0, hRow]
        rintro M4 rfl
        exact fin _
      · simp (disch := omega) only [jup_self, jup_ne, z_add, z_sub, z_mul, z_neg, z_leT, z_leF, z_ltT, z_ltF, z_eqT, z_eqF, z_inT, z_clamp, z_nI, z_0, z_1, z_2, z_3, z_4, z_5, z_6, z_7, z_8, z_9, z_10, z_11, z_12, z_13, z_14, z_15, z_16, z_17, z_18, z_19, z_20, z_21, z_22, z_23, z_24, z_25, z_26, z_27, z_28, z_29, z_30, z_31, z_32, z_33, z_34, z_35, z_36, z_37, z_38, z_39, z_40, z_41, z_42, z_43, z_44, z_45, z_46, z_47, z_48, z_49, z_50, z_51, z_52, z_53, z_54, z_55, z_56, z_57, z_58, z_59, z_60, z_61, z_77, z_91, z_93, z_97, z_100, z_101, z_102, z_103, z_105, z_111, z_114, z_120, z_123, z_125, z_126, z_200, z_245, z_255, z_576, z_585, z_1000, z_2000, z_3510, z_11700, true_implies, false_implies, implies_true, not_true_eq_false, not_false_eq_true, true_and, and_true, false_and, and_false, ↓reduceIte, Int.reduceToNat, Int.reduceNeg, Int.toNat_natCast, e0, hRow]
        rintro M4 rfl
        exact fin _
    · have hRow := row (by omega) (by omega)
      have h4 := i4 (by omega) (by omega)
      have hO := hG.2.2 a q.1.1 q.1.2
      simp (disch := omega) only [jup_self, jup_ne, z_add, z_sub, z_mul, z_neg, z_leT, z_leF, z_ltT, z_ltF, z_eqT, z_eqF, z_inT, z_clamp, z_nI, z_0, z_1, z_2, z_3, z_4, z_5, z_6, z_7, z_8, z_9, z_10, z_11, z_12, z_13, z_14, z_15, z_16, z_17, z_18, z_19, z_20, z_21, z_22, z_23, z_24, z_25, z_26, z_27, z_28, z_29, z_30, z_31, z_32, z_33, z_34, z_35, z_36, z_37, z_38, z_39, z_40, z_41, z_42, z_43, z_44, z_45, z_46, z_47, z_48, z_49, z_50, z_51, z_52, z_53, z_54, z_55, z_56, z_57, z_58, z_59, z_60, z_61, z_77, z_91, z_93, z_97, z_100, z_101, z_102, z_103, z_105, z_111, z_114, z_120, z_123, z_125, z_126, z_200, z_245, z_255, z_576, z_585, z_1000, z_2000, z_3510, z_11700, true_implies, false_implies, implies_true, not_true_eq_false, not_false_eq_true, true_and, and_true, false_and, and_false, ↓reduceIte, Int.reduceToNat, Int.reduceNeg, Int.toNat_natCast, e0, hRow]
      refine mbeg_ok (MR_7 hM2) (fun M4 c1 c2 => ⟨fm_nb c1, ?_⟩)
      have hM4 := MR_fm (MR_7 (x := zI 0) hM2) c1
      refine vo_ok hM4 hG q.1 q.2 (by omega) (fun M5 d1 => ⟨fr_nb d1, ?_⟩)
      have hm : fm SM FM M2 M5 := fm_tr (fm_tr (fm_7 (x := zI 0) (fm_rf SM FM M2)) c1 (S2 := SM) (F2 := FM)) (fr_fm d1 (F := []))
      refine ro_val hR hP hf hC hm ?_ ?_ ?_
      · obtain ⟨fa, f1, f2⟩ := hF2
        exact ⟨fa, f1, by rw [d1 11 (by decide), c1.2 28 (by decide), jup_ne (by omega)]; exact f2⟩
      · rw [d1 11 (by decide), c1.2 7 (by decide), jup_self, hr]
      · rw [fm_61 hm, hv2, c2]
        exact congrArg (fun x => List.headD x 0) (evN_ag hO q.2 (by omega) (Int.le_refl _) (fun y hy => by unfold iniC; rw [if_pos hy, if_pos hy]))
  refine wr_value (en_X11_value (bl_X11_value_0 _ _ _ _ _ _ ?_))
  refine sta_ok hG hPR a1 a2 b1 b2 hnb (fun l0 l1 s0 s1 bb hb c0 hB => ⟨by have := (hG.2.2 a l0 l1).2.1; omega, rfl, ?_⟩) (fun z => Or.inl ⟨rfl, hq _ _ (key M _ (fr_rf _ _) hCI (Or.inl ⟨z, z_1⟩))⟩)
  refine lat_ok hPR hn a1 a2 (fun _ _ => ⟨by omega, rfl, ?_⟩) (fun z => absurd ⟨l0, l1⟩ z)
  obtain ⟨⟨g1, g2, _⟩, _⟩ := hPR.2.2 a l0 l1
  have hO := hG.2.2 a l0 l1
  have h01 := hO.1
  by_cases qc : w a 0 ≤ c ∧ c ≤ w a 1
  · have e40 := hPR.2.1.2.2
    simp (disch := omega) only [z_add, z_sub, z_mul, z_neg, z_leT, z_leF, z_ltT, z_ltF, z_eqT, z_eqF, z_inT, z_clamp, z_nI, z_0, z_1, z_2, z_3, z_4, z_5, z_6, z_7, z_8, z_9, z_10, z_11, z_12, z_13, z_14, z_15, z_16, z_17, z_18, z_19, z_20, z_21, z_22, z_23, z_24, z_25, z_26, z_27, z_28, z_29, z_30, z_31, z_32, z_33, z_34, z_35, z_36, z_37, z_38, z_39, z_40, z_41, z_42, z_43, z_44, z_45, z_46, z_47, z_48, z_49, z_50, z_51, z_52, z_53, z_54, z_55, z_56, z_57, z_58, z_59, z_60, z_61, z_77, z_91, z_93, z_97, z_100, z_101, z_102, z_103, z_105, z_111, z_114, z_120, z_123, z_125, z_126, z_200, z_245, z_255, z_576, z_585, z_1000, z_2000, z_3510, z_11700, true_implies, false_implies, implies_true, not_true_eq_false, not_false_eq_true, true_and, and_true, false_and, and_false, ↓reduceIte, Int.reduceToNat, Int.reduceNeg, Int.toNat_natCast, g1, g2, e40]
    refine beg_ok (by omega) (fun M3 d1 d2 d3 => ⟨fr_nb d2, ?_⟩)
    have F3 := d2 3 (by decide)
    have E : ((bb : Nat) : Int).toNat = bb := by omega
    simp (disch := omega) only [z_add, z_sub, z_mul, z_neg, z_leT, z_leF, z_ltT, z_ltF, z_eqT, z_eqF, z_inT, z_clamp, z_nI, z_0, z_1, z_2, z_3, z_4, z_5, z_6, z_7, z_8, z_9, z_10, z_11, z_12, z_13, z_14, z_15, z_16, z_17, z_18, z_19, z_20, z_21, z_22, z_23, z_24, z_25, z_26, z_27, z_28, z_29, z_30, z_31, z_32, z_33, z_34, z_35, z_36, z_37, z_38, z_39, z_40, z_41, z_42, z_43, z_44, z_45, z_46, z_47, z_48, z_49, z_50, z_51, z_52, z_53, z_54, z_55, z_56, z_57, z_58, z_59, z_60, z_61, z_77, z_91, z_93, z_97, z_100, z_101, z_102, z_103, z_105, z_111, z_114, z_120, z_123, z_125, z_126, z_200, z_245, z_255, z_576, z_585, z_1000, z_2000, z_3510, z_11700, true_implies, false_implies, implies_true, not_true_eq_false, not_false_eq_true, true_and, and_true, false_and, and_false, ↓reduceIte, Int.reduceToNat, Int.reduceNeg, Int.toNat_natCast, F3, c0, E]
    have hB3 : BR M3 bb (w a) := by
      unfold BR BRs at *
      rw [d2 0 (by decide), d2 7 (by decide), d2 20 (by decide), d2 21 (by decide), d2 22 (by decide), d2 24 (by decide), d2 25 (by decide), d2 26 (by decide)]
      exact hB
    refine ev_ok (by omega) (by rw [fr_nb d2]; exact hb) hB3 hO ⟨s0, s1⟩ (by omega) (fun M4 f1 => ⟨fr_nb f1, by rw [fr_nb f1, fr_nb d2], ?_⟩)
    have hf4 : fr SO M M4 := fr_tr d2 f1
    have hC4 : CI M4 n w o ver := CI_eq hCI (by rw [hf4 6 (by decide)]) (by rw [f1 1 (by decide), d2 1 (by decide)]) (by rw [f1 5 (by decide), d2 5 (by decide)]) (by rw [f1 29 (by decide), d2 29 (by decide)]) (fun k => by rw [f1 33 (by decide), d1.2 (k + 1) (by omega)]) (by rw [f1 35 (by decide), d2 35 (by decide)])
    exact hq _ _ (key _ _ (o_fr hf4) (o_CI hC4) (Or.inr (Or.inr ⟨⟨⟨l0, l1⟩, s0, s1⟩, qc, rfl, M 33 0, by rw [jup_self, d3]⟩)))
  · have f3 := hq _ _ (key M _ (fr_rf _ _) hCI (Or.inr (Or.inl ⟨⟨⟨l0, l1⟩, s0, s1⟩, qc, rfl⟩)))
    by_cases q5 : c < w a 0
    · simp (disch := omega) only [z_add, z_sub, z_mul, z_neg, z_leT, z_leF, z_ltT, z_ltF, z_eqT, z_eqF, z_inT, z_clamp, z_nI, z_0, z_1, z_2, z_3, z_4, z_5, z_6, z_7, z_8, z_9, z_10, z_11, z_12, z_13, z_14, z_15, z_16, z_17, z_18, z_19, z_20, z_21, z_22, z_23, z_24, z_25, z_26, z_27, z_28, z_29, z_30, z_31, z_32, z_33, z_34, z_35, z_36, z_37, z_38, z_39, z_40, z_41, z_42, z_43, z_44, z_45, z_46, z_47, z_48, z_49, z_50, z_51, z_52, z_53, z_54, z_55, z_56, z_57, z_58, z_59, z_60, z_61, z_77, z_91, z_93, z_97, z_100, z_101, z_102, z_103, z_105, z_111, z_114, z_120, z_123, z_125, z_126, z_200, z_245, z_255, z_576, z_585, z_1000, z_2000, z_3510, z_11700, true_implies, false_implies, implies_true, not_true_eq_false, not_false_eq_true, true_and, and_true, false_and, and_false, ↓reduceIte, Int.reduceToNat, Int.reduceNeg, Int.toNat_natCast, g1, g2]
      first | exact Or.inl f3 | exact Or.inr f3 | exact Or.inr (Or.inl f3) | exact Or.inr (Or.inr f3)
    · simp (disch := omega) only [z_add, z_sub, z_mul, z_neg, z_leT, z_leF, z_ltT, z_ltF, z_eqT, z_eqF, z_inT, z_clamp, z_nI, z_0, z_1, z_2, z_3, z_4, z_5, z_6, z_7, z_8, z_9, z_10, z_11, z_12, z_13, z_14, z_15, z_16, z_17, z_18, z_19, z_20, z_21, z_22, z_23, z_24, z_25, z_26, z_27, z_28, z_29, z_30, z_31, z_32, z_33, z_34, z_35, z_36, z_37, z_38, z_39, z_40, z_41, z_42, z_43, z_44, z_45, z_46, z_47, z_48, z_49, z_50, z_51, z_52, z_53, z_54, z_55, z_56, z_57, z_58, z_59, z_60, z_61, z_77, z_91, z_93, z_97, z_100, z_101, z_102, z_103, z_105, z_111, z_114, z_120, z_123, z_125, z_126, z_200, z_245, z_255, z_576, z_585, z_1000, z_2000, z_3510, z_11700, true_implies, false_implies, implies_true, not_true_eq_false, not_false_eq_true, true_and, and_true, false_and, and_false, ↓reduceIte, Int.reduceToNat, Int.reduceNeg, Int.toNat_natCast, g1, g2]
      first | exact Or.inl f3 | exact Or.inr f3 | exact Or.inr (Or.inl f3) | exact Or.inr (Or.inr f3)
