set_option maxHeartbeats 4000000 in
set_option maxRecDepth 100000 in
theorem op_cell {M : jM} {k : Nat} {n : Int} {w : Int → Int → Int} {o : Int → Int} {ver : Int} {a b c : Int32} {P : jM → Int32 → Int32 → Prop} {Q : Int32 → Nat → jM → Prop} (hR : RLz M k n w o ver) (hk : k ≤ 2000) (hP : ∀ M5 r1 r4, RLz M5 (k + 1) n w o ver → M5 11 0 7 = r1 → (r1 = 0 → M5 61 0 0 = r4) → P M5 r1 r4) (hq : ∀ r1 M2, ok_X12_cell a b c M2 (fun r4 _ M5 => P M5 r1 r4) → Q r1 0 M2) : ok_L_cell a b c M Q := by
  obtain ⟨hnb, hv⟩ := RLz_n hR hk
  have hG := hR.1
  have hPR := hR.2.1
  have hCI := hR.2.2.2.1
  have hn := hG.1
  have h6 := hPR.1
  obtain ⟨a, a1, a2, rfl⟩ := zI_of a
  obtain ⟨b, b1, b2, rfl⟩ := zI_of b
  obtain ⟨c, c1, c2, rfl⟩ := zI_of c
  have key : ∀ (M2 : jM) (r1 : Int32), fr SO M M2 → CI M2 n w o ver → ((¬ (0 ≤ a ∧ a ≤ 2) ∧ r1 = zI 1) ∨ ((0 ≤ a ∧ a ≤ 2) ∧ ¬ ((0 ≤ b ∧ b ≤ 4) ∧ -9 ≤ c ∧ c ≤ 39) ∧ r1 = zI 2) ∨ ((0 ≤ a ∧ a ≤ 2) ∧ ((0 ≤ b ∧ b ≤ 4) ∧ -9 ≤ c ∧ c ≤ 39) ∧ r1 = zI 0 ∧ ∃ T C, isNG (az w o n a) n T ∧ M2 61 0 0 = rnC w o (az w o n a) T C (49 * b + c + 9).toNat)) → ok_X12_cell (zI a) (zI b) (zI c) M2 (fun r4 _ M5 => P M5 r1 r4) := by
    intro M2 r1 hf hC hr
    obtain ⟨hM2, hF2⟩ := RLz_m hR hf
    refine en_X12_cell (bl_X12_cell_0 _ _ _ _ _ ?_)
    have dead : ∀ (x : Int) (M3 : jM) (A : Prop), 1 ≤ x ∧ x ≤ 3 → M3 = jup M2 11 0 7 (zI x) → r1 = zI x → (M3 11 0 7 ≤ zI 0 → A) ∧ (¬ (M3 11 0 7 ≤ zI 0) → P M3 r1 (zI 0)) := by
      rintro x M3 A hx rfl hrx
      have fin := ro_thr hR hP hf hC (fm_rf _ _ M2) hF2 hrx hx
      exact ⟨fun z => by rw [jup_self, z_leF (by omega)] at z; exact z.elim, fun _ => fin _⟩
    rcases hr with ⟨q, hr⟩ | ⟨q, q2, hr⟩ | ⟨q, q2, hr, T, C, hT, hv2⟩
    · by_cases q4 : a < 0
      · simp (disch := omega) only [z_add, z_sub, z_mul, z_neg, z_leT, z_leF, z_ltT, z_ltF, z_eqT, z_eqF, z_inT, z_clamp, z_nI, z_0, z_1, z_2, z_3, z_4, z_5, z_6, z_7, z_8, z_9, z_10, z_11, z_12, z_13, z_14, z_15, z_16, z_17, z_18, z_19, z_20, z_21, z_22, z_23, z_24, z_25, z_26, z_27, z_28, z_29, z_30, z_31, z_32, z_33, z_34, z_35, z_36, z_37, z_38, z_39, z_40, z_41, z_42, z_43, z_44, z_45, z_46, z_47, z_48, z_49, z_50, z_51, z_52, z_53, z_54, z_55, z_56, z_57, z_58, z_59, z_60, z_61, z_77, z_91, z_93, z_97, z_100, z_101, z_102, z_103, z_105, z_111, z_114, z_120, z_123, z_125, z_126, z_200, z_245, z_255, z_576, z_585, z_1000, z_2000, z_3510, z_11700, true_implies, false_implies, implies_true, not_true_eq_false, not_false_eq_true, true_and, and_true, false_and, and_false, ↓reduceIte, Int.reduceToNat, Int.reduceNeg, Int.toNat_natCast]
        exact fun M3 h3 => dead 1 M3 _ (by omega) h3 hr
      · simp (disch := omega) only [z_add, z_sub, z_mul, z_neg, z_leT, z_leF, z_ltT, z_ltF, z_eqT, z_eqF, z_inT, z_clamp, z_nI, z_0, z_1, z_2, z_3, z_4, z_5, z_6, z_7, z_8, z_9, z_10, z_11, z_12, z_13, z_14, z_15, z_16, z_17, z_18, z_19, z_20, z_21, z_22, z_23, z_24, z_25, z_26, z_27, z_28, z_29, z_30, z_31, z_32, z_33, z_34, z_35, z_36, z_37, z_38, z_39, z_40, z_41, z_42, z_43, z_44, z_45, z_46, z_47, z_48, z_49, z_50, z_51, z_52, z_53, z_54, z_55, z_56, z_57, z_58, z_59, z_60, z_61, z_77, z_91, z_93, z_97, z_100, z_101, z_102, z_103, z_105, z_111, z_114, z_120, z_123, z_125, z_126, z_200, z_245, z_255, z_576, z_585, z_1000, z_2000, z_3510, z_11700, true_implies, false_implies, implies_true, not_true_eq_false, not_false_eq_true, true_and, and_true, false_and, and_false, ↓reduceIte, Int.reduceToNat, Int.reduceNeg, Int.toNat_natCast]
        exact fun M3 h3 => dead 1 M3 _ (by omega) h3 hr
    · by_cases q3 : 0 ≤ b ∧ b ≤ 4
      · by_cases q4 : c < -9
        · simp (disch := omega) only [z_add, z_sub, z_mul, z_neg, z_leT, z_leF, z_ltT, z_ltF, z_eqT, z_eqF, z_inT, z_clamp, z_nI, z_0, z_1, z_2, z_3, z_4, z_5, z_6, z_7, z_8, z_9, z_10, z_11, z_12, z_13, z_14, z_15, z_16, z_17, z_18, z_19, z_20, z_21, z_22, z_23, z_24, z_25, z_26, z_27, z_28, z_29, z_30, z_31, z_32, z_33, z_34, z_35, z_36, z_37, z_38, z_39, z_40, z_41, z_42, z_43, z_44, z_45, z_46, z_47, z_48, z_49, z_50, z_51, z_52, z_53, z_54, z_55, z_56, z_57, z_58, z_59, z_60, z_61, z_77, z_91, z_93, z_97, z_100, z_101, z_102, z_103, z_105, z_111, z_114, z_120, z_123, z_125, z_126, z_200, z_245, z_255, z_576, z_585, z_1000, z_2000, z_3510, z_11700, true_implies, false_implies, implies_true, not_true_eq_false, not_false_eq_true, true_and, and_true, false_and, and_false, ↓reduceIte, Int.reduceToNat, Int.reduceNeg, Int.toNat_natCast]
          exact fun M3 h3 => dead 2 M3 _ (by omega) h3 hr
        · simp (disch := omega) only [z_add, z_sub, z_mul, z_neg, z_leT, z_leF, z_ltT, z_ltF, z_eqT, z_eqF, z_inT, z_clamp, z_nI, z_0, z_1, z_2, z_3, z_4, z_5, z_6, z_7, z_8, z_9, z_10, z_11, z_12, z_13, z_14, z_15, z_16, z_17, z_18, z_19, z_20, z_21, z_22, z_23, z_24, z_25, z_26, z_27, z_28, z_29, z_30, z_31, z_32, z_33, z_34, z_35, z_36, z_37, z_38, z_39, z_40, z_41, z_42, z_43, z_44, z_45, z_46, z_47, z_48, z_49, z_50, z_51, z_52, z_53, z_54, z_55, z_56, z_57, z_58, z_59, z_60, z_61, z_77, z_91, z_93, z_97, z_100, z_101, z_102, z_103, z_105, z_111, z_114, z_120, z_123, z_125, z_126, z_200, z_245, z_255, z_576, z_585, z_1000, z_2000, z_3510, z_11700, true_implies, false_implies, implies_true, not_true_eq_false, not_false_eq_true, true_and, and_true, false_and, and_false, ↓reduceIte, Int.reduceToNat, Int.reduceNeg, Int.toNat_natCast]
          exact fun M3 h3 => dead 2 M3 _ (by omega) h3 hr
      · by_cases q4 : b < 0
        · simp (disch := omega) only [z_add, z_sub, z_mul, z_neg, z_leT, z_leF, z_ltT, z_ltF, z_eqT, z_eqF, z_inT, z_clamp, z_nI, z_0, z_1, z_2, z_3, z_4, z_5, z_6, z_7, z_8, z_9, z_10, z_11, z_12, z_13, z_14, z_15, z_16, z_17, z_18, z_19, z_20, z_21, z_22, z_23, z_24, z_25, z_26, z_27, z_28, z_29, z_30, z_31, z_32, z_33, z_34, z_35, z_36, z_37, z_38, z_39, z_40, z_41, z_42, z_43, z_44, z_45, z_46, z_47, z_48, z_49, z_50, z_51, z_52, z_53, z_54, z_55, z_56, z_57, z_58, z_59, z_60, z_61, z_77, z_91, z_93, z_97, z_100, z_101, z_102, z_103, z_105, z_111, z_114, z_120, z_123, z_125, z_126, z_200, z_245, z_255, z_576, z_585, z_1000, z_2000, z_3510, z_11700, true_implies, false_implies, implies_true, not_true_eq_false, not_false_eq_true, true_and, and_true, false_and, and_false, ↓reduceIte, Int.reduceToNat, Int.reduceNeg, Int.toNat_natCast]
          exact fun M3 h3 => dead 2 M3 _ (by omega) h3 hr
        · simp (disch := omega) only [z_add, z_sub, z_mul, z_neg, z_leT, z_leF, z_ltT, z_ltF, z_eqT, z_eqF, z_inT, z_clamp, z_nI, z_0, z_1, z_2, z_3, z_4, z_5, z_6, z_7, z_8, z_9, z_10, z_11, z_12, z_13, z_14, z_15, z_16, z_17, z_18, z_19, z_20, z_21, z_22, z_23, z_24, z_25, z_26, z_27, z_28, z_29, z_30, z_31, z_32, z_33, z_34, z_35, z_36, z_37, z_38, z_39, z_40, z_41, z_42, z_43, z_44, z_45, z_46, z_47, z_48, z_49, z_50, z_51, z_52, z_53, z_54, z_55, z_56, z_57, z_58, z_59, z_60, z_61, z_77, z_91, z_93, z_97, z_100, z_101, z_102, z_103, z_105, z_111, z_114, z_120, z_123, z_125, z_126, z_200, z_245, z_255, z_576, z_585, z_1000, z_2000, z_3510, z_11700, true_implies, false_implies, implies_true, not_true_eq_false, not_false_eq_true, true_and, and_true, false_and, and_false, ↓reduceIte, Int.reduceToNat, Int.reduceNeg, Int.toNat_natCast]
          exact fun M3 h3 => dead 2 M3 _ (by omega) h3 hr
    · simp (disch := omega) only [z_add, z_sub, z_mul, z_neg, z_leT, z_leF, z_ltT, z_ltF, z_eqT, z_eqF, z_inT, z_clamp, z_nI, z_0, z_1, z_2, z_3, z_4, z_5, z_6, z_7, z_8, z_9, z_10, z_11, z_12, z_13, z_14, z_15, z_16, z_17, z_18, z_19, z_20, z_21, z_22, z_23, z_24, z_25, z_26, z_27, z_28, z_29, z_30, z_31, z_32, z_33, z_34, z_35, z_36, z_37, z_38, z_39, z_40, z_41, z_42, z_43, z_44, z_45, z_46, z_47, z_48, z_49, z_50, z_51, z_52, z_53, z_54, z_55, z_56, z_57, z_58, z_59, z_60, z_61, z_77, z_91, z_93, z_97, z_100, z_101, z_102, z_103, z_105, z_111, z_114, z_120, z_123, z_125, z_126, z_200, z_245, z_255, z_576, z_585, z_1000, z_2000, z_3510, z_11700, true_implies, false_implies, implies_true, not_true_eq_false, not_false_eq_true, true_and, and_true, false_and, and_false, ↓reduceIte, Int.reduceToNat, Int.reduceNeg, Int.toNat_natCast]
      rintro M3 rfl
      rw [jup_self]
      refine ⟨fun _ => ?_, fun z => absurd (by rw [z_leT (by omega)]; trivial) z⟩
      refine set_ok hG (MR_7 hM2) (FA_7 hF2) q (fun M4 S c1 c2 c3 c4 => ⟨fm_nb c1, ?_⟩)
      refine rn_ok hG (MR_fm (MR_7 hM2) c1) az_ok hT (c3 T hT) (fun M5 d1 d2 => ⟨fm_nb d1, ?_⟩)
      have hm : fm SM FM M2 M5 := fm_tr (fm_tr (fm_7 (x := zI 0) (fm_rf SM FM M2)) c1 (S2 := SM) (F2 := FM)) d1
      refine ro_val hR hP hf hC hm (FA_fm c2 d1) (by rw [d1.2 7 (by decide), c1.2 7 (by decide), jup_self, hr]) ?_
      rw [fm_61 hm, hv2, d2]
      exact rnC_ag hG az_ok hT _ _ _ (by omega)
  refine wr_cell (en_X11_cell (bl_X11_cell_0 _ _ _ _ _ _ ?_))
  refine po_ok hG hPR hnb hCI hv ⟨a1, a2⟩ (fun k0 k1 M3 T f1 f2 f3 f4 => ⟨by omega, fr_nb f1, ?_⟩) (fun z => Or.inl ⟨rfl, hq _ _ (key M _ (fr_rf _ _) hCI (Or.inl ⟨z, z_1⟩))⟩)
  by_cases qb : (0 ≤ b ∧ b ≤ 4) ∧ -9 ≤ c ∧ c ≤ 39
  · simp (disch := omega) only [z_add, z_sub, z_mul, z_neg, z_leT, z_leF, z_ltT, z_ltF, z_eqT, z_eqF, z_inT, z_clamp, z_nI, z_0, z_1, z_2, z_3, z_4, z_5, z_6, z_7, z_8, z_9, z_10, z_11, z_12, z_13, z_14, z_15, z_16, z_17, z_18, z_19, z_20, z_21, z_22, z_23, z_24, z_25, z_26, z_27, z_28, z_29, z_30, z_31, z_32, z_33, z_34, z_35, z_36, z_37, z_38, z_39, z_40, z_41, z_42, z_43, z_44, z_45, z_46, z_47, z_48, z_49, z_50, z_51, z_52, z_53, z_54, z_55, z_56, z_57, z_58, z_59, z_60, z_61, z_77, z_91, z_93, z_97, z_100, z_101, z_102, z_103, z_105, z_111, z_114, z_120, z_123, z_125, z_126, z_200, z_245, z_255, z_576, z_585, z_1000, z_2000, z_3510, z_11700, true_implies, false_implies, implies_true, not_true_eq_false, not_false_eq_true, true_and, and_true, false_and, and_false, ↓reduceIte, Int.reduceToNat, Int.reduceNeg, Int.toNat_natCast]
    refine ex2_ok hG (PR_r hPR f1) (by rw [fr_nb f1]; exact hnb) f2 hv ⟨k0, k1⟩ f3 f4 (fun M4 C d1 d2 d3 => ⟨fr_nb d1, ?_⟩)
    have hf4 : fr SO M M4 := fr_tr f1 d1
    have enb : jnb M4 = jnb M := fr_nb hf4
    have ei : (b * 49 + c - -9).toNat = (49 * b + c + 9).toNat := by omega
    simp (disch := omega) only [z_add, z_sub, z_mul, z_neg, z_leT, z_leF, z_ltT, z_ltF, z_eqT, z_eqF, z_inT, z_clamp, z_nI, z_0, z_1, z_2, z_3, z_4, z_5, z_6, z_7, z_8, z_9, z_10, z_11, z_12, z_13, z_14, z_15, z_16, z_17, z_18, z_19, z_20, z_21, z_22, z_23, z_24, z_25, z_26, z_27, z_28, z_29, z_30, z_31, z_32, z_33, z_34, z_35, z_36, z_37, z_38, z_39, z_40, z_41, z_42, z_43, z_44, z_45, z_46, z_47, z_48, z_49, z_50, z_51, z_52, z_53, z_54, z_55, z_56, z_57, z_58, z_59, z_60, z_61, z_77, z_91, z_93, z_97, z_100, z_101, z_102, z_103, z_105, z_111, z_114, z_120, z_123, z_125, z_126, z_200, z_245, z_255, z_576, z_585, z_1000, z_2000, z_3510, z_11700, true_implies, false_implies, implies_true, not_true_eq_false, not_false_eq_true, true_and, and_true, false_and, and_false, ↓reduceIte, Int.reduceToNat, Int.reduceNeg, Int.toNat_natCast, enb, ei]
    exact hq _ _ (key _ _ (o_fr hf4) (o_CI d2) (Or.inr (Or.inr ⟨⟨k0, k1⟩, qb, rfl, T, C, f4.1, by rw [jup_self, d3]⟩)))
  · have f3' := hq _ _ (key M3 _ (fr_mono f1) f2 (Or.inr (Or.inl ⟨⟨k0, k1⟩, qb, rfl⟩)))
    by_cases q1 : b < 0
    · simp (disch := omega) only [z_add, z_sub, z_mul, z_neg, z_leT, z_leF, z_ltT, z_ltF, z_eqT, z_eqF, z_inT, z_clamp, z_nI, z_0, z_1, z_2, z_3, z_4, z_5, z_6, z_7, z_8, z_9, z_10, z_11, z_12, z_13, z_14, z_15, z_16, z_17, z_18, z_19, z_20, z_21, z_22, z_23, z_24, z_25, z_26, z_27, z_28, z_29, z_30, z_31, z_32, z_33, z_34, z_35, z_36, z_37, z_38, z_39, z_40, z_41, z_42, z_43, z_44, z_45, z_46, z_47, z_48, z_49, z_50, z_51, z_52, z_53, z_54, z_55, z_56, z_57, z_58, z_59, z_60, z_61, z_77, z_91, z_93, z_97, z_100, z_101, z_102, z_103, z_105, z_111, z_114, z_120, z_123, z_125, z_126, z_200, z_245, z_255, z_576, z_585, z_1000, z_2000, z_3510, z_11700, true_implies, false_implies, implies_true, not_true_eq_false, not_false_eq_true, true_and, and_true, false_and, and_false, ↓reduceIte, Int.reduceToNat, Int.reduceNeg, Int.toNat_natCast]
      first | exact Or.inl f3' | exact Or.inr f3'
    · by_cases q2 : 5 ≤ b
      · simp (disch := omega) only [z_add, z_sub, z_mul, z_neg, z_leT, z_leF, z_ltT, z_ltF, z_eqT, z_eqF, z_inT, z_clamp, z_nI, z_0, z_1, z_2, z_3, z_4, z_5, z_6, z_7, z_8, z_9, z_10, z_11, z_12, z_13, z_14, z_15, z_16, z_17, z_18, z_19, z_20, z_21, z_22, z_23, z_24, z_25, z_26, z_27, z_28, z_29, z_30, z_31, z_32, z_33, z_34, z_35, z_36, z_37, z_38, z_39, z_40, z_41, z_42, z_43, z_44, z_45, z_46, z_47, z_48, z_49, z_50, z_51, z_52, z_53, z_54, z_55, z_56, z_57, z_58, z_59, z_60, z_61, z_77, z_91, z_93, z_97, z_100, z_101, z_102, z_103, z_105, z_111, z_114, z_120, z_123, z_125, z_126, z_200, z_245, z_255, z_576, z_585, z_1000, z_2000, z_3510, z_11700, true_implies, false_implies, implies_true, not_true_eq_false, not_false_eq_true, true_and, and_true, false_and, and_false, ↓reduceIte, Int.reduceToNat, Int.reduceNeg, Int.toNat_natCast]
        first | exact Or.inl f3' | exact Or.inr f3'
      · by_cases q3 : c < -9
        · simp (disch := omega) only [z_add, z_sub, z_mul, z_neg, z_leT, z_leF, z_ltT, z_ltF, z_eqT, z_eqF, z_inT, z_clamp, z_nI, z_0, z_1, z_2, z_3, z_4, z_5, z_6, z_7, z_8, z_9, z_10, z_11, z_12, z_13, z_14, z_15, z_16, z_17, z_18, z_19, z_20, z_21, z_22, z_23, z_24, z_25, z_26, z_27, z_28, z_29, z_30, z_31, z_32, z_33, z_34, z_35, z_36, z_37, z_38, z_39, z_40, z_41, z_42, z_43, z_44, z_45, z_46, z_47, z_48, z_49, z_50, z_51, z_52, z_53, z_54, z_55, z_56, z_57, z_58, z_59, z_60, z_61, z_77, z_91, z_93, z_97, z_100, z_101, z_102, z_103, z_105, z_111, z_114, z_120, z_123, z_125, z_126, z_200, z_245, z_255, z_576, z_585, z_1000, z_2000, z_3510, z_11700, true_implies, false_implies, implies_true, not_true_eq_false, not_false_eq_true, true_and, and_true, false_and, and_false, ↓reduceIte, Int.reduceToNat, Int.reduceNeg, Int.toNat_natCast]
          first | exact Or.inl f3' | exact Or.inr f3'
        · simp (disch := omega) only [z_add, z_sub, z_mul, z_neg, z_leT, z_leF, z_ltT, z_ltF, z_eqT, z_eqF, z_inT, z_clamp, z_nI, z_0, z_1, z_2, z_3, z_4, z_5, z_6, z_7, z_8, z_9, z_10, z_11, z_12, z_13, z_14, z_15, z_16, z_17, z_18, z_19, z_20, z_21, z_22, z_23, z_24, z_25, z_26, z_27, z_28, z_29, z_30, z_31, z_32, z_33, z_34, z_35, z_36, z_37, z_38, z_39, z_40, z_41, z_42, z_43, z_44, z_45, z_46, z_47, z_48, z_49, z_50, z_51, z_52, z_53, z_54, z_55, z_56, z_57, z_58, z_59, z_60, z_61, z_77, z_91, z_93, z_97, z_100, z_101, z_102, z_103, z_105, z_111, z_114, z_120, z_123, z_125, z_126, z_200, z_245, z_255, z_576, z_585, z_1000, z_2000, z_3510, z_11700, true_implies, false_implies, implies_true, not_true_eq_false, not_false_eq_true, true_and, and_true, false_and, and_false, ↓reduceIte, Int.reduceToNat, Int.reduceNeg, Int.toNat_natCast]
          first | exact Or.inl f3' | exact Or.inr f3'
def chN (C : Nat → Int32) (seed k : Int) : Int := ni k (fun j x => if C j.toNat = iniZ seed j then x else x + 1) 0
theorem chN_s {C : Nat → Int32} {seed k : Int} (h : 0 ≤ k) : chN C seed (k + 1) = if C k.toNat = iniZ seed k then chN C seed k else chN C seed k + 1 := ni_s h
theorem chN_0 {C : Nat → Int32} {seed : Int} : chN C seed 0 = 0 := ni_0 (Int.le_refl 0)
theorem chN_ag {C D : Nat → Int32} {seed : Int} (h : agC C D) : chN C seed 245 = chN D seed 245 := by
  unfold chN
  exact ni_congr (fun j x j0 j1 => by rw [h j.toNat (by omega)])
set_option maxHeartbeats 4000000 in
set_option maxRecDepth 100000 in
theorem op_changed {M : jM} {k : Nat} {n : Int} {w : Int → Int → Int} {o : Int → Int} {ver : Int} {a : Int32} {P : jM → Int32 → Int32 → Prop} {Q : Int32 → Nat → jM → Prop} (hR : RLz M k n w o ver) (hk : k ≤ 2000) (hP : ∀ M5 r1 r4, RLz M5 (k + 1) n w o ver → M5 11 0 7 = r1 → (r1 = 0 → M5 61 0 0 = r4) → P M5 r1 r4) (hq : ∀ r1 M2, ok_X12_changed a M2 (fun r4 _ M5 => P M5 r1 r4) → Q r1 0 M2) : ok_L_changed a M Q := by
  obtain ⟨hnb, hv⟩ := RLz_n hR hk
  have hG := hR.1
  have hPR := hR.2.1
  have hCI := hR.2.2.2.1
  have hn := hG.1
  have h6 := hPR.1
  obtain ⟨a, a1, a2, rfl⟩ := zI_of a
  have key : ∀ (M2 : jM) (r1 : Int32), fr SO M M2 → CI M2 n w o ver → ((¬ (0 ≤ a ∧ a ≤ 2) ∧ r1 = zI 1) ∨ ((0 ≤ a ∧ a ≤ 2) ∧ r1 = zI 0 ∧ ∃ T C, isNG (az w o n a) n T ∧ M2 61 0 0 = zI (chN (rnC w o (az w o n a) T C) (o 2) 245))) → ok_X12_changed (zI a) M2 (fun r4 _ M5 => P M5 r1 r4) := by
    intro M2 r1 hf hC hr
    obtain ⟨hM2, hF2⟩ := RLz_m hR hf
    refine en_X12_changed (bl_X12_changed_0 _ _ _ ?_)
    rcases hr with ⟨q, hr⟩ | ⟨q, hr, T, C, hT, hv2⟩
    · have fin := ro_thr hR hP hf hC (fm_rf _ _ M2) hF2 hr (by omega)
      by_cases q4 : a < 0
      · simp (disch := omega) only [z_add, z_sub, z_mul, z_neg, z_leT, z_leF, z_ltT, z_ltF, z_eqT, z_eqF, z_inT, z_clamp, z_nI, z_0, z_1, z_2, z_3, z_4, z_5, z_6, z_7, z_8, z_9, z_10, z_11, z_12, z_13, z_14, z_15, z_16, z_17, z_18, z_19, z_20, z_21, z_22, z_23, z_24, z_25, z_26, z_27, z_28, z_29, z_30, z_31, z_32, z_33, z_34, z_35, z_36, z_37, z_38, z_39, z_40, z_41, z_42, z_43, z_44, z_45, z_46, z_47, z_48, z_49, z_50, z_51, z_52, z_53, z_54, z_55, z_56, z_57, z_58, z_59, z_60, z_61, z_77, z_91, z_93, z_97, z_100, z_101, z_102, z_103, z_105, z_111, z_114, z_120, z_123, z_125, z_126, z_200, z_245, z_255, z_576, z_585, z_1000, z_2000, z_3510, z_11700, true_implies, false_implies, implies_true, not_true_eq_false, not_false_eq_true, true_and, and_true, false_and, and_false, ↓reduceIte, Int.reduceToNat, Int.reduceNeg, Int.toNat_natCast]
        rintro M3 rfl
        exact ⟨fun z => by rw [jup_self, z_leF (by omega)] at z; exact z.elim, fun _ => fin _⟩
      · simp (disch := omega) only [z_add, z_sub, z_mul, z_neg, z_leT, z_leF, z_ltT, z_ltF, z_eqT, z_eqF, z_inT, z_clamp, z_nI, z_0, z_1, z_2, z_3, z_4, z_5, z_6, z_7, z_8, z_9, z_10, z_11, z_12, z_13, z_14, z_15, z_16, z_17, z_18, z_19, z_20, z_21, z_22, z_23, z_24, z_25, z_26, z_27, z_28, z_29, z_30, z_31, z_32, z_33, z_34, z_35, z_36, z_37, z_38, z_39, z_40, z_41, z_42, z_43, z_44, z_45, z_46, z_47, z_48, z_49, z_50, z_51, z_52, z_53, z_54, z_55, z_56, z_57, z_58, z_59, z_60, z_61, z_77, z_91, z_93, z_97, z_100, z_101, z_102, z_103, z_105, z_111, z_114, z_120, z_123, z_125, z_126, z_200, z_245, z_255, z_576, z_585, z_1000, z_2000, z_3510, z_11700, true_implies, false_implies, implies_true, not_true_eq_false, not_false_eq_true, true_and, and_true, false_and, and_false, ↓reduceIte, Int.reduceToNat, Int.reduceNeg, Int.toNat_natCast]
        rintro M3 rfl
        exact ⟨fun z => by rw [jup_self, z_leF (by omega)] at z; exact z.elim, fun _ => fin _⟩
    · simp (disch := omega) only [z_add, z_sub, z_mul, z_neg, z_leT, z_leF, z_ltT, z_ltF, z_eqT, z_eqF, z_inT, z_clamp, z_nI, z_0, z_1, z_2, z_3, z_4, z_5, z_6, z_7, z_8, z_9, z_10, z_11, z_12, z_13, z_14, z_15, z_16, z_17, z_18, z_19, z_20, z_21, z_22, z_23, z_24, z_25, z_26, z_27, z_28, z_29, z_30, z_31, z_32, z_33, z_34, z_35, z_36, z_37, z_38, z_39, z_40, z_41, z_42, z_43, z_44, z_45, z_46, z_47, z_48, z_49, z_50, z_51, z_52, z_53, z_54, z_55, z_56, z_57, z_58, z_59, z_60, z_61, z_77, z_91, z_93, z_97, z_100, z_101, z_102, z_103, z_105, z_111, z_114, z_120, z_123, z_125, z_126, z_200, z_245, z_255, z_576, z_585, z_1000, z_2000, z_3510, z_11700, true_implies, false_implies, implies_true, not_true_eq_false, not_false_eq_true, true_and, and_true, false_and, and_false, ↓reduceIte, Int.reduceToNat, Int.reduceNeg, Int.toNat_natCast]
      rintro M3 rfl
      rw [jup_self]
      refine ⟨fun _ => ?_, fun z => absurd (by rw [z_leT (by omega)]; trivial) z⟩
      refine set_ok hG (MR_7 hM2) (FA_7 hF2) q (fun M4 S c1 c2 c3 c4 => ⟨fm_nb c1, ?_⟩)
      have hM4 := MR_fm (MR_7 (x := zI 0) hM2) c1
      refine rn_ok hG hM4 az_ok hT (c3 T hT) (fun M5 d1 d2 => ⟨fm_nb d1, ?_⟩)
      have hM5 := MR_fm hM4 d1
      have hm : fm SM FM M2 M5 := fm_tr (fm_tr (fm_7 (x := zI 0) (fm_rf SM FM M2)) c1 (S2 := SM) (F2 := FM)) d1
      have val := ro_val (r1 := r1) (r4 := zI (chN (M5 58 0) (o 2) 245)) hR hP hf hC hm (FA_fm c2 d1) (by rw [d1.2 7 (by decide), c1.2 7 (by decide), jup_self, hr]) (by rw [fm_61 hm, hv2, d2]; exact zc (chN_ag (rnC_ag hG az_ok hT _ _)))
      have eo := hM5.2.1.2.2
      have loop : ∀ (d : Nat) (kk : Int) (v2 v3 : Int32), kk + d = 245 → 0 ≤ kk → v2 = zI (chN (M5 58 0) (o 2) kk) → v3 = zI kk → at_X12_changed_40 v2 v3 M5 (fun r4 _ M5 => P M5 r1 r4) := by
        intro d
        induction d with
        | zero =>
          intro kk v2 v3 hd k0 h2 h3
          subst h2 h3
          refine bl_X12_changed_40 _ _ _ _ ?_
          rw [show kk = 245 by omega]
          simp (disch := omega) only [z_add, z_sub, z_mul, z_neg, z_leT, z_leF, z_ltT, z_ltF, z_eqT, z_eqF, z_inT, z_clamp, z_nI, z_0, z_1, z_2, z_3, z_4, z_5, z_6, z_7, z_8, z_9, z_10, z_11, z_12, z_13, z_14, z_15, z_16, z_17, z_18, z_19, z_20, z_21, z_22, z_23, z_24, z_25, z_26, z_27, z_28, z_29, z_30, z_31, z_32, z_33, z_34, z_35, z_36, z_37, z_38, z_39, z_40, z_41, z_42, z_43, z_44, z_45, z_46, z_47, z_48, z_49, z_50, z_51, z_52, z_53, z_54, z_55, z_56, z_57, z_58, z_59, z_60, z_61, z_77, z_91, z_93, z_97, z_100, z_101, z_102, z_103, z_105, z_111, z_114, z_120, z_123, z_125, z_126, z_200, z_245, z_255, z_576, z_585, z_1000, z_2000, z_3510, z_11700, true_implies, false_implies, implies_true, not_true_eq_false, not_false_eq_true, true_and, and_true, false_and, and_false, ↓reduceIte, Int.reduceToNat, Int.reduceNeg, Int.toNat_natCast]
          exact val
        | succ d ih =>
          intro kk v2 v3 hd k0 h2 h3
          subst h2 h3
          refine bl_X12_changed_40 _ _ _ _ ?_
          have es := chN_s (C := M5 58 0) (seed := o 2) k0
          simp (disch := omega) only [z_add, z_sub, z_mul, z_neg, z_leT, z_leF, z_ltT, z_ltF, z_eqT, z_eqF, z_inT, z_clamp, z_nI, z_0, z_1, z_2, z_3, z_4, z_5, z_6, z_7, z_8, z_9, z_10, z_11, z_12, z_13, z_14, z_15, z_16, z_17, z_18, z_19, z_20, z_21, z_22, z_23, z_24, z_25, z_26, z_27, z_28, z_29, z_30, z_31, z_32, z_33, z_34, z_35, z_36, z_37, z_38, z_39, z_40, z_41, z_42, z_43, z_44, z_45, z_46, z_47, z_48, z_49, z_50, z_51, z_52, z_53, z_54, z_55, z_56, z_57, z_58, z_59, z_60, z_61, z_77, z_91, z_93, z_97, z_100, z_101, z_102, z_103, z_105, z_111, z_114, z_120, z_123, z_125, z_126, z_200, z_245, z_255, z_576, z_585, z_1000, z_2000, z_3510, z_11700, true_implies, false_implies, implies_true, not_true_eq_false, not_false_eq_true, true_and, and_true, false_and, and_false, ↓reduceIte, Int.reduceToNat, Int.reduceNeg, Int.toNat_natCast, eo, z_div49]
          refine ⟨fun z => ?_, fun z => ?_⟩
          · have z' : M5 58 0 kk.toNat = iniZ (o 2) kk := z
            rw [if_pos z'] at es
            exact ih (kk + 1) _ _ (by omega) (by omega) (by rw [es, Int.add_zero]) rfl
          · have z' : ¬ M5 58 0 kk.toNat = iniZ (o 2) kk := z
            rw [if_neg z'] at es
            exact ih (kk + 1) _ _ (by omega) (by omega) (by rw [es]) rfl
      exact loop 245 0 _ _ (by omega) (by omega) (by rw [chN_0]) rfl
  refine wr_changed (en_X11_changed (bl_X11_changed_0 _ _ _ _ ?_))
  refine po_ok hG hPR hnb hCI hv ⟨a1, a2⟩ (fun k0 k1 M3 T f1 f2 f3 f4 => ⟨by omega, fr_nb f1, ?_⟩) (fun z => ⟨rfl, hq _ _ (key M _ (fr_rf _ _) hCI (Or.inl ⟨z, z_1⟩))⟩)
  refine ex2_ok hG (PR_r hPR f1) (by rw [fr_nb f1]; exact hnb) f2 hv ⟨k0, k1⟩ f3 f4 (fun M4 C d1 d2 d3 => ⟨fr_nb d1, ?_⟩)
  have hf4 : fr SC M M4 := fr_tr f1 d1
  have eo := (PR_r hPR hf4).2.1.2.2
  rw [show (2 : Int32).toNatClampNeg = 2 by decide, eo]
  refine beg_ok (by omega) (fun M5 g1 g2 g3 => ⟨fr_nb g2, ?_⟩)
  have hf5 : fr SO M M5 := fr_tr hf4 g2
  have e33 : M5 33 (a.toNat + 1) = rnC w o (az w o n a) T C := by rw [g1.2 (a.toNat + 1) (by omega), d3]
  have hC5 : CI M5 n w o ver := CI_eq d2 (by rw [g2 6 (by decide)]) (by rw [g2 1 (by decide)]) (g2 5 (by decide)) (g2 29 (by decide)) (fun k => g1.2 (k + 1) (by omega)) (g2 35 (by decide))
  have loop : ∀ (d : Nat) (kk : Int) (v3 v4 : Int32), kk + d = 245 → 0 ≤ kk → v3 = zI (chN (M5 33 (a.toNat + 1)) (o 2) kk) → v4 = zI kk → at_X11_changed_31c a.toNat v3 v4 M5 (fun r x M1 => jnb M1 = jnb M ∧ Q 0 0 (jup M1 61 0 (0 : Int32).toNatClampNeg r)) (fun E M1 => E = "java/lang/IllegalArgumentException" ∧ Q 1 0 M1) := by
    intro d
    induction d with
    | zero =>
      intro kk v2 v3 hd kk0 h2 h3
      subst h2 h3
      refine bl_X11_changed_31 _ _ _ _ _ _ (by omega) ?_
      rw [show kk = 245 by omega]
      refine ⟨fun _ => ⟨fr_nb hf5, ?_⟩, fun z => absurd (by rw [z_245, z_leT (by omega)]; trivial) z⟩
      rw [z00]
      exact hq _ _ (key _ _ (o_fr hf5) (o_CI hC5) (Or.inr ⟨⟨k0, k1⟩, z_0, T, C, f4.1, by rw [jup_self, e33]⟩))
    | succ d ih =>
      intro kk v2 v3 hd kk0 h2 h3
      subst h2 h3
      refine bl_X11_changed_31 _ _ _ _ _ _ (by omega) ?_
      have es := chN_s (C := M5 33 (a.toNat + 1)) (seed := o 2) kk0
      have e0 : M5 33 0 kk.toNat = iniZ (o 2) kk := by
        rw [g3]
        unfold iniC
        rw [if_pos (by omega), show ((kk.toNat : Nat) : Int) = kk by omega]
      refine ⟨fun z => ?_, fun _ => ⟨by rw [z_inT (by omega)]; trivial, by rw [z_inT (by omega)]; trivial, fun z => ?_, fun z => ?_⟩⟩
      · rw [z_245, z_leF (by omega)] at z; exact z.elim
      · rw [z_clamp (by omega), e0] at z
        rw [if_pos z] at es
        exact ih (kk + 1) _ _ (by omega) (by omega) (by rw [es, z_0, z_add, Int.add_zero]) (by rw [z_1, z_add])
      · rw [z_clamp (by omega), e0] at z
        rw [if_neg z] at es
        exact ih (kk + 1) _ _ (by omega) (by omega) (by rw [es, z_1, z_add]) (by rw [z_1, z_add])
  exact loop 245 0 _ _ (by omega) (by omega) (by rw [chN_0]; exact z_0) z_0
theorem op_faultPosition {M : jM} {k : Nat} {n : Int} {w : Int → Int → Int} {o : Int → Int} {ver : Int} {P : jM → Int32 → Int32 → Prop} (hR : RLz M k n w o ver) (hP : ∀ M5 r1 r4, RLz M5 (k + 1) n w o ver → r1 = r4 → P M5 r1 r4) : ok_X11_faultPosition M (fun r1 _ M2 => ok_X12_faultPosition M2 (fun r4 _ M5 => P M5 r1 r4)) := by
  refine en_X11_faultPosition (bl_X11_faultPosition_0 _ _ (en_X12_faultPosition (bl_X12_faultPosition_0 _ _ ?_)))
  rintro M3 rfl
  refine hP _ _ _ (RLz_ro hR (fr_rf _ _) hR.2.2.2.1 (fm_7 (fm_rf _ _ _)) (FA_7 (RLz_m hR (fr_rf _ _)).2)) ?_
  rw [jup_ne (by omega)]
  exact hR.2.2.2.2.2.2.2.2.1
theorem op_loopCount {M : jM} {k : Nat} {n : Int} {w : Int → Int → Int} {o : Int → Int} {ver : Int} {P : jM → Int32 → Int32 → Prop} (hR : RLz M k n w o ver) (hP : ∀ M5 r1 r4, RLz M5 (k + 1) n w o ver → r1 = r4 → P M5 r1 r4) : ok_X11_loopCount M (fun r1 _ M2 => ok_X12_loopCount M2 (fun r4 _ M5 => P M5 r1 r4)) := by
  refine en_X11_loopCount (bl_X11_loopCount_0 _ _ (en_X12_loopCount (bl_X12_loopCount_0 _ _ ?_)))
  rintro M3 rfl
  refine hP _ _ _ (RLz_ro hR (fr_rf _ _) hR.2.2.2.1 (fm_7 (fm_rf _ _ _)) (FA_7 (RLz_m hR (fr_rf _ _)).2)) ?_
  rw [jup_ne (by omega), hR.2.1.1, hR.2.2.1.1]
