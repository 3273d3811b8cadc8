theorem b10 {A B : Prop} (h : B) : (1 = (0 : Int32) → A) ∧ (¬ ((1 : Int32) = 0) → B) := ⟨fun z => absurd z (by decide), fun _ => h⟩
set_option maxHeartbeats 4000000 in
set_option maxRecDepth 100000 in
theorem op_step {M : jM} {k : Nat} {n : Int} {w : Int → Int → Int} {o : Int → Int} {ver : Int} {a b c : Int32} {P : jM → Int32 → Int32 → Prop} {Q : Int32 → Nat → jM → Prop} (hR : RLz M k n w o ver) (hk : k ≤ 2000) (hP : ∀ M5 r1 r4, RLz M5 (k + 1) n w o ver → M5 11 0 7 = r1 → (r1 = 0 → M5 61 0 0 = r4) → P M5 r1 r4) (hq : ∀ r1 M2, ok_X12_step a b c M2 (fun r4 _ M5 => P M5 r1 r4) → Q r1 0 M2) : ok_L_step a b c M Q := by
  obtain ⟨hnb, hv⟩ := RLz_n hR hk
  have hG := hR.1
  have hPR := hR.2.1
  have hCI := hR.2.2.2.1
  have hn := hG.1
  have h6 := hPR.1
  obtain ⟨a, a1, a2, rfl⟩ := zI_of a
  obtain ⟨b, b1, b2, rfl⟩ := zI_of b
  obtain ⟨c, c1, c2, rfl⟩ := zI_of c
  have key : ∀ (M2 : jM) (r1 : Int32), fr SO M M2 → CI M2 n w o ver → ((¬ ((0 ≤ a ∧ a ≤ 2) ∧ 0 ≤ c ∧ c ≤ 3) ∧ r1 = zI 1) ∨ (((0 ≤ a ∧ a ≤ 2) ∧ 0 ≤ c ∧ c ≤ 3) ∧ ∃ T, isNG (az w o n a) n T ∧ ((¬ (0 ≤ b ∧ b < T) ∧ r1 = zI 2) ∨ ((0 ≤ b ∧ b < T) ∧ ∃ f l, f = gs (az w o n a) b ∧ l = gs (az w o n a) (b + 1) - 1 ∧ ((2 ≤ c ∧ ¬ mF w f (l - f + 1) ≤ mL w f (l - f + 1) ∧ r1 = zI 3) ∨ (r1 = zI 0 ∧ ((c = 0 ∧ M2 61 0 0 = zI (tF w f (l - f + 1))) ∨ (c = 1 ∧ M2 61 0 0 = zI (tL w f (l - f + 1))) ∨ (c = 2 ∧ mF w f (l - f + 1) ≤ mL w f (l - f + 1) ∧ M2 61 0 0 = zI (mF w f (l - f + 1))) ∨ (c = 3 ∧ mF w f (l - f + 1) ≤ mL w f (l - f + 1) ∧ M2 61 0 0 = zI (mL w f (l - f + 1)))))))))) → ok_X12_step (zI a) (zI b) (zI c) M2 (fun r4 _ M5 => P M5 r1 r4) := by
    intro M2 r1 hf hC hr
    obtain ⟨hM2, hF2⟩ := RLz_m hR hf
    have e0 := hM2.1
    refine en_X12_step (bl_X12_step_0 _ _ _ _ _ ?_)
    rintro M3 rfl
    rcases hr with ⟨q, hr⟩ | ⟨q, T, hT, hr⟩
    · have fin := ro_thr hR hP hf hC (fm_7 (x := zI 0) (fm_rf _ _ _)) (FA_7 hF2) hr (by omega)
      by_cases q3 : 0 ≤ a ∧ a ≤ 2
      · by_cases q4 : c < 0
        · simp (disch := omega) only [jup_self, jup_ne, z_add, z_sub, z_mul, z_neg, z_leT, z_leF, z_ltT, z_ltF, z_eqT, z_eqF, z_inT, z_clamp, z_nI, z_0, z_1, z_2, z_3, z_4, z_5, z_6, z_7, z_8, z_9, z_10, z_11, z_12, z_13, z_14, z_15, z_16, z_17, z_18, z_19, z_20, z_21, z_22, z_23, z_24, z_25, z_26, z_27, z_28, z_29, z_30, z_31, z_32, z_33, z_34, z_35, z_36, z_37, z_38, z_39, z_40, z_41, z_42, z_43, z_44, z_45, z_46, z_47, z_48, z_49, z_50, z_51, z_52, z_53, z_54, z_55, z_56, z_57, z_58, z_59, z_60, z_61, z_77, z_91, z_93, z_97, z_100, z_101, z_102, z_103, z_105, z_111, z_114, z_120, z_123, z_125, z_126, z_200, z_245, z_255, z_576, z_585, z_1000, z_2000, z_3510, z_11700, true_implies, false_implies, implies_true, not_true_eq_false, not_false_eq_true, true_and, and_true, false_and, and_false, ↓reduceIte, Int.reduceToNat, Int.reduceNeg, Int.toNat_natCast]
          rintro M4 rfl
          exact fin _
        · simp (disch := omega) only [jup_self, jup_ne, z_add, z_sub, z_mul, z_neg, z_leT, z_leF, z_ltT, z_ltF, z_eqT, z_eqF, z_inT, z_clamp, z_nI, z_0, z_1, z_2, z_3, z_4, z_5, z_6, z_7, z_8, z_9, z_10, z_11, z_12, z_13, z_14, z_15, z_16, z_17, z_18, z_19, z_20, z_21, z_22, z_23, z_24, z_25, z_26, z_27, z_28, z_29, z_30, z_31, z_32, z_33, z_34, z_35, z_36, z_37, z_38, z_39, z_40, z_41, z_42, z_43, z_44, z_45, z_46, z_47, z_48, z_49, z_50, z_51, z_52, z_53, z_54, z_55, z_56, z_57, z_58, z_59, z_60, z_61, z_77, z_91, z_93, z_97, z_100, z_101, z_102, z_103, z_105, z_111, z_114, z_120, z_123, z_125, z_126, z_200, z_245, z_255, z_576, z_585, z_1000, z_2000, z_3510, z_11700, true_implies, false_implies, implies_true, not_true_eq_false, not_false_eq_true, true_and, and_true, false_and, and_false, ↓reduceIte, Int.reduceToNat, Int.reduceNeg, Int.toNat_natCast]
          rintro M4 rfl
          exact fin _
      · by_cases q4 : a < 0
        · simp (disch := omega) only [jup_self, jup_ne, z_add, z_sub, z_mul, z_neg, z_leT, z_leF, z_ltT, z_ltF, z_eqT, z_eqF, z_inT, z_clamp, z_nI, z_0, z_1, z_2, z_3, z_4, z_5, z_6, z_7, z_8, z_9, z_10, z_11, z_12, z_13, z_14, z_15, z_16, z_17, z_18, z_19, z_20, z_21, z_22, z_23, z_24, z_25, z_26, z_27, z_28, z_29, z_30, z_31, z_32, z_33, z_34, z_35, z_36, z_37, z_38, z_39, z_40, z_41, z_42, z_43, z_44, z_45, z_46, z_47, z_48, z_49, z_50, z_51, z_52, z_53, z_54, z_55, z_56, z_57, z_58, z_59, z_60, z_61, z_77, z_91, z_93, z_97, z_100, z_101, z_102, z_103, z_105, z_111, z_114, z_120, z_123, z_125, z_126, z_200, z_245, z_255, z_576, z_585, z_1000, z_2000, z_3510, z_11700, true_implies, false_implies, implies_true, not_true_eq_false, not_false_eq_true, true_and, and_true, false_and, and_false, ↓reduceIte, Int.reduceToNat, Int.reduceNeg, Int.toNat_natCast]
          rintro M4 rfl
          exact fin _
        · simp (disch := omega) only [jup_self, jup_ne, z_add, z_sub, z_mul, z_neg, z_leT, z_leF, z_ltT, z_ltF, z_eqT, z_eqF, z_inT, z_clamp, z_nI, z_0, z_1, z_2, z_3, z_4, z_5, z_6, z_7, z_8, z_9, z_10, z_11, z_12, z_13, z_14, z_15, z_16, z_17, z_18, z_19, z_20, z_21, z_22, z_23, z_24, z_25, z_26, z_27, z_28, z_29, z_30, z_31, z_32, z_33, z_34, z_35, z_36, z_37, z_38, z_39, z_40, z_41, z_42, z_43, z_44, z_45, z_46, z_47, z_48, z_49, z_50, z_51, z_52, z_53, z_54, z_55, z_56, z_57, z_58, z_59, z_60, z_61, z_77, z_91, z_93, z_97, z_100, z_101, z_102, z_103, z_105, z_111, z_114, z_120, z_123, z_125, z_126, z_200, z_245, z_255, z_576, z_585, z_1000, z_2000, z_3510, z_11700, true_implies, false_implies, implies_true, not_true_eq_false, not_false_eq_true, true_and, and_true, false_and, and_false, ↓reduceIte, Int.reduceToNat, Int.reduceNeg, Int.toNat_natCast]
          rintro M4 rfl
          exact fin _
    · simp (disch := omega) only [jup_self, jup_ne, z_add, z_sub, z_mul, z_neg, z_leT, z_leF, z_ltT, z_ltF, z_eqT, z_eqF, z_inT, z_clamp, z_nI, z_0, z_1, z_2, z_3, z_4, z_5, z_6, z_7, z_8, z_9, z_10, z_11, z_12, z_13, z_14, z_15, z_16, z_17, z_18, z_19, z_20, z_21, z_22, z_23, z_24, z_25, z_26, z_27, z_28, z_29, z_30, z_31, z_32, z_33, z_34, z_35, z_36, z_37, z_38, z_39, z_40, z_41, z_42, z_43, z_44, z_45, z_46, z_47, z_48, z_49, z_50, z_51, z_52, z_53, z_54, z_55, z_56, z_57, z_58, z_59, z_60, z_61, z_77, z_91, z_93, z_97, z_100, z_101, z_102, z_103, z_105, z_111, z_114, z_120, z_123, z_125, z_126, z_200, z_245, z_255, z_576, z_585, z_1000, z_2000, z_3510, z_11700, true_implies, false_implies, implies_true, not_true_eq_false, not_false_eq_true, true_and, and_true, false_and, and_false, ↓reduceIte, Int.reduceToNat, Int.reduceNeg, Int.toNat_natCast]
      refine set_ok hG (MR_7 hM2) (FA_7 hF2) q.1 (fun M4 S c1 c2 c3 c4 => ⟨fm_nb c1, ?_⟩)
      have hM4 := MR_fm (MR_7 (x := zI 0) hM2) c1
      have hm4 : fm SM FM M2 M4 := fm_tr (fm_7 (x := zI 0) (fm_rf SM FM M2)) c1 (S2 := SM) (F2 := FM)
      refine fn_ok hG hM4 az_ok hT (c3 T hT) ⟨b1, b2⟩ (fun M5 d1 d2 d3 d4 => ⟨fm_nb d1, ?_⟩) (fun z => ⟨rfl, ?_⟩)
      · rcases hr with ⟨q2, hr⟩ | ⟨q2, f, l, hff, hll, hr⟩
        · exact absurd ⟨d2, d3⟩ q2
        · rw [← hff, ← hll] at d4
          have hM5 := MR_fm hM4 d1
          have hm : fm SM FM M2 M5 := fm_tr hm4 d1
          have hF5 := FA_fm c2 d1
          have g1 := gs_at az_ok hn.1 hT d2 (by omega)
          have g2 := gs_at az_ok hn.1 hT (show 0 ≤ b + 1 by omega) (by omega)
          have g3 := az_ok (w := w) (o := o) (n := n) (k := a) _ g1.1 (hT.2.2 b d2 d3)
          have g4 := gs_s (z := az w o n a) d2
          rw [← hff] at g1 g3 g4
          have f0 : 0 ≤ f := g1.1
          have fl : f ≤ l := by omega
          have ln : l < n := by omega
          have e7 : M5 11 0 7 = zI 0 := by rw [d1.2 7 (by decide), c1.2 7 (by decide), jup_self]
          have hst := st_in hG f0 (show 0 ≤ l - f + 1 by omega) (by omega)
          refine b10 ?_
          rcases hr with ⟨q3, q4, hr⟩ | ⟨hr, hv2⟩
          · have fin := ro_thr hR hP hf hC hm hF5 hr (by omega)
            simp (disch := omega) only [z_add, z_sub, z_mul, z_neg, z_leT, z_leF, z_ltT, z_ltF, z_eqT, z_eqF, z_inT, z_clamp, z_nI, z_0, z_1, z_2, z_3, z_4, z_5, z_6, z_7, z_8, z_9, z_10, z_11, z_12, z_13, z_14, z_15, z_16, z_17, z_18, z_19, z_20, z_21, z_22, z_23, z_24, z_25, z_26, z_27, z_28, z_29, z_30, z_31, z_32, z_33, z_34, z_35, z_36, z_37, z_38, z_39, z_40, z_41, z_42, z_43, z_44, z_45, z_46, z_47, z_48, z_49, z_50, z_51, z_52, z_53, z_54, z_55, z_56, z_57, z_58, z_59, z_60, z_61, z_77, z_91, z_93, z_97, z_100, z_101, z_102, z_103, z_105, z_111, z_114, z_120, z_123, z_125, z_126, z_200, z_245, z_255, z_576, z_585, z_1000, z_2000, z_3510, z_11700, true_implies, false_implies, implies_true, not_true_eq_false, not_false_eq_true, true_and, and_true, false_and, and_false, ↓reduceIte, Int.reduceToNat, Int.reduceNeg, Int.toNat_natCast]
            refine mf_ok hG hM5 d4 f0 fl ln ⟨rfl, ml_ok hG hM5 d4 f0 fl ln ⟨rfl, ?_⟩⟩
            simp (disch := omega) only [z_add, z_sub, z_mul, z_neg, z_leT, z_leF, z_ltT, z_ltF, z_eqT, z_eqF, z_inT, z_clamp, z_nI, z_0, z_1, z_2, z_3, z_4, z_5, z_6, z_7, z_8, z_9, z_10, z_11, z_12, z_13, z_14, z_15, z_16, z_17, z_18, z_19, z_20, z_21, z_22, z_23, z_24, z_25, z_26, z_27, z_28, z_29, z_30, z_31, z_32, z_33, z_34, z_35, z_36, z_37, z_38, z_39, z_40, z_41, z_42, z_43, z_44, z_45, z_46, z_47, z_48, z_49, z_50, z_51, z_52, z_53, z_54, z_55, z_56, z_57, z_58, z_59, z_60, z_61, z_77, z_91, z_93, z_97, z_100, z_101, z_102, z_103, z_105, z_111, z_114, z_120, z_123, z_125, z_126, z_200, z_245, z_255, z_576, z_585, z_1000, z_2000, z_3510, z_11700, true_implies, false_implies, implies_true, not_true_eq_false, not_false_eq_true, true_and, and_true, false_and, and_false, ↓reduceIte, Int.reduceToNat, Int.reduceNeg, Int.toNat_natCast]
            rintro M7 rfl
            exact fin _
          · rcases hv2 with ⟨hc, hv2⟩ | ⟨hc, hv2⟩ | ⟨hc, hle, hv2⟩ | ⟨hc, hle, hv2⟩
            · subst hc
              simp (disch := omega) only [z_add, z_sub, z_mul, z_neg, z_leT, z_leF, z_ltT, z_ltF, z_eqT, z_eqF, z_inT, z_clamp, z_nI, z_0, z_1, z_2, z_3, z_4, z_5, z_6, z_7, z_8, z_9, z_10, z_11, z_12, z_13, z_14, z_15, z_16, z_17, z_18, z_19, z_20, z_21, z_22, z_23, z_24, z_25, z_26, z_27, z_28, z_29, z_30, z_31, z_32, z_33, z_34, z_35, z_36, z_37, z_38, z_39, z_40, z_41, z_42, z_43, z_44, z_45, z_46, z_47, z_48, z_49, z_50, z_51, z_52, z_53, z_54, z_55, z_56, z_57, z_58, z_59, z_60, z_61, z_77, z_91, z_93, z_97, z_100, z_101, z_102, z_103, z_105, z_111, z_114, z_120, z_123, z_125, z_126, z_200, z_245, z_255, z_576, z_585, z_1000, z_2000, z_3510, z_11700, true_implies, false_implies, implies_true, not_true_eq_false, not_false_eq_true, true_and, and_true, false_and, and_false, ↓reduceIte, Int.reduceToNat, Int.reduceNeg, Int.toNat_natCast, d4.1, d4.2.1]
              rw [← z_1]
              refine so_ok hG hM5 d4.2.2 f0 fl ln (Or.inr rfl) (fun z => absurd z (by decide)) (fun _ => ⟨rfl, ?_⟩)
              exact ro_val hR hP hf hC hm hF5 (by rw [e7, hr]) (by rw [fm_61 hm, hv2])
            · subst hc
              simp (disch := omega) only [z_add, z_sub, z_mul, z_neg, z_leT, z_leF, z_ltT, z_ltF, z_eqT, z_eqF, z_inT, z_clamp, z_nI, z_0, z_1, z_2, z_3, z_4, z_5, z_6, z_7, z_8, z_9, z_10, z_11, z_12, z_13, z_14, z_15, z_16, z_17, z_18, z_19, z_20, z_21, z_22, z_23, z_24, z_25, z_26, z_27, z_28, z_29, z_30, z_31, z_32, z_33, z_34, z_35, z_36, z_37, z_38, z_39, z_40, z_41, z_42, z_43, z_44, z_45, z_46, z_47, z_48, z_49, z_50, z_51, z_52, z_53, z_54, z_55, z_56, z_57, z_58, z_59, z_60, z_61, z_77, z_91, z_93, z_97, z_100, z_101, z_102, z_103, z_105, z_111, z_114, z_120, z_123, z_125, z_126, z_200, z_245, z_255, z_576, z_585, z_1000, z_2000, z_3510, z_11700, true_implies, false_implies, implies_true, not_true_eq_false, not_false_eq_true, true_and, and_true, false_and, and_false, ↓reduceIte, Int.reduceToNat, Int.reduceNeg, Int.toNat_natCast, d4.1, d4.2.1]
              rw [← z_0]
              refine so_ok hG hM5 d4.2.2 f0 fl ln (Or.inl rfl) (fun _ => ⟨rfl, ?_⟩) (fun z => absurd z (by decide))
              exact ro_val hR hP hf hC hm hF5 (by rw [e7, hr]) (by rw [fm_61 hm, hv2])
            · subst hc
              simp (disch := omega) only [z_add, z_sub, z_mul, z_neg, z_leT, z_leF, z_ltT, z_ltF, z_eqT, z_eqF, z_inT, z_clamp, z_nI, z_0, z_1, z_2, z_3, z_4, z_5, z_6, z_7, z_8, z_9, z_10, z_11, z_12, z_13, z_14, z_15, z_16, z_17, z_18, z_19, z_20, z_21, z_22, z_23, z_24, z_25, z_26, z_27, z_28, z_29, z_30, z_31, z_32, z_33, z_34, z_35, z_36, z_37, z_38, z_39, z_40, z_41, z_42, z_43, z_44, z_45, z_46, z_47, z_48, z_49, z_50, z_51, z_52, z_53, z_54, z_55, z_56, z_57, z_58, z_59, z_60, z_61, z_77, z_91, z_93, z_97, z_100, z_101, z_102, z_103, z_105, z_111, z_114, z_120, z_123, z_125, z_126, z_200, z_245, z_255, z_576, z_585, z_1000, z_2000, z_3510, z_11700, true_implies, false_implies, implies_true, not_true_eq_false, not_false_eq_true, true_and, and_true, false_and, and_false, ↓reduceIte, Int.reduceToNat, Int.reduceNeg, Int.toNat_natCast]
              refine mf_ok hG hM5 d4 f0 fl ln ⟨rfl, ml_ok hG hM5 d4 f0 fl ln ⟨rfl, ?_⟩⟩
              simp (disch := omega) only [z_add, z_sub, z_mul, z_neg, z_leT, z_leF, z_ltT, z_ltF, z_eqT, z_eqF, z_inT, z_clamp, z_nI, z_0, z_1, z_2, z_3, z_4, z_5, z_6, z_7, z_8, z_9, z_10, z_11, z_12, z_13, z_14, z_15, z_16, z_17, z_18, z_19, z_20, z_21, z_22, z_23, z_24, z_25, z_26, z_27, z_28, z_29, z_30, z_31, z_32, z_33, z_34, z_35, z_36, z_37, z_38, z_39, z_40, z_41, z_42, z_43, z_44, z_45, z_46, z_47, z_48, z_49, z_50, z_51, z_52, z_53, z_54, z_55, z_56, z_57, z_58, z_59, z_60, z_61, z_77, z_91, z_93, z_97, z_100, z_101, z_102, z_103, z_105, z_111, z_114, z_120, z_123, z_125, z_126, z_200, z_245, z_255, z_576, z_585, z_1000, z_2000, z_3510, z_11700, true_implies, false_implies, implies_true, not_true_eq_false, not_false_eq_true, true_and, and_true, false_and, and_false, ↓reduceIte, Int.reduceToNat, Int.reduceNeg, Int.toNat_natCast]
              refine mf_ok hG hM5 d4 f0 fl ln ⟨rfl, ?_⟩
              exact ro_val hR hP hf hC hm hF5 (by rw [e7, hr]) (by rw [fm_61 hm, hv2])
            · subst hc
              simp (disch := omega) only [z_add, z_sub, z_mul, z_neg, z_leT, z_leF, z_ltT, z_ltF, z_eqT, z_eqF, z_inT, z_clamp, z_nI, z_0, z_1, z_2, z_3, z_4, z_5, z_6, z_7, z_8, z_9, z_10, z_11, z_12, z_13, z_14, z_15, z_16, z_17, z_18, z_19, z_20, z_21, z_22, z_23, z_24, z_25, z_26, z_27, z_28, z_29, z_30, z_31, z_32, z_33, z_34, z_35, z_36, z_37, z_38, z_39, z_40, z_41, z_42, z_43, z_44, z_45, z_46, z_47, z_48, z_49, z_50, z_51, z_52, z_53, z_54, z_55, z_56, z_57, z_58, z_59, z_60, z_61, z_77, z_91, z_93, z_97, z_100, z_101, z_102, z_103, z_105, z_111, z_114, z_120, z_123, z_125, z_126, z_200, z_245, z_255, z_576, z_585, z_1000, z_2000, z_3510, z_11700, true_implies, false_implies, implies_true, not_true_eq_false, not_false_eq_true, true_and, and_true, false_and, and_false, ↓reduceIte, Int.reduceToNat, Int.reduceNeg, Int.toNat_natCast]
              refine mf_ok hG hM5 d4 f0 fl ln ⟨rfl, ml_ok hG hM5 d4 f0 fl ln ⟨rfl, ?_⟩⟩
              simp (disch := omega) only [z_add, z_sub, z_mul, z_neg, z_leT, z_leF, z_ltT, z_ltF, z_eqT, z_eqF, z_inT, z_clamp, z_nI, z_0, z_1, z_2, z_3, z_4, z_5, z_6, z_7, z_8, z_9, z_10, z_11, z_12, z_13, z_14, z_15, z_16, z_17, z_18, z_19, z_20, z_21, z_22, z_23, z_24, z_25, z_26, z_27, z_28, z_29, z_30, z_31, z_32, z_33, z_34, z_35, z_36, z_37, z_38, z_39, z_40, z_41, z_42, z_43, z_44, z_45, z_46, z_47, z_48, z_49, z_50, z_51, z_52, z_53, z_54, z_55, z_56, z_57, z_58, z_59, z_60, z_61, z_77, z_91, z_93, z_97, z_100, z_101, z_102, z_103, z_105, z_111, z_114, z_120, z_123, z_125, z_126, z_200, z_245, z_255, z_576, z_585, z_1000, z_2000, z_3510, z_11700, true_implies, false_implies, implies_true, not_true_eq_false, not_false_eq_true, true_and, and_true, false_and, and_false, ↓reduceIte, Int.reduceToNat, Int.reduceNeg, Int.toNat_natCast]
              refine ml_ok hG hM5 d4 f0 fl ln ⟨rfl, ?_⟩
              exact ro_val hR hP hf hC hm hF5 (by rw [e7, hr]) (by rw [fm_61 hm, hv2])
      · rcases hr with ⟨q2, hr⟩ | ⟨q2, _⟩
        · have fin := ro_thr hR hP hf hC hm4 c2 hr (by omega)
          simp (disch := omega) only [z_add, z_sub, z_mul, z_neg, z_leT, z_leF, z_ltT, z_ltF, z_eqT, z_eqF, z_inT, z_clamp, z_nI, z_0, z_1, z_2, z_3, z_4, z_5, z_6, z_7, z_8, z_9, z_10, z_11, z_12, z_13, z_14, z_15, z_16, z_17, z_18, z_19, z_20, z_21, z_22, z_23, z_24, z_25, z_26, z_27, z_28, z_29, z_30, z_31, z_32, z_33, z_34, z_35, z_36, z_37, z_38, z_39, z_40, z_41, z_42, z_43, z_44, z_45, z_46, z_47, z_48, z_49, z_50, z_51, z_52, z_53, z_54, z_55, z_56, z_57, z_58, z_59, z_60, z_61, z_77, z_91, z_93, z_97, z_100, z_101, z_102, z_103, z_105, z_111, z_114, z_120, z_123, z_125, z_126, z_200, z_245, z_255, z_576, z_585, z_1000, z_2000, z_3510, z_11700, true_implies, false_implies, implies_true, not_true_eq_false, not_false_eq_true, true_and, and_true, false_and, and_false, ↓reduceIte, Int.reduceToNat, Int.reduceNeg, Int.toNat_natCast]
          rintro M7 rfl
          exact fin _
        · exact absurd q2 z
  refine wr_step (en_X11_step (bl_X11_step_0 _ _ _ _ _ _ ?_))
  refine po_ok hG hPR hnb hCI hv ⟨a1, a2⟩ (fun k0 k1 M3 T f1 f2 f3 f4 => ⟨by omega, fr_nb f1, ?_⟩) (fun z => Or.inl ⟨rfl, hq _ _ (key M _ (fr_rf _ _) hCI (Or.inl ⟨fun y => z y.1, z_1⟩))⟩)
  have hTn := T_in hn f4.1
  have enb := fr_nb f1
  by_cases qc : 0 ≤ c ∧ c ≤ 3
  · refine ⟨fun z => ?_, fun _ => ⟨fun _ => ?_, fun z => ?_⟩⟩
    · rw [z_0, z_ltF (by omega)] at z; exact z.elim
    · refine cko_ok (by omega) f4.2.1 (by omega) b1 b2 (fun g0 g1 => ⟨rfl, ?_⟩) (fun z => Or.inr (Or.inl ⟨rfl, hq _ _ (key M3 _ (fr_mono f1) f2 (Or.inr ⟨⟨⟨k0, k1⟩, qc⟩, T, f4.1, Or.inl ⟨z, z_2⟩⟩))⟩))
      refine tg_ok (by omega) hG (PR_r hPR f1) f3 az_ok f4 ⟨g0, g1⟩ (fun M4 i1 i2 i3 => ⟨fr_nb i1, ?_⟩)
      have hf4 : fr SO M M4 := fr_tr f1 i1
      have hC4 := CI_fr f2 i1 i2
      obtain ⟨_, _, s7, s8, s9, s10⟩ := i3
      have u1 := gs_at az_ok hn.1 f4.1 g0 (by omega)
      have u2 := gs_at az_ok hn.1 f4.1 (show 0 ≤ b + 1 by omega) (by omega)
      have u3 := az_ok (w := w) (o := o) (n := n) (k := a) _ u1.1 (f4.1.2.2 b g0 g1)
      have u4 := gs_s (z := az w o n a) g0
      have hst := st_in hG u1.1 (show 0 ≤ gs (az w o n a) (b + 1) - 1 - gs (az w o n a) b + 1 by omega) (by omega)
      have enb4 : jnb M4 = jnb M := by rw [fr_nb i1, enb]
      have fin : ∀ x, ((c = 0 ∧ x = zI (tF w (gs (az w o n a) b) (gs (az w o n a) (b + 1) - 1 - gs (az w o n a) b + 1))) ∨ (c = 1 ∧ x = zI (tL w (gs (az w o n a) b) (gs (az w o n a) (b + 1) - 1 - gs (az w o n a) b + 1))) ∨ (c = 2 ∧ mF w (gs (az w o n a) b) (gs (az w o n a) (b + 1) - 1 - gs (az w o n a) b + 1) ≤ mL w (gs (az w o n a) b) (gs (az w o n a) (b + 1) - 1 - gs (az w o n a) b + 1) ∧ x = zI (mF w (gs (az w o n a) b) (gs (az w o n a) (b + 1) - 1 - gs (az w o n a) b + 1))) ∨ (c = 3 ∧ mF w (gs (az w o n a) b) (gs (az w o n a) (b + 1) - 1 - gs (az w o n a) b + 1) ≤ mL w (gs (az w o n a) b) (gs (az w o n a) (b + 1) - 1 - gs (az w o n a) b + 1) ∧ x = zI (mL w (gs (az w o n a) b) (gs (az w o n a) (b + 1) - 1 - gs (az w o n a) b + 1)))) → Q (zI 0) 0 (jup M4 61 0 0 x) := fun x hx => hq _ _ (key _ _ (o_fr hf4) (o_CI hC4) (Or.inr ⟨⟨⟨k0, k1⟩, qc⟩, T, f4.1, Or.inr ⟨⟨g0, g1⟩, _, _, rfl, rfl, Or.inr ⟨rfl, by rw [jup_self]; exact hx⟩⟩⟩))
      rcases (show c = 0 ∨ c = 1 ∨ c = 2 ∨ c = 3 by omega) with hc | hc | hc | hc
      · subst hc
        simp (disch := omega) only [z_add, z_sub, z_mul, z_neg, z_leT, z_leF, z_ltT, z_ltF, z_eqT, z_eqF, z_inT, z_clamp, z_nI, z_0, z_1, z_2, z_3, z_4, z_5, z_6, z_7, z_8, z_9, z_10, z_11, z_12, z_13, z_14, z_15, z_16, z_17, z_18, z_19, z_20, z_21, z_22, z_23, z_24, z_25, z_26, z_27, z_28, z_29, z_30, z_31, z_32, z_33, z_34, z_35, z_36, z_37, z_38, z_39, z_40, z_41, z_42, z_43, z_44, z_45, z_46, z_47, z_48, z_49, z_50, z_51, z_52, z_53, z_54, z_55, z_56, z_57, z_58, z_59, z_60, z_61, z_77, z_91, z_93, z_97, z_100, z_101, z_102, z_103, z_105, z_111, z_114, z_120, z_123, z_125, z_126, z_200, z_245, z_255, z_576, z_585, z_1000, z_2000, z_3510, z_11700, true_implies, false_implies, implies_true, not_true_eq_false, not_false_eq_true, true_and, and_true, false_and, and_false, ↓reduceIte, Int.reduceToNat, Int.reduceNeg, Int.toNat_natCast, s7, enb4]
        exact fin _ (Or.inl ⟨rfl, rfl⟩)
      · subst hc
        simp (disch := omega) only [z_add, z_sub, z_mul, z_neg, z_leT, z_leF, z_ltT, z_ltF, z_eqT, z_eqF, z_inT, z_clamp, z_nI, z_0, z_1, z_2, z_3, z_4, z_5, z_6, z_7, z_8, z_9, z_10, z_11, z_12, z_13, z_14, z_15, z_16, z_17, z_18, z_19, z_20, z_21, z_22, z_23, z_24, z_25, z_26, z_27, z_28, z_29, z_30, z_31, z_32, z_33, z_34, z_35, z_36, z_37, z_38, z_39, z_40, z_41, z_42, z_43, z_44, z_45, z_46, z_47, z_48, z_49, z_50, z_51, z_52, z_53, z_54, z_55, z_56, z_57, z_58, z_59, z_60, z_61, z_77, z_91, z_93, z_97, z_100, z_101, z_102, z_103, z_105, z_111, z_114, z_120, z_123, z_125, z_126, z_200, z_245, z_255, z_576, z_585, z_1000, z_2000, z_3510, z_11700, true_implies, false_implies, implies_true, not_true_eq_false, not_false_eq_true, true_and, and_true, false_and, and_false, ↓reduceIte, Int.reduceToNat, Int.reduceNeg, Int.toNat_natCast, s8, enb4]
        exact fin _ (Or.inr (Or.inl ⟨rfl, rfl⟩))
      · subst hc
        by_cases q5 : mF w (gs (az w o n a) b) (gs (az w o n a) (b + 1) - 1 - gs (az w o n a) b + 1) ≤ mL w (gs (az w o n a) b) (gs (az w o n a) (b + 1) - 1 - gs (az w o n a) b + 1)
        · simp (disch := omega) only [z_add, z_sub, z_mul, z_neg, z_leT, z_leF, z_ltT, z_ltF, z_eqT, z_eqF, z_inT, z_clamp, z_nI, z_0, z_1, z_2, z_3, z_4, z_5, z_6, z_7, z_8, z_9, z_10, z_11, z_12, z_13, z_14, z_15, z_16, z_17, z_18, z_19, z_20, z_21, z_22, z_23, z_24, z_25, z_26, z_27, z_28, z_29, z_30, z_31, z_32, z_33, z_34, z_35, z_36, z_37, z_38, z_39, z_40, z_41, z_42, z_43, z_44, z_45, z_46, z_47, z_48, z_49, z_50, z_51, z_52, z_53, z_54, z_55, z_56, z_57, z_58, z_59, z_60, z_61, z_77, z_91, z_93, z_97, z_100, z_101, z_102, z_103, z_105, z_111, z_114, z_120, z_123, z_125, z_126, z_200, z_245, z_255, z_576, z_585, z_1000, z_2000, z_3510, z_11700, true_implies, false_implies, implies_true, not_true_eq_false, not_false_eq_true, true_and, and_true, false_and, and_false, ↓reduceIte, Int.reduceToNat, Int.reduceNeg, Int.toNat_natCast, s9, s10, enb4]
          exact fin _ (Or.inr (Or.inr (Or.inl ⟨rfl, q5, rfl⟩)))
        · have f3 := hq _ _ (key M4 _ hf4 hC4 (Or.inr ⟨⟨⟨k0, k1⟩, qc⟩, T, f4.1, Or.inr ⟨⟨g0, g1⟩, _, _, rfl, rfl, Or.inl ⟨by omega, q5, rfl⟩⟩⟩))
          simp (disch := omega) only [z_add, z_sub, z_mul, z_neg, z_leT, z_leF, z_ltT, z_ltF, z_eqT, z_eqF, z_inT, z_clamp, z_nI, z_0, z_1, z_2, z_3, z_4, z_5, z_6, z_7, z_8, z_9, z_10, z_11, z_12, z_13, z_14, z_15, z_16, z_17, z_18, z_19, z_20, z_21, z_22, z_23, z_24, z_25, z_26, z_27, z_28, z_29, z_30, z_31, z_32, z_33, z_34, z_35, z_36, z_37, z_38, z_39, z_40, z_41, z_42, z_43, z_44, z_45, z_46, z_47, z_48, z_49, z_50, z_51, z_52, z_53, z_54, z_55, z_56, z_57, z_58, z_59, z_60, z_61, z_77, z_91, z_93, z_97, z_100, z_101, z_102, z_103, z_105, z_111, z_114, z_120, z_123, z_125, z_126, z_200, z_245, z_255, z_576, z_585, z_1000, z_2000, z_3510, z_11700, true_implies, false_implies, implies_true, not_true_eq_false, not_false_eq_true, true_and, and_true, false_and, and_false, ↓reduceIte, Int.reduceToNat, Int.reduceNeg, Int.toNat_natCast, s9, s10, enb4]
          first | exact Or.inl f3 | exact Or.inr f3 | exact Or.inr (Or.inl f3) | exact Or.inr (Or.inr f3)
      · subst hc
        by_cases q5 : mF w (gs (az w o n a) b) (gs (az w o n a) (b + 1) - 1 - gs (az w o n a) b + 1) ≤ mL w (gs (az w o n a) b) (gs (az w o n a) (b + 1) - 1 - gs (az w o n a) b + 1)
        · simp (disch := omega) only [z_add, z_sub, z_mul, z_neg, z_leT, z_leF, z_ltT, z_ltF, z_eqT, z_eqF, z_inT, z_clamp, z_nI, z_0, z_1, z_2, z_3, z_4, z_5, z_6, z_7, z_8, z_9, z_10, z_11, z_12, z_13, z_14, z_15, z_16, z_17, z_18, z_19, z_20, z_21, z_22, z_23, z_24, z_25, z_26, z_27, z_28, z_29, z_30, z_31, z_32, z_33, z_34, z_35, z_36, z_37, z_38, z_39, z_40, z_41, z_42, z_43, z_44, z_45, z_46, z_47, z_48, z_49, z_50, z_51, z_52, z_53, z_54, z_55, z_56, z_57, z_58, z_59, z_60, z_61, z_77, z_91, z_93, z_97, z_100, z_101, z_102, z_103, z_105, z_111, z_114, z_120, z_123, z_125, z_126, z_200, z_245, z_255, z_576, z_585, z_1000, z_2000, z_3510, z_11700, true_implies, false_implies, implies_true, not_true_eq_false, not_false_eq_true, true_and, and_true, false_and, and_false, ↓reduceIte, Int.reduceToNat, Int.reduceNeg, Int.toNat_natCast, s9, s10, enb4]
          exact fin _ (Or.inr (Or.inr (Or.inr ⟨rfl, q5, rfl⟩)))
        · have f3 := hq _ _ (key M4 _ hf4 hC4 (Or.inr ⟨⟨⟨k0, k1⟩, qc⟩, T, f4.1, Or.inr ⟨⟨g0, g1⟩, _, _, rfl, rfl, Or.inl ⟨by omega, q5, rfl⟩⟩⟩))
          simp (disch := omega) only [z_add, z_sub, z_mul, z_neg, z_leT, z_leF, z_ltT, z_ltF, z_eqT, z_eqF, z_inT, z_clamp, z_nI, z_0, z_1, z_2, z_3, z_4, z_5, z_6, z_7, z_8, z_9, z_10, z_11, z_12, z_13, z_14, z_15, z_16, z_17, z_18, z_19, z_20, z_21, z_22, z_23, z_24, z_25, z_26, z_27, z_28, z_29, z_30, z_31, z_32, z_33, z_34, z_35, z_36, z_37, z_38, z_39, z_40, z_41, z_42, z_43, z_44, z_45, z_46, z_47, z_48, z_49, z_50, z_51, z_52, z_53, z_54, z_55, z_56, z_57, z_58, z_59, z_60, z_61, z_77, z_91, z_93, z_97, z_100, z_101, z_102, z_103, z_105, z_111, z_114, z_120, z_123, z_125, z_126, z_200, z_245, z_255, z_576, z_585, z_1000, z_2000, z_3510, z_11700, true_implies, false_implies, implies_true, not_true_eq_false, not_false_eq_true, true_and, and_true, false_and, and_false, ↓reduceIte, Int.reduceToNat, Int.reduceNeg, Int.toNat_natCast, s9, s10, enb4]
          first | exact Or.inl f3 | exact Or.inr f3 | exact Or.inr (Or.inl f3) | exact Or.inr (Or.inr f3)
    · exact absurd (by rw [z_3, z_leT (by omega)]; trivial) z
  · have f3 := hq _ _ (key M3 _ (fr_mono f1) f2 (Or.inl ⟨fun y => qc y.2, rfl⟩))
    by_cases q5 : c < 0
    · simp (disch := omega) only [z_add, z_sub, z_mul, z_neg, z_leT, z_leF, z_ltT, z_ltF, z_eqT, z_eqF, z_inT, z_clamp, z_nI, z_0, z_1, z_2, z_3, z_4, z_5, z_6, z_7, z_8, z_9, z_10, z_11, z_12, z_13, z_14, z_15, z_16, z_17, z_18, z_19, z_20, z_21, z_22, z_23, z_24, z_25, z_26, z_27, z_28, z_29, z_30, z_31, z_32, z_33, z_34, z_35, z_36, z_37, z_38, z_39, z_40, z_41, z_42, z_43, z_44, z_45, z_46, z_47, z_48, z_49, z_50, z_51, z_52, z_53, z_54, z_55, z_56, z_57, z_58, z_59, z_60, z_61, z_77, z_91, z_93, z_97, z_100, z_101, z_102, z_103, z_105, z_111, z_114, z_120, z_123, z_125, z_126, z_200, z_245, z_255, z_576, z_585, z_1000, z_2000, z_3510, z_11700, true_implies, false_implies, implies_true, not_true_eq_false, not_false_eq_true, true_and, and_true, false_and, and_false, ↓reduceIte, Int.reduceToNat, Int.reduceNeg, Int.toNat_natCast]
      first | exact Or.inl f3 | exact Or.inr f3 | exact Or.inr (Or.inl f3) | exact Or.inr (Or.inr f3)
    · simp (disch := omega) only [z_add, z_sub, z_mul, z_neg, z_leT, z_leF, z_ltT, z_ltF, z_eqT, z_eqF, z_inT, z_clamp, z_nI, z_0, z_1, z_2, z_3, z_4, z_5, z_6, z_7, z_8, z_9, z_10, z_11, z_12, z_13, z_14, z_15, z_16, z_17, z_18, z_19, z_20, z_21, z_22, z_23, z_24, z_25, z_26, z_27, z_28, z_29, z_30, z_31, z_32, z_33, z_34, z_35, z_36, z_37, z_38, z_39, z_40, z_41, z_42, z_43, z_44, z_45, z_46, z_47, z_48, z_49, z_50, z_51, z_52, z_53, z_54, z_55, z_56, z_57, z_58, z_59, z_60, z_61, z_77, z_91, z_93, z_97, z_100, z_101, z_102, z_103, z_105, z_111, z_114, z_120, z_123, z_125, z_126, z_200, z_245, z_255, z_576, z_585, z_1000, z_2000, z_3510, z_11700, true_implies, false_implies, implies_true, not_true_eq_false, not_false_eq_true, true_and, and_true, false_and, and_false, ↓reduceIte, Int.reduceToNat, Int.reduceNeg, Int.toNat_natCast]
      first | exact Or.inl f3 | exact Or.inr f3 | exact Or.inr (Or.inl f3) | exact Or.inr (Or.inr f3)
