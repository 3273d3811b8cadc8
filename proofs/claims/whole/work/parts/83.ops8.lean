set_option maxHeartbeats 4000000 in
set_option maxRecDepth 100000 in
theorem op_peeled {M : jM} {k : Nat} {n : Int} {w : Int → Int → Int} {o : Int → Int} {ver : Int} {a b c : Int32} {P : jM → Int32 → Int32 → Prop} {Q : Int32 → Nat → jM → Prop} (hR : RLz M k n w o ver) (hk : k ≤ 2000) (hP : ∀ M5 r1 r4, RLz M5 (k + 1) n w o ver → M5 11 0 7 = r1 → (r1 = 0 → M5 61 0 0 = r4) → P M5 r1 r4) (hq : ∀ r1 M2, ok_X12_peeled a b c M2 (fun r4 _ M5 => P M5 r1 r4) → Q r1 0 M2) : ok_L_peeled a b c M Q := by
  obtain ⟨hnb, hv⟩ := RLz_n hR hk
  have hG := hR.1
  have hPR := hR.2.1
  have hCI := hR.2.2.2.1
  have hn := hG.1
  have h6 := hPR.1
  obtain ⟨a, a1, a2, rfl⟩ := zI_of a
  obtain ⟨b, b1, b2, rfl⟩ := zI_of b
  obtain ⟨c, c1, c2, rfl⟩ := zI_of c
  have key : ∀ (M2 : jM) (r1 : Int32), fr SO M M2 → CI M2 n w o ver → ((¬ ((0 ≤ a ∧ a ≤ 2) ∧ (c = 0 ∨ c = 1)) ∧ r1 = zI 1) ∨ (((0 ≤ a ∧ a ≤ 2) ∧ (c = 0 ∨ c = 1)) ∧ ¬ (0 ≤ b ∧ b < n) ∧ r1 = zI 2) ∨ (((0 ≤ a ∧ a ≤ 2) ∧ (c = 0 ∨ c = 1)) ∧ (0 ≤ b ∧ b < n) ∧ r1 = zI 0 ∧ ∃ T j, isNG (az w o n a) n T ∧ (0 ≤ j ∧ j < T ∧ gs (az w o n a) j ≤ b ∧ b < gs (az w o n a) (j + 1)) ∧ ∃ f l, f = gs (az w o n a) j ∧ l = gs (az w o n a) (j + 1) - 1 ∧ M2 61 0 0 = zI (if mF w f (l - f + 1) ≤ mL w f (l - f + 1) then (if c = 0 then mF w f (l - f + 1) - (sh w f b + w b 0) else sh w f b + w b 1 - mL w f (l - f + 1)) else (if c = 0 then w b 1 - w b 0 + 1 else 0)))) → ok_X12_peeled (zI a) (zI b) (zI c) M2 (fun r4 _ M5 => P M5 r1 r4) := by
    intro M2 r1 hf hC hr
    obtain ⟨hM2, hF2⟩ := RLz_m hR hf
    have e0 := hM2.1
    refine en_X12_peeled (bl_X12_peeled_0 _ _ _ _ _ ?_)
    rintro M3 rfl
    rcases hr with ⟨q, hr⟩ | ⟨q, q2, hr⟩ | ⟨q, q2, hr, T, j, hT, hj, f, l, hff, hll, hv2⟩
    · have fin := ro_thr hR hP hf hC (fm_7 (x := zI 0) (fm_rf _ _ _)) (FA_7 hF2) hr (by omega)
      by_cases q3 : 0 ≤ a ∧ a ≤ 2
      · by_cases q4 : c < 0
        · simp (disch := omega) only [jup_self, jup_ne, z_add, z_sub, z_mul, z_neg, z_leT, z_leF, z_ltT, z_ltF, z_eqT, z_eqF, z_inT, z_clamp, z_nI, z_0, z_1, z_2, z_3, z_4, z_5, z_6, z_7, z_8, z_9, z_10, z_11, z_12, z_13, z_14, z_15, z_16, z_17, z_18, z_19, z_20, z_21, z_22, z_23, z_24, z_25, z_26, z_27, z_28, z_29, z_30, z_31, z_32, z_33, z_34, z_35, z_36, z_37, z_38, z_39, z_40, z_41, z_42, z_43, z_44, z_45, z_46, z_47, z_48, z_49, z_50, z_51, z_52, z_53, z_54, z_55, z_56, z_57, z_58, z_59, z_60, z_61, z_77, z_91, z_93, z_97, z_100, z_101, z_102, z_103, z_105, z_111, z_114, z_120, z_123, z_125, z_126, z_200, z_245, z_255, z_576, z_585, z_1000, z_2000, z_3510, z_11700, true_implies, false_implies, implies_true, not_true_eq_false, not_false_eq_true, true_and, and_true, false_and, and_false, ↓reduceIte, Int.reduceToNat, Int.reduceNeg, Int.toNat_natCast, e0]
          rintro M4 rfl
          exact fin _
        · simp (disch := omega) only [jup_self, jup_ne, z_add, z_sub, z_mul, z_neg, z_leT, z_leF, z_ltT, z_ltF, z_eqT, z_eqF, z_inT, z_clamp, z_nI, z_0, z_1, z_2, z_3, z_4, z_5, z_6, z_7, z_8, z_9, z_10, z_11, z_12, z_13, z_14, z_15, z_16, z_17, z_18, z_19, z_20, z_21, z_22, z_23, z_24, z_25, z_26, z_27, z_28, z_29, z_30, z_31, z_32, z_33, z_34, z_35, z_36, z_37, z_38, z_39, z_40, z_41, z_42, z_43, z_44, z_45, z_46, z_47, z_48, z_49, z_50, z_51, z_52, z_53, z_54, z_55, z_56, z_57, z_58, z_59, z_60, z_61, z_77, z_91, z_93, z_97, z_100, z_101, z_102, z_103, z_105, z_111, z_114, z_120, z_123, z_125, z_126, z_200, z_245, z_255, z_576, z_585, z_1000, z_2000, z_3510, z_11700, true_implies, false_implies, implies_true, not_true_eq_false, not_false_eq_true, true_and, and_true, false_and, and_false, ↓reduceIte, Int.reduceToNat, Int.reduceNeg, Int.toNat_natCast, e0]
          rintro M4 rfl
          exact fin _
      · by_cases q4 : a < 0
        · simp (disch := omega) only [jup_self, jup_ne, z_add, z_sub, z_mul, z_neg, z_leT, z_leF, z_ltT, z_ltF, z_eqT, z_eqF, z_inT, z_clamp, z_nI, z_0, z_1, z_2, z_3, z_4, z_5, z_6, z_7, z_8, z_9, z_10, z_11, z_12, z_13, z_14, z_15, z_16, z_17, z_18, z_19, z_20, z_21, z_22, z_23, z_24, z_25, z_26, z_27, z_28, z_29, z_30, z_31, z_32, z_33, z_34, z_35, z_36, z_37, z_38, z_39, z_40, z_41, z_42, z_43, z_44, z_45, z_46, z_47, z_48, z_49, z_50, z_51, z_52, z_53, z_54, z_55, z_56, z_57, z_58, z_59, z_60, z_61, z_77, z_91, z_93, z_97, z_100, z_101, z_102, z_103, z_105, z_111, z_114, z_120, z_123, z_125, z_126, z_200, z_245, z_255, z_576, z_585, z_1000, z_2000, z_3510, z_11700, true_implies, false_implies, implies_true, not_true_eq_false, not_false_eq_true, true_and, and_true, false_and, and_false, ↓reduceIte, Int.reduceToNat, Int.reduceNeg, Int.toNat_natCast, e0]
          rintro M4 rfl
          exact fin _
        · simp (disch := omega) only [jup_self, jup_ne, z_add, z_sub, z_mul, z_neg, z_leT, z_leF, z_ltT, z_ltF, z_eqT, z_eqF, z_inT, z_clamp, z_nI, z_0, z_1, z_2, z_3, z_4, z_5, z_6, z_7, z_8, z_9, z_10, z_11, z_12, z_13, z_14, z_15, z_16, z_17, z_18, z_19, z_20, z_21, z_22, z_23, z_24, z_25, z_26, z_27, z_28, z_29, z_30, z_31, z_32, z_33, z_34, z_35, z_36, z_37, z_38, z_39, z_40, z_41, z_42, z_43, z_44, z_45, z_46, z_47, z_48, z_49, z_50, z_51, z_52, z_53, z_54, z_55, z_56, z_57, z_58, z_59, z_60, z_61, z_77, z_91, z_93, z_97, z_100, z_101, z_102, z_103, z_105, z_111, z_114, z_120, z_123, z_125, z_126, z_200, z_245, z_255, z_576, z_585, z_1000, z_2000, z_3510, z_11700, true_implies, false_implies, implies_true, not_true_eq_false, not_false_eq_true, true_and, and_true, false_and, and_false, ↓reduceIte, Int.reduceToNat, Int.reduceNeg, Int.toNat_natCast, e0]
          rintro M4 rfl
          exact fin _
    · have fin := ro_thr hR hP hf hC (fm_7 (x := zI 0) (fm_rf _ _ _)) (FA_7 hF2) hr (by omega)
      by_cases q4 : b < 0
      · simp (disch := omega) only [jup_self, jup_ne, z_add, z_sub, z_mul, z_neg, z_leT, z_leF, z_ltT, z_ltF, z_eqT, z_eqF, z_inT, z_clamp, z_nI, z_0, z_1, z_2, z_3, z_4, z_5, z_6, z_7, z_8, z_9, z_10, z_11, z_12, z_13, z_14, z_15, z_16, z_17, z_18, z_19, z_20, z_21, z_22, z_23, z_24, z_25, z_26, z_27, z_28, z_29, z_30, z_31, z_32, z_33, z_34, z_35, z_36, z_37, z_38, z_39, z_40, z_41, z_42, z_43, z_44, z_45, z_46, z_47, z_48, z_49, z_50, z_51, z_52, z_53, z_54, z_55, z_56, z_57, z_58, z_59, z_60, z_61, z_77, z_91, z_93, z_97, z_100, z_101, z_102, z_103, z_105, z_111, z_114, z_120, z_123, z_125, z_126, z_200, z_245, z_255, z_576, z_585, z_1000, z_2000, z_3510, z_11700, true_implies, false_implies, implies_true, not_true_eq_false, not_false_eq_true, true_and, and_true, false_and, and_false, ↓reduceIte, Int.reduceToNat, Int.reduceNeg, Int.toNat_natCast, e0]
        rintro M4 rfl
        exact fin _
      · simp (disch := omega) only [jup_self, jup_ne, z_add, z_sub, z_mul, z_neg, z_leT, z_leF, z_ltT, z_ltF, z_eqT, z_eqF, z_inT, z_clamp, z_nI, z_0, z_1, z_2, z_3, z_4, z_5, z_6, z_7, z_8, z_9, z_10, z_11, z_12, z_13, z_14, z_15, z_16, z_17, z_18, z_19, z_20, z_21, z_22, z_23, z_24, z_25, z_26, z_27, z_28, z_29, z_30, z_31, z_32, z_33, z_34, z_35, z_36, z_37, z_38, z_39, z_40, z_41, z_42, z_43, z_44, z_45, z_46, z_47, z_48, z_49, z_50, z_51, z_52, z_53, z_54, z_55, z_56, z_57, z_58, z_59, z_60, z_61, z_77, z_91, z_93, z_97, z_100, z_101, z_102, z_103, z_105, z_111, z_114, z_120, z_123, z_125, z_126, z_200, z_245, z_255, z_576, z_585, z_1000, z_2000, z_3510, z_11700, true_implies, false_implies, implies_true, not_true_eq_false, not_false_eq_true, true_and, and_true, false_and, and_false, ↓reduceIte, Int.reduceToNat, Int.reduceNeg, Int.toNat_natCast, e0]
        rintro M4 rfl
        exact fin _
    · simp (disch := omega) only [jup_self, jup_ne, z_add, z_sub, z_mul, z_neg, z_leT, z_leF, z_ltT, z_ltF, z_eqT, z_eqF, z_inT, z_clamp, z_nI, z_0, z_1, z_2, z_3, z_4, z_5, z_6, z_7, z_8, z_9, z_10, z_11, z_12, z_13, z_14, z_15, z_16, z_17, z_18, z_19, z_20, z_21, z_22, z_23, z_24, z_25, z_26, z_27, z_28, z_29, z_30, z_31, z_32, z_33, z_34, z_35, z_36, z_37, z_38, z_39, z_40, z_41, z_42, z_43, z_44, z_45, z_46, z_47, z_48, z_49, z_50, z_51, z_52, z_53, z_54, z_55, z_56, z_57, z_58, z_59, z_60, z_61, z_77, z_91, z_93, z_97, z_100, z_101, z_102, z_103, z_105, z_111, z_114, z_120, z_123, z_125, z_126, z_200, z_245, z_255, z_576, z_585, z_1000, z_2000, z_3510, z_11700, true_implies, false_implies, implies_true, not_true_eq_false, not_false_eq_true, true_and, and_true, false_and, and_false, ↓reduceIte, Int.reduceToNat, Int.reduceNeg, Int.toNat_natCast, e0]
      refine set_ok hG (MR_7 hM2) (FA_7 hF2) q.1 (fun M4 S c1 c2 c3 c4 => ⟨fm_nb c1, ?_⟩)
      have hM4 := MR_fm (MR_7 (x := zI 0) hM2) c1
      have hm4 : fm SM FM M2 M4 := fm_tr (fm_7 (x := zI 0) (fm_rf SM FM M2)) c1 (S2 := SM) (F2 := FM)
      refine fg_ok hG hM4 az_ok hT (c3 T hT) q2 (fun M5 j' d1 d2 d3 d4 d5 d6 => ⟨fm_nb d1, ?_⟩)
      have ej := gs_uq az_ok hn.1 hT hj.1 hj.2.1 hj.2.2.1 hj.2.2.2 d2 d3 d4 d5
      subst ej
      have hM5 := MR_fm hM4 d1
      have hm : fm SM FM M2 M5 := fm_tr hm4 d1
      have hF5 := FA_fm c2 d1
      rw [← hff, ← hll] at d6
      have u1 := gs_at az_ok hn.1 hT d2 (by omega)
      have u2 := gs_at az_ok hn.1 hT (show 0 ≤ j + 1 by omega) (by omega)
      rw [← hff] at u1 d4
      have f0 : 0 ≤ f := u1.1
      have fl : f ≤ l := by omega
      have ln : l < n := by omega
      have e7 : M5 11 0 7 = zI 0 := by rw [d1.2 7 (by decide), c1.2 7 (by decide), jup_self]
      have hst := st_in hG f0 (show 0 ≤ l - f + 1 by omega) (by omega)
      have e59 := d6.2.2 b d4 (by omega)
      have hRow : ∀ j, 0 ≤ j → j < 585 → M5 50 0 (585 * b + j).toNat = zI (w b j) := MR_RW hM5 q2.1 q2.2
      have i1 := sh_in hG f0 d4 q2.2
      have hw := (hG.2.2 b q2.1 q2.2).1
      have val : ∀ r4, r4 = zI (if mF w f (l - f + 1) ≤ mL w f (l - f + 1) then (if c = 0 then mF w f (l - f + 1) - (sh w f b + w b 0) else sh w f b + w b 1 - mL w f (l - f + 1)) else (if c = 0 then w b 1 - w b 0 + 1 else 0)) → P M5 r1 r4 := fun r4 h => ro_val hR hP hf hC hm hF5 (by rw [e7, hr]) (by rw [fm_61 hm, hv2, h])
      refine mf_ok hG hM5 d6 f0 fl ln ⟨rfl, ml_ok hG hM5 d6 f0 fl ln ⟨rfl, ?_⟩⟩
      by_cases q5 : mF w f (l - f + 1) ≤ mL w f (l - f + 1)
      · rcases q.2 with hc | hc
        · subst hc
          simp (disch := omega) only [z_add, z_sub, z_mul, z_neg, z_leT, z_leF, z_ltT, z_ltF, z_eqT, z_eqF, z_inT, z_clamp, z_nI, z_0, z_1, z_2, z_3, z_4, z_5, z_6, z_7, z_8, z_9, z_10, z_11, z_12, z_13, z_14, z_15, z_16, z_17, z_18, z_19, z_20, z_21, z_22, z_23, z_24, z_25, z_26, z_27, z_28, z_29, z_30, z_31, z_32, z_33, z_34, z_35, z_36, z_37, z_38, z_39, z_40, z_41, z_42, z_43, z_44, z_45, z_46, z_47, z_48, z_49, z_50, z_51, z_52, z_53, z_54, z_55, z_56, z_57, z_58, z_59, z_60, z_61, z_77, z_91, z_93, z_97, z_100, z_101, z_102, z_103, z_105, z_111, z_114, z_120, z_123, z_125, z_126, z_200, z_245, z_255, z_576, z_585, z_1000, z_2000, z_3510, z_11700, true_implies, false_implies, implies_true, not_true_eq_false, not_false_eq_true, true_and, and_true, false_and, and_false, ↓reduceIte, Int.reduceToNat, Int.reduceNeg, Int.toNat_natCast]
          refine mf_ok hG hM5 d6 f0 fl ln ⟨rfl, ?_⟩
          simp (disch := omega) only [z_add, z_sub, z_mul, z_neg, z_leT, z_leF, z_ltT, z_ltF, z_eqT, z_eqF, z_inT, z_clamp, z_nI, z_0, z_1, z_2, z_3, z_4, z_5, z_6, z_7, z_8, z_9, z_10, z_11, z_12, z_13, z_14, z_15, z_16, z_17, z_18, z_19, z_20, z_21, z_22, z_23, z_24, z_25, z_26, z_27, z_28, z_29, z_30, z_31, z_32, z_33, z_34, z_35, z_36, z_37, z_38, z_39, z_40, z_41, z_42, z_43, z_44, z_45, z_46, z_47, z_48, z_49, z_50, z_51, z_52, z_53, z_54, z_55, z_56, z_57, z_58, z_59, z_60, z_61, z_77, z_91, z_93, z_97, z_100, z_101, z_102, z_103, z_105, z_111, z_114, z_120, z_123, z_125, z_126, z_200, z_245, z_255, z_576, z_585, z_1000, z_2000, z_3510, z_11700, true_implies, false_implies, implies_true, not_true_eq_false, not_false_eq_true, true_and, and_true, false_and, and_false, ↓reduceIte, Int.reduceToNat, Int.reduceNeg, Int.toNat_natCast, e59, hRow]
          exact val _ (by rw [if_pos q5, if_pos rfl])
        · subst hc
          simp (disch := omega) only [z_add, z_sub, z_mul, z_neg, z_leT, z_leF, z_ltT, z_ltF, z_eqT, z_eqF, z_inT, z_clamp, z_nI, z_0, z_1, z_2, z_3, z_4, z_5, z_6, z_7, z_8, z_9, z_10, z_11, z_12, z_13, z_14, z_15, z_16, z_17, z_18, z_19, z_20, z_21, z_22, z_23, z_24, z_25, z_26, z_27, z_28, z_29, z_30, z_31, z_32, z_33, z_34, z_35, z_36, z_37, z_38, z_39, z_40, z_41, z_42, z_43, z_44, z_45, z_46, z_47, z_48, z_49, z_50, z_51, z_52, z_53, z_54, z_55, z_56, z_57, z_58, z_59, z_60, z_61, z_77, z_91, z_93, z_97, z_100, z_101, z_102, z_103, z_105, z_111, z_114, z_120, z_123, z_125, z_126, z_200, z_245, z_255, z_576, z_585, z_1000, z_2000, z_3510, z_11700, true_implies, false_implies, implies_true, not_true_eq_false, not_false_eq_true, true_and, and_true, false_and, and_false, ↓reduceIte, Int.reduceToNat, Int.reduceNeg, Int.toNat_natCast]
          refine ml_ok hG hM5 d6 f0 fl ln ⟨rfl, ?_⟩
          simp (disch := omega) only [z_add, z_sub, z_mul, z_neg, z_leT, z_leF, z_ltT, z_ltF, z_eqT, z_eqF, z_inT, z_clamp, z_nI, z_0, z_1, z_2, z_3, z_4, z_5, z_6, z_7, z_8, z_9, z_10, z_11, z_12, z_13, z_14, z_15, z_16, z_17, z_18, z_19, z_20, z_21, z_22, z_23, z_24, z_25, z_26, z_27, z_28, z_29, z_30, z_31, z_32, z_33, z_34, z_35, z_36, z_37, z_38, z_39, z_40, z_41, z_42, z_43, z_44, z_45, z_46, z_47, z_48, z_49, z_50, z_51, z_52, z_53, z_54, z_55, z_56, z_57, z_58, z_59, z_60, z_61, z_77, z_91, z_93, z_97, z_100, z_101, z_102, z_103, z_105, z_111, z_114, z_120, z_123, z_125, z_126, z_200, z_245, z_255, z_576, z_585, z_1000, z_2000, z_3510, z_11700, true_implies, false_implies, implies_true, not_true_eq_false, not_false_eq_true, true_and, and_true, false_and, and_false, ↓reduceIte, Int.reduceToNat, Int.reduceNeg, Int.toNat_natCast, e59, hRow]
          exact val _ (by rw [if_pos q5, if_neg (by omega)])
      · rcases q.2 with hc | hc
        · subst hc
          simp (disch := omega) only [z_add, z_sub, z_mul, z_neg, z_leT, z_leF, z_ltT, z_ltF, z_eqT, z_eqF, z_inT, z_clamp, z_nI, z_0, z_1, z_2, z_3, z_4, z_5, z_6, z_7, z_8, z_9, z_10, z_11, z_12, z_13, z_14, z_15, z_16, z_17, z_18, z_19, z_20, z_21, z_22, z_23, z_24, z_25, z_26, z_27, z_28, z_29, z_30, z_31, z_32, z_33, z_34, z_35, z_36, z_37, z_38, z_39, z_40, z_41, z_42, z_43, z_44, z_45, z_46, z_47, z_48, z_49, z_50, z_51, z_52, z_53, z_54, z_55, z_56, z_57, z_58, z_59, z_60, z_61, z_77, z_91, z_93, z_97, z_100, z_101, z_102, z_103, z_105, z_111, z_114, z_120, z_123, z_125, z_126, z_200, z_245, z_255, z_576, z_585, z_1000, z_2000, z_3510, z_11700, true_implies, false_implies, implies_true, not_true_eq_false, not_false_eq_true, true_and, and_true, false_and, and_false, ↓reduceIte, Int.reduceToNat, Int.reduceNeg, Int.toNat_natCast, e59, hRow]
          exact val _ (by rw [if_neg q5, if_pos rfl]; exact zc (by omega))
        · subst hc
          simp (disch := omega) only [z_add, z_sub, z_mul, z_neg, z_leT, z_leF, z_ltT, z_ltF, z_eqT, z_eqF, z_inT, z_clamp, z_nI, z_0, z_1, z_2, z_3, z_4, z_5, z_6, z_7, z_8, z_9, z_10, z_11, z_12, z_13, z_14, z_15, z_16, z_17, z_18, z_19, z_20, z_21, z_22, z_23, z_24, z_25, z_26, z_27, z_28, z_29, z_30, z_31, z_32, z_33, z_34, z_35, z_36, z_37, z_38, z_39, z_40, z_41, z_42, z_43, z_44, z_45, z_46, z_47, z_48, z_49, z_50, z_51, z_52, z_53, z_54, z_55, z_56, z_57, z_58, z_59, z_60, z_61, z_77, z_91, z_93, z_97, z_100, z_101, z_102, z_103, z_105, z_111, z_114, z_120, z_123, z_125, z_126, z_200, z_245, z_255, z_576, z_585, z_1000, z_2000, z_3510, z_11700, true_implies, false_implies, implies_true, not_true_eq_false, not_false_eq_true, true_and, and_true, false_and, and_false, ↓reduceIte, Int.reduceToNat, Int.reduceNeg, Int.toNat_natCast, e59, hRow]
          exact val _ (by rw [if_neg q5, if_neg (by omega)])
  refine wr_peeled (en_X11_peeled (bl_X11_peeled_0 _ _ _ _ _ _ ?_))
  refine po_ok hG hPR hnb hCI hv ⟨a1, a2⟩ (fun k0 k1 M3 T f1 f2 f3 f4 => ⟨by omega, fr_nb f1, ?_⟩) (fun z => Or.inl ⟨rfl, hq _ _ (key M _ (fr_rf _ _) hCI (Or.inl ⟨fun y => z y.1, z_1⟩))⟩)
  refine cks_ok c1 c2 (fun hc => ⟨rfl, ?_⟩) (fun z => Or.inl ⟨rfl, hq _ _ (key M3 _ (fr_mono f1) f2 (Or.inl ⟨fun y => z y.2, z_1⟩))⟩)
  refine lat_ok (PR_r hPR f1) hn b1 b2 (fun l0 l1 => ⟨by omega, rfl, ?_⟩) (fun z => Or.inr ⟨rfl, hq _ _ (key M3 _ (fr_mono f1) f2 (Or.inr (Or.inl ⟨⟨⟨k0, k1⟩, hc⟩, z, z_2⟩)))⟩)
  refine gw_ok (by omega) hn az_ok f4 ⟨l0, l1⟩ (fun j j0 j1 j2 j3 => ⟨rfl, ?_⟩)
  refine tg_ok (by omega) hG (PR_r hPR f1) f3 az_ok f4 ⟨j0, j1⟩ (fun M4 g1 g2 g3 => ⟨fr_nb g1, ?_⟩)
  have hf4 : fr SO M M4 := fr_tr f1 g1
  have hC4 := CI_fr f2 g1 g2
  have u1 := gs_at az_ok hn.1 f4.1 j0 (by omega)
  have u2 := gs_at az_ok hn.1 f4.1 (show 0 ≤ j + 1 by omega) (by omega)
  have e27 := g3.2.1 b j2 (by omega)
  obtain ⟨_, _, s7, s8, s9, s10⟩ := g3
  have hst := st_in hG u1.1 (show 0 ≤ gs (az w o n a) (j + 1) - 1 - gs (az w o n a) j + 1 by omega) (by omega)
  obtain ⟨⟨v1, v2, _⟩, _⟩ := (PR_r (PR_r hPR f1) g1).2.2 b l0 l1
  have enb4 : jnb M4 = jnb M := by rw [fr_nb g1, fr_nb f1]
  have i1 := sh_in hG u1.1 j2 l1
  have hw := (hG.2.2 b l0 l1).1
  have fin : ∀ x, x = zI (if mF w (gs (az w o n a) j) (gs (az w o n a) (j + 1) - 1 - gs (az w o n a) j + 1) ≤ mL w (gs (az w o n a) j) (gs (az w o n a) (j + 1) - 1 - gs (az w o n a) j + 1) then (if c = 0 then mF w (gs (az w o n a) j) (gs (az w o n a) (j + 1) - 1 - gs (az w o n a) j + 1) - (sh w (gs (az w o n a) j) b + w b 0) else sh w (gs (az w o n a) j) b + w b 1 - mL w (gs (az w o n a) j) (gs (az w o n a) (j + 1) - 1 - gs (az w o n a) j + 1)) else (if c = 0 then w b 1 - w b 0 + 1 else 0)) → Q (zI 0) 0 (jup M4 61 0 0 x) := fun x hx => hq _ _ (key _ _ (o_fr hf4) (o_CI hC4) (Or.inr (Or.inr ⟨⟨⟨k0, k1⟩, hc⟩, ⟨l0, l1⟩, rfl, T, j, f4.1, ⟨j0, j1, j2, j3⟩, _, _, rfl, rfl, by rw [jup_self, hx]⟩)))
  by_cases q5 : mF w (gs (az w o n a) j) (gs (az w o n a) (j + 1) - 1 - gs (az w o n a) j + 1) ≤ mL w (gs (az w o n a) j) (gs (az w o n a) (j + 1) - 1 - gs (az w o n a) j + 1)
  · rcases hc with hc | hc
    · subst hc
      simp (disch := omega) only [z_add, z_sub, z_mul, z_neg, z_leT, z_leF, z_ltT, z_ltF, z_eqT, z_eqF, z_inT, z_clamp, z_nI, z_0, z_1, z_2, z_3, z_4, z_5, z_6, z_7, z_8, z_9, z_10, z_11, z_12, z_13, z_14, z_15, z_16, z_17, z_18, z_19, z_20, z_21, z_22, z_23, z_24, z_25, z_26, z_27, z_28, z_29, z_30, z_31, z_32, z_33, z_34, z_35, z_36, z_37, z_38, z_39, z_40, z_41, z_42, z_43, z_44, z_45, z_46, z_47, z_48, z_49, z_50, z_51, z_52, z_53, z_54, z_55, z_56, z_57, z_58, z_59, z_60, z_61, z_77, z_91, z_93, z_97, z_100, z_101, z_102, z_103, z_105, z_111, z_114, z_120, z_123, z_125, z_126, z_200, z_245, z_255, z_576, z_585, z_1000, z_2000, z_3510, z_11700, true_implies, false_implies, implies_true, not_true_eq_false, not_false_eq_true, true_and, and_true, false_and, and_false, ↓reduceIte, Int.reduceToNat, Int.reduceNeg, Int.toNat_natCast, s9, s10, v1, v2, e27, enb4]
      exact fin _ (by rw [if_pos q5, if_pos rfl]; exact zc (by omega))
    · subst hc
      simp (disch := omega) only [z_add, z_sub, z_mul, z_neg, z_leT, z_leF, z_ltT, z_ltF, z_eqT, z_eqF, z_inT, z_clamp, z_nI, z_0, z_1, z_2, z_3, z_4, z_5, z_6, z_7, z_8, z_9, z_10, z_11, z_12, z_13, z_14, z_15, z_16, z_17, z_18, z_19, z_20, z_21, z_22, z_23, z_24, z_25, z_26, z_27, z_28, z_29, z_30, z_31, z_32, z_33, z_34, z_35, z_36, z_37, z_38, z_39, z_40, z_41, z_42, z_43, z_44, z_45, z_46, z_47, z_48, z_49, z_50, z_51, z_52, z_53, z_54, z_55, z_56, z_57, z_58, z_59, z_60, z_61, z_77, z_91, z_93, z_97, z_100, z_101, z_102, z_103, z_105, z_111, z_114, z_120, z_123, z_125, z_126, z_200, z_245, z_255, z_576, z_585, z_1000, z_2000, z_3510, z_11700, true_implies, false_implies, implies_true, not_true_eq_false, not_false_eq_true, true_and, and_true, false_and, and_false, ↓reduceIte, Int.reduceToNat, Int.reduceNeg, Int.toNat_natCast, s9, s10, v1, v2, e27, enb4]
      exact fin _ (by rw [if_pos q5, if_neg (by omega)]; exact zc (by omega))
  · rcases hc with hc | hc
    · subst hc
      simp (disch := omega) only [z_add, z_sub, z_mul, z_neg, z_leT, z_leF, z_ltT, z_ltF, z_eqT, z_eqF, z_inT, z_clamp, z_nI, z_0, z_1, z_2, z_3, z_4, z_5, z_6, z_7, z_8, z_9, z_10, z_11, z_12, z_13, z_14, z_15, z_16, z_17, z_18, z_19, z_20, z_21, z_22, z_23, z_24, z_25, z_26, z_27, z_28, z_29, z_30, z_31, z_32, z_33, z_34, z_35, z_36, z_37, z_38, z_39, z_40, z_41, z_42, z_43, z_44, z_45, z_46, z_47, z_48, z_49, z_50, z_51, z_52, z_53, z_54, z_55, z_56, z_57, z_58, z_59, z_60, z_61, z_77, z_91, z_93, z_97, z_100, z_101, z_102, z_103, z_105, z_111, z_114, z_120, z_123, z_125, z_126, z_200, z_245, z_255, z_576, z_585, z_1000, z_2000, z_3510, z_11700, true_implies, false_implies, implies_true, not_true_eq_false, not_false_eq_true, true_and, and_true, false_and, and_false, ↓reduceIte, Int.reduceToNat, Int.reduceNeg, Int.toNat_natCast, s9, s10, v1, v2, e27, enb4]
      exact fin _ (by rw [if_neg q5, if_pos rfl])
    · subst hc
      simp (disch := omega) only [z_add, z_sub, z_mul, z_neg, z_leT, z_leF, z_ltT, z_ltF, z_eqT, z_eqF, z_inT, z_clamp, z_nI, z_0, z_1, z_2, z_3, z_4, z_5, z_6, z_7, z_8, z_9, z_10, z_11, z_12, z_13, z_14, z_15, z_16, z_17, z_18, z_19, z_20, z_21, z_22, z_23, z_24, z_25, z_26, z_27, z_28, z_29, z_30, z_31, z_32, z_33, z_34, z_35, z_36, z_37, z_38, z_39, z_40, z_41, z_42, z_43, z_44, z_45, z_46, z_47, z_48, z_49, z_50, z_51, z_52, z_53, z_54, z_55, z_56, z_57, z_58, z_59, z_60, z_61, z_77, z_91, z_93, z_97, z_100, z_101, z_102, z_103, z_105, z_111, z_114, z_120, z_123, z_125, z_126, z_200, z_245, z_255, z_576, z_585, z_1000, z_2000, z_3510, z_11700, true_implies, false_implies, implies_true, not_true_eq_false, not_false_eq_true, true_and, and_true, false_and, and_false, ↓reduceIte, Int.reduceToNat, Int.reduceNeg, Int.toNat_natCast, s9, s10, v1, v2, e27, enb4]
      exact fin _ (by rw [if_neg q5, if_neg (by omega)])
theorem go_ok {M : jM} {n : Int} {w : Int → Int → Int} {o : Int → Int} {f p q u v : Int} {Q : Int32 → Nat → jM → Prop} (hG : GH n w o) (hM : MR M n w o) (hp : 0 ≤ p ∧ p < n) (hq : 0 ≤ q ∧ q < n) (hu : 0 ≤ u ∧ u < w p 4) (hv : 0 ≤ v ∧ v < w q 4) (h1 : M 59 0 p.toNat = zI (sh w f p)) (h2 : M 59 0 q.toNat = zI (sh w f q)) (hQ : Q (zI (if dpP (w p) (w q) u v then sh w f q - sh w f p - dSh (w p) (w q) (u, v) else 0)) 0 M) : ok_X12_gapOf (zI p) (zI u) (zI q) (zI v) M Q := by
  have hn := hG.1
  have hOp := hG.2.2 p hp.1 hp.2
  have hOq := hG.2.2 q hq.1 hq.2
  have h4p := hOp.2.1
  have h4q := hOq.2.1
  refine en_X12_gapOf (bl_X12_gapOf_0 _ _ _ _ _ _ ?_)
  refine isdep_ok (by omega) (by omega) hOp hOq (MR_RW hM hp.1 hp.2) (MR_RW hM hq.1 hq.2) hu hv ⟨rfl, ?_⟩
  by_cases z : dpP (w p) (w q) u v
  · rw [if_pos z] at hQ
    rw [jb_t z]
    have rA : ∀ j, 0 ≤ j → j < 585 → M 50 0 (585 * p + j).toNat = zI (w p j) := MR_RW hM hp.1 hp.2
    have rB : ∀ j, 0 ≤ j → j < 585 → M 50 0 (585 * q + j).toNat = zI (w q j) := MR_RW hM hq.1 hq.2
    have e : sh w f q - sh w f p - dSh (w p) (w q) (u, v) = w p (29 + u) - w q (29 + v) + sh w f q - sh w f p := by
      have hd : dSh (w p) (w q) (u, v) = w q (29 + v) - w p (29 + u) := rfl
      rw [hd]
      omega
    rw [e] at hQ
    simp (disch := omega) only [z_add, z_sub, z_mul, z_neg, z_leT, z_leF, z_ltT, z_ltF, z_eqT, z_eqF, z_inT, z_clamp, z_nI, z_0, z_1, z_2, z_3, z_4, z_5, z_6, z_7, z_8, z_9, z_10, z_11, z_12, z_13, z_14, z_15, z_16, z_17, z_18, z_19, z_20, z_21, z_22, z_23, z_24, z_25, z_26, z_27, z_28, z_29, z_30, z_31, z_32, z_33, z_34, z_35, z_36, z_37, z_38, z_39, z_40, z_41, z_42, z_43, z_44, z_45, z_46, z_47, z_48, z_49, z_50, z_51, z_52, z_53, z_54, z_55, z_56, z_57, z_58, z_59, z_60, z_61, z_77, z_91, z_93, z_97, z_100, z_101, z_102, z_103, z_105, z_111, z_114, z_120, z_123, z_125, z_126, z_200, z_245, z_255, z_576, z_585, z_1000, z_2000, z_3510, z_11700, true_implies, false_implies, implies_true, not_true_eq_false, not_false_eq_true, true_and, and_true, false_and, and_false, ↓reduceIte, Int.reduceToNat, Int.reduceNeg, Int.toNat_natCast, rA, rB, h1, h2]
    exact hQ
  · rw [if_neg z, ← z_0] at hQ
    rw [jb_f z]
    exact ⟨fun _ => hQ, fun y => absurd rfl y⟩
theorem crF_snoc {w : Int → Int → Int} {f p q x : Int} {L : List (Int × Int)} {uv : Int × Int} : (L ++ [uv]).foldl (crF w f p q) x = crF w f p q (L.foldl (crF w f p q) x) uv := by
  rw [List.foldl_append]
  rfl
set_option maxHeartbeats 4000000 in
set_option maxRecDepth 100000 in
theorem mc_ok {M0 : jM} {n : Int} {w : Int → Int → Int} {o : Int → Int} {f l : Int} {Q : Int32 → Nat → jM → Prop} (hG : GH n w o) (hM : MR M0 n w o) (hS : MG M0 w f l) (hf : 0 ≤ f) (hfl : f ≤ l) (hl : l < n) (hQ : Q (zI (crA w f (l - f + 1) (l - f + 1))) 0 M0) : at_X12_carried_47 0 (M0 11 0 29) M0 Q := by
  have hn := hG.1
  obtain ⟨e29, e30, hs⟩ := hS
  have h4 : ∀ p, f ≤ p → p ≤ l → 0 ≤ w p 4 ∧ w p 4 ≤ 24 := fun p h1 h2 => by have := (hG.2.2 p (by omega) (by omega)).2.1; omega
  have row : ∀ p, f ≤ p → p ≤ l → ∀ j, 0 ≤ j → j < 585 → M0 50 0 (585 * p + j).toNat = zI (w p j) := fun p h1 h2 => MR_RW hM (by omega) (by omega)
  have in89 : ∀ (p q u x0 : Int), f ≤ p → p ≤ l → f ≤ q → q ≤ l → 0 ≤ u → u < w p 4 → 0 ≤ x0 ∧ x0 ≤ 1000 → at_X12_carried_74 (zI ((dpL (w p) (w q) (u + 1)).foldl (crF w f p q) x0)) (zI p) (zI q) (zI (u + 1)) M0 Q →
      ∀ (d : Nat) (v : Int) (v3 v7 : Int32), v + d = w q 4 → 0 ≤ v → v3 = zI ((dpR (w p) (w q) u v (dpL (w p) (w q) u)).foldl (crF w f p q) x0) → v7 = zI v → at_X12_carried_89 v3 (zI p) (zI q) (zI u) v7 M0 Q := by
    intro p q u x0 p1 p2 q1 q2 u1 u2 hx hout d
    induction d with
    | zero =>
      intro v v3 v7 hd v0 h3 h7
      subst h3 h7
      refine bl_X12_carried_89 _ _ _ _ _ _ _ ?_
      have r := row q q1 q2
      have h4q := h4 q q1 q2
      rw [dpL_s u1] at hout
      rw [show v = w q 4 by omega]
      simp (disch := omega) only [z_add, z_sub, z_mul, z_neg, z_leT, z_leF, z_ltT, z_ltF, z_eqT, z_eqF, z_inT, z_clamp, z_nI, z_0, z_1, z_2, z_3, z_4, z_5, z_6, z_7, z_8, z_9, z_10, z_11, z_12, z_13, z_14, z_15, z_16, z_17, z_18, z_19, z_20, z_21, z_22, z_23, z_24, z_25, z_26, z_27, z_28, z_29, z_30, z_31, z_32, z_33, z_34, z_35, z_36, z_37, z_38, z_39, z_40, z_41, z_42, z_43, z_44, z_45, z_46, z_47, z_48, z_49, z_50, z_51, z_52, z_53, z_54, z_55, z_56, z_57, z_58, z_59, z_60, z_61, z_77, z_91, z_93, z_97, z_100, z_101, z_102, z_103, z_105, z_111, z_114, z_120, z_123, z_125, z_126, z_200, z_245, z_255, z_576, z_585, z_1000, z_2000, z_3510, z_11700, true_implies, false_implies, implies_true, not_true_eq_false, not_false_eq_true, true_and, and_true, false_and, and_false, ↓reduceIte, Int.reduceToNat, Int.reduceNeg, Int.toNat_natCast, r]
      exact hout
    | succ d ih =>
      intro v v3 v7 hd v0 h3 h7
      subst h3 h7
      refine bl_X12_carried_89 _ _ _ _ _ _ _ ?_
      have r := row q q1 q2
      have h4q := h4 q q1 q2
      have h4p := h4 p p1 p2
      simp (disch := omega) only [z_add, z_sub, z_mul, z_neg, z_leT, z_leF, z_ltT, z_ltF, z_eqT, z_eqF, z_inT, z_clamp, z_nI, z_0, z_1, z_2, z_3, z_4, z_5, z_6, z_7, z_8, z_9, z_10, z_11, z_12, z_13, z_14, z_15, z_16, z_17, z_18, z_19, z_20, z_21, z_22, z_23, z_24, z_25, z_26, z_27, z_28, z_29, z_30, z_31, z_32, z_33, z_34, z_35, z_36, z_37, z_38, z_39, z_40, z_41, z_42, z_43, z_44, z_45, z_46, z_47, z_48, z_49, z_50, z_51, z_52, z_53, z_54, z_55, z_56, z_57, z_58, z_59, z_60, z_61, z_77, z_91, z_93, z_97, z_100, z_101, z_102, z_103, z_105, z_111, z_114, z_120, z_123, z_125, z_126, z_200, z_245, z_255, z_576, z_585, z_1000, z_2000, z_3510, z_11700, true_implies, false_implies, implies_true, not_true_eq_false, not_false_eq_true, true_and, and_true, false_and, and_false, ↓reduceIte, Int.reduceToNat, Int.reduceNeg, Int.toNat_natCast, r]
      refine go_ok (f := f) hG hM ⟨by omega, by omega⟩ ⟨by omega, by omega⟩ ⟨u1, u2⟩ ⟨v0, by omega⟩ (hs p p1 p2) (hs q q1 q2) ⟨rfl, ?_⟩
      have hall : ∀ uv ∈ dpR (w p) (w q) u v (dpL (w p) (w q) u), uv ∈ dps (w p) (w q) ∨ True := fun _ _ => Or.inr trivial
      have es := dpR_s (a := w p) (b := w q) (u := u) (acc := dpL (w p) (w q) u) v0
      have hOp := hG.2.2 p (by omega) (by omega)
      have hOq := hG.2.2 q (by omega) (by omega)
      have i1 := sh_in hG hf p1 (show p < n by omega)
      have i2 := sh_in hG hf q1 (show q < n by omega)
      have hin : ∀ uv, ((0 ≤ uv.1 ∧ uv.1 < w p 4) ∧ (0 ≤ uv.2 ∧ uv.2 < w q 4)) → ∀ x, 0 ≤ x ∧ x ≤ 1000 → 0 ≤ crF w f p q x uv ∧ crF w f p q x uv ≤ 1000 := fun uv huv x hx => by
        have m3 := (hOp.2.2.1 uv.1 huv.1.1 huv.1.2).2.1
        have n3 := (hOq.2.2.1 uv.2 huv.2.1 huv.2.2).2.1
        refine crZ_in hx ?_
        unfold dSh
        omega
      have hmem : ∀ uv ∈ dpR (w p) (w q) u v (dpL (w p) (w q) u), (0 ≤ uv.1 ∧ uv.1 < w p 4) ∧ (0 ≤ uv.2 ∧ uv.2 < w q 4) := by
        refine dpR_all v0 (fun uv huv => ?_) (fun y y1 y2 _ => ⟨⟨u1, u2⟩, ⟨y1, by omega⟩⟩)
        have : ∀ uv ∈ dpL (w p) (w q) u, (0 ≤ uv.1 ∧ uv.1 < w p 4) ∧ (0 ≤ uv.2 ∧ uv.2 < w q 4) := by
          unfold dpL
          refine ni_inv (P := fun j x => ∀ uv ∈ (x : List (Int × Int)), (0 ≤ uv.1 ∧ uv.1 < w p 4) ∧ (0 ≤ uv.2 ∧ uv.2 < w q 4)) (by simp) u1 (fun j x j1 j2 hx => ?_)
          exact dpR_all h4q.1 hx (fun y y1 y2 _ => ⟨⟨j1, by omega⟩, ⟨y1, y2⟩⟩)
        exact this uv huv
      have hX : 0 ≤ (dpR (w p) (w q) u v (dpL (w p) (w q) u)).foldl (crF w f p q) x0 ∧ (dpR (w p) (w q) u v (dpL (w p) (w q) u)).foldl (crF w f p q) x0 ≤ 1000 := foldl_in (fun y uv huv hy => hin uv (hmem uv huv) y hy) x0 hx
      have hg2 : -1000 ≤ sh w f q - sh w f p - dSh (w p) (w q) (u, v) ∧ sh w f q - sh w f p - dSh (w p) (w q) (u, v) ≤ 1000 := by
        have m3 := (hOp.2.2.1 u u1 u2).2.1
        have n3 := (hOq.2.2.1 v v0 (by omega)).2.1
        have hd : dSh (w p) (w q) (u, v) = w q (29 + v) - w p (29 + u) := rfl
        rw [hd]
        omega
      have next := ih (v + 1) (zI ((dpR (w p) (w q) u (v + 1) (dpL (w p) (w q) u)).foldl (crF w f p q) x0)) (zI (v + 1)) (by omega) (by omega) rfl rfl
      by_cases z : dpP (w p) (w q) u v
      · rw [if_pos z] at es
        rw [if_pos z]
        rw [es, crF_snoc, crZ_is] at next
        generalize (dpR (w p) (w q) u v (dpL (w p) (w q) u)).foldl (crF w f p q) x0 = x at *
        generalize sh w f q - sh w f p - dSh (w p) (w q) (u, v) = g at *
        by_cases z1 : 0 < g
        · by_cases z2 : x = 0
          · rw [if_pos ⟨z1, Or.inl z2⟩] at next
            simp (disch := omega) only [z_add, z_sub, z_mul, z_neg, z_leT, z_leF, z_ltT, z_ltF, z_eqT, z_eqF, z_inT, z_clamp, z_nI, z_0, z_1, z_2, z_3, z_4, z_5, z_6, z_7, z_8, z_9, z_10, z_11, z_12, z_13, z_14, z_15, z_16, z_17, z_18, z_19, z_20, z_21, z_22, z_23, z_24, z_25, z_26, z_27, z_28, z_29, z_30, z_31, z_32, z_33, z_34, z_35, z_36, z_37, z_38, z_39, z_40, z_41, z_42, z_43, z_44, z_45, z_46, z_47, z_48, z_49, z_50, z_51, z_52, z_53, z_54, z_55, z_56, z_57, z_58, z_59, z_60, z_61, z_77, z_91, z_93, z_97, z_100, z_101, z_102, z_103, z_105, z_111, z_114, z_120, z_123, z_125, z_126, z_200, z_245, z_255, z_576, z_585, z_1000, z_2000, z_3510, z_11700, true_implies, false_implies, implies_true, not_true_eq_false, not_false_eq_true, true_and, and_true, false_and, and_false, ↓reduceIte, Int.reduceToNat, Int.reduceNeg, Int.toNat_natCast]
            exact next
          · by_cases z3 : g < x
            · rw [if_pos ⟨z1, Or.inr z3⟩] at next
              simp (disch := omega) only [z_add, z_sub, z_mul, z_neg, z_leT, z_leF, z_ltT, z_ltF, z_eqT, z_eqF, z_inT, z_clamp, z_nI, z_0, z_1, z_2, z_3, z_4, z_5, z_6, z_7, z_8, z_9, z_10, z_11, z_12, z_13, z_14, z_15, z_16, z_17, z_18, z_19, z_20, z_21, z_22, z_23, z_24, z_25, z_26, z_27, z_28, z_29, z_30, z_31, z_32, z_33, z_34, z_35, z_36, z_37, z_38, z_39, z_40, z_41, z_42, z_43, z_44, z_45, z_46, z_47, z_48, z_49, z_50, z_51, z_52, z_53, z_54, z_55, z_56, z_57, z_58, z_59, z_60, z_61, z_77, z_91, z_93, z_97, z_100, z_101, z_102, z_103, z_105, z_111, z_114, z_120, z_123, z_125, z_126, z_200, z_245, z_255, z_576, z_585, z_1000, z_2000, z_3510, z_11700, true_implies, false_implies, implies_true, not_true_eq_false, not_false_eq_true, true_and, and_true, false_and, and_false, ↓reduceIte, Int.reduceToNat, Int.reduceNeg, Int.toNat_natCast]
              exact next
            · rw [if_neg (fun y => by omega)] at next
              simp (disch := omega) only [z_add, z_sub, z_mul, z_neg, z_leT, z_leF, z_ltT, z_ltF, z_eqT, z_eqF, z_inT, z_clamp, z_nI, z_0, z_1, z_2, z_3, z_4, z_5, z_6, z_7, z_8, z_9, z_10, z_11, z_12, z_13, z_14, z_15, z_16, z_17, z_18, z_19, z_20, z_21, z_22, z_23, z_24, z_25, z_26, z_27, z_28, z_29, z_30, z_31, z_32, z_33, z_34, z_35, z_36, z_37, z_38, z_39, z_40, z_41, z_42, z_43, z_44, z_45, z_46, z_47, z_48, z_49, z_50, z_51, z_52, z_53, z_54, z_55, z_56, z_57, z_58, z_59, z_60, z_61, z_77, z_91, z_93, z_97, z_100, z_101, z_102, z_103, z_105, z_111, z_114, z_120, z_123, z_125, z_126, z_200, z_245, z_255, z_576, z_585, z_1000, z_2000, z_3510, z_11700, true_implies, false_implies, implies_true, not_true_eq_false, not_false_eq_true, true_and, and_true, false_and, and_false, ↓reduceIte, Int.reduceToNat, Int.reduceNeg, Int.toNat_natCast]
              exact next
        · rw [if_neg (fun y => z1 y.1)] at next
          simp (disch := omega) only [z_add, z_sub, z_mul, z_neg, z_leT, z_leF, z_ltT, z_ltF, z_eqT, z_eqF, z_inT, z_clamp, z_nI, z_0, z_1, z_2, z_3, z_4, z_5, z_6, z_7, z_8, z_9, z_10, z_11, z_12, z_13, z_14, z_15, z_16, z_17, z_18, z_19, z_20, z_21, z_22, z_23, z_24, z_25, z_26, z_27, z_28, z_29, z_30, z_31, z_32, z_33, z_34, z_35, z_36, z_37, z_38, z_39, z_40, z_41, z_42, z_43, z_44, z_45, z_46, z_47, z_48, z_49, z_50, z_51, z_52, z_53, z_54, z_55, z_56, z_57, z_58, z_59, z_60, z_61, z_77, z_91, z_93, z_97, z_100, z_101, z_102, z_103, z_105, z_111, z_114, z_120, z_123, z_125, z_126, z_200, z_245, z_255, z_576, z_585, z_1000, z_2000, z_3510, z_11700, true_implies, false_implies, implies_true, not_true_eq_false, not_false_eq_true, true_and, and_true, false_and, and_false, ↓reduceIte, Int.reduceToNat, Int.reduceNeg, Int.toNat_natCast]
          exact next
      · rw [if_neg z] at es
        rw [if_neg z]
        rw [es] at next
        simp (disch := omega) only [z_add, z_sub, z_mul, z_neg, z_leT, z_leF, z_ltT, z_ltF, z_eqT, z_eqF, z_inT, z_clamp, z_nI, z_0, z_1, z_2, z_3, z_4, z_5, z_6, z_7, z_8, z_9, z_10, z_11, z_12, z_13, z_14, z_15, z_16, z_17, z_18, z_19, z_20, z_21, z_22, z_23, z_24, z_25, z_26, z_27, z_28, z_29, z_30, z_31, z_32, z_33, z_34, z_35, z_36, z_37, z_38, z_39, z_40, z_41, z_42, z_43, z_44, z_45, z_46, z_47, z_48, z_49, z_50, z_51, z_52, z_53, z_54, z_55, z_56, z_57, z_58, z_59, z_60, z_61, z_77, z_91, z_93, z_97, z_100, z_101, z_102, z_103, z_105, z_111, z_114, z_120, z_123, z_125, z_126, z_200, z_245, z_255, z_576, z_585, z_1000, z_2000, z_3510, z_11700, true_implies, false_implies, implies_true, not_true_eq_false, not_false_eq_true, true_and, and_true, false_and, and_false, ↓reduceIte, Int.reduceToNat, Int.reduceNeg, Int.toNat_natCast]
        exact next
  have in74 : ∀ (p q x0 : Int), f ≤ p → p ≤ l → f ≤ q → q ≤ l → 0 ≤ x0 ∧ x0 ≤ 1000 → at_X12_carried_62 (zI (crP w f p q x0)) (zI p) (zI (q + 1)) M0 Q →
      ∀ (d : Nat) (u : Int) (v3 v6 : Int32), u + d = w p 4 → 0 ≤ u → v3 = zI ((dpL (w p) (w q) u).foldl (crF w f p q) x0) → v6 = zI u → at_X12_carried_74 v3 (zI p) (zI q) v6 M0 Q := by
    intro p q x0 p1 p2 q1 q2 hx hout d
    induction d with
    | zero =>
      intro u v3 v6 hd u0 h3 h6
      subst h3 h6
      refine bl_X12_carried_74 _ _ _ _ _ _ ?_
      have r := row p p1 p2
      have h4p := h4 p p1 p2
      unfold crP dps at hout
      rw [show u = w p 4 by omega]
      simp (disch := omega) only [z_add, z_sub, z_mul, z_neg, z_leT, z_leF, z_ltT, z_ltF, z_eqT, z_eqF, z_inT, z_clamp, z_nI, z_0, z_1, z_2, z_3, z_4, z_5, z_6, z_7, z_8, z_9, z_10, z_11, z_12, z_13, z_14, z_15, z_16, z_17, z_18, z_19, z_20, z_21, z_22, z_23, z_24, z_25, z_26, z_27, z_28, z_29, z_30, z_31, z_32, z_33, z_34, z_35, z_36, z_37, z_38, z_39, z_40, z_41, z_42, z_43, z_44, z_45, z_46, z_47, z_48, z_49, z_50, z_51, z_52, z_53, z_54, z_55, z_56, z_57, z_58, z_59, z_60, z_61, z_77, z_91, z_93, z_97, z_100, z_101, z_102, z_103, z_105, z_111, z_114, z_120, z_123, z_125, z_126, z_200, z_245, z_255, z_576, z_585, z_1000, z_2000, z_3510, z_11700, true_implies, false_implies, implies_true, not_true_eq_false, not_false_eq_true, true_and, and_true, false_and, and_false, ↓reduceIte, Int.reduceToNat, Int.reduceNeg, Int.toNat_natCast, r]
      exact hout
    | succ d ih =>
      intro u v3 v6 hd u0 h3 h6
      subst h3 h6
      refine bl_X12_carried_74 _ _ _ _ _ _ ?_
      have r := row p p1 p2
      have h4p := h4 p p1 p2
      have h4q := h4 q q1 q2
      simp (disch := omega) only [z_add, z_sub, z_mul, z_neg, z_leT, z_leF, z_ltT, z_ltF, z_eqT, z_eqF, z_inT, z_clamp, z_nI, z_0, z_1, z_2, z_3, z_4, z_5, z_6, z_7, z_8, z_9, z_10, z_11, z_12, z_13, z_14, z_15, z_16, z_17, z_18, z_19, z_20, z_21, z_22, z_23, z_24, z_25, z_26, z_27, z_28, z_29, z_30, z_31, z_32, z_33, z_34, z_35, z_36, z_37, z_38, z_39, z_40, z_41, z_42, z_43, z_44, z_45, z_46, z_47, z_48, z_49, z_50, z_51, z_52, z_53, z_54, z_55, z_56, z_57, z_58, z_59, z_60, z_61, z_77, z_91, z_93, z_97, z_100, z_101, z_102, z_103, z_105, z_111, z_114, z_120, z_123, z_125, z_126, z_200, z_245, z_255, z_576, z_585, z_1000, z_2000, z_3510, z_11700, true_implies, false_implies, implies_true, not_true_eq_false, not_false_eq_true, true_and, and_true, false_and, and_false, ↓reduceIte, Int.reduceToNat, Int.reduceNeg, Int.toNat_natCast, r]
      exact in89 p q u x0 p1 p2 q1 q2 u0 (by omega) hx (ih (u + 1) _ _ (by omega) (by omega) rfl rfl) (w q 4).toNat 0 _ _ (by omega) (by omega) (by rw [dpR_0]) rfl
  have in62 : ∀ (p x0 : Int), f ≤ p → p ≤ l → 0 ≤ x0 ∧ x0 ≤ 1000 → at_X12_carried_47 (zI (crQ w f p (l - f + 1) x0)) (zI (p + 1)) M0 Q →
      ∀ (d : Nat) (k : Int) (v3 v5 : Int32), k + d = l - f + 1 → 0 ≤ k → v3 = zI (crQ w f p k x0) → v5 = zI (f + k) → at_X12_carried_62 v3 (zI p) v5 M0 Q := by
    intro p x0 p1 p2 hx hout d
    induction d with
    | zero =>
      intro k v3 v5 hd k0 h3 h5
      subst h3 h5
      refine bl_X12_carried_62 _ _ _ _ _ ?_
      simp (disch := omega) only [z_add, z_sub, z_mul, z_neg, z_leT, z_leF, z_ltT, z_ltF, z_eqT, z_eqF, z_inT, z_clamp, z_nI, z_0, z_1, z_2, z_3, z_4, z_5, z_6, z_7, z_8, z_9, z_10, z_11, z_12, z_13, z_14, z_15, z_16, z_17, z_18, z_19, z_20, z_21, z_22, z_23, z_24, z_25, z_26, z_27, z_28, z_29, z_30, z_31, z_32, z_33, z_34, z_35, z_36, z_37, z_38, z_39, z_40, z_41, z_42, z_43, z_44, z_45, z_46, z_47, z_48, z_49, z_50, z_51, z_52, z_53, z_54, z_55, z_56, z_57, z_58, z_59, z_60, z_61, z_77, z_91, z_93, z_97, z_100, z_101, z_102, z_103, z_105, z_111, z_114, z_120, z_123, z_125, z_126, z_200, z_245, z_255, z_576, z_585, z_1000, z_2000, z_3510, z_11700, true_implies, false_implies, implies_true, not_true_eq_false, not_false_eq_true, true_and, and_true, false_and, and_false, ↓reduceIte, Int.reduceToNat, Int.reduceNeg, Int.toNat_natCast, e30]
      rw [show k = l - f + 1 by omega]
      exact hout
    | succ d ih =>
      intro k v3 v5 hd k0 h3 h5
      subst h3 h5
      refine bl_X12_carried_62 _ _ _ _ _ ?_
      simp (disch := omega) only [z_add, z_sub, z_mul, z_neg, z_leT, z_leF, z_ltT, z_ltF, z_eqT, z_eqF, z_inT, z_clamp, z_nI, z_0, z_1, z_2, z_3, z_4, z_5, z_6, z_7, z_8, z_9, z_10, z_11, z_12, z_13, z_14, z_15, z_16, z_17, z_18, z_19, z_20, z_21, z_22, z_23, z_24, z_25, z_26, z_27, z_28, z_29, z_30, z_31, z_32, z_33, z_34, z_35, z_36, z_37, z_38, z_39, z_40, z_41, z_42, z_43, z_44, z_45, z_46, z_47, z_48, z_49, z_50, z_51, z_52, z_53, z_54, z_55, z_56, z_57, z_58, z_59, z_60, z_61, z_77, z_91, z_93, z_97, z_100, z_101, z_102, z_103, z_105, z_111, z_114, z_120, z_123, z_125, z_126, z_200, z_245, z_255, z_576, z_585, z_1000, z_2000, z_3510, z_11700, true_implies, false_implies, implies_true, not_true_eq_false, not_false_eq_true, true_and, and_true, false_and, and_false, ↓reduceIte, Int.reduceToNat, Int.reduceNeg, Int.toNat_natCast, e30]
      exact in74 p (f + k) (crQ w f p k x0) p1 p2 (by omega) (by omega) (crQ_in hG hf ⟨p1, by omega⟩ k0 (by omega) hx) (ih (k + 1) _ _ (by omega) (by omega) (by rw [crQ_s k0]) (zc (by omega))) (w p 4).toNat 0 _ _ (by have := h4 p p1 p2; omega) (by omega) (by rw [dpL_0]; rfl) rfl
  have main : ∀ (d : Nat) (k : Int) (v3 v4 : Int32), k + d = l - f + 1 → 0 ≤ k → v3 = zI (crA w f k (l - f + 1)) → v4 = zI (f + k) → at_X12_carried_47 v3 v4 M0 Q := by
    intro d
    induction d with
    | zero =>
      intro k v3 v4 hd k0 h3 h4
      subst h3 h4
      refine bl_X12_carried_47 _ _ _ _ ?_
      simp (disch := omega) only [z_add, z_sub, z_mul, z_neg, z_leT, z_leF, z_ltT, z_ltF, z_eqT, z_eqF, z_inT, z_clamp, z_nI, z_0, z_1, z_2, z_3, z_4, z_5, z_6, z_7, z_8, z_9, z_10, z_11, z_12, z_13, z_14, z_15, z_16, z_17, z_18, z_19, z_20, z_21, z_22, z_23, z_24, z_25, z_26, z_27, z_28, z_29, z_30, z_31, z_32, z_33, z_34, z_35, z_36, z_37, z_38, z_39, z_40, z_41, z_42, z_43, z_44, z_45, z_46, z_47, z_48, z_49, z_50, z_51, z_52, z_53, z_54, z_55, z_56, z_57, z_58, z_59, z_60, z_61, z_77, z_91, z_93, z_97, z_100, z_101, z_102, z_103, z_105, z_111, z_114, z_120, z_123, z_125, z_126, z_200, z_245, z_255, z_576, z_585, z_1000, z_2000, z_3510, z_11700, true_implies, false_implies, implies_true, not_true_eq_false, not_false_eq_true, true_and, and_true, false_and, and_false, ↓reduceIte, Int.reduceToNat, Int.reduceNeg, Int.toNat_natCast, e30]
      rw [show k = l - f + 1 by omega]
      exact hQ
    | succ d ih =>
      intro k v3 v4 hd k0 h3 h4
      subst h3 h4
      refine bl_X12_carried_47 _ _ _ _ ?_
      simp (disch := omega) only [z_add, z_sub, z_mul, z_neg, z_leT, z_leF, z_ltT, z_ltF, z_eqT, z_eqF, z_inT, z_clamp, z_nI, z_0, z_1, z_2, z_3, z_4, z_5, z_6, z_7, z_8, z_9, z_10, z_11, z_12, z_13, z_14, z_15, z_16, z_17, z_18, z_19, z_20, z_21, z_22, z_23, z_24, z_25, z_26, z_27, z_28, z_29, z_30, z_31, z_32, z_33, z_34, z_35, z_36, z_37, z_38, z_39, z_40, z_41, z_42, z_43, z_44, z_45, z_46, z_47, z_48, z_49, z_50, z_51, z_52, z_53, z_54, z_55, z_56, z_57, z_58, z_59, z_60, z_61, z_77, z_91, z_93, z_97, z_100, z_101, z_102, z_103, z_105, z_111, z_114, z_120, z_123, z_125, z_126, z_200, z_245, z_255, z_576, z_585, z_1000, z_2000, z_3510, z_11700, true_implies, false_implies, implies_true, not_true_eq_false, not_false_eq_true, true_and, and_true, false_and, and_false, ↓reduceIte, Int.reduceToNat, Int.reduceNeg, Int.toNat_natCast, e30, e29]
      exact in62 (f + k) (crA w f k (l - f + 1)) (by omega) (by omega) (crA_in hG hf k0 (by omega) (by omega) (by omega)) (ih (k + 1) _ _ (by omega) (by omega) (by rw [crA_s k0]) (zc (by omega))) (l - f + 1).toNat 0 _ _ (by omega) (by omega) (by rw [crQ_0]) (zc (by omega))
  rw [e29]
  exact main (l - f + 1).toNat 0 _ _ (by omega) (by omega) (by rw [crA_0]; exact z_0) (zc (by omega))
set_option maxHeartbeats 4000000 in
set_option maxRecDepth 100000 in
theorem op_carried {M : jM} {k : Nat} {n : Int} {w : Int → Int → Int} {o : Int → Int} {ver : Int} {a b : Int32} {P : jM → Int32 → Int32 → Prop} {Q : Int32 → Nat → jM → Prop} (hR : RLz M k n w o ver) (hk : k ≤ 2000) (hP : ∀ M5 r1 r4, RLz M5 (k + 1) n w o ver → M5 11 0 7 = r1 → (r1 = 0 → M5 61 0 0 = r4) → P M5 r1 r4) (hq : ∀ r1 M2, ok_X12_carried a b M2 (fun r4 _ M5 => P M5 r1 r4) → Q r1 0 M2) : ok_L_carried a b M Q := by
  obtain ⟨hnb, hv⟩ := RLz_n hR hk
  have hG := hR.1
  have hPR := hR.2.1
  have hCI := hR.2.2.2.1
  have hn := hG.1
  have h6 := hPR.1
  obtain ⟨a, a1, a2, rfl⟩ := zI_of a
  obtain ⟨b, b1, b2, rfl⟩ := zI_of b
  have key : ∀ (M2 : jM) (r1 : Int32), fr SO M M2 → CI M2 n w o ver → ((¬ (0 ≤ a ∧ a ≤ 2) ∧ r1 = zI 1) ∨ ((0 ≤ a ∧ a ≤ 2) ∧ ∃ T, isNG (az w o n a) n T ∧ ((¬ (0 ≤ b ∧ b < T) ∧ r1 = zI 2) ∨ ((0 ≤ b ∧ b < T) ∧ r1 = zI 0 ∧ ∃ f l, f = gs (az w o n a) b ∧ l = gs (az w o n a) (b + 1) - 1 ∧ M2 61 0 0 = zI (crA w f (l - f + 1) (l - f + 1)))))) → ok_X12_carried (zI a) (zI b) M2 (fun r4 _ M5 => P M5 r1 r4) := by
    intro M2 r1 hf hC hr
    obtain ⟨hM2, hF2⟩ := RLz_m hR hf
    have e0 := hM2.1
    refine en_X12_carried (bl_X12_carried_0 _ _ _ _ ?_)
    rintro M3 rfl
    rcases hr with ⟨q, hr⟩ | ⟨q, T, hT, hr⟩
    · have fin := ro_thr hR hP hf hC (fm_7 (x := zI 0) (fm_rf _ _ _)) (FA_7 hF2) hr (by omega)
      by_cases q4 : a < 0
      · simp (disch := omega) only [jup_self, jup_ne, z_add, z_sub, z_mul, z_neg, z_leT, z_leF, z_ltT, z_ltF, z_eqT, z_eqF, z_inT, z_clamp, z_nI, z_0, z_1, z_2, z_3, z_4, z_5, z_6, z_7, z_8, z_9, z_10, z_11, z_12, z_13, z_14, z_15, z_16, z_17, z_18, z_19, z_20, z_21, z_22, z_23, z_24, z_25, z_26, z_27, z_28, z_29, z_30, z_31, z_32, z_33, z_34, z_35, z_36, z_37, z_38, z_39, z_40, z_41, z_42, z_43, z_44, z_45, z_46, z_47, z_48, z_49, z_50, z_51, z_52, z_53, z_54, z_55, z_56, z_57, z_58, z_59, z_60, z_61, z_77, z_91, z_93, z_97, z_100, z_101, z_102, z_103, z_105, z_111, z_114, z_120, z_123, z_125, z_126, z_200, z_245, z_255, z_576, z_585, z_1000, z_2000, z_3510, z_11700, true_implies, false_implies, implies_true, not_true_eq_false, not_false_eq_true, true_and, and_true, false_and, and_false, ↓reduceIte, Int.reduceToNat, Int.reduceNeg, Int.toNat_natCast]
        rintro M4 rfl
        exact fin _
      · simp (disch := omega) only [jup_self, jup_ne, z_add, z_sub, z_mul, z_neg, z_leT, z_leF, z_ltT, z_ltF, z_eqT, z_eqF, z_inT, z_clamp, z_nI, z_0, z_1, z_2, z_3, z_4, z_5, z_6, z_7, z_8, z_9, z_10, z_11, z_12, z_13, z_14, z_15, z_16, z_17, z_18, z_19, z_20, z_21, z_22, z_23, z_24, z_25, z_26, z_27, z_28, z_29, z_30, z_31, z_32, z_33, z_34, z_35, z_36, z_37, z_38, z_39, z_40, z_41, z_42, z_43, z_44, z_45, z_46, z_47, z_48, z_49, z_50, z_51, z_52, z_53, z_54, z_55, z_56, z_57, z_58, z_59, z_60, z_61, z_77, z_91, z_93, z_97, z_100, z_101, z_102, z_103, z_105, z_111, z_114, z_120, z_123, z_125, z_126, z_200, z_245, z_255, z_576, z_585, z_1000, z_2000, z_3510, z_11700, true_implies, false_implies, implies_true, not_true_eq_false, not_false_eq_true, true_and, and_true, false_and, and_false, ↓reduceIte, Int.reduceToNat, Int.reduceNeg, Int.toNat_natCast]
        rintro M4 rfl
        exact fin _
    · simp (disch := omega) only [jup_self, jup_ne, z_add, z_sub, z_mul, z_neg, z_leT, z_leF, z_ltT, z_ltF, z_eqT, z_eqF, z_inT, z_clamp, z_nI, z_0, z_1, z_2, z_3, z_4, z_5, z_6, z_7, z_8, z_9, z_10, z_11, z_12, z_13, z_14, z_15, z_16, z_17, z_18, z_19, z_20, z_21, z_22, z_23, z_24, z_25, z_26, z_27, z_28, z_29, z_30, z_31, z_32, z_33, z_34, z_35, z_36, z_37, z_38, z_39, z_40, z_41, z_42, z_43, z_44, z_45, z_46, z_47, z_48, z_49, z_50, z_51, z_52, z_53, z_54, z_55, z_56, z_57, z_58, z_59, z_60, z_61, z_77, z_91, z_93, z_97, z_100, z_101, z_102, z_103, z_105, z_111, z_114, z_120, z_123, z_125, z_126, z_200, z_245, z_255, z_576, z_585, z_1000, z_2000, z_3510, z_11700, true_implies, false_implies, implies_true, not_true_eq_false, not_false_eq_true, true_and, and_true, false_and, and_false, ↓reduceIte, Int.reduceToNat, Int.reduceNeg, Int.toNat_natCast]
      refine set_ok hG (MR_7 hM2) (FA_7 hF2) q (fun M4 S c1 c2 c3 c4 => ⟨fm_nb c1, ?_⟩)
      have hM4 := MR_fm (MR_7 (x := zI 0) hM2) c1
      have hm4 : fm SM FM M2 M4 := fm_tr (fm_7 (x := zI 0) (fm_rf SM FM M2)) c1 (S2 := SM) (F2 := FM)
      refine fn_ok hG hM4 az_ok hT (c3 T hT) ⟨b1, b2⟩ (fun M5 d1 d2 d3 d4 => ⟨fm_nb d1, ?_⟩) (fun z => ⟨rfl, ?_⟩)
      · rcases hr with ⟨q2, hr⟩ | ⟨q2, hr, f, l, hff, hll, hv2⟩
        · exact absurd ⟨d2, d3⟩ q2
        · rw [← hff, ← hll] at d4
          have hM5 := MR_fm hM4 d1
          have hm : fm SM FM M2 M5 := fm_tr hm4 d1
          have hF5 := FA_fm c2 d1
          have g1 := gs_at az_ok hn.1 hT d2 (by omega)
          have g2 := gs_at az_ok hn.1 hT (show 0 ≤ b + 1 by omega) (by omega)
          have g3 := az_ok (w := w) (o := o) (n := n) (k := a) _ g1.1 (hT.2.2 b d2 d3)
          have g4 := gs_s (z := az w o n a) d2
          rw [← hff] at g1 g3 g4
          have e7 : M5 11 0 7 = zI 0 := by rw [d1.2 7 (by decide), c1.2 7 (by decide), jup_self]
          refine b10 ?_
          rw [← z_0]
          refine mc_ok hG hM5 d4 g1.1 (by omega) (by omega) ?_
          exact ro_val hR hP hf hC hm hF5 (by rw [e7, hr]) (by rw [fm_61 hm, hv2])
      · rcases hr with ⟨q2, hr⟩ | ⟨q2, _⟩
        · have fin := ro_thr hR hP hf hC hm4 c2 hr (by omega)
          simp (disch := omega) only [z_add, z_sub, z_mul, z_neg, z_leT, z_leF, z_ltT, z_ltF, z_eqT, z_eqF, z_inT, z_clamp, z_nI, z_0, z_1, z_2, z_3, z_4, z_5, z_6, z_7, z_8, z_9, z_10, z_11, z_12, z_13, z_14, z_15, z_16, z_17, z_18, z_19, z_20, z_21, z_22, z_23, z_24, z_25, z_26, z_27, z_28, z_29, z_30, z_31, z_32, z_33, z_34, z_35, z_36, z_37, z_38, z_39, z_40, z_41, z_42, z_43, z_44, z_45, z_46, z_47, z_48, z_49, z_50, z_51, z_52, z_53, z_54, z_55, z_56, z_57, z_58, z_59, z_60, z_61, z_77, z_91, z_93, z_97, z_100, z_101, z_102, z_103, z_105, z_111, z_114, z_120, z_123, z_125, z_126, z_200, z_245, z_255, z_576, z_585, z_1000, z_2000, z_3510, z_11700, true_implies, false_implies, implies_true, not_true_eq_false, not_false_eq_true, true_and, and_true, false_and, and_false, ↓reduceIte, Int.reduceToNat, Int.reduceNeg, Int.toNat_natCast]
          rintro M7 rfl
          exact fin _
        · exact absurd q2 z
  refine wr_carried (en_X11_carried (bl_X11_carried_0 _ _ _ _ _ ?_))
  refine po_ok hG hPR hnb hCI hv ⟨a1, a2⟩ (fun k0 k1 M3 T f1 f2 f3 f4 => ⟨by omega, fr_nb f1, ?_⟩) (fun z => Or.inl ⟨rfl, hq _ _ (key M _ (fr_rf _ _) hCI (Or.inl ⟨z, z_1⟩))⟩)
  have hTn := T_in hn f4.1
  refine cko_ok (by omega) f4.2.1 (by omega) b1 b2 (fun g0 g1 => ⟨rfl, ?_⟩) (fun z => Or.inr ⟨rfl, hq _ _ (key M3 _ (fr_mono f1) f2 (Or.inr ⟨⟨k0, k1⟩, T, f4.1, Or.inl ⟨z, z_2⟩⟩))⟩)
  refine tg_ok (by omega) hG (PR_r hPR f1) f3 az_ok f4 ⟨g0, g1⟩ (fun M4 i1 i2 i3 => ⟨fr_nb i1, ?_⟩)
  have hf4 : fr SC M M4 := fr_tr f1 i1
  have hC4 := CI_fr f2 i1 i2
  have u1 := gs_at az_ok hn.1 f4.1 g0 (by omega)
  have u2 := gs_at az_ok hn.1 f4.1 (show 0 ≤ b + 1 by omega) (by omega)
  have u3 := az_ok (w := w) (o := o) (n := n) (k := a) _ u1.1 (f4.1.2.2 b g0 g1)
  have u4 := gs_s (z := az w o n a) g0
  refine cd_ok hG (PR_r hPR hf4) (by rw [fr_nb hf4]; exact hnb) i3 u1.1 (by omega) (by omega) (fun M5 w1 => ⟨fr_nb w1, by rw [fr_nb w1, fr_nb hf4], ?_⟩)
  rw [z00]
  exact hq _ _ (key _ _ (o_fr (fr_tr hf4 w1)) (o_CI (CI_fr hC4 w1 (by rw [w1 1 (by decide)]))) (Or.inr ⟨⟨k0, k1⟩, T, f4.1, Or.inr ⟨⟨g0, g1⟩, z_0, _, _, rfl, rfl, by rw [jup_self]⟩⟩))
