set_option maxHeartbeats 4000000 in
set_option maxRecDepth 100000 in
theorem op_dependenceCount {M : jM} {k : Nat} {n : Int} {w : Int → Int → Int} {o : Int → Int} {ver : Int} {a b : Int32} {P : jM → Int32 → Int32 → Prop} {Q : Int32 → Nat → jM → Prop} (hR : RLz M k n w o ver) (hk : k ≤ 2000) (hP : ∀ M5 r1 r4, RLz M5 (k + 1) n w o ver → M5 11 0 7 = r1 → (r1 = 0 → M5 61 0 0 = r4) → P M5 r1 r4) (hq : ∀ r1 M2, ok_X12_dependenceCount a b M2 (fun r4 _ M5 => P M5 r1 r4) → Q r1 0 M2) : ok_L_dependenceCount a b M Q := by
  obtain ⟨hnb, hv⟩ := RLz_n hR hk
  have hG := hR.1
  have hPR := hR.2.1
  have hCI := hR.2.2.2.1
  have hn := hG.1
  have h6 := hPR.1
  obtain ⟨a, a1, a2, rfl⟩ := zI_of a
  obtain ⟨b, b1, b2, rfl⟩ := zI_of b
  have key : ∀ (M2 : jM) (r1 : Int32), fr SO M M2 → CI M2 n w o ver → ((¬ ((0 ≤ a ∧ a < n) ∧ 0 ≤ b ∧ b < n) ∧ r1 = zI 1) ∨ (((0 ≤ a ∧ a < n) ∧ 0 ≤ b ∧ b < n) ∧ ¬ a < b ∧ r1 = zI 2) ∨ (((0 ≤ a ∧ a < n) ∧ 0 ≤ b ∧ b < n) ∧ a < b ∧ r1 = zI 0 ∧ M2 61 0 0 = zI (dps (w a) (w b)).length)) → ok_X12_dependenceCount (zI a) (zI b) M2 (fun r4 _ M5 => P M5 r1 r4) := by
    intro M2 r1 hf hC hr
    obtain ⟨hM2, hF2⟩ := RLz_m hR hf
    have e0 := hM2.1
    refine en_X12_dependenceCount (bl_X12_dependenceCount_0 _ _ _ _ ?_)
    rcases hr with ⟨q, hr⟩ | ⟨q, q2, hr⟩ | ⟨q, q2, hr, hv2⟩
    · have fin := ro_thr hR hP hf hC (fm_rf _ _ M2) hF2 hr (by omega)
      have cl : ∀ M3, M3 = jup M2 11 0 7 (zI 1) → (zI 1 ≤ zI 0 → ok_X12_dependences (zI a) (zI b) (-1) M3 (fun r4 _ M5 => jnb M5 = jnb M3 ∧ P M5 r1 r4)) ∧ (¬ (zI 1 ≤ zI 0) → P M3 r1 (zI 0)) := by
        rintro M3 rfl
        exact ⟨fun z => by rw [z_leF (by omega)] at z; exact z.elim, fun _ => fin _⟩
      rintro M3 rfl
      by_cases q3 : a < 0
      · simp (disch := omega) only [jup_self, jup_ne, z_add, z_sub, z_mul, z_neg, z_leT, z_leF, z_ltT, z_ltF, z_eqT, z_eqF, z_inT, z_clamp, z_nI, z_0, z_1, z_2, z_3, z_4, z_5, z_6, z_7, z_8, z_9, z_10, z_11, z_12, z_13, z_14, z_15, z_16, z_17, z_18, z_19, z_20, z_21, z_22, z_23, z_24, z_25, z_26, z_27, z_28, z_29, z_30, z_31, z_32, z_33, z_34, z_35, z_36, z_37, z_38, z_39, z_40, z_41, z_42, z_43, z_44, z_45, z_46, z_47, z_48, z_49, z_50, z_51, z_52, z_53, z_54, z_55, z_56, z_57, z_58, z_59, z_60, z_61, z_77, z_91, z_93, z_97, z_100, z_101, z_102, z_103, z_105, z_111, z_114, z_120, z_123, z_125, z_126, z_200, z_245, z_255, z_576, z_585, z_1000, z_2000, z_3510, z_11700, true_implies, false_implies, implies_true, not_true_eq_false, not_false_eq_true, true_and, and_true, false_and, and_false, ↓reduceIte, Int.reduceToNat, Int.reduceNeg, Int.toNat_natCast, e0, true_or, or_true, false_or, or_false]
        exact fin _
      · by_cases q4 : n ≤ a
        · simp (disch := omega) only [jup_self, jup_ne, z_add, z_sub, z_mul, z_neg, z_leT, z_leF, z_ltT, z_ltF, z_eqT, z_eqF, z_inT, z_clamp, z_nI, z_0, z_1, z_2, z_3, z_4, z_5, z_6, z_7, z_8, z_9, z_10, z_11, z_12, z_13, z_14, z_15, z_16, z_17, z_18, z_19, z_20, z_21, z_22, z_23, z_24, z_25, z_26, z_27, z_28, z_29, z_30, z_31, z_32, z_33, z_34, z_35, z_36, z_37, z_38, z_39, z_40, z_41, z_42, z_43, z_44, z_45, z_46, z_47, z_48, z_49, z_50, z_51, z_52, z_53, z_54, z_55, z_56, z_57, z_58, z_59, z_60, z_61, z_77, z_91, z_93, z_97, z_100, z_101, z_102, z_103, z_105, z_111, z_114, z_120, z_123, z_125, z_126, z_200, z_245, z_255, z_576, z_585, z_1000, z_2000, z_3510, z_11700, true_implies, false_implies, implies_true, not_true_eq_false, not_false_eq_true, true_and, and_true, false_and, and_false, ↓reduceIte, Int.reduceToNat, Int.reduceNeg, Int.toNat_natCast, e0, true_or, or_true, false_or, or_false]
          exact fin _
        · by_cases q5 : b < 0
          · simp (disch := omega) only [jup_self, jup_ne, z_add, z_sub, z_mul, z_neg, z_leT, z_leF, z_ltT, z_ltF, z_eqT, z_eqF, z_inT, z_clamp, z_nI, z_0, z_1, z_2, z_3, z_4, z_5, z_6, z_7, z_8, z_9, z_10, z_11, z_12, z_13, z_14, z_15, z_16, z_17, z_18, z_19, z_20, z_21, z_22, z_23, z_24, z_25, z_26, z_27, z_28, z_29, z_30, z_31, z_32, z_33, z_34, z_35, z_36, z_37, z_38, z_39, z_40, z_41, z_42, z_43, z_44, z_45, z_46, z_47, z_48, z_49, z_50, z_51, z_52, z_53, z_54, z_55, z_56, z_57, z_58, z_59, z_60, z_61, z_77, z_91, z_93, z_97, z_100, z_101, z_102, z_103, z_105, z_111, z_114, z_120, z_123, z_125, z_126, z_200, z_245, z_255, z_576, z_585, z_1000, z_2000, z_3510, z_11700, true_implies, false_implies, implies_true, not_true_eq_false, not_false_eq_true, true_and, and_true, false_and, and_false, ↓reduceIte, Int.reduceToNat, Int.reduceNeg, Int.toNat_natCast, e0, true_or, or_true, false_or, or_false]
            exact fin _
          · simp (disch := omega) only [jup_self, jup_ne, z_add, z_sub, z_mul, z_neg, z_leT, z_leF, z_ltT, z_ltF, z_eqT, z_eqF, z_inT, z_clamp, z_nI, z_0, z_1, z_2, z_3, z_4, z_5, z_6, z_7, z_8, z_9, z_10, z_11, z_12, z_13, z_14, z_15, z_16, z_17, z_18, z_19, z_20, z_21, z_22, z_23, z_24, z_25, z_26, z_27, z_28, z_29, z_30, z_31, z_32, z_33, z_34, z_35, z_36, z_37, z_38, z_39, z_40, z_41, z_42, z_43, z_44, z_45, z_46, z_47, z_48, z_49, z_50, z_51, z_52, z_53, z_54, z_55, z_56, z_57, z_58, z_59, z_60, z_61, z_77, z_91, z_93, z_97, z_100, z_101, z_102, z_103, z_105, z_111, z_114, z_120, z_123, z_125, z_126, z_200, z_245, z_255, z_576, z_585, z_1000, z_2000, z_3510, z_11700, true_implies, false_implies, implies_true, not_true_eq_false, not_false_eq_true, true_and, and_true, false_and, and_false, ↓reduceIte, Int.reduceToNat, Int.reduceNeg, Int.toNat_natCast, e0, true_or, or_true, false_or, or_false]
            exact fin _
    · have fin := ro_thr hR hP hf hC (fm_rf _ _ M2) hF2 hr (by omega)
      rintro M3 rfl
      simp (disch := omega) only [jup_self, jup_ne, z_add, z_sub, z_mul, z_neg, z_leT, z_leF, z_ltT, z_ltF, z_eqT, z_eqF, z_inT, z_clamp, z_nI, z_0, z_1, z_2, z_3, z_4, z_5, z_6, z_7, z_8, z_9, z_10, z_11, z_12, z_13, z_14, z_15, z_16, z_17, z_18, z_19, z_20, z_21, z_22, z_23, z_24, z_25, z_26, z_27, z_28, z_29, z_30, z_31, z_32, z_33, z_34, z_35, z_36, z_37, z_38, z_39, z_40, z_41, z_42, z_43, z_44, z_45, z_46, z_47, z_48, z_49, z_50, z_51, z_52, z_53, z_54, z_55, z_56, z_57, z_58, z_59, z_60, z_61, z_77, z_91, z_93, z_97, z_100, z_101, z_102, z_103, z_105, z_111, z_114, z_120, z_123, z_125, z_126, z_200, z_245, z_255, z_576, z_585, z_1000, z_2000, z_3510, z_11700, true_implies, false_implies, implies_true, not_true_eq_false, not_false_eq_true, true_and, and_true, false_and, and_false, ↓reduceIte, Int.reduceToNat, Int.reduceNeg, Int.toNat_natCast, e0, true_or, or_true, false_or, or_false]
      exact fin _
    · rintro M3 rfl
      simp (disch := omega) only [jup_self, jup_ne, z_add, z_sub, z_mul, z_neg, z_leT, z_leF, z_ltT, z_ltF, z_eqT, z_eqF, z_inT, z_clamp, z_nI, z_0, z_1, z_2, z_3, z_4, z_5, z_6, z_7, z_8, z_9, z_10, z_11, z_12, z_13, z_14, z_15, z_16, z_17, z_18, z_19, z_20, z_21, z_22, z_23, z_24, z_25, z_26, z_27, z_28, z_29, z_30, z_31, z_32, z_33, z_34, z_35, z_36, z_37, z_38, z_39, z_40, z_41, z_42, z_43, z_44, z_45, z_46, z_47, z_48, z_49, z_50, z_51, z_52, z_53, z_54, z_55, z_56, z_57, z_58, z_59, z_60, z_61, z_77, z_91, z_93, z_97, z_100, z_101, z_102, z_103, z_105, z_111, z_114, z_120, z_123, z_125, z_126, z_200, z_245, z_255, z_576, z_585, z_1000, z_2000, z_3510, z_11700, true_implies, false_implies, implies_true, not_true_eq_false, not_false_eq_true, true_and, and_true, false_and, and_false, ↓reduceIte, Int.reduceToNat, Int.reduceNeg, Int.toNat_natCast, e0, true_or, or_true, false_or, or_false]
      have hM3 := MR_7 (x := zI 0) hM2
      refine md_ok (by omega) (by omega) (hG.2.2 a q.1.1 q.1.2) (hG.2.2 b q.2.1 q.2.2) (MR_RW hM3 q.1.1 q.1.2) (MR_RW hM3 q.2.1 q.2.2) (by omega) (fun M5 c1 c2 => ⟨fm_nb c1, ?_⟩)
      have hm : fm SM FM M2 M5 := fm_tr (fm_7 (x := zI 0) (fm_rf SM FM M2)) c1
      exact ro_val hR hP hf hC hm (FA_fm (FA_7 hF2) c1) (by rw [c1.2 7 (by decide), jup_self, hr]) (by rw [fm_61 hm]; exact hv2)
  refine wr_dependenceCount (en_X11_dependenceCount (bl_X11_dependenceCount_0 _ _ _ _ _ ?_))
  refine ckp_ok hPR hn a1 a2 b1 b2 (fun l0 l1 l2 l3 => ⟨rfl, ?_⟩) (fun z => Or.inl ⟨rfl, hq _ _ (key M _ (fr_rf _ _) hCI (Or.inl ⟨z, z_1⟩))⟩)
  refine ckb_ok a1 a2 b1 b2 (fun lt => ⟨rfl, ?_⟩) (fun z => Or.inr ⟨rfl, hq _ _ (key M _ (fr_rf _ _) hCI (Or.inr (Or.inl ⟨⟨⟨l0, l1⟩, l2, l3⟩, z, z_2⟩)))⟩)
  refine lat_ok hPR hn a1 a2 (fun _ _ => ⟨by omega, rfl, ?_⟩) (fun z => absurd ⟨l0, l1⟩ z)
  refine lat_ok hPR hn b1 b2 (fun _ _ => ⟨by omega, rfl, ?_⟩) (fun z => absurd ⟨l2, l3⟩ z)
  refine col_ok (by omega) (by omega) (hG.2.2 a l0 l1) (hG.2.2 b l2 l3) (hPR.2.2 a l0 l1) (hPR.2.2 b l2 l3) hnb (fun M3 c1 c2 => ⟨fr_nb c1, fr_nb c1, ?_⟩)
  rw [z00, c2.1]
  exact hq _ _ (key _ _ (o_fr (fr_mono c1)) (o_CI (CI_fr hCI c1 (by rw [c1 1 (by decide)]))) (Or.inr (Or.inr ⟨⟨⟨l0, l1⟩, l2, l3⟩, lt, z_0, by rw [jup_self]⟩)))
set_option maxHeartbeats 4000000 in
set_option maxRecDepth 100000 in
theorem op_required {M : jM} {k : Nat} {n : Int} {w : Int → Int → Int} {o : Int → Int} {ver : Int} {a b : Int32} {P : jM → Int32 → Int32 → Prop} {Q : Int32 → Nat → jM → Prop} (hR : RLz M k n w o ver) (hk : k ≤ 2000) (hP : ∀ M5 r1 r4, RLz M5 (k + 1) n w o ver → M5 11 0 7 = r1 → (r1 = 0 → M5 61 0 0 = r4) → P M5 r1 r4) (hq : ∀ r1 M2, ok_X12_required a b M2 (fun r4 _ M5 => P M5 r1 r4) → Q r1 0 M2) : ok_L_required a b M Q := by
  obtain ⟨hnb, hv⟩ := RLz_n hR hk
  have hG := hR.1
  have hPR := hR.2.1
  have hCI := hR.2.2.2.1
  have hn := hG.1
  have h6 := hPR.1
  obtain ⟨a, a1, a2, rfl⟩ := zI_of a
  obtain ⟨b, b1, b2, rfl⟩ := zI_of b
  have key : ∀ (M2 : jM) (r1 : Int32), fr SO M M2 → CI M2 n w o ver → ((¬ ((0 ≤ a ∧ a < n) ∧ 0 ≤ b ∧ b < n) ∧ r1 = zI 1) ∨ (((0 ≤ a ∧ a < n) ∧ 0 ≤ b ∧ b < n) ∧ ¬ a < b ∧ r1 = zI 2) ∨ (((0 ≤ a ∧ a < n) ∧ 0 ≤ b ∧ b < n) ∧ a < b ∧ dps (w a) (w b) = [] ∧ r1 = zI 3) ∨ (((0 ≤ a ∧ a < n) ∧ 0 ≤ b ∧ b < n) ∧ a < b ∧ dps (w a) (w b) ≠ [] ∧ r1 = zI 0 ∧ M2 61 0 0 = zI (nd (w a) (w b)))) → ok_X12_required (zI a) (zI b) M2 (fun r4 _ M5 => P M5 r1 r4) := by
    intro M2 r1 hf hC hr
    obtain ⟨hM2, hF2⟩ := RLz_m hR hf
    have e0 := hM2.1
    refine en_X12_required (bl_X12_required_0 _ _ _ _ ?_)
    rintro M3 rfl
    rcases hr with ⟨q, hr⟩ | ⟨q, q2, hr⟩ | ⟨q, q2, q3, hr⟩ | ⟨q, q2, q3, hr, hv2⟩
    · have fin := ro_thr hR hP hf hC (fm_rf _ _ M2) hF2 hr (by omega)
      by_cases q3 : a < 0
      · simp (disch := omega) only [jup_self, jup_ne, z_add, z_sub, z_mul, z_neg, z_leT, z_leF, z_ltT, z_ltF, z_eqT, z_eqF, z_inT, z_clamp, z_nI, z_0, z_1, z_2, z_3, z_4, z_5, z_6, z_7, z_8, z_9, z_10, z_11, z_12, z_13, z_14, z_15, z_16, z_17, z_18, z_19, z_20, z_21, z_22, z_23, z_24, z_25, z_26, z_27, z_28, z_29, z_30, z_31, z_32, z_33, z_34, z_35, z_36, z_37, z_38, z_39, z_40, z_41, z_42, z_43, z_44, z_45, z_46, z_47, z_48, z_49, z_50, z_51, z_52, z_53, z_54, z_55, z_56, z_57, z_58, z_59, z_60, z_61, z_77, z_91, z_93, z_97, z_100, z_101, z_102, z_103, z_105, z_111, z_114, z_120, z_123, z_125, z_126, z_200, z_245, z_255, z_576, z_585, z_1000, z_2000, z_3510, z_11700, true_implies, false_implies, implies_true, not_true_eq_false, not_false_eq_true, true_and, and_true, false_and, and_false, ↓reduceIte, Int.reduceToNat, Int.reduceNeg, Int.toNat_natCast, e0, true_or, or_true, false_or, or_false]
        exact fin _
      · by_cases q4 : n ≤ a
        · simp (disch := omega) only [jup_self, jup_ne, z_add, z_sub, z_mul, z_neg, z_leT, z_leF, z_ltT, z_ltF, z_eqT, z_eqF, z_inT, z_clamp, z_nI, z_0, z_1, z_2, z_3, z_4, z_5, z_6, z_7, z_8, z_9, z_10, z_11, z_12, z_13, z_14, z_15, z_16, z_17, z_18, z_19, z_20, z_21, z_22, z_23, z_24, z_25, z_26, z_27, z_28, z_29, z_30, z_31, z_32, z_33, z_34, z_35, z_36, z_37, z_38, z_39, z_40, z_41, z_42, z_43, z_44, z_45, z_46, z_47, z_48, z_49, z_50, z_51, z_52, z_53, z_54, z_55, z_56, z_57, z_58, z_59, z_60, z_61, z_77, z_91, z_93, z_97, z_100, z_101, z_102, z_103, z_105, z_111, z_114, z_120, z_123, z_125, z_126, z_200, z_245, z_255, z_576, z_585, z_1000, z_2000, z_3510, z_11700, true_implies, false_implies, implies_true, not_true_eq_false, not_false_eq_true, true_and, and_true, false_and, and_false, ↓reduceIte, Int.reduceToNat, Int.reduceNeg, Int.toNat_natCast, e0, true_or, or_true, false_or, or_false]
          exact fin _
        · by_cases q5 : b < 0
          · simp (disch := omega) only [jup_self, jup_ne, z_add, z_sub, z_mul, z_neg, z_leT, z_leF, z_ltT, z_ltF, z_eqT, z_eqF, z_inT, z_clamp, z_nI, z_0, z_1, z_2, z_3, z_4, z_5, z_6, z_7, z_8, z_9, z_10, z_11, z_12, z_13, z_14, z_15, z_16, z_17, z_18, z_19, z_20, z_21, z_22, z_23, z_24, z_25, z_26, z_27, z_28, z_29, z_30, z_31, z_32, z_33, z_34, z_35, z_36, z_37, z_38, z_39, z_40, z_41, z_42, z_43, z_44, z_45, z_46, z_47, z_48, z_49, z_50, z_51, z_52, z_53, z_54, z_55, z_56, z_57, z_58, z_59, z_60, z_61, z_77, z_91, z_93, z_97, z_100, z_101, z_102, z_103, z_105, z_111, z_114, z_120, z_123, z_125, z_126, z_200, z_245, z_255, z_576, z_585, z_1000, z_2000, z_3510, z_11700, true_implies, false_implies, implies_true, not_true_eq_false, not_false_eq_true, true_and, and_true, false_and, and_false, ↓reduceIte, Int.reduceToNat, Int.reduceNeg, Int.toNat_natCast, e0, true_or, or_true, false_or, or_false]
            exact fin _
          · simp (disch := omega) only [jup_self, jup_ne, z_add, z_sub, z_mul, z_neg, z_leT, z_leF, z_ltT, z_ltF, z_eqT, z_eqF, z_inT, z_clamp, z_nI, z_0, z_1, z_2, z_3, z_4, z_5, z_6, z_7, z_8, z_9, z_10, z_11, z_12, z_13, z_14, z_15, z_16, z_17, z_18, z_19, z_20, z_21, z_22, z_23, z_24, z_25, z_26, z_27, z_28, z_29, z_30, z_31, z_32, z_33, z_34, z_35, z_36, z_37, z_38, z_39, z_40, z_41, z_42, z_43, z_44, z_45, z_46, z_47, z_48, z_49, z_50, z_51, z_52, z_53, z_54, z_55, z_56, z_57, z_58, z_59, z_60, z_61, z_77, z_91, z_93, z_97, z_100, z_101, z_102, z_103, z_105, z_111, z_114, z_120, z_123, z_125, z_126, z_200, z_245, z_255, z_576, z_585, z_1000, z_2000, z_3510, z_11700, true_implies, false_implies, implies_true, not_true_eq_false, not_false_eq_true, true_and, and_true, false_and, and_false, ↓reduceIte, Int.reduceToNat, Int.reduceNeg, Int.toNat_natCast, e0, true_or, or_true, false_or, or_false]
            exact fin _
    · have fin := ro_thr hR hP hf hC (fm_rf _ _ M2) hF2 hr (by omega)
      simp (disch := omega) only [jup_self, jup_ne, z_add, z_sub, z_mul, z_neg, z_leT, z_leF, z_ltT, z_ltF, z_eqT, z_eqF, z_inT, z_clamp, z_nI, z_0, z_1, z_2, z_3, z_4, z_5, z_6, z_7, z_8, z_9, z_10, z_11, z_12, z_13, z_14, z_15, z_16, z_17, z_18, z_19, z_20, z_21, z_22, z_23, z_24, z_25, z_26, z_27, z_28, z_29, z_30, z_31, z_32, z_33, z_34, z_35, z_36, z_37, z_38, z_39, z_40, z_41, z_42, z_43, z_44, z_45, z_46, z_47, z_48, z_49, z_50, z_51, z_52, z_53, z_54, z_55, z_56, z_57, z_58, z_59, z_60, z_61, z_77, z_91, z_93, z_97, z_100, z_101, z_102, z_103, z_105, z_111, z_114, z_120, z_123, z_125, z_126, z_200, z_245, z_255, z_576, z_585, z_1000, z_2000, z_3510, z_11700, true_implies, false_implies, implies_true, not_true_eq_false, not_false_eq_true, true_and, and_true, false_and, and_false, ↓reduceIte, Int.reduceToNat, Int.reduceNeg, Int.toNat_natCast, e0, true_or, or_true, false_or, or_false]
      exact fin _
    · simp (disch := omega) only [jup_self, jup_ne, z_add, z_sub, z_mul, z_neg, z_leT, z_leF, z_ltT, z_ltF, z_eqT, z_eqF, z_inT, z_clamp, z_nI, z_0, z_1, z_2, z_3, z_4, z_5, z_6, z_7, z_8, z_9, z_10, z_11, z_12, z_13, z_14, z_15, z_16, z_17, z_18, z_19, z_20, z_21, z_22, z_23, z_24, z_25, z_26, z_27, z_28, z_29, z_30, z_31, z_32, z_33, z_34, z_35, z_36, z_37, z_38, z_39, z_40, z_41, z_42, z_43, z_44, z_45, z_46, z_47, z_48, z_49, z_50, z_51, z_52, z_53, z_54, z_55, z_56, z_57, z_58, z_59, z_60, z_61, z_77, z_91, z_93, z_97, z_100, z_101, z_102, z_103, z_105, z_111, z_114, z_120, z_123, z_125, z_126, z_200, z_245, z_255, z_576, z_585, z_1000, z_2000, z_3510, z_11700, true_implies, false_implies, implies_true, not_true_eq_false, not_false_eq_true, true_and, and_true, false_and, and_false, ↓reduceIte, Int.reduceToNat, Int.reduceNeg, Int.toNat_natCast, e0, true_or, or_true, false_or, or_false]
      have hM3 := MR_7 (x := zI 0) hM2
      refine md_ok (by omega) (by omega) (hG.2.2 a q.1.1 q.1.2) (hG.2.2 b q.2.1 q.2.2) (MR_RW hM3 q.1.1 q.1.2) (MR_RW hM3 q.2.1 q.2.2) (by omega) (fun M5 c1 c2 => ⟨fm_nb c1, ?_⟩)
      have hm : fm SM FM M2 M5 := fm_tr (fm_7 (x := zI 0) (fm_rf SM FM M2)) c1
      have fin := ro_thr hR hP hf hC hm (FA_fm (FA_7 hF2) c1) hr (by omega)
      rw [q3]
      simp (disch := omega) only [jup_self, jup_ne, z_add, z_sub, z_mul, z_neg, z_leT, z_leF, z_ltT, z_ltF, z_eqT, z_eqF, z_inT, z_clamp, z_nI, z_0, z_1, z_2, z_3, z_4, z_5, z_6, z_7, z_8, z_9, z_10, z_11, z_12, z_13, z_14, z_15, z_16, z_17, z_18, z_19, z_20, z_21, z_22, z_23, z_24, z_25, z_26, z_27, z_28, z_29, z_30, z_31, z_32, z_33, z_34, z_35, z_36, z_37, z_38, z_39, z_40, z_41, z_42, z_43, z_44, z_45, z_46, z_47, z_48, z_49, z_50, z_51, z_52, z_53, z_54, z_55, z_56, z_57, z_58, z_59, z_60, z_61, z_77, z_91, z_93, z_97, z_100, z_101, z_102, z_103, z_105, z_111, z_114, z_120, z_123, z_125, z_126, z_200, z_245, z_255, z_576, z_585, z_1000, z_2000, z_3510, z_11700, true_implies, false_implies, implies_true, not_true_eq_false, not_false_eq_true, true_and, and_true, false_and, and_false, ↓reduceIte, Int.reduceToNat, Int.reduceNeg, Int.toNat_natCast, List.length_nil, Int.natCast_zero]
      rintro M7 rfl
      exact fin _
    · simp (disch := omega) only [jup_self, jup_ne, z_add, z_sub, z_mul, z_neg, z_leT, z_leF, z_ltT, z_ltF, z_eqT, z_eqF, z_inT, z_clamp, z_nI, z_0, z_1, z_2, z_3, z_4, z_5, z_6, z_7, z_8, z_9, z_10, z_11, z_12, z_13, z_14, z_15, z_16, z_17, z_18, z_19, z_20, z_21, z_22, z_23, z_24, z_25, z_26, z_27, z_28, z_29, z_30, z_31, z_32, z_33, z_34, z_35, z_36, z_37, z_38, z_39, z_40, z_41, z_42, z_43, z_44, z_45, z_46, z_47, z_48, z_49, z_50, z_51, z_52, z_53, z_54, z_55, z_56, z_57, z_58, z_59, z_60, z_61, z_77, z_91, z_93, z_97, z_100, z_101, z_102, z_103, z_105, z_111, z_114, z_120, z_123, z_125, z_126, z_200, z_245, z_255, z_576, z_585, z_1000, z_2000, z_3510, z_11700, true_implies, false_implies, implies_true, not_true_eq_false, not_false_eq_true, true_and, and_true, false_and, and_false, ↓reduceIte, Int.reduceToNat, Int.reduceNeg, Int.toNat_natCast, e0, true_or, or_true, false_or, or_false]
      have hM3 := MR_7 (x := zI 0) hM2
      have hOa := hG.2.2 a q.1.1 q.1.2
      have hOb := hG.2.2 b q.2.1 q.2.2
      refine md_ok (by omega) (by omega) hOa hOb (MR_RW hM3 q.1.1 q.1.2) (MR_RW hM3 q.2.1 q.2.2) (by omega) (fun M5 c1 c2 => ⟨fm_nb c1, ?_⟩)
      have hm : fm SM FM M2 M5 := fm_tr (fm_7 (x := zI 0) (fm_rf SM FM M2)) c1
      have hpos : 0 < (dps (w a) (w b)).length := List.length_pos_iff.mpr q3
      have hlen : ((dps (w a) (w b)).length : Int) ≤ 576 := by
        have h1 := hOa.2.1
        have h2 := hOb.2.1
        have := dpL_len (a := w a) (b := w b) (k := w a 4) (by omega) (by omega)
        unfold dps
        omega
      have c24 := c2.1
      rw [nd_m hOa hOb q3] at c24
      simp (disch := omega) only [jup_self, jup_ne, z_add, z_sub, z_mul, z_neg, z_leT, z_leF, z_ltT, z_ltF, z_eqT, z_eqF, z_inT, z_clamp, z_nI, z_0, z_1, z_2, z_3, z_4, z_5, z_6, z_7, z_8, z_9, z_10, z_11, z_12, z_13, z_14, z_15, z_16, z_17, z_18, z_19, z_20, z_21, z_22, z_23, z_24, z_25, z_26, z_27, z_28, z_29, z_30, z_31, z_32, z_33, z_34, z_35, z_36, z_37, z_38, z_39, z_40, z_41, z_42, z_43, z_44, z_45, z_46, z_47, z_48, z_49, z_50, z_51, z_52, z_53, z_54, z_55, z_56, z_57, z_58, z_59, z_60, z_61, z_77, z_91, z_93, z_97, z_100, z_101, z_102, z_103, z_105, z_111, z_114, z_120, z_123, z_125, z_126, z_200, z_245, z_255, z_576, z_585, z_1000, z_2000, z_3510, z_11700, true_implies, false_implies, implies_true, not_true_eq_false, not_false_eq_true, true_and, and_true, false_and, and_false, ↓reduceIte, Int.reduceToNat, Int.reduceNeg, Int.toNat_natCast, c24]
      exact ro_val hR hP hf hC hm (FA_fm (FA_7 hF2) c1) (by rw [c1.2 7 (by decide), jup_self, hr]) (by rw [fm_61 hm]; exact hv2)
  refine wr_required (en_X11_required (bl_X11_required_0 _ _ _ _ _ ?_))
  refine ckp_ok hPR hn a1 a2 b1 b2 (fun l0 l1 l2 l3 => ⟨rfl, ?_⟩) (fun z => Or.inl ⟨rfl, hq _ _ (key M _ (fr_rf _ _) hCI (Or.inl ⟨z, z_1⟩))⟩)
  refine ckb_ok a1 a2 b1 b2 (fun lt => ⟨rfl, ?_⟩) (fun z => Or.inr (Or.inl ⟨rfl, hq _ _ (key M _ (fr_rf _ _) hCI (Or.inr (Or.inl ⟨⟨⟨l0, l1⟩, l2, l3⟩, z, z_2⟩)))⟩))
  refine lat_ok hPR hn a1 a2 (fun _ _ => ⟨by omega, rfl, ?_⟩) (fun z => absurd ⟨l0, l1⟩ z)
  refine lat_ok hPR hn b1 b2 (fun _ _ => ⟨by omega, rfl, ?_⟩) (fun z => absurd ⟨l2, l3⟩ z)
  have hOa := hG.2.2 a l0 l1
  have hOb := hG.2.2 b l2 l3
  refine col_ok (by omega) (by omega) hOa hOb (hPR.2.2 a l0 l1) (hPR.2.2 b l2 l3) hnb (fun M3 c1 c2 => ⟨fr_nb c1, ?_⟩)
  have hC3 := CI_fr hCI c1 (by rw [c1 1 (by decide)])
  have hlen : ((dps (w a) (w b)).length : Int) ≤ 576 := by
    have h1 := hOa.2.1
    have h2 := hOb.2.1
    have := dpL_len (a := w a) (b := w b) (k := w a 4) (by omega) (by omega)
    unfold dps
    omega
  have l1' := c2.1
  have l2' : M3 2 0 4 = zI (nd (w a) (w b)) := c2.2.1
  by_cases q3 : dps (w a) (w b) = []
  · rw [q3] at l1'
    refine ⟨fun _ => Or.inr (Or.inr ⟨rfl, hq _ _ (key M3 _ (fr_mono c1) hC3 (Or.inr (Or.inr (Or.inl ⟨⟨⟨l0, l1⟩, l2, l3⟩, lt, q3, z_3⟩))))⟩), fun z => absurd ?_ z⟩
    rw [l1']
    rfl
  · have hpos : 0 < (dps (w a) (w b)).length := List.length_pos_iff.mpr q3
    refine ⟨fun z => ?_, fun _ => ⟨fr_nb c1, ?_⟩⟩
    · rw [l1', z_0, z_eqF (by omega)] at z
      exact z.elim
    · rw [z00, l2']
      exact hq _ _ (key _ _ (o_fr (fr_mono c1)) (o_CI hC3) (Or.inr (Or.inr (Or.inr ⟨⟨⟨l0, l1⟩, l2, l3⟩, lt, q3, z_0, by rw [jup_self]⟩))))
set_option maxHeartbeats 4000000 in
set_option maxRecDepth 100000 in
theorem op_isAllowed {M : jM} {k : Nat} {n : Int} {w : Int → Int → Int} {o : Int → Int} {ver : Int} {a b : Int32} {P : jM → Int32 → Int32 → Prop} {Q : Int32 → Nat → jM → Prop} (hR : RLz M k n w o ver) (hk : k ≤ 2000) (hP : ∀ M5 r1 r4, RLz M5 (k + 1) n w o ver → M5 11 0 7 = r1 → (r1 = 0 → M5 61 0 0 = r4 ∧ (r4 = 0 ∨ r4 = 1)) → P M5 r1 r4) (hq : ∀ r1 M2, ok_X12_isAllowed a b M2 (fun r4 _ M5 => P M5 r1 r4) → Q r1 0 M2) : ok_L_isAllowed a b M Q := by
  obtain ⟨hnb, hv⟩ := RLz_n hR hk
  have hG := hR.1
  have hPR := hR.2.1
  have hCI := hR.2.2.2.1
  have hn := hG.1
  have h6 := hPR.1
  obtain ⟨a, a1, a2, rfl⟩ := zI_of a
  obtain ⟨b, b1, b2, rfl⟩ := zI_of b
  have key : ∀ (M2 : jM) (r1 : Int32), fr SO M M2 → CI M2 n w o ver → ((¬ ((0 ≤ a ∧ a < n) ∧ 0 ≤ b ∧ b < n) ∧ r1 = zI 1) ∨ (((0 ≤ a ∧ a < n) ∧ 0 ≤ b ∧ b < n) ∧ ¬ a ≤ b ∧ r1 = zI 2) ∨ (((0 ≤ a ∧ a < n) ∧ 0 ≤ b ∧ b < n) ∧ a ≤ b ∧ r1 = zI 0 ∧ ((alw w o a b ∧ M2 61 0 0 = zI 1) ∨ (¬ alw w o a b ∧ M2 61 0 0 = zI 0)))) → ok_X12_isAllowed (zI a) (zI b) M2 (fun r4 _ M5 => P M5 r1 r4) := by
    intro M2 r1 hf hC hr
    obtain ⟨hM2, hF2⟩ := RLz_m hR hf
    have e0 := hM2.1
    refine en_X12_isAllowed (bl_X12_isAllowed_0 _ _ _ _ ?_)
    rcases hr with ⟨q, hr⟩ | ⟨q, q2, hr⟩ | ⟨q, q2, hr, hv2⟩
    · have fin := ro_thr hR hP hf hC (fm_rf _ _ M2) hF2 hr (by omega)
      have cl : ∀ M3, M3 = jup M2 11 0 7 (zI 1) → (M3 11 0 7 = zI 0 → ok_X12_layShifts (zI a) (zI b) M3 (fun r4 _ M5 => jnb M5 = jnb M3 ∧ (r4 = zI 0 → P M5 r1 (zI 0)) ∧ (¬ (r4 = zI 0) → P M5 r1 (zI 1)))) ∧ (¬ (M3 11 0 7 = zI 0) → P M3 r1 (zI 0)) := by
        rintro M3 rfl
        exact ⟨fun z => by rw [jup_self, z_eqF (by omega)] at z; exact z.elim, fun _ => fin _⟩
      by_cases q3 : a < 0
      · simp (disch := omega) only [z_add, z_sub, z_mul, z_neg, z_leT, z_leF, z_ltT, z_ltF, z_eqT, z_eqF, z_inT, z_clamp, z_nI, z_0, z_1, z_2, z_3, z_4, z_5, z_6, z_7, z_8, z_9, z_10, z_11, z_12, z_13, z_14, z_15, z_16, z_17, z_18, z_19, z_20, z_21, z_22, z_23, z_24, z_25, z_26, z_27, z_28, z_29, z_30, z_31, z_32, z_33, z_34, z_35, z_36, z_37, z_38, z_39, z_40, z_41, z_42, z_43, z_44, z_45, z_46, z_47, z_48, z_49, z_50, z_51, z_52, z_53, z_54, z_55, z_56, z_57, z_58, z_59, z_60, z_61, z_77, z_91, z_93, z_97, z_100, z_101, z_102, z_103, z_105, z_111, z_114, z_120, z_123, z_125, z_126, z_200, z_245, z_255, z_576, z_585, z_1000, z_2000, z_3510, z_11700, true_implies, false_implies, implies_true, not_true_eq_false, not_false_eq_true, true_and, and_true, false_and, and_false, ↓reduceIte, Int.reduceToNat, Int.reduceNeg, Int.toNat_natCast, e0]
        exact cl
      · by_cases q4 : n ≤ a
        · simp (disch := omega) only [z_add, z_sub, z_mul, z_neg, z_leT, z_leF, z_ltT, z_ltF, z_eqT, z_eqF, z_inT, z_clamp, z_nI, z_0, z_1, z_2, z_3, z_4, z_5, z_6, z_7, z_8, z_9, z_10, z_11, z_12, z_13, z_14, z_15, z_16, z_17, z_18, z_19, z_20, z_21, z_22, z_23, z_24, z_25, z_26, z_27, z_28, z_29, z_30, z_31, z_32, z_33, z_34, z_35, z_36, z_37, z_38, z_39, z_40, z_41, z_42, z_43, z_44, z_45, z_46, z_47, z_48, z_49, z_50, z_51, z_52, z_53, z_54, z_55, z_56, z_57, z_58, z_59, z_60, z_61, z_77, z_91, z_93, z_97, z_100, z_101, z_102, z_103, z_105, z_111, z_114, z_120, z_123, z_125, z_126, z_200, z_245, z_255, z_576, z_585, z_1000, z_2000, z_3510, z_11700, true_implies, false_implies, implies_true, not_true_eq_false, not_false_eq_true, true_and, and_true, false_and, and_false, ↓reduceIte, Int.reduceToNat, Int.reduceNeg, Int.toNat_natCast, e0]
          exact cl
        · by_cases q5 : b < 0
          · simp (disch := omega) only [z_add, z_sub, z_mul, z_neg, z_leT, z_leF, z_ltT, z_ltF, z_eqT, z_eqF, z_inT, z_clamp, z_nI, z_0, z_1, z_2, z_3, z_4, z_5, z_6, z_7, z_8, z_9, z_10, z_11, z_12, z_13, z_14, z_15, z_16, z_17, z_18, z_19, z_20, z_21, z_22, z_23, z_24, z_25, z_26, z_27, z_28, z_29, z_30, z_31, z_32, z_33, z_34, z_35, z_36, z_37, z_38, z_39, z_40, z_41, z_42, z_43, z_44, z_45, z_46, z_47, z_48, z_49, z_50, z_51, z_52, z_53, z_54, z_55, z_56, z_57, z_58, z_59, z_60, z_61, z_77, z_91, z_93, z_97, z_100, z_101, z_102, z_103, z_105, z_111, z_114, z_120, z_123, z_125, z_126, z_200, z_245, z_255, z_576, z_585, z_1000, z_2000, z_3510, z_11700, true_implies, false_implies, implies_true, not_true_eq_false, not_false_eq_true, true_and, and_true, false_and, and_false, ↓reduceIte, Int.reduceToNat, Int.reduceNeg, Int.toNat_natCast, e0]
            exact cl
          · simp (disch := omega) only [z_add, z_sub, z_mul, z_neg, z_leT, z_leF, z_ltT, z_ltF, z_eqT, z_eqF, z_inT, z_clamp, z_nI, z_0, z_1, z_2, z_3, z_4, z_5, z_6, z_7, z_8, z_9, z_10, z_11, z_12, z_13, z_14, z_15, z_16, z_17, z_18, z_19, z_20, z_21, z_22, z_23, z_24, z_25, z_26, z_27, z_28, z_29, z_30, z_31, z_32, z_33, z_34, z_35, z_36, z_37, z_38, z_39, z_40, z_41, z_42, z_43, z_44, z_45, z_46, z_47, z_48, z_49, z_50, z_51, z_52, z_53, z_54, z_55, z_56, z_57, z_58, z_59, z_60, z_61, z_77, z_91, z_93, z_97, z_100, z_101, z_102, z_103, z_105, z_111, z_114, z_120, z_123, z_125, z_126, z_200, z_245, z_255, z_576, z_585, z_1000, z_2000, z_3510, z_11700, true_implies, false_implies, implies_true, not_true_eq_false, not_false_eq_true, true_and, and_true, false_and, and_false, ↓reduceIte, Int.reduceToNat, Int.reduceNeg, Int.toNat_natCast, e0]
            exact cl
    · have fin := ro_thr hR hP hf hC (fm_rf _ _ M2) hF2 hr (by omega)
      simp (disch := omega) only [z_add, z_sub, z_mul, z_neg, z_leT, z_leF, z_ltT, z_ltF, z_eqT, z_eqF, z_inT, z_clamp, z_nI, z_0, z_1, z_2, z_3, z_4, z_5, z_6, z_7, z_8, z_9, z_10, z_11, z_12, z_13, z_14, z_15, z_16, z_17, z_18, z_19, z_20, z_21, z_22, z_23, z_24, z_25, z_26, z_27, z_28, z_29, z_30, z_31, z_32, z_33, z_34, z_35, z_36, z_37, z_38, z_39, z_40, z_41, z_42, z_43, z_44, z_45, z_46, z_47, z_48, z_49, z_50, z_51, z_52, z_53, z_54, z_55, z_56, z_57, z_58, z_59, z_60, z_61, z_77, z_91, z_93, z_97, z_100, z_101, z_102, z_103, z_105, z_111, z_114, z_120, z_123, z_125, z_126, z_200, z_245, z_255, z_576, z_585, z_1000, z_2000, z_3510, z_11700, true_implies, false_implies, implies_true, not_true_eq_false, not_false_eq_true, true_and, and_true, false_and, and_false, ↓reduceIte, Int.reduceToNat, Int.reduceNeg, Int.toNat_natCast, e0]
      rintro M3 rfl
      exact ⟨fun z => by rw [jup_self, z_eqF (by omega)] at z; exact z.elim, fun _ => fin _⟩
    · simp (disch := omega) only [z_add, z_sub, z_mul, z_neg, z_leT, z_leF, z_ltT, z_ltF, z_eqT, z_eqF, z_inT, z_clamp, z_nI, z_0, z_1, z_2, z_3, z_4, z_5, z_6, z_7, z_8, z_9, z_10, z_11, z_12, z_13, z_14, z_15, z_16, z_17, z_18, z_19, z_20, z_21, z_22, z_23, z_24, z_25, z_26, z_27, z_28, z_29, z_30, z_31, z_32, z_33, z_34, z_35, z_36, z_37, z_38, z_39, z_40, z_41, z_42, z_43, z_44, z_45, z_46, z_47, z_48, z_49, z_50, z_51, z_52, z_53, z_54, z_55, z_56, z_57, z_58, z_59, z_60, z_61, z_77, z_91, z_93, z_97, z_100, z_101, z_102, z_103, z_105, z_111, z_114, z_120, z_123, z_125, z_126, z_200, z_245, z_255, z_576, z_585, z_1000, z_2000, z_3510, z_11700, true_implies, false_implies, implies_true, not_true_eq_false, not_false_eq_true, true_and, and_true, false_and, and_false, ↓reduceIte, Int.reduceToNat, Int.reduceNeg, Int.toNat_natCast, e0]
      rintro M3 rfl
      simp (disch := omega) only [jup_self, jup_ne, z_add, z_sub, z_mul, z_neg, z_leT, z_leF, z_ltT, z_ltF, z_eqT, z_eqF, z_inT, z_clamp, z_nI, z_0, z_1, z_2, z_3, z_4, z_5, z_6, z_7, z_8, z_9, z_10, z_11, z_12, z_13, z_14, z_15, z_16, z_17, z_18, z_19, z_20, z_21, z_22, z_23, z_24, z_25, z_26, z_27, z_28, z_29, z_30, z_31, z_32, z_33, z_34, z_35, z_36, z_37, z_38, z_39, z_40, z_41, z_42, z_43, z_44, z_45, z_46, z_47, z_48, z_49, z_50, z_51, z_52, z_53, z_54, z_55, z_56, z_57, z_58, z_59, z_60, z_61, z_77, z_91, z_93, z_97, z_100, z_101, z_102, z_103, z_105, z_111, z_114, z_120, z_123, z_125, z_126, z_200, z_245, z_255, z_576, z_585, z_1000, z_2000, z_3510, z_11700, true_implies, false_implies, implies_true, not_true_eq_false, not_false_eq_true, true_and, and_true, false_and, and_false, ↓reduceIte, Int.reduceToNat, Int.reduceNeg, Int.toNat_natCast]
      have hM3 := MR_7 (x := zI 0) hM2
      refine ls_ok hG hM3 q.1.1 q2 q.2.2 (fun M5 r c1 c2 c3 c4 => ⟨fm_nb c1, fun z => ?_, fun z => ?_⟩)
      · have hm : fm SM FM M2 M5 := fm_tr (fm_7 (x := zI 0) (fm_rf SM FM M2)) c1
        have hna : ¬ alw w o a b := fun y => by rw [c3 y, z_1, z_eqF (by omega)] at z; exact z
        refine ro_val (VP := fun M5 r4 => M5 61 0 0 = r4 ∧ (r4 = 0 ∨ r4 = 1)) hR hP hf hC hm (FA_fm (FA_7 hF2) c1) (by rw [c1.2 7 (by decide), jup_self, hr]) ⟨?_, Or.inl z_0.symm⟩
        rw [fm_61 hm]
        rcases hv2 with ⟨y, _⟩ | ⟨_, y⟩
        · exact absurd y hna
        · exact y
      · have hm : fm SM FM M2 M5 := fm_tr (fm_7 (x := zI 0) (fm_rf SM FM M2)) c1
        have hya : alw w o a b := by
          by_cases y : alw w o a b
          · exact y
          · rw [c4 y] at z; exact absurd z_0 z
        refine ro_val (VP := fun M5 r4 => M5 61 0 0 = r4 ∧ (r4 = 0 ∨ r4 = 1)) hR hP hf hC hm (FA_fm (FA_7 hF2) c1) (by rw [c1.2 7 (by decide), jup_self, hr]) ⟨?_, Or.inr z_1.symm⟩
        rw [fm_61 hm]
        rcases hv2 with ⟨_, y⟩ | ⟨y, _⟩
        · exact y
        · exact absurd hya y
  refine wr_isAllowed (en_X11_isAllowed (bl_X11_isAllowed_0 _ _ _ _ _ ?_))
  refine ckp_ok hPR hn a1 a2 b1 b2 (fun l0 l1 l2 l3 => ⟨rfl, ?_⟩) (fun z => Or.inl ⟨rfl, hq _ _ (key M _ (fr_rf _ _) hCI (Or.inl ⟨z, z_1⟩))⟩)
  refine ckg_ok a1 a2 b1 b2 (fun lt => ⟨rfl, ?_⟩) (fun z => Or.inr ⟨rfl, hq _ _ (key M _ (fr_rf _ _) hCI (Or.inr (Or.inl ⟨⟨⟨l0, l1⟩, l2, l3⟩, z, z_2⟩)))⟩)
  obtain ⟨c6, ⟨x, c1, ca, cn⟩, cp⟩ := hCI
  have hCI : CI M n w o ver := ⟨c6, ⟨x, c1, ca, cn⟩, cp⟩
  refine refresh_ok hPR hG hnb c1 c6 ⟨ca.1, ca.2, hv.2⟩ cn (fun M3 d1 d2 d3 => ⟨fr_nb d1, ?_⟩)
  refine longest_ok (PR_r hPR d1) hG d3 l0 l1 (fun M4 e1 e2 => ⟨fr_nb e1, ?_⟩)
  have hf4 : fr SO M M4 := fr_tr d1 e1
  have hN4 : NE M4 n w := by unfold NE at *; rw [e1 29 (by decide)]; exact d3
  have hC4 : CI M4 n w o ver := by
    refine ⟨by rw [hf4 6 (by decide)]; exact c6, ⟨ver, by rw [e2, d2], ⟨by omega, Int.le_refl _⟩, fun _ => hN4⟩, fun j hj => ?_⟩
    have := cp j hj
    unfold PLN at *
    rw [e1 5 (by decide), d1 5 (by decide), e1 35 (by decide), d1 35 (by decide), e1 33 (by decide), d1 33 (by decide)]
    exact this
  obtain ⟨g1, g2, g3, g4⟩ := lg_is (w := w) (o := o) l1
  by_cases q : lg w o n a ≤ b - a
  · have hna : ¬ alw w o a b := fun z => g4 (by omega) (alw_le z (by omega))
    have f3 := hq _ _ (key _ (zI 0) (o_fr (x := 0) (r := zI 0) hf4) (o_CI hC4) (Or.inr (Or.inr ⟨⟨⟨l0, l1⟩, l2, l3⟩, lt, rfl, Or.inr ⟨hna, by rw [jup_self]⟩⟩)))
    simp (disch := omega) only [z_add, z_sub, z_mul, z_neg, z_leT, z_leF, z_ltT, z_ltF, z_eqT, z_eqF, z_inT, z_clamp, z_nI, z_0, z_1, z_2, z_3, z_4, z_5, z_6, z_7, z_8, z_9, z_10, z_11, z_12, z_13, z_14, z_15, z_16, z_17, z_18, z_19, z_20, z_21, z_22, z_23, z_24, z_25, z_26, z_27, z_28, z_29, z_30, z_31, z_32, z_33, z_34, z_35, z_36, z_37, z_38, z_39, z_40, z_41, z_42, z_43, z_44, z_45, z_46, z_47, z_48, z_49, z_50, z_51, z_52, z_53, z_54, z_55, z_56, z_57, z_58, z_59, z_60, z_61, z_77, z_91, z_93, z_97, z_100, z_101, z_102, z_103, z_105, z_111, z_114, z_120, z_123, z_125, z_126, z_200, z_245, z_255, z_576, z_585, z_1000, z_2000, z_3510, z_11700, true_implies, false_implies, implies_true, not_true_eq_false, not_false_eq_true, true_and, and_true, false_and, and_false, ↓reduceIte, Int.reduceToNat, Int.reduceNeg, Int.toNat_natCast]
    exact ⟨by rw [fr_nb e1, fr_nb d1], f3⟩
  · have hya : alw w o a b := alw_le g3 (by omega)
    have f3 := hq _ _ (key _ (zI 0) (o_fr (x := 0) (r := zI 1) hf4) (o_CI hC4) (Or.inr (Or.inr ⟨⟨⟨l0, l1⟩, l2, l3⟩, lt, rfl, Or.inl ⟨hya, by rw [jup_self]⟩⟩)))
    simp (disch := omega) only [z_add, z_sub, z_mul, z_neg, z_leT, z_leF, z_ltT, z_ltF, z_eqT, z_eqF, z_inT, z_clamp, z_nI, z_0, z_1, z_2, z_3, z_4, z_5, z_6, z_7, z_8, z_9, z_10, z_11, z_12, z_13, z_14, z_15, z_16, z_17, z_18, z_19, z_20, z_21, z_22, z_23, z_24, z_25, z_26, z_27, z_28, z_29, z_30, z_31, z_32, z_33, z_34, z_35, z_36, z_37, z_38, z_39, z_40, z_41, z_42, z_43, z_44, z_45, z_46, z_47, z_48, z_49, z_50, z_51, z_52, z_53, z_54, z_55, z_56, z_57, z_58, z_59, z_60, z_61, z_77, z_91, z_93, z_97, z_100, z_101, z_102, z_103, z_105, z_111, z_114, z_120, z_123, z_125, z_126, z_200, z_245, z_255, z_576, z_585, z_1000, z_2000, z_3510, z_11700, true_implies, false_implies, implies_true, not_true_eq_false, not_false_eq_true, true_and, and_true, false_and, and_false, ↓reduceIte, Int.reduceToNat, Int.reduceNeg, Int.toNat_natCast]
    exact ⟨by rw [fr_nb e1, fr_nb d1], f3⟩
