theorem rf2_ok {M : jM} {n : Int} {w : Int → Int → Int} {o : Int → Int} {ver : Int} {Q : Int32 → Nat → jM → Prop} (hG : GH n w o) (hP : PR M 0 n w o) (hnb : jnb M ≤ 100000) (hC : CI M n w o ver) (hv : 0 ≤ ver ∧ ver < 100000) (hQ : ∀ M1, fr [1, 2, 29, 30, 31, 32] M M1 → CI M1 n w o ver → NE M1 n w → Q 0 0 M1) : ok_X1_refresh M Q := by
  obtain ⟨c6, ⟨x, c1, ca, cn⟩, cp⟩ := hC
  refine refresh_ok hP hG hnb c1 c6 ⟨ca.1, ca.2, hv.2⟩ cn (fun M3 d1 d2 d3 => hQ M3 d1 ?_ d3)
  refine ⟨by rw [d1 6 (by decide)]; exact c6, ⟨ver, d2, ⟨by omega, Int.le_refl _⟩, fun _ => d3⟩, fun j hj => ?_⟩
  have := cp j hj
  unfold PLN at *
  rw [d1 5 (by decide), d1 35 (by decide), d1 33 (by decide)]
  exact this
set_option maxHeartbeats 4000000 in
set_option maxRecDepth 100000 in
theorem op_hits {M : jM} {k : Nat} {n : Int} {w : Int → Int → Int} {o : Int → Int} {ver : Int} {a b : Int32} {P : jM → Int32 → Int32 → Prop} {Q : Int32 → Nat → jM → Prop} (hR : RLz M k n w o ver) (hk : k ≤ 2000) (hP : ∀ M5 r1 r4, RLz M5 (k + 1) n w o ver → M5 11 0 7 = r1 → (r1 = 0 → M5 61 0 0 = r4) → P M5 r1 r4) (hq : ∀ r1 M2, ok_X12_hits a b M2 (fun r4 _ M5 => P M5 r1 r4) → Q r1 0 M2) : ok_L_hits a b M Q := by
  obtain ⟨hnb, hv⟩ := RLz_n hR hk
  have hG := hR.1
  have hPR := hR.2.1
  have hCI := hR.2.2.2.1
  have hn := hG.1
  have h6 := hPR.1
  obtain ⟨a, a1, a2, rfl⟩ := zI_of a
  obtain ⟨b, b1, b2, rfl⟩ := zI_of b
  have key : ∀ (M2 : jM) (r1 : Int32), fr SO M M2 → CI M2 n w o ver → ((¬ ((0 ≤ a ∧ a < n) ∧ 0 ≤ b ∧ b < n) ∧ r1 = zI 1) ∨ (((0 ≤ a ∧ a < n) ∧ 0 ≤ b ∧ b < n) ∧ ¬ a ≤ b ∧ r1 = zI 2) ∨ (((0 ≤ a ∧ a < n) ∧ 0 ≤ b ∧ b < n) ∧ a ≤ b ∧ r1 = zI 0 ∧ M2 61 0 0 = zI (Hh w o a b))) → ok_X12_hits (zI a) (zI b) M2 (fun r4 _ M5 => P M5 r1 r4) := by
    intro M2 r1 hf hC hr
    obtain ⟨hM2, hF2⟩ := RLz_m hR hf
    have e0 := hM2.1
    refine en_X12_hits (bl_X12_hits_0 _ _ _ _ ?_)
    rcases hr with ⟨q, hr⟩ | ⟨q, q2, hr⟩ | ⟨q, q2, hr, hv2⟩
    · have fin := ro_thr hR hP hf hC (fm_rf _ _ M2) hF2 hr (by omega)
      have cl : ∀ M3, M3 = jup M2 11 0 7 (zI 1) → (M3 11 0 7 ≤ zI 0 → ok_X12_hitsOf (zI a) (zI b) M3 (fun r4 _ M5 => jnb M5 = jnb M3 ∧ P M5 r1 r4)) ∧ (¬ (M3 11 0 7 ≤ zI 0) → P M3 r1 (zI 0)) := by
        rintro M3 rfl
        exact ⟨fun z => by rw [jup_self, z_leF (by omega)] at z; exact z.elim, fun _ => fin _⟩
      by_cases q3 : a < 0
      · simp (disch := omega) only [z_add, z_sub, z_mul, z_neg, z_leT, z_leF, z_ltT, z_ltF, z_eqT, z_eqF, z_inT, z_clamp, z_nI, z_0, z_1, z_2, z_3, z_4, z_5, z_6, z_7, z_8, z_9, z_10, z_11, z_12, z_13, z_14, z_15, z_16, z_17, z_18, z_19, z_20, z_21, z_22, z_23, z_24, z_25, z_26, z_27, z_28, z_29, z_30, z_31, z_32, z_33, z_34, z_35, z_36, z_37, z_38, z_39, z_40, z_41, z_42, z_43, z_44, z_45, z_46, z_47, z_48, z_49, z_50, z_51, z_52, z_53, z_54, z_55, z_56, z_57, z_58, z_59, z_60, z_61, z_77, z_91, z_93, z_97, z_100, z_101, z_102, z_103, z_105, z_111, z_114, z_120, z_123, z_125, z_126, z_200, z_245, z_255, z_576, z_585, z_1000, z_2000, z_3510, z_11700, true_implies, false_implies, implies_true, not_true_eq_false, not_false_eq_true, true_and, and_true, false_and, and_false, ↓reduceIte, Int.reduceToNat, Int.reduceNeg, Int.toNat_natCast, e0]
        exact cl
      · by_cases q4 : n ≤ a
        · simp (disch := omega) only [z_add, z_sub, z_mul, z_neg, z_leT, z_leF, z_ltT, z_ltF, z_eqT, z_eqF, z_inT, z_clamp, z_nI, z_0, z_1, z_2, z_3, z_4, z_5, z_6, z_7, z_8, z_9, z_10, z_11, z_12, z_13, z_14, z_15, z_16, z_17, z_18, z_19, z_20, z_21, z_22, z_23, z_24, z_25, z_26, z_27, z_28, z_29, z_30, z_31, z_32, z_33, z_34, z_35, z_36, z_37, z_38, z_39, z_40, z_41, z_42, z_43, z_44, z_45, z_46, z_47, z_48, z_49, z_50, z_51, z_52, z_53, z_54, z_55, z_56, z_57, z_58, z_59, z_60, z_61, z_77, z_91, z_93, z_97, z_100, z_101, z_102, z_103, z_105, z_111, z_114, z_120, z_123, z_125, z_126, z_200, z_245, z_255, z_576, z_585, z_1000, z_2000, z_3510, z_11700, true_implies, false_implies, implies_true, not_true_eq_false, not_false_eq_true, true_and, and_true, false_and, and_false, ↓reduceIte, Int.reduceToNat, Int.reduceNeg, Int.toNat_natCast, e0]
          exact cl
        · by_cases q5 : b < 0
          · simp (disch := omega) only [z_add, z_sub, z_mul, z_neg, z_leT, z_leF, z_ltT, z_ltF, z_eqT, z_eqF, z_inT, z_clamp, z_nI, z_0, z_1, z_2, z_3, z_4, z_5, z_6, z_7, z_8, z_9, z_10, z_11, z_12, z_13, z_14, z_15, z_16, z_17, z_18, z_19, z_20, z_21, z_22, z_23, z_24, z_25, z_26, z_27, z_28, z_29, z_30, z_31, z_32, z_33, z_34, z_35, z_36, z_37, z_38, z_39, z_40, z_41, z_42, z_43, z_44, z_45, z_46, z_47, z_48, z_49, z_50, z_51, z_52, z_53, z_54, z_55, z_56, z_57, z_58, z_59, z_60, z_61, z_77, z_91, z_93, z_97, z_100, z_101, z_102, z_103, z_105, z_111, z_114, z_120, z_123, z_125, z_126, z_200, z_245, z_255, z_576, z_585, z_1000, z_2000, z_3510, z_11700, true_implies, false_implies, implies_true, not_true_eq_false, not_false_eq_true, true_and, and_true, false_and, and_false, ↓reduceIte, Int.reduceToNat, Int.reduceNeg, Int.toNat_natCast, e0]
            exact cl
          · simp (disch := omega) only [z_add, z_sub, z_mul, z_neg, z_leT, z_leF, z_ltT, z_ltF, z_eqT, z_eqF, z_inT, z_clamp, z_nI, z_0, z_1, z_2, z_3, z_4, z_5, z_6, z_7, z_8, z_9, z_10, z_11, z_12, z_13, z_14, z_15, z_16, z_17, z_18, z_19, z_20, z_21, z_22, z_23, z_24, z_25, z_26, z_27, z_28, z_29, z_30, z_31, z_32, z_33, z_34, z_35, z_36, z_37, z_38, z_39, z_40, z_41, z_42, z_43, z_44, z_45, z_46, z_47, z_48, z_49, z_50, z_51, z_52, z_53, z_54, z_55, z_56, z_57, z_58, z_59, z_60, z_61, z_77, z_91, z_93, z_97, z_100, z_101, z_102, z_103, z_105, z_111, z_114, z_120, z_123, z_125, z_126, z_200, z_245, z_255, z_576, z_585, z_1000, z_2000, z_3510, z_11700, true_implies, false_implies, implies_true, not_true_eq_false, not_false_eq_true, true_and, and_true, false_and, and_false, ↓reduceIte, Int.reduceToNat, Int.reduceNeg, Int.toNat_natCast, e0]
            exact cl
    · have fin := ro_thr hR hP hf hC (fm_rf _ _ M2) hF2 hr (by omega)
      simp (disch := omega) only [z_add, z_sub, z_mul, z_neg, z_leT, z_leF, z_ltT, z_ltF, z_eqT, z_eqF, z_inT, z_clamp, z_nI, z_0, z_1, z_2, z_3, z_4, z_5, z_6, z_7, z_8, z_9, z_10, z_11, z_12, z_13, z_14, z_15, z_16, z_17, z_18, z_19, z_20, z_21, z_22, z_23, z_24, z_25, z_26, z_27, z_28, z_29, z_30, z_31, z_32, z_33, z_34, z_35, z_36, z_37, z_38, z_39, z_40, z_41, z_42, z_43, z_44, z_45, z_46, z_47, z_48, z_49, z_50, z_51, z_52, z_53, z_54, z_55, z_56, z_57, z_58, z_59, z_60, z_61, z_77, z_91, z_93, z_97, z_100, z_101, z_102, z_103, z_105, z_111, z_114, z_120, z_123, z_125, z_126, z_200, z_245, z_255, z_576, z_585, z_1000, z_2000, z_3510, z_11700, true_implies, false_implies, implies_true, not_true_eq_false, not_false_eq_true, true_and, and_true, false_and, and_false, ↓reduceIte, Int.reduceToNat, Int.reduceNeg, Int.toNat_natCast, e0]
      rintro M3 rfl
      exact ⟨fun z => by rw [jup_self, z_leF (by omega)] at z; exact z.elim, fun _ => fin _⟩
    · simp (disch := omega) only [z_add, z_sub, z_mul, z_neg, z_leT, z_leF, z_ltT, z_ltF, z_eqT, z_eqF, z_inT, z_clamp, z_nI, z_0, z_1, z_2, z_3, z_4, z_5, z_6, z_7, z_8, z_9, z_10, z_11, z_12, z_13, z_14, z_15, z_16, z_17, z_18, z_19, z_20, z_21, z_22, z_23, z_24, z_25, z_26, z_27, z_28, z_29, z_30, z_31, z_32, z_33, z_34, z_35, z_36, z_37, z_38, z_39, z_40, z_41, z_42, z_43, z_44, z_45, z_46, z_47, z_48, z_49, z_50, z_51, z_52, z_53, z_54, z_55, z_56, z_57, z_58, z_59, z_60, z_61, z_77, z_91, z_93, z_97, z_100, z_101, z_102, z_103, z_105, z_111, z_114, z_120, z_123, z_125, z_126, z_200, z_245, z_255, z_576, z_585, z_1000, z_2000, z_3510, z_11700, true_implies, false_implies, implies_true, not_true_eq_false, not_false_eq_true, true_and, and_true, false_and, and_false, ↓reduceIte, Int.reduceToNat, Int.reduceNeg, Int.toNat_natCast, e0]
      rintro M3 rfl
      simp (disch := omega) only [jup_self, jup_ne, z_add, z_sub, z_mul, z_neg, z_leT, z_leF, z_ltT, z_ltF, z_eqT, z_eqF, z_inT, z_clamp, z_nI, z_0, z_1, z_2, z_3, z_4, z_5, z_6, z_7, z_8, z_9, z_10, z_11, z_12, z_13, z_14, z_15, z_16, z_17, z_18, z_19, z_20, z_21, z_22, z_23, z_24, z_25, z_26, z_27, z_28, z_29, z_30, z_31, z_32, z_33, z_34, z_35, z_36, z_37, z_38, z_39, z_40, z_41, z_42, z_43, z_44, z_45, z_46, z_47, z_48, z_49, z_50, z_51, z_52, z_53, z_54, z_55, z_56, z_57, z_58, z_59, z_60, z_61, z_77, z_91, z_93, z_97, z_100, z_101, z_102, z_103, z_105, z_111, z_114, z_120, z_123, z_125, z_126, z_200, z_245, z_255, z_576, z_585, z_1000, z_2000, z_3510, z_11700, true_implies, false_implies, implies_true, not_true_eq_false, not_false_eq_true, true_and, and_true, false_and, and_false, ↓reduceIte, Int.reduceToNat, Int.reduceNeg, Int.toNat_natCast]
      have hM3 := MR_7 (x := zI 0) hM2
      obtain ⟨fa, f1, f2⟩ := hF2
      obtain ⟨rd, f3⟩ := zI_rd (M2 11 0 27)
      refine ho_ok hG hM3 q.1.1 q2 q.2.2 (by rw [jup_ne (by omega)]; exact f3) (by rw [jup_ne (by omega)]; exact f2) f1 (fun M5 c1 c2 c3 c4 => ⟨fm_nb c1, ?_⟩)
      have hm : fm SM FM M2 M5 := fm_tr (fm_7 (x := zI 0) (fm_rf SM FM M2)) c1
      refine ro_val hR hP hf hC hm ⟨_, c4.2, c3⟩ (by rw [c1.2 7 (by decide), jup_self, hr]) ?_
      rw [fm_61 hm, hv2, trG_H]
      exact zc (by omega)
  refine wr_hits (en_X11_hits (bl_X11_hits_0 _ _ _ _ _ ?_))
  refine ckp_ok hPR hn a1 a2 b1 b2 (fun l0 l1 l2 l3 => ⟨rfl, ?_⟩) (fun z => Or.inl ⟨rfl, hq _ _ (key M _ (fr_rf _ _) hCI (Or.inl ⟨z, z_1⟩))⟩)
  refine ckg_ok a1 a2 b1 b2 (fun lt => ⟨rfl, ?_⟩) (fun z => Or.inr ⟨rfl, hq _ _ (key M _ (fr_rf _ _) hCI (Or.inr (Or.inl ⟨⟨⟨l0, l1⟩, l2, l3⟩, z, z_2⟩)))⟩)
  have e40 := hPR.2.1.2.1
  simp (disch := omega) only [z_add, z_sub, z_mul, z_neg, z_leT, z_leF, z_ltT, z_ltF, z_eqT, z_eqF, z_inT, z_clamp, z_nI, z_0, z_1, z_2, z_3, z_4, z_5, z_6, z_7, z_8, z_9, z_10, z_11, z_12, z_13, z_14, z_15, z_16, z_17, z_18, z_19, z_20, z_21, z_22, z_23, z_24, z_25, z_26, z_27, z_28, z_29, z_30, z_31, z_32, z_33, z_34, z_35, z_36, z_37, z_38, z_39, z_40, z_41, z_42, z_43, z_44, z_45, z_46, z_47, z_48, z_49, z_50, z_51, z_52, z_53, z_54, z_55, z_56, z_57, z_58, z_59, z_60, z_61, z_77, z_91, z_93, z_97, z_100, z_101, z_102, z_103, z_105, z_111, z_114, z_120, z_123, z_125, z_126, z_200, z_245, z_255, z_576, z_585, z_1000, z_2000, z_3510, z_11700, true_implies, false_implies, implies_true, not_true_eq_false, not_false_eq_true, true_and, and_true, false_and, and_false, ↓reduceIte, Int.reduceToNat, Int.reduceNeg, Int.toNat_natCast, e40]
  refine beg9_ok (fun M3 d1 d2 d3 d4 d5 d6 => ⟨fr_nb d1, ?_⟩)
  have hC3 := CI_fr hCI d1 (by rw [d1 1 (by decide)])
  refine rf2_ok hG (PR_r hPR d1) (by rw [fr_nb d1]; exact hnb) hC3 hv (fun M4 e1 e2 e3 => ⟨fr_nb e1, ?_⟩)
  refine take_ok (PR_r (PR_r hPR d1) e1) hG e3 l0 lt l3 (fun M5 g1 g2 g3 => ⟨fr_nb g1, ?_⟩)
  have hf5 : fr SO M M5 := fr_tr (fr_tr d1 e1 (U := SO)) g1
  refine pf0_ok (rd := 0) (ht := 0) (fa := 0) (win := o 1) (PR_r (PR_r (PR_r hPR d1) e1) g1) hG (by rw [fr_nb hf5]; exact hnb) g3 l0 lt l3 hG.2.1.2.1 (by omega) (by rw [g1 9 (by decide), e1 9 (by decide)]; exact d2) (by rw [g1 9 (by decide), e1 9 (by decide)]; exact d3) (by rw [g1 9 (by decide), e1 9 (by decide)]; exact d4) (by rw [g1 9 (by decide), e1 9 (by decide)]; exact d5) (aL_fr (aL_fr d6 e1) g1) (fun M6 i1 i2 => ⟨fr_nb i1, by rw [fr_nb i1, fr_nb hf5], ?_⟩)
  have hC6 := CI_fr (CI_fr e2 g1 g2) i1 (by rw [i1 1 (by decide)])
  have h93 : M6 9 0 3 = zI (Hh w o a b) := i2.1.2.2.1
  rw [h93]
  exact hq _ _ (key _ _ (o_fr (fr_tr hf5 i1)) (o_CI hC6) (Or.inr (Or.inr ⟨⟨⟨l0, l1⟩, l2, l3⟩, lt, rfl, by rw [jup_self]⟩)))
def dVal (a b : Int → Int) (p : Int × Int) (c : Int) : Int := if c = 0 then a (5 + p.1) else if c = 1 then dKi a b p else dSh a b p
set_option maxHeartbeats 4000000 in
set_option maxRecDepth 100000 in
theorem op_dependence {M : jM} {k : Nat} {n : Int} {w : Int → Int → Int} {o : Int → Int} {ver : Int} {a b c d : Int32} {P : jM → Int32 → Int32 → Prop} {Q : Int32 → Nat → jM → Prop} (hR : RLz M k n w o ver) (hk : k ≤ 2000) (hP : ∀ M5 r1 r4, RLz M5 (k + 1) n w o ver → M5 11 0 7 = r1 → (r1 = 0 → M5 61 0 0 = r4) → P M5 r1 r4) (hq : ∀ r1 M2, ok_X12_dependence a b c d M2 (fun r4 _ M5 => P M5 r1 r4) → Q r1 0 M2) : ok_L_dependence a b c d M Q := by
  obtain ⟨hnb, hv⟩ := RLz_n hR hk
  have hG := hR.1
  have hPR := hR.2.1
  have hCI := hR.2.2.2.1
  have hn := hG.1
  have h6 := hPR.1
  obtain ⟨a, a1, a2, rfl⟩ := zI_of a
  obtain ⟨b, b1, b2, rfl⟩ := zI_of b
  obtain ⟨c, c1, c2, rfl⟩ := zI_of c
  obtain ⟨d, d1, d2, rfl⟩ := zI_of d
  have key : ∀ (M2 : jM) (r1 : Int32), fr SO M M2 → CI M2 n w o ver → ((¬ (((0 ≤ a ∧ a < n) ∧ 0 ≤ b ∧ b < n) ∧ 0 ≤ d ∧ d ≤ 2) ∧ r1 = zI 1) ∨ ((((0 ≤ a ∧ a < n) ∧ 0 ≤ b ∧ b < n) ∧ 0 ≤ d ∧ d ≤ 2) ∧ ¬ a < b ∧ r1 = zI 2) ∨ ((((0 ≤ a ∧ a < n) ∧ 0 ≤ b ∧ b < n) ∧ 0 ≤ d ∧ d ≤ 2) ∧ a < b ∧ ¬ (0 ≤ c ∧ c < (dps (w a) (w b)).length) ∧ r1 = zI 3) ∨ ((((0 ≤ a ∧ a < n) ∧ 0 ≤ b ∧ b < n) ∧ 0 ≤ d ∧ d ≤ 2) ∧ a < b ∧ (0 ≤ c ∧ c < (dps (w a) (w b)).length) ∧ r1 = zI 0 ∧ ∃ p, (dps (w a) (w b))[c.toNat]? = some p ∧ M2 61 0 0 = zI (dVal (w a) (w b) p d))) → ok_X12_dependence (zI a) (zI b) (zI c) (zI d) M2 (fun r4 _ M5 => P M5 r1 r4) := by
    intro M2 r1 hf hC hr
    obtain ⟨hM2, hF2⟩ := RLz_m hR hf
    have e0 := hM2.1
    refine en_X12_dependence (bl_X12_dependence_0 _ _ _ _ _ _ ?_)
    have dead : ∀ (x : Int) (M3 : jM) (A : Prop), 1 ≤ x ∧ x ≤ 3 → M3 = jup M2 11 0 7 (zI x) → r1 = zI x → (M3 11 0 7 ≤ zI 0 → A) ∧ (¬ (M3 11 0 7 ≤ zI 0) → P M3 r1 (zI 0)) := by
      rintro x M3 A hx rfl hrx
      have fin := ro_thr hR hP hf hC (fm_rf _ _ M2) hF2 hrx hx
      exact ⟨fun z => by rw [jup_self, z_leF (by omega)] at z; exact z.elim, fun _ => fin _⟩
    rcases hr with ⟨q, hr⟩ | ⟨q, q2, hr⟩ | ⟨q, q2, q3, hr⟩ | ⟨q, q2, q3, hr, p, hp, hv2⟩
    · by_cases q3 : a < 0
      · simp (disch := omega) only [z_add, z_sub, z_mul, z_neg, z_leT, z_leF, z_ltT, z_ltF, z_eqT, z_eqF, z_inT, z_clamp, z_nI, z_0, z_1, z_2, z_3, z_4, z_5, z_6, z_7, z_8, z_9, z_10, z_11, z_12, z_13, z_14, z_15, z_16, z_17, z_18, z_19, z_20, z_21, z_22, z_23, z_24, z_25, z_26, z_27, z_28, z_29, z_30, z_31, z_32, z_33, z_34, z_35, z_36, z_37, z_38, z_39, z_40, z_41, z_42, z_43, z_44, z_45, z_46, z_47, z_48, z_49, z_50, z_51, z_52, z_53, z_54, z_55, z_56, z_57, z_58, z_59, z_60, z_61, z_77, z_91, z_93, z_97, z_100, z_101, z_102, z_103, z_105, z_111, z_114, z_120, z_123, z_125, z_126, z_200, z_245, z_255, z_576, z_585, z_1000, z_2000, z_3510, z_11700, true_implies, false_implies, implies_true, not_true_eq_false, not_false_eq_true, true_and, and_true, false_and, and_false, ↓reduceIte, Int.reduceToNat, Int.reduceNeg, Int.toNat_natCast, e0]
        exact fun M3 h3 => dead 1 M3 _ (by omega) h3 hr
      · by_cases q4 : n ≤ a
        · simp (disch := omega) only [z_add, z_sub, z_mul, z_neg, z_leT, z_leF, z_ltT, z_ltF, z_eqT, z_eqF, z_inT, z_clamp, z_nI, z_0, z_1, z_2, z_3, z_4, z_5, z_6, z_7, z_8, z_9, z_10, z_11, z_12, z_13, z_14, z_15, z_16, z_17, z_18, z_19, z_20, z_21, z_22, z_23, z_24, z_25, z_26, z_27, z_28, z_29, z_30, z_31, z_32, z_33, z_34, z_35, z_36, z_37, z_38, z_39, z_40, z_41, z_42, z_43, z_44, z_45, z_46, z_47, z_48, z_49, z_50, z_51, z_52, z_53, z_54, z_55, z_56, z_57, z_58, z_59, z_60, z_61, z_77, z_91, z_93, z_97, z_100, z_101, z_102, z_103, z_105, z_111, z_114, z_120, z_123, z_125, z_126, z_200, z_245, z_255, z_576, z_585, z_1000, z_2000, z_3510, z_11700, true_implies, false_implies, implies_true, not_true_eq_false, not_false_eq_true, true_and, and_true, false_and, and_false, ↓reduceIte, Int.reduceToNat, Int.reduceNeg, Int.toNat_natCast, e0]
          exact fun M3 h3 => dead 1 M3 _ (by omega) h3 hr
        · by_cases q5 : b < 0
          · simp (disch := omega) only [z_add, z_sub, z_mul, z_neg, z_leT, z_leF, z_ltT, z_ltF, z_eqT, z_eqF, z_inT, z_clamp, z_nI, z_0, z_1, z_2, z_3, z_4, z_5, z_6, z_7, z_8, z_9, z_10, z_11, z_12, z_13, z_14, z_15, z_16, z_17, z_18, z_19, z_20, z_21, z_22, z_23, z_24, z_25, z_26, z_27, z_28, z_29, z_30, z_31, z_32, z_33, z_34, z_35, z_36, z_37, z_38, z_39, z_40, z_41, z_42, z_43, z_44, z_45, z_46, z_47, z_48, z_49, z_50, z_51, z_52, z_53, z_54, z_55, z_56, z_57, z_58, z_59, z_60, z_61, z_77, z_91, z_93, z_97, z_100, z_101, z_102, z_103, z_105, z_111, z_114, z_120, z_123, z_125, z_126, z_200, z_245, z_255, z_576, z_585, z_1000, z_2000, z_3510, z_11700, true_implies, false_implies, implies_true, not_true_eq_false, not_false_eq_true, true_and, and_true, false_and, and_false, ↓reduceIte, Int.reduceToNat, Int.reduceNeg, Int.toNat_natCast, e0]
            exact fun M3 h3 => dead 1 M3 _ (by omega) h3 hr
          · by_cases q6 : n ≤ b
            · simp (disch := omega) only [z_add, z_sub, z_mul, z_neg, z_leT, z_leF, z_ltT, z_ltF, z_eqT, z_eqF, z_inT, z_clamp, z_nI, z_0, z_1, z_2, z_3, z_4, z_5, z_6, z_7, z_8, z_9, z_10, z_11, z_12, z_13, z_14, z_15, z_16, z_17, z_18, z_19, z_20, z_21, z_22, z_23, z_24, z_25, z_26, z_27, z_28, z_29, z_30, z_31, z_32, z_33, z_34, z_35, z_36, z_37, z_38, z_39, z_40, z_41, z_42, z_43, z_44, z_45, z_46, z_47, z_48, z_49, z_50, z_51, z_52, z_53, z_54, z_55, z_56, z_57, z_58, z_59, z_60, z_61, z_77, z_91, z_93, z_97, z_100, z_101, z_102, z_103, z_105, z_111, z_114, z_120, z_123, z_125, z_126, z_200, z_245, z_255, z_576, z_585, z_1000, z_2000, z_3510, z_11700, true_implies, false_implies, implies_true, not_true_eq_false, not_false_eq_true, true_and, and_true, false_and, and_false, ↓reduceIte, Int.reduceToNat, Int.reduceNeg, Int.toNat_natCast, e0]
              exact fun M3 h3 => dead 1 M3 _ (by omega) h3 hr
            · by_cases q7 : d < 0
              · simp (disch := omega) only [z_add, z_sub, z_mul, z_neg, z_leT, z_leF, z_ltT, z_ltF, z_eqT, z_eqF, z_inT, z_clamp, z_nI, z_0, z_1, z_2, z_3, z_4, z_5, z_6, z_7, z_8, z_9, z_10, z_11, z_12, z_13, z_14, z_15, z_16, z_17, z_18, z_19, z_20, z_21, z_22, z_23, z_24, z_25, z_26, z_27, z_28, z_29, z_30, z_31, z_32, z_33, z_34, z_35, z_36, z_37, z_38, z_39, z_40, z_41, z_42, z_43, z_44, z_45, z_46, z_47, z_48, z_49, z_50, z_51, z_52, z_53, z_54, z_55, z_56, z_57, z_58, z_59, z_60, z_61, z_77, z_91, z_93, z_97, z_100, z_101, z_102, z_103, z_105, z_111, z_114, z_120, z_123, z_125, z_126, z_200, z_245, z_255, z_576, z_585, z_1000, z_2000, z_3510, z_11700, true_implies, false_implies, implies_true, not_true_eq_false, not_false_eq_true, true_and, and_true, false_and, and_false, ↓reduceIte, Int.reduceToNat, Int.reduceNeg, Int.toNat_natCast, e0]
                exact fun M3 h3 => dead 1 M3 _ (by omega) h3 hr
              · simp (disch := omega) only [z_add, z_sub, z_mul, z_neg, z_leT, z_leF, z_ltT, z_ltF, z_eqT, z_eqF, z_inT, z_clamp, z_nI, z_0, z_1, z_2, z_3, z_4, z_5, z_6, z_7, z_8, z_9, z_10, z_11, z_12, z_13, z_14, z_15, z_16, z_17, z_18, z_19, z_20, z_21, z_22, z_23, z_24, z_25, z_26, z_27, z_28, z_29, z_30, z_31, z_32, z_33, z_34, z_35, z_36, z_37, z_38, z_39, z_40, z_41, z_42, z_43, z_44, z_45, z_46, z_47, z_48, z_49, z_50, z_51, z_52, z_53, z_54, z_55, z_56, z_57, z_58, z_59, z_60, z_61, z_77, z_91, z_93, z_97, z_100, z_101, z_102, z_103, z_105, z_111, z_114, z_120, z_123, z_125, z_126, z_200, z_245, z_255, z_576, z_585, z_1000, z_2000, z_3510, z_11700, true_implies, false_implies, implies_true, not_true_eq_false, not_false_eq_true, true_and, and_true, false_and, and_false, ↓reduceIte, Int.reduceToNat, Int.reduceNeg, Int.toNat_natCast, e0]
                exact fun M3 h3 => dead 1 M3 _ (by omega) h3 hr
    · simp (disch := omega) only [z_add, z_sub, z_mul, z_neg, z_leT, z_leF, z_ltT, z_ltF, z_eqT, z_eqF, z_inT, z_clamp, z_nI, z_0, z_1, z_2, z_3, z_4, z_5, z_6, z_7, z_8, z_9, z_10, z_11, z_12, z_13, z_14, z_15, z_16, z_17, z_18, z_19, z_20, z_21, z_22, z_23, z_24, z_25, z_26, z_27, z_28, z_29, z_30, z_31, z_32, z_33, z_34, z_35, z_36, z_37, z_38, z_39, z_40, z_41, z_42, z_43, z_44, z_45, z_46, z_47, z_48, z_49, z_50, z_51, z_52, z_53, z_54, z_55, z_56, z_57, z_58, z_59, z_60, z_61, z_77, z_91, z_93, z_97, z_100, z_101, z_102, z_103, z_105, z_111, z_114, z_120, z_123, z_125, z_126, z_200, z_245, z_255, z_576, z_585, z_1000, z_2000, z_3510, z_11700, true_implies, false_implies, implies_true, not_true_eq_false, not_false_eq_true, true_and, and_true, false_and, and_false, ↓reduceIte, Int.reduceToNat, Int.reduceNeg, Int.toNat_natCast, e0, true_or, or_true, false_or, or_false]
      exact fun M3 h3 => dead 2 M3 _ (by omega) h3 hr
    · simp (disch := omega) only [z_add, z_sub, z_mul, z_neg, z_leT, z_leF, z_ltT, z_ltF, z_eqT, z_eqF, z_inT, z_clamp, z_nI, z_0, z_1, z_2, z_3, z_4, z_5, z_6, z_7, z_8, z_9, z_10, z_11, z_12, z_13, z_14, z_15, z_16, z_17, z_18, z_19, z_20, z_21, z_22, z_23, z_24, z_25, z_26, z_27, z_28, z_29, z_30, z_31, z_32, z_33, z_34, z_35, z_36, z_37, z_38, z_39, z_40, z_41, z_42, z_43, z_44, z_45, z_46, z_47, z_48, z_49, z_50, z_51, z_52, z_53, z_54, z_55, z_56, z_57, z_58, z_59, z_60, z_61, z_77, z_91, z_93, z_97, z_100, z_101, z_102, z_103, z_105, z_111, z_114, z_120, z_123, z_125, z_126, z_200, z_245, z_255, z_576, z_585, z_1000, z_2000, z_3510, z_11700, true_implies, false_implies, implies_true, not_true_eq_false, not_false_eq_true, true_and, and_true, false_and, and_false, ↓reduceIte, Int.reduceToNat, Int.reduceNeg, Int.toNat_natCast, e0, true_or, or_true, false_or, or_false]
      rintro M3 rfl
      rw [jup_self]
      refine ⟨fun _ => ?_, fun z => absurd (by rw [z_leT (by omega)]; trivial) z⟩
      have hM3 := MR_7 (x := zI 0) hM2
      have hOa := hG.2.2 a q.1.1.1 q.1.1.2
      have hOb := hG.2.2 b q.1.2.1 q.1.2.2
      refine md_ok (by omega) (by omega) hOa hOb (MR_RW hM3 q.1.1.1 q.1.1.2) (MR_RW hM3 q.1.2.1 q.1.2.2) (by omega) (fun M5 k1 k2 => ⟨fm_nb k1, ?_⟩)
      have hm : fm SM FM M2 M5 := fm_tr (fm_7 (x := zI 0) (fm_rf SM FM M2)) k1
      have fin := ro_thr hR hP hf hC hm (FA_fm (FA_7 hF2) k1) hr (by omega)
      have hlen : ((dps (w a) (w b)).length : Int) ≤ 576 := by
        have h1 := hOa.2.1
        have h2 := hOb.2.1
        have := dpL_len (a := w a) (b := w b) (k := w a 4) (by omega) (by omega)
        unfold dps
        omega
      refine ⟨fun z => ?_, fun _ => ?_⟩
      · rw [z_sub] at z
        by_cases q5 : c < 0
        · rw [z_leF (by omega)] at z; exact z.1.elim
        · rw [z_leF (a := c) (by omega)] at z; exact z.2.elim
      · rintro M7 rfl
        exact fin _
    · simp (disch := omega) only [z_add, z_sub, z_mul, z_neg, z_leT, z_leF, z_ltT, z_ltF, z_eqT, z_eqF, z_inT, z_clamp, z_nI, z_0, z_1, z_2, z_3, z_4, z_5, z_6, z_7, z_8, z_9, z_10, z_11, z_12, z_13, z_14, z_15, z_16, z_17, z_18, z_19, z_20, z_21, z_22, z_23, z_24, z_25, z_26, z_27, z_28, z_29, z_30, z_31, z_32, z_33, z_34, z_35, z_36, z_37, z_38, z_39, z_40, z_41, z_42, z_43, z_44, z_45, z_46, z_47, z_48, z_49, z_50, z_51, z_52, z_53, z_54, z_55, z_56, z_57, z_58, z_59, z_60, z_61, z_77, z_91, z_93, z_97, z_100, z_101, z_102, z_103, z_105, z_111, z_114, z_120, z_123, z_125, z_126, z_200, z_245, z_255, z_576, z_585, z_1000, z_2000, z_3510, z_11700, true_implies, false_implies, implies_true, not_true_eq_false, not_false_eq_true, true_and, and_true, false_and, and_false, ↓reduceIte, Int.reduceToNat, Int.reduceNeg, Int.toNat_natCast, e0, true_or, or_true, false_or, or_false]
      rintro M3 rfl
      rw [jup_self]
      refine ⟨fun _ => ?_, fun z => absurd (by rw [z_leT (by omega)]; trivial) z⟩
      have hM3 := MR_7 (x := zI 0) hM2
      have hOa := hG.2.2 a q.1.1.1 q.1.1.2
      have hOb := hG.2.2 b q.1.2.1 q.1.2.2
      refine md_ok (by omega) (by omega) hOa hOb (MR_RW hM3 q.1.1.1 q.1.1.2) (MR_RW hM3 q.1.2.1 q.1.2.2) (by omega) (fun M5 k1 k2 => ⟨fm_nb k1, ?_⟩)
      have hm : fm SM FM M2 M5 := fm_tr (fm_7 (x := zI 0) (fm_rf SM FM M2)) k1
      have hlen : ((dps (w a) (w b)).length : Int) ≤ 576 := by
        have h1 := hOa.2.1
        have h2 := hOb.2.1
        have := dpL_len (a := w a) (b := w b) (k := w a 4) (by omega) (by omega)
        unfold dps
        omega
      obtain ⟨f22, f23⟩ := k2.2.2 p q3.1 hp
      obtain ⟨⟨p1, p2⟩, ⟨p3, p4⟩, _⟩ := dps_all (by have := hOa.2.1; omega) (by have := hOb.2.1; omega) p (List.mem_of_getElem? hp)
      have rA : ∀ j, 0 ≤ j → j < 585 → M5 50 0 (585 * a + j).toNat = zI (w a j) := MR_RW (MR_fm hM3 k1) q.1.1.1 q.1.1.2
      have rB : ∀ j, 0 ≤ j → j < 585 → M5 50 0 (585 * b + j).toNat = zI (w b j) := MR_RW (MR_fm hM3 k1) q.1.2.1 q.1.2.2
      have val : ∀ r4, r4 = zI (dVal (w a) (w b) p d) → P M5 r1 r4 := fun r4 h => ro_val hR hP hf hC hm (FA_fm (FA_7 hF2) k1) (by rw [k1.2 7 (by decide), jup_self, hr]) (by rw [fm_61 hm, hv2, h])
      have h4a := hOa.2.1
      have h4b := hOb.2.1
      obtain ⟨_, _, m5, _⟩ := hOa.2.2.1 p.1 p1 p2
      obtain ⟨_, _, n5, _⟩ := hOb.2.2.1 p.2 p3 p4
      rcases m5 with m5 | m5
      · have eK : dKi (w a) (w b) p = 1 := by unfold dKi; rw [if_neg (by omega)]
        rcases (show d = 0 ∨ d = 1 ∨ d = 2 by omega) with hd | hd | hd
        · subst hd
          simp (disch := omega) only [z_add, z_sub, z_mul, z_neg, z_leT, z_leF, z_ltT, z_ltF, z_eqT, z_eqF, z_inT, z_clamp, z_nI, z_0, z_1, z_2, z_3, z_4, z_5, z_6, z_7, z_8, z_9, z_10, z_11, z_12, z_13, z_14, z_15, z_16, z_17, z_18, z_19, z_20, z_21, z_22, z_23, z_24, z_25, z_26, z_27, z_28, z_29, z_30, z_31, z_32, z_33, z_34, z_35, z_36, z_37, z_38, z_39, z_40, z_41, z_42, z_43, z_44, z_45, z_46, z_47, z_48, z_49, z_50, z_51, z_52, z_53, z_54, z_55, z_56, z_57, z_58, z_59, z_60, z_61, z_77, z_91, z_93, z_97, z_100, z_101, z_102, z_103, z_105, z_111, z_114, z_120, z_123, z_125, z_126, z_200, z_245, z_255, z_576, z_585, z_1000, z_2000, z_3510, z_11700, true_implies, false_implies, implies_true, not_true_eq_false, not_false_eq_true, true_and, and_true, false_and, and_false, ↓reduceIte, Int.reduceToNat, Int.reduceNeg, Int.toNat_natCast, f22, f23, rA, rB, m5]
          exact val _ rfl
        · subst hd
          simp (disch := omega) only [z_add, z_sub, z_mul, z_neg, z_leT, z_leF, z_ltT, z_ltF, z_eqT, z_eqF, z_inT, z_clamp, z_nI, z_0, z_1, z_2, z_3, z_4, z_5, z_6, z_7, z_8, z_9, z_10, z_11, z_12, z_13, z_14, z_15, z_16, z_17, z_18, z_19, z_20, z_21, z_22, z_23, z_24, z_25, z_26, z_27, z_28, z_29, z_30, z_31, z_32, z_33, z_34, z_35, z_36, z_37, z_38, z_39, z_40, z_41, z_42, z_43, z_44, z_45, z_46, z_47, z_48, z_49, z_50, z_51, z_52, z_53, z_54, z_55, z_56, z_57, z_58, z_59, z_60, z_61, z_77, z_91, z_93, z_97, z_100, z_101, z_102, z_103, z_105, z_111, z_114, z_120, z_123, z_125, z_126, z_200, z_245, z_255, z_576, z_585, z_1000, z_2000, z_3510, z_11700, true_implies, false_implies, implies_true, not_true_eq_false, not_false_eq_true, true_and, and_true, false_and, and_false, ↓reduceIte, Int.reduceToNat, Int.reduceNeg, Int.toNat_natCast, f22, f23, rA, rB, m5]
          exact val _ (zc (by unfold dVal; rw [if_neg (by omega), if_pos rfl, eK]))
        · subst hd
          simp (disch := omega) only [z_add, z_sub, z_mul, z_neg, z_leT, z_leF, z_ltT, z_ltF, z_eqT, z_eqF, z_inT, z_clamp, z_nI, z_0, z_1, z_2, z_3, z_4, z_5, z_6, z_7, z_8, z_9, z_10, z_11, z_12, z_13, z_14, z_15, z_16, z_17, z_18, z_19, z_20, z_21, z_22, z_23, z_24, z_25, z_26, z_27, z_28, z_29, z_30, z_31, z_32, z_33, z_34, z_35, z_36, z_37, z_38, z_39, z_40, z_41, z_42, z_43, z_44, z_45, z_46, z_47, z_48, z_49, z_50, z_51, z_52, z_53, z_54, z_55, z_56, z_57, z_58, z_59, z_60, z_61, z_77, z_91, z_93, z_97, z_100, z_101, z_102, z_103, z_105, z_111, z_114, z_120, z_123, z_125, z_126, z_200, z_245, z_255, z_576, z_585, z_1000, z_2000, z_3510, z_11700, true_implies, false_implies, implies_true, not_true_eq_false, not_false_eq_true, true_and, and_true, false_and, and_false, ↓reduceIte, Int.reduceToNat, Int.reduceNeg, Int.toNat_natCast, f22, f23, rA, rB, m5]
          exact val _ rfl
      · rcases n5 with n5 | n5
        · have eK : dKi (w a) (w b) p = 0 := by unfold dKi; rw [if_pos m5, if_neg (by omega)]
          rcases (show d = 0 ∨ d = 1 ∨ d = 2 by omega) with hd | hd | hd
          · subst hd
            simp (disch := omega) only [z_add, z_sub, z_mul, z_neg, z_leT, z_leF, z_ltT, z_ltF, z_eqT, z_eqF, z_inT, z_clamp, z_nI, z_0, z_1, z_2, z_3, z_4, z_5, z_6, z_7, z_8, z_9, z_10, z_11, z_12, z_13, z_14, z_15, z_16, z_17, z_18, z_19, z_20, z_21, z_22, z_23, z_24, z_25, z_26, z_27, z_28, z_29, z_30, z_31, z_32, z_33, z_34, z_35, z_36, z_37, z_38, z_39, z_40, z_41, z_42, z_43, z_44, z_45, z_46, z_47, z_48, z_49, z_50, z_51, z_52, z_53, z_54, z_55, z_56, z_57, z_58, z_59, z_60, z_61, z_77, z_91, z_93, z_97, z_100, z_101, z_102, z_103, z_105, z_111, z_114, z_120, z_123, z_125, z_126, z_200, z_245, z_255, z_576, z_585, z_1000, z_2000, z_3510, z_11700, true_implies, false_implies, implies_true, not_true_eq_false, not_false_eq_true, true_and, and_true, false_and, and_false, ↓reduceIte, Int.reduceToNat, Int.reduceNeg, Int.toNat_natCast, f22, f23, rA, rB, m5, n5]
            exact val _ rfl
          · subst hd
            simp (disch := omega) only [z_add, z_sub, z_mul, z_neg, z_leT, z_leF, z_ltT, z_ltF, z_eqT, z_eqF, z_inT, z_clamp, z_nI, z_0, z_1, z_2, z_3, z_4, z_5, z_6, z_7, z_8, z_9, z_10, z_11, z_12, z_13, z_14, z_15, z_16, z_17, z_18, z_19, z_20, z_21, z_22, z_23, z_24, z_25, z_26, z_27, z_28, z_29, z_30, z_31, z_32, z_33, z_34, z_35, z_36, z_37, z_38, z_39, z_40, z_41, z_42, z_43, z_44, z_45, z_46, z_47, z_48, z_49, z_50, z_51, z_52, z_53, z_54, z_55, z_56, z_57, z_58, z_59, z_60, z_61, z_77, z_91, z_93, z_97, z_100, z_101, z_102, z_103, z_105, z_111, z_114, z_120, z_123, z_125, z_126, z_200, z_245, z_255, z_576, z_585, z_1000, z_2000, z_3510, z_11700, true_implies, false_implies, implies_true, not_true_eq_false, not_false_eq_true, true_and, and_true, false_and, and_false, ↓reduceIte, Int.reduceToNat, Int.reduceNeg, Int.toNat_natCast, f22, f23, rA, rB, m5, n5]
            exact val _ (zc (by unfold dVal; rw [if_neg (by omega), if_pos rfl, eK]))
          · subst hd
            simp (disch := omega) only [z_add, z_sub, z_mul, z_neg, z_leT, z_leF, z_ltT, z_ltF, z_eqT, z_eqF, z_inT, z_clamp, z_nI, z_0, z_1, z_2, z_3, z_4, z_5, z_6, z_7, z_8, z_9, z_10, z_11, z_12, z_13, z_14, z_15, z_16, z_17, z_18, z_19, z_20, z_21, z_22, z_23, z_24, z_25, z_26, z_27, z_28, z_29, z_30, z_31, z_32, z_33, z_34, z_35, z_36, z_37, z_38, z_39, z_40, z_41, z_42, z_43, z_44, z_45, z_46, z_47, z_48, z_49, z_50, z_51, z_52, z_53, z_54, z_55, z_56, z_57, z_58, z_59, z_60, z_61, z_77, z_91, z_93, z_97, z_100, z_101, z_102, z_103, z_105, z_111, z_114, z_120, z_123, z_125, z_126, z_200, z_245, z_255, z_576, z_585, z_1000, z_2000, z_3510, z_11700, true_implies, false_implies, implies_true, not_true_eq_false, not_false_eq_true, true_and, and_true, false_and, and_false, ↓reduceIte, Int.reduceToNat, Int.reduceNeg, Int.toNat_natCast, f22, f23, rA, rB, m5, n5]
            exact val _ rfl
        · have eK : dKi (w a) (w b) p = 2 := by unfold dKi; rw [if_pos m5, if_pos n5]
          rcases (show d = 0 ∨ d = 1 ∨ d = 2 by omega) with hd | hd | hd
          · subst hd
            simp (disch := omega) only [z_add, z_sub, z_mul, z_neg, z_leT, z_leF, z_ltT, z_ltF, z_eqT, z_eqF, z_inT, z_clamp, z_nI, z_0, z_1, z_2, z_3, z_4, z_5, z_6, z_7, z_8, z_9, z_10, z_11, z_12, z_13, z_14, z_15, z_16, z_17, z_18, z_19, z_20, z_21, z_22, z_23, z_24, z_25, z_26, z_27, z_28, z_29, z_30, z_31, z_32, z_33, z_34, z_35, z_36, z_37, z_38, z_39, z_40, z_41, z_42, z_43, z_44, z_45, z_46, z_47, z_48, z_49, z_50, z_51, z_52, z_53, z_54, z_55, z_56, z_57, z_58, z_59, z_60, z_61, z_77, z_91, z_93, z_97, z_100, z_101, z_102, z_103, z_105, z_111, z_114, z_120, z_123, z_125, z_126, z_200, z_245, z_255, z_576, z_585, z_1000, z_2000, z_3510, z_11700, true_implies, false_implies, implies_true, not_true_eq_false, not_false_eq_true, true_and, and_true, false_and, and_false, ↓reduceIte, Int.reduceToNat, Int.reduceNeg, Int.toNat_natCast, f22, f23, rA, rB, m5, n5]
            exact val _ rfl
          · subst hd
            simp (disch := omega) only [z_add, z_sub, z_mul, z_neg, z_leT, z_leF, z_ltT, z_ltF, z_eqT, z_eqF, z_inT, z_clamp, z_nI, z_0, z_1, z_2, z_3, z_4, z_5, z_6, z_7, z_8, z_9, z_10, z_11, z_12, z_13, z_14, z_15, z_16, z_17, z_18, z_19, z_20, z_21, z_22, z_23, z_24, z_25, z_26, z_27, z_28, z_29, z_30, z_31, z_32, z_33, z_34, z_35, z_36, z_37, z_38, z_39, z_40, z_41, z_42, z_43, z_44, z_45, z_46, z_47, z_48, z_49, z_50, z_51, z_52, z_53, z_54, z_55, z_56, z_57, z_58, z_59, z_60, z_61, z_77, z_91, z_93, z_97, z_100, z_101, z_102, z_103, z_105, z_111, z_114, z_120, z_123, z_125, z_126, z_200, z_245, z_255, z_576, z_585, z_1000, z_2000, z_3510, z_11700, true_implies, false_implies, implies_true, not_true_eq_false, not_false_eq_true, true_and, and_true, false_and, and_false, ↓reduceIte, Int.reduceToNat, Int.reduceNeg, Int.toNat_natCast, f22, f23, rA, rB, m5, n5]
            exact val _ (zc (by unfold dVal; rw [if_neg (by omega), if_pos rfl, eK]))
          · subst hd
            simp (disch := omega) only [z_add, z_sub, z_mul, z_neg, z_leT, z_leF, z_ltT, z_ltF, z_eqT, z_eqF, z_inT, z_clamp, z_nI, z_0, z_1, z_2, z_3, z_4, z_5, z_6, z_7, z_8, z_9, z_10, z_11, z_12, z_13, z_14, z_15, z_16, z_17, z_18, z_19, z_20, z_21, z_22, z_23, z_24, z_25, z_26, z_27, z_28, z_29, z_30, z_31, z_32, z_33, z_34, z_35, z_36, z_37, z_38, z_39, z_40, z_41, z_42, z_43, z_44, z_45, z_46, z_47, z_48, z_49, z_50, z_51, z_52, z_53, z_54, z_55, z_56, z_57, z_58, z_59, z_60, z_61, z_77, z_91, z_93, z_97, z_100, z_101, z_102, z_103, z_105, z_111, z_114, z_120, z_123, z_125, z_126, z_200, z_245, z_255, z_576, z_585, z_1000, z_2000, z_3510, z_11700, true_implies, false_implies, implies_true, not_true_eq_false, not_false_eq_true, true_and, and_true, false_and, and_false, ↓reduceIte, Int.reduceToNat, Int.reduceNeg, Int.toNat_natCast, f22, f23, rA, rB, m5, n5]
            exact val _ rfl
  refine wr_dependence (en_X11_dependence (bl_X11_dependence_0 _ _ _ _ _ _ _ ?_))
  refine ckp_ok hPR hn a1 a2 b1 b2 (fun l0 l1 l2 l3 => ⟨rfl, ?_⟩) (fun z => Or.inl ⟨rfl, hq _ _ (key M _ (fr_rf _ _) hCI (Or.inl ⟨fun y => z y.1, z_1⟩))⟩)
  by_cases qd : 0 ≤ d ∧ d ≤ 2
  · simp (disch := omega) only [z_add, z_sub, z_mul, z_neg, z_leT, z_leF, z_ltT, z_ltF, z_eqT, z_eqF, z_inT, z_clamp, z_nI, z_0, z_1, z_2, z_3, z_4, z_5, z_6, z_7, z_8, z_9, z_10, z_11, z_12, z_13, z_14, z_15, z_16, z_17, z_18, z_19, z_20, z_21, z_22, z_23, z_24, z_25, z_26, z_27, z_28, z_29, z_30, z_31, z_32, z_33, z_34, z_35, z_36, z_37, z_38, z_39, z_40, z_41, z_42, z_43, z_44, z_45, z_46, z_47, z_48, z_49, z_50, z_51, z_52, z_53, z_54, z_55, z_56, z_57, z_58, z_59, z_60, z_61, z_77, z_91, z_93, z_97, z_100, z_101, z_102, z_103, z_105, z_111, z_114, z_120, z_123, z_125, z_126, z_200, z_245, z_255, z_576, z_585, z_1000, z_2000, z_3510, z_11700, true_implies, false_implies, implies_true, not_true_eq_false, not_false_eq_true, true_and, and_true, false_and, and_false, ↓reduceIte, Int.reduceToNat, Int.reduceNeg, Int.toNat_natCast]
    refine ckb_ok a1 a2 b1 b2 (fun lt => ⟨rfl, ?_⟩) (fun z => Or.inr (Or.inl ⟨rfl, hq _ _ (key M _ (fr_rf _ _) hCI (Or.inr (Or.inl ⟨⟨⟨⟨l0, l1⟩, l2, l3⟩, qd⟩, z, rfl⟩)))⟩))
    refine lat_ok hPR hn a1 a2 (fun _ _ => ⟨by omega, rfl, ?_⟩) (fun z => absurd ⟨l0, l1⟩ z)
    refine lat_ok hPR hn b1 b2 (fun _ _ => ⟨by omega, rfl, ?_⟩) (fun z => absurd ⟨l2, l3⟩ z)
    have hOa := hG.2.2 a l0 l1
    have hOb := hG.2.2 b l2 l3
    refine col_ok (by omega) (by omega) hOa hOb (hPR.2.2 a l0 l1) (hPR.2.2 b l2 l3) hnb (fun M3 k1 k2 => ⟨fr_nb k1, ?_⟩)
    have hC3 := CI_fr hCI k1 (by rw [k1 1 (by decide)])
    have hlen : ((dps (w a) (w b)).length : Int) ≤ 576 := by
      have h1 := hOa.2.1
      have h2 := hOb.2.1
      have := dpL_len (a := w a) (b := w b) (k := w a 4) (by omega) (by omega)
      unfold dps
      omega
    have l1' := k2.1
    have enb := fr_nb k1
    by_cases qc : 0 ≤ c ∧ c < (dps (w a) (w b)).length
    · have eg : (dps (w a) (w b))[c.toNat]? = some (dps (w a) (w b))[c.toNat] := List.getElem?_eq_getElem (by omega)
      obtain ⟨g1, g2, g3⟩ := k2.2.2.2 c.toNat _ eg
      have fin : ∀ x, x = zI (dVal (w a) (w b) (dps (w a) (w b))[c.toNat] d) → Q (zI 0) 0 (jup M3 61 0 0 x) := fun x hx => hq _ _ (key _ _ (o_fr (fr_mono k1)) (o_CI hC3) (Or.inr (Or.inr (Or.inr ⟨⟨⟨⟨l0, l1⟩, l2, l3⟩, qd⟩, lt, qc, rfl, _, eg, by rw [jup_self, hx]⟩))))
      rcases (show d = 0 ∨ d = 1 ∨ d = 2 by omega) with hd | hd | hd
      · subst hd
        simp (disch := omega) only [z_add, z_sub, z_mul, z_neg, z_leT, z_leF, z_ltT, z_ltF, z_eqT, z_eqF, z_inT, z_clamp, z_nI, z_0, z_1, z_2, z_3, z_4, z_5, z_6, z_7, z_8, z_9, z_10, z_11, z_12, z_13, z_14, z_15, z_16, z_17, z_18, z_19, z_20, z_21, z_22, z_23, z_24, z_25, z_26, z_27, z_28, z_29, z_30, z_31, z_32, z_33, z_34, z_35, z_36, z_37, z_38, z_39, z_40, z_41, z_42, z_43, z_44, z_45, z_46, z_47, z_48, z_49, z_50, z_51, z_52, z_53, z_54, z_55, z_56, z_57, z_58, z_59, z_60, z_61, z_77, z_91, z_93, z_97, z_100, z_101, z_102, z_103, z_105, z_111, z_114, z_120, z_123, z_125, z_126, z_200, z_245, z_255, z_576, z_585, z_1000, z_2000, z_3510, z_11700, true_implies, false_implies, implies_true, not_true_eq_false, not_false_eq_true, true_and, and_true, false_and, and_false, ↓reduceIte, Int.reduceToNat, Int.reduceNeg, Int.toNat_natCast, l1', enb, g1]
        exact fin _ rfl
      · subst hd
        simp (disch := omega) only [z_add, z_sub, z_mul, z_neg, z_leT, z_leF, z_ltT, z_ltF, z_eqT, z_eqF, z_inT, z_clamp, z_nI, z_0, z_1, z_2, z_3, z_4, z_5, z_6, z_7, z_8, z_9, z_10, z_11, z_12, z_13, z_14, z_15, z_16, z_17, z_18, z_19, z_20, z_21, z_22, z_23, z_24, z_25, z_26, z_27, z_28, z_29, z_30, z_31, z_32, z_33, z_34, z_35, z_36, z_37, z_38, z_39, z_40, z_41, z_42, z_43, z_44, z_45, z_46, z_47, z_48, z_49, z_50, z_51, z_52, z_53, z_54, z_55, z_56, z_57, z_58, z_59, z_60, z_61, z_77, z_91, z_93, z_97, z_100, z_101, z_102, z_103, z_105, z_111, z_114, z_120, z_123, z_125, z_126, z_200, z_245, z_255, z_576, z_585, z_1000, z_2000, z_3510, z_11700, true_implies, false_implies, implies_true, not_true_eq_false, not_false_eq_true, true_and, and_true, false_and, and_false, ↓reduceIte, Int.reduceToNat, Int.reduceNeg, Int.toNat_natCast, l1', enb, g2]
        exact fin _ rfl
      · subst hd
        simp (disch := omega) only [z_add, z_sub, z_mul, z_neg, z_leT, z_leF, z_ltT, z_ltF, z_eqT, z_eqF, z_inT, z_clamp, z_nI, z_0, z_1, z_2, z_3, z_4, z_5, z_6, z_7, z_8, z_9, z_10, z_11, z_12, z_13, z_14, z_15, z_16, z_17, z_18, z_19, z_20, z_21, z_22, z_23, z_24, z_25, z_26, z_27, z_28, z_29, z_30, z_31, z_32, z_33, z_34, z_35, z_36, z_37, z_38, z_39, z_40, z_41, z_42, z_43, z_44, z_45, z_46, z_47, z_48, z_49, z_50, z_51, z_52, z_53, z_54, z_55, z_56, z_57, z_58, z_59, z_60, z_61, z_77, z_91, z_93, z_97, z_100, z_101, z_102, z_103, z_105, z_111, z_114, z_120, z_123, z_125, z_126, z_200, z_245, z_255, z_576, z_585, z_1000, z_2000, z_3510, z_11700, true_implies, false_implies, implies_true, not_true_eq_false, not_false_eq_true, true_and, and_true, false_and, and_false, ↓reduceIte, Int.reduceToNat, Int.reduceNeg, Int.toNat_natCast, l1', enb, g3]
        exact fin _ rfl
    · have f3 := hq _ _ (key M3 _ (fr_mono k1) hC3 (Or.inr (Or.inr (Or.inl ⟨⟨⟨⟨l0, l1⟩, l2, l3⟩, qd⟩, lt, qc, rfl⟩))))
      by_cases q5 : c < 0
      · refine ⟨fun _ => Or.inr (Or.inr f3), fun z => absurd (by rw [z_ltT (by omega)]; trivial) z⟩
      · refine ⟨fun _ => Or.inr (Or.inr f3), fun z => ⟨fun y => ?_, fun _ => Or.inr (Or.inr f3)⟩⟩
        rw [l1', z_ltF (by omega)] at y
        exact y.elim
  · have f3 := hq _ _ (key M _ (fr_rf _ _) hCI (Or.inl ⟨fun y => qd y.2, rfl⟩))
    by_cases q5 : d < 0
    · simp (disch := omega) only [z_add, z_sub, z_mul, z_neg, z_leT, z_leF, z_ltT, z_ltF, z_eqT, z_eqF, z_inT, z_clamp, z_nI, z_0, z_1, z_2, z_3, z_4, z_5, z_6, z_7, z_8, z_9, z_10, z_11, z_12, z_13, z_14, z_15, z_16, z_17, z_18, z_19, z_20, z_21, z_22, z_23, z_24, z_25, z_26, z_27, z_28, z_29, z_30, z_31, z_32, z_33, z_34, z_35, z_36, z_37, z_38, z_39, z_40, z_41, z_42, z_43, z_44, z_45, z_46, z_47, z_48, z_49, z_50, z_51, z_52, z_53, z_54, z_55, z_56, z_57, z_58, z_59, z_60, z_61, z_77, z_91, z_93, z_97, z_100, z_101, z_102, z_103, z_105, z_111, z_114, z_120, z_123, z_125, z_126, z_200, z_245, z_255, z_576, z_585, z_1000, z_2000, z_3510, z_11700, true_implies, false_implies, implies_true, not_true_eq_false, not_false_eq_true, true_and, and_true, false_and, and_false, ↓reduceIte, Int.reduceToNat, Int.reduceNeg, Int.toNat_natCast]
      first | exact Or.inl f3 | exact Or.inr f3 | exact Or.inr (Or.inl f3) | exact Or.inr (Or.inr f3)
    · simp (disch := omega) only [z_add, z_sub, z_mul, z_neg, z_leT, z_leF, z_ltT, z_ltF, z_eqT, z_eqF, z_inT, z_clamp, z_nI, z_0, z_1, z_2, z_3, z_4, z_5, z_6, z_7, z_8, z_9, z_10, z_11, z_12, z_13, z_14, z_15, z_16, z_17, z_18, z_19, z_20, z_21, z_22, z_23, z_24, z_25, z_26, z_27, z_28, z_29, z_30, z_31, z_32, z_33, z_34, z_35, z_36, z_37, z_38, z_39, z_40, z_41, z_42, z_43, z_44, z_45, z_46, z_47, z_48, z_49, z_50, z_51, z_52, z_53, z_54, z_55, z_56, z_57, z_58, z_59, z_60, z_61, z_77, z_91, z_93, z_97, z_100, z_101, z_102, z_103, z_105, z_111, z_114, z_120, z_123, z_125, z_126, z_200, z_245, z_255, z_576, z_585, z_1000, z_2000, z_3510, z_11700, true_implies, false_implies, implies_true, not_true_eq_false, not_false_eq_true, true_and, and_true, false_and, and_false, ↓reduceIte, Int.reduceToNat, Int.reduceNeg, Int.toNat_natCast]
      first | exact Or.inl f3 | exact Or.inr f3 | exact Or.inr (Or.inl f3) | exact Or.inr (Or.inr f3)
