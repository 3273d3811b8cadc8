/-! ===== the reference's groups found, its runs ===== -/
theorem eS_z {S n T : Int} {z : Int → Int} (hz : zok z n) (hn : 0 ≤ n) (hT : isNG z n T) (hS : isSet S z n T) {j : Int} (h0 : 0 ≤ j) (hj : j < T) : eS S n (gs z j) = gs z (j + 1) - 1 := by
  have := isSet_z hz hn hT hS j h0 hj
  rw [gs_s h0]
  unfold zS at this
  omega
def MG (M : jM) (w : Int → Int → Int) (f l : Int) : Prop := M 11 0 29 = zI f ∧ M 11 0 30 = zI l ∧ MSH M w f l
set_option maxHeartbeats 4000000 in
set_option maxRecDepth 100000 in
theorem fg_ok {M0 : jM} {n : Int} {w : Int → Int → Int} {o : Int → Int} {S T l : Int} {z : Int → Int} {Q : Int32 → Nat → jM → Prop} (hG : GH n w o) (hM : MR M0 n w o) (hz : zok z n) (hT : isNG z n T) (hS : isSet S z n T) (hl : 0 ≤ l ∧ l < n)
    (hQ : ∀ M1 j, fm [59] [22, 23, 24, 29, 30] M0 M1 → 0 ≤ j → j < T → gs z j ≤ l → l < gs z (j + 1) → MG M1 w (gs z j) (gs z (j + 1) - 1) → Q (zI j) 0 M1) : ok_X12_findGroup (zI S) (zI l) M0 Q := by
  have hn := hG.1
  have hTn := gs_at hz hn.1 hT hT.1 (Int.le_refl T)
  rw [hT.2.1] at hTn
  have main : ∀ (d : Nat) (j : Int) (v3 : Int32) (M : jM), j + 1 + d = T → 0 ≤ j → v3 = zI j → gs z j ≤ l → fm [59] [22, 23, 24, 29, 30] M0 M → M 11 0 29 = zI (gs z j) → M 11 0 30 = zI (gs z (j + 1) - 1) → at_X12_findGroup_17 (zI S) (zI l) v3 M Q := by
    intro d
    induction d with
    | zero =>
      intro j v3 M hd h0 h3 hj hfr e29 e30
      subst h3
      refine bl_X12_findGroup_17 _ _ _ _ _ ?_
      have b1 := gs_at hz hn.1 hT h0 (by omega)
      have eT : gs z (j + 1) = n := by rw [show j + 1 = T by omega]; exact hT.2.1
      have b3 := hz _ b1.1 (hT.2.2 j h0 (by omega))
      have b4 := gs_s (z := z) h0
      simp (disch := omega) only [z_add, z_sub, z_mul, z_neg, z_leT, z_leF, z_ltT, z_ltF, z_eqT, z_eqF, z_inT, z_clamp, z_nI, z_0, z_1, z_2, z_3, z_4, z_5, z_6, z_7, z_8, z_9, z_10, z_11, z_12, z_13, z_14, z_15, z_16, z_17, z_18, z_19, z_20, z_21, z_22, z_23, z_24, z_25, z_26, z_27, z_28, z_29, z_30, z_31, z_32, z_33, z_34, z_35, z_36, z_37, z_38, z_39, z_40, z_41, z_42, z_43, z_44, z_45, z_46, z_47, z_48, z_49, z_50, z_51, z_52, z_53, z_54, z_55, z_56, z_57, z_58, z_59, z_60, z_61, z_77, z_91, z_93, z_97, z_100, z_101, z_102, z_103, z_105, z_111, z_114, z_120, z_123, z_125, z_126, z_200, z_245, z_255, z_576, z_585, z_1000, z_2000, z_3510, z_11700, true_implies, false_implies, implies_true, not_true_eq_false, not_false_eq_true, true_and, and_true, false_and, and_false, ↓reduceIte, Int.reduceToNat, Int.reduceNeg, Int.toNat_natCast, e29, e30]
      exact ls_ok hG (MR_fm hM hfr) b1.1 (by omega) (by omega) (fun M2 r a1 a2 _ _ => ⟨fm_nb a1, hQ M2 j (fm_tr hfr a1) h0 (by omega) hj (by omega) ⟨by rw [a1.2 29 (by decide)]; exact e29, by rw [a1.2 30 (by decide)]; exact e30, a2⟩⟩)
    | succ d ih =>
      intro j v3 M hd h0 h3 hj hfr e29 e30
      subst h3
      refine bl_X12_findGroup_17 _ _ _ _ _ ?_
      have b1 := gs_at hz hn.1 hT h0 (by omega)
      have b2 := gs_at hz hn.1 hT (show 0 ≤ j + 1 by omega) (by omega)
      have b3 := hz _ b1.1 (hT.2.2 j h0 (by omega))
      have b4 := gs_s (z := z) h0
      by_cases q : l < gs z (j + 1)
      · simp (disch := omega) only [z_add, z_sub, z_mul, z_neg, z_leT, z_leF, z_ltT, z_ltF, z_eqT, z_eqF, z_inT, z_clamp, z_nI, z_0, z_1, z_2, z_3, z_4, z_5, z_6, z_7, z_8, z_9, z_10, z_11, z_12, z_13, z_14, z_15, z_16, z_17, z_18, z_19, z_20, z_21, z_22, z_23, z_24, z_25, z_26, z_27, z_28, z_29, z_30, z_31, z_32, z_33, z_34, z_35, z_36, z_37, z_38, z_39, z_40, z_41, z_42, z_43, z_44, z_45, z_46, z_47, z_48, z_49, z_50, z_51, z_52, z_53, z_54, z_55, z_56, z_57, z_58, z_59, z_60, z_61, z_77, z_91, z_93, z_97, z_100, z_101, z_102, z_103, z_105, z_111, z_114, z_120, z_123, z_125, z_126, z_200, z_245, z_255, z_576, z_585, z_1000, z_2000, z_3510, z_11700, true_implies, false_implies, implies_true, not_true_eq_false, not_false_eq_true, true_and, and_true, false_and, and_false, ↓reduceIte, Int.reduceToNat, Int.reduceNeg, Int.toNat_natCast, e29, e30]
        exact ls_ok hG (MR_fm hM hfr) b1.1 (by omega) (by omega) (fun M2 r a1 a2 _ _ => ⟨fm_nb a1, hQ M2 j (fm_tr hfr a1) h0 (by omega) hj q ⟨by rw [a1.2 29 (by decide)]; exact e29, by rw [a1.2 30 (by decide)]; exact e30, a2⟩⟩)
      · simp (disch := omega) only [z_add, z_sub, z_mul, z_neg, z_leT, z_leF, z_ltT, z_ltF, z_eqT, z_eqF, z_inT, z_clamp, z_nI, z_0, z_1, z_2, z_3, z_4, z_5, z_6, z_7, z_8, z_9, z_10, z_11, z_12, z_13, z_14, z_15, z_16, z_17, z_18, z_19, z_20, z_21, z_22, z_23, z_24, z_25, z_26, z_27, z_28, z_29, z_30, z_31, z_32, z_33, z_34, z_35, z_36, z_37, z_38, z_39, z_40, z_41, z_42, z_43, z_44, z_45, z_46, z_47, z_48, z_49, z_50, z_51, z_52, z_53, z_54, z_55, z_56, z_57, z_58, z_59, z_60, z_61, z_77, z_91, z_93, z_97, z_100, z_101, z_102, z_103, z_105, z_111, z_114, z_120, z_123, z_125, z_126, z_200, z_245, z_255, z_576, z_585, z_1000, z_2000, z_3510, z_11700, true_implies, false_implies, implies_true, not_true_eq_false, not_false_eq_true, true_and, and_true, false_and, and_false, ↓reduceIte, Int.reduceToNat, Int.reduceNeg, Int.toNat_natCast, e29, e30]
        rintro M3 rfl
        have b5 := hT.2.2 (j + 1) (by omega) (by omega)
        have e0 : jup M 11 0 29 (zI (gs z (j + 1) - 1 + 1)) 11 0 0 = zI n := by rw [jup_ne (by omega)]; exact (MR_fm hM hfr).1
        rw [jup_self, show gs z (j + 1) - 1 + 1 = gs z (j + 1) by omega] at *
        refine eo_ok hn.2 e0 hS.1 ⟨b2.1, b5⟩ ⟨rfl, ?_⟩
        rintro M6 rfl
        rw [eS_z hz hn.1 hT hS (by omega) (by omega)]
        refine ih (j + 1) _ _ (by omega) (by omega) rfl (by omega) (fm_f (fm_f hfr)) ?_ ?_
        · rw [jup_ne (by omega), jup_self]
        · rw [jup_self]
  have hT1 : 1 ≤ T := by
    by_cases e : T = 0
    · have := hT.2.1
      rw [e, gs_0] at this
      omega
    · have := hT.1; omega
  refine en_X12_findGroup (bl_X12_findGroup_0 _ _ _ _ ?_)
  rintro M1 rfl
  have e0 : jup M0 11 0 29 0 11 0 0 = zI n := by rw [jup_ne (by omega)]; exact hM.1
  rw [z_0] at e0 ⊢
  refine eo_ok hn.2 e0 hS.1 ⟨by omega, by omega⟩ ⟨rfl, ?_⟩
  rintro M4 rfl
  have eE := eS_z hz hn.1 hT hS (j := 0) (by omega) (by omega)
  rw [gs_0] at eE
  rw [eE]
  refine main (T - 1).toNat 0 _ _ (by omega) (by omega) rfl (by rw [gs_0]; omega) (fm_f (fm_f (fm_rf _ _ _))) ?_ ?_
  · rw [jup_ne (by omega), jup_self, gs_0]
  · rw [jup_self]
set_option maxHeartbeats 4000000 in
set_option maxRecDepth 100000 in
theorem fn_ok {M0 : jM} {n : Int} {w : Int → Int → Int} {o : Int → Int} {S T g : Int} {z : Int → Int} {Q : Int32 → Nat → jM → Prop} (hG : GH n w o) (hM : MR M0 n w o) (hz : zok z n) (hT : isNG z n T) (hS : isSet S z n T) (hg : -2147483648 ≤ g ∧ g < 2147483648)
    (hQ1 : ∀ M1, fm [59] [22, 23, 24, 29, 30] M0 M1 → 0 ≤ g → g < T → MG M1 w (gs z g) (gs z (g + 1) - 1) → Q 1 0 M1) (hQ0 : ¬ (0 ≤ g ∧ g < T) → Q 0 0 M0) : ok_X12_findNumbered (zI S) (zI g) M0 Q := by
  have hn := hG.1
  have e0 := hM.1
  have hTn := gs_at hz hn.1 hT hT.1 (Int.le_refl T)
  rw [hT.2.1] at hTn
  have fin : 0 ≤ g → g < T → ok_X12_findGroup (zI S) (zI (gs z g)) M0 (fun r1 _ M2 => jnb M2 = jnb M0 ∧ Q 1 0 M2) := fun g0 g1 => by
    have b1 := gs_at hz hn.1 hT g0 (by omega)
    refine fg_ok hG hM hz hT hS ⟨b1.1, hT.2.2 g g0 g1⟩ (fun M1 j a1 a2 a3 a4 a5 a6 => ⟨fm_nb a1, ?_⟩)
    have ej : j = g := by
      by_cases q : j < g
      · have := gs_mono hz hn.1 hT (show 0 ≤ j + 1 by omega) (g - (j + 1)).toNat (by omega)
        rw [show j + 1 + ((g - (j + 1)).toNat : Int) = g by omega] at this
        omega
      · by_cases q2 : g < j
        · have := gs_mono hz hn.1 hT g0 (j - g).toNat (by omega)
          rw [show g + ((j - g).toNat : Int) = j by omega] at this
          omega
        · omega
    rw [ej] at a6
    exact hQ1 M1 a1 g0 g1 a6
  have main : ∀ (d : Nat) (k : Int) (v3 v4 : Int32), k + d = max 0 (min g T) → 0 ≤ k → v3 = zI (gs z k) → v4 = zI k → at_X12_findNumbered_5 (zI S) (zI g) v3 v4 M0 Q := by
    intro d
    induction d with
    | zero =>
      intro k v3 v4 hd h0 h3 h4
      subst h3 h4
      refine bl_X12_findNumbered_5 _ _ _ _ _ _ ?_
      by_cases q0 : g < 0
      · have hq := hQ0 (by omega)
        rw [z_0] at hq
        simp (disch := omega) only [z_add, z_sub, z_mul, z_neg, z_leT, z_leF, z_ltT, z_ltF, z_eqT, z_eqF, z_inT, z_clamp, z_nI, z_0, z_1, z_2, z_3, z_4, z_5, z_6, z_7, z_8, z_9, z_10, z_11, z_12, z_13, z_14, z_15, z_16, z_17, z_18, z_19, z_20, z_21, z_22, z_23, z_24, z_25, z_26, z_27, z_28, z_29, z_30, z_31, z_32, z_33, z_34, z_35, z_36, z_37, z_38, z_39, z_40, z_41, z_42, z_43, z_44, z_45, z_46, z_47, z_48, z_49, z_50, z_51, z_52, z_53, z_54, z_55, z_56, z_57, z_58, z_59, z_60, z_61, z_77, z_91, z_93, z_97, z_100, z_101, z_102, z_103, z_105, z_111, z_114, z_120, z_123, z_125, z_126, z_200, z_245, z_255, z_576, z_585, z_1000, z_2000, z_3510, z_11700, true_implies, false_implies, implies_true, not_true_eq_false, not_false_eq_true, true_and, and_true, false_and, and_false, ↓reduceIte, Int.reduceToNat, Int.reduceNeg, Int.toNat_natCast]
        exact hq
      · by_cases q1 : g < T
        · have f := fin (by omega) q1
          have b1 := gs_at hz hn.1 hT (show 0 ≤ g by omega) (by omega)
          have b2 := hT.2.2 g (by omega) q1
          have ek : k = g := by omega
          subst ek
          rw [z_1] at f
          simp (disch := omega) only [z_add, z_sub, z_mul, z_neg, z_leT, z_leF, z_ltT, z_ltF, z_eqT, z_eqF, z_inT, z_clamp, z_nI, z_0, z_1, z_2, z_3, z_4, z_5, z_6, z_7, z_8, z_9, z_10, z_11, z_12, z_13, z_14, z_15, z_16, z_17, z_18, z_19, z_20, z_21, z_22, z_23, z_24, z_25, z_26, z_27, z_28, z_29, z_30, z_31, z_32, z_33, z_34, z_35, z_36, z_37, z_38, z_39, z_40, z_41, z_42, z_43, z_44, z_45, z_46, z_47, z_48, z_49, z_50, z_51, z_52, z_53, z_54, z_55, z_56, z_57, z_58, z_59, z_60, z_61, z_77, z_91, z_93, z_97, z_100, z_101, z_102, z_103, z_105, z_111, z_114, z_120, z_123, z_125, z_126, z_200, z_245, z_255, z_576, z_585, z_1000, z_2000, z_3510, z_11700, true_implies, false_implies, implies_true, not_true_eq_false, not_false_eq_true, true_and, and_true, false_and, and_false, ↓reduceIte, Int.reduceToNat, Int.reduceNeg, Int.toNat_natCast, e0]
          exact f
        · have hq := hQ0 (by omega)
          have ek : k = T := by have := hT.1; omega
          rw [z_0] at hq
          rw [ek, hT.2.1]
          by_cases q3 : g = T
          · rw [q3]
            simp (disch := omega) only [z_add, z_sub, z_mul, z_neg, z_leT, z_leF, z_ltT, z_ltF, z_eqT, z_eqF, z_inT, z_clamp, z_nI, z_0, z_1, z_2, z_3, z_4, z_5, z_6, z_7, z_8, z_9, z_10, z_11, z_12, z_13, z_14, z_15, z_16, z_17, z_18, z_19, z_20, z_21, z_22, z_23, z_24, z_25, z_26, z_27, z_28, z_29, z_30, z_31, z_32, z_33, z_34, z_35, z_36, z_37, z_38, z_39, z_40, z_41, z_42, z_43, z_44, z_45, z_46, z_47, z_48, z_49, z_50, z_51, z_52, z_53, z_54, z_55, z_56, z_57, z_58, z_59, z_60, z_61, z_77, z_91, z_93, z_97, z_100, z_101, z_102, z_103, z_105, z_111, z_114, z_120, z_123, z_125, z_126, z_200, z_245, z_255, z_576, z_585, z_1000, z_2000, z_3510, z_11700, true_implies, false_implies, implies_true, not_true_eq_false, not_false_eq_true, true_and, and_true, false_and, and_false, ↓reduceIte, Int.reduceToNat, Int.reduceNeg, Int.toNat_natCast, e0]
            exact hq
          · simp (disch := omega) only [z_add, z_sub, z_mul, z_neg, z_leT, z_leF, z_ltT, z_ltF, z_eqT, z_eqF, z_inT, z_clamp, z_nI, z_0, z_1, z_2, z_3, z_4, z_5, z_6, z_7, z_8, z_9, z_10, z_11, z_12, z_13, z_14, z_15, z_16, z_17, z_18, z_19, z_20, z_21, z_22, z_23, z_24, z_25, z_26, z_27, z_28, z_29, z_30, z_31, z_32, z_33, z_34, z_35, z_36, z_37, z_38, z_39, z_40, z_41, z_42, z_43, z_44, z_45, z_46, z_47, z_48, z_49, z_50, z_51, z_52, z_53, z_54, z_55, z_56, z_57, z_58, z_59, z_60, z_61, z_77, z_91, z_93, z_97, z_100, z_101, z_102, z_103, z_105, z_111, z_114, z_120, z_123, z_125, z_126, z_200, z_245, z_255, z_576, z_585, z_1000, z_2000, z_3510, z_11700, true_implies, false_implies, implies_true, not_true_eq_false, not_false_eq_true, true_and, and_true, false_and, and_false, ↓reduceIte, Int.reduceToNat, Int.reduceNeg, Int.toNat_natCast, e0]
            exact hq
    | succ d ih =>
      intro k v3 v4 hd h0 h3 h4
      subst h3 h4
      refine bl_X12_findNumbered_5 _ _ _ _ _ _ ?_
      have b1 := gs_at hz hn.1 hT h0 (by omega)
      have b2 := hT.2.2 k h0 (by omega)
      simp (disch := omega) only [z_add, z_sub, z_mul, z_neg, z_leT, z_leF, z_ltT, z_ltF, z_eqT, z_eqF, z_inT, z_clamp, z_nI, z_0, z_1, z_2, z_3, z_4, z_5, z_6, z_7, z_8, z_9, z_10, z_11, z_12, z_13, z_14, z_15, z_16, z_17, z_18, z_19, z_20, z_21, z_22, z_23, z_24, z_25, z_26, z_27, z_28, z_29, z_30, z_31, z_32, z_33, z_34, z_35, z_36, z_37, z_38, z_39, z_40, z_41, z_42, z_43, z_44, z_45, z_46, z_47, z_48, z_49, z_50, z_51, z_52, z_53, z_54, z_55, z_56, z_57, z_58, z_59, z_60, z_61, z_77, z_91, z_93, z_97, z_100, z_101, z_102, z_103, z_105, z_111, z_114, z_120, z_123, z_125, z_126, z_200, z_245, z_255, z_576, z_585, z_1000, z_2000, z_3510, z_11700, true_implies, false_implies, implies_true, not_true_eq_false, not_false_eq_true, true_and, and_true, false_and, and_false, ↓reduceIte, Int.reduceToNat, Int.reduceNeg, Int.toNat_natCast, e0]
      refine eo_ok hn.2 e0 hS.1 ⟨b1.1, b2⟩ ⟨rfl, ?_⟩
      rw [eS_z hz hn.1 hT hS h0 (by omega)]
      exact ih (k + 1) _ _ (by omega) (by omega) (by rw [z_add]; exact zc (by omega)) rfl
  refine en_X12_findNumbered (bl_X12_findNumbered_0 _ _ _ _ ?_)
  exact main (max 0 (min g T)).toNat 0 _ _ (by omega) (by omega) (by rw [gs_0]; exact z_0) z_0
theorem mf_ok {M0 : jM} {n : Int} {w : Int → Int → Int} {o : Int → Int} {f l : Int} {Q : Int32 → Nat → jM → Prop} (hG : GH n w o) (hM : MR M0 n w o) (hS : MG M0 w f l) (hf : 0 ≤ f) (hfl : f ≤ l) (hl : l < n) (hQ : Q (zI (mF w f (l - f + 1))) 0 M0) : ok_X12_mainFirst M0 Q := by
  have hn := hG.1
  obtain ⟨e29, e30, hs⟩ := hS
  have main : ∀ (d : Nat) (k : Int) (v1 v2 : Int32), k + d = l - f + 1 → 0 ≤ k → v1 = zI (mF w f k) → v2 = zI (f + k) → at_X12_mainFirst_9 v1 v2 M0 Q := by
    intro d
    induction d with
    | zero =>
      intro k v1 v2 hd h0 h4 h5
      subst h4 h5
      refine bl_X12_mainFirst_9 _ _ _ _ ?_
      rw [show l - f + 1 = k by omega] at hQ
      simp (disch := omega) only [z_add, z_sub, z_mul, z_neg, z_leT, z_leF, z_ltT, z_ltF, z_eqT, z_eqF, z_inT, z_clamp, z_nI, z_0, z_1, z_2, z_3, z_4, z_5, z_6, z_7, z_8, z_9, z_10, z_11, z_12, z_13, z_14, z_15, z_16, z_17, z_18, z_19, z_20, z_21, z_22, z_23, z_24, z_25, z_26, z_27, z_28, z_29, z_30, z_31, z_32, z_33, z_34, z_35, z_36, z_37, z_38, z_39, z_40, z_41, z_42, z_43, z_44, z_45, z_46, z_47, z_48, z_49, z_50, z_51, z_52, z_53, z_54, z_55, z_56, z_57, z_58, z_59, z_60, z_61, z_77, z_91, z_93, z_97, z_100, z_101, z_102, z_103, z_105, z_111, z_114, z_120, z_123, z_125, z_126, z_200, z_245, z_255, z_576, z_585, z_1000, z_2000, z_3510, z_11700, true_implies, false_implies, implies_true, not_true_eq_false, not_false_eq_true, true_and, and_true, false_and, and_false, ↓reduceIte, Int.reduceToNat, Int.reduceNeg, Int.toNat_natCast, e30]
      exact hQ
    | succ d ih =>
      intro k v1 v2 hd h0 h4 h5
      subst h4 h5
      refine bl_X12_mainFirst_9 _ _ _ _ ?_
      have hR := MR_RW hM (show 0 ≤ f + k by omega) (by omega)
      unfold RW at hR
      have s1 := hs (f + k) (by omega) (by omega)
      have i1 := sh_in hG hf (show f ≤ f + k by omega) (show f + k < n by omega)
      have hw := (hG.2.2 (f + k) (by omega) (by omega)).1
      have i2 := st_in hG hf h0 (show f + k ≤ n by omega)
      simp (disch := omega) only [z_add, z_sub, z_mul, z_neg, z_leT, z_leF, z_ltT, z_ltF, z_eqT, z_eqF, z_inT, z_clamp, z_nI, z_0, z_1, z_2, z_3, z_4, z_5, z_6, z_7, z_8, z_9, z_10, z_11, z_12, z_13, z_14, z_15, z_16, z_17, z_18, z_19, z_20, z_21, z_22, z_23, z_24, z_25, z_26, z_27, z_28, z_29, z_30, z_31, z_32, z_33, z_34, z_35, z_36, z_37, z_38, z_39, z_40, z_41, z_42, z_43, z_44, z_45, z_46, z_47, z_48, z_49, z_50, z_51, z_52, z_53, z_54, z_55, z_56, z_57, z_58, z_59, z_60, z_61, z_77, z_91, z_93, z_97, z_100, z_101, z_102, z_103, z_105, z_111, z_114, z_120, z_123, z_125, z_126, z_200, z_245, z_255, z_576, z_585, z_1000, z_2000, z_3510, z_11700, true_implies, false_implies, implies_true, not_true_eq_false, not_false_eq_true, true_and, and_true, false_and, and_false, ↓reduceIte, Int.reduceToNat, Int.reduceNeg, Int.toNat_natCast, e30, hR, s1, z_max]
      exact ih (k + 1) _ _ (by omega) (by omega) (by rw [mF_s h0]) (zc (by omega))
  refine en_X12_mainFirst (bl_X12_mainFirst_0 _ _ ?_)
  exact main (l - f + 1).toNat 0 _ _ (by omega) (by omega) (by rw [mF_0]; decide) (by rw [e29]; exact zc (by omega))
theorem ml_ok {M0 : jM} {n : Int} {w : Int → Int → Int} {o : Int → Int} {f l : Int} {Q : Int32 → Nat → jM → Prop} (hG : GH n w o) (hM : MR M0 n w o) (hS : MG M0 w f l) (hf : 0 ≤ f) (hfl : f ≤ l) (hl : l < n) (hQ : Q (zI (mL w f (l - f + 1))) 0 M0) : ok_X12_mainLast M0 Q := by
  have hn := hG.1
  obtain ⟨e29, e30, hs⟩ := hS
  have main : ∀ (d : Nat) (k : Int) (v1 v2 : Int32), k + d = l - f + 1 → 0 ≤ k → v1 = zI (mL w f k) → v2 = zI (f + k) → at_X12_mainLast_9 v1 v2 M0 Q := by
    intro d
    induction d with
    | zero =>
      intro k v1 v2 hd h0 h4 h5
      subst h4 h5
      refine bl_X12_mainLast_9 _ _ _ _ ?_
      rw [show l - f + 1 = k by omega] at hQ
      simp (disch := omega) only [z_add, z_sub, z_mul, z_neg, z_leT, z_leF, z_ltT, z_ltF, z_eqT, z_eqF, z_inT, z_clamp, z_nI, z_0, z_1, z_2, z_3, z_4, z_5, z_6, z_7, z_8, z_9, z_10, z_11, z_12, z_13, z_14, z_15, z_16, z_17, z_18, z_19, z_20, z_21, z_22, z_23, z_24, z_25, z_26, z_27, z_28, z_29, z_30, z_31, z_32, z_33, z_34, z_35, z_36, z_37, z_38, z_39, z_40, z_41, z_42, z_43, z_44, z_45, z_46, z_47, z_48, z_49, z_50, z_51, z_52, z_53, z_54, z_55, z_56, z_57, z_58, z_59, z_60, z_61, z_77, z_91, z_93, z_97, z_100, z_101, z_102, z_103, z_105, z_111, z_114, z_120, z_123, z_125, z_126, z_200, z_245, z_255, z_576, z_585, z_1000, z_2000, z_3510, z_11700, true_implies, false_implies, implies_true, not_true_eq_false, not_false_eq_true, true_and, and_true, false_and, and_false, ↓reduceIte, Int.reduceToNat, Int.reduceNeg, Int.toNat_natCast, e30]
      exact hQ
    | succ d ih =>
      intro k v1 v2 hd h0 h4 h5
      subst h4 h5
      refine bl_X12_mainLast_9 _ _ _ _ ?_
      have hR := MR_RW hM (show 0 ≤ f + k by omega) (by omega)
      unfold RW at hR
      have s1 := hs (f + k) (by omega) (by omega)
      have i1 := sh_in hG hf (show f ≤ f + k by omega) (show f + k < n by omega)
      have hw := (hG.2.2 (f + k) (by omega) (by omega)).1
      have i2 := st_in hG hf h0 (show f + k ≤ n by omega)
      simp (disch := omega) only [z_add, z_sub, z_mul, z_neg, z_leT, z_leF, z_ltT, z_ltF, z_eqT, z_eqF, z_inT, z_clamp, z_nI, z_0, z_1, z_2, z_3, z_4, z_5, z_6, z_7, z_8, z_9, z_10, z_11, z_12, z_13, z_14, z_15, z_16, z_17, z_18, z_19, z_20, z_21, z_22, z_23, z_24, z_25, z_26, z_27, z_28, z_29, z_30, z_31, z_32, z_33, z_34, z_35, z_36, z_37, z_38, z_39, z_40, z_41, z_42, z_43, z_44, z_45, z_46, z_47, z_48, z_49, z_50, z_51, z_52, z_53, z_54, z_55, z_56, z_57, z_58, z_59, z_60, z_61, z_77, z_91, z_93, z_97, z_100, z_101, z_102, z_103, z_105, z_111, z_114, z_120, z_123, z_125, z_126, z_200, z_245, z_255, z_576, z_585, z_1000, z_2000, z_3510, z_11700, true_implies, false_implies, implies_true, not_true_eq_false, not_false_eq_true, true_and, and_true, false_and, and_false, ↓reduceIte, Int.reduceToNat, Int.reduceNeg, Int.toNat_natCast, e30, hR, s1, z_min]
      exact ih (k + 1) _ _ (by omega) (by omega) (by rw [mL_s h0]) (zc (by omega))
  refine en_X12_mainLast (bl_X12_mainLast_0 _ _ ?_)
  exact main (l - f + 1).toNat 0 _ _ (by omega) (by omega) (by rw [mL_0]; exact z_1000) (by rw [e29]; exact zc (by omega))
theorem tgt_mono {v : Int → Int} {s : Int} (hO : OKL v) (h0 : 0 ≤ s) (hs : s + 1 < v 3) : tgt v s < tgt v (s + 1) := by
  obtain ⟨rs, h1, h2, hu⟩ := hO.2.2.2.2
  obtain ⟨a1, a2, a3, a4⟩ := h1 s h0 (by omega)
  obtain ⟨b1, b2, b3, b4⟩ := h1 (s + 1) (by omega) hs
  rw [tgt_eq hO ⟨a1, a2⟩ a3 a4, tgt_eq hO ⟨b1, b2⟩ b3 b4]
  exact h2 s h0 hs
set_option maxHeartbeats 4000000 in
set_option maxRecDepth 100000 in
theorem mi_ok {M0 : jM} {n : Int} {w : Int → Int → Int} {o : Int → Int} {l i : Int} {Q : Int32 → Nat → jM → Prop} (hG : GH n w o) (hM : MR M0 n w o) (hl : 0 ≤ l ∧ l < n) (hi : 0 ≤ i ∧ i ≤ 30) (hQ : ∀ M1, fm [57, 58] [] M0 M1 → M1 58 0 = exB (w l) i (w l 3) (M0 58 0) → Q 0 0 M1) : ok_X12_iterates (zI l) (zI i) M0 Q := by
  have hn := hG.1
  have hO := hG.2.2 l hl.1 hl.2
  have h3 := hO.2.1
  have search : ∀ (s : Int), 0 ≤ s → s < w l 3 → (∀ M1, fm [57, 58] [] M0 M1 → M1 58 0 = exB (w l) i (s + 1) (M0 58 0) → at_X12_iterates_5 (zI l) (zI i) (zI (tgt (w l) s)) (zI (s + 1)) M1 Q) →
      ∀ (d : Nat) (r : Int) (v3 : Int32) (M : jM), r + d = tgt (w l) s → 0 ≤ r → v3 = zI r → fm [57, 58] [] M0 M → M 58 0 = exB (w l) i s (M0 58 0) → at_X12_iterates_16 (zI l) (zI i) v3 (zI s) M Q := by
    intro s s0 s1 hout d
    obtain ⟨t1, t2, t3, t4⟩ := tgt_in hO ⟨s0, s1⟩
    obtain ⟨⟨m1, m2⟩, ⟨m3, m4⟩, _⟩ := hO.2.2.1 (tgt (w l) s) t1 t2
    have hpl : plc (w l) (tgt (w l) s) = 49 * w l (5 + tgt (w l) s) + (w l (29 + tgt (w l) s) + 9) := rfl
    induction d with
    | zero =>
      intro r v3 M hd r0 hv hfr hC
      subst hv
      refine bl_X12_iterates_16 _ _ _ _ _ _ ?_
      have er : r = tgt (w l) s := by omega
      subst er
      have hM' := MR_fm hM hfr
      have hR := MR_RW hM' hl.1 hl.2
      unfold RW at hR
      simp (disch := omega) only [z_add, z_sub, z_mul, z_neg, z_leT, z_leF, z_ltT, z_ltF, z_eqT, z_eqF, z_inT, z_clamp, z_nI, z_0, z_1, z_2, z_3, z_4, z_5, z_6, z_7, z_8, z_9, z_10, z_11, z_12, z_13, z_14, z_15, z_16, z_17, z_18, z_19, z_20, z_21, z_22, z_23, z_24, z_25, z_26, z_27, z_28, z_29, z_30, z_31, z_32, z_33, z_34, z_35, z_36, z_37, z_38, z_39, z_40, z_41, z_42, z_43, z_44, z_45, z_46, z_47, z_48, z_49, z_50, z_51, z_52, z_53, z_54, z_55, z_56, z_57, z_58, z_59, z_60, z_61, z_77, z_91, z_93, z_97, z_100, z_101, z_102, z_103, z_105, z_111, z_114, z_120, z_123, z_125, z_126, z_200, z_245, z_255, z_576, z_585, z_1000, z_2000, z_3510, z_11700, true_implies, false_implies, implies_true, not_true_eq_false, not_false_eq_true, true_and, and_true, false_and, and_false, ↓reduceIte, Int.reduceToNat, Int.reduceNeg, Int.toNat_natCast, hR, t3, t4]
      refine vo_ok hM' hG hl ⟨s0, s1⟩ hi (fun M1 c1 => ⟨fr_nb c1, ?_⟩)
      simp (disch := omega) only [z_add, z_sub, z_mul, z_neg, z_leT, z_leF, z_ltT, z_ltF, z_eqT, z_eqF, z_inT, z_clamp, z_nI, z_0, z_1, z_2, z_3, z_4, z_5, z_6, z_7, z_8, z_9, z_10, z_11, z_12, z_13, z_14, z_15, z_16, z_17, z_18, z_19, z_20, z_21, z_22, z_23, z_24, z_25, z_26, z_27, z_28, z_29, z_30, z_31, z_32, z_33, z_34, z_35, z_36, z_37, z_38, z_39, z_40, z_41, z_42, z_43, z_44, z_45, z_46, z_47, z_48, z_49, z_50, z_51, z_52, z_53, z_54, z_55, z_56, z_57, z_58, z_59, z_60, z_61, z_77, z_91, z_93, z_97, z_100, z_101, z_102, z_103, z_105, z_111, z_114, z_120, z_123, z_125, z_126, z_200, z_245, z_255, z_576, z_585, z_1000, z_2000, z_3510, z_11700, true_implies, false_implies, implies_true, not_true_eq_false, not_false_eq_true, true_and, and_true, false_and, and_false, ↓reduceIte, Int.reduceToNat, Int.reduceNeg, Int.toNat_natCast]
      rintro M13 rfl
      refine hout _ (fm_up (fm_tr hfr (fr_fm c1 (F := [])))) ?_
      rw [upC_M, c1 58 (by decide), exB_s s0, hC]
      unfold exS
      rw [hpl, show 49 * w l (5 + tgt (w l) s) + i + w l (29 + tgt (w l) s) + 9 = 49 * w l (5 + tgt (w l) s) + (w l (29 + tgt (w l) s) + 9) + i by omega]
      first | rfl | rw [z_0]
    | succ d ih =>
      intro r v3 M hd r0 hv hfr hC
      subst hv
      refine bl_X12_iterates_16 _ _ _ _ _ _ ?_
      have hM' := MR_fm hM hfr
      have hR := MR_RW hM' hl.1 hl.2
      unfold RW at hR
      have next := ih (r + 1) _ M (by omega) (by omega) rfl hfr hC
      obtain ⟨_, _, m5, m6, m7⟩ := hO.2.2.1 r r0 (by omega)
      by_cases q : w l (53 + r) = 1
      · have q2 : w l (77 + r) ≠ s := fun z => by
          have := tgt_eq hO ⟨r0, by omega⟩ q z
          omega
        by_cases q3 : w l (77 + r) < s
        · simp (disch := omega) only [z_add, z_sub, z_mul, z_neg, z_leT, z_leF, z_ltT, z_ltF, z_eqT, z_eqF, z_inT, z_clamp, z_nI, z_0, z_1, z_2, z_3, z_4, z_5, z_6, z_7, z_8, z_9, z_10, z_11, z_12, z_13, z_14, z_15, z_16, z_17, z_18, z_19, z_20, z_21, z_22, z_23, z_24, z_25, z_26, z_27, z_28, z_29, z_30, z_31, z_32, z_33, z_34, z_35, z_36, z_37, z_38, z_39, z_40, z_41, z_42, z_43, z_44, z_45, z_46, z_47, z_48, z_49, z_50, z_51, z_52, z_53, z_54, z_55, z_56, z_57, z_58, z_59, z_60, z_61, z_77, z_91, z_93, z_97, z_100, z_101, z_102, z_103, z_105, z_111, z_114, z_120, z_123, z_125, z_126, z_200, z_245, z_255, z_576, z_585, z_1000, z_2000, z_3510, z_11700, true_implies, false_implies, implies_true, not_true_eq_false, not_false_eq_true, true_and, and_true, false_and, and_false, ↓reduceIte, Int.reduceToNat, Int.reduceNeg, Int.toNat_natCast, hR, q]
          exact next
        · simp (disch := omega) only [z_add, z_sub, z_mul, z_neg, z_leT, z_leF, z_ltT, z_ltF, z_eqT, z_eqF, z_inT, z_clamp, z_nI, z_0, z_1, z_2, z_3, z_4, z_5, z_6, z_7, z_8, z_9, z_10, z_11, z_12, z_13, z_14, z_15, z_16, z_17, z_18, z_19, z_20, z_21, z_22, z_23, z_24, z_25, z_26, z_27, z_28, z_29, z_30, z_31, z_32, z_33, z_34, z_35, z_36, z_37, z_38, z_39, z_40, z_41, z_42, z_43, z_44, z_45, z_46, z_47, z_48, z_49, z_50, z_51, z_52, z_53, z_54, z_55, z_56, z_57, z_58, z_59, z_60, z_61, z_77, z_91, z_93, z_97, z_100, z_101, z_102, z_103, z_105, z_111, z_114, z_120, z_123, z_125, z_126, z_200, z_245, z_255, z_576, z_585, z_1000, z_2000, z_3510, z_11700, true_implies, false_implies, implies_true, not_true_eq_false, not_false_eq_true, true_and, and_true, false_and, and_false, ↓reduceIte, Int.reduceToNat, Int.reduceNeg, Int.toNat_natCast, hR, q]
          exact next
      · have q2 : w l (53 + r) = 0 := by omega
        simp (disch := omega) only [z_add, z_sub, z_mul, z_neg, z_leT, z_leF, z_ltT, z_ltF, z_eqT, z_eqF, z_inT, z_clamp, z_nI, z_0, z_1, z_2, z_3, z_4, z_5, z_6, z_7, z_8, z_9, z_10, z_11, z_12, z_13, z_14, z_15, z_16, z_17, z_18, z_19, z_20, z_21, z_22, z_23, z_24, z_25, z_26, z_27, z_28, z_29, z_30, z_31, z_32, z_33, z_34, z_35, z_36, z_37, z_38, z_39, z_40, z_41, z_42, z_43, z_44, z_45, z_46, z_47, z_48, z_49, z_50, z_51, z_52, z_53, z_54, z_55, z_56, z_57, z_58, z_59, z_60, z_61, z_77, z_91, z_93, z_97, z_100, z_101, z_102, z_103, z_105, z_111, z_114, z_120, z_123, z_125, z_126, z_200, z_245, z_255, z_576, z_585, z_1000, z_2000, z_3510, z_11700, true_implies, false_implies, implies_true, not_true_eq_false, not_false_eq_true, true_and, and_true, false_and, and_false, ↓reduceIte, Int.reduceToNat, Int.reduceNeg, Int.toNat_natCast, hR, q2]
        exact next
  have main : ∀ (d : Nat) (s r : Int) (v3 v4 : Int32) (M : jM), s + d = w l 3 → 0 ≤ s → v4 = zI s → v3 = zI r → 0 ≤ r → (s < w l 3 → r ≤ tgt (w l) s) → fm [57, 58] [] M0 M → M 58 0 = exB (w l) i s (M0 58 0) → at_X12_iterates_5 (zI l) (zI i) v3 v4 M Q := by
    intro d
    induction d with
    | zero =>
      intro s r v3 v4 M hd s0 hv4 hv3 r0 hr hfr hC
      subst hv3 hv4
      refine bl_X12_iterates_5 _ _ _ _ _ _ ?_
      have hR := MR_RW (MR_fm hM hfr) hl.1 hl.2
      unfold RW at hR
      have es : s = w l 3 := by omega
      rw [es] at hC
      simp (disch := omega) only [z_add, z_sub, z_mul, z_neg, z_leT, z_leF, z_ltT, z_ltF, z_eqT, z_eqF, z_inT, z_clamp, z_nI, z_0, z_1, z_2, z_3, z_4, z_5, z_6, z_7, z_8, z_9, z_10, z_11, z_12, z_13, z_14, z_15, z_16, z_17, z_18, z_19, z_20, z_21, z_22, z_23, z_24, z_25, z_26, z_27, z_28, z_29, z_30, z_31, z_32, z_33, z_34, z_35, z_36, z_37, z_38, z_39, z_40, z_41, z_42, z_43, z_44, z_45, z_46, z_47, z_48, z_49, z_50, z_51, z_52, z_53, z_54, z_55, z_56, z_57, z_58, z_59, z_60, z_61, z_77, z_91, z_93, z_97, z_100, z_101, z_102, z_103, z_105, z_111, z_114, z_120, z_123, z_125, z_126, z_200, z_245, z_255, z_576, z_585, z_1000, z_2000, z_3510, z_11700, true_implies, false_implies, implies_true, not_true_eq_false, not_false_eq_true, true_and, and_true, false_and, and_false, ↓reduceIte, Int.reduceToNat, Int.reduceNeg, Int.toNat_natCast, hR]
      exact hQ M hfr hC
    | succ d ih =>
      intro s r v3 v4 M hd s0 hv4 hv3 r0 hr hfr hC
      subst hv3 hv4
      refine bl_X12_iterates_5 _ _ _ _ _ _ ?_
      have hR := MR_RW (MR_fm hM hfr) hl.1 hl.2
      unfold RW at hR
      have t := tgt_in hO ⟨s0, show s < w l 3 by omega⟩
      simp (disch := omega) only [z_add, z_sub, z_mul, z_neg, z_leT, z_leF, z_ltT, z_ltF, z_eqT, z_eqF, z_inT, z_clamp, z_nI, z_0, z_1, z_2, z_3, z_4, z_5, z_6, z_7, z_8, z_9, z_10, z_11, z_12, z_13, z_14, z_15, z_16, z_17, z_18, z_19, z_20, z_21, z_22, z_23, z_24, z_25, z_26, z_27, z_28, z_29, z_30, z_31, z_32, z_33, z_34, z_35, z_36, z_37, z_38, z_39, z_40, z_41, z_42, z_43, z_44, z_45, z_46, z_47, z_48, z_49, z_50, z_51, z_52, z_53, z_54, z_55, z_56, z_57, z_58, z_59, z_60, z_61, z_77, z_91, z_93, z_97, z_100, z_101, z_102, z_103, z_105, z_111, z_114, z_120, z_123, z_125, z_126, z_200, z_245, z_255, z_576, z_585, z_1000, z_2000, z_3510, z_11700, true_implies, false_implies, implies_true, not_true_eq_false, not_false_eq_true, true_and, and_true, false_and, and_false, ↓reduceIte, Int.reduceToNat, Int.reduceNeg, Int.toNat_natCast, hR]
      exact search s s0 (by omega) (fun M1 c1 c2 => ih (s + 1) (tgt (w l) s) _ _ M1 (by omega) (by omega) rfl rfl t.1 (fun z => by have := tgt_mono hO s0 z; omega) c1 c2) (tgt (w l) s - r).toNat r _ M (by have := hr (by omega); omega) r0 rfl hfr hC
  refine en_X12_iterates (bl_X12_iterates_0 _ _ _ _ ?_)
  exact main (w l 3).toNat 0 0 _ _ M0 (by omega) (by omega) z_0 z_0 (by omega) (fun z => (tgt_in hO ⟨by omega, z⟩).1) (fm_rf _ _ _) (by rw [exB_0])
