/-! ===== the reference's runs ===== -/
theorem mbeg_ok {M0 : jM} {n : Int} {w : Int → Int → Int} {o : Int → Int} {Q : Int32 → Nat → jM → Prop} (hM : MR M0 n w o) (hQ : ∀ M1, fm [58] [] M0 M1 → M1 58 0 = iniC (o 2) (M0 58 0) → Q 0 0 M1) : ok_X12_begin M0 Q := by
  have main : ∀ (d : Nat) (k : Int) (v2 : Int32) (M : jM), k + d = 245 → 0 ≤ k → v2 = zI k → fm [58] [] M0 M → (∀ c : Nat, M 58 0 c = if (c : Int) < k then iniZ (o 2) c else M0 58 0 c) → at_X12_begin_2 v2 M Q := by
    intro d
    induction d with
    | zero =>
      intro k v2 M hd h0 h2 hfr hC
      subst h2
      refine bl_X12_begin_2 _ _ _ ?_
      simp (disch := omega) only [z_add, z_sub, z_mul, z_neg, z_leT, z_leF, z_ltT, z_ltF, z_eqT, z_eqF, z_inT, z_clamp, z_nI, z_0, z_1, z_2, z_3, z_4, z_5, z_6, z_7, z_8, z_9, z_10, z_11, z_12, z_13, z_14, z_15, z_16, z_17, z_18, z_19, z_20, z_21, z_22, z_23, z_24, z_25, z_26, z_27, z_28, z_29, z_30, z_31, z_32, z_33, z_34, z_35, z_36, z_37, z_38, z_39, z_40, z_41, z_42, z_43, z_44, z_45, z_46, z_47, z_48, z_49, z_50, z_51, z_52, z_53, z_54, z_55, z_56, z_57, z_58, z_59, z_60, z_61, z_77, z_91, z_93, z_97, z_100, z_101, z_102, z_103, z_105, z_111, z_114, z_120, z_123, z_125, z_126, z_200, z_245, z_255, z_576, z_585, z_1000, z_2000, z_3510, z_11700, true_implies, false_implies, implies_true, not_true_eq_false, not_false_eq_true, true_and, and_true, false_and, and_false, ↓reduceIte, Int.reduceToNat, Int.reduceNeg, Int.toNat_natCast]
      refine hQ M hfr ?_
      funext c
      rw [hC c]
      unfold iniC
      by_cases q : c < 245
      · rw [if_pos q, if_pos (by omega)]
      · rw [if_neg q, if_neg (by omega)]
    | succ d ih =>
      intro k v2 M hd h0 h2 hfr hC
      subst h2
      refine bl_X12_begin_2 _ _ _ ?_
      have eo : M 51 0 2 = zI (o 2) := (MR_fm hM hfr).2.1.2.2
      simp (disch := omega) only [z_add, z_sub, z_mul, z_neg, z_leT, z_leF, z_ltT, z_ltF, z_eqT, z_eqF, z_inT, z_clamp, z_nI, z_0, z_1, z_2, z_3, z_4, z_5, z_6, z_7, z_8, z_9, z_10, z_11, z_12, z_13, z_14, z_15, z_16, z_17, z_18, z_19, z_20, z_21, z_22, z_23, z_24, z_25, z_26, z_27, z_28, z_29, z_30, z_31, z_32, z_33, z_34, z_35, z_36, z_37, z_38, z_39, z_40, z_41, z_42, z_43, z_44, z_45, z_46, z_47, z_48, z_49, z_50, z_51, z_52, z_53, z_54, z_55, z_56, z_57, z_58, z_59, z_60, z_61, z_77, z_91, z_93, z_97, z_100, z_101, z_102, z_103, z_105, z_111, z_114, z_120, z_123, z_125, z_126, z_200, z_245, z_255, z_576, z_585, z_1000, z_2000, z_3510, z_11700, true_implies, false_implies, implies_true, not_true_eq_false, not_false_eq_true, true_and, and_true, false_and, and_false, ↓reduceIte, Int.reduceToNat, Int.reduceNeg, Int.toNat_natCast, z_div49, eo]
      rintro M1 rfl
      refine ih (k + 1) _ _ (by omega) (by omega) rfl (fm_up hfr) (fun c => ?_)
      rw [upC_M]
      unfold upC
      by_cases q : c = k.toNat
      · rw [if_pos q, if_pos (by omega)]
        unfold iniZ
        rw [q, show ((k.toNat : Nat) : Int) = k by omega]
      · rw [if_neg q, hC c]
        by_cases q2 : (c : Int) < k
        · rw [if_pos q2, if_pos (by omega)]
        · rw [if_neg q2, if_neg (by omega)]
  refine en_X12_begin (bl_X12_begin_0 _ _ ?_)
  refine main 245 0 _ M0 (by omega) (by omega) z_0 (fm_rf _ _ _) (fun c => ?_)
  rw [if_neg (by omega)]
set_option maxHeartbeats 4000000 in
set_option maxRecDepth 100000 in
theorem rn_ok {M0 : jM} {n : Int} {w : Int → Int → Int} {o : Int → Int} {S T : Int} {z : Int → Int} {Q : Int32 → Nat → jM → Prop} (hG : GH n w o) (hM : MR M0 n w o) (hz : zok z n) (hT : isNG z n T) (hS : isSet S z n T) (hQ : ∀ M1, fm [57, 58, 59] [22, 23, 24] M0 M1 → M1 58 0 = rnC w o z T (M0 58 0) → Q 0 0 M1) : ok_X12_runs (zI S) M0 Q := by
  have hn := hG.1
  have hTn := gs_at hz hn.1 hT hT.1 (Int.le_refl T)
  rw [hT.2.1] at hTn
  have main : ∀ (d : Nat) (j : Int) (v2 : Int32) (M : jM), j + d = T → 0 ≤ j → v2 = zI (gs z j) → fm [57, 58, 59] [22, 23, 24] M0 M → M 58 0 = ni j (fun j C => exG w (gs z j) (gs z (j + 1) - 1) C) (iniC (o 2) (M0 58 0)) → at_X12_runs_6 (zI S) v2 M Q := by
    intro d
    induction d with
    | zero =>
      intro j v2 M hd h0 h2 hfr hC
      subst h2
      refine bl_X12_runs_6 _ _ _ _ ?_
      have e0 := (MR_fm hM hfr).1
      have ej : j = T := by omega
      rw [ej] at hC
      rw [ej, hT.2.1]
      simp (disch := omega) only [z_add, z_sub, z_mul, z_neg, z_leT, z_leF, z_ltT, z_ltF, z_eqT, z_eqF, z_inT, z_clamp, z_nI, z_0, z_1, z_2, z_3, z_4, z_5, z_6, z_7, z_8, z_9, z_10, z_11, z_12, z_13, z_14, z_15, z_16, z_17, z_18, z_19, z_20, z_21, z_22, z_23, z_24, z_25, z_26, z_27, z_28, z_29, z_30, z_31, z_32, z_33, z_34, z_35, z_36, z_37, z_38, z_39, z_40, z_41, z_42, z_43, z_44, z_45, z_46, z_47, z_48, z_49, z_50, z_51, z_52, z_53, z_54, z_55, z_56, z_57, z_58, z_59, z_60, z_61, z_77, z_91, z_93, z_97, z_100, z_101, z_102, z_103, z_105, z_111, z_114, z_120, z_123, z_125, z_126, z_200, z_245, z_255, z_576, z_585, z_1000, z_2000, z_3510, z_11700, true_implies, false_implies, implies_true, not_true_eq_false, not_false_eq_true, true_and, and_true, false_and, and_false, ↓reduceIte, Int.reduceToNat, Int.reduceNeg, Int.toNat_natCast, e0]
      exact hQ M hfr hC
    | succ d ih =>
      intro j v2 M hd h0 h2 hfr hC
      subst h2
      refine bl_X12_runs_6 _ _ _ _ ?_
      have hM' := MR_fm hM hfr
      have e0 := hM'.1
      have b1 := gs_at hz hn.1 hT h0 (by omega)
      have b2 := hT.2.2 j h0 (by omega)
      have b5 := gs_at hz hn.1 hT (show 0 ≤ j + 1 by omega) (by omega)
      have b3 := hz _ b1.1 b2
      have b4 := gs_s (z := z) h0
      simp (disch := omega) only [z_add, z_sub, z_mul, z_neg, z_leT, z_leF, z_ltT, z_ltF, z_eqT, z_eqF, z_inT, z_clamp, z_nI, z_0, z_1, z_2, z_3, z_4, z_5, z_6, z_7, z_8, z_9, z_10, z_11, z_12, z_13, z_14, z_15, z_16, z_17, z_18, z_19, z_20, z_21, z_22, z_23, z_24, z_25, z_26, z_27, z_28, z_29, z_30, z_31, z_32, z_33, z_34, z_35, z_36, z_37, z_38, z_39, z_40, z_41, z_42, z_43, z_44, z_45, z_46, z_47, z_48, z_49, z_50, z_51, z_52, z_53, z_54, z_55, z_56, z_57, z_58, z_59, z_60, z_61, z_77, z_91, z_93, z_97, z_100, z_101, z_102, z_103, z_105, z_111, z_114, z_120, z_123, z_125, z_126, z_200, z_245, z_255, z_576, z_585, z_1000, z_2000, z_3510, z_11700, true_implies, false_implies, implies_true, not_true_eq_false, not_false_eq_true, true_and, and_true, false_and, and_false, ↓reduceIte, Int.reduceToNat, Int.reduceNeg, Int.toNat_natCast, e0]
      refine eo_ok hn.2 e0 hS.1 ⟨b1.1, b2⟩ ⟨rfl, ?_⟩
      rw [eS_z hz hn.1 hT hS h0 (by omega)]
      refine ls_ok hG hM' b1.1 (by omega) (by omega) (fun M4 r a1 a2 _ _ => ⟨fm_nb a1, ?_⟩)
      have hM4 := MR_fm hM' a1
      rw [← z_0]
      refine so_ok hG hM4 a2 b1.1 (by omega) (by omega) (Or.inl rfl) (fun _ => ⟨rfl, ?_⟩) (fun z => absurd z (by decide))
      rw [← z_1]
      refine so_ok hG hM4 a2 b1.1 (by omega) (by omega) (Or.inr rfl) (fun z => absurd z (by decide)) (fun _ => ⟨rfl, ?_⟩)
      have hnext : ∀ M1, fm [57, 58, 59] [22, 23, 24] M0 M1 → M1 58 0 = exG w (gs z j) (gs z (j + 1) - 1) (M 58 0) → at_X12_runs_6 (zI S) (zI (gs z (j + 1))) M1 Q := fun M1 c1 c2 => ih (j + 1) _ M1 (by omega) (by omega) rfl c1 (by rw [c2, hC, ni_s h0])
      have C0 : M4 58 0 = M 58 0 := by rw [a1.1 58 (by decide) (by decide)]
      rw [← C0] at hnext
      have hfr4 := fm_tr hfr a1 (S2 := [57, 58, 59]) (F2 := [22, 23, 24])
      have hf : 0 ≤ gs z j := b1.1
      have hfl : gs z j ≤ gs z (j + 1) - 1 := by omega
      have hl : gs z (j + 1) - 1 < n := by omega
      have el : gs z (j + 1) = gs z (j + 1) - 1 + 1 := by omega
      rw [el, Int.add_sub_cancel] at hnext
      generalize gs z (j + 1) - 1 = l at *
      generalize gs z j = f at *
      have hst := st_in hG hf (show 0 ≤ l - f + 1 by omega) (by omega)
      have hst1 : tF w f (l - f + 1) ≤ 120 := by
        rw [tF_s (show 0 ≤ l - f by omega)]
        have i1 := sh_in hG hf (show f ≤ f + (l - f) by omega) (show f + (l - f) < n by omega)
        have hO := (hG.2.2 (f + (l - f)) (by omega) (by omega)).1
        omega
      have inner : ∀ (t : Int), 0 ≤ t → t ≤ 120 → ∀ (y : Nat → Int32), (∀ M1, fm [57, 58] [] M4 M1 → M1 58 0 = exT w f t (l - f + 1) y → at_X12_runs_46 (zI S) (zI f) (zI l) (zI (tL w f (l - f + 1))) (zI (t + 1)) M1 Q) →
          ∀ (d : Nat) (k : Int) (v6 : Int32) (M1 : jM), k + d = l - f + 1 → 0 ≤ k → v6 = zI (f + k) → fm [57, 58] [] M4 M1 → M1 58 0 = exT w f t k y → at_X12_runs_56 (zI S) (zI f) (zI l) (zI (tL w f (l - f + 1))) (zI t) v6 M1 Q := by
        intro t ht1 ht2 y hout d
        induction d with
        | zero =>
          intro k v6 M1 hd k0 h6 hfr hC
          subst h6
          refine bl_X12_runs_56 _ _ _ _ _ _ _ _ ?_
          simp (disch := omega) only [z_add, z_sub, z_mul, z_neg, z_leT, z_leF, z_ltT, z_ltF, z_eqT, z_eqF, z_inT, z_clamp, z_nI, z_0, z_1, z_2, z_3, z_4, z_5, z_6, z_7, z_8, z_9, z_10, z_11, z_12, z_13, z_14, z_15, z_16, z_17, z_18, z_19, z_20, z_21, z_22, z_23, z_24, z_25, z_26, z_27, z_28, z_29, z_30, z_31, z_32, z_33, z_34, z_35, z_36, z_37, z_38, z_39, z_40, z_41, z_42, z_43, z_44, z_45, z_46, z_47, z_48, z_49, z_50, z_51, z_52, z_53, z_54, z_55, z_56, z_57, z_58, z_59, z_60, z_61, z_77, z_91, z_93, z_97, z_100, z_101, z_102, z_103, z_105, z_111, z_114, z_120, z_123, z_125, z_126, z_200, z_245, z_255, z_576, z_585, z_1000, z_2000, z_3510, z_11700, true_implies, false_implies, implies_true, not_true_eq_false, not_false_eq_true, true_and, and_true, false_and, and_false, ↓reduceIte, Int.reduceToNat, Int.reduceNeg, Int.toNat_natCast]
          have e : k = l - f + 1 := by omega
          rw [e] at hC
          exact hout M1 hfr hC
        | succ d ih =>
          intro k v6 M1 hd k0 h6 hfr hC
          subst h6
          refine bl_X12_runs_56 _ _ _ _ _ _ _ _ ?_
          have hM1 := MR_fm hM4 hfr
          have hR := MR_RW hM1 (show 0 ≤ f + k by omega) (by omega)
          unfold RW at hR
          have s1 : M1 59 0 (f + k).toNat = zI (sh w f (f + k)) := by rw [hfr.1 59 (by decide) (by decide)]; exact a2 (f + k) (by omega) (by omega)
          have i1 := sh_in hG hf (show f ≤ f + k by omega) (show f + k < n by omega)
          have hO := hG.2.2 (f + k) (by omega) (by omega)
          have hw1 := hO.1
          have e1 := exT_s (w := w) (f := f) (t := t) (C := y) k0
          by_cases q1 : w (f + k) 0 ≤ t - sh w f (f + k)
          · by_cases q2 : t - sh w f (f + k) ≤ w (f + k) 1
            · rw [if_pos ⟨q1, q2⟩] at e1
              simp (disch := omega) only [z_add, z_sub, z_mul, z_neg, z_leT, z_leF, z_ltT, z_ltF, z_eqT, z_eqF, z_inT, z_clamp, z_nI, z_0, z_1, z_2, z_3, z_4, z_5, z_6, z_7, z_8, z_9, z_10, z_11, z_12, z_13, z_14, z_15, z_16, z_17, z_18, z_19, z_20, z_21, z_22, z_23, z_24, z_25, z_26, z_27, z_28, z_29, z_30, z_31, z_32, z_33, z_34, z_35, z_36, z_37, z_38, z_39, z_40, z_41, z_42, z_43, z_44, z_45, z_46, z_47, z_48, z_49, z_50, z_51, z_52, z_53, z_54, z_55, z_56, z_57, z_58, z_59, z_60, z_61, z_77, z_91, z_93, z_97, z_100, z_101, z_102, z_103, z_105, z_111, z_114, z_120, z_123, z_125, z_126, z_200, z_245, z_255, z_576, z_585, z_1000, z_2000, z_3510, z_11700, true_implies, false_implies, implies_true, not_true_eq_false, not_false_eq_true, true_and, and_true, false_and, and_false, ↓reduceIte, Int.reduceToNat, Int.reduceNeg, Int.toNat_natCast, hR, s1]
              exact mi_ok hG hM1 ⟨by omega, by omega⟩ ⟨by omega, by omega⟩ (fun M2 c1 c2 => ⟨fm_nb c1, ih (k + 1) _ M2 (by omega) (by omega) (zc (by omega)) (fm_tr hfr c1) (by rw [e1, c2, hC])⟩)
            · rw [if_neg (fun z => q2 z.2)] at e1
              simp (disch := omega) only [z_add, z_sub, z_mul, z_neg, z_leT, z_leF, z_ltT, z_ltF, z_eqT, z_eqF, z_inT, z_clamp, z_nI, z_0, z_1, z_2, z_3, z_4, z_5, z_6, z_7, z_8, z_9, z_10, z_11, z_12, z_13, z_14, z_15, z_16, z_17, z_18, z_19, z_20, z_21, z_22, z_23, z_24, z_25, z_26, z_27, z_28, z_29, z_30, z_31, z_32, z_33, z_34, z_35, z_36, z_37, z_38, z_39, z_40, z_41, z_42, z_43, z_44, z_45, z_46, z_47, z_48, z_49, z_50, z_51, z_52, z_53, z_54, z_55, z_56, z_57, z_58, z_59, z_60, z_61, z_77, z_91, z_93, z_97, z_100, z_101, z_102, z_103, z_105, z_111, z_114, z_120, z_123, z_125, z_126, z_200, z_245, z_255, z_576, z_585, z_1000, z_2000, z_3510, z_11700, true_implies, false_implies, implies_true, not_true_eq_false, not_false_eq_true, true_and, and_true, false_and, and_false, ↓reduceIte, Int.reduceToNat, Int.reduceNeg, Int.toNat_natCast, hR, s1]
              exact ih (k + 1) _ M1 (by omega) (by omega) (zc (by omega)) hfr (by rw [e1]; exact hC)
          · rw [if_neg (fun z => q1 z.1)] at e1
            simp (disch := omega) only [z_add, z_sub, z_mul, z_neg, z_leT, z_leF, z_ltT, z_ltF, z_eqT, z_eqF, z_inT, z_clamp, z_nI, z_0, z_1, z_2, z_3, z_4, z_5, z_6, z_7, z_8, z_9, z_10, z_11, z_12, z_13, z_14, z_15, z_16, z_17, z_18, z_19, z_20, z_21, z_22, z_23, z_24, z_25, z_26, z_27, z_28, z_29, z_30, z_31, z_32, z_33, z_34, z_35, z_36, z_37, z_38, z_39, z_40, z_41, z_42, z_43, z_44, z_45, z_46, z_47, z_48, z_49, z_50, z_51, z_52, z_53, z_54, z_55, z_56, z_57, z_58, z_59, z_60, z_61, z_77, z_91, z_93, z_97, z_100, z_101, z_102, z_103, z_105, z_111, z_114, z_120, z_123, z_125, z_126, z_200, z_245, z_255, z_576, z_585, z_1000, z_2000, z_3510, z_11700, true_implies, false_implies, implies_true, not_true_eq_false, not_false_eq_true, true_and, and_true, false_and, and_false, ↓reduceIte, Int.reduceToNat, Int.reduceNeg, Int.toNat_natCast, hR, s1]
            exact ih (k + 1) _ M1 (by omega) (by omega) (zc (by omega)) hfr (by rw [e1]; exact hC)
      have outer : ∀ (d : Nat) (k : Int) (v5 : Int32) (M1 : jM), k + d = max (tL w f (l - f + 1) - tF w f (l - f + 1) + 1) 0 → 0 ≤ k → v5 = zI (tF w f (l - f + 1) + k) → fm [57, 58] [] M4 M1 → M1 58 0 = exK w f l k (M4 58 0) → at_X12_runs_46 (zI S) (zI f) (zI l) (zI (tL w f (l - f + 1))) v5 M1 Q := by
        intro d
        induction d with
        | zero =>
          intro k v5 M1 hd k0 h5 hfr hC
          subst h5
          refine bl_X12_runs_46 _ _ _ _ _ _ _ ?_
          simp (disch := omega) only [z_add, z_sub, z_mul, z_neg, z_leT, z_leF, z_ltT, z_ltF, z_eqT, z_eqF, z_inT, z_clamp, z_nI, z_0, z_1, z_2, z_3, z_4, z_5, z_6, z_7, z_8, z_9, z_10, z_11, z_12, z_13, z_14, z_15, z_16, z_17, z_18, z_19, z_20, z_21, z_22, z_23, z_24, z_25, z_26, z_27, z_28, z_29, z_30, z_31, z_32, z_33, z_34, z_35, z_36, z_37, z_38, z_39, z_40, z_41, z_42, z_43, z_44, z_45, z_46, z_47, z_48, z_49, z_50, z_51, z_52, z_53, z_54, z_55, z_56, z_57, z_58, z_59, z_60, z_61, z_77, z_91, z_93, z_97, z_100, z_101, z_102, z_103, z_105, z_111, z_114, z_120, z_123, z_125, z_126, z_200, z_245, z_255, z_576, z_585, z_1000, z_2000, z_3510, z_11700, true_implies, false_implies, implies_true, not_true_eq_false, not_false_eq_true, true_and, and_true, false_and, and_false, ↓reduceIte, Int.reduceToNat, Int.reduceNeg, Int.toNat_natCast]
          refine hnext M1 (fm_tr hfr4 hfr) ?_
          rw [hC]
          unfold exG
          by_cases e : tL w f (l - f + 1) - tF w f (l - f + 1) + 1 = k
          · rw [e]
          · have hk : k = 0 := by omega
            rw [hk, exK_0]
            unfold exK
            rw [ni_0 (by omega)]
        | succ d ih =>
          intro k v5 M1 hd k0 h5 hfr hC
          subst h5
          refine bl_X12_runs_46 _ _ _ _ _ _ _ ?_
          simp (disch := omega) only [z_add, z_sub, z_mul, z_neg, z_leT, z_leF, z_ltT, z_ltF, z_eqT, z_eqF, z_inT, z_clamp, z_nI, z_0, z_1, z_2, z_3, z_4, z_5, z_6, z_7, z_8, z_9, z_10, z_11, z_12, z_13, z_14, z_15, z_16, z_17, z_18, z_19, z_20, z_21, z_22, z_23, z_24, z_25, z_26, z_27, z_28, z_29, z_30, z_31, z_32, z_33, z_34, z_35, z_36, z_37, z_38, z_39, z_40, z_41, z_42, z_43, z_44, z_45, z_46, z_47, z_48, z_49, z_50, z_51, z_52, z_53, z_54, z_55, z_56, z_57, z_58, z_59, z_60, z_61, z_77, z_91, z_93, z_97, z_100, z_101, z_102, z_103, z_105, z_111, z_114, z_120, z_123, z_125, z_126, z_200, z_245, z_255, z_576, z_585, z_1000, z_2000, z_3510, z_11700, true_implies, false_implies, implies_true, not_true_eq_false, not_false_eq_true, true_and, and_true, false_and, and_false, ↓reduceIte, Int.reduceToNat, Int.reduceNeg, Int.toNat_natCast]
          exact inner (tF w f (l - f + 1) + k) (by omega) (by omega) (exK w f l k (M4 58 0)) (fun M2 c1 c2 => ih (k + 1) _ M2 (by omega) (by omega) (zc (by omega)) c1 (by rw [exK_s k0]; exact c2)) (l - f + 1).toNat 0 _ M1 (by omega) (by omega) (zc (by omega)) hfr (by rw [exT_0]; exact hC)
      exact outer (max (tL w f (l - f + 1) - tF w f (l - f + 1) + 1) 0).toNat 0 _ M4 (by omega) (by omega) (zc (by omega)) (fm_rf _ _ _) (by rw [exK_0])
  refine en_X12_runs (bl_X12_runs_0 _ _ _ ?_)
  refine mbeg_ok hM (fun M2 c1 c2 => ⟨fm_nb c1, ?_⟩)
  refine main T.toNat 0 _ M2 (by have := hT.1; omega) (by omega) (by rw [gs_0]; exact z_0) (fm_mono c1) ?_
  rw [ni_0 (Int.le_refl 0), c2]
/-! ===== cells that agree where it counts ===== -/
def agC (C D : Nat → Int32) : Prop := ∀ c : Nat, c < 245 → C c = D c
theorem valC_ag {v : Int → Int} {C D : Nat → Int32} {i t : Int} (hO : OKL v) (hi : 0 ≤ i ∧ i ≤ 30) (ht : (0 ≤ t ∧ t ≤ 103) ∨ (200 ≤ t ∧ t < 200 + v 4)) (hno : ¬ (101 ≤ t ∧ t ≤ 103)) (h : agC C D) : valC C v i t = valC D v i t := by
  unfold valC
  by_cases q : t < 100
  · rw [if_pos q, if_pos q]
  · rw [if_neg q, if_neg q]
    by_cases q2 : t = 100
    · rw [if_pos q2, if_pos q2]
    · rw [if_neg q2, if_neg q2]
      obtain ⟨⟨m1, m2⟩, ⟨m3, m4⟩, _⟩ := hO.2.2.1 (t - 200) (by omega) (by omega)
      exact h _ (by omega)
theorem evN_ag {v : Int → Int} {C D : Nat → Int32} {s i k : Int} (hO : OKL v) (hs : 0 ≤ s ∧ s < v 3) (hi : 0 ≤ i ∧ i ≤ 30) (hk : k ≤ v (101 + s)) (h : agC C D) : evN C v s i k = evN D v s i k := by
  unfold evN
  refine ni_congr (fun j x h1 h2 => ?_)
  have ht := (hO.2.2.2.1 s hs.1 hs.2).2.2 j h1 (by omega)
  unfold evst
  by_cases q : 101 ≤ v ((105 + 120 * s) + j) ∧ v ((105 + 120 * s) + j) ≤ 103
  · rw [if_pos q, if_pos q]
  · rw [if_neg q, if_neg q, valC_ag hO hi ht q h]
theorem exG_ag {n : Int} {w : Int → Int → Int} {o : Int → Int} (hG : GH n w o) {f l : Int} (hf : 0 ≤ f) (hl : l < n) {C D : Nat → Int32} (h : agC C D) : agC (exG w f l C) (exG w f l D) := by
  unfold exG exK
  refine ni_rel agC h (fun j C D _ _ h => ?_)
  unfold exT
  refine ni_rel agC h (fun b C D b0 b1 h => ?_)
  show agC (if w (f + b) 0 ≤ tF w f (l - f + 1) + j - sh w f (f + b) ∧ tF w f (l - f + 1) + j - sh w f (f + b) ≤ w (f + b) 1 then exB (w (f + b)) (tF w f (l - f + 1) + j - sh w f (f + b)) (w (f + b) 3) C else C) (if w (f + b) 0 ≤ tF w f (l - f + 1) + j - sh w f (f + b) ∧ tF w f (l - f + 1) + j - sh w f (f + b) ≤ w (f + b) 1 then exB (w (f + b)) (tF w f (l - f + 1) + j - sh w f (f + b)) (w (f + b) 3) D else D)
  have hO := hG.2.2 (f + b) (by omega) (by omega)
  split
  · rename_i q
    unfold exB
    refine ni_rel agC h (fun s C D s0 s1 h => ?_)
    show agC (exS (w (f + b)) _ s C) (exS (w (f + b)) _ s D)
    unfold exS
    rw [evN_ag hO ⟨s0, s1⟩ (by have := hO.1; omega) (Int.le_refl _) h]
    intro c hc
    unfold upC
    split
    · rfl
    · exact h c hc
  · exact h
theorem rnC_ag {n : Int} {w : Int → Int → Int} {o : Int → Int} {z : Int → Int} {T : Int} (hG : GH n w o) (hz : zok z n) (hT : isNG z n T) (C D : Nat → Int32) : agC (rnC w o z T C) (rnC w o z T D) := by
  unfold rnC
  refine ni_rel agC (fun c hc => ?_) (fun j C D j0 j1 h => ?_)
  · unfold iniC
    rw [if_pos hc, if_pos hc]
  · have b1 := gs_at hz hG.1.1 hT j0 (by omega)
    have b2 := gs_at hz hG.1.1 hT (show 0 ≤ j + 1 by omega) (by omega)
    exact exG_ag hG b1.1 (by omega) h
