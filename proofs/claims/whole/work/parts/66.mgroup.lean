/-! ===== groups of the reference ===== -/
def MSH (M : jM) (w : Int → Int → Int) (f l : Int) : Prop := ∀ q, f ≤ q → q ≤ l → M 59 0 q.toNat = zI (sh w f q)
theorem MR_RW {M : jM} {n : Int} {w : Int → Int → Int} {o : Int → Int} (h : MR M n w o) {l : Int} (h0 : 0 ≤ l) (hl : l < n) : RW M l (w l) := fun j h1 h2 => h.2.2 l j h0 hl h1 h2
theorem MR_fm {S F : List Nat} {M M1 : jM} {n : Int} {w : Int → Int → Int} {o : Int → Int} (h : MR M n w o) (hf : fm S F M M1) (hS : 50 ∉ S ∧ 51 ∉ S := by decide) (hF : 0 ∉ F := by decide) : MR M1 n w o := MR_fr h (hf.2 0 hF) (hf.1 50 (by decide) hS.1) (hf.1 51 (by decide) hS.2)
set_option maxHeartbeats 4000000 in
set_option maxRecDepth 100000 in
theorem ls_ok {M0 : jM} {n : Int} {w : Int → Int → Int} {o : Int → Int} {f l : Int} {Q : Int32 → Nat → jM → Prop} (hG : GH n w o) (hM : MR M0 n w o) (hf : 0 ≤ f) (hfl : f ≤ l) (hl : l < n) (hQ : ∀ M1 r, fm [59] [22, 23, 24] M0 M1 → MSH M1 w f l → (alw w o f l → r = 1) → (¬ alw w o f l → r = 0) → Q r 0 M1) : ok_X12_layShifts (zI f) (zI l) M0 Q := by
  have hn := hG.1
  have inner : ∀ (q : Int) (v3 : Int32), f ≤ q → q ≤ l → (∀ M1, fm [59] [22, 23, 24] M0 M1 → (∀ p, f ≤ p → p < q + 1 → M1 59 0 p.toNat = zI (sh w f p)) → at_X12_layShifts_5 (zI f) (zI l) (v3 &&& (if sh w f q ≤ o 0 ∧ (q = f ∨ w q 2 = 0) then 1 else 0)) (zI (q + 1)) M1 Q) →
      ∀ (d : Nat) (p : Int) (v5 : Int32) (M : jM), p + d = q → f ≤ p → v5 = zI p → fm [59] [22, 23, 24] M0 M → (∀ p, f ≤ p → p < q → M 59 0 p.toNat = zI (sh w f p)) → M 59 0 q.toNat = zI (shP w f q (p - f)) → at_X12_layShifts_22 (zI f) (zI l) v3 (zI q) v5 M Q := by
    intro q v3 hq1 hq2 hout d
    induction d with
    | zero =>
      intro p v5 M hd h0 h5 hfr hs hq
      subst h5
      refine bl_X12_layShifts_22 _ _ _ _ _ _ _ ?_
      have hpq : p = q := by omega
      rw [hpq, ← sh_eq hq1] at hq
      have hM' := MR_fm hM hfr
      have r2 := MR_RW hM' (show 0 ≤ q by omega) (by omega) 2 (by omega) (by omega)
      have ho := hM'.2.1.1
      have hoi := hG.2.1.1
      have i1 := sh_in hG hf hq1 (show q < n by omega)
      have hw := (hG.2.2 q (by omega) (by omega)).1
      have fin := hout M hfr (fun p2 a1 a2 => by
        by_cases e : p2 = q
        · rw [e]; exact hq
        · exact hs p2 a1 (by omega))
      by_cases q1 : sh w f q ≤ o 0
      · by_cases q2 : q = f
        · rw [if_pos ⟨q1, Or.inl q2⟩, z_1] at fin
          simp (disch := omega) only [z_add, z_sub, z_mul, z_neg, z_leT, z_leF, z_ltT, z_ltF, z_eqT, z_eqF, z_inT, z_clamp, z_nI, z_0, z_1, z_2, z_3, z_4, z_5, z_6, z_7, z_8, z_9, z_10, z_11, z_12, z_13, z_14, z_15, z_16, z_17, z_18, z_19, z_20, z_21, z_22, z_23, z_24, z_25, z_26, z_27, z_28, z_29, z_30, z_31, z_32, z_33, z_34, z_35, z_36, z_37, z_38, z_39, z_40, z_41, z_42, z_43, z_44, z_45, z_46, z_47, z_48, z_49, z_50, z_51, z_52, z_53, z_54, z_55, z_56, z_57, z_58, z_59, z_60, z_61, z_77, z_91, z_93, z_97, z_100, z_101, z_102, z_103, z_105, z_111, z_114, z_120, z_123, z_125, z_126, z_200, z_245, z_255, z_576, z_585, z_1000, z_2000, z_3510, z_11700, true_implies, false_implies, implies_true, not_true_eq_false, not_false_eq_true, true_and, and_true, false_and, and_false, ↓reduceIte, Int.reduceToNat, Int.reduceNeg, Int.toNat_natCast, hq, ho]
          exact fin
        · by_cases q3 : w q 2 = 0
          · rw [if_pos ⟨q1, Or.inr q3⟩, z_1] at fin
            simp (disch := omega) only [z_add, z_sub, z_mul, z_neg, z_leT, z_leF, z_ltT, z_ltF, z_eqT, z_eqF, z_inT, z_clamp, z_nI, z_0, z_1, z_2, z_3, z_4, z_5, z_6, z_7, z_8, z_9, z_10, z_11, z_12, z_13, z_14, z_15, z_16, z_17, z_18, z_19, z_20, z_21, z_22, z_23, z_24, z_25, z_26, z_27, z_28, z_29, z_30, z_31, z_32, z_33, z_34, z_35, z_36, z_37, z_38, z_39, z_40, z_41, z_42, z_43, z_44, z_45, z_46, z_47, z_48, z_49, z_50, z_51, z_52, z_53, z_54, z_55, z_56, z_57, z_58, z_59, z_60, z_61, z_77, z_91, z_93, z_97, z_100, z_101, z_102, z_103, z_105, z_111, z_114, z_120, z_123, z_125, z_126, z_200, z_245, z_255, z_576, z_585, z_1000, z_2000, z_3510, z_11700, true_implies, false_implies, implies_true, not_true_eq_false, not_false_eq_true, true_and, and_true, false_and, and_false, ↓reduceIte, Int.reduceToNat, Int.reduceNeg, Int.toNat_natCast, hq, ho, r2]
            exact fin
          · rw [if_neg (fun z => by rcases z.2 with z | z <;> contradiction), z_0] at fin
            have q4 : w q 2 = 1 := by omega
            simp (disch := omega) only [z_add, z_sub, z_mul, z_neg, z_leT, z_leF, z_ltT, z_ltF, z_eqT, z_eqF, z_inT, z_clamp, z_nI, z_0, z_1, z_2, z_3, z_4, z_5, z_6, z_7, z_8, z_9, z_10, z_11, z_12, z_13, z_14, z_15, z_16, z_17, z_18, z_19, z_20, z_21, z_22, z_23, z_24, z_25, z_26, z_27, z_28, z_29, z_30, z_31, z_32, z_33, z_34, z_35, z_36, z_37, z_38, z_39, z_40, z_41, z_42, z_43, z_44, z_45, z_46, z_47, z_48, z_49, z_50, z_51, z_52, z_53, z_54, z_55, z_56, z_57, z_58, z_59, z_60, z_61, z_77, z_91, z_93, z_97, z_100, z_101, z_102, z_103, z_105, z_111, z_114, z_120, z_123, z_125, z_126, z_200, z_245, z_255, z_576, z_585, z_1000, z_2000, z_3510, z_11700, true_implies, false_implies, implies_true, not_true_eq_false, not_false_eq_true, true_and, and_true, false_and, and_false, ↓reduceIte, Int.reduceToNat, Int.reduceNeg, Int.toNat_natCast, hq, ho, r2, q4]
            exact fin
      · rw [if_neg (fun z => q1 z.1), z_0] at fin
        simp (disch := omega) only [z_add, z_sub, z_mul, z_neg, z_leT, z_leF, z_ltT, z_ltF, z_eqT, z_eqF, z_inT, z_clamp, z_nI, z_0, z_1, z_2, z_3, z_4, z_5, z_6, z_7, z_8, z_9, z_10, z_11, z_12, z_13, z_14, z_15, z_16, z_17, z_18, z_19, z_20, z_21, z_22, z_23, z_24, z_25, z_26, z_27, z_28, z_29, z_30, z_31, z_32, z_33, z_34, z_35, z_36, z_37, z_38, z_39, z_40, z_41, z_42, z_43, z_44, z_45, z_46, z_47, z_48, z_49, z_50, z_51, z_52, z_53, z_54, z_55, z_56, z_57, z_58, z_59, z_60, z_61, z_77, z_91, z_93, z_97, z_100, z_101, z_102, z_103, z_105, z_111, z_114, z_120, z_123, z_125, z_126, z_200, z_245, z_255, z_576, z_585, z_1000, z_2000, z_3510, z_11700, true_implies, false_implies, implies_true, not_true_eq_false, not_false_eq_true, true_and, and_true, false_and, and_false, ↓reduceIte, Int.reduceToNat, Int.reduceNeg, Int.toNat_natCast, hq, ho]
        exact fin
    | succ d ih =>
      intro p v5 M hd h0 h5 hfr hs hq
      subst h5
      refine bl_X12_layShifts_22 _ _ _ _ _ _ _ ?_
      have hsp := hs p h0 (by omega)
      have hM' := MR_fm hM hfr
      have i1 := sh_in hG hf h0 (show p < n by omega)
      have i2 := shP_in hG hf (q - f).toNat q (p - f) (by omega) (by omega) (by omega) (by omega)
      have hOp := hG.2.2 p (by omega) (by omega)
      have hOq := hG.2.2 q (by omega) (by omega)
      have i3 := nd_in hOp hOq
      have es : shP w f q (p + 1 - f) = max (shP w f q (p - f)) (sh w f p + nd (w p) (w q)) := by rw [show p + 1 - f = (p - f) + 1 by omega, shP_s (by omega), show f + (p - f) = p by omega]
      simp (disch := omega) only [z_add, z_sub, z_mul, z_neg, z_leT, z_leF, z_ltT, z_ltF, z_eqT, z_eqF, z_inT, z_clamp, z_nI, z_0, z_1, z_2, z_3, z_4, z_5, z_6, z_7, z_8, z_9, z_10, z_11, z_12, z_13, z_14, z_15, z_16, z_17, z_18, z_19, z_20, z_21, z_22, z_23, z_24, z_25, z_26, z_27, z_28, z_29, z_30, z_31, z_32, z_33, z_34, z_35, z_36, z_37, z_38, z_39, z_40, z_41, z_42, z_43, z_44, z_45, z_46, z_47, z_48, z_49, z_50, z_51, z_52, z_53, z_54, z_55, z_56, z_57, z_58, z_59, z_60, z_61, z_77, z_91, z_93, z_97, z_100, z_101, z_102, z_103, z_105, z_111, z_114, z_120, z_123, z_125, z_126, z_200, z_245, z_255, z_576, z_585, z_1000, z_2000, z_3510, z_11700, true_implies, false_implies, implies_true, not_true_eq_false, not_false_eq_true, true_and, and_true, false_and, and_false, ↓reduceIte, Int.reduceToNat, Int.reduceNeg, Int.toNat_natCast]
      refine md_ok (by omega) (by omega) hOp hOq (MR_RW hM' (by omega) (by omega)) (MR_RW hM' (by omega) (by omega)) (by omega) (fun M5 c1 c2 => ⟨fm_nb c1, ?_⟩)
      have F59 := c1.1 59 (by decide) (by decide)
      have hlen : ((dps (w p) (w q)).length : Int) ≤ 576 := by
        have h1 := hOp.2.1
        have h2 := hOq.2.1
        have := dpL_len (a := w p) (b := w q) (k := w p 4) (by omega) (by omega)
        unfold dps
        omega
      by_cases hE : dps (w p) (w q) = []
      · rw [hE]
        rw [nd_no hE] at es
        simp (disch := omega) only [z_add, z_sub, z_mul, z_neg, z_leT, z_leF, z_ltT, z_ltF, z_eqT, z_eqF, z_inT, z_clamp, z_nI, z_0, z_1, z_2, z_3, z_4, z_5, z_6, z_7, z_8, z_9, z_10, z_11, z_12, z_13, z_14, z_15, z_16, z_17, z_18, z_19, z_20, z_21, z_22, z_23, z_24, z_25, z_26, z_27, z_28, z_29, z_30, z_31, z_32, z_33, z_34, z_35, z_36, z_37, z_38, z_39, z_40, z_41, z_42, z_43, z_44, z_45, z_46, z_47, z_48, z_49, z_50, z_51, z_52, z_53, z_54, z_55, z_56, z_57, z_58, z_59, z_60, z_61, z_77, z_91, z_93, z_97, z_100, z_101, z_102, z_103, z_105, z_111, z_114, z_120, z_123, z_125, z_126, z_200, z_245, z_255, z_576, z_585, z_1000, z_2000, z_3510, z_11700, true_implies, false_implies, implies_true, not_true_eq_false, not_false_eq_true, true_and, and_true, false_and, and_false, ↓reduceIte, Int.reduceToNat, Int.reduceNeg, Int.toNat_natCast, List.length_nil, Int.natCast_zero]
        refine ih (p + 1) _ M5 (by omega) (by omega) rfl (fm_tr hfr c1) (fun p2 a1 a2 => by rw [F59]; exact hs p2 a1 a2) ?_
        rw [F59, hq, es]
        exact zc (by omega)
      · have hpos : 0 < (dps (w p) (w q)).length := List.length_pos_iff.mpr hE
        have c24 := c2.1
        rw [nd_m hOp hOq hE] at c24
        simp (disch := omega) only [z_add, z_sub, z_mul, z_neg, z_leT, z_leF, z_ltT, z_ltF, z_eqT, z_eqF, z_inT, z_clamp, z_nI, z_0, z_1, z_2, z_3, z_4, z_5, z_6, z_7, z_8, z_9, z_10, z_11, z_12, z_13, z_14, z_15, z_16, z_17, z_18, z_19, z_20, z_21, z_22, z_23, z_24, z_25, z_26, z_27, z_28, z_29, z_30, z_31, z_32, z_33, z_34, z_35, z_36, z_37, z_38, z_39, z_40, z_41, z_42, z_43, z_44, z_45, z_46, z_47, z_48, z_49, z_50, z_51, z_52, z_53, z_54, z_55, z_56, z_57, z_58, z_59, z_60, z_61, z_77, z_91, z_93, z_97, z_100, z_101, z_102, z_103, z_105, z_111, z_114, z_120, z_123, z_125, z_126, z_200, z_245, z_255, z_576, z_585, z_1000, z_2000, z_3510, z_11700, true_implies, false_implies, implies_true, not_true_eq_false, not_false_eq_true, true_and, and_true, false_and, and_false, ↓reduceIte, Int.reduceToNat, Int.reduceNeg, Int.toNat_natCast, F59, hsp, hq, c24, z_max]
        rintro M6 rfl
        refine ih (p + 1) _ _ (by omega) (by omega) rfl (fm_up (fm_tr hfr c1)) (fun p2 a1 a2 => ?_) ?_
        · rw [jup_ne (by omega), F59]; exact hs p2 a1 a2
        · rw [jup_self, es]
  have outer : ∀ (d : Nat) (q : Int) (v3 v4 : Int32) (M : jM), q + d = l + 1 → f ≤ q → v4 = zI q → fm [59] [22, 23, 24] M0 M → (∀ p, f ≤ p → p < q → M 59 0 p.toNat = zI (sh w f p)) → (v3 = 0 ∨ v3 = 1) → (v3 = 1 → f < q → alw w o f (q - 1)) → (v3 = 0 → f < q ∧ ¬ alw w o f (q - 1)) → at_X12_layShifts_5 (zI f) (zI l) v3 v4 M Q := by
    intro d
    induction d with
    | zero =>
      intro q v3 v4 M hd h0 h4 hfr hs hv hy hno
      subst h4
      refine bl_X12_layShifts_5 _ _ _ _ _ _ ?_
      have e : q - 1 = l := by omega
      rw [e] at hy hno
      rcases hv with hv | hv
      · have hna := (hno hv).2
        have hfl2 : f ≠ l := fun z => hna (by rw [z]; exact alw_one)
        have fin := hQ M 0 hfr (fun p a1 a2 => hs p a1 (by omega)) (fun z => absurd z hna) (fun _ => rfl)
        rw [z_0] at fin
        rw [hv]
        simp (disch := omega) only [z_add, z_sub, z_mul, z_neg, z_leT, z_leF, z_ltT, z_ltF, z_eqT, z_eqF, z_inT, z_clamp, z_nI, z_0, z_1, z_2, z_3, z_4, z_5, z_6, z_7, z_8, z_9, z_10, z_11, z_12, z_13, z_14, z_15, z_16, z_17, z_18, z_19, z_20, z_21, z_22, z_23, z_24, z_25, z_26, z_27, z_28, z_29, z_30, z_31, z_32, z_33, z_34, z_35, z_36, z_37, z_38, z_39, z_40, z_41, z_42, z_43, z_44, z_45, z_46, z_47, z_48, z_49, z_50, z_51, z_52, z_53, z_54, z_55, z_56, z_57, z_58, z_59, z_60, z_61, z_77, z_91, z_93, z_97, z_100, z_101, z_102, z_103, z_105, z_111, z_114, z_120, z_123, z_125, z_126, z_200, z_245, z_255, z_576, z_585, z_1000, z_2000, z_3510, z_11700, true_implies, false_implies, implies_true, not_true_eq_false, not_false_eq_true, true_and, and_true, false_and, and_false, ↓reduceIte, Int.reduceToNat, Int.reduceNeg, Int.toNat_natCast]
        exact fin
      · have hya := hy hv (by omega)
        have fin := hQ M 1 hfr (fun p a1 a2 => hs p a1 (by omega)) (fun _ => rfl) (fun z => absurd hya z)
        rw [z_1] at fin
        rw [hv]
        simp (disch := omega) only [z_add, z_sub, z_mul, z_neg, z_leT, z_leF, z_ltT, z_ltF, z_eqT, z_eqF, z_inT, z_clamp, z_nI, z_0, z_1, z_2, z_3, z_4, z_5, z_6, z_7, z_8, z_9, z_10, z_11, z_12, z_13, z_14, z_15, z_16, z_17, z_18, z_19, z_20, z_21, z_22, z_23, z_24, z_25, z_26, z_27, z_28, z_29, z_30, z_31, z_32, z_33, z_34, z_35, z_36, z_37, z_38, z_39, z_40, z_41, z_42, z_43, z_44, z_45, z_46, z_47, z_48, z_49, z_50, z_51, z_52, z_53, z_54, z_55, z_56, z_57, z_58, z_59, z_60, z_61, z_77, z_91, z_93, z_97, z_100, z_101, z_102, z_103, z_105, z_111, z_114, z_120, z_123, z_125, z_126, z_200, z_245, z_255, z_576, z_585, z_1000, z_2000, z_3510, z_11700, true_implies, false_implies, implies_true, not_true_eq_false, not_false_eq_true, true_and, and_true, false_and, and_false, ↓reduceIte, Int.reduceToNat, Int.reduceNeg, Int.toNat_natCast]
        exact fin
    | succ d ih =>
      intro q v3 v4 M hd h0 h4 hfr hs hv hy hno
      subst h4
      refine bl_X12_layShifts_5 _ _ _ _ _ _ ?_
      simp (disch := omega) only [z_add, z_sub, z_mul, z_neg, z_leT, z_leF, z_ltT, z_ltF, z_eqT, z_eqF, z_inT, z_clamp, z_nI, z_0, z_1, z_2, z_3, z_4, z_5, z_6, z_7, z_8, z_9, z_10, z_11, z_12, z_13, z_14, z_15, z_16, z_17, z_18, z_19, z_20, z_21, z_22, z_23, z_24, z_25, z_26, z_27, z_28, z_29, z_30, z_31, z_32, z_33, z_34, z_35, z_36, z_37, z_38, z_39, z_40, z_41, z_42, z_43, z_44, z_45, z_46, z_47, z_48, z_49, z_50, z_51, z_52, z_53, z_54, z_55, z_56, z_57, z_58, z_59, z_60, z_61, z_77, z_91, z_93, z_97, z_100, z_101, z_102, z_103, z_105, z_111, z_114, z_120, z_123, z_125, z_126, z_200, z_245, z_255, z_576, z_585, z_1000, z_2000, z_3510, z_11700, true_implies, false_implies, implies_true, not_true_eq_false, not_false_eq_true, true_and, and_true, false_and, and_false, ↓reduceIte, Int.reduceToNat, Int.reduceNeg, Int.toNat_natCast]
      rintro M1 rfl
      refine inner q v3 h0 (by omega) (fun M2 c1 c2 => ?_) (q - f).toNat f _ _ (by omega) (by omega) rfl (fm_up hfr) (fun p a1 a2 => ?_) ?_
      · refine ih (q + 1) _ _ M2 (by omega) (by omega) rfl c1 c2 ?_ ?_ ?_
        · rcases hv with hv | hv <;> rw [hv] <;> split <;> first | exact Or.inl (by decide) | exact Or.inr (by decide)
        · intro z _
          rw [show q + 1 - 1 = q by omega]
          rcases hv with hv | hv
          · rw [hv] at z; split at z <;> exact absurd z (by decide)
          · rw [hv] at z
            split at z
            · rename_i q5
              intro x a1 a2
              by_cases e : x = q
              · rw [e] at a1 ⊢
                rcases q5.2 with q6 | q6
                · omega
                · exact ⟨q5.1, q6⟩
              · exact hy hv (by omega) x a1 (by omega)
            · exact absurd z (by decide)
        · intro z
          refine ⟨by omega, ?_⟩
          rw [show q + 1 - 1 = q by omega]
          rcases hv with hv | hv
          · exact fun z2 => (hno hv).2 (alw_le z2 (by omega))
          · rw [hv] at z
            split at z
            · exact absurd z (by decide)
            · rename_i q5
              intro z2
              by_cases e : q = f
              · have := sh_f (w := w) (f := f)
                have := hG.2.1.1
                exact q5 ⟨by rw [e, sh_f]; omega, Or.inl e⟩
              · have := z2 q (by omega) (Int.le_refl q)
                exact q5 ⟨this.1, Or.inr this.2⟩
      · rw [jup_ne (by omega)]; exact hs p a1 a2
      · rw [show f - f = 0 by omega, shP_0, jup_self]
  refine en_X12_layShifts (bl_X12_layShifts_0 _ _ _ _ ?_)
  exact outer (l - f + 1).toNat f _ _ M0 (by omega) (by omega) rfl (fm_rf _ _ _) (fun p a1 a2 => by omega) (Or.inr rfl) (fun _ z => by omega) (fun z => absurd z (by decide))
set_option maxHeartbeats 4000000 in
set_option maxRecDepth 100000 in
theorem so_ok {M0 : jM} {n : Int} {w : Int → Int → Int} {o : Int → Int} {f l : Int} {v3 : Int32} {Q : Int32 → Nat → jM → Prop} (hG : GH n w o) (hM : MR M0 n w o) (hS : MSH M0 w f l) (hf : 0 ≤ f) (hfl : f ≤ l) (hl : l < n) (h3 : v3 = 0 ∨ v3 = 1) (hQ0 : v3 = 0 → Q (zI (tL w f (l - f + 1))) 0 M0) (hQ1 : v3 = 1 → Q (zI (tF w f (l - f + 1))) 0 M0) : ok_X12_stepOf (zI f) (zI l) v3 M0 Q := by
  have hn := hG.1
  refine en_X12_stepOf (bl_X12_stepOf_0 _ _ _ _ _ ?_)
  rcases h3 with h3 | h3
  · have hQ2 := hQ0 h3
    clear hQ0 hQ1
    subst h3
    have main : ∀ (d : Nat) (k : Int) (v4 v5 : Int32), k + d = l - f + 1 → 0 ≤ k → v4 = zI (tL w f k) → v5 = zI (f + k) → at_X12_stepOf_18 (zI l) 0 v4 v5 M0 Q := by
      intro d
      induction d with
      | zero =>
        intro k v4 v5 hd h0 h4 h5
        subst h4 h5
        refine bl_X12_stepOf_18 _ _ _ _ _ _ ?_
        rw [show l - f + 1 = k by omega] at hQ2
        simp (disch := omega) only [z_add, z_sub, z_mul, z_neg, z_leT, z_leF, z_ltT, z_ltF, z_eqT, z_eqF, z_inT, z_clamp, z_nI, z_0, z_1, z_2, z_3, z_4, z_5, z_6, z_7, z_8, z_9, z_10, z_11, z_12, z_13, z_14, z_15, z_16, z_17, z_18, z_19, z_20, z_21, z_22, z_23, z_24, z_25, z_26, z_27, z_28, z_29, z_30, z_31, z_32, z_33, z_34, z_35, z_36, z_37, z_38, z_39, z_40, z_41, z_42, z_43, z_44, z_45, z_46, z_47, z_48, z_49, z_50, z_51, z_52, z_53, z_54, z_55, z_56, z_57, z_58, z_59, z_60, z_61, z_77, z_91, z_93, z_97, z_100, z_101, z_102, z_103, z_105, z_111, z_114, z_120, z_123, z_125, z_126, z_200, z_245, z_255, z_576, z_585, z_1000, z_2000, z_3510, z_11700, true_implies, false_implies, implies_true, not_true_eq_false, not_false_eq_true, true_and, and_true, false_and, and_false, ↓reduceIte, Int.reduceToNat, Int.reduceNeg, Int.toNat_natCast]
        exact hQ2
      | succ d ih =>
        intro k v4 v5 hd h0 h4 h5
        subst h4 h5
        refine bl_X12_stepOf_18 _ _ _ _ _ _ ?_
        have hR := MR_RW hM (show 0 ≤ f + k by omega) (by omega)
        unfold RW at hR
        have s1 := hS (f + k) (by omega) (by omega)
        have i1 := sh_in hG hf (show f ≤ f + k by omega) (show f + k < n by omega)
        have hw := (hG.2.2 (f + k) (by omega) (by omega)).1
        have i2 := st_in hG hf h0 (show f + k ≤ n by omega)
        simp (disch := omega) only [z_add, z_sub, z_mul, z_neg, z_leT, z_leF, z_ltT, z_ltF, z_eqT, z_eqF, z_inT, z_clamp, z_nI, z_0, z_1, z_2, z_3, z_4, z_5, z_6, z_7, z_8, z_9, z_10, z_11, z_12, z_13, z_14, z_15, z_16, z_17, z_18, z_19, z_20, z_21, z_22, z_23, z_24, z_25, z_26, z_27, z_28, z_29, z_30, z_31, z_32, z_33, z_34, z_35, z_36, z_37, z_38, z_39, z_40, z_41, z_42, z_43, z_44, z_45, z_46, z_47, z_48, z_49, z_50, z_51, z_52, z_53, z_54, z_55, z_56, z_57, z_58, z_59, z_60, z_61, z_77, z_91, z_93, z_97, z_100, z_101, z_102, z_103, z_105, z_111, z_114, z_120, z_123, z_125, z_126, z_200, z_245, z_255, z_576, z_585, z_1000, z_2000, z_3510, z_11700, true_implies, false_implies, implies_true, not_true_eq_false, not_false_eq_true, true_and, and_true, false_and, and_false, ↓reduceIte, Int.reduceToNat, Int.reduceNeg, Int.toNat_natCast, hR, s1, z_max]
        exact ih (k + 1) _ _ (by omega) (by omega) (by rw [tL_s h0]) (zc (by omega))
    simp (disch := omega) only [z_add, z_sub, z_mul, z_neg, z_leT, z_leF, z_ltT, z_ltF, z_eqT, z_eqF, z_inT, z_clamp, z_nI, z_0, z_1, z_2, z_3, z_4, z_5, z_6, z_7, z_8, z_9, z_10, z_11, z_12, z_13, z_14, z_15, z_16, z_17, z_18, z_19, z_20, z_21, z_22, z_23, z_24, z_25, z_26, z_27, z_28, z_29, z_30, z_31, z_32, z_33, z_34, z_35, z_36, z_37, z_38, z_39, z_40, z_41, z_42, z_43, z_44, z_45, z_46, z_47, z_48, z_49, z_50, z_51, z_52, z_53, z_54, z_55, z_56, z_57, z_58, z_59, z_60, z_61, z_77, z_91, z_93, z_97, z_100, z_101, z_102, z_103, z_105, z_111, z_114, z_120, z_123, z_125, z_126, z_200, z_245, z_255, z_576, z_585, z_1000, z_2000, z_3510, z_11700, true_implies, false_implies, implies_true, not_true_eq_false, not_false_eq_true, true_and, and_true, false_and, and_false, ↓reduceIte, Int.reduceToNat, Int.reduceNeg, Int.toNat_natCast]
    have := main (l - f + 1).toNat 0 (zI (-1000)) (zI f) (by omega) (by omega) (by rw [tL_0]) (zc (by omega))
    rw [z_0] at this
    exact this
  · have hQ2 := hQ1 h3
    clear hQ0 hQ1
    subst h3
    have main : ∀ (d : Nat) (k : Int) (v4 v5 : Int32), k + d = l - f + 1 → 0 ≤ k → v4 = zI (tF w f k) → v5 = zI (f + k) → at_X12_stepOf_18 (zI l) 1 v4 v5 M0 Q := by
      intro d
      induction d with
      | zero =>
        intro k v4 v5 hd h0 h4 h5
        subst h4 h5
        refine bl_X12_stepOf_18 _ _ _ _ _ _ ?_
        rw [show l - f + 1 = k by omega] at hQ2
        simp (disch := omega) only [z_add, z_sub, z_mul, z_neg, z_leT, z_leF, z_ltT, z_ltF, z_eqT, z_eqF, z_inT, z_clamp, z_nI, z_0, z_1, z_2, z_3, z_4, z_5, z_6, z_7, z_8, z_9, z_10, z_11, z_12, z_13, z_14, z_15, z_16, z_17, z_18, z_19, z_20, z_21, z_22, z_23, z_24, z_25, z_26, z_27, z_28, z_29, z_30, z_31, z_32, z_33, z_34, z_35, z_36, z_37, z_38, z_39, z_40, z_41, z_42, z_43, z_44, z_45, z_46, z_47, z_48, z_49, z_50, z_51, z_52, z_53, z_54, z_55, z_56, z_57, z_58, z_59, z_60, z_61, z_77, z_91, z_93, z_97, z_100, z_101, z_102, z_103, z_105, z_111, z_114, z_120, z_123, z_125, z_126, z_200, z_245, z_255, z_576, z_585, z_1000, z_2000, z_3510, z_11700, true_implies, false_implies, implies_true, not_true_eq_false, not_false_eq_true, true_and, and_true, false_and, and_false, ↓reduceIte, Int.reduceToNat, Int.reduceNeg, Int.toNat_natCast]
        exact hQ2
      | succ d ih =>
        intro k v4 v5 hd h0 h4 h5
        subst h4 h5
        refine bl_X12_stepOf_18 _ _ _ _ _ _ ?_
        have hR := MR_RW hM (show 0 ≤ f + k by omega) (by omega)
        unfold RW at hR
        have s1 := hS (f + k) (by omega) (by omega)
        have i1 := sh_in hG hf (show f ≤ f + k by omega) (show f + k < n by omega)
        have hw := (hG.2.2 (f + k) (by omega) (by omega)).1
        have i2 := st_in hG hf h0 (show f + k ≤ n by omega)
        simp (disch := omega) only [z_add, z_sub, z_mul, z_neg, z_leT, z_leF, z_ltT, z_ltF, z_eqT, z_eqF, z_inT, z_clamp, z_nI, z_0, z_1, z_2, z_3, z_4, z_5, z_6, z_7, z_8, z_9, z_10, z_11, z_12, z_13, z_14, z_15, z_16, z_17, z_18, z_19, z_20, z_21, z_22, z_23, z_24, z_25, z_26, z_27, z_28, z_29, z_30, z_31, z_32, z_33, z_34, z_35, z_36, z_37, z_38, z_39, z_40, z_41, z_42, z_43, z_44, z_45, z_46, z_47, z_48, z_49, z_50, z_51, z_52, z_53, z_54, z_55, z_56, z_57, z_58, z_59, z_60, z_61, z_77, z_91, z_93, z_97, z_100, z_101, z_102, z_103, z_105, z_111, z_114, z_120, z_123, z_125, z_126, z_200, z_245, z_255, z_576, z_585, z_1000, z_2000, z_3510, z_11700, true_implies, false_implies, implies_true, not_true_eq_false, not_false_eq_true, true_and, and_true, false_and, and_false, ↓reduceIte, Int.reduceToNat, Int.reduceNeg, Int.toNat_natCast, hR, s1, z_min]
        have := ih (k + 1) _ _ (by omega) (by omega) (by rw [tF_s h0]) (zc (show f + k + 1 = f + (k + 1) by omega))
        rw [z_1] at this
        exact this
    simp (disch := omega) only [z_add, z_sub, z_mul, z_neg, z_leT, z_leF, z_ltT, z_ltF, z_eqT, z_eqF, z_inT, z_clamp, z_nI, z_0, z_1, z_2, z_3, z_4, z_5, z_6, z_7, z_8, z_9, z_10, z_11, z_12, z_13, z_14, z_15, z_16, z_17, z_18, z_19, z_20, z_21, z_22, z_23, z_24, z_25, z_26, z_27, z_28, z_29, z_30, z_31, z_32, z_33, z_34, z_35, z_36, z_37, z_38, z_39, z_40, z_41, z_42, z_43, z_44, z_45, z_46, z_47, z_48, z_49, z_50, z_51, z_52, z_53, z_54, z_55, z_56, z_57, z_58, z_59, z_60, z_61, z_77, z_91, z_93, z_97, z_100, z_101, z_102, z_103, z_105, z_111, z_114, z_120, z_123, z_125, z_126, z_200, z_245, z_255, z_576, z_585, z_1000, z_2000, z_3510, z_11700, true_implies, false_implies, implies_true, not_true_eq_false, not_false_eq_true, true_and, and_true, false_and, and_false, ↓reduceIte, Int.reduceToNat, Int.reduceNeg, Int.toNat_natCast]
    have := main (l - f + 1).toNat 0 (zI 1000) (zI f) (by omega) (by omega) (by rw [tF_0]) (zc (by omega))
    rw [z_1] at this
    exact this
