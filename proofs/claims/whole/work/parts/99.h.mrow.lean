/-! ===== the reference reads: its row ===== -/
/-- the row that is read, number rd; the rows before it stay -/
def RWr (M : jM) (rd : Int) (v : Int → Int) : Prop := (0 ≤ rd ∧ rd ≤ 19) ∧ M 11 0 14 = zI rd ∧ ∀ j, 0 ≤ j → j < 585 → M 55 0 (585 * rd + j).toNat = zI (v j)
def lo55 (rd : Int) (M M1 : jM) : Prop := ∀ j : Nat, (j : Int) < 585 * rd → M1 55 0 j = M 55 0 j
theorem RWr_set {M : jM} {rd i x : Int} {v : Int → Int} (h : RWr M rd v) (hi : 0 ≤ i ∧ i < 585) : RWr (jup M 55 0 (585 * rd + i).toNat (zI x)) rd (fun j => if j = i then x else v j) := by
  obtain ⟨h1, h2, h3⟩ := h
  refine ⟨h1, by rw [jup_R (by decide)]; exact h2, fun j j0 j1 => ?_⟩
  by_cases q : j = i
  · rw [q, jup_self]; simp only [↓reduceIte]
  · rw [jup_ne (by omega)]; simp only [if_neg q]; exact h3 j j0 j1
theorem RWr_cg {M : jM} {rd : Int} {v v' : Int → Int} (h : RWr M rd v) (e : ∀ j, 0 ≤ j → j < 585 → v' j = v j) : RWr M rd v' := ⟨h.1, h.2.1, fun j j0 j1 => by rw [e j j0 j1]; exact h.2.2 j j0 j1⟩
theorem RWr_fm {M M1 : jM} {rd : Int} {v : Int → Int} {F : List Nat} (h : RWr M rd v) (hf : fm [] F M M1) (hF : 14 ∉ F := by decide) : RWr M1 rd v := ⟨h.1, by rw [hf.2 14 hF]; exact h.2.1, fun j j0 j1 => by rw [hf.1 55 (by decide) (by decide)]; exact h.2.2 j j0 j1⟩
theorem lo_set {M : jM} {rd i : Int} {x : Int32} (hr : 0 ≤ rd) (hi : 0 ≤ i) : lo55 rd M (jup M 55 0 (585 * rd + i).toNat x) := fun j hj => jup_ne (by omega)
theorem lo_tr {M M1 M2 : jM} {rd : Int} (h : lo55 rd M M1) (h2 : lo55 rd M1 M2) : lo55 rd M M2 := fun j hj => (h2 j hj).trans (h j hj)
set_option maxHeartbeats 4000000 in
set_option maxRecDepth 100000 in
theorem tn_ok {M : jM} {rd s t : Int} {v : Int → Int} {y : Int32} {Q : Int32 → Nat → jM → Prop} (h : RWr M rd v) (hy : y = zI t) (hs : 0 ≤ s ∧ s ≤ 3 ∧ v 3 = s) (hn : 0 ≤ v (101 + s) ∧ v (101 + s) < 120) (hQ : ∀ M1, fm [55] [] M M1 → lo55 rd M M1 → RWr M1 rd (tkV s v t) → Q 0 0 M1) : ok_X12_token y M Q := by
  subst hy
  obtain ⟨h1, h2, h3⟩ := h
  have e3 : M 55 0 (585 * rd + 3).toNat = zI s := by rw [h3 3 (by omega) (by omega), hs.2.2]
  have ec : M 55 0 (585 * rd + (101 + s)).toNat = zI (v (101 + s)) := h3 _ (by omega) (by omega)
  refine en_X12_token (bl_X12_token_0 _ _ _ ?_)
  simp (disch := omega) only [z_add, z_sub, z_mul, z_neg, z_leT, z_leF, z_ltT, z_ltF, z_eqT, z_eqF, z_inT, z_clamp, z_nI, z_0, z_1, z_2, z_3, z_4, z_5, z_6, z_7, z_8, z_9, z_10, z_11, z_12, z_13, z_14, z_15, z_16, z_17, z_18, z_19, z_20, z_21, z_22, z_23, z_24, z_25, z_26, z_27, z_28, z_29, z_30, z_31, z_32, z_33, z_34, z_35, z_36, z_37, z_38, z_39, z_40, z_41, z_42, z_43, z_44, z_45, z_46, z_47, z_48, z_49, z_50, z_51, z_52, z_53, z_54, z_55, z_56, z_57, z_58, z_59, z_60, z_61, z_77, z_91, z_93, z_97, z_100, z_101, z_102, z_103, z_105, z_111, z_114, z_120, z_123, z_125, z_126, z_200, z_245, z_255, z_576, z_585, z_1000, z_2000, z_3510, z_11700, true_implies, false_implies, implies_true, not_true_eq_false, not_false_eq_true, true_and, and_true, false_and, and_false, ↓reduceIte, Int.reduceToNat, Int.reduceNeg, Int.toNat_natCast, h2, e3, ec]
  rintro M8 rfl
  rw [show jup M 55 0 (585 * rd + (105 + 120 * s + v (101 + s))).toNat (zI t) 11 0 14 = zI rd from by rw [jup_R (by decide)]; exact h2]
  simp (disch := omega) only [z_add, z_sub, z_mul, z_neg, z_leT, z_leF, z_ltT, z_ltF, z_eqT, z_eqF, z_inT, z_clamp, z_nI, z_0, z_1, z_2, z_3, z_4, z_5, z_6, z_7, z_8, z_9, z_10, z_11, z_12, z_13, z_14, z_15, z_16, z_17, z_18, z_19, z_20, z_21, z_22, z_23, z_24, z_25, z_26, z_27, z_28, z_29, z_30, z_31, z_32, z_33, z_34, z_35, z_36, z_37, z_38, z_39, z_40, z_41, z_42, z_43, z_44, z_45, z_46, z_47, z_48, z_49, z_50, z_51, z_52, z_53, z_54, z_55, z_56, z_57, z_58, z_59, z_60, z_61, z_77, z_91, z_93, z_97, z_100, z_101, z_102, z_103, z_105, z_111, z_114, z_120, z_123, z_125, z_126, z_200, z_245, z_255, z_576, z_585, z_1000, z_2000, z_3510, z_11700, true_implies, false_implies, implies_true, not_true_eq_false, not_false_eq_true, true_and, and_true, false_and, and_false, ↓reduceIte, Int.reduceToNat, Int.reduceNeg, Int.toNat_natCast]
  rintro M11 rfl
  have R1 := RWr_set (i := 105 + 120 * s + v (101 + s)) (x := t) (⟨h1, h2, h3⟩ : RWr M rd v) (by omega)
  have R2 := RWr_set (i := 101 + s) (x := v (101 + s) + 1) R1 (by omega)
  refine hQ _ (fm_up (fm_up (fm_rf _ _ _))) (lo_tr (lo_set (by omega) (by omega)) (lo_set (by omega) (by omega))) (RWr_cg R2 (fun j j0 j1 => rfl))
set_option maxHeartbeats 4000000 in
set_option maxRecDepth 100000 in
theorem rn_ok8 {M : jM} {rd s a d w : Int} {v : Int → Int} {y z : Int32} {Q : Int32 → Nat → jM → Prop} (h : RWr M rd v) (hy : y = zI (20 * a + d + 9)) (hz : z = zI w) (ha : 0 ≤ a ∧ a ≤ 4) (hd : -9 ≤ d ∧ d ≤ 9) (hs : 0 ≤ s ∧ s ≤ 3 ∧ v 3 = s) (hn : 0 ≤ v 4 ∧ v 4 < 24) (hQ : ∀ M1, fm [55] [] M M1 → lo55 rd M M1 → RWr M1 rd (rfV s v a d w) → Q 0 0 M1) : ok_X12_refers y z M Q := by
  subst hy hz
  have h' := h
  obtain ⟨h1, h2, h3⟩ := h
  have e4 : M 55 0 (585 * rd + 4).toNat = zI (v 4) := h3 4 (by omega) (by omega)
  have q20 : zI (20 * a + d + 9) / 20 = zI a := by rw [z_20, z_div20 (by omega)]; exact zc (by omega)
  have r20 : zI (20 * a + d + 9) - zI (20 * a + d + 9) / 20 * 20 - 9 = zI d := by rw [q20, z_20, z_9, z_mul, z_sub, z_sub]; exact zc (by omega)
  refine en_X12_refers (bl_X12_refers_0 _ _ _ _ ?_)
  have s14 : ∀ (M2 : jM) (i : Nat) (x : Int32), M2 11 0 14 = zI rd → jup M2 55 0 i x 11 0 14 = zI rd := fun M2 i x hM => by rw [jup_R (by decide)]; exact hM
  rw [r20, q20]
  simp (disch := omega) only [z_add, z_sub, z_mul, z_neg, z_leT, z_leF, z_ltT, z_ltF, z_eqT, z_eqF, z_inT, z_clamp, z_nI, z_0, z_1, z_2, z_3, z_4, z_5, z_6, z_7, z_8, z_9, z_10, z_11, z_12, z_13, z_14, z_15, z_16, z_17, z_18, z_19, z_20, z_21, z_22, z_23, z_24, z_25, z_26, z_27, z_28, z_29, z_30, z_31, z_32, z_33, z_34, z_35, z_36, z_37, z_38, z_39, z_40, z_41, z_42, z_43, z_44, z_45, z_46, z_47, z_48, z_49, z_50, z_51, z_52, z_53, z_54, z_55, z_56, z_57, z_58, z_59, z_60, z_61, z_77, z_91, z_93, z_97, z_100, z_101, z_102, z_103, z_105, z_111, z_114, z_120, z_123, z_125, z_126, z_200, z_245, z_255, z_576, z_585, z_1000, z_2000, z_3510, z_11700, true_implies, false_implies, implies_true, not_true_eq_false, not_false_eq_true, true_and, and_true, false_and, and_false, ↓reduceIte, Int.reduceToNat, Int.reduceNeg, Int.toNat_natCast, h2, e4]
  rintro M5 hM5
  have m5 : M5 11 0 14 = zI rd := by rw [hM5]; exact s14 _ _ _ h2
  have R5 : RWr M5 rd (fun j => if j = 5 + v 4 then a else v j) := by rw [hM5]; exact RWr_set h' (by omega)
  simp (disch := omega) only [z_add, z_sub, z_mul, z_neg, z_leT, z_leF, z_ltT, z_ltF, z_eqT, z_eqF, z_inT, z_clamp, z_nI, z_0, z_1, z_2, z_3, z_4, z_5, z_6, z_7, z_8, z_9, z_10, z_11, z_12, z_13, z_14, z_15, z_16, z_17, z_18, z_19, z_20, z_21, z_22, z_23, z_24, z_25, z_26, z_27, z_28, z_29, z_30, z_31, z_32, z_33, z_34, z_35, z_36, z_37, z_38, z_39, z_40, z_41, z_42, z_43, z_44, z_45, z_46, z_47, z_48, z_49, z_50, z_51, z_52, z_53, z_54, z_55, z_56, z_57, z_58, z_59, z_60, z_61, z_77, z_91, z_93, z_97, z_100, z_101, z_102, z_103, z_105, z_111, z_114, z_120, z_123, z_125, z_126, z_200, z_245, z_255, z_576, z_585, z_1000, z_2000, z_3510, z_11700, true_implies, false_implies, implies_true, not_true_eq_false, not_false_eq_true, true_and, and_true, false_and, and_false, ↓reduceIte, Int.reduceToNat, Int.reduceNeg, Int.toNat_natCast, m5]
  rintro M8 hM8
  have m8 : M8 11 0 14 = zI rd := by rw [hM8]; exact s14 _ _ _ m5
  have R8 := RWr_set (i := 29 + v 4) (x := d) R5 (by omega)
  rw [← hM8] at R8
  simp (disch := omega) only [z_add, z_sub, z_mul, z_neg, z_leT, z_leF, z_ltT, z_ltF, z_eqT, z_eqF, z_inT, z_clamp, z_nI, z_0, z_1, z_2, z_3, z_4, z_5, z_6, z_7, z_8, z_9, z_10, z_11, z_12, z_13, z_14, z_15, z_16, z_17, z_18, z_19, z_20, z_21, z_22, z_23, z_24, z_25, z_26, z_27, z_28, z_29, z_30, z_31, z_32, z_33, z_34, z_35, z_36, z_37, z_38, z_39, z_40, z_41, z_42, z_43, z_44, z_45, z_46, z_47, z_48, z_49, z_50, z_51, z_52, z_53, z_54, z_55, z_56, z_57, z_58, z_59, z_60, z_61, z_77, z_91, z_93, z_97, z_100, z_101, z_102, z_103, z_105, z_111, z_114, z_120, z_123, z_125, z_126, z_200, z_245, z_255, z_576, z_585, z_1000, z_2000, z_3510, z_11700, true_implies, false_implies, implies_true, not_true_eq_false, not_false_eq_true, true_and, and_true, false_and, and_false, ↓reduceIte, Int.reduceToNat, Int.reduceNeg, Int.toNat_natCast, m8]
  rintro M11 hM11
  have m11 : M11 11 0 14 = zI rd := by rw [hM11]; exact s14 _ _ _ m8
  have R11 := RWr_set (i := 53 + v 4) (x := w) R8 (by omega)
  rw [← hM11] at R11
  have e3 : M11 55 0 (585 * rd + 3).toNat = zI s := by
    rw [R11.2.2 3 (by omega) (by omega)]
    simp only [if_neg (show ¬ (3 : Int) = 53 + v 4 by omega), if_neg (show ¬ (3 : Int) = 29 + v 4 by omega), if_neg (show ¬ (3 : Int) = 5 + v 4 by omega)]
    rw [hs.2.2]
  simp (disch := omega) only [z_add, z_sub, z_mul, z_neg, z_leT, z_leF, z_ltT, z_ltF, z_eqT, z_eqF, z_inT, z_clamp, z_nI, z_0, z_1, z_2, z_3, z_4, z_5, z_6, z_7, z_8, z_9, z_10, z_11, z_12, z_13, z_14, z_15, z_16, z_17, z_18, z_19, z_20, z_21, z_22, z_23, z_24, z_25, z_26, z_27, z_28, z_29, z_30, z_31, z_32, z_33, z_34, z_35, z_36, z_37, z_38, z_39, z_40, z_41, z_42, z_43, z_44, z_45, z_46, z_47, z_48, z_49, z_50, z_51, z_52, z_53, z_54, z_55, z_56, z_57, z_58, z_59, z_60, z_61, z_77, z_91, z_93, z_97, z_100, z_101, z_102, z_103, z_105, z_111, z_114, z_120, z_123, z_125, z_126, z_200, z_245, z_255, z_576, z_585, z_1000, z_2000, z_3510, z_11700, true_implies, false_implies, implies_true, not_true_eq_false, not_false_eq_true, true_and, and_true, false_and, and_false, ↓reduceIte, Int.reduceToNat, Int.reduceNeg, Int.toNat_natCast, m11, e3]
  rintro M17 hM17
  have m17 : M17 11 0 14 = zI rd := by rw [hM17]; exact s14 _ _ _ m11
  have R17 := RWr_set (i := 77 + v 4) (x := s) R11 (by omega)
  rw [← hM17] at R17
  simp (disch := omega) only [z_add, z_sub, z_mul, z_neg, z_leT, z_leF, z_ltT, z_ltF, z_eqT, z_eqF, z_inT, z_clamp, z_nI, z_0, z_1, z_2, z_3, z_4, z_5, z_6, z_7, z_8, z_9, z_10, z_11, z_12, z_13, z_14, z_15, z_16, z_17, z_18, z_19, z_20, z_21, z_22, z_23, z_24, z_25, z_26, z_27, z_28, z_29, z_30, z_31, z_32, z_33, z_34, z_35, z_36, z_37, z_38, z_39, z_40, z_41, z_42, z_43, z_44, z_45, z_46, z_47, z_48, z_49, z_50, z_51, z_52, z_53, z_54, z_55, z_56, z_57, z_58, z_59, z_60, z_61, z_77, z_91, z_93, z_97, z_100, z_101, z_102, z_103, z_105, z_111, z_114, z_120, z_123, z_125, z_126, z_200, z_245, z_255, z_576, z_585, z_1000, z_2000, z_3510, z_11700, true_implies, false_implies, implies_true, not_true_eq_false, not_false_eq_true, true_and, and_true, false_and, and_false, ↓reduceIte, Int.reduceToNat, Int.reduceNeg, Int.toNat_natCast, m17]
  rintro M20 hM20
  have R20 := RWr_set (i := 4) (x := v 4 + 1) R17 (by omega)
  rw [← hM20] at R20
  refine hQ M20 ?_ ?_ (RWr_cg R20 (fun j j0 j1 => rfl))
  · rw [hM20, hM17, hM11, hM8, hM5]
    exact fm_up (fm_up (fm_up (fm_up (fm_up (fm_rf _ _ _)))))
  · rw [hM20, hM17, hM11, hM8, hM5]
    exact lo_tr (lo_tr (lo_tr (lo_tr (lo_set (by omega) (by omega)) (lo_set (by omega) (by omega))) (lo_set (by omega) (by omega))) (lo_set (by omega) (by omega))) (lo_set (by omega) (by omega))
