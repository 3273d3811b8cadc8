/-! ===== a plan is executed ===== -/
def rnC (w : Int → Int → Int) (o : Int → Int) (z : Int → Int) (T : Int) (C : Nat → Int32) : Nat → Int32 := ni T (fun j C => exG w (gs z j) (gs z (j + 1) - 1) C) (iniC (o 2) C)
def frX (k : Nat) (M M1 : jM) : Prop := fr [1, 5, 27, 33, 34] M M1 ∧ M1 1 0 4 = M 1 0 4 ∧ (∀ j, j ≠ k → M1 5 j = M 5 j) ∧ (∀ x, x ≠ 11 → M1 5 k x = M 5 k x) ∧ ∀ j, j ≠ k + 1 → M1 33 j = M 33 j
theorem frX_tr {k : Nat} {M M1 M2 : jM} (h : frX k M M1) (h2 : frX k M1 M2) : frX k M M2 :=
  ⟨fr_tr h.1 h2.1, h2.2.1.trans h.2.1, fun j hj => (h2.2.2.1 j hj).trans (h.2.2.1 j hj), fun x hx => (h2.2.2.2.1 x hx).trans (h.2.2.2.1 x hx), fun j hj => (h2.2.2.2.2 j hj).trans (h.2.2.2.2 j hj)⟩
theorem frX_rf {k : Nat} {M : jM} : frX k M M := ⟨fr_rf _ _, rfl, fun _ _ => rfl, fun _ _ => rfl, fun _ _ => rfl⟩
theorem frX_fr {k : Nat} {S : List Nat} {M M1 : jM} (h : fr S M M1) (h4 : M1 1 0 4 = M 1 0 4) (h5 : 5 ∉ S := by decide) (h33 : 33 ∉ S := by decide) (hS : ∀ R ∈ S, R ∈ [1, 5, 27, 33, 34] := by decide) : frX k M M1 :=
  ⟨fr_mono h hS, h4, fun j _ => by rw [h 5 h5], fun x _ => by rw [h 5 h5], fun j _ => by rw [h 33 h33]⟩
theorem frX_M {k : Nat} {M M1 : jM} (h : frM (k + 1) M M1) : frX k M M1 :=
  ⟨fr_mono h.1, by rw [h.1 1 (by decide)], fun j _ => by rw [h.1 5 (by decide)], fun x _ => by rw [h.1 5 (by decide)], h.2⟩
theorem PLN_fr {M M1 : jM} {k : Nat} {z : Int → Int} {n T : Int} (h : PLN M k z n T) (h9 : M1 5 k 9 = M 5 k 9) (h35 : M1 35 = M 35) : PLN M1 k z n T := by
  unfold PLN at *
  rw [h9, h35]
  exact h
set_option maxHeartbeats 4000000 in
set_option maxRecDepth 100000 in
theorem ex_ok {M0 : jM} {k : Nat} {n : Int} {w : Int → Int → Int} {o : Int → Int} {z : Int → Int} {T a ver : Int} {Q : Int32 → Nat → jM → Prop} (hk : k < 3) (hG : GH n w o) (hP : PR M0 0 n w o) (hnb : jnb M0 ≤ 100000) (hN : NE M0 n w) (hz : zok z n) (hL : PLN M0 k z n T) (hv : M0 6 0 3 = zI ver) (ha : M0 5 k 11 = zI a) (hav : -1 ≤ a ∧ a ≤ ver ∧ ver < 100000) (hC : a = ver → ∃ C, M0 33 (k + 1) = rnC w o z T C) (hQ : ∀ M1 C, frX k M0 M1 → M1 5 k 11 = zI ver → M1 33 (k + 1) = rnC w o z T C → Q 0 0 M1) : ok_X5_execute k M0 Q := by
  have hn := hG.1
  have hTn := gs_at hz hn.1 hL.1 hL.1.1 (Int.le_refl T)
  rw [hL.1.2.1] at hTn
  refine en_X5_execute (bl_X5_execute_0 _ _ _ hk ?_)
  by_cases e : a = ver
  · obtain ⟨C, hC⟩ := hC e
    simp (disch := omega) only [z_add, z_sub, z_mul, z_neg, z_leT, z_leF, z_ltT, z_ltF, z_eqT, z_eqF, z_inT, z_clamp, z_nI, z_0, z_1, z_2, z_3, z_4, z_5, z_6, z_7, z_8, z_9, z_10, z_11, z_12, z_13, z_14, z_15, z_16, z_17, z_18, z_19, z_20, z_21, z_22, z_23, z_24, z_25, z_26, z_27, z_28, z_29, z_30, z_31, z_32, z_33, z_34, z_35, z_36, z_37, z_38, z_39, z_40, z_41, z_42, z_43, z_44, z_45, z_46, z_47, z_48, z_49, z_50, z_51, z_52, z_53, z_54, z_55, z_56, z_57, z_58, z_59, z_60, z_61, z_77, z_91, z_93, z_97, z_100, z_101, z_102, z_103, z_105, z_111, z_114, z_120, z_123, z_125, z_126, z_200, z_245, z_255, z_576, z_585, z_1000, z_2000, z_3510, z_11700, true_implies, false_implies, implies_true, not_true_eq_false, not_false_eq_true, true_and, and_true, false_and, and_false, ↓reduceIte, Int.reduceToNat, Int.reduceNeg, Int.toNat_natCast, ha, hv, e]
    exact hQ M0 C frX_rf (by rw [ha, e]) hC
  · have h2 := hP.2.1.2.2
    have main : ∀ (d : Nat) (j : Int) (v1 : Int32) (M : jM), j + d = T → 0 ≤ j → v1 = zI j → frX k M0 M → M 33 (k + 1) = ni j (fun j C => exG w (gs z j) (gs z (j + 1) - 1) C) (iniC (o 2) (M0 33 (k + 1))) → at_X5_execute_33 k v1 M Q := by
      intro d
      induction d with
      | zero =>
        intro j v1 M hd h0 h1 hfr hc
        subst h1
        refine bl_X5_execute_33 _ _ _ _ hk ?_
        have e9 : M 5 k 9 = zI T := by rw [hfr.2.2.2.1 9 (by decide)]; exact hL.2.1
        have ev : M 6 0 3 = zI ver := by rw [hfr.1 6 (by decide)]; exact hv
        simp (disch := omega) only [z_add, z_sub, z_mul, z_neg, z_leT, z_leF, z_ltT, z_ltF, z_eqT, z_eqF, z_inT, z_clamp, z_nI, z_0, z_1, z_2, z_3, z_4, z_5, z_6, z_7, z_8, z_9, z_10, z_11, z_12, z_13, z_14, z_15, z_16, z_17, z_18, z_19, z_20, z_21, z_22, z_23, z_24, z_25, z_26, z_27, z_28, z_29, z_30, z_31, z_32, z_33, z_34, z_35, z_36, z_37, z_38, z_39, z_40, z_41, z_42, z_43, z_44, z_45, z_46, z_47, z_48, z_49, z_50, z_51, z_52, z_53, z_54, z_55, z_56, z_57, z_58, z_59, z_60, z_61, z_77, z_91, z_93, z_97, z_100, z_101, z_102, z_103, z_105, z_111, z_114, z_120, z_123, z_125, z_126, z_200, z_245, z_255, z_576, z_585, z_1000, z_2000, z_3510, z_11700, true_implies, false_implies, implies_true, not_true_eq_false, not_false_eq_true, true_and, and_true, false_and, and_false, ↓reduceIte, Int.reduceToNat, Int.reduceNeg, Int.toNat_natCast, e9, ev]
        rintro M1 rfl
        refine hQ _ (M0 33 (k + 1)) ⟨fr_up hfr.1, ?_, fun j hj => ?_, fun x hx => ?_, fun j hj => ?_⟩ ?_ ?_
        · simp (disch := omega) only [jup_self, jup_ne, z_add, z_sub, z_mul, z_neg, z_leT, z_leF, z_ltT, z_ltF, z_eqT, z_eqF, z_inT, z_clamp, z_nI, z_0, z_1, z_2, z_3, z_4, z_5, z_6, z_7, z_8, z_9, z_10, z_11, z_12, z_13, z_14, z_15, z_16, z_17, z_18, z_19, z_20, z_21, z_22, z_23, z_24, z_25, z_26, z_27, z_28, z_29, z_30, z_31, z_32, z_33, z_34, z_35, z_36, z_37, z_38, z_39, z_40, z_41, z_42, z_43, z_44, z_45, z_46, z_47, z_48, z_49, z_50, z_51, z_52, z_53, z_54, z_55, z_56, z_57, z_58, z_59, z_60, z_61, z_77, z_91, z_93, z_97, z_100, z_101, z_102, z_103, z_105, z_111, z_114, z_120, z_123, z_125, z_126, z_200, z_245, z_255, z_576, z_585, z_1000, z_2000, z_3510, z_11700, true_implies, false_implies, implies_true, not_true_eq_false, not_false_eq_true, true_and, and_true, false_and, and_false, ↓reduceIte, Int.reduceToNat, Int.reduceNeg, Int.toNat_natCast, hfr.2.1]
        · rw [← hfr.2.2.1 j hj]; funext y; exact jup_ne (fun z => hj z.2.1)
        · rw [← hfr.2.2.2.1 x hx]; exact jup_ne (fun z => hx z.2.2)
        · rw [← hfr.2.2.2.2 j hj]; funext y; exact jup_R (by decide)
        · simp (disch := omega) only [jup_self, jup_ne, z_add, z_sub, z_mul, z_neg, z_leT, z_leF, z_ltT, z_ltF, z_eqT, z_eqF, z_inT, z_clamp, z_nI, z_0, z_1, z_2, z_3, z_4, z_5, z_6, z_7, z_8, z_9, z_10, z_11, z_12, z_13, z_14, z_15, z_16, z_17, z_18, z_19, z_20, z_21, z_22, z_23, z_24, z_25, z_26, z_27, z_28, z_29, z_30, z_31, z_32, z_33, z_34, z_35, z_36, z_37, z_38, z_39, z_40, z_41, z_42, z_43, z_44, z_45, z_46, z_47, z_48, z_49, z_50, z_51, z_52, z_53, z_54, z_55, z_56, z_57, z_58, z_59, z_60, z_61, z_77, z_91, z_93, z_97, z_100, z_101, z_102, z_103, z_105, z_111, z_114, z_120, z_123, z_125, z_126, z_200, z_245, z_255, z_576, z_585, z_1000, z_2000, z_3510, z_11700, true_implies, false_implies, implies_true, not_true_eq_false, not_false_eq_true, true_and, and_true, false_and, and_false, ↓reduceIte, Int.reduceToNat, Int.reduceNeg, Int.toNat_natCast]
        · rw [jup_o (by decide), hc, show j = T by omega]
          rfl
      | succ d ih =>
        intro j v1 M hd h0 h1 hfr hc
        subst h1
        refine bl_X5_execute_33 _ _ _ _ hk ?_
        have e9 : M 5 k 9 = zI T := by rw [hfr.2.2.2.1 9 (by decide)]; exact hL.2.1
        have hP' := PR_r hP hfr.1
        have hN' : NE M n w := by unfold NE at *; rw [hfr.1 29 (by decide)]; exact hN
        have hL' := PLN_fr hL (hfr.2.2.2.1 9 (by decide)) (hfr.1 35 (by decide))
        have b1 := gs_at hz hn.1 hL.1 h0 (by omega)
        have b2 := gs_at hz hn.1 hL.1 (show 0 ≤ j + 1 by omega) (by omega)
        have b3 := hz (gs z j) b1.1 (hL.1.2.2 j h0 (by omega))
        have b4 := gs_s (z := z) h0
        simp (disch := omega) only [z_add, z_sub, z_mul, z_neg, z_leT, z_leF, z_ltT, z_ltF, z_eqT, z_eqF, z_inT, z_clamp, z_nI, z_0, z_1, z_2, z_3, z_4, z_5, z_6, z_7, z_8, z_9, z_10, z_11, z_12, z_13, z_14, z_15, z_16, z_17, z_18, z_19, z_20, z_21, z_22, z_23, z_24, z_25, z_26, z_27, z_28, z_29, z_30, z_31, z_32, z_33, z_34, z_35, z_36, z_37, z_38, z_39, z_40, z_41, z_42, z_43, z_44, z_45, z_46, z_47, z_48, z_49, z_50, z_51, z_52, z_53, z_54, z_55, z_56, z_57, z_58, z_59, z_60, z_61, z_77, z_91, z_93, z_97, z_100, z_101, z_102, z_103, z_105, z_111, z_114, z_120, z_123, z_125, z_126, z_200, z_245, z_255, z_576, z_585, z_1000, z_2000, z_3510, z_11700, true_implies, false_implies, implies_true, not_true_eq_false, not_false_eq_true, true_and, and_true, false_and, and_false, ↓reduceIte, Int.reduceToNat, Int.reduceNeg, Int.toNat_natCast, e9]
        refine tg_ok hk hG hP' hN' hz hL' ⟨h0, by omega⟩ (fun M3 c1 c2 c3 => ⟨fr_nb c1, ?_⟩)
        refine pfm_ok (f := gs z j) (l := gs z (j + 1) - 1) (by omega) (PR_r hP' c1) hG (by rw [fr_nb c1, fr_nb hfr.1]; exact hnb) c3 b1.1 (by omega) (by omega) (fun M5 d1 d2 => ⟨fr_nb d1.1, ?_⟩)
        refine ih (j + 1) _ M5 (by omega) (by omega) rfl (frX_tr hfr (frX_tr (frX_fr c1 c2) (frX_M d1))) ?_
        rw [d2, c1 33 (by decide), hc, ni_s h0]
    simp (disch := omega) only [z_add, z_sub, z_mul, z_neg, z_leT, z_leF, z_ltT, z_ltF, z_eqT, z_eqF, z_inT, z_clamp, z_nI, z_0, z_1, z_2, z_3, z_4, z_5, z_6, z_7, z_8, z_9, z_10, z_11, z_12, z_13, z_14, z_15, z_16, z_17, z_18, z_19, z_20, z_21, z_22, z_23, z_24, z_25, z_26, z_27, z_28, z_29, z_30, z_31, z_32, z_33, z_34, z_35, z_36, z_37, z_38, z_39, z_40, z_41, z_42, z_43, z_44, z_45, z_46, z_47, z_48, z_49, z_50, z_51, z_52, z_53, z_54, z_55, z_56, z_57, z_58, z_59, z_60, z_61, z_77, z_91, z_93, z_97, z_100, z_101, z_102, z_103, z_105, z_111, z_114, z_120, z_123, z_125, z_126, z_200, z_245, z_255, z_576, z_585, z_1000, z_2000, z_3510, z_11700, true_implies, false_implies, implies_true, not_true_eq_false, not_false_eq_true, true_and, and_true, false_and, and_false, ↓reduceIte, Int.reduceToNat, Int.reduceNeg, Int.toNat_natCast, ha, hv, h2]
    refine beg_ok (by omega) (fun M2 c1 c2 c3 => ⟨fr_nb c1.1, ?_⟩)
    refine main T.toNat 0 _ M2 (by have := hL.1.1; omega) (by omega) rfl (frX_M c1) ?_
    rw [ni_0 (Int.le_refl 0), c3]
