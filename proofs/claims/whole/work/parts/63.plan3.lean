/-! ===== plans of the class: made, taken, executed ===== -/
/-- plan k is made -/
def PLN (M : jM) (k : Nat) (z : Int → Int) (n T : Int) : Prop := isNG z n T ∧ M 5 k 9 = zI T ∧ ∀ j, 0 ≤ j → j ≤ T → M 35 k j.toNat = zI (gs z j)
theorem gw_ok {M : jM} {k : Nat} {z : Int → Int} {n T l : Int} {Q : Int32 → Nat → jM → Prop} (hk : k < 3) (hn : 0 ≤ n ∧ n ≤ 6) (hz : zok z n) (hP : PLN M k z n T) (hl : 0 ≤ l ∧ l < n) (hQ : ∀ j, 0 ≤ j → j < T → gs z j ≤ l → l < gs z (j + 1) → Q (zI j) 0 M) : ok_X5_groupWith k (zI l) M Q := by
  obtain ⟨hT, e9, hs⟩ := hP
  have hTn := gs_at hz hn.1 hT hT.1 (Int.le_refl T)
  rw [hT.2.1] at hTn
  have main : ∀ (d : Nat) (j g : Int) (v2 v3 : Int32), j + d = T → 1 ≤ j → v2 = zI g → v3 = zI j → 0 ≤ g → g < j → gs z g ≤ l → (∀ x, g < x → x < j → l < gs z x) → at_X5_groupWith_4 k (zI l) v2 v3 M Q := by
    intro d
    induction d with
    | zero =>
      intro j g v2 v3 hd h1 h2 h3 g0 g1 g2 g3
      subst h2 h3
      refine bl_X5_groupWith_4 _ _ _ _ _ _ hk ?_
      have fin : l < gs z (g + 1) := by
        by_cases e : g + 1 = T
        · rw [e, hT.2.1]; omega
        · exact g3 (g + 1) (by omega) (by omega)
      simp (disch := omega) only [z_add, z_sub, z_mul, z_neg, z_leT, z_leF, z_ltT, z_ltF, z_eqT, z_eqF, z_inT, z_clamp, z_nI, z_0, z_1, z_2, z_3, z_4, z_5, z_6, z_7, z_8, z_9, z_10, z_11, z_12, z_13, z_14, z_15, z_16, z_17, z_18, z_19, z_20, z_21, z_22, z_23, z_24, z_25, z_26, z_27, z_28, z_29, z_30, z_31, z_32, z_33, z_34, z_35, z_36, z_37, z_38, z_39, z_40, z_41, z_42, z_43, z_44, z_45, z_46, z_47, z_48, z_49, z_50, z_51, z_52, z_53, z_54, z_55, z_56, z_57, z_58, z_59, z_60, z_61, z_77, z_91, z_93, z_97, z_100, z_101, z_102, z_103, z_105, z_111, z_114, z_120, z_123, z_125, z_126, z_200, z_245, z_255, z_576, z_585, z_1000, z_2000, z_3510, z_11700, true_implies, false_implies, implies_true, not_true_eq_false, not_false_eq_true, true_and, and_true, false_and, and_false, ↓reduceIte, Int.reduceToNat, Int.reduceNeg, Int.toNat_natCast, e9]
      exact hQ g g0 (by omega) g2 fin
    | succ d ih =>
      intro j g v2 v3 hd h1 h2 h3 g0 g1 g2 g3
      subst h2 h3
      refine bl_X5_groupWith_4 _ _ _ _ _ _ hk ?_
      have e := hs j (by omega) (by omega)
      have b := gs_at hz hn.1 hT (show 0 ≤ j by omega) (by omega)
      by_cases q : l < gs z j
      · simp (disch := omega) only [z_add, z_sub, z_mul, z_neg, z_leT, z_leF, z_ltT, z_ltF, z_eqT, z_eqF, z_inT, z_clamp, z_nI, z_0, z_1, z_2, z_3, z_4, z_5, z_6, z_7, z_8, z_9, z_10, z_11, z_12, z_13, z_14, z_15, z_16, z_17, z_18, z_19, z_20, z_21, z_22, z_23, z_24, z_25, z_26, z_27, z_28, z_29, z_30, z_31, z_32, z_33, z_34, z_35, z_36, z_37, z_38, z_39, z_40, z_41, z_42, z_43, z_44, z_45, z_46, z_47, z_48, z_49, z_50, z_51, z_52, z_53, z_54, z_55, z_56, z_57, z_58, z_59, z_60, z_61, z_77, z_91, z_93, z_97, z_100, z_101, z_102, z_103, z_105, z_111, z_114, z_120, z_123, z_125, z_126, z_200, z_245, z_255, z_576, z_585, z_1000, z_2000, z_3510, z_11700, true_implies, false_implies, implies_true, not_true_eq_false, not_false_eq_true, true_and, and_true, false_and, and_false, ↓reduceIte, Int.reduceToNat, Int.reduceNeg, Int.toNat_natCast, e9, e]
        exact ih (j + 1) g _ _ (by omega) (by omega) rfl rfl g0 (by omega) g2 (fun x a1 a2 => by
          by_cases e2 : x = j
          · rw [e2]; exact q
          · exact g3 x a1 (by omega))
      · simp (disch := omega) only [z_add, z_sub, z_mul, z_neg, z_leT, z_leF, z_ltT, z_ltF, z_eqT, z_eqF, z_inT, z_clamp, z_nI, z_0, z_1, z_2, z_3, z_4, z_5, z_6, z_7, z_8, z_9, z_10, z_11, z_12, z_13, z_14, z_15, z_16, z_17, z_18, z_19, z_20, z_21, z_22, z_23, z_24, z_25, z_26, z_27, z_28, z_29, z_30, z_31, z_32, z_33, z_34, z_35, z_36, z_37, z_38, z_39, z_40, z_41, z_42, z_43, z_44, z_45, z_46, z_47, z_48, z_49, z_50, z_51, z_52, z_53, z_54, z_55, z_56, z_57, z_58, z_59, z_60, z_61, z_77, z_91, z_93, z_97, z_100, z_101, z_102, z_103, z_105, z_111, z_114, z_120, z_123, z_125, z_126, z_200, z_245, z_255, z_576, z_585, z_1000, z_2000, z_3510, z_11700, true_implies, false_implies, implies_true, not_true_eq_false, not_false_eq_true, true_and, and_true, false_and, and_false, ↓reduceIte, Int.reduceToNat, Int.reduceNeg, Int.toNat_natCast, e9, e]
        exact ih (j + 1) j _ _ (by omega) (by omega) rfl rfl (by omega) (by omega) (by omega) (fun x a1 a2 => by omega)
  refine en_X5_groupWith (bl_X5_groupWith_0 _ _ _ _ hk ?_)
  have hT1 : 1 ≤ T := by
    by_cases e : T = 0
    · have := hT.2.1
      rw [e, gs_0] at this
      omega
    · have := hT.1; omega
  exact main (T - 1).toNat 1 0 _ _ (by omega) (by omega) rfl rfl (by omega) (by omega) (by rw [gs_0]; omega) (fun x a1 a2 => by omega)
theorem tg_ok {M : jM} {k : Nat} {n : Int} {w : Int → Int → Int} {o : Int → Int} {z : Int → Int} {T j : Int} {Q : Int32 → Nat → jM → Prop} (hk : k < 3) (hG : GH n w o) (hP : PR M 0 n w o) (hN : NE M n w) (hz : zok z n) (hL : PLN M k z n T) (hj : 0 ≤ j ∧ j < T) (hQ : ∀ M1, fr [1, 27] M M1 → M1 1 0 4 = M 1 0 4 → GS M1 w (gs z j) (gs z (j + 1) - 1) → Q 0 0 M1) : ok_X5_takeGroup k (zI j) M Q := by
  obtain ⟨hT, e9, hs⟩ := hL
  have hn := hG.1
  have hTn := gs_at hz hn.1 hT hT.1 (Int.le_refl T)
  rw [hT.2.1] at hTn
  have b1 := gs_at hz hn.1 hT hj.1 (by omega)
  have b2 := gs_at hz hn.1 hT (show 0 ≤ j + 1 by omega) (by omega)
  have b3 := hz (gs z j) b1.1 (hT.2.2 j hj.1 hj.2)
  have e1 := hs j hj.1 (by omega)
  have e2 := hs (j + 1) (by omega) (by omega)
  have b4 := gs_s (z := z) hj.1
  refine en_X5_takeGroup (bl_X5_takeGroup_0 _ _ _ _ hk ?_)
  simp (disch := omega) only [z_add, z_sub, z_mul, z_neg, z_leT, z_leF, z_ltT, z_ltF, z_eqT, z_eqF, z_inT, z_clamp, z_nI, z_0, z_1, z_2, z_3, z_4, z_5, z_6, z_7, z_8, z_9, z_10, z_11, z_12, z_13, z_14, z_15, z_16, z_17, z_18, z_19, z_20, z_21, z_22, z_23, z_24, z_25, z_26, z_27, z_28, z_29, z_30, z_31, z_32, z_33, z_34, z_35, z_36, z_37, z_38, z_39, z_40, z_41, z_42, z_43, z_44, z_45, z_46, z_47, z_48, z_49, z_50, z_51, z_52, z_53, z_54, z_55, z_56, z_57, z_58, z_59, z_60, z_61, z_77, z_91, z_93, z_97, z_100, z_101, z_102, z_103, z_105, z_111, z_114, z_120, z_123, z_125, z_126, z_200, z_245, z_255, z_576, z_585, z_1000, z_2000, z_3510, z_11700, true_implies, false_implies, implies_true, not_true_eq_false, not_false_eq_true, true_and, and_true, false_and, and_false, ↓reduceIte, Int.reduceToNat, Int.reduceNeg, Int.toNat_natCast, e1, e2]
  exact take_ok hP hG hN b1.1 (by omega) (by omega) (fun M1 a1 a2 a3 => ⟨fr_nb a1, hQ M1 a1 a2 a3⟩)
theorem sf_ok {M : jM} {k : Nat} {n : Int} {w : Int → Int → Int} {o : Int → Int} {f : Int} {Q : Int32 → Nat → jM → Prop} (hk : k < 3) (hG : GH n w o) (hP : PR M 0 n w o) (hN : NE M n w) (h0 : M 5 k 0 = zI k) (hf : 0 ≤ f ∧ f < n) (hS : 2 ≤ k → ∀ g, 0 ≤ g → g < n → M 38 k g.toNat = zI (dp w o n g).2.2) (hQ : ∀ M1, fr [1, 27] M M1 → M1 1 0 4 = M 1 0 4 → Q (zI (az w o n k f)) 0 M1) : ok_X5_sizeFrom k (zI f) M Q := by
  have hn := hG.1
  refine en_X5_sizeFrom (bl_X5_sizeFrom_0 _ _ _ _ hk ?_)
  rcases (show k = 0 ∨ k = 1 ∨ k = 2 by omega) with q | q | q
  · subst q
    simp (disch := omega) only [z_add, z_sub, z_mul, z_neg, z_leT, z_leF, z_ltT, z_ltF, z_eqT, z_eqF, z_inT, z_clamp, z_nI, z_0, z_1, z_2, z_3, z_4, z_5, z_6, z_7, z_8, z_9, z_10, z_11, z_12, z_13, z_14, z_15, z_16, z_17, z_18, z_19, z_20, z_21, z_22, z_23, z_24, z_25, z_26, z_27, z_28, z_29, z_30, z_31, z_32, z_33, z_34, z_35, z_36, z_37, z_38, z_39, z_40, z_41, z_42, z_43, z_44, z_45, z_46, z_47, z_48, z_49, z_50, z_51, z_52, z_53, z_54, z_55, z_56, z_57, z_58, z_59, z_60, z_61, z_77, z_91, z_93, z_97, z_100, z_101, z_102, z_103, z_105, z_111, z_114, z_120, z_123, z_125, z_126, z_200, z_245, z_255, z_576, z_585, z_1000, z_2000, z_3510, z_11700, true_implies, false_implies, implies_true, not_true_eq_false, not_false_eq_true, true_and, and_true, false_and, and_false, ↓reduceIte, Int.reduceToNat, Int.reduceNeg, Int.toNat_natCast, h0]
    have := hQ M (fr_rf _ _) rfl
    unfold az at this
    rw [if_pos (by omega)] at this
    exact this
  · subst q
    simp (disch := omega) only [z_add, z_sub, z_mul, z_neg, z_leT, z_leF, z_ltT, z_ltF, z_eqT, z_eqF, z_inT, z_clamp, z_nI, z_0, z_1, z_2, z_3, z_4, z_5, z_6, z_7, z_8, z_9, z_10, z_11, z_12, z_13, z_14, z_15, z_16, z_17, z_18, z_19, z_20, z_21, z_22, z_23, z_24, z_25, z_26, z_27, z_28, z_29, z_30, z_31, z_32, z_33, z_34, z_35, z_36, z_37, z_38, z_39, z_40, z_41, z_42, z_43, z_44, z_45, z_46, z_47, z_48, z_49, z_50, z_51, z_52, z_53, z_54, z_55, z_56, z_57, z_58, z_59, z_60, z_61, z_77, z_91, z_93, z_97, z_100, z_101, z_102, z_103, z_105, z_111, z_114, z_120, z_123, z_125, z_126, z_200, z_245, z_255, z_576, z_585, z_1000, z_2000, z_3510, z_11700, true_implies, false_implies, implies_true, not_true_eq_false, not_false_eq_true, true_and, and_true, false_and, and_false, ↓reduceIte, Int.reduceToNat, Int.reduceNeg, Int.toNat_natCast, h0]
    refine longest_ok hP hG hN hf.1 hf.2 (fun M1 a1 a2 => ⟨fr_nb a1, ?_⟩)
    have := hQ M1 a1 a2
    unfold az at this
    rw [if_neg (by omega), if_pos (by omega)] at this
    exact this
  · subst q
    have e := hS (by omega) f hf.1 hf.2
    simp (disch := omega) only [z_add, z_sub, z_mul, z_neg, z_leT, z_leF, z_ltT, z_ltF, z_eqT, z_eqF, z_inT, z_clamp, z_nI, z_0, z_1, z_2, z_3, z_4, z_5, z_6, z_7, z_8, z_9, z_10, z_11, z_12, z_13, z_14, z_15, z_16, z_17, z_18, z_19, z_20, z_21, z_22, z_23, z_24, z_25, z_26, z_27, z_28, z_29, z_30, z_31, z_32, z_33, z_34, z_35, z_36, z_37, z_38, z_39, z_40, z_41, z_42, z_43, z_44, z_45, z_46, z_47, z_48, z_49, z_50, z_51, z_52, z_53, z_54, z_55, z_56, z_57, z_58, z_59, z_60, z_61, z_77, z_91, z_93, z_97, z_100, z_101, z_102, z_103, z_105, z_111, z_114, z_120, z_123, z_125, z_126, z_200, z_245, z_255, z_576, z_585, z_1000, z_2000, z_3510, z_11700, true_implies, false_implies, implies_true, not_true_eq_false, not_false_eq_true, true_and, and_true, false_and, and_false, ↓reduceIte, Int.reduceToNat, Int.reduceNeg, Int.toNat_natCast, h0, e]
    have := hQ M (fr_rf _ _) rfl
    unfold az at this
    rw [if_neg (by omega), if_neg (by omega)] at this
    exact this
/-- what making plan k changes -/
def frK (k : Nat) (M M1 : jM) : Prop := fr [1, 5, 9, 27, 35, 36, 37, 38, 43] M M1 ∧ M1 1 0 4 = M 1 0 4 ∧ (∀ j, j ≠ k → M1 5 j = M 5 j ∧ M1 35 j = M 35 j) ∧ ∀ x, x ≠ 9 → x ≠ 10 → M1 5 k x = M 5 k x
theorem frK_tr {k : Nat} {M M1 M2 : jM} (h : frK k M M1) (h2 : frK k M1 M2) : frK k M M2 :=
  ⟨fr_tr h.1 h2.1, h2.2.1.trans h.2.1, fun j hj => ⟨(h2.2.2.1 j hj).1.trans (h.2.2.1 j hj).1, (h2.2.2.1 j hj).2.trans (h.2.2.1 j hj).2⟩, fun x a b => (h2.2.2.2 x a b).trans (h.2.2.2 x a b)⟩
theorem frK_rf {k : Nat} {M : jM} : frK k M M := ⟨fr_rf _ _, rfl, fun _ _ => ⟨rfl, rfl⟩, fun _ _ _ => rfl⟩
theorem frK_fr {k : Nat} {S : List Nat} {M M1 : jM} (h : fr S M M1) (h4 : M1 1 0 4 = M 1 0 4) (h5 : 5 ∉ S := by decide) (h35 : 35 ∉ S := by decide) (hS : ∀ R ∈ S, R ∈ [1, 5, 9, 27, 35, 36, 37, 38, 43] := by decide) : frK k M M1 :=
  ⟨fr_mono h hS, h4, fun j _ => by rw [h 5 h5, h 35 h35]; exact ⟨rfl, rfl⟩, fun x _ _ => by rw [h 5 h5]⟩
theorem frK_5 {k x : Nat} {M : jM} {v : Int32} (hx : x = 9 ∨ x = 10) : frK k M (jup M 5 k x v) :=
  ⟨fr_up (fr_rf _ _), jup_R (by decide), fun j hj => ⟨by funext y; exact jup_ne (fun z => hj z.2.1), by funext y; exact jup_R (by decide)⟩, fun y a b => jup_ne (fun z => by rcases hx with hx | hx <;> omega)⟩
theorem frK_35 {k x : Nat} {M : jM} {v : Int32} : frK k M (jup M 35 k x v) :=
  ⟨fr_up (fr_rf _ _), jup_R (by decide), fun j hj => ⟨by funext y; exact jup_R (by decide), by funext y; exact jup_ne (fun z => hj z.2.1)⟩, fun y a b => jup_R (by decide)⟩
set_option maxHeartbeats 4000000 in
set_option maxRecDepth 100000 in
theorem mk_43 {M0 : jM} {k : Nat} {n : Int} {w : Int → Int → Int} {o : Int → Int} {ver : Int} {Q : Int32 → Nat → jM → Prop} (hk : k < 3) (hG : GH n w o) (hP : PR M0 0 n w o) (hN : NE M0 n w) (h0 : M0 5 k 0 = zI k) (hv : M0 6 0 3 = zI ver) (hS : 2 ≤ k → ∀ g, 0 ≤ g → g < n → M0 38 k g.toNat = zI (dp w o n g).2.2) (hQ : ∀ M1 T, frK k M0 M1 → M1 5 k 10 = zI ver → PLN M1 k (az w o n k) n T → Q 0 0 M1) :
    ∀ (d : Nat) (l T : Int) (v1 v2 : Int32) (M : jM), l + d = n → 0 ≤ l → v1 = zI (gs (az w o n k) T) → v2 = zI l → frK k M0 M → fr [1, 5, 27, 35] M0 M → 0 ≤ T → T ≤ l → l ≤ gs (az w o n k) T → gs (az w o n k) T ≤ n → (∀ j, 0 ≤ j → j < T → gs (az w o n k) j < l ∧ M 35 k j.toNat = zI (gs (az w o n k) j)) → M 5 k 9 = zI T → at_X5_make_43 k v1 v2 M Q := by
  have hn := hG.1
  intro d
  induction d with
  | zero =>
    intro l T v1 v2 M hd hl h1 h2 hfr hf2 t0 t1 t2 t3 ts e9
    subst h1 h2
    refine bl_X5_make_43 _ _ _ _ _ hk ?_
    have hP' := PR_r hP hf2
    have h6 := hP'.1
    have hv' : M 6 0 3 = zI ver := by rw [hf2 6 (by decide)]; exact hv
    have eT : gs (az w o n k) T = n := by omega
    simp (disch := omega) only [z_add, z_sub, z_mul, z_neg, z_leT, z_leF, z_ltT, z_ltF, z_eqT, z_eqF, z_inT, z_clamp, z_nI, z_0, z_1, z_2, z_3, z_4, z_5, z_6, z_7, z_8, z_9, z_10, z_11, z_12, z_13, z_14, z_15, z_16, z_17, z_18, z_19, z_20, z_21, z_22, z_23, z_24, z_25, z_26, z_27, z_28, z_29, z_30, z_31, z_32, z_33, z_34, z_35, z_36, z_37, z_38, z_39, z_40, z_41, z_42, z_43, z_44, z_45, z_46, z_47, z_48, z_49, z_50, z_51, z_52, z_53, z_54, z_55, z_56, z_57, z_58, z_59, z_60, z_61, z_77, z_91, z_93, z_97, z_100, z_101, z_102, z_103, z_105, z_111, z_114, z_120, z_123, z_125, z_126, z_200, z_245, z_255, z_576, z_585, z_1000, z_2000, z_3510, z_11700, true_implies, false_implies, implies_true, not_true_eq_false, not_false_eq_true, true_and, and_true, false_and, and_false, ↓reduceIte, Int.reduceToNat, Int.reduceNeg, Int.toNat_natCast, h6, e9]
    rintro M1 rfl M2 rfl
    refine hQ _ T (frK_tr hfr (frK_tr frK_35 (frK_5 (Or.inr rfl)))) ?_ ⟨⟨t0, eT, fun j a1 a2 => ?_⟩, ?_, fun j a1 a2 => ?_⟩
    · simp (disch := omega) only [jup_self, jup_ne, z_add, z_sub, z_mul, z_neg, z_leT, z_leF, z_ltT, z_ltF, z_eqT, z_eqF, z_inT, z_clamp, z_nI, z_0, z_1, z_2, z_3, z_4, z_5, z_6, z_7, z_8, z_9, z_10, z_11, z_12, z_13, z_14, z_15, z_16, z_17, z_18, z_19, z_20, z_21, z_22, z_23, z_24, z_25, z_26, z_27, z_28, z_29, z_30, z_31, z_32, z_33, z_34, z_35, z_36, z_37, z_38, z_39, z_40, z_41, z_42, z_43, z_44, z_45, z_46, z_47, z_48, z_49, z_50, z_51, z_52, z_53, z_54, z_55, z_56, z_57, z_58, z_59, z_60, z_61, z_77, z_91, z_93, z_97, z_100, z_101, z_102, z_103, z_105, z_111, z_114, z_120, z_123, z_125, z_126, z_200, z_245, z_255, z_576, z_585, z_1000, z_2000, z_3510, z_11700, true_implies, false_implies, implies_true, not_true_eq_false, not_false_eq_true, true_and, and_true, false_and, and_false, ↓reduceIte, Int.reduceToNat, Int.reduceNeg, Int.toNat_natCast, hv']
    · have := (ts j a1 a2).1; omega
    · simp (disch := omega) only [jup_self, jup_ne, z_add, z_sub, z_mul, z_neg, z_leT, z_leF, z_ltT, z_ltF, z_eqT, z_eqF, z_inT, z_clamp, z_nI, z_0, z_1, z_2, z_3, z_4, z_5, z_6, z_7, z_8, z_9, z_10, z_11, z_12, z_13, z_14, z_15, z_16, z_17, z_18, z_19, z_20, z_21, z_22, z_23, z_24, z_25, z_26, z_27, z_28, z_29, z_30, z_31, z_32, z_33, z_34, z_35, z_36, z_37, z_38, z_39, z_40, z_41, z_42, z_43, z_44, z_45, z_46, z_47, z_48, z_49, z_50, z_51, z_52, z_53, z_54, z_55, z_56, z_57, z_58, z_59, z_60, z_61, z_77, z_91, z_93, z_97, z_100, z_101, z_102, z_103, z_105, z_111, z_114, z_120, z_123, z_125, z_126, z_200, z_245, z_255, z_576, z_585, z_1000, z_2000, z_3510, z_11700, true_implies, false_implies, implies_true, not_true_eq_false, not_false_eq_true, true_and, and_true, false_and, and_false, ↓reduceIte, Int.reduceToNat, Int.reduceNeg, Int.toNat_natCast, e9]
    · by_cases e : j = T
      · rw [e, eT]; simp (disch := omega) only [jup_self, jup_ne, z_add, z_sub, z_mul, z_neg, z_leT, z_leF, z_ltT, z_ltF, z_eqT, z_eqF, z_inT, z_clamp, z_nI, z_0, z_1, z_2, z_3, z_4, z_5, z_6, z_7, z_8, z_9, z_10, z_11, z_12, z_13, z_14, z_15, z_16, z_17, z_18, z_19, z_20, z_21, z_22, z_23, z_24, z_25, z_26, z_27, z_28, z_29, z_30, z_31, z_32, z_33, z_34, z_35, z_36, z_37, z_38, z_39, z_40, z_41, z_42, z_43, z_44, z_45, z_46, z_47, z_48, z_49, z_50, z_51, z_52, z_53, z_54, z_55, z_56, z_57, z_58, z_59, z_60, z_61, z_77, z_91, z_93, z_97, z_100, z_101, z_102, z_103, z_105, z_111, z_114, z_120, z_123, z_125, z_126, z_200, z_245, z_255, z_576, z_585, z_1000, z_2000, z_3510, z_11700, true_implies, false_implies, implies_true, not_true_eq_false, not_false_eq_true, true_and, and_true, false_and, and_false, ↓reduceIte, Int.reduceToNat, Int.reduceNeg, Int.toNat_natCast]
      · have := (ts j a1 (by omega)).2
        simp (disch := omega) only [jup_self, jup_ne, z_add, z_sub, z_mul, z_neg, z_leT, z_leF, z_ltT, z_ltF, z_eqT, z_eqF, z_inT, z_clamp, z_nI, z_0, z_1, z_2, z_3, z_4, z_5, z_6, z_7, z_8, z_9, z_10, z_11, z_12, z_13, z_14, z_15, z_16, z_17, z_18, z_19, z_20, z_21, z_22, z_23, z_24, z_25, z_26, z_27, z_28, z_29, z_30, z_31, z_32, z_33, z_34, z_35, z_36, z_37, z_38, z_39, z_40, z_41, z_42, z_43, z_44, z_45, z_46, z_47, z_48, z_49, z_50, z_51, z_52, z_53, z_54, z_55, z_56, z_57, z_58, z_59, z_60, z_61, z_77, z_91, z_93, z_97, z_100, z_101, z_102, z_103, z_105, z_111, z_114, z_120, z_123, z_125, z_126, z_200, z_245, z_255, z_576, z_585, z_1000, z_2000, z_3510, z_11700, true_implies, false_implies, implies_true, not_true_eq_false, not_false_eq_true, true_and, and_true, false_and, and_false, ↓reduceIte, Int.reduceToNat, Int.reduceNeg, Int.toNat_natCast, this]
  | succ d ih =>
    intro l T v1 v2 M hd hl h1 h2 hfr hf2 t0 t1 t2 t3 ts e9
    subst h1 h2
    refine bl_X5_make_43 _ _ _ _ _ hk ?_
    have hP' := PR_r hP hf2
    have h6 := hP'.1
    by_cases e : l = gs (az w o n k) T
    · rw [← e]
      simp (disch := omega) only [z_add, z_sub, z_mul, z_neg, z_leT, z_leF, z_ltT, z_ltF, z_eqT, z_eqF, z_inT, z_clamp, z_nI, z_0, z_1, z_2, z_3, z_4, z_5, z_6, z_7, z_8, z_9, z_10, z_11, z_12, z_13, z_14, z_15, z_16, z_17, z_18, z_19, z_20, z_21, z_22, z_23, z_24, z_25, z_26, z_27, z_28, z_29, z_30, z_31, z_32, z_33, z_34, z_35, z_36, z_37, z_38, z_39, z_40, z_41, z_42, z_43, z_44, z_45, z_46, z_47, z_48, z_49, z_50, z_51, z_52, z_53, z_54, z_55, z_56, z_57, z_58, z_59, z_60, z_61, z_77, z_91, z_93, z_97, z_100, z_101, z_102, z_103, z_105, z_111, z_114, z_120, z_123, z_125, z_126, z_200, z_245, z_255, z_576, z_585, z_1000, z_2000, z_3510, z_11700, true_implies, false_implies, implies_true, not_true_eq_false, not_false_eq_true, true_and, and_true, false_and, and_false, ↓reduceIte, Int.reduceToNat, Int.reduceNeg, Int.toNat_natCast, h6, e9]
      rintro M5 rfl M6 rfl
      have hfr6 : frK k M0 (jup (jup M 35 k T.toNat (zI l)) 5 k 9 (jup M 35 k T.toNat (zI l) 5 k 9 + zI 1)) := frK_tr hfr (frK_tr frK_35 (frK_5 (Or.inl rfl)))
      have hf6 : fr [1, 5, 27, 35] M0 (jup (jup M 35 k T.toNat (zI l)) 5 k 9 (jup M 35 k T.toNat (zI l) 5 k 9 + zI 1)) := fr_up (fr_up hf2)
      have e9' : jup (jup M 35 k T.toNat (zI l)) 5 k 9 (jup M 35 k T.toNat (zI l) 5 k 9 + zI 1) 5 k 9 = zI (T + 1) := by simp (disch := omega) only [jup_self, jup_ne, z_add, z_sub, z_mul, z_neg, z_leT, z_leF, z_ltT, z_ltF, z_eqT, z_eqF, z_inT, z_clamp, z_nI, z_0, z_1, z_2, z_3, z_4, z_5, z_6, z_7, z_8, z_9, z_10, z_11, z_12, z_13, z_14, z_15, z_16, z_17, z_18, z_19, z_20, z_21, z_22, z_23, z_24, z_25, z_26, z_27, z_28, z_29, z_30, z_31, z_32, z_33, z_34, z_35, z_36, z_37, z_38, z_39, z_40, z_41, z_42, z_43, z_44, z_45, z_46, z_47, z_48, z_49, z_50, z_51, z_52, z_53, z_54, z_55, z_56, z_57, z_58, z_59, z_60, z_61, z_77, z_91, z_93, z_97, z_100, z_101, z_102, z_103, z_105, z_111, z_114, z_120, z_123, z_125, z_126, z_200, z_245, z_255, z_576, z_585, z_1000, z_2000, z_3510, z_11700, true_implies, false_implies, implies_true, not_true_eq_false, not_false_eq_true, true_and, and_true, false_and, and_false, ↓reduceIte, Int.reduceToNat, Int.reduceNeg, Int.toNat_natCast, e9]
      have e35 : jup (jup M 35 k T.toNat (zI l)) 5 k 9 (jup M 35 k T.toNat (zI l) 5 k 9 + zI 1) 35 k T.toNat = zI l := by simp (disch := omega) only [jup_self, jup_ne, z_add, z_sub, z_mul, z_neg, z_leT, z_leF, z_ltT, z_ltF, z_eqT, z_eqF, z_inT, z_clamp, z_nI, z_0, z_1, z_2, z_3, z_4, z_5, z_6, z_7, z_8, z_9, z_10, z_11, z_12, z_13, z_14, z_15, z_16, z_17, z_18, z_19, z_20, z_21, z_22, z_23, z_24, z_25, z_26, z_27, z_28, z_29, z_30, z_31, z_32, z_33, z_34, z_35, z_36, z_37, z_38, z_39, z_40, z_41, z_42, z_43, z_44, z_45, z_46, z_47, z_48, z_49, z_50, z_51, z_52, z_53, z_54, z_55, z_56, z_57, z_58, z_59, z_60, z_61, z_77, z_91, z_93, z_97, z_100, z_101, z_102, z_103, z_105, z_111, z_114, z_120, z_123, z_125, z_126, z_200, z_245, z_255, z_576, z_585, z_1000, z_2000, z_3510, z_11700, true_implies, false_implies, implies_true, not_true_eq_false, not_false_eq_true, true_and, and_true, false_and, and_false, ↓reduceIte, Int.reduceToNat, Int.reduceNeg, Int.toNat_natCast]
      have e35' : ∀ j, 0 ≤ j → j < T → jup (jup M 35 k T.toNat (zI l)) 5 k 9 (jup M 35 k T.toNat (zI l) 5 k 9 + zI 1) 35 k j.toNat = zI (gs (az w o n k) j) := fun j a1 a2 => by
        have := (ts j a1 a2).2
        simp (disch := omega) only [jup_self, jup_ne, z_add, z_sub, z_mul, z_neg, z_leT, z_leF, z_ltT, z_ltF, z_eqT, z_eqF, z_inT, z_clamp, z_nI, z_0, z_1, z_2, z_3, z_4, z_5, z_6, z_7, z_8, z_9, z_10, z_11, z_12, z_13, z_14, z_15, z_16, z_17, z_18, z_19, z_20, z_21, z_22, z_23, z_24, z_25, z_26, z_27, z_28, z_29, z_30, z_31, z_32, z_33, z_34, z_35, z_36, z_37, z_38, z_39, z_40, z_41, z_42, z_43, z_44, z_45, z_46, z_47, z_48, z_49, z_50, z_51, z_52, z_53, z_54, z_55, z_56, z_57, z_58, z_59, z_60, z_61, z_77, z_91, z_93, z_97, z_100, z_101, z_102, z_103, z_105, z_111, z_114, z_120, z_123, z_125, z_126, z_200, z_245, z_255, z_576, z_585, z_1000, z_2000, z_3510, z_11700, true_implies, false_implies, implies_true, not_true_eq_false, not_false_eq_true, true_and, and_true, false_and, and_false, ↓reduceIte, Int.reduceToNat, Int.reduceNeg, Int.toNat_natCast, this]
      generalize jup (jup M 35 k T.toNat (zI l)) 5 k 9 (jup M 35 k T.toNat (zI l) 5 k 9 + zI 1) = M6 at *
      have hz := az_ok (w := w) (o := o) (n := n) (k := k) l hl (by omega)
      refine sf_ok hk hG (PR_r hP hf6) (by unfold NE at *; rw [hf6 29 (by decide)]; exact hN) (by rw [hfr6.2.2.2 0 (by decide) (by decide)]; exact h0) ⟨hl, by omega⟩ (fun z g a1 a2 => by rw [hf6 38 (by decide)]; exact hS z g a1 a2) (fun M8 b1 b2 => ⟨fr_nb b1, ?_⟩)
      have F5 := b1 5 (by decide)
      have F35 := b1 35 (by decide)
      have gT := gs_s (z := az w o n k) t0
      rw [← e] at gT
      refine ih (l + 1) (T + 1) _ _ M8 (by omega) (by omega) (by rw [gT, z_add]) rfl (frK_tr hfr6 (frK_fr b1 b2)) (fr_tr hf6 b1) (by omega) (by omega) (by rw [gT]; omega) (by rw [gT]; omega) (fun j a1 a2 => ?_) (by rw [F5]; exact e9')
      rw [F35]
      by_cases ej : j = T
      · rw [ej, ← e]; exact ⟨by omega, e35⟩
      · exact ⟨by have := (ts j a1 (by omega)).1; omega, e35' j a1 (by omega)⟩
    · simp (disch := omega) only [z_add, z_sub, z_mul, z_neg, z_leT, z_leF, z_ltT, z_ltF, z_eqT, z_eqF, z_inT, z_clamp, z_nI, z_0, z_1, z_2, z_3, z_4, z_5, z_6, z_7, z_8, z_9, z_10, z_11, z_12, z_13, z_14, z_15, z_16, z_17, z_18, z_19, z_20, z_21, z_22, z_23, z_24, z_25, z_26, z_27, z_28, z_29, z_30, z_31, z_32, z_33, z_34, z_35, z_36, z_37, z_38, z_39, z_40, z_41, z_42, z_43, z_44, z_45, z_46, z_47, z_48, z_49, z_50, z_51, z_52, z_53, z_54, z_55, z_56, z_57, z_58, z_59, z_60, z_61, z_77, z_91, z_93, z_97, z_100, z_101, z_102, z_103, z_105, z_111, z_114, z_120, z_123, z_125, z_126, z_200, z_245, z_255, z_576, z_585, z_1000, z_2000, z_3510, z_11700, true_implies, false_implies, implies_true, not_true_eq_false, not_false_eq_true, true_and, and_true, false_and, and_false, ↓reduceIte, Int.reduceToNat, Int.reduceNeg, Int.toNat_natCast, h6, e9]
      exact ih (l + 1) T _ _ M (by omega) (by omega) rfl rfl hfr hf2 t0 (by omega) (by omega) t3 (fun j a1 a2 => ⟨by have := (ts j a1 a2).1; omega, (ts j a1 a2).2⟩) e9
theorem mk_ok {M0 : jM} {k : Nat} {n : Int} {w : Int → Int → Int} {o : Int → Int} {a ver : Int} {Q : Int32 → Nat → jM → Prop} (hk : k < 3) (hG : GH n w o) (hP : PR M0 0 n w o) (hnb : jnb M0 ≤ 100000) (hN : NE M0 n w) (h0 : M0 5 k 0 = zI k) (hv : M0 6 0 3 = zI ver) (ha : M0 5 k 10 = zI a) (hav : -1 ≤ a ∧ a ≤ ver ∧ ver < 100000) (hL : a = ver → ∃ T, PLN M0 k (az w o n k) n T) (hQ : ∀ M1 T, frK k M0 M1 → M1 5 k 10 = zI ver → PLN M1 k (az w o n k) n T → Q 0 0 M1) : ok_X5_make k M0 Q := by
  refine en_X5_make (bl_X5_make_0 _ _ _ hk ?_)
  have hn := hG.1
  by_cases e : a = ver
  · obtain ⟨T, hT⟩ := hL e
    simp (disch := omega) only [z_add, z_sub, z_mul, z_neg, z_leT, z_leF, z_ltT, z_ltF, z_eqT, z_eqF, z_inT, z_clamp, z_nI, z_0, z_1, z_2, z_3, z_4, z_5, z_6, z_7, z_8, z_9, z_10, z_11, z_12, z_13, z_14, z_15, z_16, z_17, z_18, z_19, z_20, z_21, z_22, z_23, z_24, z_25, z_26, z_27, z_28, z_29, z_30, z_31, z_32, z_33, z_34, z_35, z_36, z_37, z_38, z_39, z_40, z_41, z_42, z_43, z_44, z_45, z_46, z_47, z_48, z_49, z_50, z_51, z_52, z_53, z_54, z_55, z_56, z_57, z_58, z_59, z_60, z_61, z_77, z_91, z_93, z_97, z_100, z_101, z_102, z_103, z_105, z_111, z_114, z_120, z_123, z_125, z_126, z_200, z_245, z_255, z_576, z_585, z_1000, z_2000, z_3510, z_11700, true_implies, false_implies, implies_true, not_true_eq_false, not_false_eq_true, true_and, and_true, false_and, and_false, ↓reduceIte, Int.reduceToNat, Int.reduceNeg, Int.toNat_natCast, ha, hv, e]
    exact hQ M0 T frK_rf (by rw [ha, e]) hT
  · have go : ∀ M4, frK k M0 M4 → fr [1, 9, 27, 36, 37, 38, 43] M0 M4 → (2 ≤ k → ∀ g, 0 ≤ g → g < n → M4 38 k g.toNat = zI (dp w o n g).2.2) → at_X5_make_43 k (zI 0) (zI 0) (jup M4 5 k 9 (zI 0)) Q := by
      intro M4 c1 c2 c3
      have d1 : frK k M0 (jup M4 5 k 9 (zI 0)) := frK_tr c1 (frK_5 (Or.inl rfl))
      have d2 : fr [1, 5, 9, 27, 36, 37, 38, 43] M0 (jup M4 5 k 9 (zI 0)) := fr_up (fr_mono c2)
      refine mk_43 (M0 := jup M4 5 k 9 (zI 0)) hk hG (PR_r hP d2) (by unfold NE at *; rw [d2 29 (by decide)]; exact hN) (by rw [d1.2.2.2 0 (by decide) (by decide)]; exact h0) (by rw [d2 6 (by decide)]; exact hv) (fun z g a1 a2 => by rw [jup_R (by decide)]; exact c3 z g a1 a2) (fun M1 T b1 b2 b3 => hQ M1 T (frK_tr d1 b1) b2 b3) n.toNat 0 0 _ _ _ (by omega) (by omega) (by rw [gs_0]) rfl frK_rf (fr_rf _ _) (by omega) (by omega) (by rw [gs_0]; omega) (by rw [gs_0]; omega) (fun j a1 a2 => by omega) (by simp (disch := omega) only [jup_self, jup_ne, z_add, z_sub, z_mul, z_neg, z_leT, z_leF, z_ltT, z_ltF, z_eqT, z_eqF, z_inT, z_clamp, z_nI, z_0, z_1, z_2, z_3, z_4, z_5, z_6, z_7, z_8, z_9, z_10, z_11, z_12, z_13, z_14, z_15, z_16, z_17, z_18, z_19, z_20, z_21, z_22, z_23, z_24, z_25, z_26, z_27, z_28, z_29, z_30, z_31, z_32, z_33, z_34, z_35, z_36, z_37, z_38, z_39, z_40, z_41, z_42, z_43, z_44, z_45, z_46, z_47, z_48, z_49, z_50, z_51, z_52, z_53, z_54, z_55, z_56, z_57, z_58, z_59, z_60, z_61, z_77, z_91, z_93, z_97, z_100, z_101, z_102, z_103, z_105, z_111, z_114, z_120, z_123, z_125, z_126, z_200, z_245, z_255, z_576, z_585, z_1000, z_2000, z_3510, z_11700, true_implies, false_implies, implies_true, not_true_eq_false, not_false_eq_true, true_and, and_true, false_and, and_false, ↓reduceIte, Int.reduceToNat, Int.reduceNeg, Int.toNat_natCast])
    rcases (show k = 0 ∨ k = 1 ∨ k = 2 by omega) with q | q | q
    · subst q
      simp (disch := omega) only [z_add, z_sub, z_mul, z_neg, z_leT, z_leF, z_ltT, z_ltF, z_eqT, z_eqF, z_inT, z_clamp, z_nI, z_0, z_1, z_2, z_3, z_4, z_5, z_6, z_7, z_8, z_9, z_10, z_11, z_12, z_13, z_14, z_15, z_16, z_17, z_18, z_19, z_20, z_21, z_22, z_23, z_24, z_25, z_26, z_27, z_28, z_29, z_30, z_31, z_32, z_33, z_34, z_35, z_36, z_37, z_38, z_39, z_40, z_41, z_42, z_43, z_44, z_45, z_46, z_47, z_48, z_49, z_50, z_51, z_52, z_53, z_54, z_55, z_56, z_57, z_58, z_59, z_60, z_61, z_77, z_91, z_93, z_97, z_100, z_101, z_102, z_103, z_105, z_111, z_114, z_120, z_123, z_125, z_126, z_200, z_245, z_255, z_576, z_585, z_1000, z_2000, z_3510, z_11700, true_implies, false_implies, implies_true, not_true_eq_false, not_false_eq_true, true_and, and_true, false_and, and_false, ↓reduceIte, Int.reduceToNat, Int.reduceNeg, Int.toNat_natCast, ha, hv, h0]
      rintro M1 rfl
      exact go M0 frK_rf (fr_rf _ _) (fun z => by omega)
    · subst q
      simp (disch := omega) only [z_add, z_sub, z_mul, z_neg, z_leT, z_leF, z_ltT, z_ltF, z_eqT, z_eqF, z_inT, z_clamp, z_nI, z_0, z_1, z_2, z_3, z_4, z_5, z_6, z_7, z_8, z_9, z_10, z_11, z_12, z_13, z_14, z_15, z_16, z_17, z_18, z_19, z_20, z_21, z_22, z_23, z_24, z_25, z_26, z_27, z_28, z_29, z_30, z_31, z_32, z_33, z_34, z_35, z_36, z_37, z_38, z_39, z_40, z_41, z_42, z_43, z_44, z_45, z_46, z_47, z_48, z_49, z_50, z_51, z_52, z_53, z_54, z_55, z_56, z_57, z_58, z_59, z_60, z_61, z_77, z_91, z_93, z_97, z_100, z_101, z_102, z_103, z_105, z_111, z_114, z_120, z_123, z_125, z_126, z_200, z_245, z_255, z_576, z_585, z_1000, z_2000, z_3510, z_11700, true_implies, false_implies, implies_true, not_true_eq_false, not_false_eq_true, true_and, and_true, false_and, and_false, ↓reduceIte, Int.reduceToNat, Int.reduceNeg, Int.toNat_natCast, ha, hv, h0]
      rintro M1 rfl
      exact go M0 frK_rf (fr_rf _ _) (fun z => by omega)
    · subst q
      simp (disch := omega) only [z_add, z_sub, z_mul, z_neg, z_leT, z_leF, z_ltT, z_ltF, z_eqT, z_eqF, z_inT, z_clamp, z_nI, z_0, z_1, z_2, z_3, z_4, z_5, z_6, z_7, z_8, z_9, z_10, z_11, z_12, z_13, z_14, z_15, z_16, z_17, z_18, z_19, z_20, z_21, z_22, z_23, z_24, z_25, z_26, z_27, z_28, z_29, z_30, z_31, z_32, z_33, z_34, z_35, z_36, z_37, z_38, z_39, z_40, z_41, z_42, z_43, z_44, z_45, z_46, z_47, z_48, z_49, z_50, z_51, z_52, z_53, z_54, z_55, z_56, z_57, z_58, z_59, z_60, z_61, z_77, z_91, z_93, z_97, z_100, z_101, z_102, z_103, z_105, z_111, z_114, z_120, z_123, z_125, z_126, z_200, z_245, z_255, z_576, z_585, z_1000, z_2000, z_3510, z_11700, true_implies, false_implies, implies_true, not_true_eq_false, not_false_eq_true, true_and, and_true, false_and, and_false, ↓reduceIte, Int.reduceToNat, Int.reduceNeg, Int.toNat_natCast, ha, hv, h0]
      refine weigh_ok hk hG hP hnb hN (fun M4 c1 c2 c3 => ⟨fr_nb c1, ?_⟩)
      rintro M5 rfl
      exact go M4 (frK_fr c1 c2) c1 (fun _ => c3)
