/-! ===== the reference's arrangements ===== -/
theorem fin_pow : ∀ n : Nat, n < 7 → (zI 1 <<< (zI (max 0 ((n : Int) - 1)) &&& zI 31)) = zI ((2 ^ (n - 1) : Nat) : Int) ∧ 2 ^ (n - 1) ≤ 32 ∧ 1 ≤ 2 ^ (n - 1) := by decide +kernel
theorem pow_eq {n : Int} (hn : 0 ≤ n ∧ n ≤ 6) : (zI 1 <<< (zI (max 0 (n - 1)) &&& zI 31)) = zI ((2 ^ (n.toNat - 1) : Nat) : Int) := by
  have := (fin_pow n.toNat (by omega)).1
  rw [show ((n.toNat : Nat) : Int) = n by omega] at this
  exact this
theorem zI_rd (x : Int32) : ∃ a : Int, x = zI a := ⟨x.toInt, (zI_toInt x).symm⟩
theorem fin_pcS : ∀ S : Nat, S < 32 → 0 ≤ pcS (S : Int) ∧ pcS (S : Int) ≤ 5 := by decide +kernel
theorem pcS_in {S : Int} (h : 0 ≤ S ∧ S < 32) : 0 ≤ pcS S ∧ pcS S ≤ 5 := by
  have := fin_pcS S.toNat (by omega)
  rw [show ((S.toNat : Nat) : Int) = S by omega] at this
  exact this
theorem bVal_in {n : Int} {w : Int → Int → Int} {o : Int → Int} {S : Int} (hG : GH n w o) : 0 ≤ bVal w o n S ∧ bVal w o n S ≤ 140000 := by
  have hn := hG.1
  have hz := zS_ok (S := S) (n := n)
  have main : ∀ (d : Nat) (f : Int), 0 ≤ f → f ≤ n → 0 ≤ (vzN w o n (zS S n) d f).1 ∧ (vzN w o n (zS S n) d f).1 ≤ 20000 * d := by
    intro d
    induction d with
    | zero => intro f _ _; exact ⟨Int.le_refl _, by show (0 : Int) ≤ _; omega⟩
    | succ d ih =>
      intro f h0 h1
      by_cases q : f < n
      · obtain ⟨b1, b2⟩ := hz f h0 q
        have h2 := ih (f + zS S n f) (by omega) b2
        have h3 := Hh_in hG h0 (show f ≤ f + zS S n f - 1 by omega) (by omega)
        rw [vz_s q]
        show 0 ≤ Hh w o f (f + zS S n f - 1) + _ ∧ Hh w o f (f + zS S n f - 1) + _ ≤ _
        omega
      · have : f = n := by omega
        rw [this, vz_n]
        exact ⟨Int.le_refl _, by show (0 : Int) ≤ _; omega⟩
  have := main 7 0 (by omega) hn.1
  unfold bVal
  omega
set_option maxHeartbeats 4000000 in
set_option maxRecDepth 100000 in
theorem bs_ok {M0 : jM} {n : Int} {w : Int → Int → Int} {o : Int → Int} {Q : Int32 → Nat → jM → Prop} (hG : GH n w o) (hM : MR M0 n w o) (hFA : FA M0)
    (hQ : ∀ M1 S, fm [59, 60] [22, 23, 24, 27, 28] M0 M1 → FA M1 → (∀ T, isNG (az w o n 2) n T → isSet S (az w o n 2) n T) → (0 ≤ S ∧ S < 32 ∧ S.toNat < 2 ^ (n.toNat - 1)) → Q (zI S) 0 M1) : ok_X12_bestSet M0 Q := by
  have hn := hG.1
  have hp2 := (fin_pow n.toNat (by omega)).2
  have hpe := pow_eq hn
  have main : ∀ (d s : Nat) (v1 v2 v3 : Int32) (M : jM), s + d = 2 ^ (n.toNat - 1) → v3 = zI (s : Int) → fm [59, 60] [22, 23, 24, 27, 28] M0 M → FA M →
      ((v1 = zI (-1) ∧ v2 = zI (-1) ∧ ∀ R : Int, 0 ≤ R → R < s → ¬ bAl w o n R) ∨ (∃ B : Int, v1 = zI B ∧ (0 ≤ B ∧ B < s) ∧ bAl w o n B ∧ v2 = zI (bVal w o n B) ∧ ∀ R : Int, 0 ≤ R → R < s → bAl w o n R → R = B ∨ better w o n B R)) → at_X12_bestSet_6 v1 v2 v3 M Q := by
    intro d
    induction d with
    | zero =>
      intro s v1 v2 v3 M hd h3 hfr hfa hI
      subst h3
      refine bl_X12_bestSet_6 _ _ _ _ _ ?_
      have e0 := (MR_fm hM hfr).1
      have hmx : jmax (zI 0) (zI (n - 1)) = zI (max 0 (n - 1)) := z_max (by omega)
      simp (disch := omega) only [z_add, z_sub, z_mul, z_neg, z_leT, z_leF, z_ltT, z_ltF, z_eqT, z_eqF, z_inT, z_clamp, z_nI, z_0, z_1, z_2, z_3, z_4, z_5, z_6, z_7, z_8, z_9, z_10, z_11, z_12, z_13, z_14, z_15, z_16, z_17, z_18, z_19, z_20, z_21, z_22, z_23, z_24, z_25, z_26, z_27, z_28, z_29, z_30, z_31, z_32, z_33, z_34, z_35, z_36, z_37, z_38, z_39, z_40, z_41, z_42, z_43, z_44, z_45, z_46, z_47, z_48, z_49, z_50, z_51, z_52, z_53, z_54, z_55, z_56, z_57, z_58, z_59, z_60, z_61, z_77, z_91, z_93, z_97, z_100, z_101, z_102, z_103, z_105, z_111, z_114, z_120, z_123, z_125, z_126, z_200, z_245, z_255, z_576, z_585, z_1000, z_2000, z_3510, z_11700, true_implies, false_implies, implies_true, not_true_eq_false, not_false_eq_true, true_and, and_true, false_and, and_false, ↓reduceIte, Int.reduceToNat, Int.reduceNeg, Int.toNat_natCast, e0, hmx, hpe]
      by_cases n0 : n = 0
      · have hs : s = 1 := by have : n.toNat = 0 := by omega
                              rw [this] at hd
                              simpa using hd
        rcases hI with ⟨_, _, h⟩ | ⟨B, h1, h2, _⟩
        · refine absurd ?_ (h 0 (by omega) (by omega))
          unfold bAl
          rw [n0]
          exact fun q => absurd q (by omega)
        · rw [h1]
          refine hQ M B hfr hfa (fun T hT => ⟨by omega, fun x hx1 hx2 => by omega⟩) ⟨by omega, by omega, by omega⟩
      · obtain ⟨T, hT⟩ := isNG_ex (az_ok (w := w) (o := o) (n := n) (k := 2)) hn.1
        obtain ⟨c1, c2⟩ := best_is (by omega) hT
        have hS := chS_is (z := az w o n 2) (n := n) (T := T) hn.2
        have hlt := chS_lt (z := az w o n 2) (n := n) (T := T) hn
        have hSt := hS.1
        rcases hI with ⟨_, _, h⟩ | ⟨B, h1, h2, h3, h4, h5⟩
        · exact absurd c1 (h _ hSt.1 (by omega))
        · have e : B = chS (az w o n 2) n T := by
            rcases h5 _ hSt.1 (by omega) c1 with q | q
            · exact q.symm
            · rcases c2 B h2.1 (by omega) (by omega) h3 with q2 | q2
              · exact q2
              · unfold better at q q2
                omega
          rw [h1, e]
          exact hQ M _ hfr hfa (fun T' hT' => by rw [isNG_u hT' hT]; exact hS) ⟨hSt.1, hSt.2, hlt⟩
    | succ d ih =>
      intro s v1 v2 v3 M hd h3 hfr hfa hI
      subst h3
      refine bl_X12_bestSet_6 _ _ _ _ _ ?_
      have hM' := MR_fm hM hfr
      have e0 := hM'.1
      have hmx : jmax (zI 0) (zI (n - 1)) = zI (max 0 (n - 1)) := z_max (by omega)
      simp (disch := omega) only [z_add, z_sub, z_mul, z_neg, z_leT, z_leF, z_ltT, z_ltF, z_eqT, z_eqF, z_inT, z_clamp, z_nI, z_0, z_1, z_2, z_3, z_4, z_5, z_6, z_7, z_8, z_9, z_10, z_11, z_12, z_13, z_14, z_15, z_16, z_17, z_18, z_19, z_20, z_21, z_22, z_23, z_24, z_25, z_26, z_27, z_28, z_29, z_30, z_31, z_32, z_33, z_34, z_35, z_36, z_37, z_38, z_39, z_40, z_41, z_42, z_43, z_44, z_45, z_46, z_47, z_48, z_49, z_50, z_51, z_52, z_53, z_54, z_55, z_56, z_57, z_58, z_59, z_60, z_61, z_77, z_91, z_93, z_97, z_100, z_101, z_102, z_103, z_105, z_111, z_114, z_120, z_123, z_125, z_126, z_200, z_245, z_255, z_576, z_585, z_1000, z_2000, z_3510, z_11700, true_implies, false_implies, implies_true, not_true_eq_false, not_false_eq_true, true_and, and_true, false_and, and_false, ↓reduceIte, Int.reduceToNat, Int.reduceNeg, Int.toNat_natCast, e0, hmx, hpe]
      obtain ⟨T, hT⟩ := isNG_ex (zS_ok (S := (s : Int)) (n := n)) hn.1
      obtain ⟨fa, hfb, h28⟩ := hfa
      obtain ⟨rd, h27⟩ := zI_rd (M 11 0 27)
      refine hi_ok hG hM' (by omega) hT h27 h28 hfb (fun M1 r a1 a2 a3 a4 => ⟨fm_nb a1, ?_⟩)
      have hfr1 := fm_tr hfr a1 (S2 := [59, 60]) (F2 := [22, 23, 24, 27, 28])
      have hbv := bVal_in (S := (s : Int)) hG
      by_cases q : bAl w o n (s : Int)
      · have hr : r = zI (bVal w o n (s : Int)) := by
          rw [(a3 q).1]
          refine zc ?_
          have := rdF_v (w := w) (o := o) hT (lat0, rd, 0, fa) T.toNat 0 (by omega) (by have := hT.1; omega)
          rw [this, rdF_0, ← (vz_T (w := w) (o := o) hT T.toNat 7 0 (by omega) (by have := hT.1; omega) (by have := gs_at (zS_ok (S := (s : Int)) (n := n)) hn.1 hT hT.1 (Int.le_refl T); rw [hT.2.1] at this; omega)).1, gs_0]
          unfold bVal
          show (0 : Int) + _ = _
          omega
        subst hr
        rcases hI with ⟨h1, h2, h⟩ | ⟨B, h1, h2, h3, h4, h5⟩
        · subst h1 h2
          simp (disch := omega) only [z_add, z_sub, z_mul, z_neg, z_leT, z_leF, z_ltT, z_ltF, z_eqT, z_eqF, z_inT, z_clamp, z_nI, z_0, z_1, z_2, z_3, z_4, z_5, z_6, z_7, z_8, z_9, z_10, z_11, z_12, z_13, z_14, z_15, z_16, z_17, z_18, z_19, z_20, z_21, z_22, z_23, z_24, z_25, z_26, z_27, z_28, z_29, z_30, z_31, z_32, z_33, z_34, z_35, z_36, z_37, z_38, z_39, z_40, z_41, z_42, z_43, z_44, z_45, z_46, z_47, z_48, z_49, z_50, z_51, z_52, z_53, z_54, z_55, z_56, z_57, z_58, z_59, z_60, z_61, z_77, z_91, z_93, z_97, z_100, z_101, z_102, z_103, z_105, z_111, z_114, z_120, z_123, z_125, z_126, z_200, z_245, z_255, z_576, z_585, z_1000, z_2000, z_3510, z_11700, true_implies, false_implies, implies_true, not_true_eq_false, not_false_eq_true, true_and, and_true, false_and, and_false, ↓reduceIte, Int.reduceToNat, Int.reduceNeg, Int.toNat_natCast]
          exact ih (s + 1) _ _ _ M1 (by omega) (zc (by omega)) hfr1 a2 (Or.inr ⟨s, rfl, by omega, q, rfl, fun R r0 r1 ra => by
            by_cases e : R = s
            · exact Or.inl e
            · exact absurd ra (h R r0 (by omega))⟩)
        · subst h1 h4
          have hbB := bVal_in (S := B) hG
          have p1 := pcS_in (S := B) (by omega)
          have p2 := pcS_in (S := (s : Int)) (by omega)
          have new : better w o n (s : Int) B → at_X12_bestSet_6 (zI (s : Int)) (zI (bVal w o n (s : Int))) (zI ((s : Int) + 1)) M1 Q := fun hb => ih (s + 1) _ _ _ M1 (by omega) (zc (by omega)) hfr1 a2 (Or.inr ⟨s, rfl, by omega, q, rfl, fun R r0 r1 ra => by
            by_cases e : R = s
            · exact Or.inl e
            · right
              rcases h5 R r0 (by omega) ra with z | z
              · rw [z]; exact hb
              · unfold better at *
                omega⟩)
          have old : better w o n B (s : Int) → at_X12_bestSet_6 (zI B) (zI (bVal w o n B)) (zI ((s : Int) + 1)) M1 Q := fun hb => ih (s + 1) _ _ _ M1 (by omega) (zc (by omega)) hfr1 a2 (Or.inr ⟨B, rfl, by omega, h3, rfl, fun R r0 r1 ra => by
            by_cases e : R = s
            · rw [e]; exact Or.inr hb
            · exact h5 R r0 (by omega) ra⟩)
          by_cases e : bVal w o n (s : Int) = bVal w o n B
          · rw [e] at new ⊢
            simp (disch := omega) only [z_add, z_sub, z_mul, z_neg, z_leT, z_leF, z_ltT, z_ltF, z_eqT, z_eqF, z_inT, z_clamp, z_nI, z_0, z_1, z_2, z_3, z_4, z_5, z_6, z_7, z_8, z_9, z_10, z_11, z_12, z_13, z_14, z_15, z_16, z_17, z_18, z_19, z_20, z_21, z_22, z_23, z_24, z_25, z_26, z_27, z_28, z_29, z_30, z_31, z_32, z_33, z_34, z_35, z_36, z_37, z_38, z_39, z_40, z_41, z_42, z_43, z_44, z_45, z_46, z_47, z_48, z_49, z_50, z_51, z_52, z_53, z_54, z_55, z_56, z_57, z_58, z_59, z_60, z_61, z_77, z_91, z_93, z_97, z_100, z_101, z_102, z_103, z_105, z_111, z_114, z_120, z_123, z_125, z_126, z_200, z_245, z_255, z_576, z_585, z_1000, z_2000, z_3510, z_11700, true_implies, false_implies, implies_true, not_true_eq_false, not_false_eq_true, true_and, and_true, false_and, and_false, ↓reduceIte, Int.reduceToNat, Int.reduceNeg, Int.toNat_natCast]
            refine gi_ok (by omega) ⟨rfl, gi_ok (by omega) ⟨rfl, ?_⟩⟩
            by_cases e2 : pcS B = pcS (s : Int)
            · rw [e2]
              simp (disch := omega) only [z_add, z_sub, z_mul, z_neg, z_leT, z_leF, z_ltT, z_ltF, z_eqT, z_eqF, z_inT, z_clamp, z_nI, z_0, z_1, z_2, z_3, z_4, z_5, z_6, z_7, z_8, z_9, z_10, z_11, z_12, z_13, z_14, z_15, z_16, z_17, z_18, z_19, z_20, z_21, z_22, z_23, z_24, z_25, z_26, z_27, z_28, z_29, z_30, z_31, z_32, z_33, z_34, z_35, z_36, z_37, z_38, z_39, z_40, z_41, z_42, z_43, z_44, z_45, z_46, z_47, z_48, z_49, z_50, z_51, z_52, z_53, z_54, z_55, z_56, z_57, z_58, z_59, z_60, z_61, z_77, z_91, z_93, z_97, z_100, z_101, z_102, z_103, z_105, z_111, z_114, z_120, z_123, z_125, z_126, z_200, z_245, z_255, z_576, z_585, z_1000, z_2000, z_3510, z_11700, true_implies, false_implies, implies_true, not_true_eq_false, not_false_eq_true, true_and, and_true, false_and, and_false, ↓reduceIte, Int.reduceToNat, Int.reduceNeg, Int.toNat_natCast]
              refine ig_ok (by omega) (by omega) (fun z => ⟨rfl, ?_⟩) (fun z => ⟨rfl, ?_⟩)
              · simp (disch := omega) only [z_add, z_sub, z_mul, z_neg, z_leT, z_leF, z_ltT, z_ltF, z_eqT, z_eqF, z_inT, z_clamp, z_nI, z_0, z_1, z_2, z_3, z_4, z_5, z_6, z_7, z_8, z_9, z_10, z_11, z_12, z_13, z_14, z_15, z_16, z_17, z_18, z_19, z_20, z_21, z_22, z_23, z_24, z_25, z_26, z_27, z_28, z_29, z_30, z_31, z_32, z_33, z_34, z_35, z_36, z_37, z_38, z_39, z_40, z_41, z_42, z_43, z_44, z_45, z_46, z_47, z_48, z_49, z_50, z_51, z_52, z_53, z_54, z_55, z_56, z_57, z_58, z_59, z_60, z_61, z_77, z_91, z_93, z_97, z_100, z_101, z_102, z_103, z_105, z_111, z_114, z_120, z_123, z_125, z_126, z_200, z_245, z_255, z_576, z_585, z_1000, z_2000, z_3510, z_11700, true_implies, false_implies, implies_true, not_true_eq_false, not_false_eq_true, true_and, and_true, false_and, and_false, ↓reduceIte, Int.reduceToNat, Int.reduceNeg, Int.toNat_natCast]
                exact new (Or.inr ⟨e.symm, Or.inr ⟨by omega, z⟩⟩)
              · simp (disch := omega) only [z_add, z_sub, z_mul, z_neg, z_leT, z_leF, z_ltT, z_ltF, z_eqT, z_eqF, z_inT, z_clamp, z_nI, z_0, z_1, z_2, z_3, z_4, z_5, z_6, z_7, z_8, z_9, z_10, z_11, z_12, z_13, z_14, z_15, z_16, z_17, z_18, z_19, z_20, z_21, z_22, z_23, z_24, z_25, z_26, z_27, z_28, z_29, z_30, z_31, z_32, z_33, z_34, z_35, z_36, z_37, z_38, z_39, z_40, z_41, z_42, z_43, z_44, z_45, z_46, z_47, z_48, z_49, z_50, z_51, z_52, z_53, z_54, z_55, z_56, z_57, z_58, z_59, z_60, z_61, z_77, z_91, z_93, z_97, z_100, z_101, z_102, z_103, z_105, z_111, z_114, z_120, z_123, z_125, z_126, z_200, z_245, z_255, z_576, z_585, z_1000, z_2000, z_3510, z_11700, true_implies, false_implies, implies_true, not_true_eq_false, not_false_eq_true, true_and, and_true, false_and, and_false, ↓reduceIte, Int.reduceToNat, Int.reduceNeg, Int.toNat_natCast]
                refine old (Or.inr ⟨e, Or.inr ⟨e2, ?_⟩⟩)
                have fr := fin_rv s (by omega) B.toNat (by omega)
                rw [show ((B.toNat : Nat) : Int) = B by omega] at fr
                have : rvS (s : Int) ≠ rvS B := fun z => by have := fr z; omega
                omega
            · by_cases e3 : pcS (s : Int) < pcS B
              · simp (disch := omega) only [z_add, z_sub, z_mul, z_neg, z_leT, z_leF, z_ltT, z_ltF, z_eqT, z_eqF, z_inT, z_clamp, z_nI, z_0, z_1, z_2, z_3, z_4, z_5, z_6, z_7, z_8, z_9, z_10, z_11, z_12, z_13, z_14, z_15, z_16, z_17, z_18, z_19, z_20, z_21, z_22, z_23, z_24, z_25, z_26, z_27, z_28, z_29, z_30, z_31, z_32, z_33, z_34, z_35, z_36, z_37, z_38, z_39, z_40, z_41, z_42, z_43, z_44, z_45, z_46, z_47, z_48, z_49, z_50, z_51, z_52, z_53, z_54, z_55, z_56, z_57, z_58, z_59, z_60, z_61, z_77, z_91, z_93, z_97, z_100, z_101, z_102, z_103, z_105, z_111, z_114, z_120, z_123, z_125, z_126, z_200, z_245, z_255, z_576, z_585, z_1000, z_2000, z_3510, z_11700, true_implies, false_implies, implies_true, not_true_eq_false, not_false_eq_true, true_and, and_true, false_and, and_false, ↓reduceIte, Int.reduceToNat, Int.reduceNeg, Int.toNat_natCast]
                exact new (Or.inr ⟨e.symm, Or.inl e3⟩)
              · simp (disch := omega) only [z_add, z_sub, z_mul, z_neg, z_leT, z_leF, z_ltT, z_ltF, z_eqT, z_eqF, z_inT, z_clamp, z_nI, z_0, z_1, z_2, z_3, z_4, z_5, z_6, z_7, z_8, z_9, z_10, z_11, z_12, z_13, z_14, z_15, z_16, z_17, z_18, z_19, z_20, z_21, z_22, z_23, z_24, z_25, z_26, z_27, z_28, z_29, z_30, z_31, z_32, z_33, z_34, z_35, z_36, z_37, z_38, z_39, z_40, z_41, z_42, z_43, z_44, z_45, z_46, z_47, z_48, z_49, z_50, z_51, z_52, z_53, z_54, z_55, z_56, z_57, z_58, z_59, z_60, z_61, z_77, z_91, z_93, z_97, z_100, z_101, z_102, z_103, z_105, z_111, z_114, z_120, z_123, z_125, z_126, z_200, z_245, z_255, z_576, z_585, z_1000, z_2000, z_3510, z_11700, true_implies, false_implies, implies_true, not_true_eq_false, not_false_eq_true, true_and, and_true, false_and, and_false, ↓reduceIte, Int.reduceToNat, Int.reduceNeg, Int.toNat_natCast]
                exact old (Or.inr ⟨e, Or.inl (by omega)⟩)
          · by_cases e2 : bVal w o n B < bVal w o n (s : Int)
            · simp (disch := omega) only [z_add, z_sub, z_mul, z_neg, z_leT, z_leF, z_ltT, z_ltF, z_eqT, z_eqF, z_inT, z_clamp, z_nI, z_0, z_1, z_2, z_3, z_4, z_5, z_6, z_7, z_8, z_9, z_10, z_11, z_12, z_13, z_14, z_15, z_16, z_17, z_18, z_19, z_20, z_21, z_22, z_23, z_24, z_25, z_26, z_27, z_28, z_29, z_30, z_31, z_32, z_33, z_34, z_35, z_36, z_37, z_38, z_39, z_40, z_41, z_42, z_43, z_44, z_45, z_46, z_47, z_48, z_49, z_50, z_51, z_52, z_53, z_54, z_55, z_56, z_57, z_58, z_59, z_60, z_61, z_77, z_91, z_93, z_97, z_100, z_101, z_102, z_103, z_105, z_111, z_114, z_120, z_123, z_125, z_126, z_200, z_245, z_255, z_576, z_585, z_1000, z_2000, z_3510, z_11700, true_implies, false_implies, implies_true, not_true_eq_false, not_false_eq_true, true_and, and_true, false_and, and_false, ↓reduceIte, Int.reduceToNat, Int.reduceNeg, Int.toNat_natCast]
              exact new (Or.inl e2)
            · simp (disch := omega) only [z_add, z_sub, z_mul, z_neg, z_leT, z_leF, z_ltT, z_ltF, z_eqT, z_eqF, z_inT, z_clamp, z_nI, z_0, z_1, z_2, z_3, z_4, z_5, z_6, z_7, z_8, z_9, z_10, z_11, z_12, z_13, z_14, z_15, z_16, z_17, z_18, z_19, z_20, z_21, z_22, z_23, z_24, z_25, z_26, z_27, z_28, z_29, z_30, z_31, z_32, z_33, z_34, z_35, z_36, z_37, z_38, z_39, z_40, z_41, z_42, z_43, z_44, z_45, z_46, z_47, z_48, z_49, z_50, z_51, z_52, z_53, z_54, z_55, z_56, z_57, z_58, z_59, z_60, z_61, z_77, z_91, z_93, z_97, z_100, z_101, z_102, z_103, z_105, z_111, z_114, z_120, z_123, z_125, z_126, z_200, z_245, z_255, z_576, z_585, z_1000, z_2000, z_3510, z_11700, true_implies, false_implies, implies_true, not_true_eq_false, not_false_eq_true, true_and, and_true, false_and, and_false, ↓reduceIte, Int.reduceToNat, Int.reduceNeg, Int.toNat_natCast]
              exact old (Or.inl (by omega))
      · have hr := a4 q
        subst hr
        have next : at_X12_bestSet_6 v1 v2 (zI ((s : Int) + 1)) M1 Q := ih (s + 1) _ _ _ M1 (by omega) (zc (by omega)) hfr1 a2 (by
          rcases hI with ⟨h1, h2, h⟩ | ⟨B, h1, h2, h3, h4, h5⟩
          · exact Or.inl ⟨h1, h2, fun R r0 r1 => by
              by_cases e : R = s
              · rw [e]; exact q
              · exact h R r0 (by omega)⟩
          · exact Or.inr ⟨B, h1, by omega, h3, h4, fun R r0 r1 ra => by
              by_cases e : R = s
              · rw [e] at ra; exact absurd ra q
              · exact h5 R r0 (by omega) ra⟩)
        rcases hI with ⟨h1, h2, h⟩ | ⟨B, h1, h2, h3, h4, h5⟩
        · subst h1 h2
          simp (disch := omega) only [z_add, z_sub, z_mul, z_neg, z_leT, z_leF, z_ltT, z_ltF, z_eqT, z_eqF, z_inT, z_clamp, z_nI, z_0, z_1, z_2, z_3, z_4, z_5, z_6, z_7, z_8, z_9, z_10, z_11, z_12, z_13, z_14, z_15, z_16, z_17, z_18, z_19, z_20, z_21, z_22, z_23, z_24, z_25, z_26, z_27, z_28, z_29, z_30, z_31, z_32, z_33, z_34, z_35, z_36, z_37, z_38, z_39, z_40, z_41, z_42, z_43, z_44, z_45, z_46, z_47, z_48, z_49, z_50, z_51, z_52, z_53, z_54, z_55, z_56, z_57, z_58, z_59, z_60, z_61, z_77, z_91, z_93, z_97, z_100, z_101, z_102, z_103, z_105, z_111, z_114, z_120, z_123, z_125, z_126, z_200, z_245, z_255, z_576, z_585, z_1000, z_2000, z_3510, z_11700, true_implies, false_implies, implies_true, not_true_eq_false, not_false_eq_true, true_and, and_true, false_and, and_false, ↓reduceIte, Int.reduceToNat, Int.reduceNeg, Int.toNat_natCast]
          exact next
        · subst h1 h4
          have hbB := bVal_in (S := B) hG
          simp (disch := omega) only [z_add, z_sub, z_mul, z_neg, z_leT, z_leF, z_ltT, z_ltF, z_eqT, z_eqF, z_inT, z_clamp, z_nI, z_0, z_1, z_2, z_3, z_4, z_5, z_6, z_7, z_8, z_9, z_10, z_11, z_12, z_13, z_14, z_15, z_16, z_17, z_18, z_19, z_20, z_21, z_22, z_23, z_24, z_25, z_26, z_27, z_28, z_29, z_30, z_31, z_32, z_33, z_34, z_35, z_36, z_37, z_38, z_39, z_40, z_41, z_42, z_43, z_44, z_45, z_46, z_47, z_48, z_49, z_50, z_51, z_52, z_53, z_54, z_55, z_56, z_57, z_58, z_59, z_60, z_61, z_77, z_91, z_93, z_97, z_100, z_101, z_102, z_103, z_105, z_111, z_114, z_120, z_123, z_125, z_126, z_200, z_245, z_255, z_576, z_585, z_1000, z_2000, z_3510, z_11700, true_implies, false_implies, implies_true, not_true_eq_false, not_false_eq_true, true_and, and_true, false_and, and_false, ↓reduceIte, Int.reduceToNat, Int.reduceNeg, Int.toNat_natCast]
          exact next
  refine en_X12_bestSet (bl_X12_bestSet_0 _ _ ?_)
  exact main (2 ^ (n.toNat - 1)) 0 _ _ _ M0 (by omega) z_0 (fm_rf _ _ _) hFA (Or.inl ⟨by rw [z_1, z_neg], by rw [z_1, z_neg], fun R r0 r1 => by omega⟩)
