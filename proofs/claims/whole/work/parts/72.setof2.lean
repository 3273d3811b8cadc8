theorem fin_or : ∀ S : Nat, S < 32 → ∀ x : Nat, x < 5 → (zI (S : Int) ||| (zI 1 <<< (zI (x : Int) &&& zI 31))) = zI ((S ||| 2 ^ x : Nat) : Int) ∧ (S ||| 2 ^ x) < 32 ∧ ∀ y : Nat, y < 5 → sbit ((S ||| 2 ^ x : Nat) : Int) (y : Int) = (sbit (S : Int) (y : Int) || decide (y = x)) := by decide +kernel
set_option maxHeartbeats 4000000 in
set_option maxRecDepth 100000 in
theorem gd_ok {M0 : jM} {n : Int} {w : Int → Int → Int} {o : Int → Int} {Q : Int32 → Nat → jM → Prop} (hG : GH n w o) (hM : MR M0 n w o)
    (hQ : ∀ M1 S, fm [59] [22, 23, 24] M0 M1 → (∀ T, isNG (az w o n 1) n T → isSet S (az w o n 1) n T) → (0 ≤ S ∧ S < 32 ∧ S.toNat < 2 ^ (n.toNat - 1)) → Q (zI S) 0 M1) : ok_X12_greedySet M0 Q := by
  have hn := hG.1
  have hz := az_ok (w := w) (o := o) (n := n) (k := 1)
  have e1 : ∀ f, az w o n 1 f = lg w o n f := fun f => by unfold az; rw [if_neg (by omega), if_pos rfl]
  have main : ∀ (d : Nat) (l S j : Int) (v1 v2 v3 : Int32) (M : jM), l + d = n → 1 ≤ l → v1 = zI S → v2 = zI (gs (az w o n 1) j) → v3 = zI l → fm [59] [22, 23, 24] M0 M → 0 ≤ j → 0 ≤ gs (az w o n 1) j → gs (az w o n 1) j < l → l ≤ gs (az w o n 1) (j + 1) → (∀ i, 0 ≤ i → i ≤ j → gs (az w o n 1) i < n) → (0 ≤ S ∧ S < 32) → (∀ x, 0 ≤ x → x < 5 → (sbit S x = true ↔ ∃ i, 1 ≤ i ∧ i ≤ j ∧ gs (az w o n 1) i = x + 1)) → at_X12_greedySet_6 v1 v2 v3 M Q := by
    intro d
    induction d with
    | zero =>
      intro l S j v1 v2 v3 M hd hl h1 h2 h3 hfr j0 g0 g1 g2 g3 hS hb
      subst h1 h2 h3
      refine bl_X12_greedySet_6 _ _ _ _ _ ?_
      have e0 := (MR_fm hM hfr).1
      simp (disch := omega) only [z_add, z_sub, z_mul, z_neg, z_leT, z_leF, z_ltT, z_ltF, z_eqT, z_eqF, z_inT, z_clamp, z_nI, z_0, z_1, z_2, z_3, z_4, z_5, z_6, z_7, z_8, z_9, z_10, z_11, z_12, z_13, z_14, z_15, z_16, z_17, z_18, z_19, z_20, z_21, z_22, z_23, z_24, z_25, z_26, z_27, z_28, z_29, z_30, z_31, z_32, z_33, z_34, z_35, z_36, z_37, z_38, z_39, z_40, z_41, z_42, z_43, z_44, z_45, z_46, z_47, z_48, z_49, z_50, z_51, z_52, z_53, z_54, z_55, z_56, z_57, z_58, z_59, z_60, z_61, z_77, z_91, z_93, z_97, z_100, z_101, z_102, z_103, z_105, z_111, z_114, z_120, z_123, z_125, z_126, z_200, z_245, z_255, z_576, z_585, z_1000, z_2000, z_3510, z_11700, true_implies, false_implies, implies_true, not_true_eq_false, not_false_eq_true, true_and, and_true, false_and, and_false, ↓reduceIte, Int.reduceToNat, Int.reduceNeg, Int.toNat_natCast, e0]
      have hlt : S.toNat < 2 ^ (n.toNat - 1) := fin_lt n.toNat (by omega) S.toNat (by omega) (fun x hx hx2 => by
        rw [show ((S.toNat : Nat) : Int) = S by omega]
        cases hb2 : sbit S (x : Int) with
        | false => rfl
        | true =>
          obtain ⟨i, i1, i2, i3⟩ := (hb (x : Int) (by omega) (by omega)).mp hb2
          have := g3 i (by omega) i2
          omega)
      refine hQ M S hfr (fun T hT => ⟨hS, fun x x0 x1 => ?_⟩) ⟨hS.1, hS.2, hlt⟩
      have b := hz (gs (az w o n 1) j) g0 (by omega)
      have hNG : isNG (az w o n 1) n (j + 1) := ⟨by omega, by rw [gs_s j0] at g2 ⊢; omega, fun i i0 i1 => g3 i i0 (by omega)⟩
      have eT := isNG_u hT hNG
      rw [hb x x0 (by omega)]
      exact ⟨fun ⟨i, a, b, c⟩ => ⟨i, a, by omega, c⟩, fun ⟨i, a, b, c⟩ => ⟨i, a, by omega, c⟩⟩
    | succ d ih =>
      intro l S j v1 v2 v3 M hd hl h1 h2 h3 hfr j0 g0 g1 g2 g3 hS hb
      subst h1 h2 h3
      refine bl_X12_greedySet_6 _ _ _ _ _ ?_
      have hM' := MR_fm hM hfr
      have e0 := hM'.1
      have b := hz (gs (az w o n 1) j) g0 (by omega)
      have gS := gs_s (z := az w o n 1) j0
      have hlg := lg_is (w := w) (o := o) (n := n) (f := gs (az w o n 1) j) (by omega)
      rw [e1] at gS b
      simp (disch := omega) only [z_add, z_sub, z_mul, z_neg, z_leT, z_leF, z_ltT, z_ltF, z_eqT, z_eqF, z_inT, z_clamp, z_nI, z_0, z_1, z_2, z_3, z_4, z_5, z_6, z_7, z_8, z_9, z_10, z_11, z_12, z_13, z_14, z_15, z_16, z_17, z_18, z_19, z_20, z_21, z_22, z_23, z_24, z_25, z_26, z_27, z_28, z_29, z_30, z_31, z_32, z_33, z_34, z_35, z_36, z_37, z_38, z_39, z_40, z_41, z_42, z_43, z_44, z_45, z_46, z_47, z_48, z_49, z_50, z_51, z_52, z_53, z_54, z_55, z_56, z_57, z_58, z_59, z_60, z_61, z_77, z_91, z_93, z_97, z_100, z_101, z_102, z_103, z_105, z_111, z_114, z_120, z_123, z_125, z_126, z_200, z_245, z_255, z_576, z_585, z_1000, z_2000, z_3510, z_11700, true_implies, false_implies, implies_true, not_true_eq_false, not_false_eq_true, true_and, and_true, false_and, and_false, ↓reduceIte, Int.reduceToNat, Int.reduceNeg, Int.toNat_natCast, e0]
      refine ls_ok hG hM' g0 (by omega) (by omega) (fun M2 r a1 a2 a3 a4 => ⟨fm_nb a1, fun hr => ?_, fun hr => ?_⟩)
      · have hna : ¬ alw w o (gs (az w o n 1) j) l := fun z => by rw [a3 z, z_1, z_eqF (by omega)] at hr; exact hr
        have el : l = gs (az w o n 1) (j + 1) := by
          by_cases q : l < gs (az w o n 1) (j + 1)
          · exact absurd (alw_le hlg.2.2.1 (by omega)) hna
          · omega
        obtain ⟨p1, p2, p3⟩ := fin_or S.toNat (by omega) (l - 1).toNat (by omega)
        rw [show ((S.toNat : Nat) : Int) = S by omega, show (((l - 1).toNat : Nat) : Int) = l - 1 by omega] at p1
        rw [p1]
        have b2 := hz (gs (az w o n 1) (j + 1)) (by omega) (by omega)
        refine ih (l + 1) _ (j + 1) _ _ _ M2 (by omega) (by omega) rfl (by rw [← el]) rfl (fm_tr hfr a1) (by omega) (by omega) (by omega) (by rw [gs_s (by omega)]; omega) (fun i i0 i1 => ?_) (by omega) (fun x x0 x1 => ?_)
        · by_cases e : i = j + 1
          · rw [e]; omega
          · exact g3 i i0 (by omega)
        · have p4 := p3 x.toNat (by omega)
          rw [show ((x.toNat : Nat) : Int) = x by omega, show ((S.toNat : Nat) : Int) = S by omega] at p4
          rw [p4]
          constructor
          · intro z
            by_cases e : x = l - 1
            · exact ⟨j + 1, by omega, Int.le_refl _, by omega⟩
            · rw [decide_eq_false (show ¬ x.toNat = (l - 1).toNat by omega), Bool.or_false] at z
              obtain ⟨i, i0, i1, i2⟩ := (hb x x0 x1).mp z
              exact ⟨i, i0, by omega, i2⟩
          · rintro ⟨i, i0, i1, i2⟩
            by_cases e : i = j + 1
            · rw [decide_eq_true (show x.toNat = (l - 1).toNat by rw [e] at i2; omega), Bool.or_true]
            · rw [(hb x x0 x1).mpr ⟨i, i0, by omega, i2⟩]; rfl
      · have hya : alw w o (gs (az w o n 1) j) l := by
          by_cases z : alw w o (gs (az w o n 1) j) l
          · exact z
          · have := a4 z
            rw [this] at hr
            exact absurd z_0 hr
        have hll := alw_lg (w := w) (o := o) (n := n) (f := gs (az w o n 1) j) (t := l - gs (az w o n 1) j + 1) (by omega) (by omega) (by omega) (by rw [show gs (az w o n 1) j + (l - gs (az w o n 1) j + 1) - 1 = l by omega]; exact hya)
        exact ih (l + 1) S j _ _ _ M2 (by omega) (by omega) rfl rfl rfl (fm_tr hfr a1) j0 g0 (by omega) (by omega) g3 hS hb
  refine en_X12_greedySet (bl_X12_greedySet_0 _ _ ?_)
  by_cases n0 : n = 0
  · refine bl_X12_greedySet_6 _ _ _ _ _ ?_
    have e0 := hM.1
    simp (disch := omega) only [z_add, z_sub, z_mul, z_neg, z_leT, z_leF, z_ltT, z_ltF, z_eqT, z_eqF, z_inT, z_clamp, z_nI, z_0, z_1, z_2, z_3, z_4, z_5, z_6, z_7, z_8, z_9, z_10, z_11, z_12, z_13, z_14, z_15, z_16, z_17, z_18, z_19, z_20, z_21, z_22, z_23, z_24, z_25, z_26, z_27, z_28, z_29, z_30, z_31, z_32, z_33, z_34, z_35, z_36, z_37, z_38, z_39, z_40, z_41, z_42, z_43, z_44, z_45, z_46, z_47, z_48, z_49, z_50, z_51, z_52, z_53, z_54, z_55, z_56, z_57, z_58, z_59, z_60, z_61, z_77, z_91, z_93, z_97, z_100, z_101, z_102, z_103, z_105, z_111, z_114, z_120, z_123, z_125, z_126, z_200, z_245, z_255, z_576, z_585, z_1000, z_2000, z_3510, z_11700, true_implies, false_implies, implies_true, not_true_eq_false, not_false_eq_true, true_and, and_true, false_and, and_false, ↓reduceIte, Int.reduceToNat, Int.reduceNeg, Int.toNat_natCast, e0]
    exact hQ M0 0 (fm_rf _ _ _) (fun T hT => ⟨by omega, fun x x0 x1 => by omega⟩) ⟨by omega, by omega, by rw [n0]; decide⟩
  · have b := hz 0 (by omega) (by omega)
    refine main (n - 1).toNat 1 0 0 _ _ _ M0 (by omega) (by omega) z_0 (by rw [gs_0]; exact z_0) z_1 (fm_rf _ _ _) (by omega) (by rw [gs_0]; omega) (by rw [gs_0]; omega) (by rw [gs_s (by omega), gs_0]; omega) (fun i i0 i1 => by rw [show i = 0 by omega, gs_0]; omega) (by omega) (fun x x0 x1 => ?_)
    have hb0 : ∀ x : Nat, x < 5 → sbit 0 (x : Int) = false := by decide
    have := hb0 x.toNat (by omega)
    rw [show ((x.toNat : Nat) : Int) = x by omega] at this
    rw [this]
    exact ⟨fun z => (by cases z), fun ⟨i, i0, i1, _⟩ => by omega⟩
theorem fin_all : ∀ n : Nat, n < 7 → ∀ x : Nat, x < 5 → x + 1 < n → sbit ((2 ^ (n - 1) - 1 : Nat) : Int) (x : Int) = true := by decide +kernel
theorem az0_gs {w : Int → Int → Int} {o : Int → Int} {n : Int} : ∀ d : Nat, gs (az w o n 0) d = d := by
  intro d
  induction d with
  | zero => exact gs_0
  | succ d ih =>
    rw [show ((d + 1 : Nat) : Int) = (d : Int) + 1 by omega, gs_s (by omega), ih]
    unfold az
    rw [if_pos rfl]
theorem set_ok {M0 : jM} {n : Int} {w : Int → Int → Int} {o : Int → Int} {k : Int} {Q : Int32 → Nat → jM → Prop} (hG : GH n w o) (hM : MR M0 n w o) (hFA : FA M0) (hk : 0 ≤ k ∧ k ≤ 2)
    (hQ : ∀ M1 S, fm [59, 60] [22, 23, 24, 27, 28] M0 M1 → FA M1 → (∀ T, isNG (az w o n k) n T → isSet S (az w o n k) n T) → (0 ≤ S ∧ S < 32 ∧ S.toNat < 2 ^ (n.toNat - 1)) → Q (zI S) 0 M1) : ok_X12_setOf (zI k) M0 Q := by
  have hn := hG.1
  refine en_X12_setOf (bl_X12_setOf_0 _ _ _ ?_)
  rcases (show k = 0 ∨ k = 1 ∨ k = 2 by omega) with q | q | q
  · subst q
    have e0 := hM.1
    have hp2 := (fin_pow n.toNat (by omega)).2
    have hpe := pow_eq hn
    have hmx : jmax (zI 0) (zI (n - 1)) = zI (max 0 (n - 1)) := z_max (by omega)
    simp (disch := omega) only [z_add, z_sub, z_mul, z_neg, z_leT, z_leF, z_ltT, z_ltF, z_eqT, z_eqF, z_inT, z_clamp, z_nI, z_0, z_1, z_2, z_3, z_4, z_5, z_6, z_7, z_8, z_9, z_10, z_11, z_12, z_13, z_14, z_15, z_16, z_17, z_18, z_19, z_20, z_21, z_22, z_23, z_24, z_25, z_26, z_27, z_28, z_29, z_30, z_31, z_32, z_33, z_34, z_35, z_36, z_37, z_38, z_39, z_40, z_41, z_42, z_43, z_44, z_45, z_46, z_47, z_48, z_49, z_50, z_51, z_52, z_53, z_54, z_55, z_56, z_57, z_58, z_59, z_60, z_61, z_77, z_91, z_93, z_97, z_100, z_101, z_102, z_103, z_105, z_111, z_114, z_120, z_123, z_125, z_126, z_200, z_245, z_255, z_576, z_585, z_1000, z_2000, z_3510, z_11700, true_implies, false_implies, implies_true, not_true_eq_false, not_false_eq_true, true_and, and_true, false_and, and_false, ↓reduceIte, Int.reduceToNat, Int.reduceNeg, Int.toNat_natCast, e0, hmx, hpe]
    refine hQ M0 _ (fm_rf _ _ _) hFA (fun T hT => ⟨by omega, fun x x0 x1 => ?_⟩) ⟨by omega, by omega, by omega⟩
    have f := fin_all n.toNat (by omega) x.toNat (by omega) (by omega)
    rw [show (((2 ^ (n.toNat - 1) - 1 : Nat)) : Int) = ((2 ^ (n.toNat - 1) : Nat) : Int) - 1 by omega, show ((x.toNat : Nat) : Int) = x by omega] at f
    rw [f]
    have g := az0_gs (w := w) (o := o) (n := n)
    have gT := g T.toNat
    have := hT.1
    rw [show ((T.toNat : Nat) : Int) = T by omega, hT.2.1] at gT
    refine ⟨fun _ => ⟨x + 1, by omega, by omega, ?_⟩, fun _ => rfl⟩
    have := g (x + 1).toNat
    rw [show (((x + 1).toNat : Nat) : Int) = x + 1 by omega] at this
    exact this
  · subst q
    simp (disch := omega) only [z_add, z_sub, z_mul, z_neg, z_leT, z_leF, z_ltT, z_ltF, z_eqT, z_eqF, z_inT, z_clamp, z_nI, z_0, z_1, z_2, z_3, z_4, z_5, z_6, z_7, z_8, z_9, z_10, z_11, z_12, z_13, z_14, z_15, z_16, z_17, z_18, z_19, z_20, z_21, z_22, z_23, z_24, z_25, z_26, z_27, z_28, z_29, z_30, z_31, z_32, z_33, z_34, z_35, z_36, z_37, z_38, z_39, z_40, z_41, z_42, z_43, z_44, z_45, z_46, z_47, z_48, z_49, z_50, z_51, z_52, z_53, z_54, z_55, z_56, z_57, z_58, z_59, z_60, z_61, z_77, z_91, z_93, z_97, z_100, z_101, z_102, z_103, z_105, z_111, z_114, z_120, z_123, z_125, z_126, z_200, z_245, z_255, z_576, z_585, z_1000, z_2000, z_3510, z_11700, true_implies, false_implies, implies_true, not_true_eq_false, not_false_eq_true, true_and, and_true, false_and, and_false, ↓reduceIte, Int.reduceToNat, Int.reduceNeg, Int.toNat_natCast]
    refine gd_ok hG hM (fun M1 S a1 a2 a3 => ⟨fm_nb a1, hQ M1 S (fm_mono a1) ?_ a2 a3⟩)
    obtain ⟨fa, f1, f2⟩ := hFA
    exact ⟨fa, f1, by rw [a1.2 28 (by decide)]; exact f2⟩
  · subst q
    simp (disch := omega) only [z_add, z_sub, z_mul, z_neg, z_leT, z_leF, z_ltT, z_ltF, z_eqT, z_eqF, z_inT, z_clamp, z_nI, z_0, z_1, z_2, z_3, z_4, z_5, z_6, z_7, z_8, z_9, z_10, z_11, z_12, z_13, z_14, z_15, z_16, z_17, z_18, z_19, z_20, z_21, z_22, z_23, z_24, z_25, z_26, z_27, z_28, z_29, z_30, z_31, z_32, z_33, z_34, z_35, z_36, z_37, z_38, z_39, z_40, z_41, z_42, z_43, z_44, z_45, z_46, z_47, z_48, z_49, z_50, z_51, z_52, z_53, z_54, z_55, z_56, z_57, z_58, z_59, z_60, z_61, z_77, z_91, z_93, z_97, z_100, z_101, z_102, z_103, z_105, z_111, z_114, z_120, z_123, z_125, z_126, z_200, z_245, z_255, z_576, z_585, z_1000, z_2000, z_3510, z_11700, true_implies, false_implies, implies_true, not_true_eq_false, not_false_eq_true, true_and, and_true, false_and, and_false, ↓reduceIte, Int.reduceToNat, Int.reduceNeg, Int.toNat_natCast]
    exact bs_ok hG hM hFA (fun M1 S a1 a2 a3 a4 => ⟨fm_nb a1, hQ M1 S a1 a2 a3 a4⟩)
