/-! ===== the reference's evaluation of an expression ===== -/
theorem vo_at {M0 : jM} {v : Int → Int} {l s i len h : Int} {Q : Int32 → Nat → jM → Prop} (hl : 0 ≤ l ∧ l < 6) (hs0 : 0 ≤ s ∧ s < 4) (hlen0 : v (101 + s) = len) (hlen1 : 0 ≤ len ∧ len ≤ 120) (hlen : hgN v s len = some [h]) (hi : 0 ≤ i ∧ i ≤ 30) (hv4 : v 4 ≤ 24) (hv : ∀ r, 0 ≤ r → r < v 4 → (0 ≤ v (5 + r) ∧ v (5 + r) ≤ 4) ∧ (-9 ≤ v (29 + r) ∧ v (29 + r) ≤ 9))
    (htk : ∀ k, 0 ≤ k → k < len → (0 ≤ v ((105 + 120 * s) + k) ∧ v ((105 + 120 * s) + k) ≤ 103) ∨ (200 ≤ v ((105 + 120 * s) + k) ∧ v ((105 + 120 * s) + k) < 200 + v 4))
    (hrow : ∀ j, 0 ≤ j → j < 585 → M0 50 0 (585 * l + j).toNat = zI (v j))
    (hQ : ∀ M1, fr [57] M0 M1 → Q ((evN (M0 58 0) v s i len).headD 0) 0 M1) :
    ∀ (d : Nat) (k : Int) (v4 v5 : Int32) (M : jM) (hs : List Int), k + d = len → 0 ≤ k → hgN v s k = some hs → v4 = zI hs.length → v5 = zI k → fr [57] M0 M → skI (M 57 0) (evN (M0 58 0) v s i k) → at_X12_valueOf_6 (zI l) (zI s) (zI i) v4 v5 M Q := by
  intro d
  induction d with
  | zero =>
    intro k v4 v6 M hs hk h0 he h4 h6 hfr hsk
    subst h4 h6
    refine bl_X12_valueOf_6 _ _ _ _ _ _ _ ?_
    have hkl : k = len := by omega
    subst hkl
    have hl := evN_len (C := M0 58 0) (i := i) hlen k.toNat [h] (by omega) (by rw [show (k.toNat : Int) = k by omega]; exact hlen)
    rw [show (k.toNat : Int) = k by omega] at hl
    have h50 := hfr 50 (by decide)
    simp (disch := omega) only [z_add, z_sub, z_mul, z_neg, z_leT, z_leF, z_ltT, z_ltF, z_eqT, z_eqF, z_inT, z_clamp, z_nI, z_0, z_1, z_2, z_3, z_4, z_5, z_6, z_7, z_8, z_9, z_10, z_11, z_12, z_13, z_14, z_15, z_16, z_17, z_18, z_19, z_20, z_21, z_22, z_23, z_24, z_25, z_26, z_27, z_28, z_29, z_30, z_31, z_32, z_33, z_34, z_35, z_36, z_37, z_38, z_39, z_40, z_41, z_42, z_43, z_44, z_45, z_46, z_47, z_48, z_49, z_50, z_51, z_52, z_53, z_54, z_55, z_56, z_57, z_58, z_59, z_60, z_61, z_77, z_91, z_93, z_97, z_100, z_101, z_102, z_103, z_105, z_111, z_114, z_120, z_123, z_125, z_126, z_200, z_245, z_255, z_576, z_585, z_1000, z_2000, z_3510, z_11700, true_implies, false_implies, implies_true, not_true_eq_false, not_false_eq_true, true_and, and_true, false_and, and_false, ↓reduceIte, Int.reduceToNat, Int.reduceNeg, Int.toNat_natCast, h50, hrow, hlen0]
    have hq := hQ M hfr
    match hh : evN (M0 58 0) v s i k, hl with
    | [x], _ =>
      rw [hh] at hq hsk
      have h1 : M 57 0 0 = x := hsk.1
      rw [h1]
      exact hq
  | succ d ih =>
    intro k v4 v6 M hs hk h0 he h4 h6 hfr hsk
    subst h4 h6
    refine bl_X12_valueOf_6 _ _ _ _ _ _ _ ?_
    have htk := htk k h0 (by omega)
    obtain ⟨st0, st1, e0, e1, ho, hva⟩ := hgN_at hlen h0 (show k < len by omega)
    have e2 : st0 = hs := Option.some.inj (e0.symm.trans he)
    subst e2
    have hl := evN_len (C := M0 58 0) (i := i) hlen k.toNat st0 (by omega) (by rw [show (k.toNat : Int) = k by omega]; exact e0)
    rw [show (k.toNat : Int) = k by omega] at hl
    have h50 := hfr 50 (by decide)
    have h58 := hfr 58 (by decide)
    have es := evN_s (C := M0 58 0) (v := v) (s := s) (i := i) h0
    by_cases q : 101 ≤ v ((105 + 120 * s) + k) ∧ v ((105 + 120 * s) + k) ≤ 103
    · obtain ⟨y, x, r, e3, e4⟩ := ho q
      subst e3 e4
      match hh : evN (M0 58 0) v s i k, hl with
      | b2 :: a2 :: r2, hl =>
        have hr : r2.length = r.length := by simpa using hl
        rw [hh] at hsk es
        rw [evst_op q] at es
        obtain ⟨s1, s2, s3⟩ := hsk
        simp only [List.length_cons] at s1 s2 hva
        have hlt : r.length ≤ 7 := by
          have := hgN_le k.toNat (y :: x :: r) (by rw [show (k.toNat : Int) = k by omega]; exact e0)
          simp at this
          omega
        have L1 : (((y :: x :: r).length : Nat) : Int) = (r.length : Int) + 2 := by simp; omega
        rw [L1]
        have s1' : M 57 0 (r.length + 1) = b2 := by rw [← hr]; exact s1
        have s2' : M 57 0 r.length = a2 := by rw [← hr]; exact s2
        have E1 : ((r.length : Int) + 2 + -1 - 1).toNat = r.length := by omega
        have E2 : ((r.length : Int) + 2 + -1).toNat = r.length + 1 := by omega
        have fin : ∀ (x3 : Int32) (v4' v6' : Int32), x3 = apI (v ((105 + 120 * s) + k)) a2 b2 → v4' = zI (r.length + 1) → v6' = zI (k + 1) → at_X12_valueOf_6 (zI l) (zI s) (zI i) v4' v6' (jup M 57 0 r.length x3) Q := by
          intro x3 v4' v6' hx h4' h6'
          refine ih (k + 1) v4' v6' _ _ (by omega) (by omega) e1 (by rw [h4']; exact zc (by simp)) h6' (fr_up hfr) ?_
          rw [es]
          refine ⟨?_, skI_congr _ (fun j hj => jup_ne (fun z => by omega)) s3⟩
          rw [hr, jup_self, hx]
        rcases (show v ((105 + 120 * s) + k) = 101 ∨ v ((105 + 120 * s) + k) = 102 ∨ v ((105 + 120 * s) + k) = 103 by omega) with ht | ht | ht
        · rw [ht] at fin
          simp (disch := omega) only [z_add, z_sub, z_mul, z_neg, z_leT, z_leF, z_ltT, z_ltF, z_eqT, z_eqF, z_inT, z_clamp, z_nI, z_0, z_1, z_2, z_3, z_4, z_5, z_6, z_7, z_8, z_9, z_10, z_11, z_12, z_13, z_14, z_15, z_16, z_17, z_18, z_19, z_20, z_21, z_22, z_23, z_24, z_25, z_26, z_27, z_28, z_29, z_30, z_31, z_32, z_33, z_34, z_35, z_36, z_37, z_38, z_39, z_40, z_41, z_42, z_43, z_44, z_45, z_46, z_47, z_48, z_49, z_50, z_51, z_52, z_53, z_54, z_55, z_56, z_57, z_58, z_59, z_60, z_61, z_77, z_91, z_93, z_97, z_100, z_101, z_102, z_103, z_105, z_111, z_114, z_120, z_123, z_125, z_126, z_200, z_245, z_255, z_576, z_585, z_1000, z_2000, z_3510, z_11700, true_implies, false_implies, implies_true, not_true_eq_false, not_false_eq_true, true_and, and_true, false_and, and_false, ↓reduceIte, Int.reduceToNat, Int.reduceNeg, Int.toNat_natCast, h50, hrow, hlen0, ht, E1, E2, s1', s2']
          exact fun M3 e3 => e3 ▸ fin _ _ _ rfl (zc (by omega)) (zc (by omega))
        · rw [ht] at fin
          simp (disch := omega) only [z_add, z_sub, z_mul, z_neg, z_leT, z_leF, z_ltT, z_ltF, z_eqT, z_eqF, z_inT, z_clamp, z_nI, z_0, z_1, z_2, z_3, z_4, z_5, z_6, z_7, z_8, z_9, z_10, z_11, z_12, z_13, z_14, z_15, z_16, z_17, z_18, z_19, z_20, z_21, z_22, z_23, z_24, z_25, z_26, z_27, z_28, z_29, z_30, z_31, z_32, z_33, z_34, z_35, z_36, z_37, z_38, z_39, z_40, z_41, z_42, z_43, z_44, z_45, z_46, z_47, z_48, z_49, z_50, z_51, z_52, z_53, z_54, z_55, z_56, z_57, z_58, z_59, z_60, z_61, z_77, z_91, z_93, z_97, z_100, z_101, z_102, z_103, z_105, z_111, z_114, z_120, z_123, z_125, z_126, z_200, z_245, z_255, z_576, z_585, z_1000, z_2000, z_3510, z_11700, true_implies, false_implies, implies_true, not_true_eq_false, not_false_eq_true, true_and, and_true, false_and, and_false, ↓reduceIte, Int.reduceToNat, Int.reduceNeg, Int.toNat_natCast, h50, hrow, hlen0, ht, E1, E2, s1', s2']
          exact fun M3 e3 => e3 ▸ fin _ _ _ rfl (zc (by omega)) (zc (by omega))
        · rw [ht] at fin
          simp (disch := omega) only [z_add, z_sub, z_mul, z_neg, z_leT, z_leF, z_ltT, z_ltF, z_eqT, z_eqF, z_inT, z_clamp, z_nI, z_0, z_1, z_2, z_3, z_4, z_5, z_6, z_7, z_8, z_9, z_10, z_11, z_12, z_13, z_14, z_15, z_16, z_17, z_18, z_19, z_20, z_21, z_22, z_23, z_24, z_25, z_26, z_27, z_28, z_29, z_30, z_31, z_32, z_33, z_34, z_35, z_36, z_37, z_38, z_39, z_40, z_41, z_42, z_43, z_44, z_45, z_46, z_47, z_48, z_49, z_50, z_51, z_52, z_53, z_54, z_55, z_56, z_57, z_58, z_59, z_60, z_61, z_77, z_91, z_93, z_97, z_100, z_101, z_102, z_103, z_105, z_111, z_114, z_120, z_123, z_125, z_126, z_200, z_245, z_255, z_576, z_585, z_1000, z_2000, z_3510, z_11700, true_implies, false_implies, implies_true, not_true_eq_false, not_false_eq_true, true_and, and_true, false_and, and_false, ↓reduceIte, Int.reduceToNat, Int.reduceNeg, Int.toNat_natCast, h50, hrow, hlen0, ht, E1, E2, s1', s2']
          exact fun M3 e3 => e3 ▸ fin _ _ _ rfl (zc (by omega)) (zc (by omega))
    · obtain ⟨hl9, e4⟩ := hva q
      subst e4
      rw [evst_va q] at es
      have fin : ∀ (x3 : Int32) (v4' v6' : Int32), x3 = valC (M0 58 0) v i (v ((105 + 120 * s) + k)) → v4' = zI (st0.length + 1) → v6' = zI (k + 1) → at_X12_valueOf_6 (zI l) (zI s) (zI i) v4' v6' (jup M 57 0 st0.length x3) Q := by
        intro x3 v4' v6' hx h4' h6'
        refine ih (k + 1) v4' v6' _ _ (by omega) (by omega) e1 (by rw [h4']; exact zc (by simp)) h6' (fr_up hfr) ?_
        rw [es]
        refine ⟨?_, skI_congr _ (fun j hj => jup_ne (fun z => by omega)) hsk⟩
        rw [hl, jup_self, hx]
      have E1 : ((st0.length : Nat) : Int).toNat = st0.length := by omega
      by_cases q1 : v ((105 + 120 * s) + k) < 100
      · simp (disch := omega) only [z_add, z_sub, z_mul, z_neg, z_leT, z_leF, z_ltT, z_ltF, z_eqT, z_eqF, z_inT, z_clamp, z_nI, z_0, z_1, z_2, z_3, z_4, z_5, z_6, z_7, z_8, z_9, z_10, z_11, z_12, z_13, z_14, z_15, z_16, z_17, z_18, z_19, z_20, z_21, z_22, z_23, z_24, z_25, z_26, z_27, z_28, z_29, z_30, z_31, z_32, z_33, z_34, z_35, z_36, z_37, z_38, z_39, z_40, z_41, z_42, z_43, z_44, z_45, z_46, z_47, z_48, z_49, z_50, z_51, z_52, z_53, z_54, z_55, z_56, z_57, z_58, z_59, z_60, z_61, z_77, z_91, z_93, z_97, z_100, z_101, z_102, z_103, z_105, z_111, z_114, z_120, z_123, z_125, z_126, z_200, z_245, z_255, z_576, z_585, z_1000, z_2000, z_3510, z_11700, true_implies, false_implies, implies_true, not_true_eq_false, not_false_eq_true, true_and, and_true, false_and, and_false, ↓reduceIte, Int.reduceToNat, Int.reduceNeg, Int.toNat_natCast, h50, hrow, hlen0, E1]
        exact fun M3 e3 => e3 ▸ fin _ _ _ (by unfold valC; rw [if_pos q1]) (zc (by omega)) (zc (by omega))
      · by_cases q2 : v ((105 + 120 * s) + k) = 100
        · rw [q2] at fin
          simp (disch := omega) only [z_add, z_sub, z_mul, z_neg, z_leT, z_leF, z_ltT, z_ltF, z_eqT, z_eqF, z_inT, z_clamp, z_nI, z_0, z_1, z_2, z_3, z_4, z_5, z_6, z_7, z_8, z_9, z_10, z_11, z_12, z_13, z_14, z_15, z_16, z_17, z_18, z_19, z_20, z_21, z_22, z_23, z_24, z_25, z_26, z_27, z_28, z_29, z_30, z_31, z_32, z_33, z_34, z_35, z_36, z_37, z_38, z_39, z_40, z_41, z_42, z_43, z_44, z_45, z_46, z_47, z_48, z_49, z_50, z_51, z_52, z_53, z_54, z_55, z_56, z_57, z_58, z_59, z_60, z_61, z_77, z_91, z_93, z_97, z_100, z_101, z_102, z_103, z_105, z_111, z_114, z_120, z_123, z_125, z_126, z_200, z_245, z_255, z_576, z_585, z_1000, z_2000, z_3510, z_11700, true_implies, false_implies, implies_true, not_true_eq_false, not_false_eq_true, true_and, and_true, false_and, and_false, ↓reduceIte, Int.reduceToNat, Int.reduceNeg, Int.toNat_natCast, h50, hrow, hlen0, E1, q2]
          exact fun M3 e3 => e3 ▸ fin _ _ _ (by unfold valC; rw [if_neg (by omega), if_pos rfl]) (zc (by omega)) (zc (by omega))
        · obtain ⟨⟨a1, a2⟩, b1, b2⟩ := hv (v ((105 + 120 * s) + k) - 200) (by omega) (by omega)
          simp (disch := omega) only [z_add, z_sub, z_mul, z_neg, z_leT, z_leF, z_ltT, z_ltF, z_eqT, z_eqF, z_inT, z_clamp, z_nI, z_0, z_1, z_2, z_3, z_4, z_5, z_6, z_7, z_8, z_9, z_10, z_11, z_12, z_13, z_14, z_15, z_16, z_17, z_18, z_19, z_20, z_21, z_22, z_23, z_24, z_25, z_26, z_27, z_28, z_29, z_30, z_31, z_32, z_33, z_34, z_35, z_36, z_37, z_38, z_39, z_40, z_41, z_42, z_43, z_44, z_45, z_46, z_47, z_48, z_49, z_50, z_51, z_52, z_53, z_54, z_55, z_56, z_57, z_58, z_59, z_60, z_61, z_77, z_91, z_93, z_97, z_100, z_101, z_102, z_103, z_105, z_111, z_114, z_120, z_123, z_125, z_126, z_200, z_245, z_255, z_576, z_585, z_1000, z_2000, z_3510, z_11700, true_implies, false_implies, implies_true, not_true_eq_false, not_false_eq_true, true_and, and_true, false_and, and_false, ↓reduceIte, Int.reduceToNat, Int.reduceNeg, Int.toNat_natCast, h50, h58, hrow, hlen0, E1]
          refine fun M3 e3 => e3 ▸ fin _ _ _ ?_ (zc (by omega)) (zc (by omega))
          unfold valC
          rw [if_neg (by omega), if_neg (by omega)]
theorem vo_ok {M : jM} {n : Int} {w : Int → Int → Int} {o : Int → Int} {l s i : Int} {Q : Int32 → Nat → jM → Prop} (hM : MR M n w o) (hG : GH n w o) (hl : 0 ≤ l ∧ l < n) (hs : 0 ≤ s ∧ s < w l 3) (hi : 0 ≤ i ∧ i ≤ 30) (hQ : ∀ M1, fr [57] M M1 → Q ((evN (M 58 0) (w l) s i (w l (101 + s))).headD 0) 0 M1) : ok_X12_valueOf (zI l) (zI s) (zI i) M Q := by
  obtain ⟨_, ⟨⟨a1, a2, a3, a4⟩, b1, b2, _⟩⟩ := hG.2.2 l hl.1 hl.2
  obtain ⟨⟨c1, c2⟩, ⟨h, _, c3⟩, c4⟩ := b2 s hs.1 hs.2
  have hn := hG.1
  refine en_X12_valueOf (bl_X12_valueOf_0 _ _ _ _ _ ?_)
  refine vo_at (by omega) (by omega) rfl ⟨c1, c2⟩ c3 hi a4 (fun r h1 h2 => ⟨(b1 r h1 h2).1, (b1 r h1 h2).2.1⟩) c4 (fun j h1 h2 => hM.2.2 l j hl.1 hl.2 h1 h2) hQ (w l (101 + s)).toNat 0 _ _ _ [] (by omega) (by omega) hgN_0 rfl rfl (fr_rf _ _) ?_
  rw [evN_0]
  trivial
theorem ev_ok {M : jM} {n0 b : Nat} {v : Int → Int} {s i : Int} {Q : Int32 → Nat → jM → Prop} (hn0 : n0 < 4) (hb : b < jnb M) (hB : BR M b v) (hO : OKL v) (hs : 0 ≤ s ∧ s < v 3) (hi : 0 ≤ i ∧ i ≤ 30) (hQ : ∀ M1, fr [34] M M1 → Q ((evN (M 33 n0) v s i (v (101 + s))).headD 0) 0 M1) : ok_X4_evaluate n0 b (4 * b + s.toNat) (zI i) M Q := by
  obtain ⟨_, ⟨⟨a1, a2, a3, a4⟩, b1, b2, _⟩⟩ := hO
  obtain ⟨⟨c1, c2⟩, ⟨h, _, c3⟩, c4⟩ := b2 s hs.1 hs.2
  obtain ⟨f, h', r, d1, d2, d3, ⟨d4, d5, d6, d7⟩, d8, d9⟩ := hB.2.2 s hs.1 hs.2
  refine en_X4_evaluate (bl_X4_evaluate_0 _ _ _ _ _ _ hn0 hb (by omega) ?_)
  have e1 : jmin (M 7 (4 * b + s.toNat) 2) 120 = zI (f + v (101 + s)) := by
    rw [d5, z_120, z_min (by omega)]; exact zc (by omega)
  have e2 : jmax (M 7 (4 * b + s.toNat) 1) 0 = zI f := by
    rw [d4, z_0, z_max (by omega)]; exact zc (by omega)
  rw [e1, e2]
  refine ev_at hn0 hb ⟨d1.1, d1.2⟩ c3 hi (fun r h1 h2 => ⟨(b1 r h1 h2).1, (b1 r h1 h2).2.1⟩) d9 hQ (v (101 + s)).toNat 0 _ _ _ [] (by omega) (by omega) hgN_0 rfl (zc (by omega)) (fr_rf _ _) ?_
  rw [evN_0]
  trivial
