/-! ===== the reference's dependences ===== -/
def fm (S F : List Nat) (M M1 : jM) : Prop := (∀ R, R ≠ 11 → R ∉ S → M1 R = M R) ∧ ∀ k, k ∉ F → M1 11 0 k = M 11 0 k
theorem fm_rf (S F : List Nat) (M : jM) : fm S F M M := ⟨fun _ _ _ => rfl, fun _ _ => rfl⟩
theorem fm_tr {S F S1 F1 S2 F2 : List Nat} {M M1 M2 : jM} (h : fm S F M M1) (h2 : fm S1 F1 M1 M2) (a1 : ∀ R ∈ S, R ∈ S2 := by decide) (a2 : ∀ R ∈ F, R ∈ F2 := by decide) (a3 : ∀ R ∈ S1, R ∈ S2 := by decide) (a4 : ∀ R ∈ F1, R ∈ F2 := by decide) : fm S2 F2 M M2 :=
  ⟨fun R h1 hR => (h2.1 R h1 (fun q => hR (a3 R q))).trans (h.1 R h1 (fun q => hR (a1 R q))), fun k hk => (h2.2 k (fun q => hk (a4 k q))).trans (h.2 k (fun q => hk (a2 k q)))⟩
theorem fm_mono {S F S2 F2 : List Nat} {M M1 : jM} (h : fm S F M M1) (a1 : ∀ R ∈ S, R ∈ S2 := by decide) (a2 : ∀ R ∈ F, R ∈ F2 := by decide) : fm S2 F2 M M1 :=
  ⟨fun R h1 hR => h.1 R h1 (fun q => hR (a1 R q)), fun k hk => h.2 k (fun q => hk (a2 k q))⟩
theorem fm_up {S F : List Nat} {M M1 : jM} {R i k : Nat} {v : Int32} (h : fm S F M M1) (h11 : R ≠ 11 := by decide) (hR : R ∈ S := by decide) : fm S F M (jup M1 R i k v) :=
  ⟨fun R' h1 hR' => (jup_o (fun q => hR' (by rw [q]; exact hR))).trans (h.1 R' h1 hR'), fun k' hk => (jup_R (fun q => h11 q.symm)).trans (h.2 k' hk)⟩
theorem fm_f {S F : List Nat} {M M1 : jM} {k : Nat} {v : Int32} (h : fm S F M M1) (hF : k ∈ F := by decide) : fm S F M (jup M1 11 0 k v) :=
  ⟨fun R' h1 hR' => (jup_o h1).trans (h.1 R' h1 hR'), fun k' hk => (jup_ne (fun q => hk (by rw [q.2.2]; exact hF))).trans (h.2 k' hk)⟩
theorem fm_nb {S F : List Nat} {M M1 : jM} (h : fm S F M M1) (hS : 99 ∉ S := by decide) : jnb M1 = jnb M := by
  unfold jnb
  rw [h.1 99 (by decide) hS]
theorem fr_fm {S F : List Nat} {M M1 : jM} (h : fr S M M1) (h11 : 11 ∉ S := by decide) : fm S F M M1 := ⟨fun R _ hR => h R hR, fun k _ => by rw [h 11 h11]⟩
theorem jup_same {M : jM} {R i k : Nat} : jup M R i k (M R i k) = M := by
  funext R' i' k'
  by_cases h : R' = R ∧ i' = i ∧ k' = k
  · obtain ⟨rfl, rfl, rfl⟩ := h
    exact jup_self _ _ _ _ _
  · exact jup_ne h
/-- a row of the reference -/
def RW (M : jM) (l : Int) (v : Int → Int) : Prop := ∀ j, 0 ≤ j → j < 585 → M 50 0 (585 * l + j).toNat = zI (v j)
theorem RW_fm {S F : List Nat} {M M1 : jM} {l : Int} {v : Int → Int} (h : RW M l v) (hf : fm S F M M1) (hS : 50 ∉ S := by decide) : RW M1 l v := by
  unfold RW at *
  rw [hf.1 50 (by decide) hS]
  exact h
set_option maxHeartbeats 4000000 in
set_option maxRecDepth 100000 in
theorem isdep_ok {M : jM} {p q u v : Int} {a b : Int → Int} {Q : Int32 → Nat → jM → Prop} (hp : 0 ≤ p ∧ p < 6) (hq : 0 ≤ q ∧ q < 6) (ha : OKL a) (hb : OKL b) (hA : RW M p a) (hB : RW M q b) (hu : 0 ≤ u ∧ u < a 4) (hv : 0 ≤ v ∧ v < b 4) (hQ : Q (jb (dpP a b u v)) 0 M) : ok_X12_isDependence (zI p) (zI u) (zI q) (zI v) M Q := by
  obtain ⟨⟨a1, a2, a3, _⟩, ⟨a4, a5, a6, a7⟩, a8, _⟩ := ha
  obtain ⟨⟨c1, c2, c3, _⟩, ⟨c4, c5, c6, c7⟩, c8, _⟩ := hb
  obtain ⟨⟨m1, m2⟩, ⟨m3, m4⟩, m5, _⟩ := a8 u hu.1 hu.2
  obtain ⟨⟨n1, n2⟩, ⟨n3, n4⟩, n5, _⟩ := c8 v hv.1 hv.2
  have hA0 := hA 0 (by omega) (by omega)
  have hB0 := hB 0 (by omega) (by omega)
  unfold RW at hA hB
  refine en_X12_isDependence (bl_X12_isDependence_0 _ _ _ _ _ _ ?_)
  by_cases z1 : a (5 + u) = b (5 + v)
  · by_cases z3 : a 0 + (a (29 + u) - b (29 + v)) ≤ b 1
    · by_cases z4 : b 0 ≤ a 1 + (a (29 + u) - b (29 + v))
      · rcases m5 with m5 | m5
        · rcases n5 with n5 | n5
          · rw [jb_f (fun z => by obtain ⟨_, z, _⟩ := z; omega)] at hQ
            simp (disch := omega) only [z_add, z_sub, z_mul, z_neg, z_leT, z_leF, z_ltT, z_ltF, z_eqT, z_eqF, z_inT, z_clamp, z_nI, z_0, z_1, z_2, z_3, z_4, z_5, z_6, z_7, z_8, z_9, z_10, z_11, z_12, z_13, z_14, z_15, z_16, z_17, z_18, z_19, z_20, z_21, z_22, z_23, z_24, z_25, z_26, z_27, z_28, z_29, z_30, z_31, z_32, z_33, z_34, z_35, z_36, z_37, z_38, z_39, z_40, z_41, z_42, z_43, z_44, z_45, z_46, z_47, z_48, z_49, z_50, z_51, z_52, z_53, z_54, z_55, z_56, z_57, z_58, z_59, z_60, z_61, z_77, z_91, z_93, z_97, z_100, z_101, z_102, z_103, z_105, z_111, z_114, z_120, z_123, z_125, z_126, z_200, z_245, z_255, z_576, z_585, z_1000, z_2000, z_3510, z_11700, true_implies, false_implies, implies_true, not_true_eq_false, not_false_eq_true, true_and, and_true, false_and, and_false, ↓reduceIte, Int.reduceToNat, Int.reduceNeg, Int.toNat_natCast, hA, hB, m5, n5]
            exact hQ
          · rw [jb_t ⟨z1, Or.inr n5, z3, z4⟩] at hQ
            simp (disch := omega) only [z_add, z_sub, z_mul, z_neg, z_leT, z_leF, z_ltT, z_ltF, z_eqT, z_eqF, z_inT, z_clamp, z_nI, z_0, z_1, z_2, z_3, z_4, z_5, z_6, z_7, z_8, z_9, z_10, z_11, z_12, z_13, z_14, z_15, z_16, z_17, z_18, z_19, z_20, z_21, z_22, z_23, z_24, z_25, z_26, z_27, z_28, z_29, z_30, z_31, z_32, z_33, z_34, z_35, z_36, z_37, z_38, z_39, z_40, z_41, z_42, z_43, z_44, z_45, z_46, z_47, z_48, z_49, z_50, z_51, z_52, z_53, z_54, z_55, z_56, z_57, z_58, z_59, z_60, z_61, z_77, z_91, z_93, z_97, z_100, z_101, z_102, z_103, z_105, z_111, z_114, z_120, z_123, z_125, z_126, z_200, z_245, z_255, z_576, z_585, z_1000, z_2000, z_3510, z_11700, true_implies, false_implies, implies_true, not_true_eq_false, not_false_eq_true, true_and, and_true, false_and, and_false, ↓reduceIte, Int.reduceToNat, Int.reduceNeg, Int.toNat_natCast, hA, hB, m5, n5]
            exact hQ
        · rw [jb_t ⟨z1, Or.inl m5, z3, z4⟩] at hQ
          simp (disch := omega) only [z_add, z_sub, z_mul, z_neg, z_leT, z_leF, z_ltT, z_ltF, z_eqT, z_eqF, z_inT, z_clamp, z_nI, z_0, z_1, z_2, z_3, z_4, z_5, z_6, z_7, z_8, z_9, z_10, z_11, z_12, z_13, z_14, z_15, z_16, z_17, z_18, z_19, z_20, z_21, z_22, z_23, z_24, z_25, z_26, z_27, z_28, z_29, z_30, z_31, z_32, z_33, z_34, z_35, z_36, z_37, z_38, z_39, z_40, z_41, z_42, z_43, z_44, z_45, z_46, z_47, z_48, z_49, z_50, z_51, z_52, z_53, z_54, z_55, z_56, z_57, z_58, z_59, z_60, z_61, z_77, z_91, z_93, z_97, z_100, z_101, z_102, z_103, z_105, z_111, z_114, z_120, z_123, z_125, z_126, z_200, z_245, z_255, z_576, z_585, z_1000, z_2000, z_3510, z_11700, true_implies, false_implies, implies_true, not_true_eq_false, not_false_eq_true, true_and, and_true, false_and, and_false, ↓reduceIte, Int.reduceToNat, Int.reduceNeg, Int.toNat_natCast, hA, hB, m5]
          exact hQ
      · rw [jb_f (fun z => z4 z.2.2.2)] at hQ
        rcases m5 with m5 | m5
        · rcases n5 with n5 | n5
          · simp (disch := omega) only [z_add, z_sub, z_mul, z_neg, z_leT, z_leF, z_ltT, z_ltF, z_eqT, z_eqF, z_inT, z_clamp, z_nI, z_0, z_1, z_2, z_3, z_4, z_5, z_6, z_7, z_8, z_9, z_10, z_11, z_12, z_13, z_14, z_15, z_16, z_17, z_18, z_19, z_20, z_21, z_22, z_23, z_24, z_25, z_26, z_27, z_28, z_29, z_30, z_31, z_32, z_33, z_34, z_35, z_36, z_37, z_38, z_39, z_40, z_41, z_42, z_43, z_44, z_45, z_46, z_47, z_48, z_49, z_50, z_51, z_52, z_53, z_54, z_55, z_56, z_57, z_58, z_59, z_60, z_61, z_77, z_91, z_93, z_97, z_100, z_101, z_102, z_103, z_105, z_111, z_114, z_120, z_123, z_125, z_126, z_200, z_245, z_255, z_576, z_585, z_1000, z_2000, z_3510, z_11700, true_implies, false_implies, implies_true, not_true_eq_false, not_false_eq_true, true_and, and_true, false_and, and_false, ↓reduceIte, Int.reduceToNat, Int.reduceNeg, Int.toNat_natCast, hA, hB, m5, n5]
            exact hQ
          · simp (disch := omega) only [z_add, z_sub, z_mul, z_neg, z_leT, z_leF, z_ltT, z_ltF, z_eqT, z_eqF, z_inT, z_clamp, z_nI, z_0, z_1, z_2, z_3, z_4, z_5, z_6, z_7, z_8, z_9, z_10, z_11, z_12, z_13, z_14, z_15, z_16, z_17, z_18, z_19, z_20, z_21, z_22, z_23, z_24, z_25, z_26, z_27, z_28, z_29, z_30, z_31, z_32, z_33, z_34, z_35, z_36, z_37, z_38, z_39, z_40, z_41, z_42, z_43, z_44, z_45, z_46, z_47, z_48, z_49, z_50, z_51, z_52, z_53, z_54, z_55, z_56, z_57, z_58, z_59, z_60, z_61, z_77, z_91, z_93, z_97, z_100, z_101, z_102, z_103, z_105, z_111, z_114, z_120, z_123, z_125, z_126, z_200, z_245, z_255, z_576, z_585, z_1000, z_2000, z_3510, z_11700, true_implies, false_implies, implies_true, not_true_eq_false, not_false_eq_true, true_and, and_true, false_and, and_false, ↓reduceIte, Int.reduceToNat, Int.reduceNeg, Int.toNat_natCast, hA, hB, m5, n5]
            exact hQ
        · simp (disch := omega) only [z_add, z_sub, z_mul, z_neg, z_leT, z_leF, z_ltT, z_ltF, z_eqT, z_eqF, z_inT, z_clamp, z_nI, z_0, z_1, z_2, z_3, z_4, z_5, z_6, z_7, z_8, z_9, z_10, z_11, z_12, z_13, z_14, z_15, z_16, z_17, z_18, z_19, z_20, z_21, z_22, z_23, z_24, z_25, z_26, z_27, z_28, z_29, z_30, z_31, z_32, z_33, z_34, z_35, z_36, z_37, z_38, z_39, z_40, z_41, z_42, z_43, z_44, z_45, z_46, z_47, z_48, z_49, z_50, z_51, z_52, z_53, z_54, z_55, z_56, z_57, z_58, z_59, z_60, z_61, z_77, z_91, z_93, z_97, z_100, z_101, z_102, z_103, z_105, z_111, z_114, z_120, z_123, z_125, z_126, z_200, z_245, z_255, z_576, z_585, z_1000, z_2000, z_3510, z_11700, true_implies, false_implies, implies_true, not_true_eq_false, not_false_eq_true, true_and, and_true, false_and, and_false, ↓reduceIte, Int.reduceToNat, Int.reduceNeg, Int.toNat_natCast, hA, hB, m5]
          exact hQ
    · rw [jb_f (fun z => z3 z.2.2.1)] at hQ
      rcases m5 with m5 | m5
      · rcases n5 with n5 | n5
        · simp (disch := omega) only [z_add, z_sub, z_mul, z_neg, z_leT, z_leF, z_ltT, z_ltF, z_eqT, z_eqF, z_inT, z_clamp, z_nI, z_0, z_1, z_2, z_3, z_4, z_5, z_6, z_7, z_8, z_9, z_10, z_11, z_12, z_13, z_14, z_15, z_16, z_17, z_18, z_19, z_20, z_21, z_22, z_23, z_24, z_25, z_26, z_27, z_28, z_29, z_30, z_31, z_32, z_33, z_34, z_35, z_36, z_37, z_38, z_39, z_40, z_41, z_42, z_43, z_44, z_45, z_46, z_47, z_48, z_49, z_50, z_51, z_52, z_53, z_54, z_55, z_56, z_57, z_58, z_59, z_60, z_61, z_77, z_91, z_93, z_97, z_100, z_101, z_102, z_103, z_105, z_111, z_114, z_120, z_123, z_125, z_126, z_200, z_245, z_255, z_576, z_585, z_1000, z_2000, z_3510, z_11700, true_implies, false_implies, implies_true, not_true_eq_false, not_false_eq_true, true_and, and_true, false_and, and_false, ↓reduceIte, Int.reduceToNat, Int.reduceNeg, Int.toNat_natCast, hA, hB, m5, n5]
          exact hQ
        · simp (disch := omega) only [z_add, z_sub, z_mul, z_neg, z_leT, z_leF, z_ltT, z_ltF, z_eqT, z_eqF, z_inT, z_clamp, z_nI, z_0, z_1, z_2, z_3, z_4, z_5, z_6, z_7, z_8, z_9, z_10, z_11, z_12, z_13, z_14, z_15, z_16, z_17, z_18, z_19, z_20, z_21, z_22, z_23, z_24, z_25, z_26, z_27, z_28, z_29, z_30, z_31, z_32, z_33, z_34, z_35, z_36, z_37, z_38, z_39, z_40, z_41, z_42, z_43, z_44, z_45, z_46, z_47, z_48, z_49, z_50, z_51, z_52, z_53, z_54, z_55, z_56, z_57, z_58, z_59, z_60, z_61, z_77, z_91, z_93, z_97, z_100, z_101, z_102, z_103, z_105, z_111, z_114, z_120, z_123, z_125, z_126, z_200, z_245, z_255, z_576, z_585, z_1000, z_2000, z_3510, z_11700, true_implies, false_implies, implies_true, not_true_eq_false, not_false_eq_true, true_and, and_true, false_and, and_false, ↓reduceIte, Int.reduceToNat, Int.reduceNeg, Int.toNat_natCast, hA, hB, m5, n5]
          exact hQ
      · simp (disch := omega) only [z_add, z_sub, z_mul, z_neg, z_leT, z_leF, z_ltT, z_ltF, z_eqT, z_eqF, z_inT, z_clamp, z_nI, z_0, z_1, z_2, z_3, z_4, z_5, z_6, z_7, z_8, z_9, z_10, z_11, z_12, z_13, z_14, z_15, z_16, z_17, z_18, z_19, z_20, z_21, z_22, z_23, z_24, z_25, z_26, z_27, z_28, z_29, z_30, z_31, z_32, z_33, z_34, z_35, z_36, z_37, z_38, z_39, z_40, z_41, z_42, z_43, z_44, z_45, z_46, z_47, z_48, z_49, z_50, z_51, z_52, z_53, z_54, z_55, z_56, z_57, z_58, z_59, z_60, z_61, z_77, z_91, z_93, z_97, z_100, z_101, z_102, z_103, z_105, z_111, z_114, z_120, z_123, z_125, z_126, z_200, z_245, z_255, z_576, z_585, z_1000, z_2000, z_3510, z_11700, true_implies, false_implies, implies_true, not_true_eq_false, not_false_eq_true, true_and, and_true, false_and, and_false, ↓reduceIte, Int.reduceToNat, Int.reduceNeg, Int.toNat_natCast, hA, hB, m5]
        exact hQ
  · rw [jb_f (fun z => z1 z.1)] at hQ
    simp (disch := omega) only [z_add, z_sub, z_mul, z_neg, z_leT, z_leF, z_ltT, z_ltF, z_eqT, z_eqF, z_inT, z_clamp, z_nI, z_0, z_1, z_2, z_3, z_4, z_5, z_6, z_7, z_8, z_9, z_10, z_11, z_12, z_13, z_14, z_15, z_16, z_17, z_18, z_19, z_20, z_21, z_22, z_23, z_24, z_25, z_26, z_27, z_28, z_29, z_30, z_31, z_32, z_33, z_34, z_35, z_36, z_37, z_38, z_39, z_40, z_41, z_42, z_43, z_44, z_45, z_46, z_47, z_48, z_49, z_50, z_51, z_52, z_53, z_54, z_55, z_56, z_57, z_58, z_59, z_60, z_61, z_77, z_91, z_93, z_97, z_100, z_101, z_102, z_103, z_105, z_111, z_114, z_120, z_123, z_125, z_126, z_200, z_245, z_255, z_576, z_585, z_1000, z_2000, z_3510, z_11700, true_implies, false_implies, implies_true, not_true_eq_false, not_false_eq_true, true_and, and_true, false_and, and_false, ↓reduceIte, Int.reduceToNat, Int.reduceNeg, Int.toNat_natCast, hA, hB]
    exact hQ
def DM (M : jM) (a b : Int → Int) (idx : Int) (L : List (Int × Int)) : Prop :=
  M 11 0 24 = zI (dGr a b (-100) L) ∧ (-100 ≤ dGr a b (-100) L ∧ dGr a b (-100) L ≤ 18) ∧ ∀ p, 0 ≤ idx → L[idx.toNat]? = some p → M 11 0 22 = zI p.1 ∧ M 11 0 23 = zI p.2
theorem DM_snoc {M : jM} {a b : Int → Int} {idx : Int} {L : List (Int × Int)} {u v : Int} (h : DM M a b idx L) (hd : -100 ≤ dSh a b (u, v) ∧ dSh a b (u, v) ≤ 18) (M2 : jM) (h24 : M2 11 0 24 = zI (max (dGr a b (-100) L) (dSh a b (u, v)))) (hy : (L.length : Int) = idx → M2 11 0 22 = zI u ∧ M2 11 0 23 = zI v) (hn : (L.length : Int) ≠ idx → M2 11 0 22 = M 11 0 22 ∧ M2 11 0 23 = M 11 0 23) : DM M2 a b idx (L ++ [(u, v)]) := by
  obtain ⟨h1, h2, h3⟩ := h
  refine ⟨by rw [h24, dGr_snoc], by rw [dGr_snoc]; omega, fun p hp hg => ?_⟩
  rcases snoc_get hg with ⟨g1, g2⟩ | ⟨g1, g2⟩
  · obtain ⟨k1, k2⟩ := hn (by omega)
    rw [k1, k2]
    exact h3 p hp g2
  · rw [g2]
    exact hy (by omega)
set_option maxHeartbeats 4000000 in
set_option maxRecDepth 100000 in
theorem md_26 {M0 : jM} {p q u idx : Int} {a b : Int → Int} {Q : Int32 → Nat → jM → Prop} (hp : 0 ≤ p ∧ p < 6) (hq : 0 ≤ q ∧ q < 6) (ha : OKL a) (hb : OKL b) (hA : RW M0 p a) (hB : RW M0 q b) (hu : 0 ≤ u ∧ u < a 4) (hidx : -2147483648 ≤ idx ∧ idx < 2147483648)
    (hout : ∀ M, fm [] [22, 23, 24] M0 M → DM M a b idx (dpL a b (u + 1)) → at_X12_dependences_12 (zI p) (zI q) (zI idx) (zI (dpL a b (u + 1)).length) (zI (u + 1)) M Q) :
    ∀ (d : Nat) (v : Int) (v4 v6 : Int32) (M : jM), v + d = b 4 → 0 ≤ v → v4 = zI (dpR a b u v (dpL a b u)).length → v6 = zI v → fm [] [22, 23, 24] M0 M → DM M a b idx (dpR a b u v (dpL a b u)) → at_X12_dependences_26 (zI p) (zI q) (zI idx) v4 (zI u) v6 M Q := by
  have ha' := ha
  have hb' := hb
  obtain ⟨_, ⟨a4, a5, a6, a7⟩, a8, _⟩ := ha
  obtain ⟨_, ⟨c4, c5, c6, c7⟩, c8, _⟩ := hb
  intro d
  induction d with
  | zero =>
    intro v v4 v6 M hd h0 h4 h6 hfr hL
    subst h4 h6
    have hv : v = b 4 := by omega
    subst hv
    refine bl_X12_dependences_26 _ _ _ _ _ _ _ _ ?_
    have hB2 := RW_fm hB hfr
    unfold RW at hB2
    simp (disch := omega) only [z_add, z_sub, z_mul, z_neg, z_leT, z_leF, z_ltT, z_ltF, z_eqT, z_eqF, z_inT, z_clamp, z_nI, z_0, z_1, z_2, z_3, z_4, z_5, z_6, z_7, z_8, z_9, z_10, z_11, z_12, z_13, z_14, z_15, z_16, z_17, z_18, z_19, z_20, z_21, z_22, z_23, z_24, z_25, z_26, z_27, z_28, z_29, z_30, z_31, z_32, z_33, z_34, z_35, z_36, z_37, z_38, z_39, z_40, z_41, z_42, z_43, z_44, z_45, z_46, z_47, z_48, z_49, z_50, z_51, z_52, z_53, z_54, z_55, z_56, z_57, z_58, z_59, z_60, z_61, z_77, z_91, z_93, z_97, z_100, z_101, z_102, z_103, z_105, z_111, z_114, z_120, z_123, z_125, z_126, z_200, z_245, z_255, z_576, z_585, z_1000, z_2000, z_3510, z_11700, true_implies, false_implies, implies_true, not_true_eq_false, not_false_eq_true, true_and, and_true, false_and, and_false, ↓reduceIte, Int.reduceToNat, Int.reduceNeg, Int.toNat_natCast, hB2]
    have := hout M hfr (by rw [dpL_s hu.1]; exact hL)
    rw [dpL_s hu.1] at this
    exact this
  | succ d ih =>
    intro v v4 v6 M hd h0 h4 h6 hfr hL
    subst h4 h6
    refine bl_X12_dependences_26 _ _ _ _ _ _ _ _ ?_
    have hA3 := RW_fm hA hfr
    have hB3 := RW_fm hB hfr
    have hA2 := hA3
    have hB2 := hB3
    unfold RW at hA2 hB2
    obtain ⟨_, ⟨m3, m4⟩, _⟩ := a8 u hu.1 hu.2
    obtain ⟨_, ⟨n3, n4⟩, _⟩ := c8 v h0 (by omega)
    have hlen : (dpR a b u v (dpL a b u)).length < 576 := by
      have h1 := dpR_len (a := a) (b := b) (u := u) (acc := dpL a b u) h0
      have h2 := dpL_len (a := a) (b := b) hu.1 ⟨c6, c7⟩
      omega
    have k4 := hB2 4 (by omega) (by omega)
    refine ⟨?_, ?_, ?_⟩
    · simp (disch := omega) only [z_add, z_sub, z_mul, z_neg, z_leT, z_leF, z_ltT, z_ltF, z_eqT, z_eqF, z_inT, z_clamp, z_nI, z_0, z_1, z_2, z_3, z_4, z_5, z_6, z_7, z_8, z_9, z_10, z_11, z_12, z_13, z_14, z_15, z_16, z_17, z_18, z_19, z_20, z_21, z_22, z_23, z_24, z_25, z_26, z_27, z_28, z_29, z_30, z_31, z_32, z_33, z_34, z_35, z_36, z_37, z_38, z_39, z_40, z_41, z_42, z_43, z_44, z_45, z_46, z_47, z_48, z_49, z_50, z_51, z_52, z_53, z_54, z_55, z_56, z_57, z_58, z_59, z_60, z_61, z_77, z_91, z_93, z_97, z_100, z_101, z_102, z_103, z_105, z_111, z_114, z_120, z_123, z_125, z_126, z_200, z_245, z_255, z_576, z_585, z_1000, z_2000, z_3510, z_11700, true_implies, false_implies, implies_true, not_true_eq_false, not_false_eq_true, true_and, and_true, false_and, and_false, ↓reduceIte, Int.reduceToNat, Int.reduceNeg, Int.toNat_natCast]
    · intro hc
      simp (disch := omega) only [z_add, z_sub, z_mul, z_neg, z_leT, z_leF, z_ltT, z_ltF, z_eqT, z_eqF, z_inT, z_clamp, z_nI, z_0, z_1, z_2, z_3, z_4, z_5, z_6, z_7, z_8, z_9, z_10, z_11, z_12, z_13, z_14, z_15, z_16, z_17, z_18, z_19, z_20, z_21, z_22, z_23, z_24, z_25, z_26, z_27, z_28, z_29, z_30, z_31, z_32, z_33, z_34, z_35, z_36, z_37, z_38, z_39, z_40, z_41, z_42, z_43, z_44, z_45, z_46, z_47, z_48, z_49, z_50, z_51, z_52, z_53, z_54, z_55, z_56, z_57, z_58, z_59, z_60, z_61, z_77, z_91, z_93, z_97, z_100, z_101, z_102, z_103, z_105, z_111, z_114, z_120, z_123, z_125, z_126, z_200, z_245, z_255, z_576, z_585, z_1000, z_2000, z_3510, z_11700, true_implies, false_implies, implies_true, not_true_eq_false, not_false_eq_true, true_and, and_true, false_and, and_false, ↓reduceIte, Int.reduceToNat, Int.reduceNeg, Int.toNat_natCast, hB2] at hc
    · intro _
      refine isdep_ok hp hq ha' hb' hA3 hB3 hu ⟨h0, by omega⟩ ⟨rfl, ?_⟩
      by_cases hd : dpP a b u v
      · rw [jb_t hd]
        have e1 : dpR a b u (v + 1) (dpL a b u) = dpR a b u v (dpL a b u) ++ [(u, v)] := by rw [dpR_s h0, if_pos hd]
        have hsh : dSh a b (u, v) = b (29 + v) - a (29 + u) := rfl
        have fin : ∀ (M1 : jM) (v4' v6' : Int32), fm [] [22, 23, 24] M M1 → DM M1 a b idx (dpR a b u v (dpL a b u) ++ [(u, v)]) → v4' = zI ((dpR a b u v (dpL a b u)).length + 1) → v6' = zI (v + 1) → at_X12_dependences_26 (zI p) (zI q) (zI idx) v4' (zI u) v6' M1 Q := fun M1 v4' v6' h1 h2 h3 h4 =>
          ih (v + 1) _ _ M1 (by omega) (by omega) (by rw [h3, e1]; exact zc (by simp)) h4 (fm_tr hfr h1) (by rw [e1]; exact h2)
        have w24 := hL.1
        have w2 := hL.2.1
        by_cases hx : ((dpR a b u v (dpL a b u)).length : Int) = idx
        · have N22 : ∀ M' : jM, M' 50 = M 50 → ∀ j, 0 ≤ j → j < 585 → M' 50 0 (585 * p + j).toNat = zI (a j) ∧ M' 50 0 (585 * q + j).toNat = zI (b j) := fun M' h j h1 h2 => by rw [h]; exact ⟨hA2 j h1 h2, hB2 j h1 h2⟩
          simp (disch := omega) only [z_add, z_sub, z_mul, z_neg, z_leT, z_leF, z_ltT, z_ltF, z_eqT, z_eqF, z_inT, z_clamp, z_nI, z_0, z_1, z_2, z_3, z_4, z_5, z_6, z_7, z_8, z_9, z_10, z_11, z_12, z_13, z_14, z_15, z_16, z_17, z_18, z_19, z_20, z_21, z_22, z_23, z_24, z_25, z_26, z_27, z_28, z_29, z_30, z_31, z_32, z_33, z_34, z_35, z_36, z_37, z_38, z_39, z_40, z_41, z_42, z_43, z_44, z_45, z_46, z_47, z_48, z_49, z_50, z_51, z_52, z_53, z_54, z_55, z_56, z_57, z_58, z_59, z_60, z_61, z_77, z_91, z_93, z_97, z_100, z_101, z_102, z_103, z_105, z_111, z_114, z_120, z_123, z_125, z_126, z_200, z_245, z_255, z_576, z_585, z_1000, z_2000, z_3510, z_11700, true_implies, false_implies, implies_true, not_true_eq_false, not_false_eq_true, true_and, and_true, false_and, and_false, ↓reduceIte, Int.reduceToNat, Int.reduceNeg, Int.toNat_natCast, hx]
          rintro M1 rfl M2 rfl
          have hA4 := fun j h1 h2 => (N22 (jup (jup M 11 0 22 (zI u)) 11 0 23 (zI v)) (by rw [jup_o (by decide), jup_o (by decide)]) j h1 h2).1
          have hB4 := fun j h1 h2 => (N22 (jup (jup M 11 0 22 (zI u)) 11 0 23 (zI v)) (by rw [jup_o (by decide), jup_o (by decide)]) j h1 h2).2
          have hc4 : jup (jup M 11 0 22 (zI u)) 11 0 23 (zI v) 11 0 24 = zI (dGr a b (-100) (dpR a b u v (dpL a b u))) := by rw [jup_ne (by omega), jup_ne (by omega)]; exact w24
          simp (disch := omega) only [z_add, z_sub, z_mul, z_neg, z_leT, z_leF, z_ltT, z_ltF, z_eqT, z_eqF, z_inT, z_clamp, z_nI, z_0, z_1, z_2, z_3, z_4, z_5, z_6, z_7, z_8, z_9, z_10, z_11, z_12, z_13, z_14, z_15, z_16, z_17, z_18, z_19, z_20, z_21, z_22, z_23, z_24, z_25, z_26, z_27, z_28, z_29, z_30, z_31, z_32, z_33, z_34, z_35, z_36, z_37, z_38, z_39, z_40, z_41, z_42, z_43, z_44, z_45, z_46, z_47, z_48, z_49, z_50, z_51, z_52, z_53, z_54, z_55, z_56, z_57, z_58, z_59, z_60, z_61, z_77, z_91, z_93, z_97, z_100, z_101, z_102, z_103, z_105, z_111, z_114, z_120, z_123, z_125, z_126, z_200, z_245, z_255, z_576, z_585, z_1000, z_2000, z_3510, z_11700, true_implies, false_implies, implies_true, not_true_eq_false, not_false_eq_true, true_and, and_true, false_and, and_false, ↓reduceIte, Int.reduceToNat, Int.reduceNeg, Int.toNat_natCast, hA4, hB4, hc4, z_max]
          rintro M3 rfl
          refine fin _ _ _ (fm_f (fm_f (fm_f (fm_rf _ _ _)))) (DM_snoc hL (by omega) _ ?_ (fun _ => ⟨?_, ?_⟩) (fun z => absurd hx z)) (zc (by omega)) (zc (by omega))
          · rw [jup_self, hsh]
          · rw [jup_ne (by omega), jup_ne (by omega), jup_self]
          · rw [jup_ne (by omega), jup_self]
        · have hx2 : ((dpR a b u v (dpL a b u)).length : Int) < idx ∨ idx < ((dpR a b u v (dpL a b u)).length : Int) := by omega
          simp (disch := omega) only [z_add, z_sub, z_mul, z_neg, z_leT, z_leF, z_ltT, z_ltF, z_eqT, z_eqF, z_inT, z_clamp, z_nI, z_0, z_1, z_2, z_3, z_4, z_5, z_6, z_7, z_8, z_9, z_10, z_11, z_12, z_13, z_14, z_15, z_16, z_17, z_18, z_19, z_20, z_21, z_22, z_23, z_24, z_25, z_26, z_27, z_28, z_29, z_30, z_31, z_32, z_33, z_34, z_35, z_36, z_37, z_38, z_39, z_40, z_41, z_42, z_43, z_44, z_45, z_46, z_47, z_48, z_49, z_50, z_51, z_52, z_53, z_54, z_55, z_56, z_57, z_58, z_59, z_60, z_61, z_77, z_91, z_93, z_97, z_100, z_101, z_102, z_103, z_105, z_111, z_114, z_120, z_123, z_125, z_126, z_200, z_245, z_255, z_576, z_585, z_1000, z_2000, z_3510, z_11700, true_implies, false_implies, implies_true, not_true_eq_false, not_false_eq_true, true_and, and_true, false_and, and_false, ↓reduceIte, Int.reduceToNat, Int.reduceNeg, Int.toNat_natCast, jup_same]
          rintro M1 rfl M2 rfl
          simp (disch := omega) only [z_add, z_sub, z_mul, z_neg, z_leT, z_leF, z_ltT, z_ltF, z_eqT, z_eqF, z_inT, z_clamp, z_nI, z_0, z_1, z_2, z_3, z_4, z_5, z_6, z_7, z_8, z_9, z_10, z_11, z_12, z_13, z_14, z_15, z_16, z_17, z_18, z_19, z_20, z_21, z_22, z_23, z_24, z_25, z_26, z_27, z_28, z_29, z_30, z_31, z_32, z_33, z_34, z_35, z_36, z_37, z_38, z_39, z_40, z_41, z_42, z_43, z_44, z_45, z_46, z_47, z_48, z_49, z_50, z_51, z_52, z_53, z_54, z_55, z_56, z_57, z_58, z_59, z_60, z_61, z_77, z_91, z_93, z_97, z_100, z_101, z_102, z_103, z_105, z_111, z_114, z_120, z_123, z_125, z_126, z_200, z_245, z_255, z_576, z_585, z_1000, z_2000, z_3510, z_11700, true_implies, false_implies, implies_true, not_true_eq_false, not_false_eq_true, true_and, and_true, false_and, and_false, ↓reduceIte, Int.reduceToNat, Int.reduceNeg, Int.toNat_natCast, hA2, hB2, w24, z_max, jup_same]
          rintro M3 rfl
          refine fin _ _ _ (fm_f (fm_rf _ _ _)) (DM_snoc hL (by omega) _ ?_ (fun z => absurd z hx) (fun _ => ⟨?_, ?_⟩)) (zc (by omega)) (zc (by omega))
          · rw [jup_self, hsh]
          · rw [jup_ne (by omega)]
          · rw [jup_ne (by omega)]
      · rw [jb_f hd]
        have e1 : dpR a b u (v + 1) (dpL a b u) = dpR a b u v (dpL a b u) := by rw [dpR_s h0, if_neg hd]
        simp (disch := omega) only [z_add, z_sub, z_mul, z_neg, z_leT, z_leF, z_ltT, z_ltF, z_eqT, z_eqF, z_inT, z_clamp, z_nI, z_0, z_1, z_2, z_3, z_4, z_5, z_6, z_7, z_8, z_9, z_10, z_11, z_12, z_13, z_14, z_15, z_16, z_17, z_18, z_19, z_20, z_21, z_22, z_23, z_24, z_25, z_26, z_27, z_28, z_29, z_30, z_31, z_32, z_33, z_34, z_35, z_36, z_37, z_38, z_39, z_40, z_41, z_42, z_43, z_44, z_45, z_46, z_47, z_48, z_49, z_50, z_51, z_52, z_53, z_54, z_55, z_56, z_57, z_58, z_59, z_60, z_61, z_77, z_91, z_93, z_97, z_100, z_101, z_102, z_103, z_105, z_111, z_114, z_120, z_123, z_125, z_126, z_200, z_245, z_255, z_576, z_585, z_1000, z_2000, z_3510, z_11700, true_implies, false_implies, implies_true, not_true_eq_false, not_false_eq_true, true_and, and_true, false_and, and_false, ↓reduceIte, Int.reduceToNat, Int.reduceNeg, Int.toNat_natCast]
        exact ih (v + 1) _ _ M (by omega) (by omega) (by rw [e1]) rfl hfr (by rw [e1]; exact hL)
theorem md_ok {M : jM} {p q idx : Int} {a b : Int → Int} {Q : Int32 → Nat → jM → Prop} (hp : 0 ≤ p ∧ p < 6) (hq : 0 ≤ q ∧ q < 6) (ha : OKL a) (hb : OKL b) (hA : RW M p a) (hB : RW M q b) (hidx : -2147483648 ≤ idx ∧ idx < 2147483648)
    (hQ : ∀ M1, fm [] [22, 23, 24] M M1 → DM M1 a b idx (dps a b) → Q (zI (dps a b).length) 0 M1) : ok_X12_dependences (zI p) (zI q) (zI idx) M Q := by
  have ha4 := ha.2.1
  have main : ∀ (d : Nat) (u : Int) (v4 v5 : Int32) (M1 : jM), u + d = a 4 → 0 ≤ u → v4 = zI (dpL a b u).length → v5 = zI u → fm [] [22, 23, 24] M M1 → DM M1 a b idx (dpL a b u) → at_X12_dependences_12 (zI p) (zI q) (zI idx) v4 v5 M1 Q := by
    intro d
    induction d with
    | zero =>
      intro u v4 v5 M1 hd h0 h4 h5 hfr hL
      subst h4 h5
      refine bl_X12_dependences_12 _ _ _ _ _ _ _ ?_
      have hA2 := RW_fm hA hfr
      unfold RW at hA2
      simp (disch := omega) only [z_add, z_sub, z_mul, z_neg, z_leT, z_leF, z_ltT, z_ltF, z_eqT, z_eqF, z_inT, z_clamp, z_nI, z_0, z_1, z_2, z_3, z_4, z_5, z_6, z_7, z_8, z_9, z_10, z_11, z_12, z_13, z_14, z_15, z_16, z_17, z_18, z_19, z_20, z_21, z_22, z_23, z_24, z_25, z_26, z_27, z_28, z_29, z_30, z_31, z_32, z_33, z_34, z_35, z_36, z_37, z_38, z_39, z_40, z_41, z_42, z_43, z_44, z_45, z_46, z_47, z_48, z_49, z_50, z_51, z_52, z_53, z_54, z_55, z_56, z_57, z_58, z_59, z_60, z_61, z_77, z_91, z_93, z_97, z_100, z_101, z_102, z_103, z_105, z_111, z_114, z_120, z_123, z_125, z_126, z_200, z_245, z_255, z_576, z_585, z_1000, z_2000, z_3510, z_11700, true_implies, false_implies, implies_true, not_true_eq_false, not_false_eq_true, true_and, and_true, false_and, and_false, ↓reduceIte, Int.reduceToNat, Int.reduceNeg, Int.toNat_natCast, hA2]
      have e : dps a b = dpL a b u := by unfold dps; rw [show a 4 = u by omega]
      have := hQ M1 hfr (by rw [e]; exact hL)
      rw [e] at this
      exact this
    | succ d ih =>
      intro u v4 v5 M1 hd h0 h4 h5 hfr hL
      subst h4 h5
      refine bl_X12_dependences_12 _ _ _ _ _ _ _ ?_
      have hA2 := RW_fm hA hfr
      unfold RW at hA2
      simp (disch := omega) only [z_add, z_sub, z_mul, z_neg, z_leT, z_leF, z_ltT, z_ltF, z_eqT, z_eqF, z_inT, z_clamp, z_nI, z_0, z_1, z_2, z_3, z_4, z_5, z_6, z_7, z_8, z_9, z_10, z_11, z_12, z_13, z_14, z_15, z_16, z_17, z_18, z_19, z_20, z_21, z_22, z_23, z_24, z_25, z_26, z_27, z_28, z_29, z_30, z_31, z_32, z_33, z_34, z_35, z_36, z_37, z_38, z_39, z_40, z_41, z_42, z_43, z_44, z_45, z_46, z_47, z_48, z_49, z_50, z_51, z_52, z_53, z_54, z_55, z_56, z_57, z_58, z_59, z_60, z_61, z_77, z_91, z_93, z_97, z_100, z_101, z_102, z_103, z_105, z_111, z_114, z_120, z_123, z_125, z_126, z_200, z_245, z_255, z_576, z_585, z_1000, z_2000, z_3510, z_11700, true_implies, false_implies, implies_true, not_true_eq_false, not_false_eq_true, true_and, and_true, false_and, and_false, ↓reduceIte, Int.reduceToNat, Int.reduceNeg, Int.toNat_natCast, hA2]
      exact md_26 hp hq ha hb hA hB ⟨h0, by omega⟩ hidx (fun M2 hf2 hL2 => ih (u + 1) _ _ M2 (by omega) (by omega) rfl rfl hf2 hL2) (b 4).toNat 0 _ _ M1 (by have := hb.2.1; omega) (by omega) (by rw [dpR_0]) rfl hfr (by rw [dpR_0]; exact hL)
  refine en_X12_dependences (bl_X12_dependences_0 _ _ _ _ _ ?_)
  rintro M1 rfl
  refine main (a 4).toNat 0 _ _ _ (by omega) (by omega) (by rw [dpL_0]; rfl) rfl (fm_f (fm_rf _ _ _)) ?_
  rw [dpL_0]
  refine ⟨?_, ?_, fun p _ h => ?_⟩
  · rw [jup_self]; rfl
  · show -100 ≤ (-100 : Int) ∧ (-100 : Int) ≤ 18; omega
  · simp at h
