/-! ===== the reference reads: a factor ===== -/
set_option maxHeartbeats 4000000 in
set_option maxRecDepth 100000 in
theorem fa_ok {M : jM} {len : Int} {tx : Int → Int} {p rw s rd : Int} {v : Int → Int} {Q : Int32 → Nat → jM → Prop} (h : MT M len tx p) (hR : RWr M rw v) (hs : 0 ≤ s ∧ s ≤ 3 ∧ v 3 = s) (hn : 0 ≤ v (101 + s) ∧ v (101 + s) < 120) (h4 : 0 ≤ v 4 ∧ v 4 ≤ 6 * s + rd) (hr : 0 ≤ rd ∧ rd ≤ 5) (e19 : M 11 0 19 = zI rd)
    (hA : ∀ M1 p' rd' v', Fc (chr len tx) s p rd v p' rd' v' → fm [55] [12, 19] M M1 → lo55 rw M M1 → MT M1 len tx p' → RWr M1 rw v' → M1 11 0 19 = zI rd' → Q 0 0 M1)
    (hB : ∀ M1 f, Fb (chr len tx) p rd f → fm [] [10, 12, 13] M M1 → MB M1 len f → Q 0 0 M1) : ok_X12_factor M Q := by
  have hl := h.1.1
  have hp := h.2.1
  obtain ⟨ej, hj⟩ := jhr_e h
  have e12 := h.2.2.2.1
  refine en_X12_factor (bl_X12_factor_0 _ _ ⟨MT_in h, ?_⟩)
  rw [ej, show ((48 : Int32) ≤ zI (chr len tx p) ∧ zI (chr len tx p) ≤ 57) = isD (chr len tx p) by
    unfold isD
    rw [z_48, z_57, z_leI (by omega), z_leI (by omega)], z_105, z_eqI (a := chr len tx p) (b := 105) (by omega), show ((97 : Int32) ≤ zI (chr len tx p) ∧ zI (chr len tx p) ≤ 101) = (97 ≤ chr len tx p ∧ chr len tx p ≤ 101) by
    rw [z_97, z_101, z_leI (by omega), z_leI (by omega)]]
  refine ⟨fun hd => ?_, fun hd => ⟨fun q => ?_, fun q => ⟨fun ra => ⟨fun w => ?_, fun w => ⟨?_, ?_⟩⟩, fun ra => ?_⟩⟩⟩
  · refine mn_ok h (fun _ M1 f1 T1 => ⟨fm_n f1, ?_⟩) (fun w => absurd hd w)
    refine tn_ok (RWr_fm hR f1) rfl hs hn (fun M2 g1 g2 g3 => ⟨fm_n g1, ?_⟩)
    have F : fm [55] [12] M M2 := fm_tr f1 g1
    exact hA M2 _ _ _ (Or.inl ⟨hd, rfl, rfl, rfl⟩) (fm_mono F) (lo_tr (fun j _ => by rw [f1.1 55 (by decide) (by decide)]) g2) (MT_p T1 T1.2.1 (g1.2 11 (by decide)) (g1.2 13 (by decide)) (fun j => by rw [g1.1 54 (by decide) (by decide)]) (by rw [g1.2 12 (by decide)]; exact T1.2.2.2.1)) g3 (by rw [F.2 19 (by decide)]; exact e19)
  · intro M22 hM
    rw [e12, z_1, z_add] at hM
    have f1 : fm [] [12] M M22 := by rw [hM]; exact fm_f (fm_rf _ _ _)
    have T1 : MT M22 len tx (p + 1) := MT_p h (by omega) (f1.2 11 (by decide)) (f1.2 13 (by decide)) (fun j => by rw [f1.1 54 (by decide) (by decide)]) (by rw [hM, jup_self])
    refine tn_ok (t := 100) (RWr_fm hR f1) z_100 hs hn (fun M2 g1 g2 g3 => ⟨fm_n g1, ?_⟩)
    have F : fm [55] [12] M M2 := fm_tr f1 g1
    exact hA M2 _ _ _ (Or.inr (Or.inl ⟨q, rfl, rfl, rfl⟩)) (fm_mono F) (lo_tr (fun j _ => by rw [f1.1 55 (by decide) (by decide)]) g2) (MT_p T1 T1.2.1 (g1.2 11 (by decide)) (g1.2 13 (by decide)) (fun j => by rw [g1.1 54 (by decide) (by decide)]) (by rw [g1.2 12 (by decide)]; exact T1.2.2.2.1)) g3 (by rw [F.2 19 (by decide)]; exact e19)
  · rw [e19, z_5, z_leI (by omega)] at w
    rw [e12]
    exact bd_ok h (fun M1 f1 b1 => ⟨fm_n f1, hB M1 p (Or.inr (Or.inl ⟨ra, w, rfl⟩)) (fm_mono f1) b1⟩)
  · rw [hR.2.1]
    have := hR.1
    simp (disch := omega) only [z_add, z_sub, z_mul, z_neg, z_leT, z_leF, z_ltT, z_ltF, z_eqT, z_eqF, z_inT, z_clamp, z_nI, z_0, z_1, z_2, z_3, z_4, z_5, z_6, z_7, z_8, z_9, z_10, z_11, z_12, z_13, z_14, z_15, z_16, z_17, z_18, z_19, z_20, z_21, z_22, z_23, z_24, z_25, z_26, z_27, z_28, z_29, z_30, z_31, z_32, z_33, z_34, z_35, z_36, z_37, z_38, z_39, z_40, z_41, z_42, z_43, z_44, z_45, z_46, z_47, z_48, z_49, z_50, z_51, z_52, z_53, z_54, z_55, z_56, z_57, z_58, z_59, z_60, z_61, z_77, z_91, z_93, z_97, z_100, z_101, z_102, z_103, z_105, z_111, z_114, z_120, z_123, z_125, z_126, z_200, z_245, z_255, z_576, z_585, z_1000, z_2000, z_3510, z_11700, true_implies, false_implies, implies_true, not_true_eq_false, not_false_eq_true, true_and, and_true, false_and, and_false, ↓reduceIte, Int.reduceToNat, Int.reduceNeg, Int.toNat_natCast]
  · rw [e19, z_5, z_leI (by omega)] at w
    have er : M 55 0 (585 * M 11 0 14 + 4).toNatClampNeg = zI (v 4) := by
      rw [hR.2.1]
      have := hR.1
      simp (disch := omega) only [z_add, z_sub, z_mul, z_neg, z_leT, z_leF, z_ltT, z_ltF, z_eqT, z_eqF, z_inT, z_clamp, z_nI, z_0, z_1, z_2, z_3, z_4, z_5, z_6, z_7, z_8, z_9, z_10, z_11, z_12, z_13, z_14, z_15, z_16, z_17, z_18, z_19, z_20, z_21, z_22, z_23, z_24, z_25, z_26, z_27, z_28, z_29, z_30, z_31, z_32, z_33, z_34, z_35, z_36, z_37, z_38, z_39, z_40, z_41, z_42, z_43, z_44, z_45, z_46, z_47, z_48, z_49, z_50, z_51, z_52, z_53, z_54, z_55, z_56, z_57, z_58, z_59, z_60, z_61, z_77, z_91, z_93, z_97, z_100, z_101, z_102, z_103, z_105, z_111, z_114, z_120, z_123, z_125, z_126, z_200, z_245, z_255, z_576, z_585, z_1000, z_2000, z_3510, z_11700, true_implies, false_implies, implies_true, not_true_eq_false, not_false_eq_true, true_and, and_true, false_and, and_false, ↓reduceIte, Int.reduceToNat, Int.reduceNeg, Int.toNat_natCast]
      exact hR.2.2 4 (by omega) (by omega)
    rw [er]
    refine mr_ok h (fun p' a d hg M16 f16 T16 => ⟨fm_n f16, fun _ => ?_, fun w2 => absurd (MT_0 T16) w2⟩) (fun f r hb M16 f16 b16 => ⟨fm_n f16, fun w2 => absurd w2 (MB_n0 b16), fun _ => hB M16 f (Or.inr (Or.inr ⟨ra, by omega, hb⟩)) f16 b16⟩)
    obtain ⟨r1, r2, _, _⟩ := rfG_r hg
    refine rn_ok8 (a := a) (d := d) (w := 0) (RWr_fm hR f16) rfl z_0 r1 r2 hs (by omega) (fun M18 g1 g2 g3 => ⟨fm_n g1, ?_⟩)
    have eh : rfV s v a d 0 (101 + s) = v (101 + s) := rf_hi (by omega) (Or.inl (by omega))
    refine tn_ok (t := 200 + v 4) g3 (by rw [show (200 : Int32) = zI 200 from z_200, z_add]) ⟨hs.1, hs.2.1, by rw [rf_hi (by omega) (Or.inr (by omega))]; exact hs.2.2⟩ (by rw [eh]; exact hn) (fun M20 k1 k2 k3 => ⟨fm_n k1, ?_⟩)
    intro M21 hM
    have F20 : fm [55] [12] M M20 := fm_tr (fm_tr f16 g1 (S2 := [55]) (F2 := [12])) k1
    have e20 : M20 11 0 19 = zI rd := by rw [F20.2 19 (by decide)]; exact e19
    rw [e20, z_1, z_add] at hM
    have F21 : fm [55] [12, 19] M M21 := by rw [hM]; exact fm_f (fm_mono F20)
    have f21 : fm [55] [19] M16 M21 := by rw [hM]; exact fm_f (fm_mono (fm_tr g1 k1 (S2 := [55]) (F2 := [])))
    refine hA M21 p' (rd + 1) _ (Or.inr (Or.inr ⟨by omega, rfl, a, d, hg, rfl⟩)) F21 (lo_tr (lo_tr (fun j _ => by rw [f16.1 55 (by decide) (by decide)]) g2) (lo_tr k2 (fun j _ => by rw [hM, jup_R (by decide)]))) (MT_p T16 T16.2.1 (f21.2 11 (by decide)) (f21.2 13 (by decide)) (fun j => by rw [f21.1 54 (by decide) (by decide)]) (by rw [f21.2 12 (by decide)]; exact T16.2.2.2.1)) ⟨k3.1, by rw [hM, jup_ne (by omega)]; exact k3.2.1, fun j j0 j1 => by rw [hM, jup_R (by decide)]; exact k3.2.2 j j0 j1⟩ (by rw [hM, jup_self])
  · rw [e12]
    exact bd_ok h (fun M1 f1 b1 => ⟨fm_n f1, hB M1 p (Or.inl ⟨hd, q, ra, rfl⟩) (fm_mono f1) b1⟩)
