/-! ===== arrangements asked for ===== -/
theorem cz_T {n T : Int} {z : Int → Int} (hT : isNG z n T) : ∀ (d : Nat) (j : Int), 0 ≤ j → j ≤ T → T - j ≤ d → czN n z d (gs z j) = T - j := by
  intro d
  induction d with
  | zero => intro j h0 h1 h2; show (0 : Int) = _; omega
  | succ d ih =>
    intro j h0 h1 h2
    show (if gs z j < n then 1 + czN n z d (gs z j + z (gs z j)) else 0) = _
    by_cases q : j = T
    · rw [q, hT.2.1, if_neg (by omega)]; omega
    · rw [if_pos (hT.2.2 j h0 (by omega)), ← gs_s h0, ih (j + 1) (by omega) (by omega) (by omega)]
      omega
theorem gs_uq {z : Int → Int} {n T l j j' : Int} (hz : zok z n) (hn : 0 ≤ n) (hT : isNG z n T) (h0 : 0 ≤ j) (h1 : j < T) (h2 : gs z j ≤ l) (h3 : l < gs z (j + 1)) (k0 : 0 ≤ j') (k1 : j' < T) (k2 : gs z j' ≤ l) (k3 : l < gs z (j' + 1)) : j = j' := by
  by_cases q : j < j'
  · have := gs_mono hz hn hT (show 0 ≤ j + 1 by omega) (j' - (j + 1)).toNat (by omega)
    rw [show j + 1 + ((j' - (j + 1)).toNat : Int) = j' by omega] at this
    omega
  · by_cases q2 : j' < j
    · have := gs_mono hz hn hT (show 0 ≤ j' + 1 by omega) (j - (j' + 1)).toNat (by omega)
      rw [show j' + 1 + ((j - (j' + 1)).toNat : Int) = j by omega] at this
      omega
    · omega
theorem T_in {n T : Int} {w : Int → Int → Int} {o : Int → Int} {k : Int} (hn : 0 ≤ n ∧ n ≤ 6) (hT : isNG (az w o n k) n T) : 0 ≤ T ∧ T ≤ n := by
  have := gs_at az_ok hn.1 hT hT.1 (Int.le_refl T)
  rw [hT.2.1] at this
  have := hT.1
  omega
set_option maxHeartbeats 4000000 in
set_option maxRecDepth 100000 in
theorem op_groupCount {M : jM} {k : Nat} {n : Int} {w : Int → Int → Int} {o : Int → Int} {ver : Int} {a : Int32} {P : jM → Int32 → Int32 → Prop} {Q : Int32 → Nat → jM → Prop} (hR : RLz M k n w o ver) (hk : k ≤ 2000) (hP : ∀ M5 r1 r4, RLz M5 (k + 1) n w o ver → M5 11 0 7 = r1 → (r1 = 0 → M5 61 0 0 = r4) → P M5 r1 r4) (hq : ∀ r1 M2, ok_X12_groupCount a M2 (fun r4 _ M5 => P M5 r1 r4) → Q r1 0 M2) : ok_L_groupCount a M Q := by
  obtain ⟨hnb, hv⟩ := RLz_n hR hk
  have hG := hR.1
  have hPR := hR.2.1
  have hCI := hR.2.2.2.1
  have hn := hG.1
  have h6 := hPR.1
  obtain ⟨a, a1, a2, rfl⟩ := zI_of a
  have key : ∀ (M2 : jM) (r1 : Int32), fr SO M M2 → CI M2 n w o ver → ((¬ (0 ≤ a ∧ a ≤ 2) ∧ r1 = zI 1) ∨ ((0 ≤ a ∧ a ≤ 2) ∧ r1 = zI 0 ∧ ∃ T, isNG (az w o n a) n T ∧ M2 61 0 0 = zI T)) → ok_X12_groupCount (zI a) M2 (fun r4 _ M5 => P M5 r1 r4) := by
    intro M2 r1 hf hC hr
    obtain ⟨hM2, hF2⟩ := RLz_m hR hf
    have e0 := hM2.1
    refine en_X12_groupCount (bl_X12_groupCount_0 _ _ _ ?_)
    rcases hr with ⟨q, hr⟩ | ⟨q, hr, T, hT, hv2⟩
    · have fin := ro_thr hR hP hf hC (fm_rf _ _ M2) hF2 hr (by omega)
      have cl : ∀ (A : jM → Prop) M3, M3 = jup M2 11 0 7 (zI 1) → (zI 0 < M3 11 0 7 → P M3 r1 (zI 0)) ∧ (¬ (zI 0 < M3 11 0 7) → A M3) := by
        rintro A M3 rfl
        exact ⟨fun _ => fin _, fun z => absurd (by rw [jup_self, z_ltT (by omega)]; trivial) z⟩
      by_cases q3 : a < 0
      · simp (disch := omega) only [z_add, z_sub, z_mul, z_neg, z_leT, z_leF, z_ltT, z_ltF, z_eqT, z_eqF, z_inT, z_clamp, z_nI, z_0, z_1, z_2, z_3, z_4, z_5, z_6, z_7, z_8, z_9, z_10, z_11, z_12, z_13, z_14, z_15, z_16, z_17, z_18, z_19, z_20, z_21, z_22, z_23, z_24, z_25, z_26, z_27, z_28, z_29, z_30, z_31, z_32, z_33, z_34, z_35, z_36, z_37, z_38, z_39, z_40, z_41, z_42, z_43, z_44, z_45, z_46, z_47, z_48, z_49, z_50, z_51, z_52, z_53, z_54, z_55, z_56, z_57, z_58, z_59, z_60, z_61, z_77, z_91, z_93, z_97, z_100, z_101, z_102, z_103, z_105, z_111, z_114, z_120, z_123, z_125, z_126, z_200, z_245, z_255, z_576, z_585, z_1000, z_2000, z_3510, z_11700, true_implies, false_implies, implies_true, not_true_eq_false, not_false_eq_true, true_and, and_true, false_and, and_false, ↓reduceIte, Int.reduceToNat, Int.reduceNeg, Int.toNat_natCast]
        exact fun M3 h3 => cl (fun _ => _) M3 h3
      · simp (disch := omega) only [z_add, z_sub, z_mul, z_neg, z_leT, z_leF, z_ltT, z_ltF, z_eqT, z_eqF, z_inT, z_clamp, z_nI, z_0, z_1, z_2, z_3, z_4, z_5, z_6, z_7, z_8, z_9, z_10, z_11, z_12, z_13, z_14, z_15, z_16, z_17, z_18, z_19, z_20, z_21, z_22, z_23, z_24, z_25, z_26, z_27, z_28, z_29, z_30, z_31, z_32, z_33, z_34, z_35, z_36, z_37, z_38, z_39, z_40, z_41, z_42, z_43, z_44, z_45, z_46, z_47, z_48, z_49, z_50, z_51, z_52, z_53, z_54, z_55, z_56, z_57, z_58, z_59, z_60, z_61, z_77, z_91, z_93, z_97, z_100, z_101, z_102, z_103, z_105, z_111, z_114, z_120, z_123, z_125, z_126, z_200, z_245, z_255, z_576, z_585, z_1000, z_2000, z_3510, z_11700, true_implies, false_implies, implies_true, not_true_eq_false, not_false_eq_true, true_and, and_true, false_and, and_false, ↓reduceIte, Int.reduceToNat, Int.reduceNeg, Int.toNat_natCast]
        exact fun M3 h3 => cl (fun _ => _) M3 h3
    · simp (disch := omega) only [z_add, z_sub, z_mul, z_neg, z_leT, z_leF, z_ltT, z_ltF, z_eqT, z_eqF, z_inT, z_clamp, z_nI, z_0, z_1, z_2, z_3, z_4, z_5, z_6, z_7, z_8, z_9, z_10, z_11, z_12, z_13, z_14, z_15, z_16, z_17, z_18, z_19, z_20, z_21, z_22, z_23, z_24, z_25, z_26, z_27, z_28, z_29, z_30, z_31, z_32, z_33, z_34, z_35, z_36, z_37, z_38, z_39, z_40, z_41, z_42, z_43, z_44, z_45, z_46, z_47, z_48, z_49, z_50, z_51, z_52, z_53, z_54, z_55, z_56, z_57, z_58, z_59, z_60, z_61, z_77, z_91, z_93, z_97, z_100, z_101, z_102, z_103, z_105, z_111, z_114, z_120, z_123, z_125, z_126, z_200, z_245, z_255, z_576, z_585, z_1000, z_2000, z_3510, z_11700, true_implies, false_implies, implies_true, not_true_eq_false, not_false_eq_true, true_and, and_true, false_and, and_false, ↓reduceIte, Int.reduceToNat, Int.reduceNeg, Int.toNat_natCast]
      rintro M3 rfl
      have hTn := T_in hn hT
      by_cases n0 : n = 0
      · simp (disch := omega) only [jup_self, jup_ne, z_add, z_sub, z_mul, z_neg, z_leT, z_leF, z_ltT, z_ltF, z_eqT, z_eqF, z_inT, z_clamp, z_nI, z_0, z_1, z_2, z_3, z_4, z_5, z_6, z_7, z_8, z_9, z_10, z_11, z_12, z_13, z_14, z_15, z_16, z_17, z_18, z_19, z_20, z_21, z_22, z_23, z_24, z_25, z_26, z_27, z_28, z_29, z_30, z_31, z_32, z_33, z_34, z_35, z_36, z_37, z_38, z_39, z_40, z_41, z_42, z_43, z_44, z_45, z_46, z_47, z_48, z_49, z_50, z_51, z_52, z_53, z_54, z_55, z_56, z_57, z_58, z_59, z_60, z_61, z_77, z_91, z_93, z_97, z_100, z_101, z_102, z_103, z_105, z_111, z_114, z_120, z_123, z_125, z_126, z_200, z_245, z_255, z_576, z_585, z_1000, z_2000, z_3510, z_11700, true_implies, false_implies, implies_true, not_true_eq_false, not_false_eq_true, true_and, and_true, false_and, and_false, ↓reduceIte, Int.reduceToNat, Int.reduceNeg, Int.toNat_natCast, e0, n0]
        refine ro_val hR hP hf hC (fm_7 (fm_rf _ _ _)) (FA_7 hF2) (by rw [jup_self, hr]) (by rw [jup_R (by decide), hv2]; exact zc (by omega))
      · simp (disch := omega) only [jup_self, jup_ne, z_add, z_sub, z_mul, z_neg, z_leT, z_leF, z_ltT, z_ltF, z_eqT, z_eqF, z_inT, z_clamp, z_nI, z_0, z_1, z_2, z_3, z_4, z_5, z_6, z_7, z_8, z_9, z_10, z_11, z_12, z_13, z_14, z_15, z_16, z_17, z_18, z_19, z_20, z_21, z_22, z_23, z_24, z_25, z_26, z_27, z_28, z_29, z_30, z_31, z_32, z_33, z_34, z_35, z_36, z_37, z_38, z_39, z_40, z_41, z_42, z_43, z_44, z_45, z_46, z_47, z_48, z_49, z_50, z_51, z_52, z_53, z_54, z_55, z_56, z_57, z_58, z_59, z_60, z_61, z_77, z_91, z_93, z_97, z_100, z_101, z_102, z_103, z_105, z_111, z_114, z_120, z_123, z_125, z_126, z_200, z_245, z_255, z_576, z_585, z_1000, z_2000, z_3510, z_11700, true_implies, false_implies, implies_true, not_true_eq_false, not_false_eq_true, true_and, and_true, false_and, and_false, ↓reduceIte, Int.reduceToNat, Int.reduceNeg, Int.toNat_natCast, e0]
        refine set_ok hG (MR_7 hM2) (FA_7 hF2) q (fun M4 S c1 c2 c3 c4 => ⟨fm_nb c1, ?_⟩)
        have hm : fm SM FM M2 M4 := fm_tr (fm_7 (x := zI 0) (fm_rf SM FM M2)) c1
        refine gi_ok ⟨c4.1, c4.2.1⟩ ⟨rfl, ?_⟩
        refine ro_val hR hP hf hC hm c2 (by rw [c1.2 7 (by decide), jup_self, hr]) ?_
        rw [fm_61 hm, hv2]
        have hNG := isSet_NG az_ok hn.1 hT (c3 T hT)
        have h1 := cz_T hNG 7 0 (by omega) hTn.1 (by omega)
        rw [gs_0] at h1
        have f1 := fin_cz n.toNat (by omega) S.toNat (by omega) c4.2.2 (by omega)
        rw [show ((n.toNat : Nat) : Int) = n by omega, show ((S.toNat : Nat) : Int) = S by omega] at f1
        exact zc (by omega)
  refine wr_groupCount (en_X11_groupCount (bl_X11_groupCount_0 _ _ _ _ ?_))
  refine po_ok hG hPR hnb hCI hv ⟨a1, a2⟩ (fun k0 k1 M3 T f1 f2 f3 f4 => ⟨by omega, fr_nb f1, fr_nb f1, ?_⟩) (fun z => ⟨rfl, hq _ _ (key M _ (fr_rf _ _) hCI (Or.inl ⟨z, z_1⟩))⟩)
  rw [z00, f4.2.1]
  exact hq _ _ (key _ _ (o_fr (fr_mono f1)) (o_CI f2) (Or.inr ⟨⟨k0, k1⟩, z_0, T, f4.1, by rw [jup_self]⟩))
theorem ia_ok {M : jM} {n a b : Int} {Q : Int32 → Nat → jM → Prop} (h0 : M 11 0 0 = zI n) (hn : 0 ≤ n ∧ n ≤ 6) (a1 : -2147483648 ≤ a) (a2 : a < 2147483648) (b1 : -2147483648 ≤ b) (b2 : b < 2147483648) (hQ : 0 ≤ a → a ≤ 2 → 0 ≤ b → b < n → Q (zI 1) 0 (jup M 11 0 7 (zI 0))) (hX1 : ¬ (0 ≤ a ∧ a ≤ 2) → Q (zI 0) 0 (jup M 11 0 7 (zI 1))) (hX2 : 0 ≤ a → a ≤ 2 → ¬ (0 ≤ b ∧ b < n) → Q (zI 0) 0 (jup M 11 0 7 (zI 2))) : ok_X12_isAsked (zI a) (zI b) M Q := by
  refine en_X12_isAsked (bl_X12_isAsked_0 _ _ _ _ ?_)
  by_cases q : 0 ≤ a ∧ a ≤ 2
  · by_cases q2 : 0 ≤ b ∧ b < n
    · have := hQ q.1 q.2 q2.1 q2.2
      simp (disch := omega) only [z_add, z_sub, z_mul, z_neg, z_leT, z_leF, z_ltT, z_ltF, z_eqT, z_eqF, z_inT, z_clamp, z_nI, z_0, z_1, z_2, z_3, z_4, z_5, z_6, z_7, z_8, z_9, z_10, z_11, z_12, z_13, z_14, z_15, z_16, z_17, z_18, z_19, z_20, z_21, z_22, z_23, z_24, z_25, z_26, z_27, z_28, z_29, z_30, z_31, z_32, z_33, z_34, z_35, z_36, z_37, z_38, z_39, z_40, z_41, z_42, z_43, z_44, z_45, z_46, z_47, z_48, z_49, z_50, z_51, z_52, z_53, z_54, z_55, z_56, z_57, z_58, z_59, z_60, z_61, z_77, z_91, z_93, z_97, z_100, z_101, z_102, z_103, z_105, z_111, z_114, z_120, z_123, z_125, z_126, z_200, z_245, z_255, z_576, z_585, z_1000, z_2000, z_3510, z_11700, true_implies, false_implies, implies_true, not_true_eq_false, not_false_eq_true, true_and, and_true, false_and, and_false, ↓reduceIte, Int.reduceToNat, Int.reduceNeg, Int.toNat_natCast, h0]
      rintro M3 rfl
      rw [jup_self, z_eqT rfl]
      exact ⟨fun _ => this, fun z => absurd trivial z⟩
    · have := hX2 q.1 q.2 q2
      have cl : ∀ (A B : jM → Prop), B (jup M 11 0 7 (zI 2)) → ∀ M3, M3 = jup M 11 0 7 (zI 2) → (M3 11 0 7 = zI 0 → A M3) ∧ (¬ (M3 11 0 7 = zI 0) → B M3) := by
        rintro A B hB M3 rfl
        rw [jup_self, z_eqF (by omega)]
        exact ⟨fun z => z.elim, fun _ => hB⟩
      by_cases q3 : b < 0
      · simp (disch := omega) only [z_add, z_sub, z_mul, z_neg, z_leT, z_leF, z_ltT, z_ltF, z_eqT, z_eqF, z_inT, z_clamp, z_nI, z_0, z_1, z_2, z_3, z_4, z_5, z_6, z_7, z_8, z_9, z_10, z_11, z_12, z_13, z_14, z_15, z_16, z_17, z_18, z_19, z_20, z_21, z_22, z_23, z_24, z_25, z_26, z_27, z_28, z_29, z_30, z_31, z_32, z_33, z_34, z_35, z_36, z_37, z_38, z_39, z_40, z_41, z_42, z_43, z_44, z_45, z_46, z_47, z_48, z_49, z_50, z_51, z_52, z_53, z_54, z_55, z_56, z_57, z_58, z_59, z_60, z_61, z_77, z_91, z_93, z_97, z_100, z_101, z_102, z_103, z_105, z_111, z_114, z_120, z_123, z_125, z_126, z_200, z_245, z_255, z_576, z_585, z_1000, z_2000, z_3510, z_11700, true_implies, false_implies, implies_true, not_true_eq_false, not_false_eq_true, true_and, and_true, false_and, and_false, ↓reduceIte, Int.reduceToNat, Int.reduceNeg, Int.toNat_natCast, h0]
        exact cl (fun M3 => Q (zI 1) 0 M3) (fun M3 => Q (zI 0) 0 M3) this
      · simp (disch := omega) only [z_add, z_sub, z_mul, z_neg, z_leT, z_leF, z_ltT, z_ltF, z_eqT, z_eqF, z_inT, z_clamp, z_nI, z_0, z_1, z_2, z_3, z_4, z_5, z_6, z_7, z_8, z_9, z_10, z_11, z_12, z_13, z_14, z_15, z_16, z_17, z_18, z_19, z_20, z_21, z_22, z_23, z_24, z_25, z_26, z_27, z_28, z_29, z_30, z_31, z_32, z_33, z_34, z_35, z_36, z_37, z_38, z_39, z_40, z_41, z_42, z_43, z_44, z_45, z_46, z_47, z_48, z_49, z_50, z_51, z_52, z_53, z_54, z_55, z_56, z_57, z_58, z_59, z_60, z_61, z_77, z_91, z_93, z_97, z_100, z_101, z_102, z_103, z_105, z_111, z_114, z_120, z_123, z_125, z_126, z_200, z_245, z_255, z_576, z_585, z_1000, z_2000, z_3510, z_11700, true_implies, false_implies, implies_true, not_true_eq_false, not_false_eq_true, true_and, and_true, false_and, and_false, ↓reduceIte, Int.reduceToNat, Int.reduceNeg, Int.toNat_natCast, h0]
        exact cl (fun M3 => Q (zI 1) 0 M3) (fun M3 => Q (zI 0) 0 M3) this
  · have := hX1 q
    have cl : ∀ (A B : jM → Prop), B (jup M 11 0 7 (zI 1)) → ∀ M3, M3 = jup M 11 0 7 (zI 1) → (M3 11 0 7 = zI 0 → A M3) ∧ (¬ (M3 11 0 7 = zI 0) → B M3) := by
      rintro A B hB M3 rfl
      rw [jup_self, z_eqF (by omega)]
      exact ⟨fun z => z.elim, fun _ => hB⟩
    by_cases q3 : a < 0
    · simp (disch := omega) only [z_add, z_sub, z_mul, z_neg, z_leT, z_leF, z_ltT, z_ltF, z_eqT, z_eqF, z_inT, z_clamp, z_nI, z_0, z_1, z_2, z_3, z_4, z_5, z_6, z_7, z_8, z_9, z_10, z_11, z_12, z_13, z_14, z_15, z_16, z_17, z_18, z_19, z_20, z_21, z_22, z_23, z_24, z_25, z_26, z_27, z_28, z_29, z_30, z_31, z_32, z_33, z_34, z_35, z_36, z_37, z_38, z_39, z_40, z_41, z_42, z_43, z_44, z_45, z_46, z_47, z_48, z_49, z_50, z_51, z_52, z_53, z_54, z_55, z_56, z_57, z_58, z_59, z_60, z_61, z_77, z_91, z_93, z_97, z_100, z_101, z_102, z_103, z_105, z_111, z_114, z_120, z_123, z_125, z_126, z_200, z_245, z_255, z_576, z_585, z_1000, z_2000, z_3510, z_11700, true_implies, false_implies, implies_true, not_true_eq_false, not_false_eq_true, true_and, and_true, false_and, and_false, ↓reduceIte, Int.reduceToNat, Int.reduceNeg, Int.toNat_natCast, h0]
      exact cl (fun M3 => Q (zI 1) 0 M3) (fun M3 => Q (zI 0) 0 M3) this
    · simp (disch := omega) only [z_add, z_sub, z_mul, z_neg, z_leT, z_leF, z_ltT, z_ltF, z_eqT, z_eqF, z_inT, z_clamp, z_nI, z_0, z_1, z_2, z_3, z_4, z_5, z_6, z_7, z_8, z_9, z_10, z_11, z_12, z_13, z_14, z_15, z_16, z_17, z_18, z_19, z_20, z_21, z_22, z_23, z_24, z_25, z_26, z_27, z_28, z_29, z_30, z_31, z_32, z_33, z_34, z_35, z_36, z_37, z_38, z_39, z_40, z_41, z_42, z_43, z_44, z_45, z_46, z_47, z_48, z_49, z_50, z_51, z_52, z_53, z_54, z_55, z_56, z_57, z_58, z_59, z_60, z_61, z_77, z_91, z_93, z_97, z_100, z_101, z_102, z_103, z_105, z_111, z_114, z_120, z_123, z_125, z_126, z_200, z_245, z_255, z_576, z_585, z_1000, z_2000, z_3510, z_11700, true_implies, false_implies, implies_true, not_true_eq_false, not_false_eq_true, true_and, and_true, false_and, and_false, ↓reduceIte, Int.reduceToNat, Int.reduceNeg, Int.toNat_natCast, h0]
      exact cl (fun M3 => Q (zI 1) 0 M3) (fun M3 => Q (zI 0) 0 M3) this
theorem b01 {A B : Prop} (h : B) : (zI 1 = 0 → A) ∧ (¬ (zI 1 = 0) → B) := ⟨fun z => by rw [z_0, z_eqF (by omega)] at z; exact z.elim, fun _ => h⟩
theorem b00 {A B : Prop} (h : A) : (zI 0 = 0 → A) ∧ (¬ (zI 0 = 0) → B) := ⟨fun _ => h, fun z => absurd z_0.symm z⟩
set_option maxHeartbeats 4000000 in
set_option maxRecDepth 100000 in
theorem op_groupOf {M : jM} {k : Nat} {n : Int} {w : Int → Int → Int} {o : Int → Int} {ver : Int} {a b : Int32} {P : jM → Int32 → Int32 → Prop} {Q : Int32 → Nat → jM → Prop} (hR : RLz M k n w o ver) (hk : k ≤ 2000) (hP : ∀ M5 r1 r4, RLz M5 (k + 1) n w o ver → M5 11 0 7 = r1 → (r1 = 0 → M5 61 0 0 = r4) → P M5 r1 r4) (hq : ∀ r1 M2, ok_X12_groupOf a b M2 (fun r4 _ M5 => P M5 r1 r4) → Q r1 0 M2) : ok_L_groupOf a b M Q := by
  obtain ⟨hnb, hv⟩ := RLz_n hR hk
  have hG := hR.1
  have hPR := hR.2.1
  have hCI := hR.2.2.2.1
  have hn := hG.1
  have h6 := hPR.1
  obtain ⟨a, a1, a2, rfl⟩ := zI_of a
  obtain ⟨b, b1, b2, rfl⟩ := zI_of b
  have key : ∀ (M2 : jM) (r1 : Int32), fr SO M M2 → CI M2 n w o ver → ((¬ (0 ≤ a ∧ a ≤ 2) ∧ r1 = zI 1) ∨ ((0 ≤ a ∧ a ≤ 2) ∧ ¬ (0 ≤ b ∧ b < n) ∧ r1 = zI 2) ∨ ((0 ≤ a ∧ a ≤ 2) ∧ (0 ≤ b ∧ b < n) ∧ r1 = zI 0 ∧ ∃ T j, isNG (az w o n a) n T ∧ (0 ≤ j ∧ j < T ∧ gs (az w o n a) j ≤ b ∧ b < gs (az w o n a) (j + 1)) ∧ M2 61 0 0 = zI j)) → ok_X12_groupOf (zI a) (zI b) M2 (fun r4 _ M5 => P M5 r1 r4) := by
    intro M2 r1 hf hC hr
    obtain ⟨hM2, hF2⟩ := RLz_m hR hf
    have e0 := hM2.1
    refine en_X12_groupOf (bl_X12_groupOf_0 _ _ _ _ (ia_ok e0 hn a1 a2 b1 b2 (fun k0 k1 l0 l1 => ⟨rfl, b01 ?_⟩) (fun z => ⟨rfl, b00 ?_⟩) (fun k0 k1 z => ⟨rfl, b00 ?_⟩)))
    · rcases hr with ⟨q, hr⟩ | ⟨q, q2, hr⟩ | ⟨q, q2, hr, T, j, hT, hj, hv2⟩
      · exact absurd ⟨k0, k1⟩ q
      · exact absurd ⟨l0, l1⟩ q2
      · refine set_ok hG (MR_7 hM2) (FA_7 hF2) q (fun M4 S c1 c2 c3 c4 => ⟨fm_nb c1, ?_⟩)
        refine fg_ok hG (MR_fm (MR_7 hM2) c1) az_ok hT (c3 T hT) ⟨l0, l1⟩ (fun M5 j' d1 d2 d3 d4 d5 d6 => ⟨fm_nb d1, ?_⟩)
        have hm : fm SM FM M2 M5 := fm_tr (fm_tr (fm_7 (x := zI 0) (fm_rf SM FM M2)) c1 (S2 := SM) (F2 := FM)) d1
        refine ro_val hR hP hf hC hm (FA_fm c2 d1) (by rw [d1.2 7 (by decide), c1.2 7 (by decide), jup_self, hr]) ?_
        rw [fm_61 hm, hv2, gs_uq az_ok hn.1 hT hj.1 hj.2.1 hj.2.2.1 hj.2.2.2 d2 d3 d4 d5]
    · rcases hr with ⟨q, hr⟩ | ⟨q, q2, hr⟩ | ⟨q, q2, hr, _⟩
      · exact ro_thr hR hP hf hC (fm_rf _ _ M2) hF2 hr (by omega) _
      · exact absurd q z
      · exact absurd q z
    · rcases hr with ⟨q, hr⟩ | ⟨q, q2, hr⟩ | ⟨q, q2, hr, _⟩
      · exact absurd ⟨k0, k1⟩ q
      · exact ro_thr hR hP hf hC (fm_rf _ _ M2) hF2 hr (by omega) _
      · exact absurd q2 z
  refine wr_groupOf (en_X11_groupOf (bl_X11_groupOf_0 _ _ _ _ _ ?_))
  refine po_ok hG hPR hnb hCI hv ⟨a1, a2⟩ (fun k0 k1 M3 T f1 f2 f3 f4 => ⟨by omega, fr_nb f1, ?_⟩) (fun z => Or.inl ⟨rfl, hq _ _ (key M _ (fr_rf _ _) hCI (Or.inl ⟨z, z_1⟩))⟩)
  refine ckl_ok (PR_r hPR f1) hn b1 b2 (fun l0 l1 => ⟨rfl, ?_⟩) (fun z => Or.inr ⟨rfl, hq _ _ (key M3 _ (fr_mono f1) f2 (Or.inr (Or.inl ⟨⟨k0, k1⟩, z, z_2⟩)))⟩)
  refine gw_ok (by omega) hn az_ok f4 ⟨l0, l1⟩ (fun j j0 j1 j2 j3 => ⟨rfl, fr_nb f1, ?_⟩)
  rw [z00]
  exact hq _ _ (key _ _ (o_fr (fr_mono f1)) (o_CI f2) (Or.inr (Or.inr ⟨⟨k0, k1⟩, ⟨l0, l1⟩, z_0, T, j, f4.1, ⟨j0, j1, j2, j3⟩, by rw [jup_self]⟩)))
set_option maxHeartbeats 4000000 in
set_option maxRecDepth 100000 in
theorem op_shift {M : jM} {k : Nat} {n : Int} {w : Int → Int → Int} {o : Int → Int} {ver : Int} {a b : Int32} {P : jM → Int32 → Int32 → Prop} {Q : Int32 → Nat → jM → Prop} (hR : RLz M k n w o ver) (hk : k ≤ 2000) (hP : ∀ M5 r1 r4, RLz M5 (k + 1) n w o ver → M5 11 0 7 = r1 → (r1 = 0 → M5 61 0 0 = r4) → P M5 r1 r4) (hq : ∀ r1 M2, ok_X12_shift a b M2 (fun r4 _ M5 => P M5 r1 r4) → Q r1 0 M2) : ok_L_shift a b M Q := by
  obtain ⟨hnb, hv⟩ := RLz_n hR hk
  have hG := hR.1
  have hPR := hR.2.1
  have hCI := hR.2.2.2.1
  have hn := hG.1
  have h6 := hPR.1
  obtain ⟨a, a1, a2, rfl⟩ := zI_of a
  obtain ⟨b, b1, b2, rfl⟩ := zI_of b
  have key : ∀ (M2 : jM) (r1 : Int32), fr SO M M2 → CI M2 n w o ver → ((¬ (0 ≤ a ∧ a ≤ 2) ∧ r1 = zI 1) ∨ ((0 ≤ a ∧ a ≤ 2) ∧ ¬ (0 ≤ b ∧ b < n) ∧ r1 = zI 2) ∨ ((0 ≤ a ∧ a ≤ 2) ∧ (0 ≤ b ∧ b < n) ∧ r1 = zI 0 ∧ ∃ T j, isNG (az w o n a) n T ∧ (0 ≤ j ∧ j < T ∧ gs (az w o n a) j ≤ b ∧ b < gs (az w o n a) (j + 1)) ∧ M2 61 0 0 = zI (sh w (gs (az w o n a) j) b))) → ok_X12_shift (zI a) (zI b) M2 (fun r4 _ M5 => P M5 r1 r4) := by
    intro M2 r1 hf hC hr
    obtain ⟨hM2, hF2⟩ := RLz_m hR hf
    have e0 := hM2.1
    refine en_X12_shift (bl_X12_shift_0 _ _ _ _ (ia_ok e0 hn a1 a2 b1 b2 (fun k0 k1 l0 l1 => ⟨rfl, b01 ?_⟩) (fun z => ⟨rfl, b00 ?_⟩) (fun k0 k1 z => ⟨rfl, b00 ?_⟩)))
    · rcases hr with ⟨q, hr⟩ | ⟨q, q2, hr⟩ | ⟨q, q2, hr, T, j, hT, hj, hv2⟩
      · exact absurd ⟨k0, k1⟩ q
      · exact absurd ⟨l0, l1⟩ q2
      · refine set_ok hG (MR_7 hM2) (FA_7 hF2) q (fun M4 S c1 c2 c3 c4 => ⟨fm_nb c1, ?_⟩)
        refine fg_ok hG (MR_fm (MR_7 hM2) c1) az_ok hT (c3 T hT) ⟨l0, l1⟩ (fun M5 j' d1 d2 d3 d4 d5 d6 => ⟨fm_nb d1, ?_⟩)
        have hm : fm SM FM M2 M5 := fm_tr (fm_tr (fm_7 (x := zI 0) (fm_rf SM FM M2)) c1 (S2 := SM) (F2 := FM)) d1
        have ej := gs_uq az_ok hn.1 hT hj.1 hj.2.1 hj.2.2.1 hj.2.2.2 d2 d3 d4 d5
        have e59 := d6.2.2 b d4 (by omega)
        simp (disch := omega) only [z_add, z_sub, z_mul, z_neg, z_leT, z_leF, z_ltT, z_ltF, z_eqT, z_eqF, z_inT, z_clamp, z_nI, z_0, z_1, z_2, z_3, z_4, z_5, z_6, z_7, z_8, z_9, z_10, z_11, z_12, z_13, z_14, z_15, z_16, z_17, z_18, z_19, z_20, z_21, z_22, z_23, z_24, z_25, z_26, z_27, z_28, z_29, z_30, z_31, z_32, z_33, z_34, z_35, z_36, z_37, z_38, z_39, z_40, z_41, z_42, z_43, z_44, z_45, z_46, z_47, z_48, z_49, z_50, z_51, z_52, z_53, z_54, z_55, z_56, z_57, z_58, z_59, z_60, z_61, z_77, z_91, z_93, z_97, z_100, z_101, z_102, z_103, z_105, z_111, z_114, z_120, z_123, z_125, z_126, z_200, z_245, z_255, z_576, z_585, z_1000, z_2000, z_3510, z_11700, true_implies, false_implies, implies_true, not_true_eq_false, not_false_eq_true, true_and, and_true, false_and, and_false, ↓reduceIte, Int.reduceToNat, Int.reduceNeg, Int.toNat_natCast, e59]
        refine ro_val hR hP hf hC hm (FA_fm c2 d1) (by rw [d1.2 7 (by decide), c1.2 7 (by decide), jup_self, hr]) ?_
        rw [fm_61 hm, hv2, ej]
    · rcases hr with ⟨q, hr⟩ | ⟨q, q2, hr⟩ | ⟨q, q2, hr, _⟩
      · exact ro_thr hR hP hf hC (fm_rf _ _ M2) hF2 hr (by omega) _
      · exact absurd q z
      · exact absurd q z
    · rcases hr with ⟨q, hr⟩ | ⟨q, q2, hr⟩ | ⟨q, q2, hr, _⟩
      · exact absurd ⟨k0, k1⟩ q
      · exact ro_thr hR hP hf hC (fm_rf _ _ M2) hF2 hr (by omega) _
      · exact absurd q2 z
  refine wr_shift (en_X11_shift (bl_X11_shift_0 _ _ _ _ _ ?_))
  refine po_ok hG hPR hnb hCI hv ⟨a1, a2⟩ (fun k0 k1 M3 T f1 f2 f3 f4 => ⟨by omega, fr_nb f1, ?_⟩) (fun z => Or.inl ⟨rfl, hq _ _ (key M _ (fr_rf _ _) hCI (Or.inl ⟨z, z_1⟩))⟩)
  refine ckl_ok (PR_r hPR f1) hn b1 b2 (fun l0 l1 => ⟨rfl, ?_⟩) (fun z => Or.inr ⟨rfl, hq _ _ (key M3 _ (fr_mono f1) f2 (Or.inr (Or.inl ⟨⟨k0, k1⟩, z, z_2⟩)))⟩)
  refine gw_ok (by omega) hn az_ok f4 ⟨l0, l1⟩ (fun j j0 j1 j2 j3 => ⟨rfl, ?_⟩)
  refine tg_ok (by omega) hG (PR_r hPR f1) f3 az_ok f4 ⟨j0, j1⟩ (fun M4 g1 g2 g3 => ⟨fr_nb g1, ?_⟩)
  have hf4 : fr SO M M4 := fr_tr f1 g1
  have e27 := g3.2.1 b j2 (by omega)
  have enb : jnb M4 = jnb M := by rw [fr_nb g1, fr_nb f1]
  simp (disch := omega) only [z_add, z_sub, z_mul, z_neg, z_leT, z_leF, z_ltT, z_ltF, z_eqT, z_eqF, z_inT, z_clamp, z_nI, z_0, z_1, z_2, z_3, z_4, z_5, z_6, z_7, z_8, z_9, z_10, z_11, z_12, z_13, z_14, z_15, z_16, z_17, z_18, z_19, z_20, z_21, z_22, z_23, z_24, z_25, z_26, z_27, z_28, z_29, z_30, z_31, z_32, z_33, z_34, z_35, z_36, z_37, z_38, z_39, z_40, z_41, z_42, z_43, z_44, z_45, z_46, z_47, z_48, z_49, z_50, z_51, z_52, z_53, z_54, z_55, z_56, z_57, z_58, z_59, z_60, z_61, z_77, z_91, z_93, z_97, z_100, z_101, z_102, z_103, z_105, z_111, z_114, z_120, z_123, z_125, z_126, z_200, z_245, z_255, z_576, z_585, z_1000, z_2000, z_3510, z_11700, true_implies, false_implies, implies_true, not_true_eq_false, not_false_eq_true, true_and, and_true, false_and, and_false, ↓reduceIte, Int.reduceToNat, Int.reduceNeg, Int.toNat_natCast, e27, enb]
  exact hq _ _ (key _ _ (o_fr hf4) (o_CI (CI_fr f2 g1 g2)) (Or.inr (Or.inr ⟨⟨k0, k1⟩, ⟨l0, l1⟩, rfl, T, j, f4.1, ⟨j0, j1, j2, j3⟩, by rw [jup_self]⟩)))
