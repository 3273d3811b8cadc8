/-! ===== calls that change something ===== -/
def Rz (M : jM) (k : Nat) : Prop := ∃ n w o ver, RLz M k n w o ver
theorem PR_pt {M M1 : jM} {P : Nat} {n : Int} {w : Int → Int → Int} {o : Int → Int} (h : PR M P n w o) (h3 : ∀ l : Int, 0 ≤ l → l < n → M1 3 (6 * P + l.toNat) = M 3 (6 * P + l.toNat)) (h62 : M1 6 P 2 = M 6 P 2) (h40 : M1 40 P = M 40 P) (h0 : M1 0 = M 0) (h7 : M1 7 = M 7) (h20 : M1 20 = M 20) (h21 : M1 21 = M 21) (h22 : M1 22 = M 22) (h24 : M1 24 = M 24) (h25 : M1 25 = M 25) (h26 : M1 26 = M 26) (hn : jnb M1 = jnb M) : PR M1 P n w o := by
  refine ⟨by rw [h62]; exact h.1, by rw [h40]; exact h.2.1, fun l l0 l1 => ?_⟩
  have := h.2.2 l l0 l1
  unfold LR BR BRs at *
  rw [h3 l l0 l1, h0, h7, h20, h21, h22, h24, h25, h26, hn]
  exact this
theorem SN_pt {M M1 : jM} (h : SN M) (h10 : M1 10 0 8 = M 10 0 8) (f6 : M1 11 0 6 = M 11 0 6) (f3 : M1 11 0 3 = M 11 0 3) (h52 : M1 52 = M 52) (h53 : M1 53 = M 53) (hP : ∀ n w o, GH n w o → PR M 1 n w o → PR M1 1 n w o) : SN M1 := by
  rcases h with h | ⟨b1, b2, n, w, o, b3, b4, b5⟩
  · exact Or.inl (by rw [h10, f6]; exact h)
  · refine Or.inr ⟨by rw [h10]; exact b1, by rw [f6]; exact b2, n, w, o, b3, hP n w o b3 b4, ?_⟩
    unfold MS at *
    rw [f3, h52, h53]
    exact b5
theorem TX_eq {M M1 : jM} (h : TX M) (h8 : M1 8 0 2 = M 8 0 2) (f8 : M1 11 0 8 = M 11 0 8) (h41 : M1 41 = M 41) (h54 : M1 54 = M 54) : TX M1 := by
  unfold TX at *
  rw [h8, f8, h41, h54]
  exact h
theorem CI_new {M M1 : jM} {n n' : Int} {w w' : Int → Int → Int} {o o' : Int → Int} {ver ver' : Int} (h : CI M n w o ver) (hv : ver < ver') (h63 : M1 6 0 3 = zI ver') (h14 : M1 1 0 4 = M 1 0 4) (h5 : M1 5 = M 5) : CI M1 n' w' o' ver' := by
  obtain ⟨c6, ⟨a, c1, ca, cn⟩, cp⟩ := h
  refine ⟨h63, ⟨a, by rw [h14]; exact c1, by omega, fun z => by omega⟩, fun k hk => ?_⟩
  obtain ⟨p0, ⟨b, p10, pb, pl⟩, c, p11, pc, pl2⟩ := cp k hk
  exact ⟨by rw [h5]; exact p0, ⟨b, by rw [h5]; exact p10, by omega, fun z => by omega⟩, c, by rw [h5]; exact p11, by omega, fun z => by omega⟩
theorem upZ_o2 {o : Int → Int} {a b : Int} (h : OPT o) (ha : 0 ≤ a ∧ a ≤ 2) (hb : -2147483648 ≤ b ∧ b < 2147483648) (h0 : a = 0 → 0 ≤ b ∧ b ≤ 20) (h1 : a = 1 → 0 ≤ b ∧ b ≤ 9) : OPT (upZ o a b) := by
  unfold OPT at *
  rcases (show a = 0 ∨ a = 1 ∨ a = 2 by omega) with q | q | q
  · subst q
    rw [upZ_s, upZ_n (show (1 : Int) ≠ 0 by omega), upZ_n (show (2 : Int) ≠ 0 by omega)]
    exact ⟨h0 rfl, h.2⟩
  · subst q
    rw [upZ_s, upZ_n (show (0 : Int) ≠ 1 by omega), upZ_n (show (2 : Int) ≠ 1 by omega)]
    exact ⟨h.1, h1 rfl, h.2.2⟩
  · subst q
    rw [upZ_s, upZ_n (show (0 : Int) ≠ 2 by omega), upZ_n (show (1 : Int) ≠ 2 by omega)]
    exact ⟨h.1, h.2.1, hb⟩
set_option maxHeartbeats 4000000 in
set_option maxRecDepth 100000 in
theorem op_setOption {M : jM} {k : Nat} {n : Int} {w : Int → Int → Int} {o : Int → Int} {ver : Int} {a b : Int32} {P : jM → Int32 → Int32 → Prop} {Q : Int32 → Nat → jM → Prop} (hR : RLz M k n w o ver) (hk : k ≤ 2000) (hP : ∀ M5 r1 r4, Rz M5 (k + 1) → M5 11 0 7 = r1 → (r1 = 0 → M5 61 0 0 = r4) → P M5 r1 r4) (hq : ∀ r1 M2, ok_X12_setOption a b M2 (fun r4 _ M5 => P M5 r1 r4) → Q r1 0 M2) : ok_L_setOption a b M Q := by
  obtain ⟨hnb, hv⟩ := RLz_n hR hk
  have hG := hR.1
  have hPR := hR.2.1
  have hCI := hR.2.2.2.1
  have hn := hG.1
  have h6 := hPR.1
  obtain ⟨a, a1, a2, rfl⟩ := zI_of a
  obtain ⟨b, b1, b2, rfl⟩ := zI_of b
  have hP0 := fun M5 r1 r4 (h : RLz M5 (k + 1) n w o ver) => hP M5 r1 r4 ⟨n, w, o, ver, h⟩
  have key : ∀ (M2 : jM) (r1 : Int32), ((fr SO M M2 ∧ CI M2 n w o ver ∧ ((¬ (0 ≤ a ∧ a ≤ 2) ∧ r1 = zI 1) ∨ ((0 ≤ a ∧ a ≤ 2) ∧ ((a = 0 ∧ ¬ (0 ≤ b ∧ b ≤ 20)) ∨ (a = 1 ∧ ¬ (0 ≤ b ∧ b ≤ 9))) ∧ r1 = zI 2))) ∨ ((0 ≤ a ∧ a ≤ 2) ∧ (a = 0 → 0 ≤ b ∧ b ≤ 20) ∧ (a = 1 → 0 ≤ b ∧ b ≤ 9) ∧ r1 = zI 0 ∧ M2 = jup (jup (jup M 40 0 a.toNat (zI b)) 6 0 3 (zI (ver + 1))) 61 0 0 (zI (o a)))) → ok_X12_setOption (zI a) (zI b) M2 (fun r4 _ M5 => P M5 r1 r4) := by
    intro M2 r1 hr
    refine en_X12_setOption (bl_X12_setOption_0 _ _ _ _ ?_)
    rintro M3 rfl
    rcases hr with ⟨hf, hC, hr⟩ | ⟨q, q0, q1, hr, hM2⟩
    · obtain ⟨hM2, hF2⟩ := RLz_m hR hf
      rcases hr with ⟨q, hr⟩ | ⟨q, q2, hr⟩
      · have fin := ro_thr hR hP0 hf hC (fm_7 (x := zI 0) (fm_rf _ _ _)) (FA_7 hF2) hr (by omega)
        by_cases q4 : a < 0
        · simp (disch := omega) only [jup_self, jup_ne, z_add, z_sub, z_mul, z_neg, z_leT, z_leF, z_ltT, z_ltF, z_eqT, z_eqF, z_inT, z_clamp, z_nI, z_0, z_1, z_2, z_3, z_4, z_5, z_6, z_7, z_8, z_9, z_10, z_11, z_12, z_13, z_14, z_15, z_16, z_17, z_18, z_19, z_20, z_21, z_22, z_23, z_24, z_25, z_26, z_27, z_28, z_29, z_30, z_31, z_32, z_33, z_34, z_35, z_36, z_37, z_38, z_39, z_40, z_41, z_42, z_43, z_44, z_45, z_46, z_47, z_48, z_49, z_50, z_51, z_52, z_53, z_54, z_55, z_56, z_57, z_58, z_59, z_60, z_61, z_77, z_91, z_93, z_97, z_100, z_101, z_102, z_103, z_105, z_111, z_114, z_120, z_123, z_125, z_126, z_200, z_245, z_255, z_576, z_585, z_1000, z_2000, z_3510, z_11700, true_implies, false_implies, implies_true, not_true_eq_false, not_false_eq_true, true_and, and_true, false_and, and_false, ↓reduceIte, Int.reduceToNat, Int.reduceNeg, Int.toNat_natCast]
          rintro M4 rfl
          exact fin _
        · simp (disch := omega) only [jup_self, jup_ne, z_add, z_sub, z_mul, z_neg, z_leT, z_leF, z_ltT, z_ltF, z_eqT, z_eqF, z_inT, z_clamp, z_nI, z_0, z_1, z_2, z_3, z_4, z_5, z_6, z_7, z_8, z_9, z_10, z_11, z_12, z_13, z_14, z_15, z_16, z_17, z_18, z_19, z_20, z_21, z_22, z_23, z_24, z_25, z_26, z_27, z_28, z_29, z_30, z_31, z_32, z_33, z_34, z_35, z_36, z_37, z_38, z_39, z_40, z_41, z_42, z_43, z_44, z_45, z_46, z_47, z_48, z_49, z_50, z_51, z_52, z_53, z_54, z_55, z_56, z_57, z_58, z_59, z_60, z_61, z_77, z_91, z_93, z_97, z_100, z_101, z_102, z_103, z_105, z_111, z_114, z_120, z_123, z_125, z_126, z_200, z_245, z_255, z_576, z_585, z_1000, z_2000, z_3510, z_11700, true_implies, false_implies, implies_true, not_true_eq_false, not_false_eq_true, true_and, and_true, false_and, and_false, ↓reduceIte, Int.reduceToNat, Int.reduceNeg, Int.toNat_natCast]
          rintro M4 rfl
          exact fin _
      · have fin := ro_thr hR hP0 hf hC (fm_7 (x := zI 0) (fm_rf _ _ _)) (FA_7 hF2) hr (by omega)
        rcases q2 with ⟨qa, qb⟩ | ⟨qa, qb⟩
        · by_cases q4 : b < 0
          · simp (disch := omega) only [jup_self, jup_ne, z_add, z_sub, z_mul, z_neg, z_leT, z_leF, z_ltT, z_ltF, z_eqT, z_eqF, z_inT, z_clamp, z_nI, z_0, z_1, z_2, z_3, z_4, z_5, z_6, z_7, z_8, z_9, z_10, z_11, z_12, z_13, z_14, z_15, z_16, z_17, z_18, z_19, z_20, z_21, z_22, z_23, z_24, z_25, z_26, z_27, z_28, z_29, z_30, z_31, z_32, z_33, z_34, z_35, z_36, z_37, z_38, z_39, z_40, z_41, z_42, z_43, z_44, z_45, z_46, z_47, z_48, z_49, z_50, z_51, z_52, z_53, z_54, z_55, z_56, z_57, z_58, z_59, z_60, z_61, z_77, z_91, z_93, z_97, z_100, z_101, z_102, z_103, z_105, z_111, z_114, z_120, z_123, z_125, z_126, z_200, z_245, z_255, z_576, z_585, z_1000, z_2000, z_3510, z_11700, true_implies, false_implies, implies_true, not_true_eq_false, not_false_eq_true, true_and, and_true, false_and, and_false, ↓reduceIte, Int.reduceToNat, Int.reduceNeg, Int.toNat_natCast]
            rintro M4 rfl
            exact fin _
          · simp (disch := omega) only [jup_self, jup_ne, z_add, z_sub, z_mul, z_neg, z_leT, z_leF, z_ltT, z_ltF, z_eqT, z_eqF, z_inT, z_clamp, z_nI, z_0, z_1, z_2, z_3, z_4, z_5, z_6, z_7, z_8, z_9, z_10, z_11, z_12, z_13, z_14, z_15, z_16, z_17, z_18, z_19, z_20, z_21, z_22, z_23, z_24, z_25, z_26, z_27, z_28, z_29, z_30, z_31, z_32, z_33, z_34, z_35, z_36, z_37, z_38, z_39, z_40, z_41, z_42, z_43, z_44, z_45, z_46, z_47, z_48, z_49, z_50, z_51, z_52, z_53, z_54, z_55, z_56, z_57, z_58, z_59, z_60, z_61, z_77, z_91, z_93, z_97, z_100, z_101, z_102, z_103, z_105, z_111, z_114, z_120, z_123, z_125, z_126, z_200, z_245, z_255, z_576, z_585, z_1000, z_2000, z_3510, z_11700, true_implies, false_implies, implies_true, not_true_eq_false, not_false_eq_true, true_and, and_true, false_and, and_false, ↓reduceIte, Int.reduceToNat, Int.reduceNeg, Int.toNat_natCast]
            rintro M4 rfl
            exact fin _
        · by_cases q4 : b < 0
          · simp (disch := omega) only [jup_self, jup_ne, z_add, z_sub, z_mul, z_neg, z_leT, z_leF, z_ltT, z_ltF, z_eqT, z_eqF, z_inT, z_clamp, z_nI, z_0, z_1, z_2, z_3, z_4, z_5, z_6, z_7, z_8, z_9, z_10, z_11, z_12, z_13, z_14, z_15, z_16, z_17, z_18, z_19, z_20, z_21, z_22, z_23, z_24, z_25, z_26, z_27, z_28, z_29, z_30, z_31, z_32, z_33, z_34, z_35, z_36, z_37, z_38, z_39, z_40, z_41, z_42, z_43, z_44, z_45, z_46, z_47, z_48, z_49, z_50, z_51, z_52, z_53, z_54, z_55, z_56, z_57, z_58, z_59, z_60, z_61, z_77, z_91, z_93, z_97, z_100, z_101, z_102, z_103, z_105, z_111, z_114, z_120, z_123, z_125, z_126, z_200, z_245, z_255, z_576, z_585, z_1000, z_2000, z_3510, z_11700, true_implies, false_implies, implies_true, not_true_eq_false, not_false_eq_true, true_and, and_true, false_and, and_false, ↓reduceIte, Int.reduceToNat, Int.reduceNeg, Int.toNat_natCast]
            rintro M4 rfl
            exact fin _
          · simp (disch := omega) only [jup_self, jup_ne, z_add, z_sub, z_mul, z_neg, z_leT, z_leF, z_ltT, z_ltF, z_eqT, z_eqF, z_inT, z_clamp, z_nI, z_0, z_1, z_2, z_3, z_4, z_5, z_6, z_7, z_8, z_9, z_10, z_11, z_12, z_13, z_14, z_15, z_16, z_17, z_18, z_19, z_20, z_21, z_22, z_23, z_24, z_25, z_26, z_27, z_28, z_29, z_30, z_31, z_32, z_33, z_34, z_35, z_36, z_37, z_38, z_39, z_40, z_41, z_42, z_43, z_44, z_45, z_46, z_47, z_48, z_49, z_50, z_51, z_52, z_53, z_54, z_55, z_56, z_57, z_58, z_59, z_60, z_61, z_77, z_91, z_93, z_97, z_100, z_101, z_102, z_103, z_105, z_111, z_114, z_120, z_123, z_125, z_126, z_200, z_245, z_255, z_576, z_585, z_1000, z_2000, z_3510, z_11700, true_implies, false_implies, implies_true, not_true_eq_false, not_false_eq_true, true_and, and_true, false_and, and_false, ↓reduceIte, Int.reduceToNat, Int.reduceNeg, Int.toNat_natCast]
            rintro M4 rfl
            exact fin _
    · obtain ⟨_, _, hMR, _, hv10, hS1, hS2, hS3, hS4, hS5, hS6, hS7⟩ := hR
      have hold : M2 51 0 a.toNat = zI (o a) := by
        rw [hM2, jup_R (by decide), jup_R (by decide), jup_R (by decide)]
        rcases (show a = 0 ∨ a = 1 ∨ a = 2 by omega) with z | z | z
        · rw [z]; exact hMR.2.1.1
        · rw [z]; exact hMR.2.1.2.1
        · rw [z]; exact hMR.2.1.2.2
      have fin : P (jup (jup M2 11 0 7 (zI 0)) 51 0 a.toNat (zI b)) r1 (zI (o a)) := by
        subst hM2
        refine hP _ _ _ ⟨n, w, upZ o a b, ver + 1, ⟨hn, upZ_o2 hG.2.1 q (by omega) q0 q1, hG.2.2⟩, ?_, ?_, ?_, by omega, ?_, ?_, ?_, ?_, ?_, ?_, ?_⟩ ?_ (fun _ => ?_)
        · have hop : ∀ x : Nat, x ≤ 2 → jup (jup (jup (jup (jup M 40 0 a.toNat (zI b)) 6 0 3 (zI (ver + 1))) 61 0 0 (zI (o a))) 11 0 7 (zI 0)) 51 0 a.toNat (zI b) 40 0 x = if (x : Int) = a then zI b else M 40 0 x := by
            intro x hx
            rw [jup_R (by decide), jup_R (by decide), jup_R (by decide), jup_R (by decide)]
            by_cases z : (x : Int) = a
            · rw [if_pos z, show x = a.toNat by omega, jup_self]
            · rw [if_neg z, jup_ne (by omega)]
          have hz : ∀ x : Nat, x ≤ 2 → M 40 0 x = zI (o (x : Int)) := fun x hx => by
            rcases (show x = 0 ∨ x = 1 ∨ x = 2 by omega) with z | z | z
            · rw [z]; exact hPR.2.1.1
            · rw [z]; exact hPR.2.1.2.1
            · rw [z]; exact hPR.2.1.2.2
          have hall : ∀ x : Nat, x ≤ 2 → jup (jup (jup (jup (jup M 40 0 a.toNat (zI b)) 6 0 3 (zI (ver + 1))) 61 0 0 (zI (o a))) 11 0 7 (zI 0)) 51 0 a.toNat (zI b) 40 0 x = zI (upZ o a b (x : Int)) := fun x hx => by
            rw [hop x hx]
            by_cases z : (x : Int) = a
            · rw [if_pos z, z, upZ_s]
            · rw [if_neg z, upZ_n z]; exact hz x hx
          refine ⟨?_, ⟨hall 0 (by omega), hall 1 (by omega), hall 2 (by omega)⟩, fun l l0 l1 => ?_⟩
          · rw [jup_R (by decide), jup_R (by decide), jup_R (by decide), jup_ne (by omega), jup_R (by decide)]; exact h6
          · have := hPR.2.2 l l0 l1
            have e : ∀ R, R ≠ 51 → R ≠ 11 → R ≠ 61 → R ≠ 6 → R ≠ 40 → jup (jup (jup (jup (jup M 40 0 a.toNat (zI b)) 6 0 3 (zI (ver + 1))) 61 0 0 (zI (o a))) 11 0 7 (zI 0)) 51 0 a.toNat (zI b) R = M R := fun R r1 r2 r3 r4 r5 => by rw [jup_o r1, jup_o r2, jup_o r3, jup_o r4, jup_o r5]
            unfold LR BR BRs jnb at *
            rw [e 3 (by decide) (by decide) (by decide) (by decide) (by decide), e 0 (by decide) (by decide) (by decide) (by decide) (by decide), e 7 (by decide) (by decide) (by decide) (by decide) (by decide), e 20 (by decide) (by decide) (by decide) (by decide) (by decide), e 21 (by decide) (by decide) (by decide) (by decide) (by decide), e 22 (by decide) (by decide) (by decide) (by decide) (by decide), e 24 (by decide) (by decide) (by decide) (by decide) (by decide), e 25 (by decide) (by decide) (by decide) (by decide) (by decide), e 26 (by decide) (by decide) (by decide) (by decide) (by decide), e 99 (by decide) (by decide) (by decide) (by decide) (by decide)]
            exact this
        · refine ⟨?_, ?_, fun l j l0 l1 j0 j1 => ?_⟩
          · simp (disch := omega) only [jup_self, jup_ne, z_add, z_sub, z_mul, z_neg, z_leT, z_leF, z_ltT, z_ltF, z_eqT, z_eqF, z_inT, z_clamp, z_nI, z_0, z_1, z_2, z_3, z_4, z_5, z_6, z_7, z_8, z_9, z_10, z_11, z_12, z_13, z_14, z_15, z_16, z_17, z_18, z_19, z_20, z_21, z_22, z_23, z_24, z_25, z_26, z_27, z_28, z_29, z_30, z_31, z_32, z_33, z_34, z_35, z_36, z_37, z_38, z_39, z_40, z_41, z_42, z_43, z_44, z_45, z_46, z_47, z_48, z_49, z_50, z_51, z_52, z_53, z_54, z_55, z_56, z_57, z_58, z_59, z_60, z_61, z_77, z_91, z_93, z_97, z_100, z_101, z_102, z_103, z_105, z_111, z_114, z_120, z_123, z_125, z_126, z_200, z_245, z_255, z_576, z_585, z_1000, z_2000, z_3510, z_11700, true_implies, false_implies, implies_true, not_true_eq_false, not_false_eq_true, true_and, and_true, false_and, and_false, ↓reduceIte, Int.reduceToNat, Int.reduceNeg, Int.toNat_natCast, hMR.1]
          · have hz : ∀ x : Nat, x ≤ 2 → M 51 0 x = zI (o (x : Int)) := fun x hx => by
              rcases (show x = 0 ∨ x = 1 ∨ x = 2 by omega) with z | z | z
              · rw [z]; exact hMR.2.1.1
              · rw [z]; exact hMR.2.1.2.1
              · rw [z]; exact hMR.2.1.2.2
            have hall : ∀ x : Nat, x ≤ 2 → jup (jup (jup (jup (jup M 40 0 a.toNat (zI b)) 6 0 3 (zI (ver + 1))) 61 0 0 (zI (o a))) 11 0 7 (zI 0)) 51 0 a.toNat (zI b) 51 0 x = zI (upZ o a b (x : Int)) := fun x hx => by
              by_cases z : (x : Int) = a
              · rw [z, upZ_s, show x = a.toNat by omega, jup_self]
              · rw [upZ_n z, jup_ne (by omega), jup_R (by decide), jup_R (by decide), jup_R (by decide), jup_R (by decide)]; exact hz x hx
            exact ⟨hall 0 (by omega), hall 1 (by omega), hall 2 (by omega)⟩
          · rw [jup_R (by decide), jup_R (by decide), jup_R (by decide), jup_R (by decide), jup_R (by decide)]
            exact hMR.2.2 l j l0 l1 j0 j1
        · refine CI_new hCI (by omega) ?_ ?_ ?_
          · rw [jup_R (by decide), jup_R (by decide), jup_R (by decide), jup_self]
          · simp (disch := omega) only [jup_self, jup_ne, z_add, z_sub, z_mul, z_neg, z_leT, z_leF, z_ltT, z_ltF, z_eqT, z_eqF, z_inT, z_clamp, z_nI, z_0, z_1, z_2, z_3, z_4, z_5, z_6, z_7, z_8, z_9, z_10, z_11, z_12, z_13, z_14, z_15, z_16, z_17, z_18, z_19, z_20, z_21, z_22, z_23, z_24, z_25, z_26, z_27, z_28, z_29, z_30, z_31, z_32, z_33, z_34, z_35, z_36, z_37, z_38, z_39, z_40, z_41, z_42, z_43, z_44, z_45, z_46, z_47, z_48, z_49, z_50, z_51, z_52, z_53, z_54, z_55, z_56, z_57, z_58, z_59, z_60, z_61, z_77, z_91, z_93, z_97, z_100, z_101, z_102, z_103, z_105, z_111, z_114, z_120, z_123, z_125, z_126, z_200, z_245, z_255, z_576, z_585, z_1000, z_2000, z_3510, z_11700, true_implies, false_implies, implies_true, not_true_eq_false, not_false_eq_true, true_and, and_true, false_and, and_false, ↓reduceIte, Int.reduceToNat, Int.reduceNeg, Int.toNat_natCast]
          · rw [jup_o (by decide), jup_o (by decide), jup_o (by decide), jup_o (by decide), jup_o (by decide)]
        · refine SN_pt hS1 ?_ ?_ ?_ ?_ ?_ (fun n' w' o' hG' hP' => ?_)
          · simp (disch := omega) only [jup_self, jup_ne, z_add, z_sub, z_mul, z_neg, z_leT, z_leF, z_ltT, z_ltF, z_eqT, z_eqF, z_inT, z_clamp, z_nI, z_0, z_1, z_2, z_3, z_4, z_5, z_6, z_7, z_8, z_9, z_10, z_11, z_12, z_13, z_14, z_15, z_16, z_17, z_18, z_19, z_20, z_21, z_22, z_23, z_24, z_25, z_26, z_27, z_28, z_29, z_30, z_31, z_32, z_33, z_34, z_35, z_36, z_37, z_38, z_39, z_40, z_41, z_42, z_43, z_44, z_45, z_46, z_47, z_48, z_49, z_50, z_51, z_52, z_53, z_54, z_55, z_56, z_57, z_58, z_59, z_60, z_61, z_77, z_91, z_93, z_97, z_100, z_101, z_102, z_103, z_105, z_111, z_114, z_120, z_123, z_125, z_126, z_200, z_245, z_255, z_576, z_585, z_1000, z_2000, z_3510, z_11700, true_implies, false_implies, implies_true, not_true_eq_false, not_false_eq_true, true_and, and_true, false_and, and_false, ↓reduceIte, Int.reduceToNat, Int.reduceNeg, Int.toNat_natCast]
          · simp (disch := omega) only [jup_self, jup_ne, z_add, z_sub, z_mul, z_neg, z_leT, z_leF, z_ltT, z_ltF, z_eqT, z_eqF, z_inT, z_clamp, z_nI, z_0, z_1, z_2, z_3, z_4, z_5, z_6, z_7, z_8, z_9, z_10, z_11, z_12, z_13, z_14, z_15, z_16, z_17, z_18, z_19, z_20, z_21, z_22, z_23, z_24, z_25, z_26, z_27, z_28, z_29, z_30, z_31, z_32, z_33, z_34, z_35, z_36, z_37, z_38, z_39, z_40, z_41, z_42, z_43, z_44, z_45, z_46, z_47, z_48, z_49, z_50, z_51, z_52, z_53, z_54, z_55, z_56, z_57, z_58, z_59, z_60, z_61, z_77, z_91, z_93, z_97, z_100, z_101, z_102, z_103, z_105, z_111, z_114, z_120, z_123, z_125, z_126, z_200, z_245, z_255, z_576, z_585, z_1000, z_2000, z_3510, z_11700, true_implies, false_implies, implies_true, not_true_eq_false, not_false_eq_true, true_and, and_true, false_and, and_false, ↓reduceIte, Int.reduceToNat, Int.reduceNeg, Int.toNat_natCast]
          · simp (disch := omega) only [jup_self, jup_ne, z_add, z_sub, z_mul, z_neg, z_leT, z_leF, z_ltT, z_ltF, z_eqT, z_eqF, z_inT, z_clamp, z_nI, z_0, z_1, z_2, z_3, z_4, z_5, z_6, z_7, z_8, z_9, z_10, z_11, z_12, z_13, z_14, z_15, z_16, z_17, z_18, z_19, z_20, z_21, z_22, z_23, z_24, z_25, z_26, z_27, z_28, z_29, z_30, z_31, z_32, z_33, z_34, z_35, z_36, z_37, z_38, z_39, z_40, z_41, z_42, z_43, z_44, z_45, z_46, z_47, z_48, z_49, z_50, z_51, z_52, z_53, z_54, z_55, z_56, z_57, z_58, z_59, z_60, z_61, z_77, z_91, z_93, z_97, z_100, z_101, z_102, z_103, z_105, z_111, z_114, z_120, z_123, z_125, z_126, z_200, z_245, z_255, z_576, z_585, z_1000, z_2000, z_3510, z_11700, true_implies, false_implies, implies_true, not_true_eq_false, not_false_eq_true, true_and, and_true, false_and, and_false, ↓reduceIte, Int.reduceToNat, Int.reduceNeg, Int.toNat_natCast]
          · rw [jup_o (by decide), jup_o (by decide), jup_o (by decide), jup_o (by decide), jup_o (by decide)]
          · rw [jup_o (by decide), jup_o (by decide), jup_o (by decide), jup_o (by decide), jup_o (by decide)]
          · have e : ∀ R, R ≠ 51 → R ≠ 11 → R ≠ 61 → R ≠ 6 → R ≠ 40 → jup (jup (jup (jup (jup M 40 0 a.toNat (zI b)) 6 0 3 (zI (ver + 1))) 61 0 0 (zI (o a))) 11 0 7 (zI 0)) 51 0 a.toNat (zI b) R = M R := fun R r1 r2 r3 r4 r5 => by rw [jup_o r1, jup_o r2, jup_o r3, jup_o r4, jup_o r5]
            refine PR_pt hP' (fun l l0 l1 => by rw [e 3 (by decide) (by decide) (by decide) (by decide) (by decide)]) ?_ ?_ (e 0 (by decide) (by decide) (by decide) (by decide) (by decide)) (e 7 (by decide) (by decide) (by decide) (by decide) (by decide)) (e 20 (by decide) (by decide) (by decide) (by decide) (by decide)) (e 21 (by decide) (by decide) (by decide) (by decide) (by decide)) (e 22 (by decide) (by decide) (by decide) (by decide) (by decide)) (e 24 (by decide) (by decide) (by decide) (by decide) (by decide)) (e 25 (by decide) (by decide) (by decide) (by decide) (by decide)) (e 26 (by decide) (by decide) (by decide) (by decide) (by decide)) (by unfold jnb; rw [e 99 (by decide) (by decide) (by decide) (by decide) (by decide)])
            · simp (disch := omega) only [jup_self, jup_ne, z_add, z_sub, z_mul, z_neg, z_leT, z_leF, z_ltT, z_ltF, z_eqT, z_eqF, z_inT, z_clamp, z_nI, z_0, z_1, z_2, z_3, z_4, z_5, z_6, z_7, z_8, z_9, z_10, z_11, z_12, z_13, z_14, z_15, z_16, z_17, z_18, z_19, z_20, z_21, z_22, z_23, z_24, z_25, z_26, z_27, z_28, z_29, z_30, z_31, z_32, z_33, z_34, z_35, z_36, z_37, z_38, z_39, z_40, z_41, z_42, z_43, z_44, z_45, z_46, z_47, z_48, z_49, z_50, z_51, z_52, z_53, z_54, z_55, z_56, z_57, z_58, z_59, z_60, z_61, z_77, z_91, z_93, z_97, z_100, z_101, z_102, z_103, z_105, z_111, z_114, z_120, z_123, z_125, z_126, z_200, z_245, z_255, z_576, z_585, z_1000, z_2000, z_3510, z_11700, true_implies, false_implies, implies_true, not_true_eq_false, not_false_eq_true, true_and, and_true, false_and, and_false, ↓reduceIte, Int.reduceToNat, Int.reduceNeg, Int.toNat_natCast]
            · funext y
              rw [jup_R (by decide), jup_R (by decide), jup_R (by decide), jup_R (by decide), jup_ne (by omega)]
        · refine TX_eq hS2 ?_ ?_ ?_ ?_
          · simp (disch := omega) only [jup_self, jup_ne, z_add, z_sub, z_mul, z_neg, z_leT, z_leF, z_ltT, z_ltF, z_eqT, z_eqF, z_inT, z_clamp, z_nI, z_0, z_1, z_2, z_3, z_4, z_5, z_6, z_7, z_8, z_9, z_10, z_11, z_12, z_13, z_14, z_15, z_16, z_17, z_18, z_19, z_20, z_21, z_22, z_23, z_24, z_25, z_26, z_27, z_28, z_29, z_30, z_31, z_32, z_33, z_34, z_35, z_36, z_37, z_38, z_39, z_40, z_41, z_42, z_43, z_44, z_45, z_46, z_47, z_48, z_49, z_50, z_51, z_52, z_53, z_54, z_55, z_56, z_57, z_58, z_59, z_60, z_61, z_77, z_91, z_93, z_97, z_100, z_101, z_102, z_103, z_105, z_111, z_114, z_120, z_123, z_125, z_126, z_200, z_245, z_255, z_576, z_585, z_1000, z_2000, z_3510, z_11700, true_implies, false_implies, implies_true, not_true_eq_false, not_false_eq_true, true_and, and_true, false_and, and_false, ↓reduceIte, Int.reduceToNat, Int.reduceNeg, Int.toNat_natCast]
          · simp (disch := omega) only [jup_self, jup_ne, z_add, z_sub, z_mul, z_neg, z_leT, z_leF, z_ltT, z_ltF, z_eqT, z_eqF, z_inT, z_clamp, z_nI, z_0, z_1, z_2, z_3, z_4, z_5, z_6, z_7, z_8, z_9, z_10, z_11, z_12, z_13, z_14, z_15, z_16, z_17, z_18, z_19, z_20, z_21, z_22, z_23, z_24, z_25, z_26, z_27, z_28, z_29, z_30, z_31, z_32, z_33, z_34, z_35, z_36, z_37, z_38, z_39, z_40, z_41, z_42, z_43, z_44, z_45, z_46, z_47, z_48, z_49, z_50, z_51, z_52, z_53, z_54, z_55, z_56, z_57, z_58, z_59, z_60, z_61, z_77, z_91, z_93, z_97, z_100, z_101, z_102, z_103, z_105, z_111, z_114, z_120, z_123, z_125, z_126, z_200, z_245, z_255, z_576, z_585, z_1000, z_2000, z_3510, z_11700, true_implies, false_implies, implies_true, not_true_eq_false, not_false_eq_true, true_and, and_true, false_and, and_false, ↓reduceIte, Int.reduceToNat, Int.reduceNeg, Int.toNat_natCast]
          · rw [jup_o (by decide), jup_o (by decide), jup_o (by decide), jup_o (by decide), jup_o (by decide)]
          · rw [jup_o (by decide), jup_o (by decide), jup_o (by decide), jup_o (by decide), jup_o (by decide)]
        · intro j
          rw [jup_R (by decide), jup_R (by decide), jup_R (by decide), jup_R (by decide), jup_R (by decide)]
          exact hS3 j
        · rw [jup_R (by decide), jup_R (by decide), jup_R (by decide), jup_R (by decide), jup_R (by decide), hS4]
          simp (disch := omega) only [jup_self, jup_ne, z_add, z_sub, z_mul, z_neg, z_leT, z_leF, z_ltT, z_ltF, z_eqT, z_eqF, z_inT, z_clamp, z_nI, z_0, z_1, z_2, z_3, z_4, z_5, z_6, z_7, z_8, z_9, z_10, z_11, z_12, z_13, z_14, z_15, z_16, z_17, z_18, z_19, z_20, z_21, z_22, z_23, z_24, z_25, z_26, z_27, z_28, z_29, z_30, z_31, z_32, z_33, z_34, z_35, z_36, z_37, z_38, z_39, z_40, z_41, z_42, z_43, z_44, z_45, z_46, z_47, z_48, z_49, z_50, z_51, z_52, z_53, z_54, z_55, z_56, z_57, z_58, z_59, z_60, z_61, z_77, z_91, z_93, z_97, z_100, z_101, z_102, z_103, z_105, z_111, z_114, z_120, z_123, z_125, z_126, z_200, z_245, z_255, z_576, z_585, z_1000, z_2000, z_3510, z_11700, true_implies, false_implies, implies_true, not_true_eq_false, not_false_eq_true, true_and, and_true, false_and, and_false, ↓reduceIte, Int.reduceToNat, Int.reduceNeg, Int.toNat_natCast]
        · obtain ⟨fa, f1, f2⟩ := hS5
          refine ⟨fa, f1, ?_⟩
          simp (disch := omega) only [jup_self, jup_ne, z_add, z_sub, z_mul, z_neg, z_leT, z_leF, z_ltT, z_ltF, z_eqT, z_eqF, z_inT, z_clamp, z_nI, z_0, z_1, z_2, z_3, z_4, z_5, z_6, z_7, z_8, z_9, z_10, z_11, z_12, z_13, z_14, z_15, z_16, z_17, z_18, z_19, z_20, z_21, z_22, z_23, z_24, z_25, z_26, z_27, z_28, z_29, z_30, z_31, z_32, z_33, z_34, z_35, z_36, z_37, z_38, z_39, z_40, z_41, z_42, z_43, z_44, z_45, z_46, z_47, z_48, z_49, z_50, z_51, z_52, z_53, z_54, z_55, z_56, z_57, z_58, z_59, z_60, z_61, z_77, z_91, z_93, z_97, z_100, z_101, z_102, z_103, z_105, z_111, z_114, z_120, z_123, z_125, z_126, z_200, z_245, z_255, z_576, z_585, z_1000, z_2000, z_3510, z_11700, true_implies, false_implies, implies_true, not_true_eq_false, not_false_eq_true, true_and, and_true, false_and, and_false, ↓reduceIte, Int.reduceToNat, Int.reduceNeg, Int.toNat_natCast, f2]
        · unfold jnb at *
          rw [jup_R (by decide), jup_R (by decide), jup_R (by decide), jup_R (by decide), jup_R (by decide)]
          omega
        · intro x hx
          rw [jup_R (by decide), jup_R (by decide), jup_R (by decide), jup_R (by decide), jup_R (by decide)]
          exact hS7 x hx
        · rw [hr]
          simp (disch := omega) only [jup_self, jup_ne, z_add, z_sub, z_mul, z_neg, z_leT, z_leF, z_ltT, z_ltF, z_eqT, z_eqF, z_inT, z_clamp, z_nI, z_0, z_1, z_2, z_3, z_4, z_5, z_6, z_7, z_8, z_9, z_10, z_11, z_12, z_13, z_14, z_15, z_16, z_17, z_18, z_19, z_20, z_21, z_22, z_23, z_24, z_25, z_26, z_27, z_28, z_29, z_30, z_31, z_32, z_33, z_34, z_35, z_36, z_37, z_38, z_39, z_40, z_41, z_42, z_43, z_44, z_45, z_46, z_47, z_48, z_49, z_50, z_51, z_52, z_53, z_54, z_55, z_56, z_57, z_58, z_59, z_60, z_61, z_77, z_91, z_93, z_97, z_100, z_101, z_102, z_103, z_105, z_111, z_114, z_120, z_123, z_125, z_126, z_200, z_245, z_255, z_576, z_585, z_1000, z_2000, z_3510, z_11700, true_implies, false_implies, implies_true, not_true_eq_false, not_false_eq_true, true_and, and_true, false_and, and_false, ↓reduceIte, Int.reduceToNat, Int.reduceNeg, Int.toNat_natCast]
        · simp (disch := omega) only [jup_self, jup_ne, z_add, z_sub, z_mul, z_neg, z_leT, z_leF, z_ltT, z_ltF, z_eqT, z_eqF, z_inT, z_clamp, z_nI, z_0, z_1, z_2, z_3, z_4, z_5, z_6, z_7, z_8, z_9, z_10, z_11, z_12, z_13, z_14, z_15, z_16, z_17, z_18, z_19, z_20, z_21, z_22, z_23, z_24, z_25, z_26, z_27, z_28, z_29, z_30, z_31, z_32, z_33, z_34, z_35, z_36, z_37, z_38, z_39, z_40, z_41, z_42, z_43, z_44, z_45, z_46, z_47, z_48, z_49, z_50, z_51, z_52, z_53, z_54, z_55, z_56, z_57, z_58, z_59, z_60, z_61, z_77, z_91, z_93, z_97, z_100, z_101, z_102, z_103, z_105, z_111, z_114, z_120, z_123, z_125, z_126, z_200, z_245, z_255, z_576, z_585, z_1000, z_2000, z_3510, z_11700, true_implies, false_implies, implies_true, not_true_eq_false, not_false_eq_true, true_and, and_true, false_and, and_false, ↓reduceIte, Int.reduceToNat, Int.reduceNeg, Int.toNat_natCast]
      rcases (show a = 0 ∨ a = 1 ∨ a = 2 by omega) with z | z | z
      · subst z
        have hb := q0 rfl
        have hold' : M2 51 0 0 = zI (o 0) := hold
        simp (disch := omega) only [jup_self, jup_ne, z_add, z_sub, z_mul, z_neg, z_leT, z_leF, z_ltT, z_ltF, z_eqT, z_eqF, z_inT, z_clamp, z_nI, z_0, z_1, z_2, z_3, z_4, z_5, z_6, z_7, z_8, z_9, z_10, z_11, z_12, z_13, z_14, z_15, z_16, z_17, z_18, z_19, z_20, z_21, z_22, z_23, z_24, z_25, z_26, z_27, z_28, z_29, z_30, z_31, z_32, z_33, z_34, z_35, z_36, z_37, z_38, z_39, z_40, z_41, z_42, z_43, z_44, z_45, z_46, z_47, z_48, z_49, z_50, z_51, z_52, z_53, z_54, z_55, z_56, z_57, z_58, z_59, z_60, z_61, z_77, z_91, z_93, z_97, z_100, z_101, z_102, z_103, z_105, z_111, z_114, z_120, z_123, z_125, z_126, z_200, z_245, z_255, z_576, z_585, z_1000, z_2000, z_3510, z_11700, true_implies, false_implies, implies_true, not_true_eq_false, not_false_eq_true, true_and, and_true, false_and, and_false, ↓reduceIte, Int.reduceToNat, Int.reduceNeg, Int.toNat_natCast, hold']
        rintro M4 rfl
        exact fin
      · subst z
        have hb := q1 rfl
        have hold' : M2 51 0 1 = zI (o 1) := hold
        simp (disch := omega) only [jup_self, jup_ne, z_add, z_sub, z_mul, z_neg, z_leT, z_leF, z_ltT, z_ltF, z_eqT, z_eqF, z_inT, z_clamp, z_nI, z_0, z_1, z_2, z_3, z_4, z_5, z_6, z_7, z_8, z_9, z_10, z_11, z_12, z_13, z_14, z_15, z_16, z_17, z_18, z_19, z_20, z_21, z_22, z_23, z_24, z_25, z_26, z_27, z_28, z_29, z_30, z_31, z_32, z_33, z_34, z_35, z_36, z_37, z_38, z_39, z_40, z_41, z_42, z_43, z_44, z_45, z_46, z_47, z_48, z_49, z_50, z_51, z_52, z_53, z_54, z_55, z_56, z_57, z_58, z_59, z_60, z_61, z_77, z_91, z_93, z_97, z_100, z_101, z_102, z_103, z_105, z_111, z_114, z_120, z_123, z_125, z_126, z_200, z_245, z_255, z_576, z_585, z_1000, z_2000, z_3510, z_11700, true_implies, false_implies, implies_true, not_true_eq_false, not_false_eq_true, true_and, and_true, false_and, and_false, ↓reduceIte, Int.reduceToNat, Int.reduceNeg, Int.toNat_natCast, hold']
        rintro M4 rfl
        exact fin
      · subst z
        have hold' : M2 51 0 2 = zI (o 2) := hold
        simp (disch := omega) only [jup_self, jup_ne, z_add, z_sub, z_mul, z_neg, z_leT, z_leF, z_ltT, z_ltF, z_eqT, z_eqF, z_inT, z_clamp, z_nI, z_0, z_1, z_2, z_3, z_4, z_5, z_6, z_7, z_8, z_9, z_10, z_11, z_12, z_13, z_14, z_15, z_16, z_17, z_18, z_19, z_20, z_21, z_22, z_23, z_24, z_25, z_26, z_27, z_28, z_29, z_30, z_31, z_32, z_33, z_34, z_35, z_36, z_37, z_38, z_39, z_40, z_41, z_42, z_43, z_44, z_45, z_46, z_47, z_48, z_49, z_50, z_51, z_52, z_53, z_54, z_55, z_56, z_57, z_58, z_59, z_60, z_61, z_77, z_91, z_93, z_97, z_100, z_101, z_102, z_103, z_105, z_111, z_114, z_120, z_123, z_125, z_126, z_200, z_245, z_255, z_576, z_585, z_1000, z_2000, z_3510, z_11700, true_implies, false_implies, implies_true, not_true_eq_false, not_false_eq_true, true_and, and_true, false_and, and_false, ↓reduceIte, Int.reduceToNat, Int.reduceNeg, Int.toNat_natCast, hold']
        rintro M4 rfl
        exact fin
  refine wr_setOption (en_X11_setOption (bl_X11_setOption_0 _ _ _ _ _ ?_))
  have rep : ∀ {Q' : Int32 → Nat → jM → Prop}, (0 ≤ a ∧ a ≤ 2) → Q' 0 0 (jup (jup M 40 0 a.toNat (zI b)) 6 0 3 (zI (ver + 1))) → ok_X6_replaceOption 0 (zI a) (zI b) M Q' := fun {Q'} qa hQ' => by
    refine en_X6_replaceOption (bl_X6_replaceOption_0 _ _ _ _ _ (by omega) ?_)
    have e63 := hCI.1
    rw [z_0] at hQ'
    simp (disch := omega) only [z_add, z_sub, z_mul, z_neg, z_leT, z_leF, z_ltT, z_ltF, z_eqT, z_eqF, z_inT, z_clamp, z_nI, z_0, z_1, z_2, z_3, z_4, z_5, z_6, z_7, z_8, z_9, z_10, z_11, z_12, z_13, z_14, z_15, z_16, z_17, z_18, z_19, z_20, z_21, z_22, z_23, z_24, z_25, z_26, z_27, z_28, z_29, z_30, z_31, z_32, z_33, z_34, z_35, z_36, z_37, z_38, z_39, z_40, z_41, z_42, z_43, z_44, z_45, z_46, z_47, z_48, z_49, z_50, z_51, z_52, z_53, z_54, z_55, z_56, z_57, z_58, z_59, z_60, z_61, z_77, z_91, z_93, z_97, z_100, z_101, z_102, z_103, z_105, z_111, z_114, z_120, z_123, z_125, z_126, z_200, z_245, z_255, z_576, z_585, z_1000, z_2000, z_3510, z_11700, true_implies, false_implies, implies_true, not_true_eq_false, not_false_eq_true, true_and, and_true, false_and, and_false, ↓reduceIte, Int.reduceToNat, Int.reduceNeg, Int.toNat_natCast]
    rintro M1 rfl
    simp (disch := omega) only [jup_self, jup_ne, z_add, z_sub, z_mul, z_neg, z_leT, z_leF, z_ltT, z_ltF, z_eqT, z_eqF, z_inT, z_clamp, z_nI, z_0, z_1, z_2, z_3, z_4, z_5, z_6, z_7, z_8, z_9, z_10, z_11, z_12, z_13, z_14, z_15, z_16, z_17, z_18, z_19, z_20, z_21, z_22, z_23, z_24, z_25, z_26, z_27, z_28, z_29, z_30, z_31, z_32, z_33, z_34, z_35, z_36, z_37, z_38, z_39, z_40, z_41, z_42, z_43, z_44, z_45, z_46, z_47, z_48, z_49, z_50, z_51, z_52, z_53, z_54, z_55, z_56, z_57, z_58, z_59, z_60, z_61, z_77, z_91, z_93, z_97, z_100, z_101, z_102, z_103, z_105, z_111, z_114, z_120, z_123, z_125, z_126, z_200, z_245, z_255, z_576, z_585, z_1000, z_2000, z_3510, z_11700, true_implies, false_implies, implies_true, not_true_eq_false, not_false_eq_true, true_and, and_true, false_and, and_false, ↓reduceIte, Int.reduceToNat, Int.reduceNeg, Int.toNat_natCast, e63]
    rintro M2 rfl
    exact hQ'
  have nb1 : jnb (jup (jup M 40 0 a.toNat (zI b)) 6 0 3 (zI (ver + 1))) = jnb M := by rw [jnb_up (by decide), jnb_up (by decide)]
  by_cases qa : 0 ≤ a ∧ a ≤ 2
  · have oldv : jup (jup M 40 0 a.toNat (zI b)) 6 0 3 (zI (ver + 1)) 40 0 a.toNat = zI b := by rw [jup_R (by decide), jup_self]
    have hold : M 40 0 a.toNat = zI (o a) := by
      rcases (show a = 0 ∨ a = 1 ∨ a = 2 by omega) with z | z | z
      · rw [z]; exact hPR.2.1.1
      · rw [z]; exact hPR.2.1.2.1
      · rw [z]; exact hPR.2.1.2.2
    rcases (show a = 0 ∨ a = 1 ∨ a = 2 by omega) with z | z | z
    · subst z
      have hold' : M 40 0 0 = zI (o 0) := hold
      by_cases qb : 0 ≤ b ∧ b ≤ 20
      · simp (disch := omega) only [z_add, z_sub, z_mul, z_neg, z_leT, z_leF, z_ltT, z_ltF, z_eqT, z_eqF, z_inT, z_clamp, z_nI, z_0, z_1, z_2, z_3, z_4, z_5, z_6, z_7, z_8, z_9, z_10, z_11, z_12, z_13, z_14, z_15, z_16, z_17, z_18, z_19, z_20, z_21, z_22, z_23, z_24, z_25, z_26, z_27, z_28, z_29, z_30, z_31, z_32, z_33, z_34, z_35, z_36, z_37, z_38, z_39, z_40, z_41, z_42, z_43, z_44, z_45, z_46, z_47, z_48, z_49, z_50, z_51, z_52, z_53, z_54, z_55, z_56, z_57, z_58, z_59, z_60, z_61, z_77, z_91, z_93, z_97, z_100, z_101, z_102, z_103, z_105, z_111, z_114, z_120, z_123, z_125, z_126, z_200, z_245, z_255, z_576, z_585, z_1000, z_2000, z_3510, z_11700, true_implies, false_implies, implies_true, not_true_eq_false, not_false_eq_true, true_and, and_true, false_and, and_false, ↓reduceIte, Int.reduceToNat, Int.reduceNeg, Int.toNat_natCast, hold']
        refine rep qa ⟨nb1, nb1, ?_⟩
        exact hq _ _ (key _ _ (Or.inr ⟨qa, fun _ => qb, fun z => by omega, rfl, rfl⟩))
      · have f3 := hq _ _ (key M _ (Or.inl ⟨fr_rf _ _, hCI, Or.inr ⟨qa, Or.inl ⟨rfl, qb⟩, rfl⟩⟩))
        by_cases q4 : b < 0
        · simp (disch := omega) only [z_add, z_sub, z_mul, z_neg, z_leT, z_leF, z_ltT, z_ltF, z_eqT, z_eqF, z_inT, z_clamp, z_nI, z_0, z_1, z_2, z_3, z_4, z_5, z_6, z_7, z_8, z_9, z_10, z_11, z_12, z_13, z_14, z_15, z_16, z_17, z_18, z_19, z_20, z_21, z_22, z_23, z_24, z_25, z_26, z_27, z_28, z_29, z_30, z_31, z_32, z_33, z_34, z_35, z_36, z_37, z_38, z_39, z_40, z_41, z_42, z_43, z_44, z_45, z_46, z_47, z_48, z_49, z_50, z_51, z_52, z_53, z_54, z_55, z_56, z_57, z_58, z_59, z_60, z_61, z_77, z_91, z_93, z_97, z_100, z_101, z_102, z_103, z_105, z_111, z_114, z_120, z_123, z_125, z_126, z_200, z_245, z_255, z_576, z_585, z_1000, z_2000, z_3510, z_11700, true_implies, false_implies, implies_true, not_true_eq_false, not_false_eq_true, true_and, and_true, false_and, and_false, ↓reduceIte, Int.reduceToNat, Int.reduceNeg, Int.toNat_natCast, hold']
          first | exact Or.inl f3 | exact Or.inr f3
        · simp (disch := omega) only [z_add, z_sub, z_mul, z_neg, z_leT, z_leF, z_ltT, z_ltF, z_eqT, z_eqF, z_inT, z_clamp, z_nI, z_0, z_1, z_2, z_3, z_4, z_5, z_6, z_7, z_8, z_9, z_10, z_11, z_12, z_13, z_14, z_15, z_16, z_17, z_18, z_19, z_20, z_21, z_22, z_23, z_24, z_25, z_26, z_27, z_28, z_29, z_30, z_31, z_32, z_33, z_34, z_35, z_36, z_37, z_38, z_39, z_40, z_41, z_42, z_43, z_44, z_45, z_46, z_47, z_48, z_49, z_50, z_51, z_52, z_53, z_54, z_55, z_56, z_57, z_58, z_59, z_60, z_61, z_77, z_91, z_93, z_97, z_100, z_101, z_102, z_103, z_105, z_111, z_114, z_120, z_123, z_125, z_126, z_200, z_245, z_255, z_576, z_585, z_1000, z_2000, z_3510, z_11700, true_implies, false_implies, implies_true, not_true_eq_false, not_false_eq_true, true_and, and_true, false_and, and_false, ↓reduceIte, Int.reduceToNat, Int.reduceNeg, Int.toNat_natCast, hold']
          first | exact Or.inl f3 | exact Or.inr f3
    · subst z
      have hold' : M 40 0 1 = zI (o 1) := hold
      by_cases qb : 0 ≤ b ∧ b ≤ 9
      · simp (disch := omega) only [z_add, z_sub, z_mul, z_neg, z_leT, z_leF, z_ltT, z_ltF, z_eqT, z_eqF, z_inT, z_clamp, z_nI, z_0, z_1, z_2, z_3, z_4, z_5, z_6, z_7, z_8, z_9, z_10, z_11, z_12, z_13, z_14, z_15, z_16, z_17, z_18, z_19, z_20, z_21, z_22, z_23, z_24, z_25, z_26, z_27, z_28, z_29, z_30, z_31, z_32, z_33, z_34, z_35, z_36, z_37, z_38, z_39, z_40, z_41, z_42, z_43, z_44, z_45, z_46, z_47, z_48, z_49, z_50, z_51, z_52, z_53, z_54, z_55, z_56, z_57, z_58, z_59, z_60, z_61, z_77, z_91, z_93, z_97, z_100, z_101, z_102, z_103, z_105, z_111, z_114, z_120, z_123, z_125, z_126, z_200, z_245, z_255, z_576, z_585, z_1000, z_2000, z_3510, z_11700, true_implies, false_implies, implies_true, not_true_eq_false, not_false_eq_true, true_and, and_true, false_and, and_false, ↓reduceIte, Int.reduceToNat, Int.reduceNeg, Int.toNat_natCast, hold']
        refine rep qa ⟨nb1, nb1, ?_⟩
        exact hq _ _ (key _ _ (Or.inr ⟨qa, fun z => by omega, fun _ => qb, rfl, rfl⟩))
      · have f3 := hq _ _ (key M _ (Or.inl ⟨fr_rf _ _, hCI, Or.inr ⟨qa, Or.inr ⟨rfl, qb⟩, rfl⟩⟩))
        by_cases q4 : b < 0
        · simp (disch := omega) only [z_add, z_sub, z_mul, z_neg, z_leT, z_leF, z_ltT, z_ltF, z_eqT, z_eqF, z_inT, z_clamp, z_nI, z_0, z_1, z_2, z_3, z_4, z_5, z_6, z_7, z_8, z_9, z_10, z_11, z_12, z_13, z_14, z_15, z_16, z_17, z_18, z_19, z_20, z_21, z_22, z_23, z_24, z_25, z_26, z_27, z_28, z_29, z_30, z_31, z_32, z_33, z_34, z_35, z_36, z_37, z_38, z_39, z_40, z_41, z_42, z_43, z_44, z_45, z_46, z_47, z_48, z_49, z_50, z_51, z_52, z_53, z_54, z_55, z_56, z_57, z_58, z_59, z_60, z_61, z_77, z_91, z_93, z_97, z_100, z_101, z_102, z_103, z_105, z_111, z_114, z_120, z_123, z_125, z_126, z_200, z_245, z_255, z_576, z_585, z_1000, z_2000, z_3510, z_11700, true_implies, false_implies, implies_true, not_true_eq_false, not_false_eq_true, true_and, and_true, false_and, and_false, ↓reduceIte, Int.reduceToNat, Int.reduceNeg, Int.toNat_natCast, hold']
          first | exact Or.inl f3 | exact Or.inr f3
        · simp (disch := omega) only [z_add, z_sub, z_mul, z_neg, z_leT, z_leF, z_ltT, z_ltF, z_eqT, z_eqF, z_inT, z_clamp, z_nI, z_0, z_1, z_2, z_3, z_4, z_5, z_6, z_7, z_8, z_9, z_10, z_11, z_12, z_13, z_14, z_15, z_16, z_17, z_18, z_19, z_20, z_21, z_22, z_23, z_24, z_25, z_26, z_27, z_28, z_29, z_30, z_31, z_32, z_33, z_34, z_35, z_36, z_37, z_38, z_39, z_40, z_41, z_42, z_43, z_44, z_45, z_46, z_47, z_48, z_49, z_50, z_51, z_52, z_53, z_54, z_55, z_56, z_57, z_58, z_59, z_60, z_61, z_77, z_91, z_93, z_97, z_100, z_101, z_102, z_103, z_105, z_111, z_114, z_120, z_123, z_125, z_126, z_200, z_245, z_255, z_576, z_585, z_1000, z_2000, z_3510, z_11700, true_implies, false_implies, implies_true, not_true_eq_false, not_false_eq_true, true_and, and_true, false_and, and_false, ↓reduceIte, Int.reduceToNat, Int.reduceNeg, Int.toNat_natCast, hold']
          first | exact Or.inl f3 | exact Or.inr f3
    · subst z
      have hold' : M 40 0 2 = zI (o 2) := hold
      simp (disch := omega) only [z_add, z_sub, z_mul, z_neg, z_leT, z_leF, z_ltT, z_ltF, z_eqT, z_eqF, z_inT, z_clamp, z_nI, z_0, z_1, z_2, z_3, z_4, z_5, z_6, z_7, z_8, z_9, z_10, z_11, z_12, z_13, z_14, z_15, z_16, z_17, z_18, z_19, z_20, z_21, z_22, z_23, z_24, z_25, z_26, z_27, z_28, z_29, z_30, z_31, z_32, z_33, z_34, z_35, z_36, z_37, z_38, z_39, z_40, z_41, z_42, z_43, z_44, z_45, z_46, z_47, z_48, z_49, z_50, z_51, z_52, z_53, z_54, z_55, z_56, z_57, z_58, z_59, z_60, z_61, z_77, z_91, z_93, z_97, z_100, z_101, z_102, z_103, z_105, z_111, z_114, z_120, z_123, z_125, z_126, z_200, z_245, z_255, z_576, z_585, z_1000, z_2000, z_3510, z_11700, true_implies, false_implies, implies_true, not_true_eq_false, not_false_eq_true, true_and, and_true, false_and, and_false, ↓reduceIte, Int.reduceToNat, Int.reduceNeg, Int.toNat_natCast, hold']
      refine rep qa ⟨nb1, nb1, ?_⟩
      exact hq _ _ (key _ _ (Or.inr ⟨qa, fun z => by omega, fun z => by omega, rfl, rfl⟩))
  · have f3 := hq _ _ (key M _ (Or.inl ⟨fr_rf _ _, hCI, Or.inl ⟨qa, rfl⟩⟩))
    by_cases q4 : a < 0
    · simp (disch := omega) only [z_add, z_sub, z_mul, z_neg, z_leT, z_leF, z_ltT, z_ltF, z_eqT, z_eqF, z_inT, z_clamp, z_nI, z_0, z_1, z_2, z_3, z_4, z_5, z_6, z_7, z_8, z_9, z_10, z_11, z_12, z_13, z_14, z_15, z_16, z_17, z_18, z_19, z_20, z_21, z_22, z_23, z_24, z_25, z_26, z_27, z_28, z_29, z_30, z_31, z_32, z_33, z_34, z_35, z_36, z_37, z_38, z_39, z_40, z_41, z_42, z_43, z_44, z_45, z_46, z_47, z_48, z_49, z_50, z_51, z_52, z_53, z_54, z_55, z_56, z_57, z_58, z_59, z_60, z_61, z_77, z_91, z_93, z_97, z_100, z_101, z_102, z_103, z_105, z_111, z_114, z_120, z_123, z_125, z_126, z_200, z_245, z_255, z_576, z_585, z_1000, z_2000, z_3510, z_11700, true_implies, false_implies, implies_true, not_true_eq_false, not_false_eq_true, true_and, and_true, false_and, and_false, ↓reduceIte, Int.reduceToNat, Int.reduceNeg, Int.toNat_natCast]
      first | exact Or.inl f3 | exact Or.inr f3
    · simp (disch := omega) only [z_add, z_sub, z_mul, z_neg, z_leT, z_leF, z_ltT, z_ltF, z_eqT, z_eqF, z_inT, z_clamp, z_nI, z_0, z_1, z_2, z_3, z_4, z_5, z_6, z_7, z_8, z_9, z_10, z_11, z_12, z_13, z_14, z_15, z_16, z_17, z_18, z_19, z_20, z_21, z_22, z_23, z_24, z_25, z_26, z_27, z_28, z_29, z_30, z_31, z_32, z_33, z_34, z_35, z_36, z_37, z_38, z_39, z_40, z_41, z_42, z_43, z_44, z_45, z_46, z_47, z_48, z_49, z_50, z_51, z_52, z_53, z_54, z_55, z_56, z_57, z_58, z_59, z_60, z_61, z_77, z_91, z_93, z_97, z_100, z_101, z_102, z_103, z_105, z_111, z_114, z_120, z_123, z_125, z_126, z_200, z_245, z_255, z_576, z_585, z_1000, z_2000, z_3510, z_11700, true_implies, false_implies, implies_true, not_true_eq_false, not_false_eq_true, true_and, and_true, false_and, and_false, ↓reduceIte, Int.reduceToNat, Int.reduceNeg, Int.toNat_natCast]
      first | exact Or.inl f3 | exact Or.inr f3
