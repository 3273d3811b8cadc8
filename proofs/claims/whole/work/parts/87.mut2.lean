def upB (v : Int → Int) (x y z : Int) : Int → Int := fun j => if j = 0 then x else if j = 1 then y else if j = 2 then z else v j
theorem upB_0 {v : Int → Int} {x y z : Int} : upB v x y z 0 = x := rfl
theorem upB_1 {v : Int → Int} {x y z : Int} : upB v x y z 1 = y := rfl
theorem upB_2 {v : Int → Int} {x y z : Int} : upB v x y z 2 = z := rfl
theorem upB_n {v : Int → Int} {x y z j : Int} (h : 3 ≤ j) : upB v x y z j = v j := by
  unfold upB
  rw [if_neg (by omega), if_neg (by omega), if_neg (by omega)]
theorem hgN_cg {v v' : Int → Int} (h : ∀ j, 3 ≤ j → v' j = v j) {s k : Int} (hs : 0 ≤ s) : hgN v' s k = hgN v s k := by
  unfold hgN
  exact ni_congr (fun j x j0 j1 => by rw [h _ (by omega)])
theorem cnN_cg {v v' : Int → Int} (h : ∀ j, 3 ≤ j → v' j = v j) {s q k : Int} (hs : 0 ≤ s) : cnN v' s q k = cnN v s q k := by
  unfold cnN
  exact ni_congr (fun j x j0 j1 => by rw [h _ (by omega)])
theorem OKb_cg {v v' : Int → Int} (h : ∀ j, 3 ≤ j → v' j = v j) (hO : OKb v) : OKb v' := by
  obtain ⟨a1, a2, a3, rs, a4, a5, a6⟩ := hO
  have e3 := h 3 (by omega)
  have e4 := h 4 (by omega)
  refine ⟨by rw [e3, e4]; exact a1, fun r r0 r1 => ?_, fun s s0 s1 => ?_, rs, fun s s0 s1 => ?_, fun s s0 s1 => a5 s s0 (by rw [← e3]; exact s1), fun r r0 r1 r2 => ?_⟩
  · rw [e4] at r1
    rw [h _ (by omega), h _ (by omega), h _ (by omega), h _ (by omega), e3]
    exact a2 r r0 r1
  · rw [e3] at s1
    obtain ⟨b1, b2, b3⟩ := a3 s s0 s1
    rw [h _ (by omega), hgN_cg h s0]
    refine ⟨b1, b2, fun k k0 k1 => ?_⟩
    rw [h _ (by omega), e4]
    exact b3 k k0 k1
  · rw [e3] at s1
    obtain ⟨b1, b2, b3, b4⟩ := a4 s s0 s1
    rw [e4, h (53 + rs s) (by omega), h (77 + rs s) (by omega)]
    exact ⟨b1, b2, b3, b4⟩
  · rw [e4] at r1
    rw [h _ (by omega)] at r2
    rw [h _ (by omega)]
    exact a6 r r0 r1 r2
theorem plc_cg {v v' : Int → Int} (h : ∀ j, 3 ≤ j → v' j = v j) {r : Int} (hr : 0 ≤ r) : plc v' r = plc v r := by
  unfold plc
  rw [h _ (by omega), h _ (by omega)]
theorem BR_cg {v v' : Int → Int} {M : jM} {b : Nat} (h : ∀ j, 3 ≤ j → v' j = v j) (hB : BR M b v) : BR M b v' := by
  have e3 := h 3 (by omega)
  have e4 := h 4 (by omega)
  obtain ⟨a1, a2, a3⟩ := hB
  refine ⟨by rw [e3, e4]; exact a1, fun r r0 r1 => ?_, fun s s0 s1 => ?_⟩
  · rw [e4] at r1
    rw [plc_cg h r0, h _ (by omega), h _ (by omega)]
    exact a2 r r0 r1
  · rw [e3] at s1
    obtain ⟨f, g, r, d1, d2, d3, d4, d5, d6⟩ := a3 s s0 s1
    refine ⟨f, g, r, ?_, ?_, ?_, ?_, fun q q0 q1 => ?_, fun k k0 k1 => ?_⟩
    · rw [h _ (by omega)]; exact d1
    · rw [e4, h _ (by omega), h _ (by omega)]; exact d2
    · rw [h _ (by omega), hgN_cg h s0]; exact d3
    · rw [h _ (by omega), plc_cg h d2.1]; exact d4
    · rw [h _ (by omega), cnN_cg h s0]; exact d5 q q0 q1
    · rw [h _ (by omega)] at k1
      rw [h _ (by omega)]
      have := d6 k k0 k1
      unfold tkR at *
      rw [e4]
      rcases this with z | z | z | z
      · exact Or.inl z
      · exact Or.inr (Or.inl z)
      · exact Or.inr (Or.inr (Or.inl z))
      · refine Or.inr (Or.inr (Or.inr ⟨z.1, z.2.1, z.2.2.1, ?_⟩))
        rw [plc_cg h (by omega)]
        exact z.2.2.2
/-- a loop's bounds and barrier are new -/
theorem upd_ok {M M5 : jM} {k : Nat} {n : Int} {w : Int → Int → Int} {o : Int → Int} {ver a x y z : Int} (hR : RLz M k n w o ver) (ha : 0 ≤ a ∧ a < n) (hx : 0 ≤ x ∧ x ≤ y ∧ y ≤ 30 ∧ (z = 0 ∨ z = 1))
    (e : ∀ R, R ∉ [3, 6, 11, 50, 61] → M5 R = M R) (e3 : ∀ i f, ¬ (i = 6 * 0 + a.toNat ∧ 1 ≤ f ∧ f ≤ 3) → M5 3 i f = M 3 i f) (n1 : M5 3 (6 * 0 + a.toNat) 1 = zI x) (n2 : M5 3 (6 * 0 + a.toNat) 2 = zI y) (n3 : M5 3 (6 * 0 + a.toNat) 3 = zI z)
    (e6 : ∀ i f, ¬ (i = 0 ∧ f = 3) → M5 6 i f = M 6 i f) (e63 : M5 6 0 3 = zI (ver + 1)) (e11 : ∀ f, f ≠ 7 → M5 11 0 f = M 11 0 f) (e50 : ∀ l j, 0 ≤ l → l < n → 0 ≤ j → j < 585 → M5 50 0 (585 * l + j).toNat = zI (if l = a then upB (w a) x y z j else w l j)) :
    RLz M5 (k + 1) n (fun l => if l = a then upB (w a) x y z else w l) o (ver + 1) := by
  obtain ⟨⟨hn, hO, hW⟩, hPR, hMR, hCI, hv10, hS1, hS2, hS3, hS4, hS5, hS6, hS7⟩ := hR
  have hnb : jnb M5 = jnb M := by unfold jnb; rw [e 99 (by decide)]
  have hcg : ∀ j, 3 ≤ j → upB (w a) x y z j = w a j := fun j hj => upB_n hj
  refine ⟨⟨hn, hO, fun l l0 l1 => ?_⟩, ⟨?_, ?_, fun l l0 l1 => ?_⟩, ⟨?_, ?_, fun l j l0 l1 j0 j1 => ?_⟩, ?_, by omega, ?_, ?_, ?_, ?_, ?_, ?_, ?_⟩
  · show OKL (if l = a then upB (w a) x y z else w l)
    by_cases q : l = a
    · rw [if_pos q]
      exact ⟨hx, OKb_cg hcg (hW a ha.1 ha.2).2⟩
    · rw [if_neg q]; exact hW l l0 l1
  · rw [e6 _ _ (by omega)]; exact hPR.1
  · rw [e 40 (by decide)]; exact hPR.2.1
  · have := hPR.2.2 l l0 l1
    show LR M5 (6 * 0 + l.toNat) (if l = a then upB (w a) x y z else w l)
    by_cases q : l = a
    · rw [if_pos q, q]
      rw [q] at this
      obtain ⟨_, b, hb, c0, hB⟩ := this
      refine ⟨⟨n1, n2, n3⟩, b, by rw [hnb]; exact hb, by rw [e3 _ _ (by omega)]; exact c0, BR_cg hcg ?_⟩
      unfold BR BRs at *
      rw [e 0 (by decide), e 7 (by decide), e 20 (by decide), e 21 (by decide), e 22 (by decide), e 24 (by decide), e 25 (by decide), e 26 (by decide)]
      exact hB
    · rw [if_neg q]
      unfold LR BR BRs at *
      rw [e3 _ _ (by omega), e3 _ _ (by omega), e3 _ _ (by omega), e3 _ _ (by omega), e 0 (by decide), e 7 (by decide), e 20 (by decide), e 21 (by decide), e 22 (by decide), e 24 (by decide), e 25 (by decide), e 26 (by decide), hnb]
      exact this
  · rw [e11 _ (by decide)]; exact hMR.1
  · rw [e 51 (by decide)]; exact hMR.2.1
  · show M5 50 0 (585 * l + j).toNat = zI ((if l = a then upB (w a) x y z else w l) j)
    rw [e50 l j l0 l1 j0 j1]
    by_cases q : l = a
    · rw [if_pos q, if_pos q]
    · rw [if_neg q, if_neg q]
  · exact CI_new hCI (by omega) e63 (by rw [e 1 (by decide)]) (e 5 (by decide))
  · refine SN_pt hS1 (by rw [e 10 (by decide)]) (e11 6 (by decide)) (e11 3 (by decide)) (e 52 (by decide)) (e 53 (by decide)) (fun n' w' o' hG' hP' => ?_)
    have hn' := hG'.1
    exact PR_pt hP' (fun l l0 l1 => by funext f; exact e3 _ _ (by omega)) (e6 _ _ (by omega)) (by rw [e 40 (by decide)]) (e 0 (by decide)) (e 7 (by decide)) (e 20 (by decide)) (e 21 (by decide)) (e 22 (by decide)) (e 24 (by decide)) (e 25 (by decide)) (e 26 (by decide)) hnb
  · exact TX_eq hS2 (by rw [e 8 (by decide)]) (e11 8 (by decide)) (e 41 (by decide)) (e 54 (by decide))
  · intro j
    rw [e 41 (by decide)]
    exact hS3 j
  · rw [e 8 (by decide), e11 10 (by decide)]; exact hS4
  · obtain ⟨fa, f1, f2⟩ := hS5
    exact ⟨fa, f1, by rw [e11 28 (by decide)]; exact f2⟩
  · rw [hnb]; omega
  · intro i hi
    by_cases q : i = 6 * 0 + a.toNat
    · rw [q, n3]
      rcases hx.2.2.2 with h | h
      · exact Or.inl (by rw [h])
      · exact Or.inr ⟨by omega, by rw [h]⟩
    · rw [e3 _ _ (by omega)]; exact hS7 i hi
set_option maxHeartbeats 4000000 in
set_option maxRecDepth 100000 in
theorem op_setBound {M : jM} {k : Nat} {n : Int} {w : Int → Int → Int} {o : Int → Int} {ver : Int} {a b c : Int32} {P : jM → Int32 → Int32 → Prop} {Q : Int32 → Nat → jM → Prop} (hR : RLz M k n w o ver) (hk : k ≤ 2000) (hP : ∀ M5 r1 r4, Rz M5 (k + 1) → M5 11 0 7 = r1 → (r1 = 0 → M5 61 0 0 = r4) → P M5 r1 r4) (hq : ∀ r1 M2, ok_X12_setBound a b c M2 (fun r4 _ M5 => P M5 r1 r4) → Q r1 0 M2) : ok_L_setBound a b c M Q := by
  obtain ⟨hnb, hv⟩ := RLz_n hR hk
  have hG := hR.1
  have hPR := hR.2.1
  have hCI := hR.2.2.2.1
  have hn := hG.1
  have h6 := hPR.1
  obtain ⟨a, a1, a2, rfl⟩ := zI_of a
  obtain ⟨b, b1, b2, rfl⟩ := zI_of b
  obtain ⟨c, c1, c2, rfl⟩ := zI_of c
  have hP0 := fun M5 r1 r4 (h : RLz M5 (k + 1) n w o ver) => hP M5 r1 r4 ⟨n, w, o, ver, h⟩
  have key : ∀ (M2 : jM) (r1 : Int32), ((fr SO M M2 ∧ CI M2 n w o ver ∧ ((¬ (0 ≤ a ∧ a < n) ∧ r1 = zI 1) ∨ ((0 ≤ a ∧ a < n) ∧ ¬ ((b = 0 ∧ 0 ≤ c ∧ c ≤ w a 1) ∨ (b = 1 ∧ w a 0 ≤ c ∧ c ≤ 30)) ∧ r1 = zI 2))) ∨ ((0 ≤ a ∧ a < n) ∧ ((b = 0 ∧ 0 ≤ c ∧ c ≤ w a 1) ∨ (b = 1 ∧ w a 0 ≤ c ∧ c ≤ 30)) ∧ r1 = zI 0 ∧ M2 = jup (jup (jup (jup M 3 (6 * 0 + a.toNat) 1 (zI (if b = 0 then c else w a 0))) 3 (6 * 0 + a.toNat) 2 (zI (if b = 0 then w a 1 else c))) 6 0 3 (zI (ver + 1))) 61 0 0 (zI (w a b)))) → ok_X12_setBound (zI a) (zI b) (zI c) M2 (fun r4 _ M5 => P M5 r1 r4) := by
    intro M2 r1 hr
    refine en_X12_setBound (bl_X12_setBound_0 _ _ _ _ _ ?_)
    rintro M3 rfl
    rcases hr with ⟨hf, hC, hr⟩ | ⟨q, q2, hr, hM2⟩
    · obtain ⟨hM2, hF2⟩ := RLz_m hR hf
      have e0 := hM2.1
      rcases hr with ⟨q, hr⟩ | ⟨q, q2, hr⟩
      · have fin := ro_thr hR hP0 hf hC (fm_7 (x := zI 0) (fm_rf _ _ _)) (FA_7 hF2) hr (by omega)
        by_cases q4 : a < 0
        · simp (disch := omega) only [jup_self, jup_ne, z_add, z_sub, z_mul, z_neg, z_leT, z_leF, z_ltT, z_ltF, z_eqT, z_eqF, z_inT, z_clamp, z_nI, z_0, z_1, z_2, z_3, z_4, z_5, z_6, z_7, z_8, z_9, z_10, z_11, z_12, z_13, z_14, z_15, z_16, z_17, z_18, z_19, z_20, z_21, z_22, z_23, z_24, z_25, z_26, z_27, z_28, z_29, z_30, z_31, z_32, z_33, z_34, z_35, z_36, z_37, z_38, z_39, z_40, z_41, z_42, z_43, z_44, z_45, z_46, z_47, z_48, z_49, z_50, z_51, z_52, z_53, z_54, z_55, z_56, z_57, z_58, z_59, z_60, z_61, z_77, z_91, z_93, z_97, z_100, z_101, z_102, z_103, z_105, z_111, z_114, z_120, z_123, z_125, z_126, z_200, z_245, z_255, z_576, z_585, z_1000, z_2000, z_3510, z_11700, true_implies, false_implies, implies_true, not_true_eq_false, not_false_eq_true, true_and, and_true, false_and, and_false, ↓reduceIte, Int.reduceToNat, Int.reduceNeg, Int.toNat_natCast, e0]
          rintro M4 rfl
          exact fin _
        · simp (disch := omega) only [jup_self, jup_ne, z_add, z_sub, z_mul, z_neg, z_leT, z_leF, z_ltT, z_ltF, z_eqT, z_eqF, z_inT, z_clamp, z_nI, z_0, z_1, z_2, z_3, z_4, z_5, z_6, z_7, z_8, z_9, z_10, z_11, z_12, z_13, z_14, z_15, z_16, z_17, z_18, z_19, z_20, z_21, z_22, z_23, z_24, z_25, z_26, z_27, z_28, z_29, z_30, z_31, z_32, z_33, z_34, z_35, z_36, z_37, z_38, z_39, z_40, z_41, z_42, z_43, z_44, z_45, z_46, z_47, z_48, z_49, z_50, z_51, z_52, z_53, z_54, z_55, z_56, z_57, z_58, z_59, z_60, z_61, z_77, z_91, z_93, z_97, z_100, z_101, z_102, z_103, z_105, z_111, z_114, z_120, z_123, z_125, z_126, z_200, z_245, z_255, z_576, z_585, z_1000, z_2000, z_3510, z_11700, true_implies, false_implies, implies_true, not_true_eq_false, not_false_eq_true, true_and, and_true, false_and, and_false, ↓reduceIte, Int.reduceToNat, Int.reduceNeg, Int.toNat_natCast, e0]
          rintro M4 rfl
          exact fin _
      · have fin := ro_thr hR hP0 hf hC (fm_7 (x := zI 0) (fm_rf _ _ _)) (FA_7 hF2) hr (by omega)
        have hRow : ∀ j, 0 ≤ j → j < 585 → M2 50 0 (585 * a + j).toNat = zI (w a j) := MR_RW hM2 q.1 q.2
        have r0 := hRow 0 (by omega) (by omega)
        have hw := (hG.2.2 a q.1 q.2).1
        by_cases q3 : b = 0
        · subst q3
          by_cases q4 : c < 0
          · simp (disch := omega) only [jup_self, jup_ne, z_add, z_sub, z_mul, z_neg, z_leT, z_leF, z_ltT, z_ltF, z_eqT, z_eqF, z_inT, z_clamp, z_nI, z_0, z_1, z_2, z_3, z_4, z_5, z_6, z_7, z_8, z_9, z_10, z_11, z_12, z_13, z_14, z_15, z_16, z_17, z_18, z_19, z_20, z_21, z_22, z_23, z_24, z_25, z_26, z_27, z_28, z_29, z_30, z_31, z_32, z_33, z_34, z_35, z_36, z_37, z_38, z_39, z_40, z_41, z_42, z_43, z_44, z_45, z_46, z_47, z_48, z_49, z_50, z_51, z_52, z_53, z_54, z_55, z_56, z_57, z_58, z_59, z_60, z_61, z_77, z_91, z_93, z_97, z_100, z_101, z_102, z_103, z_105, z_111, z_114, z_120, z_123, z_125, z_126, z_200, z_245, z_255, z_576, z_585, z_1000, z_2000, z_3510, z_11700, true_implies, false_implies, implies_true, not_true_eq_false, not_false_eq_true, true_and, and_true, false_and, and_false, ↓reduceIte, Int.reduceToNat, Int.reduceNeg, Int.toNat_natCast, e0, hRow]
            rintro M4 rfl
            exact fin _
          · simp (disch := omega) only [jup_self, jup_ne, z_add, z_sub, z_mul, z_neg, z_leT, z_leF, z_ltT, z_ltF, z_eqT, z_eqF, z_inT, z_clamp, z_nI, z_0, z_1, z_2, z_3, z_4, z_5, z_6, z_7, z_8, z_9, z_10, z_11, z_12, z_13, z_14, z_15, z_16, z_17, z_18, z_19, z_20, z_21, z_22, z_23, z_24, z_25, z_26, z_27, z_28, z_29, z_30, z_31, z_32, z_33, z_34, z_35, z_36, z_37, z_38, z_39, z_40, z_41, z_42, z_43, z_44, z_45, z_46, z_47, z_48, z_49, z_50, z_51, z_52, z_53, z_54, z_55, z_56, z_57, z_58, z_59, z_60, z_61, z_77, z_91, z_93, z_97, z_100, z_101, z_102, z_103, z_105, z_111, z_114, z_120, z_123, z_125, z_126, z_200, z_245, z_255, z_576, z_585, z_1000, z_2000, z_3510, z_11700, true_implies, false_implies, implies_true, not_true_eq_false, not_false_eq_true, true_and, and_true, false_and, and_false, ↓reduceIte, Int.reduceToNat, Int.reduceNeg, Int.toNat_natCast, e0, hRow]
            rintro M4 rfl
            exact fin _
        · by_cases q5 : b = 1
          · subst q5
            by_cases q4 : c < w a 0
            · simp (disch := omega) only [jup_self, jup_ne, z_add, z_sub, z_mul, z_neg, z_leT, z_leF, z_ltT, z_ltF, z_eqT, z_eqF, z_inT, z_clamp, z_nI, z_0, z_1, z_2, z_3, z_4, z_5, z_6, z_7, z_8, z_9, z_10, z_11, z_12, z_13, z_14, z_15, z_16, z_17, z_18, z_19, z_20, z_21, z_22, z_23, z_24, z_25, z_26, z_27, z_28, z_29, z_30, z_31, z_32, z_33, z_34, z_35, z_36, z_37, z_38, z_39, z_40, z_41, z_42, z_43, z_44, z_45, z_46, z_47, z_48, z_49, z_50, z_51, z_52, z_53, z_54, z_55, z_56, z_57, z_58, z_59, z_60, z_61, z_77, z_91, z_93, z_97, z_100, z_101, z_102, z_103, z_105, z_111, z_114, z_120, z_123, z_125, z_126, z_200, z_245, z_255, z_576, z_585, z_1000, z_2000, z_3510, z_11700, true_implies, false_implies, implies_true, not_true_eq_false, not_false_eq_true, true_and, and_true, false_and, and_false, ↓reduceIte, Int.reduceToNat, Int.reduceNeg, Int.toNat_natCast, e0, hRow]
              rintro M4 rfl
              exact fin _
            · simp (disch := omega) only [jup_self, jup_ne, z_add, z_sub, z_mul, z_neg, z_leT, z_leF, z_ltT, z_ltF, z_eqT, z_eqF, z_inT, z_clamp, z_nI, z_0, z_1, z_2, z_3, z_4, z_5, z_6, z_7, z_8, z_9, z_10, z_11, z_12, z_13, z_14, z_15, z_16, z_17, z_18, z_19, z_20, z_21, z_22, z_23, z_24, z_25, z_26, z_27, z_28, z_29, z_30, z_31, z_32, z_33, z_34, z_35, z_36, z_37, z_38, z_39, z_40, z_41, z_42, z_43, z_44, z_45, z_46, z_47, z_48, z_49, z_50, z_51, z_52, z_53, z_54, z_55, z_56, z_57, z_58, z_59, z_60, z_61, z_77, z_91, z_93, z_97, z_100, z_101, z_102, z_103, z_105, z_111, z_114, z_120, z_123, z_125, z_126, z_200, z_245, z_255, z_576, z_585, z_1000, z_2000, z_3510, z_11700, true_implies, false_implies, implies_true, not_true_eq_false, not_false_eq_true, true_and, and_true, false_and, and_false, ↓reduceIte, Int.reduceToNat, Int.reduceNeg, Int.toNat_natCast, e0, hRow]
              rintro M4 rfl
              exact fin _
          · simp (disch := omega) only [jup_self, jup_ne, z_add, z_sub, z_mul, z_neg, z_leT, z_leF, z_ltT, z_ltF, z_eqT, z_eqF, z_inT, z_clamp, z_nI, z_0, z_1, z_2, z_3, z_4, z_5, z_6, z_7, z_8, z_9, z_10, z_11, z_12, z_13, z_14, z_15, z_16, z_17, z_18, z_19, z_20, z_21, z_22, z_23, z_24, z_25, z_26, z_27, z_28, z_29, z_30, z_31, z_32, z_33, z_34, z_35, z_36, z_37, z_38, z_39, z_40, z_41, z_42, z_43, z_44, z_45, z_46, z_47, z_48, z_49, z_50, z_51, z_52, z_53, z_54, z_55, z_56, z_57, z_58, z_59, z_60, z_61, z_77, z_91, z_93, z_97, z_100, z_101, z_102, z_103, z_105, z_111, z_114, z_120, z_123, z_125, z_126, z_200, z_245, z_255, z_576, z_585, z_1000, z_2000, z_3510, z_11700, true_implies, false_implies, implies_true, not_true_eq_false, not_false_eq_true, true_and, and_true, false_and, and_false, ↓reduceIte, Int.reduceToNat, Int.reduceNeg, Int.toNat_natCast, e0, hRow]
            rintro M4 rfl
            exact fin _
    · have hMR := hR.2.2.1
      have e0 : M2 11 0 0 = zI n := by rw [hM2]; simp (disch := omega) only [jup_self, jup_ne, z_add, z_sub, z_mul, z_neg, z_leT, z_leF, z_ltT, z_ltF, z_eqT, z_eqF, z_inT, z_clamp, z_nI, z_0, z_1, z_2, z_3, z_4, z_5, z_6, z_7, z_8, z_9, z_10, z_11, z_12, z_13, z_14, z_15, z_16, z_17, z_18, z_19, z_20, z_21, z_22, z_23, z_24, z_25, z_26, z_27, z_28, z_29, z_30, z_31, z_32, z_33, z_34, z_35, z_36, z_37, z_38, z_39, z_40, z_41, z_42, z_43, z_44, z_45, z_46, z_47, z_48, z_49, z_50, z_51, z_52, z_53, z_54, z_55, z_56, z_57, z_58, z_59, z_60, z_61, z_77, z_91, z_93, z_97, z_100, z_101, z_102, z_103, z_105, z_111, z_114, z_120, z_123, z_125, z_126, z_200, z_245, z_255, z_576, z_585, z_1000, z_2000, z_3510, z_11700, true_implies, false_implies, implies_true, not_true_eq_false, not_false_eq_true, true_and, and_true, false_and, and_false, ↓reduceIte, Int.reduceToNat, Int.reduceNeg, Int.toNat_natCast, hMR.1]
      have hRow : ∀ j, 0 ≤ j → j < 585 → M2 50 0 (585 * a + j).toNat = zI (w a j) := fun j j0 j1 => by rw [hM2, jup_R (by decide), jup_R (by decide), jup_R (by decide), jup_R (by decide)]; exact hMR.2.2 a j q.1 q.2 j0 j1
      have hw := (hG.2.2 a q.1 q.2).1
      obtain ⟨⟨l1, l2, l3⟩, _⟩ := hPR.2.2 a q.1 q.2
      have fin : P (jup (jup M2 11 0 7 (zI 0)) 50 0 (585 * a + b).toNat (zI c)) r1 (zI (w a b)) := by
        subst hM2
        refine hP _ _ _ ⟨_, _, _, _, upd_ok (x := if b = 0 then c else w a 0) (y := if b = 0 then w a 1 else c) (z := w a 2) hR q (by rcases q2 with ⟨z, _⟩ | ⟨z, _⟩ <;> subst z <;> simp <;> omega) (fun R hR' => ?_) (fun i f hif => ?_) ?_ ?_ ?_ (fun i f hif => ?_) ?_ (fun f hf => ?_) (fun l j l0 l1 j0 j1 => ?_)⟩ ?_ (fun _ => ?_)
        · simp only [List.mem_cons, List.not_mem_nil, or_false, not_or] at hR'
          rw [jup_o hR'.2.2.2.1, jup_o hR'.2.2.1, jup_o hR'.2.2.2.2, jup_o hR'.2.1, jup_o hR'.1, jup_o hR'.1]
        · rw [jup_R (by decide), jup_R (by decide), jup_R (by decide), jup_R (by decide), jup_ne (by omega), jup_ne (by omega)]
        · simp (disch := omega) only [jup_self, jup_ne, z_add, z_sub, z_mul, z_neg, z_leT, z_leF, z_ltT, z_ltF, z_eqT, z_eqF, z_inT, z_clamp, z_nI, z_0, z_1, z_2, z_3, z_4, z_5, z_6, z_7, z_8, z_9, z_10, z_11, z_12, z_13, z_14, z_15, z_16, z_17, z_18, z_19, z_20, z_21, z_22, z_23, z_24, z_25, z_26, z_27, z_28, z_29, z_30, z_31, z_32, z_33, z_34, z_35, z_36, z_37, z_38, z_39, z_40, z_41, z_42, z_43, z_44, z_45, z_46, z_47, z_48, z_49, z_50, z_51, z_52, z_53, z_54, z_55, z_56, z_57, z_58, z_59, z_60, z_61, z_77, z_91, z_93, z_97, z_100, z_101, z_102, z_103, z_105, z_111, z_114, z_120, z_123, z_125, z_126, z_200, z_245, z_255, z_576, z_585, z_1000, z_2000, z_3510, z_11700, true_implies, false_implies, implies_true, not_true_eq_false, not_false_eq_true, true_and, and_true, false_and, and_false, ↓reduceIte, Int.reduceToNat, Int.reduceNeg, Int.toNat_natCast]
        · simp (disch := omega) only [jup_self, jup_ne, z_add, z_sub, z_mul, z_neg, z_leT, z_leF, z_ltT, z_ltF, z_eqT, z_eqF, z_inT, z_clamp, z_nI, z_0, z_1, z_2, z_3, z_4, z_5, z_6, z_7, z_8, z_9, z_10, z_11, z_12, z_13, z_14, z_15, z_16, z_17, z_18, z_19, z_20, z_21, z_22, z_23, z_24, z_25, z_26, z_27, z_28, z_29, z_30, z_31, z_32, z_33, z_34, z_35, z_36, z_37, z_38, z_39, z_40, z_41, z_42, z_43, z_44, z_45, z_46, z_47, z_48, z_49, z_50, z_51, z_52, z_53, z_54, z_55, z_56, z_57, z_58, z_59, z_60, z_61, z_77, z_91, z_93, z_97, z_100, z_101, z_102, z_103, z_105, z_111, z_114, z_120, z_123, z_125, z_126, z_200, z_245, z_255, z_576, z_585, z_1000, z_2000, z_3510, z_11700, true_implies, false_implies, implies_true, not_true_eq_false, not_false_eq_true, true_and, and_true, false_and, and_false, ↓reduceIte, Int.reduceToNat, Int.reduceNeg, Int.toNat_natCast]
        · simp (disch := omega) only [jup_self, jup_ne, z_add, z_sub, z_mul, z_neg, z_leT, z_leF, z_ltT, z_ltF, z_eqT, z_eqF, z_inT, z_clamp, z_nI, z_0, z_1, z_2, z_3, z_4, z_5, z_6, z_7, z_8, z_9, z_10, z_11, z_12, z_13, z_14, z_15, z_16, z_17, z_18, z_19, z_20, z_21, z_22, z_23, z_24, z_25, z_26, z_27, z_28, z_29, z_30, z_31, z_32, z_33, z_34, z_35, z_36, z_37, z_38, z_39, z_40, z_41, z_42, z_43, z_44, z_45, z_46, z_47, z_48, z_49, z_50, z_51, z_52, z_53, z_54, z_55, z_56, z_57, z_58, z_59, z_60, z_61, z_77, z_91, z_93, z_97, z_100, z_101, z_102, z_103, z_105, z_111, z_114, z_120, z_123, z_125, z_126, z_200, z_245, z_255, z_576, z_585, z_1000, z_2000, z_3510, z_11700, true_implies, false_implies, implies_true, not_true_eq_false, not_false_eq_true, true_and, and_true, false_and, and_false, ↓reduceIte, Int.reduceToNat, Int.reduceNeg, Int.toNat_natCast, l3]
        · rw [jup_R (by decide), jup_R (by decide), jup_R (by decide), jup_ne (by omega), jup_R (by decide), jup_R (by decide)]
        · rw [jup_R (by decide), jup_R (by decide), jup_R (by decide), jup_self]
        · rw [jup_R (by decide), jup_ne (by omega), jup_R (by decide), jup_R (by decide), jup_R (by decide), jup_R (by decide)]
        · by_cases z : l = a ∧ j = b
          · rw [z.1, z.2, jup_self, if_pos rfl]
            rcases q2 with ⟨z2, _⟩ | ⟨z2, _⟩
            · rw [z2, upB_0, if_pos rfl]
            · rw [z2, upB_1, if_neg (by omega)]
          · rw [jup_ne (by omega), jup_R (by decide), jup_R (by decide), jup_R (by decide), jup_R (by decide), jup_R (by decide), hMR.2.2 l j l0 l1 j0 j1]
            by_cases z3 : l = a
            · rw [if_pos z3, z3]
              refine zc ?_
              unfold upB
              by_cases y0 : j = 0
              · rw [if_pos y0, if_neg (by omega), y0]
              · rw [if_neg y0]
                by_cases y1 : j = 1
                · rw [if_pos y1, if_pos (by omega), y1]
                · rw [if_neg y1]
                  by_cases y2 : j = 2
                  · rw [if_pos y2, y2]
                  · rw [if_neg y2]
            · rw [if_neg z3]
        · rw [hr]; simp (disch := omega) only [jup_self, jup_ne, z_add, z_sub, z_mul, z_neg, z_leT, z_leF, z_ltT, z_ltF, z_eqT, z_eqF, z_inT, z_clamp, z_nI, z_0, z_1, z_2, z_3, z_4, z_5, z_6, z_7, z_8, z_9, z_10, z_11, z_12, z_13, z_14, z_15, z_16, z_17, z_18, z_19, z_20, z_21, z_22, z_23, z_24, z_25, z_26, z_27, z_28, z_29, z_30, z_31, z_32, z_33, z_34, z_35, z_36, z_37, z_38, z_39, z_40, z_41, z_42, z_43, z_44, z_45, z_46, z_47, z_48, z_49, z_50, z_51, z_52, z_53, z_54, z_55, z_56, z_57, z_58, z_59, z_60, z_61, z_77, z_91, z_93, z_97, z_100, z_101, z_102, z_103, z_105, z_111, z_114, z_120, z_123, z_125, z_126, z_200, z_245, z_255, z_576, z_585, z_1000, z_2000, z_3510, z_11700, true_implies, false_implies, implies_true, not_true_eq_false, not_false_eq_true, true_and, and_true, false_and, and_false, ↓reduceIte, Int.reduceToNat, Int.reduceNeg, Int.toNat_natCast]
        · simp (disch := omega) only [jup_self, jup_ne, z_add, z_sub, z_mul, z_neg, z_leT, z_leF, z_ltT, z_ltF, z_eqT, z_eqF, z_inT, z_clamp, z_nI, z_0, z_1, z_2, z_3, z_4, z_5, z_6, z_7, z_8, z_9, z_10, z_11, z_12, z_13, z_14, z_15, z_16, z_17, z_18, z_19, z_20, z_21, z_22, z_23, z_24, z_25, z_26, z_27, z_28, z_29, z_30, z_31, z_32, z_33, z_34, z_35, z_36, z_37, z_38, z_39, z_40, z_41, z_42, z_43, z_44, z_45, z_46, z_47, z_48, z_49, z_50, z_51, z_52, z_53, z_54, z_55, z_56, z_57, z_58, z_59, z_60, z_61, z_77, z_91, z_93, z_97, z_100, z_101, z_102, z_103, z_105, z_111, z_114, z_120, z_123, z_125, z_126, z_200, z_245, z_255, z_576, z_585, z_1000, z_2000, z_3510, z_11700, true_implies, false_implies, implies_true, not_true_eq_false, not_false_eq_true, true_and, and_true, false_and, and_false, ↓reduceIte, Int.reduceToNat, Int.reduceNeg, Int.toNat_natCast]
      rcases q2 with ⟨z, z1, z2⟩ | ⟨z, z1, z2⟩
      · subst z
        simp (disch := omega) only [jup_self, jup_ne, z_add, z_sub, z_mul, z_neg, z_leT, z_leF, z_ltT, z_ltF, z_eqT, z_eqF, z_inT, z_clamp, z_nI, z_0, z_1, z_2, z_3, z_4, z_5, z_6, z_7, z_8, z_9, z_10, z_11, z_12, z_13, z_14, z_15, z_16, z_17, z_18, z_19, z_20, z_21, z_22, z_23, z_24, z_25, z_26, z_27, z_28, z_29, z_30, z_31, z_32, z_33, z_34, z_35, z_36, z_37, z_38, z_39, z_40, z_41, z_42, z_43, z_44, z_45, z_46, z_47, z_48, z_49, z_50, z_51, z_52, z_53, z_54, z_55, z_56, z_57, z_58, z_59, z_60, z_61, z_77, z_91, z_93, z_97, z_100, z_101, z_102, z_103, z_105, z_111, z_114, z_120, z_123, z_125, z_126, z_200, z_245, z_255, z_576, z_585, z_1000, z_2000, z_3510, z_11700, true_implies, false_implies, implies_true, not_true_eq_false, not_false_eq_true, true_and, and_true, false_and, and_false, ↓reduceIte, Int.reduceToNat, Int.reduceNeg, Int.toNat_natCast, e0, hRow]
        rintro M4 rfl
        exact fin
      · subst z
        simp (disch := omega) only [jup_self, jup_ne, z_add, z_sub, z_mul, z_neg, z_leT, z_leF, z_ltT, z_ltF, z_eqT, z_eqF, z_inT, z_clamp, z_nI, z_0, z_1, z_2, z_3, z_4, z_5, z_6, z_7, z_8, z_9, z_10, z_11, z_12, z_13, z_14, z_15, z_16, z_17, z_18, z_19, z_20, z_21, z_22, z_23, z_24, z_25, z_26, z_27, z_28, z_29, z_30, z_31, z_32, z_33, z_34, z_35, z_36, z_37, z_38, z_39, z_40, z_41, z_42, z_43, z_44, z_45, z_46, z_47, z_48, z_49, z_50, z_51, z_52, z_53, z_54, z_55, z_56, z_57, z_58, z_59, z_60, z_61, z_77, z_91, z_93, z_97, z_100, z_101, z_102, z_103, z_105, z_111, z_114, z_120, z_123, z_125, z_126, z_200, z_245, z_255, z_576, z_585, z_1000, z_2000, z_3510, z_11700, true_implies, false_implies, implies_true, not_true_eq_false, not_false_eq_true, true_and, and_true, false_and, and_false, ↓reduceIte, Int.reduceToNat, Int.reduceNeg, Int.toNat_natCast, e0, hRow]
        rintro M4 rfl
        exact fin
  refine wr_setBound (en_X11_setBound (bl_X11_setBound_0 _ _ _ _ _ _ ?_))
  refine lat_ok hPR hn a1 a2 (fun l0 l1 => ⟨by omega, rfl, ?_⟩) (fun z => Or.inl ⟨rfl, hq _ _ (key M _ (Or.inl ⟨fr_rf _ _, hCI, Or.inl ⟨z, z_1⟩⟩))⟩)
  refine cks_ok b1 b2 (fun hs => ⟨rfl, ?_⟩) (fun z => Or.inr ⟨rfl, hq _ _ (key M _ (Or.inl ⟨fr_rf _ _, hCI, Or.inr ⟨⟨l0, l1⟩, by omega, z_2⟩⟩))⟩)
  obtain ⟨⟨g1, g2, g3⟩, _⟩ := hPR.2.2 a l0 l1
  have hw := (hG.2.2 a l0 l1).1
  have rep : ∀ {Q' : Int32 → Nat → jM → Prop} (x y : Int), Q' 0 0 (jup (jup (jup M 3 (6 * 0 + a.toNat) 1 (zI x)) 3 (6 * 0 + a.toNat) 2 (zI y)) 6 0 3 (zI (ver + 1))) → ok_X6_replaceBounds 0 (zI a) (zI x) (zI y) M Q' := fun {Q'} x y hQ' => by
    refine en_X6_replaceBounds (bl_X6_replaceBounds_0 _ _ _ _ _ _ (by omega) ?_)
    have e63 := hCI.1
    rw [z_0] at hQ'
    simp (disch := omega) only [z_add, z_sub, z_mul, z_neg, z_leT, z_leF, z_ltT, z_ltF, z_eqT, z_eqF, z_inT, z_clamp, z_nI, z_0, z_1, z_2, z_3, z_4, z_5, z_6, z_7, z_8, z_9, z_10, z_11, z_12, z_13, z_14, z_15, z_16, z_17, z_18, z_19, z_20, z_21, z_22, z_23, z_24, z_25, z_26, z_27, z_28, z_29, z_30, z_31, z_32, z_33, z_34, z_35, z_36, z_37, z_38, z_39, z_40, z_41, z_42, z_43, z_44, z_45, z_46, z_47, z_48, z_49, z_50, z_51, z_52, z_53, z_54, z_55, z_56, z_57, z_58, z_59, z_60, z_61, z_77, z_91, z_93, z_97, z_100, z_101, z_102, z_103, z_105, z_111, z_114, z_120, z_123, z_125, z_126, z_200, z_245, z_255, z_576, z_585, z_1000, z_2000, z_3510, z_11700, true_implies, false_implies, implies_true, not_true_eq_false, not_false_eq_true, true_and, and_true, false_and, and_false, ↓reduceIte, Int.reduceToNat, Int.reduceNeg, Int.toNat_natCast, h6]
    rintro M1 rfl M2 rfl
    simp (disch := omega) only [jup_self, jup_ne, z_add, z_sub, z_mul, z_neg, z_leT, z_leF, z_ltT, z_ltF, z_eqT, z_eqF, z_inT, z_clamp, z_nI, z_0, z_1, z_2, z_3, z_4, z_5, z_6, z_7, z_8, z_9, z_10, z_11, z_12, z_13, z_14, z_15, z_16, z_17, z_18, z_19, z_20, z_21, z_22, z_23, z_24, z_25, z_26, z_27, z_28, z_29, z_30, z_31, z_32, z_33, z_34, z_35, z_36, z_37, z_38, z_39, z_40, z_41, z_42, z_43, z_44, z_45, z_46, z_47, z_48, z_49, z_50, z_51, z_52, z_53, z_54, z_55, z_56, z_57, z_58, z_59, z_60, z_61, z_77, z_91, z_93, z_97, z_100, z_101, z_102, z_103, z_105, z_111, z_114, z_120, z_123, z_125, z_126, z_200, z_245, z_255, z_576, z_585, z_1000, z_2000, z_3510, z_11700, true_implies, false_implies, implies_true, not_true_eq_false, not_false_eq_true, true_and, and_true, false_and, and_false, ↓reduceIte, Int.reduceToNat, Int.reduceNeg, Int.toNat_natCast, e63]
    rintro M3 rfl
    exact hQ'
  have nb1 : ∀ x y, jnb (jup (jup (jup M 3 (6 * 0 + a.toNat) 1 (zI x)) 3 (6 * 0 + a.toNat) 2 (zI y)) 6 0 3 (zI (ver + 1))) = jnb M := fun x y => by rw [jnb_up (by decide), jnb_up (by decide), jnb_up (by decide)]
  by_cases qb : (b = 0 ∧ 0 ≤ c ∧ c ≤ w a 1) ∨ (b = 1 ∧ w a 0 ≤ c ∧ c ≤ 30)
  · rcases qb with ⟨z, z1, z2⟩ | ⟨z, z1, z2⟩
    · subst z
      simp (disch := omega) only [z_add, z_sub, z_mul, z_neg, z_leT, z_leF, z_ltT, z_ltF, z_eqT, z_eqF, z_inT, z_clamp, z_nI, z_0, z_1, z_2, z_3, z_4, z_5, z_6, z_7, z_8, z_9, z_10, z_11, z_12, z_13, z_14, z_15, z_16, z_17, z_18, z_19, z_20, z_21, z_22, z_23, z_24, z_25, z_26, z_27, z_28, z_29, z_30, z_31, z_32, z_33, z_34, z_35, z_36, z_37, z_38, z_39, z_40, z_41, z_42, z_43, z_44, z_45, z_46, z_47, z_48, z_49, z_50, z_51, z_52, z_53, z_54, z_55, z_56, z_57, z_58, z_59, z_60, z_61, z_77, z_91, z_93, z_97, z_100, z_101, z_102, z_103, z_105, z_111, z_114, z_120, z_123, z_125, z_126, z_200, z_245, z_255, z_576, z_585, z_1000, z_2000, z_3510, z_11700, true_implies, false_implies, implies_true, not_true_eq_false, not_false_eq_true, true_and, and_true, false_and, and_false, ↓reduceIte, Int.reduceToNat, Int.reduceNeg, Int.toNat_natCast, g1, g2]
      refine rep c (w a 1) ⟨nb1 _ _, nb1 _ _, ?_⟩
      exact hq _ _ (key _ _ (Or.inr ⟨⟨l0, l1⟩, Or.inl ⟨rfl, z1, z2⟩, rfl, by rw [if_pos rfl, if_pos rfl]⟩))
    · subst z
      simp (disch := omega) only [z_add, z_sub, z_mul, z_neg, z_leT, z_leF, z_ltT, z_ltF, z_eqT, z_eqF, z_inT, z_clamp, z_nI, z_0, z_1, z_2, z_3, z_4, z_5, z_6, z_7, z_8, z_9, z_10, z_11, z_12, z_13, z_14, z_15, z_16, z_17, z_18, z_19, z_20, z_21, z_22, z_23, z_24, z_25, z_26, z_27, z_28, z_29, z_30, z_31, z_32, z_33, z_34, z_35, z_36, z_37, z_38, z_39, z_40, z_41, z_42, z_43, z_44, z_45, z_46, z_47, z_48, z_49, z_50, z_51, z_52, z_53, z_54, z_55, z_56, z_57, z_58, z_59, z_60, z_61, z_77, z_91, z_93, z_97, z_100, z_101, z_102, z_103, z_105, z_111, z_114, z_120, z_123, z_125, z_126, z_200, z_245, z_255, z_576, z_585, z_1000, z_2000, z_3510, z_11700, true_implies, false_implies, implies_true, not_true_eq_false, not_false_eq_true, true_and, and_true, false_and, and_false, ↓reduceIte, Int.reduceToNat, Int.reduceNeg, Int.toNat_natCast, g1, g2]
      refine rep (w a 0) c ⟨nb1 _ _, nb1 _ _, ?_⟩
      exact hq _ _ (key _ _ (Or.inr ⟨⟨l0, l1⟩, Or.inr ⟨rfl, z1, z2⟩, rfl, by rw [if_neg (by omega), if_neg (by omega)]⟩))
  · have f3 := hq _ _ (key M _ (Or.inl ⟨fr_rf _ _, hCI, Or.inr ⟨⟨l0, l1⟩, qb, rfl⟩⟩))
    rcases hs with hs | hs
    · subst hs
      by_cases q4 : c < 0
      · simp (disch := omega) only [z_add, z_sub, z_mul, z_neg, z_leT, z_leF, z_ltT, z_ltF, z_eqT, z_eqF, z_inT, z_clamp, z_nI, z_0, z_1, z_2, z_3, z_4, z_5, z_6, z_7, z_8, z_9, z_10, z_11, z_12, z_13, z_14, z_15, z_16, z_17, z_18, z_19, z_20, z_21, z_22, z_23, z_24, z_25, z_26, z_27, z_28, z_29, z_30, z_31, z_32, z_33, z_34, z_35, z_36, z_37, z_38, z_39, z_40, z_41, z_42, z_43, z_44, z_45, z_46, z_47, z_48, z_49, z_50, z_51, z_52, z_53, z_54, z_55, z_56, z_57, z_58, z_59, z_60, z_61, z_77, z_91, z_93, z_97, z_100, z_101, z_102, z_103, z_105, z_111, z_114, z_120, z_123, z_125, z_126, z_200, z_245, z_255, z_576, z_585, z_1000, z_2000, z_3510, z_11700, true_implies, false_implies, implies_true, not_true_eq_false, not_false_eq_true, true_and, and_true, false_and, and_false, ↓reduceIte, Int.reduceToNat, Int.reduceNeg, Int.toNat_natCast, g1, g2]
        first | exact Or.inl f3 | exact Or.inr f3
      · simp (disch := omega) only [z_add, z_sub, z_mul, z_neg, z_leT, z_leF, z_ltT, z_ltF, z_eqT, z_eqF, z_inT, z_clamp, z_nI, z_0, z_1, z_2, z_3, z_4, z_5, z_6, z_7, z_8, z_9, z_10, z_11, z_12, z_13, z_14, z_15, z_16, z_17, z_18, z_19, z_20, z_21, z_22, z_23, z_24, z_25, z_26, z_27, z_28, z_29, z_30, z_31, z_32, z_33, z_34, z_35, z_36, z_37, z_38, z_39, z_40, z_41, z_42, z_43, z_44, z_45, z_46, z_47, z_48, z_49, z_50, z_51, z_52, z_53, z_54, z_55, z_56, z_57, z_58, z_59, z_60, z_61, z_77, z_91, z_93, z_97, z_100, z_101, z_102, z_103, z_105, z_111, z_114, z_120, z_123, z_125, z_126, z_200, z_245, z_255, z_576, z_585, z_1000, z_2000, z_3510, z_11700, true_implies, false_implies, implies_true, not_true_eq_false, not_false_eq_true, true_and, and_true, false_and, and_false, ↓reduceIte, Int.reduceToNat, Int.reduceNeg, Int.toNat_natCast, g1, g2]
        first | exact Or.inl f3 | exact Or.inr f3
    · subst hs
      by_cases q4 : c < w a 0
      · simp (disch := omega) only [z_add, z_sub, z_mul, z_neg, z_leT, z_leF, z_ltT, z_ltF, z_eqT, z_eqF, z_inT, z_clamp, z_nI, z_0, z_1, z_2, z_3, z_4, z_5, z_6, z_7, z_8, z_9, z_10, z_11, z_12, z_13, z_14, z_15, z_16, z_17, z_18, z_19, z_20, z_21, z_22, z_23, z_24, z_25, z_26, z_27, z_28, z_29, z_30, z_31, z_32, z_33, z_34, z_35, z_36, z_37, z_38, z_39, z_40, z_41, z_42, z_43, z_44, z_45, z_46, z_47, z_48, z_49, z_50, z_51, z_52, z_53, z_54, z_55, z_56, z_57, z_58, z_59, z_60, z_61, z_77, z_91, z_93, z_97, z_100, z_101, z_102, z_103, z_105, z_111, z_114, z_120, z_123, z_125, z_126, z_200, z_245, z_255, z_576, z_585, z_1000, z_2000, z_3510, z_11700, true_implies, false_implies, implies_true, not_true_eq_false, not_false_eq_true, true_and, and_true, false_and, and_false, ↓reduceIte, Int.reduceToNat, Int.reduceNeg, Int.toNat_natCast, g1, g2]
        first | exact Or.inl f3 | exact Or.inr f3
      · simp (disch := omega) only [z_add, z_sub, z_mul, z_neg, z_leT, z_leF, z_ltT, z_ltF, z_eqT, z_eqF, z_inT, z_clamp, z_nI, z_0, z_1, z_2, z_3, z_4, z_5, z_6, z_7, z_8, z_9, z_10, z_11, z_12, z_13, z_14, z_15, z_16, z_17, z_18, z_19, z_20, z_21, z_22, z_23, z_24, z_25, z_26, z_27, z_28, z_29, z_30, z_31, z_32, z_33, z_34, z_35, z_36, z_37, z_38, z_39, z_40, z_41, z_42, z_43, z_44, z_45, z_46, z_47, z_48, z_49, z_50, z_51, z_52, z_53, z_54, z_55, z_56, z_57, z_58, z_59, z_60, z_61, z_77, z_91, z_93, z_97, z_100, z_101, z_102, z_103, z_105, z_111, z_114, z_120, z_123, z_125, z_126, z_200, z_245, z_255, z_576, z_585, z_1000, z_2000, z_3510, z_11700, true_implies, false_implies, implies_true, not_true_eq_false, not_false_eq_true, true_and, and_true, false_and, and_false, ↓reduceIte, Int.reduceToNat, Int.reduceNeg, Int.toNat_natCast, g1, g2]
        first | exact Or.inl f3 | exact Or.inr f3
set_option maxHeartbeats 4000000 in
set_option maxRecDepth 100000 in
theorem op_setBarrier {M : jM} {k : Nat} {n : Int} {w : Int → Int → Int} {o : Int → Int} {ver : Int} {a b : Int32} {P : jM → Int32 → Int32 → Prop} {Q : Int32 → Nat → jM → Prop} (hR : RLz M k n w o ver) (hk : k ≤ 2000) (hb : b = 0 ∨ b = 1) (hP : ∀ M5 r1 r4, Rz M5 (k + 1) → M5 11 0 7 = r1 → (r1 = 0 → M5 61 0 0 = r4 ∧ (r4 = 0 ∨ r4 = 1)) → P M5 r1 r4) (hq : ∀ r1 M2, ok_X12_setBarrier a b M2 (fun r4 _ M5 => P M5 r1 r4) → Q r1 0 M2) : ok_L_setBarrier a b M Q := by
  obtain ⟨hnb, hv⟩ := RLz_n hR hk
  have hG := hR.1
  have hPR := hR.2.1
  have hCI := hR.2.2.2.1
  have hn := hG.1
  have h6 := hPR.1
  obtain ⟨a, a1, a2, rfl⟩ := zI_of a
  obtain ⟨b, b1, b2, rfl⟩ := zI_of b
  have hb' : b = 0 ∨ b = 1 := by
    rcases hb with h | h
    · exact Or.inl (z_inj (h.trans z_0) (by omega))
    · exact Or.inr (z_inj (h.trans z_1) (by omega))
  have hP0 := fun M5 r1 r4 (h : RLz M5 (k + 1) n w o ver) => hP M5 r1 r4 ⟨n, w, o, ver, h⟩
  have key : ∀ (M2 : jM) (r1 : Int32), ((fr SO M M2 ∧ CI M2 n w o ver ∧ ¬ (0 ≤ a ∧ a < n) ∧ r1 = zI 1) ∨ ((0 ≤ a ∧ a < n) ∧ r1 = zI 0 ∧ M2 = jup (jup (jup M 3 (6 * 0 + a.toNat) 3 (zI b)) 6 0 3 (zI (ver + 1))) 61 0 0 (zI (w a 2)))) → ok_X12_setBarrier (zI a) (zI b) M2 (fun r4 _ M5 => P M5 r1 r4) := by
    intro M2 r1 hr
    refine en_X12_setBarrier (bl_X12_setBarrier_0 _ _ _ _ ?_)
    rintro M3 rfl
    rcases hr with ⟨hf, hC, q, hr⟩ | ⟨q, hr, hM2⟩
    · obtain ⟨hM2, hF2⟩ := RLz_m hR hf
      have e0 := hM2.1
      have fin := ro_thr hR hP0 hf hC (fm_7 (x := zI 0) (fm_rf _ _ _)) (FA_7 hF2) hr (by omega)
      by_cases q4 : a < 0
      · simp (disch := omega) only [jup_self, jup_ne, z_add, z_sub, z_mul, z_neg, z_leT, z_leF, z_ltT, z_ltF, z_eqT, z_eqF, z_inT, z_clamp, z_nI, z_0, z_1, z_2, z_3, z_4, z_5, z_6, z_7, z_8, z_9, z_10, z_11, z_12, z_13, z_14, z_15, z_16, z_17, z_18, z_19, z_20, z_21, z_22, z_23, z_24, z_25, z_26, z_27, z_28, z_29, z_30, z_31, z_32, z_33, z_34, z_35, z_36, z_37, z_38, z_39, z_40, z_41, z_42, z_43, z_44, z_45, z_46, z_47, z_48, z_49, z_50, z_51, z_52, z_53, z_54, z_55, z_56, z_57, z_58, z_59, z_60, z_61, z_77, z_91, z_93, z_97, z_100, z_101, z_102, z_103, z_105, z_111, z_114, z_120, z_123, z_125, z_126, z_200, z_245, z_255, z_576, z_585, z_1000, z_2000, z_3510, z_11700, true_implies, false_implies, implies_true, not_true_eq_false, not_false_eq_true, true_and, and_true, false_and, and_false, ↓reduceIte, Int.reduceToNat, Int.reduceNeg, Int.toNat_natCast, e0]
        rintro M4 rfl
        exact fin _
      · simp (disch := omega) only [jup_self, jup_ne, z_add, z_sub, z_mul, z_neg, z_leT, z_leF, z_ltT, z_ltF, z_eqT, z_eqF, z_inT, z_clamp, z_nI, z_0, z_1, z_2, z_3, z_4, z_5, z_6, z_7, z_8, z_9, z_10, z_11, z_12, z_13, z_14, z_15, z_16, z_17, z_18, z_19, z_20, z_21, z_22, z_23, z_24, z_25, z_26, z_27, z_28, z_29, z_30, z_31, z_32, z_33, z_34, z_35, z_36, z_37, z_38, z_39, z_40, z_41, z_42, z_43, z_44, z_45, z_46, z_47, z_48, z_49, z_50, z_51, z_52, z_53, z_54, z_55, z_56, z_57, z_58, z_59, z_60, z_61, z_77, z_91, z_93, z_97, z_100, z_101, z_102, z_103, z_105, z_111, z_114, z_120, z_123, z_125, z_126, z_200, z_245, z_255, z_576, z_585, z_1000, z_2000, z_3510, z_11700, true_implies, false_implies, implies_true, not_true_eq_false, not_false_eq_true, true_and, and_true, false_and, and_false, ↓reduceIte, Int.reduceToNat, Int.reduceNeg, Int.toNat_natCast, e0]
        rintro M4 rfl
        exact fin _
    · have hMR := hR.2.2.1
      have e0 : M2 11 0 0 = zI n := by rw [hM2]; simp (disch := omega) only [jup_self, jup_ne, z_add, z_sub, z_mul, z_neg, z_leT, z_leF, z_ltT, z_ltF, z_eqT, z_eqF, z_inT, z_clamp, z_nI, z_0, z_1, z_2, z_3, z_4, z_5, z_6, z_7, z_8, z_9, z_10, z_11, z_12, z_13, z_14, z_15, z_16, z_17, z_18, z_19, z_20, z_21, z_22, z_23, z_24, z_25, z_26, z_27, z_28, z_29, z_30, z_31, z_32, z_33, z_34, z_35, z_36, z_37, z_38, z_39, z_40, z_41, z_42, z_43, z_44, z_45, z_46, z_47, z_48, z_49, z_50, z_51, z_52, z_53, z_54, z_55, z_56, z_57, z_58, z_59, z_60, z_61, z_77, z_91, z_93, z_97, z_100, z_101, z_102, z_103, z_105, z_111, z_114, z_120, z_123, z_125, z_126, z_200, z_245, z_255, z_576, z_585, z_1000, z_2000, z_3510, z_11700, true_implies, false_implies, implies_true, not_true_eq_false, not_false_eq_true, true_and, and_true, false_and, and_false, ↓reduceIte, Int.reduceToNat, Int.reduceNeg, Int.toNat_natCast, hMR.1]
      have hRow : ∀ j, 0 ≤ j → j < 585 → M2 50 0 (585 * a + j).toNat = zI (w a j) := fun j j0 j1 => by rw [hM2, jup_R (by decide), jup_R (by decide), jup_R (by decide)]; exact hMR.2.2 a j q.1 q.2 j0 j1
      have hw := (hG.2.2 a q.1 q.2).1
      obtain ⟨⟨l1, l2, l3⟩, _⟩ := hPR.2.2 a q.1 q.2
      have fin : P (jup (jup M2 11 0 7 (zI 0)) 50 0 (585 * a + 2).toNat (zI b)) r1 (zI (w a 2)) := by
        subst hM2
        refine hP _ _ _ ⟨_, _, _, _, upd_ok (x := w a 0) (y := w a 1) (z := b) hR q (by omega) (fun R hR' => ?_) (fun i f hif => ?_) ?_ ?_ ?_ (fun i f hif => ?_) ?_ (fun f hf => ?_) (fun l j l0 l1 j0 j1 => ?_)⟩ ?_ (fun _ => ⟨?_, ?_⟩)
        · simp only [List.mem_cons, List.not_mem_nil, or_false, not_or] at hR'
          rw [jup_o hR'.2.2.2.1, jup_o hR'.2.2.1, jup_o hR'.2.2.2.2, jup_o hR'.2.1, jup_o hR'.1]
        · rw [jup_R (by decide), jup_R (by decide), jup_R (by decide), jup_R (by decide), jup_ne (by omega)]
        · simp (disch := omega) only [jup_self, jup_ne, z_add, z_sub, z_mul, z_neg, z_leT, z_leF, z_ltT, z_ltF, z_eqT, z_eqF, z_inT, z_clamp, z_nI, z_0, z_1, z_2, z_3, z_4, z_5, z_6, z_7, z_8, z_9, z_10, z_11, z_12, z_13, z_14, z_15, z_16, z_17, z_18, z_19, z_20, z_21, z_22, z_23, z_24, z_25, z_26, z_27, z_28, z_29, z_30, z_31, z_32, z_33, z_34, z_35, z_36, z_37, z_38, z_39, z_40, z_41, z_42, z_43, z_44, z_45, z_46, z_47, z_48, z_49, z_50, z_51, z_52, z_53, z_54, z_55, z_56, z_57, z_58, z_59, z_60, z_61, z_77, z_91, z_93, z_97, z_100, z_101, z_102, z_103, z_105, z_111, z_114, z_120, z_123, z_125, z_126, z_200, z_245, z_255, z_576, z_585, z_1000, z_2000, z_3510, z_11700, true_implies, false_implies, implies_true, not_true_eq_false, not_false_eq_true, true_and, and_true, false_and, and_false, ↓reduceIte, Int.reduceToNat, Int.reduceNeg, Int.toNat_natCast, l1]
        · simp (disch := omega) only [jup_self, jup_ne, z_add, z_sub, z_mul, z_neg, z_leT, z_leF, z_ltT, z_ltF, z_eqT, z_eqF, z_inT, z_clamp, z_nI, z_0, z_1, z_2, z_3, z_4, z_5, z_6, z_7, z_8, z_9, z_10, z_11, z_12, z_13, z_14, z_15, z_16, z_17, z_18, z_19, z_20, z_21, z_22, z_23, z_24, z_25, z_26, z_27, z_28, z_29, z_30, z_31, z_32, z_33, z_34, z_35, z_36, z_37, z_38, z_39, z_40, z_41, z_42, z_43, z_44, z_45, z_46, z_47, z_48, z_49, z_50, z_51, z_52, z_53, z_54, z_55, z_56, z_57, z_58, z_59, z_60, z_61, z_77, z_91, z_93, z_97, z_100, z_101, z_102, z_103, z_105, z_111, z_114, z_120, z_123, z_125, z_126, z_200, z_245, z_255, z_576, z_585, z_1000, z_2000, z_3510, z_11700, true_implies, false_implies, implies_true, not_true_eq_false, not_false_eq_true, true_and, and_true, false_and, and_false, ↓reduceIte, Int.reduceToNat, Int.reduceNeg, Int.toNat_natCast, l2]
        · simp (disch := omega) only [jup_self, jup_ne, z_add, z_sub, z_mul, z_neg, z_leT, z_leF, z_ltT, z_ltF, z_eqT, z_eqF, z_inT, z_clamp, z_nI, z_0, z_1, z_2, z_3, z_4, z_5, z_6, z_7, z_8, z_9, z_10, z_11, z_12, z_13, z_14, z_15, z_16, z_17, z_18, z_19, z_20, z_21, z_22, z_23, z_24, z_25, z_26, z_27, z_28, z_29, z_30, z_31, z_32, z_33, z_34, z_35, z_36, z_37, z_38, z_39, z_40, z_41, z_42, z_43, z_44, z_45, z_46, z_47, z_48, z_49, z_50, z_51, z_52, z_53, z_54, z_55, z_56, z_57, z_58, z_59, z_60, z_61, z_77, z_91, z_93, z_97, z_100, z_101, z_102, z_103, z_105, z_111, z_114, z_120, z_123, z_125, z_126, z_200, z_245, z_255, z_576, z_585, z_1000, z_2000, z_3510, z_11700, true_implies, false_implies, implies_true, not_true_eq_false, not_false_eq_true, true_and, and_true, false_and, and_false, ↓reduceIte, Int.reduceToNat, Int.reduceNeg, Int.toNat_natCast]
        · rw [jup_R (by decide), jup_R (by decide), jup_R (by decide), jup_ne (by omega), jup_R (by decide)]
        · rw [jup_R (by decide), jup_R (by decide), jup_R (by decide), jup_self]
        · rw [jup_R (by decide), jup_ne (by omega), jup_R (by decide), jup_R (by decide), jup_R (by decide)]
        · by_cases z : l = a ∧ j = 2
          · rw [z.1, z.2, jup_self, if_pos rfl, upB_2]
          · rw [jup_ne (by omega), jup_R (by decide), jup_R (by decide), jup_R (by decide), jup_R (by decide), hMR.2.2 l j l0 l1 j0 j1]
            by_cases z3 : l = a
            · rw [if_pos z3, z3]
              refine zc ?_
              unfold upB
              by_cases y0 : j = 0
              · rw [if_pos y0, y0]
              · rw [if_neg y0]
                by_cases y1 : j = 1
                · rw [if_pos y1, y1]
                · rw [if_neg y1, if_neg (by omega)]
            · rw [if_neg z3]
        · rw [hr]; simp (disch := omega) only [jup_self, jup_ne, z_add, z_sub, z_mul, z_neg, z_leT, z_leF, z_ltT, z_ltF, z_eqT, z_eqF, z_inT, z_clamp, z_nI, z_0, z_1, z_2, z_3, z_4, z_5, z_6, z_7, z_8, z_9, z_10, z_11, z_12, z_13, z_14, z_15, z_16, z_17, z_18, z_19, z_20, z_21, z_22, z_23, z_24, z_25, z_26, z_27, z_28, z_29, z_30, z_31, z_32, z_33, z_34, z_35, z_36, z_37, z_38, z_39, z_40, z_41, z_42, z_43, z_44, z_45, z_46, z_47, z_48, z_49, z_50, z_51, z_52, z_53, z_54, z_55, z_56, z_57, z_58, z_59, z_60, z_61, z_77, z_91, z_93, z_97, z_100, z_101, z_102, z_103, z_105, z_111, z_114, z_120, z_123, z_125, z_126, z_200, z_245, z_255, z_576, z_585, z_1000, z_2000, z_3510, z_11700, true_implies, false_implies, implies_true, not_true_eq_false, not_false_eq_true, true_and, and_true, false_and, and_false, ↓reduceIte, Int.reduceToNat, Int.reduceNeg, Int.toNat_natCast]
        · simp (disch := omega) only [jup_self, jup_ne, z_add, z_sub, z_mul, z_neg, z_leT, z_leF, z_ltT, z_ltF, z_eqT, z_eqF, z_inT, z_clamp, z_nI, z_0, z_1, z_2, z_3, z_4, z_5, z_6, z_7, z_8, z_9, z_10, z_11, z_12, z_13, z_14, z_15, z_16, z_17, z_18, z_19, z_20, z_21, z_22, z_23, z_24, z_25, z_26, z_27, z_28, z_29, z_30, z_31, z_32, z_33, z_34, z_35, z_36, z_37, z_38, z_39, z_40, z_41, z_42, z_43, z_44, z_45, z_46, z_47, z_48, z_49, z_50, z_51, z_52, z_53, z_54, z_55, z_56, z_57, z_58, z_59, z_60, z_61, z_77, z_91, z_93, z_97, z_100, z_101, z_102, z_103, z_105, z_111, z_114, z_120, z_123, z_125, z_126, z_200, z_245, z_255, z_576, z_585, z_1000, z_2000, z_3510, z_11700, true_implies, false_implies, implies_true, not_true_eq_false, not_false_eq_true, true_and, and_true, false_and, and_false, ↓reduceIte, Int.reduceToNat, Int.reduceNeg, Int.toNat_natCast]
        · rcases hw.2.2.2 with h | h
          · exact Or.inl (by rw [h]; exact z_0.symm)
          · exact Or.inr (by rw [h]; exact z_1.symm)
      rcases hw.2.2.2 with h | h
      · have r2 := hRow 2 (by omega) (by omega)
        rw [h] at fin
        rcases hb' with hb' | hb'
        · subst hb'
          simp (disch := omega) only [jup_self, jup_ne, z_add, z_sub, z_mul, z_neg, z_leT, z_leF, z_ltT, z_ltF, z_eqT, z_eqF, z_inT, z_clamp, z_nI, z_0, z_1, z_2, z_3, z_4, z_5, z_6, z_7, z_8, z_9, z_10, z_11, z_12, z_13, z_14, z_15, z_16, z_17, z_18, z_19, z_20, z_21, z_22, z_23, z_24, z_25, z_26, z_27, z_28, z_29, z_30, z_31, z_32, z_33, z_34, z_35, z_36, z_37, z_38, z_39, z_40, z_41, z_42, z_43, z_44, z_45, z_46, z_47, z_48, z_49, z_50, z_51, z_52, z_53, z_54, z_55, z_56, z_57, z_58, z_59, z_60, z_61, z_77, z_91, z_93, z_97, z_100, z_101, z_102, z_103, z_105, z_111, z_114, z_120, z_123, z_125, z_126, z_200, z_245, z_255, z_576, z_585, z_1000, z_2000, z_3510, z_11700, true_implies, false_implies, implies_true, not_true_eq_false, not_false_eq_true, true_and, and_true, false_and, and_false, ↓reduceIte, Int.reduceToNat, Int.reduceNeg, Int.toNat_natCast, e0, hRow, h]
          rintro M4 rfl
          exact fin
        · subst hb'
          simp (disch := omega) only [jup_self, jup_ne, z_add, z_sub, z_mul, z_neg, z_leT, z_leF, z_ltT, z_ltF, z_eqT, z_eqF, z_inT, z_clamp, z_nI, z_0, z_1, z_2, z_3, z_4, z_5, z_6, z_7, z_8, z_9, z_10, z_11, z_12, z_13, z_14, z_15, z_16, z_17, z_18, z_19, z_20, z_21, z_22, z_23, z_24, z_25, z_26, z_27, z_28, z_29, z_30, z_31, z_32, z_33, z_34, z_35, z_36, z_37, z_38, z_39, z_40, z_41, z_42, z_43, z_44, z_45, z_46, z_47, z_48, z_49, z_50, z_51, z_52, z_53, z_54, z_55, z_56, z_57, z_58, z_59, z_60, z_61, z_77, z_91, z_93, z_97, z_100, z_101, z_102, z_103, z_105, z_111, z_114, z_120, z_123, z_125, z_126, z_200, z_245, z_255, z_576, z_585, z_1000, z_2000, z_3510, z_11700, true_implies, false_implies, implies_true, not_true_eq_false, not_false_eq_true, true_and, and_true, false_and, and_false, ↓reduceIte, Int.reduceToNat, Int.reduceNeg, Int.toNat_natCast, e0, hRow, h]
          rintro M4 rfl
          exact fin
      · rw [h] at fin
        rcases hb' with hb' | hb'
        · subst hb'
          simp (disch := omega) only [jup_self, jup_ne, z_add, z_sub, z_mul, z_neg, z_leT, z_leF, z_ltT, z_ltF, z_eqT, z_eqF, z_inT, z_clamp, z_nI, z_0, z_1, z_2, z_3, z_4, z_5, z_6, z_7, z_8, z_9, z_10, z_11, z_12, z_13, z_14, z_15, z_16, z_17, z_18, z_19, z_20, z_21, z_22, z_23, z_24, z_25, z_26, z_27, z_28, z_29, z_30, z_31, z_32, z_33, z_34, z_35, z_36, z_37, z_38, z_39, z_40, z_41, z_42, z_43, z_44, z_45, z_46, z_47, z_48, z_49, z_50, z_51, z_52, z_53, z_54, z_55, z_56, z_57, z_58, z_59, z_60, z_61, z_77, z_91, z_93, z_97, z_100, z_101, z_102, z_103, z_105, z_111, z_114, z_120, z_123, z_125, z_126, z_200, z_245, z_255, z_576, z_585, z_1000, z_2000, z_3510, z_11700, true_implies, false_implies, implies_true, not_true_eq_false, not_false_eq_true, true_and, and_true, false_and, and_false, ↓reduceIte, Int.reduceToNat, Int.reduceNeg, Int.toNat_natCast, e0, hRow, h]
          rintro M4 rfl
          exact fin
        · subst hb'
          simp (disch := omega) only [jup_self, jup_ne, z_add, z_sub, z_mul, z_neg, z_leT, z_leF, z_ltT, z_ltF, z_eqT, z_eqF, z_inT, z_clamp, z_nI, z_0, z_1, z_2, z_3, z_4, z_5, z_6, z_7, z_8, z_9, z_10, z_11, z_12, z_13, z_14, z_15, z_16, z_17, z_18, z_19, z_20, z_21, z_22, z_23, z_24, z_25, z_26, z_27, z_28, z_29, z_30, z_31, z_32, z_33, z_34, z_35, z_36, z_37, z_38, z_39, z_40, z_41, z_42, z_43, z_44, z_45, z_46, z_47, z_48, z_49, z_50, z_51, z_52, z_53, z_54, z_55, z_56, z_57, z_58, z_59, z_60, z_61, z_77, z_91, z_93, z_97, z_100, z_101, z_102, z_103, z_105, z_111, z_114, z_120, z_123, z_125, z_126, z_200, z_245, z_255, z_576, z_585, z_1000, z_2000, z_3510, z_11700, true_implies, false_implies, implies_true, not_true_eq_false, not_false_eq_true, true_and, and_true, false_and, and_false, ↓reduceIte, Int.reduceToNat, Int.reduceNeg, Int.toNat_natCast, e0, hRow, h]
          rintro M4 rfl
          exact fin
  refine wr_setBarrier (en_X11_setBarrier (bl_X11_setBarrier_0 _ _ _ _ _ ?_))
  refine lat_ok hPR hn a1 a2 (fun l0 l1 => ⟨by omega, rfl, ?_⟩) (fun z => ⟨rfl, hq _ _ (key M _ (Or.inl ⟨fr_rf _ _, hCI, z, z_1⟩))⟩)
  obtain ⟨⟨g1, g2, g3⟩, _⟩ := hPR.2.2 a l0 l1
  have hw := (hG.2.2 a l0 l1).1
  have e63 := hCI.1
  refine en_X6_replaceBarrier (bl_X6_replaceBarrier_0 _ _ _ _ _ (by omega) ?_)
  have nb1 : jnb (jup (jup M 3 (6 * 0 + a.toNat) 3 (zI b)) 6 0 3 (zI (ver + 1))) = jnb M := by rw [jnb_up (by decide), jnb_up (by decide)]
  have go : ∀ M4, M4 = jup M 3 (6 * 0 + a.toNat) 3 (zI b) → ∀ M5, M5 = jup M4 6 0 3 (M4 6 0 3 + zI 1) → jnb M5 = jnb M ∧ (M 3 (6 * 0 + a.toNat) 3 = 0 ∨ M 3 (6 * 0 + a.toNat) 3 = 1) ∧ jnb M5 = jnb M ∧ (¬ (M 3 (6 * 0 + a.toNat) 3 = 0) → Q 0 0 (jup M5 61 0 (0 : Int32).toNatClampNeg 1)) ∧ (M 3 (6 * 0 + a.toNat) 3 = 0 → Q 0 0 (jup M5 61 0 (0 : Int32).toNatClampNeg 0)) := by
    rintro M4 rfl M5 rfl
    have e : jup M 3 (6 * 0 + a.toNat) 3 (zI b) 6 0 3 + zI 1 = zI (ver + 1) := by rw [jup_R (by decide), e63, z_add]
    rw [e, g3, z00]
    have f3 := hq _ _ (key _ _ (Or.inr ⟨⟨l0, l1⟩, rfl, rfl⟩))
    rcases hw.2.2.2 with h | h
    · rw [h] at f3 ⊢
      refine ⟨nb1, Or.inl z_0.symm, nb1, fun z => absurd z_0.symm z, fun _ => ?_⟩
      rw [z_0]
      exact f3
    · rw [h] at f3 ⊢
      refine ⟨nb1, Or.inr z_1.symm, nb1, fun _ => ?_, fun z => ?_⟩
      · rw [z_0, z_1]
        exact f3
      · rw [z_0, z_eqF (by omega)] at z; exact z.elim
  refine ⟨fun _ => ⟨by rw [z_inT (by omega)]; trivial, ?_, ?_⟩, fun z => absurd ⟨by rw [z_0, z_leT (by omega)]; trivial, by rw [h6, z_ltT (by omega)]; trivial, by rw [z_6, z_ltT (by omega)]; trivial⟩ z⟩
  · rcases hb' with h | h
    · exact Or.inl (by rw [h]; exact z_0.symm)
    · exact Or.inr (by rw [h]; exact z_1.symm)
  · rw [z_clamp (by omega), z_1]
    exact go
