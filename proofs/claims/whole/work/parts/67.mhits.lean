/-! ===== hits of the reference ===== -/
theorem trG_rel {win : Int} {w : Int → Int → Int} {f l : Int} (R : TRs → TRs → Prop) (hR : ∀ v t i r x y, R x y → R (trR win v t i r x) (trR win v t i r y)) {x y : TRs} (h : R x y) : R (trG win w f l x) (trG win w f l y) := by
  unfold trG trK
  refine ni_rel R h (fun j x y _ _ hxy => ?_)
  unfold trT
  refine ni_rel R hxy (fun b x y _ _ hxy => ?_)
  show R (if w (f + b) 0 ≤ tF w f (l - f + 1) + j - sh w f (f + b) ∧ tF w f (l - f + 1) + j - sh w f (f + b) ≤ w (f + b) 1 then trB win (w (f + b)) (tF w f (l - f + 1) + j) (tF w f (l - f + 1) + j - sh w f (f + b)) (w (f + b) 4) x else x) (if w (f + b) 0 ≤ tF w f (l - f + 1) + j - sh w f (f + b) ∧ tF w f (l - f + 1) + j - sh w f (f + b) ≤ w (f + b) 1 then trB win (w (f + b)) (tF w f (l - f + 1) + j) (tF w f (l - f + 1) + j - sh w f (f + b)) (w (f + b) 4) y else y)
  split
  · unfold trB
    exact ni_rel R hxy (fun r x y _ _ hxy => hR _ _ _ _ _ _ hxy)
  · exact hxy
theorem trG_A {win : Int} {w : Int → Int → Int} {f l rd h fa : Int} : (trG win w f l (lat0, rd, h, fa)).2.1 = (trG win w f l (lat0, rd, 0, fa)).2.1 ∧ (trG win w f l (lat0, rd, h, fa)).2.2.2 = (trG win w f l (lat0, rd, 0, fa)).2.2.2 ∧ (trG win w f l (lat0, rd, h, fa)).2.2.1 = (trG win w f l (lat0, rd, 0, fa)).2.2.1 + h := by
  have := trG_rel (win := win) (w := w) (f := f) (l := l) (fun x y => x.1 = y.1 ∧ x.2.1 = y.2.1 ∧ x.2.2.2 = y.2.2.2 ∧ x.2.2.1 = y.2.2.1 + h) (fun v t i r x y hxy => by
    obtain ⟨h1, h2, h3, h4⟩ := hxy
    unfold trR
    rw [h1]
    by_cases q : v (53 + r) = 1
    · rw [if_pos q, if_pos q]; exact ⟨rfl, h2, h3, h4⟩
    · rw [if_neg q, if_neg q]
      by_cases q2 : t - y.1 (plc v r + i) ≤ win
      · rw [if_pos q2, if_pos q2, h2, h3]; exact ⟨rfl, rfl, rfl, by show x.2.2.1 + 1 = y.2.2.1 + 1 + h; omega⟩
      · rw [if_neg q2, if_neg q2, h2, h3]; exact ⟨rfl, rfl, rfl, h4⟩) (x := (lat0, rd, h, fa)) (y := (lat0, rd, 0, fa)) ⟨rfl, rfl, rfl, by show h = 0 + h; omega⟩
  exact this.2
theorem trG_B {win : Int} {w : Int → Int → Int} {f l rd fa : Int} : (trG win w f l (lat0, rd, 0, fa)).2.2.1 = (trG win w f l (lat0, 0, 0, 0)).2.2.1 := by
  have := trG_rel (win := win) (w := w) (f := f) (l := l) (fun x y => x.1 = y.1 ∧ x.2.2.1 = y.2.2.1) (fun v t i r x y hxy => by
    obtain ⟨h1, h4⟩ := hxy
    unfold trR
    rw [h1]
    by_cases q : v (53 + r) = 1
    · rw [if_pos q, if_pos q]; exact ⟨rfl, h4⟩
    · rw [if_neg q, if_neg q]
      by_cases q2 : t - y.1 (plc v r + i) ≤ win
      · rw [if_pos q2, if_pos q2]; exact ⟨rfl, by show x.2.2.1 + 1 = y.2.2.1 + 1; omega⟩
      · rw [if_neg q2, if_neg q2]; exact ⟨rfl, h4⟩) (x := (lat0, rd, 0, fa)) (y := (lat0, 0, 0, 0)) ⟨rfl, rfl⟩
  exact this.2
/-- the reference's tracing in memory -/
def TN (M : jM) (x : TRs) : Prop := (M 11 0 27 = zI x.2.1 ∧ M 11 0 28 = zI x.2.2.2) ∧ (∀ c, 0 ≤ c → c < 245 → M 60 0 c.toNat = zI (x.1 c)) ∧ TB x
set_option maxHeartbeats 4000000 in
set_option maxRecDepth 100000 in
theorem mh_82 {M0 : jM} {v : Int → Int} {f l e q t i win : Int} {x : TRs} {Q : Int32 → Nat → jM → Prop} (hq : 0 ≤ q ∧ q < 6) (hO : OKL v) (hR : RW M0 q v) (ho : M0 51 0 1 = zI win) (hi : v 0 ≤ i ∧ i ≤ v 1) (ht : 0 ≤ t ∧ t ≤ 120) (hw : 0 ≤ win ∧ win ≤ 9) (hQ : ∀ M1, fm [60] [27, 28] M0 M1 → TN M1 (trB win v t i (v 4) x) → at_X12_hitsOf_61 (zI f) (zI l) (zI (trB win v t i (v 4) x).2.2.1) (zI e) (zI t) (zI (q + 1)) M1 Q) :
    ∀ (d : Nat) (r : Int) (v3 v8 : Int32) (M : jM), r + d = v 4 → 0 ≤ r → v3 = zI (trB win v t i r x).2.2.1 → v8 = zI r → fm [60] [27, 28] M0 M → TN M (trB win v t i r x) → at_X12_hitsOf_82 (zI f) (zI l) v3 (zI e) (zI t) (zI q) (zI i) v8 M Q := by
  obtain ⟨⟨o1, o2, o3, _⟩, ⟨a4, a5, a6, a7⟩, a8, _⟩ := hO
  intro d
  induction d with
  | zero =>
    intro r v3 v8 M hd h0 h3 h8 hfr hT
    subst h3 h8
    refine bl_X12_hitsOf_82 _ _ _ _ _ _ _ _ _ _ ?_
    have hR' := RW_fm hR hfr
    unfold RW at hR'
    simp (disch := omega) only [z_add, z_sub, z_mul, z_neg, z_leT, z_leF, z_ltT, z_ltF, z_eqT, z_eqF, z_inT, z_clamp, z_nI, z_0, z_1, z_2, z_3, z_4, z_5, z_6, z_7, z_8, z_9, z_10, z_11, z_12, z_13, z_14, z_15, z_16, z_17, z_18, z_19, z_20, z_21, z_22, z_23, z_24, z_25, z_26, z_27, z_28, z_29, z_30, z_31, z_32, z_33, z_34, z_35, z_36, z_37, z_38, z_39, z_40, z_41, z_42, z_43, z_44, z_45, z_46, z_47, z_48, z_49, z_50, z_51, z_52, z_53, z_54, z_55, z_56, z_57, z_58, z_59, z_60, z_61, z_77, z_91, z_93, z_97, z_100, z_101, z_102, z_103, z_105, z_111, z_114, z_120, z_123, z_125, z_126, z_200, z_245, z_255, z_576, z_585, z_1000, z_2000, z_3510, z_11700, true_implies, false_implies, implies_true, not_true_eq_false, not_false_eq_true, true_and, and_true, false_and, and_false, ↓reduceIte, Int.reduceToNat, Int.reduceNeg, Int.toNat_natCast, hR']
    have er : r = v 4 := by omega
    rw [er] at hT ⊢
    exact hQ M hfr hT
  | succ d ih =>
    intro r v3 v8 M hd h0 h3 h8 hfr hT
    subst h3 h8
    refine bl_X12_hitsOf_82 _ _ _ _ _ _ _ _ _ _ ?_
    have hR' := RW_fm hR hfr
    unfold RW at hR'
    have r0 := hR' 0 (by omega) (by omega)
    have ho' : M 51 0 1 = zI win := by rw [hfr.1 51 (by decide) (by decide)]; exact ho
    obtain ⟨⟨m1, m2⟩, ⟨m3, m4⟩, m5, _⟩ := a8 r h0 (by omega)
    obtain ⟨⟨t1, t2⟩, tl, tb⟩ := hT
    have hpl : plc v r = 49 * v (5 + r) + (v (29 + r) + 9) := rfl
    have hc : 0 ≤ plc v r + i ∧ plc v r + i < 245 := by omega
    have hidx : 49 * v (5 + r) + i + v (29 + r) + 9 = plc v r + i := by omega
    have e1 := trB_s (win := win) (v := v) (t := t) (i := i) (x := x) h0
    have tb2 := TB_R (win := win) (v := v) (i := i) (r := r) tb ht hw.2
    generalize hy : trB win v t i r x = y at *
    have hlat := tl (plc v r + i) hc.1 hc.2
    have hlb := tb.1 (plc v r + i)
    have hfb := tb.2
    have er : trR win v t i r y = if v (53 + r) = 1 then (upZ y.1 (plc v r + i) t, y.2) else if t - y.1 (plc v r + i) ≤ win then (upZ y.1 (plc v r + i) t, y.2.1 + 1, y.2.2.1 + 1, max y.2.2.2 (t - y.1 (plc v r + i))) else (upZ y.1 (plc v r + i) t, y.2.1 + 1, y.2.2.1, y.2.2.2) := rfl
    generalize plc v r + i = c at *
    have fin : ∀ (M1 : jM) (v3' v8' : Int32), v3' = zI (trR win v t i r y).2.2.1 → v8' = zI (r + 1) → fm [60] [27, 28] M M1 → TN M1 (trR win v t i r y) → at_X12_hitsOf_82 (zI f) (zI l) v3' (zI e) (zI t) (zI q) (zI i) v8' M1 Q := fun M1 v3' v8' h3 h8 h1 h2 =>
      ih (r + 1) _ _ M1 (by omega) (by omega) (by rw [h3, e1]) h8 (fm_tr hfr h1) (by rw [e1]; exact h2)
    have lat2 : ∀ (M1 : jM), M1 60 = jup M 60 0 c.toNat (zI t) 60 → ∀ x, 0 ≤ x → x < 245 → M1 60 0 x.toNat = zI (upZ y.1 c t x) := by
      intro M1 h1 x h2 h3
      rw [h1]
      by_cases q : x = c
      · rw [q, upZ_s]; exact jup_self _ _ _ _ _
      · rw [upZ_n q, jup_ne (by omega)]; exact tl x h2 h3
    rcases m5 with m5 | m5
    · rw [if_neg (by omega)] at er
      by_cases q5 : t - y.1 c ≤ win
      · rw [if_pos q5] at er
        rw [er] at fin tb2
        simp (disch := omega) only [z_add, z_sub, z_mul, z_neg, z_leT, z_leF, z_ltT, z_ltF, z_eqT, z_eqF, z_inT, z_clamp, z_nI, z_0, z_1, z_2, z_3, z_4, z_5, z_6, z_7, z_8, z_9, z_10, z_11, z_12, z_13, z_14, z_15, z_16, z_17, z_18, z_19, z_20, z_21, z_22, z_23, z_24, z_25, z_26, z_27, z_28, z_29, z_30, z_31, z_32, z_33, z_34, z_35, z_36, z_37, z_38, z_39, z_40, z_41, z_42, z_43, z_44, z_45, z_46, z_47, z_48, z_49, z_50, z_51, z_52, z_53, z_54, z_55, z_56, z_57, z_58, z_59, z_60, z_61, z_77, z_91, z_93, z_97, z_100, z_101, z_102, z_103, z_105, z_111, z_114, z_120, z_123, z_125, z_126, z_200, z_245, z_255, z_576, z_585, z_1000, z_2000, z_3510, z_11700, true_implies, false_implies, implies_true, not_true_eq_false, not_false_eq_true, true_and, and_true, false_and, and_false, ↓reduceIte, Int.reduceToNat, Int.reduceNeg, Int.toNat_natCast, hR', m5, ho', hidx, hlat]
        rintro M1 rfl
        have A1 : jup M 11 0 27 (M 11 0 27 + zI 1) 60 0 c.toNat = zI (y.1 c) := by rw [jup_R (by decide)]; exact hlat
        have A2 : jup M 11 0 27 (M 11 0 27 + zI 1) 11 0 28 = zI y.2.2.2 := by rw [jup_ne (by omega)]; exact t2
        simp (disch := omega) only [z_add, z_sub, z_mul, z_neg, z_leT, z_leF, z_ltT, z_ltF, z_eqT, z_eqF, z_inT, z_clamp, z_nI, z_0, z_1, z_2, z_3, z_4, z_5, z_6, z_7, z_8, z_9, z_10, z_11, z_12, z_13, z_14, z_15, z_16, z_17, z_18, z_19, z_20, z_21, z_22, z_23, z_24, z_25, z_26, z_27, z_28, z_29, z_30, z_31, z_32, z_33, z_34, z_35, z_36, z_37, z_38, z_39, z_40, z_41, z_42, z_43, z_44, z_45, z_46, z_47, z_48, z_49, z_50, z_51, z_52, z_53, z_54, z_55, z_56, z_57, z_58, z_59, z_60, z_61, z_77, z_91, z_93, z_97, z_100, z_101, z_102, z_103, z_105, z_111, z_114, z_120, z_123, z_125, z_126, z_200, z_245, z_255, z_576, z_585, z_1000, z_2000, z_3510, z_11700, true_implies, false_implies, implies_true, not_true_eq_false, not_false_eq_true, true_and, and_true, false_and, and_false, ↓reduceIte, Int.reduceToNat, Int.reduceNeg, Int.toNat_natCast, hR', m5, ho', hidx, A1, A2, z_max]
        rintro M2 rfl M3 rfl
        refine fin _ _ _ (zc (by rfl)) (zc (by omega)) (fm_up (fm_f (fm_f (fm_rf _ _ _)))) ⟨⟨?_, ?_⟩, lat2 _ ?_, tb2⟩
        · simp (disch := omega) only [jup_self, jup_ne, z_add, z_sub, z_mul, z_neg, z_leT, z_leF, z_ltT, z_ltF, z_eqT, z_eqF, z_inT, z_clamp, z_nI, z_0, z_1, z_2, z_3, z_4, z_5, z_6, z_7, z_8, z_9, z_10, z_11, z_12, z_13, z_14, z_15, z_16, z_17, z_18, z_19, z_20, z_21, z_22, z_23, z_24, z_25, z_26, z_27, z_28, z_29, z_30, z_31, z_32, z_33, z_34, z_35, z_36, z_37, z_38, z_39, z_40, z_41, z_42, z_43, z_44, z_45, z_46, z_47, z_48, z_49, z_50, z_51, z_52, z_53, z_54, z_55, z_56, z_57, z_58, z_59, z_60, z_61, z_77, z_91, z_93, z_97, z_100, z_101, z_102, z_103, z_105, z_111, z_114, z_120, z_123, z_125, z_126, z_200, z_245, z_255, z_576, z_585, z_1000, z_2000, z_3510, z_11700, true_implies, false_implies, implies_true, not_true_eq_false, not_false_eq_true, true_and, and_true, false_and, and_false, ↓reduceIte, Int.reduceToNat, Int.reduceNeg, Int.toNat_natCast, t1]
        · simp (disch := omega) only [jup_self, jup_ne, z_add, z_sub, z_mul, z_neg, z_leT, z_leF, z_ltT, z_ltF, z_eqT, z_eqF, z_inT, z_clamp, z_nI, z_0, z_1, z_2, z_3, z_4, z_5, z_6, z_7, z_8, z_9, z_10, z_11, z_12, z_13, z_14, z_15, z_16, z_17, z_18, z_19, z_20, z_21, z_22, z_23, z_24, z_25, z_26, z_27, z_28, z_29, z_30, z_31, z_32, z_33, z_34, z_35, z_36, z_37, z_38, z_39, z_40, z_41, z_42, z_43, z_44, z_45, z_46, z_47, z_48, z_49, z_50, z_51, z_52, z_53, z_54, z_55, z_56, z_57, z_58, z_59, z_60, z_61, z_77, z_91, z_93, z_97, z_100, z_101, z_102, z_103, z_105, z_111, z_114, z_120, z_123, z_125, z_126, z_200, z_245, z_255, z_576, z_585, z_1000, z_2000, z_3510, z_11700, true_implies, false_implies, implies_true, not_true_eq_false, not_false_eq_true, true_and, and_true, false_and, and_false, ↓reduceIte, Int.reduceToNat, Int.reduceNeg, Int.toNat_natCast]
        · funext i' k'
          by_cases z : 60 = 60 ∧ i' = 0 ∧ k' = c.toNat
          · rw [z.2.1, z.2.2, jup_self, jup_self]
          · rw [jup_ne z, jup_ne z, jup_R (by decide), jup_R (by decide)]
      · rw [if_neg q5] at er
        rw [er] at fin tb2
        simp (disch := omega) only [z_add, z_sub, z_mul, z_neg, z_leT, z_leF, z_ltT, z_ltF, z_eqT, z_eqF, z_inT, z_clamp, z_nI, z_0, z_1, z_2, z_3, z_4, z_5, z_6, z_7, z_8, z_9, z_10, z_11, z_12, z_13, z_14, z_15, z_16, z_17, z_18, z_19, z_20, z_21, z_22, z_23, z_24, z_25, z_26, z_27, z_28, z_29, z_30, z_31, z_32, z_33, z_34, z_35, z_36, z_37, z_38, z_39, z_40, z_41, z_42, z_43, z_44, z_45, z_46, z_47, z_48, z_49, z_50, z_51, z_52, z_53, z_54, z_55, z_56, z_57, z_58, z_59, z_60, z_61, z_77, z_91, z_93, z_97, z_100, z_101, z_102, z_103, z_105, z_111, z_114, z_120, z_123, z_125, z_126, z_200, z_245, z_255, z_576, z_585, z_1000, z_2000, z_3510, z_11700, true_implies, false_implies, implies_true, not_true_eq_false, not_false_eq_true, true_and, and_true, false_and, and_false, ↓reduceIte, Int.reduceToNat, Int.reduceNeg, Int.toNat_natCast, hR', m5, ho', hidx, hlat]
        rintro M1 rfl M2 rfl M3 rfl
        refine fin _ _ _ (zc (show y.2.2.1 + 0 = y.2.2.1 by omega)) (zc (by omega)) (fm_up (fm_f (fm_f (fm_rf _ _ _)))) ⟨⟨?_, ?_⟩, lat2 _ ?_, tb2⟩
        · simp (disch := omega) only [jup_self, jup_ne, z_add, z_sub, z_mul, z_neg, z_leT, z_leF, z_ltT, z_ltF, z_eqT, z_eqF, z_inT, z_clamp, z_nI, z_0, z_1, z_2, z_3, z_4, z_5, z_6, z_7, z_8, z_9, z_10, z_11, z_12, z_13, z_14, z_15, z_16, z_17, z_18, z_19, z_20, z_21, z_22, z_23, z_24, z_25, z_26, z_27, z_28, z_29, z_30, z_31, z_32, z_33, z_34, z_35, z_36, z_37, z_38, z_39, z_40, z_41, z_42, z_43, z_44, z_45, z_46, z_47, z_48, z_49, z_50, z_51, z_52, z_53, z_54, z_55, z_56, z_57, z_58, z_59, z_60, z_61, z_77, z_91, z_93, z_97, z_100, z_101, z_102, z_103, z_105, z_111, z_114, z_120, z_123, z_125, z_126, z_200, z_245, z_255, z_576, z_585, z_1000, z_2000, z_3510, z_11700, true_implies, false_implies, implies_true, not_true_eq_false, not_false_eq_true, true_and, and_true, false_and, and_false, ↓reduceIte, Int.reduceToNat, Int.reduceNeg, Int.toNat_natCast, t1]
        · simp (disch := omega) only [jup_self, jup_ne, z_add, z_sub, z_mul, z_neg, z_leT, z_leF, z_ltT, z_ltF, z_eqT, z_eqF, z_inT, z_clamp, z_nI, z_0, z_1, z_2, z_3, z_4, z_5, z_6, z_7, z_8, z_9, z_10, z_11, z_12, z_13, z_14, z_15, z_16, z_17, z_18, z_19, z_20, z_21, z_22, z_23, z_24, z_25, z_26, z_27, z_28, z_29, z_30, z_31, z_32, z_33, z_34, z_35, z_36, z_37, z_38, z_39, z_40, z_41, z_42, z_43, z_44, z_45, z_46, z_47, z_48, z_49, z_50, z_51, z_52, z_53, z_54, z_55, z_56, z_57, z_58, z_59, z_60, z_61, z_77, z_91, z_93, z_97, z_100, z_101, z_102, z_103, z_105, z_111, z_114, z_120, z_123, z_125, z_126, z_200, z_245, z_255, z_576, z_585, z_1000, z_2000, z_3510, z_11700, true_implies, false_implies, implies_true, not_true_eq_false, not_false_eq_true, true_and, and_true, false_and, and_false, ↓reduceIte, Int.reduceToNat, Int.reduceNeg, Int.toNat_natCast, t2]
        · funext i' k'
          by_cases z : 60 = 60 ∧ i' = 0 ∧ k' = c.toNat
          · rw [z.2.1, z.2.2, jup_self, jup_self]
          · rw [jup_ne z, jup_ne z, jup_R (by decide), jup_R (by decide)]
    · rw [if_pos m5] at er
      rw [er] at fin tb2
      simp (disch := omega) only [z_add, z_sub, z_mul, z_neg, z_leT, z_leF, z_ltT, z_ltF, z_eqT, z_eqF, z_inT, z_clamp, z_nI, z_0, z_1, z_2, z_3, z_4, z_5, z_6, z_7, z_8, z_9, z_10, z_11, z_12, z_13, z_14, z_15, z_16, z_17, z_18, z_19, z_20, z_21, z_22, z_23, z_24, z_25, z_26, z_27, z_28, z_29, z_30, z_31, z_32, z_33, z_34, z_35, z_36, z_37, z_38, z_39, z_40, z_41, z_42, z_43, z_44, z_45, z_46, z_47, z_48, z_49, z_50, z_51, z_52, z_53, z_54, z_55, z_56, z_57, z_58, z_59, z_60, z_61, z_77, z_91, z_93, z_97, z_100, z_101, z_102, z_103, z_105, z_111, z_114, z_120, z_123, z_125, z_126, z_200, z_245, z_255, z_576, z_585, z_1000, z_2000, z_3510, z_11700, true_implies, false_implies, implies_true, not_true_eq_false, not_false_eq_true, true_and, and_true, false_and, and_false, ↓reduceIte, Int.reduceToNat, Int.reduceNeg, Int.toNat_natCast, hR', m5, ho', hidx]
      rintro M1 rfl
      refine fin _ _ _ rfl (zc (by omega)) (fm_up (fm_rf _ _ _)) ⟨⟨?_, ?_⟩, lat2 _ rfl, tb2⟩
      · simp (disch := omega) only [jup_self, jup_ne, z_add, z_sub, z_mul, z_neg, z_leT, z_leF, z_ltT, z_ltF, z_eqT, z_eqF, z_inT, z_clamp, z_nI, z_0, z_1, z_2, z_3, z_4, z_5, z_6, z_7, z_8, z_9, z_10, z_11, z_12, z_13, z_14, z_15, z_16, z_17, z_18, z_19, z_20, z_21, z_22, z_23, z_24, z_25, z_26, z_27, z_28, z_29, z_30, z_31, z_32, z_33, z_34, z_35, z_36, z_37, z_38, z_39, z_40, z_41, z_42, z_43, z_44, z_45, z_46, z_47, z_48, z_49, z_50, z_51, z_52, z_53, z_54, z_55, z_56, z_57, z_58, z_59, z_60, z_61, z_77, z_91, z_93, z_97, z_100, z_101, z_102, z_103, z_105, z_111, z_114, z_120, z_123, z_125, z_126, z_200, z_245, z_255, z_576, z_585, z_1000, z_2000, z_3510, z_11700, true_implies, false_implies, implies_true, not_true_eq_false, not_false_eq_true, true_and, and_true, false_and, and_false, ↓reduceIte, Int.reduceToNat, Int.reduceNeg, Int.toNat_natCast, t1]
      · simp (disch := omega) only [jup_self, jup_ne, z_add, z_sub, z_mul, z_neg, z_leT, z_leF, z_ltT, z_ltF, z_eqT, z_eqF, z_inT, z_clamp, z_nI, z_0, z_1, z_2, z_3, z_4, z_5, z_6, z_7, z_8, z_9, z_10, z_11, z_12, z_13, z_14, z_15, z_16, z_17, z_18, z_19, z_20, z_21, z_22, z_23, z_24, z_25, z_26, z_27, z_28, z_29, z_30, z_31, z_32, z_33, z_34, z_35, z_36, z_37, z_38, z_39, z_40, z_41, z_42, z_43, z_44, z_45, z_46, z_47, z_48, z_49, z_50, z_51, z_52, z_53, z_54, z_55, z_56, z_57, z_58, z_59, z_60, z_61, z_77, z_91, z_93, z_97, z_100, z_101, z_102, z_103, z_105, z_111, z_114, z_120, z_123, z_125, z_126, z_200, z_245, z_255, z_576, z_585, z_1000, z_2000, z_3510, z_11700, true_implies, false_implies, implies_true, not_true_eq_false, not_false_eq_true, true_and, and_true, false_and, and_false, ↓reduceIte, Int.reduceToNat, Int.reduceNeg, Int.toNat_natCast, t2]
set_option maxHeartbeats 4000000 in
set_option maxRecDepth 100000 in
theorem ho_ok {M0 : jM} {n : Int} {w : Int → Int → Int} {o : Int → Int} {f l rd fa : Int} {Q : Int32 → Nat → jM → Prop} (hG : GH n w o) (hM : MR M0 n w o) (hf : 0 ≤ f) (hfl : f ≤ l) (hl : l < n) (h27 : M0 11 0 27 = zI rd) (h28 : M0 11 0 28 = zI fa) (hfa : 0 ≤ fa ∧ fa ≤ 9) (hQ : ∀ M1, fm [59, 60] [22, 23, 24, 27, 28] M0 M1 → M1 11 0 27 = zI (trG (o 1) w f l (lat0, rd, 0, fa)).2.1 → M1 11 0 28 = zI (trG (o 1) w f l (lat0, rd, 0, fa)).2.2.2 → TB (trG (o 1) w f l (lat0, rd, 0, fa)) → Q (zI (trG (o 1) w f l (lat0, rd, 0, fa)).2.2.1) 0 M1) : ok_X12_hitsOf (zI f) (zI l) M0 Q := by
  have hn := hG.1
  have hw := hG.2.1.2.1
  have hst := st_in hG hf (show 0 ≤ l - f + 1 by omega) (by omega)
  have hst1 : tF w f (l - f + 1) ≤ 120 := by
    rw [tF_s (show 0 ≤ l - f by omega)]
    have i1 := sh_in hG hf (show f ≤ f + (l - f) by omega) (show f + (l - f) < n by omega)
    have hO := (hG.2.2 (f + (l - f)) (by omega) (by omega)).1
    omega
  refine en_X12_hitsOf (bl_X12_hitsOf_0 _ _ _ _ ?_)
  refine ls_ok hG hM hf hfl hl (fun M1 r a1 a2 _ _ => ⟨fm_nb a1, ?_⟩)
  have inner : ∀ (t : Int), 0 ≤ t → t ≤ 120 → ∀ (y : TRs), (∀ M2, fm [60] [27, 28] M1 M2 → TN M2 (trT (o 1) w f t (l - f + 1) y) → at_X12_hitsOf_51 (zI f) (zI l) (zI (trT (o 1) w f t (l - f + 1) y).2.2.1) (zI (tL w f (l - f + 1))) (zI (t + 1)) M2 Q) →
      ∀ (d : Nat) (k : Int) (v3 v6 : Int32) (M : jM), k + d = l - f + 1 → 0 ≤ k → v3 = zI (trT (o 1) w f t k y).2.2.1 → v6 = zI (f + k) → fm [60] [27, 28] M1 M → TN M (trT (o 1) w f t k y) → at_X12_hitsOf_61 (zI f) (zI l) v3 (zI (tL w f (l - f + 1))) (zI t) v6 M Q := by
    intro t ht1 ht2 y hout d
    induction d with
    | zero =>
      intro k v3 v6 M hd h0 h3 h6 hfr hT
      subst h3 h6
      refine bl_X12_hitsOf_61 _ _ _ _ _ _ _ _ ?_
      simp (disch := omega) only [z_add, z_sub, z_mul, z_neg, z_leT, z_leF, z_ltT, z_ltF, z_eqT, z_eqF, z_inT, z_clamp, z_nI, z_0, z_1, z_2, z_3, z_4, z_5, z_6, z_7, z_8, z_9, z_10, z_11, z_12, z_13, z_14, z_15, z_16, z_17, z_18, z_19, z_20, z_21, z_22, z_23, z_24, z_25, z_26, z_27, z_28, z_29, z_30, z_31, z_32, z_33, z_34, z_35, z_36, z_37, z_38, z_39, z_40, z_41, z_42, z_43, z_44, z_45, z_46, z_47, z_48, z_49, z_50, z_51, z_52, z_53, z_54, z_55, z_56, z_57, z_58, z_59, z_60, z_61, z_77, z_91, z_93, z_97, z_100, z_101, z_102, z_103, z_105, z_111, z_114, z_120, z_123, z_125, z_126, z_200, z_245, z_255, z_576, z_585, z_1000, z_2000, z_3510, z_11700, true_implies, false_implies, implies_true, not_true_eq_false, not_false_eq_true, true_and, and_true, false_and, and_false, ↓reduceIte, Int.reduceToNat, Int.reduceNeg, Int.toNat_natCast]
      have e : k = l - f + 1 := by omega
      rw [e] at hT ⊢
      exact hout M hfr hT
    | succ d ih =>
      intro k v3 v6 M hd h0 h3 h6 hfr hT
      subst h3 h6
      refine bl_X12_hitsOf_61 _ _ _ _ _ _ _ _ ?_
      have hM' := MR_fm (MR_fm hM a1) hfr
      have s1 : M 59 0 (f + k).toNat = zI (sh w f (f + k)) := by rw [hfr.1 59 (by decide) (by decide)]; exact a2 (f + k) (by omega) (by omega)
      have i1 := sh_in hG hf (show f ≤ f + k by omega) (show f + k < n by omega)
      have hO := hG.2.2 (f + k) (by omega) (by omega)
      have hw1 := hO.1
      have e1 := trT_s (win := o 1) (w := w) (f := f) (t := t) (x := y) h0
      have hR := MR_RW hM' (show 0 ≤ f + k by omega) (by omega)
      have r0 := hR 0 (by omega) (by omega)
      simp (disch := omega) only [z_add, z_sub, z_mul, z_neg, z_leT, z_leF, z_ltT, z_ltF, z_eqT, z_eqF, z_inT, z_clamp, z_nI, z_0, z_1, z_2, z_3, z_4, z_5, z_6, z_7, z_8, z_9, z_10, z_11, z_12, z_13, z_14, z_15, z_16, z_17, z_18, z_19, z_20, z_21, z_22, z_23, z_24, z_25, z_26, z_27, z_28, z_29, z_30, z_31, z_32, z_33, z_34, z_35, z_36, z_37, z_38, z_39, z_40, z_41, z_42, z_43, z_44, z_45, z_46, z_47, z_48, z_49, z_50, z_51, z_52, z_53, z_54, z_55, z_56, z_57, z_58, z_59, z_60, z_61, z_77, z_91, z_93, z_97, z_100, z_101, z_102, z_103, z_105, z_111, z_114, z_120, z_123, z_125, z_126, z_200, z_245, z_255, z_576, z_585, z_1000, z_2000, z_3510, z_11700, true_implies, false_implies, implies_true, not_true_eq_false, not_false_eq_true, true_and, and_true, false_and, and_false, ↓reduceIte, Int.reduceToNat, Int.reduceNeg, Int.toNat_natCast, s1]
      by_cases q : w (f + k) 0 ≤ t - sh w f (f + k) ∧ t - sh w f (f + k) ≤ w (f + k) 1
      · rw [if_pos q] at e1
        exact mh_82 (by omega) hO hR hM'.2.1.2.1 q ⟨ht1, ht2⟩ hw (fun M2 c1 c2 => ih (k + 1) _ _ M2 (by omega) (by omega) (by rw [e1]) (zc (by omega)) (fm_tr hfr c1) (by rw [e1]; exact c2)) (w (f + k) 4).toNat 0 _ _ M (by have := hO.2.1; omega) (by omega) (by rw [trB_0]) rfl (fm_rf _ _ _) (by rw [trB_0]; exact hT)
      · rw [if_neg q] at e1
        refine bl_X12_hitsOf_82 _ _ _ _ _ _ _ _ _ _ ?_
        have hR' := hR
        unfold RW at hR'
        have h4 := hO.2.1
        have fin := ih (k + 1) _ _ M (by omega) (by omega) rfl (zc (show f + k + 1 = f + (k + 1) by omega)) hfr (by rw [e1]; exact hT)
        rw [e1] at fin
        by_cases q1 : w (f + k) 0 ≤ t - sh w f (f + k)
        · simp (disch := omega) only [z_add, z_sub, z_mul, z_neg, z_leT, z_leF, z_ltT, z_ltF, z_eqT, z_eqF, z_inT, z_clamp, z_nI, z_0, z_1, z_2, z_3, z_4, z_5, z_6, z_7, z_8, z_9, z_10, z_11, z_12, z_13, z_14, z_15, z_16, z_17, z_18, z_19, z_20, z_21, z_22, z_23, z_24, z_25, z_26, z_27, z_28, z_29, z_30, z_31, z_32, z_33, z_34, z_35, z_36, z_37, z_38, z_39, z_40, z_41, z_42, z_43, z_44, z_45, z_46, z_47, z_48, z_49, z_50, z_51, z_52, z_53, z_54, z_55, z_56, z_57, z_58, z_59, z_60, z_61, z_77, z_91, z_93, z_97, z_100, z_101, z_102, z_103, z_105, z_111, z_114, z_120, z_123, z_125, z_126, z_200, z_245, z_255, z_576, z_585, z_1000, z_2000, z_3510, z_11700, true_implies, false_implies, implies_true, not_true_eq_false, not_false_eq_true, true_and, and_true, false_and, and_false, ↓reduceIte, Int.reduceToNat, Int.reduceNeg, Int.toNat_natCast, hR']
          exact ⟨fun _ => fin, fun _ => fin⟩
        · simp (disch := omega) only [z_add, z_sub, z_mul, z_neg, z_leT, z_leF, z_ltT, z_ltF, z_eqT, z_eqF, z_inT, z_clamp, z_nI, z_0, z_1, z_2, z_3, z_4, z_5, z_6, z_7, z_8, z_9, z_10, z_11, z_12, z_13, z_14, z_15, z_16, z_17, z_18, z_19, z_20, z_21, z_22, z_23, z_24, z_25, z_26, z_27, z_28, z_29, z_30, z_31, z_32, z_33, z_34, z_35, z_36, z_37, z_38, z_39, z_40, z_41, z_42, z_43, z_44, z_45, z_46, z_47, z_48, z_49, z_50, z_51, z_52, z_53, z_54, z_55, z_56, z_57, z_58, z_59, z_60, z_61, z_77, z_91, z_93, z_97, z_100, z_101, z_102, z_103, z_105, z_111, z_114, z_120, z_123, z_125, z_126, z_200, z_245, z_255, z_576, z_585, z_1000, z_2000, z_3510, z_11700, true_implies, false_implies, implies_true, not_true_eq_false, not_false_eq_true, true_and, and_true, false_and, and_false, ↓reduceIte, Int.reduceToNat, Int.reduceNeg, Int.toNat_natCast, hR']
          exact ⟨fun _ => fin, fun _ => fin⟩
  have outer : ∀ (d : Nat) (k : Int) (v3 v5 : Int32) (M : jM), k + d = max (tL w f (l - f + 1) - tF w f (l - f + 1) + 1) 0 → 0 ≤ k → v3 = zI (trK (o 1) w f l k (lat0, rd, 0, fa)).2.2.1 → v5 = zI (tF w f (l - f + 1) + k) → fm [60] [27, 28] M1 M → TN M (trK (o 1) w f l k (lat0, rd, 0, fa)) → at_X12_hitsOf_51 (zI f) (zI l) v3 (zI (tL w f (l - f + 1))) v5 M Q := by
    intro d
    induction d with
    | zero =>
      intro k v3 v5 M hd h0 h3 h5 hfr hT
      subst h3 h5
      refine bl_X12_hitsOf_51 _ _ _ _ _ _ _ ?_
      simp (disch := omega) only [z_add, z_sub, z_mul, z_neg, z_leT, z_leF, z_ltT, z_ltF, z_eqT, z_eqF, z_inT, z_clamp, z_nI, z_0, z_1, z_2, z_3, z_4, z_5, z_6, z_7, z_8, z_9, z_10, z_11, z_12, z_13, z_14, z_15, z_16, z_17, z_18, z_19, z_20, z_21, z_22, z_23, z_24, z_25, z_26, z_27, z_28, z_29, z_30, z_31, z_32, z_33, z_34, z_35, z_36, z_37, z_38, z_39, z_40, z_41, z_42, z_43, z_44, z_45, z_46, z_47, z_48, z_49, z_50, z_51, z_52, z_53, z_54, z_55, z_56, z_57, z_58, z_59, z_60, z_61, z_77, z_91, z_93, z_97, z_100, z_101, z_102, z_103, z_105, z_111, z_114, z_120, z_123, z_125, z_126, z_200, z_245, z_255, z_576, z_585, z_1000, z_2000, z_3510, z_11700, true_implies, false_implies, implies_true, not_true_eq_false, not_false_eq_true, true_and, and_true, false_and, and_false, ↓reduceIte, Int.reduceToNat, Int.reduceNeg, Int.toNat_natCast]
      have e : trK (o 1) w f l k (lat0, rd, 0, fa) = trG (o 1) w f l (lat0, rd, 0, fa) := by
        unfold trG
        by_cases e : tL w f (l - f + 1) - tF w f (l - f + 1) + 1 = k
        · rw [e]
        · have hk : k = 0 := by omega
          rw [hk, trK_0]
          unfold trK
          rw [ni_0 (by omega)]
      rw [e] at hT ⊢
      exact hQ M (fm_tr a1 hfr) hT.1.1 hT.1.2 hT.2.2
    | succ d ih =>
      intro k v3 v5 M hd h0 h3 h5 hfr hT
      subst h3 h5
      refine bl_X12_hitsOf_51 _ _ _ _ _ _ _ ?_
      simp (disch := omega) only [z_add, z_sub, z_mul, z_neg, z_leT, z_leF, z_ltT, z_ltF, z_eqT, z_eqF, z_inT, z_clamp, z_nI, z_0, z_1, z_2, z_3, z_4, z_5, z_6, z_7, z_8, z_9, z_10, z_11, z_12, z_13, z_14, z_15, z_16, z_17, z_18, z_19, z_20, z_21, z_22, z_23, z_24, z_25, z_26, z_27, z_28, z_29, z_30, z_31, z_32, z_33, z_34, z_35, z_36, z_37, z_38, z_39, z_40, z_41, z_42, z_43, z_44, z_45, z_46, z_47, z_48, z_49, z_50, z_51, z_52, z_53, z_54, z_55, z_56, z_57, z_58, z_59, z_60, z_61, z_77, z_91, z_93, z_97, z_100, z_101, z_102, z_103, z_105, z_111, z_114, z_120, z_123, z_125, z_126, z_200, z_245, z_255, z_576, z_585, z_1000, z_2000, z_3510, z_11700, true_implies, false_implies, implies_true, not_true_eq_false, not_false_eq_true, true_and, and_true, false_and, and_false, ↓reduceIte, Int.reduceToNat, Int.reduceNeg, Int.toNat_natCast]
      exact inner (tF w f (l - f + 1) + k) (by omega) (by omega) (trK (o 1) w f l k (lat0, rd, 0, fa)) (fun M2 c1 c2 => ih (k + 1) _ _ M2 (by omega) (by omega) (by rw [trK_s h0]) (zc (by omega)) c1 (by rw [trK_s h0]; exact c2)) (l - f + 1).toNat 0 _ _ M (by omega) (by omega) (by rw [trT_0]) (zc (by omega)) hfr (by rw [trT_0]; exact hT)
  have fill : ∀ (d : Nat) (k : Int) (v3 : Int32) (M : jM), k + d = 245 → 0 ≤ k → v3 = zI k → fm [60] [27, 28] M1 M → M 11 = M1 11 → (∀ c, 0 ≤ c → c < k → M 60 0 c.toNat = zI (-1000)) → at_X12_hitsOf_9 (zI f) (zI l) v3 M Q := by
    intro d
    induction d with
    | zero =>
      intro k v3 M hd h0 h3 hfr h11 hs
      subst h3
      refine bl_X12_hitsOf_9 _ _ _ _ _ ?_
      have hM' := MR_fm (MR_fm hM a1) hfr
      have hS' : MSH M w f l := by unfold MSH at *; rw [hfr.1 59 (by decide) (by decide)]; exact a2
      simp (disch := omega) only [z_add, z_sub, z_mul, z_neg, z_leT, z_leF, z_ltT, z_ltF, z_eqT, z_eqF, z_inT, z_clamp, z_nI, z_0, z_1, z_2, z_3, z_4, z_5, z_6, z_7, z_8, z_9, z_10, z_11, z_12, z_13, z_14, z_15, z_16, z_17, z_18, z_19, z_20, z_21, z_22, z_23, z_24, z_25, z_26, z_27, z_28, z_29, z_30, z_31, z_32, z_33, z_34, z_35, z_36, z_37, z_38, z_39, z_40, z_41, z_42, z_43, z_44, z_45, z_46, z_47, z_48, z_49, z_50, z_51, z_52, z_53, z_54, z_55, z_56, z_57, z_58, z_59, z_60, z_61, z_77, z_91, z_93, z_97, z_100, z_101, z_102, z_103, z_105, z_111, z_114, z_120, z_123, z_125, z_126, z_200, z_245, z_255, z_576, z_585, z_1000, z_2000, z_3510, z_11700, true_implies, false_implies, implies_true, not_true_eq_false, not_false_eq_true, true_and, and_true, false_and, and_false, ↓reduceIte, Int.reduceToNat, Int.reduceNeg, Int.toNat_natCast]
      rw [← z_0]
      refine so_ok hG hM' hS' hf hfl hl (Or.inl rfl) (fun _ => ⟨rfl, ?_⟩) (fun z => absurd z (by decide))
      rw [← z_1]
      refine so_ok hG hM' hS' hf hfl hl (Or.inr rfl) (fun z => absurd z (by decide)) (fun _ => ⟨rfl, ?_⟩)
      refine outer (max (tL w f (l - f + 1) - tF w f (l - f + 1) + 1) 0).toNat 0 _ _ M (by omega) (by omega) (by rw [trK_0]; rfl) (zc (by omega)) hfr ?_
      rw [trK_0]
      refine ⟨⟨?_, ?_⟩, fun c c1 c2 => hs c c1 (by omega), fun c => (show -1000 ≤ (-1000 : Int) ∧ (-1000 : Int) ≤ 120 by omega), hfa⟩
      · rw [h11, a1.2 27 (by decide)]; exact h27
      · rw [h11, a1.2 28 (by decide)]; exact h28
    | succ d ih =>
      intro k v3 M hd h0 h3 hfr h11 hs
      subst h3
      refine bl_X12_hitsOf_9 _ _ _ _ _ ?_
      simp (disch := omega) only [z_add, z_sub, z_mul, z_neg, z_leT, z_leF, z_ltT, z_ltF, z_eqT, z_eqF, z_inT, z_clamp, z_nI, z_0, z_1, z_2, z_3, z_4, z_5, z_6, z_7, z_8, z_9, z_10, z_11, z_12, z_13, z_14, z_15, z_16, z_17, z_18, z_19, z_20, z_21, z_22, z_23, z_24, z_25, z_26, z_27, z_28, z_29, z_30, z_31, z_32, z_33, z_34, z_35, z_36, z_37, z_38, z_39, z_40, z_41, z_42, z_43, z_44, z_45, z_46, z_47, z_48, z_49, z_50, z_51, z_52, z_53, z_54, z_55, z_56, z_57, z_58, z_59, z_60, z_61, z_77, z_91, z_93, z_97, z_100, z_101, z_102, z_103, z_105, z_111, z_114, z_120, z_123, z_125, z_126, z_200, z_245, z_255, z_576, z_585, z_1000, z_2000, z_3510, z_11700, true_implies, false_implies, implies_true, not_true_eq_false, not_false_eq_true, true_and, and_true, false_and, and_false, ↓reduceIte, Int.reduceToNat, Int.reduceNeg, Int.toNat_natCast]
      rintro M2 rfl
      refine ih (k + 1) _ _ (by omega) (by omega) rfl (fm_up hfr) (by rw [jup_o (by decide)]; exact h11) (fun c c1 c2 => ?_)
      by_cases e : c = k
      · rw [e, jup_self]
      · rw [jup_ne (by omega)]; exact hs c c1 (by omega)
  exact fill 245 0 _ M1 (by omega) (by omega) rfl (fm_rf _ _ _) rfl (fun c c1 c2 => by omega)
