/-! ===== hits: what is counted ===== -/
theorem ni_rel {σ τ : Type} {f : Int → σ → σ} {g : Int → τ → τ} {s : σ} {t : τ} {k : Int} (R : σ → τ → Prop) (h0 : R s t) (hs : ∀ j x y, 0 ≤ j → j < k → R x y → R (f j x) (g j y)) : R (ni k f s) (ni k g t) := by
  by_cases hk : 0 ≤ k
  · have := ni_inv (f := f) (s := s) (k := k) (P := fun j x => R x (ni j g t)) (by rw [ni_0 (Int.le_refl 0)]; exact h0) hk (fun j x h1 h2 hx => by rw [ni_s h1]; exact hs j _ _ h1 h2 hx)
    exact this
  · rw [ni_0 (by omega), ni_0 (by omega)]; exact h0
def upZ (f : Int → Int) (c v : Int) : Int → Int := fun x => if x = c then v else f x
theorem upZ_s {f : Int → Int} {c v : Int} : upZ f c v c = v := if_pos rfl
theorem upZ_n {f : Int → Int} {c v x : Int} (h : x ≠ c) : upZ f c v x = f x := if_neg h
abbrev TRs : Type := (Int → Int) × Int × Int × Int
def trR (win : Int) (v : Int → Int) (t i r : Int) (x : TRs) : TRs :=
  if v (53 + r) = 1 then (upZ x.1 (plc v r + i) t, x.2)
  else if t - x.1 (plc v r + i) ≤ win then (upZ x.1 (plc v r + i) t, x.2.1 + 1, x.2.2.1 + 1, max x.2.2.2 (t - x.1 (plc v r + i)))
  else (upZ x.1 (plc v r + i) t, x.2.1 + 1, x.2.2.1, x.2.2.2)
def trB (win : Int) (v : Int → Int) (t i k : Int) (x : TRs) : TRs := ni k (fun r x => trR win v t i r x) x
def trT (win : Int) (w : Int → Int → Int) (f t k : Int) (x : TRs) : TRs := ni k (fun b x => if w (f + b) 0 ≤ t - sh w f (f + b) ∧ t - sh w f (f + b) ≤ w (f + b) 1 then trB win (w (f + b)) t (t - sh w f (f + b)) (w (f + b) 4) x else x) x
def trK (win : Int) (w : Int → Int → Int) (f l k : Int) (x : TRs) : TRs := ni k (fun b x => trT win w f (tF w f (l - f + 1) + b) (l - f + 1) x) x
def trG (win : Int) (w : Int → Int → Int) (f l : Int) (x : TRs) : TRs := trK win w f l (tL w f (l - f + 1) - tF w f (l - f + 1) + 1) x
theorem trB_0 {win : Int} {v : Int → Int} {t i : Int} {x : TRs} : trB win v t i 0 x = x := ni_0 (Int.le_refl 0)
theorem trB_s {win : Int} {v : Int → Int} {t i k : Int} {x : TRs} (h : 0 ≤ k) : trB win v t i (k + 1) x = trR win v t i k (trB win v t i k x) := ni_s h
theorem trT_0 {win : Int} {w : Int → Int → Int} {f t : Int} {x : TRs} : trT win w f t 0 x = x := ni_0 (Int.le_refl 0)
theorem trT_s {win : Int} {w : Int → Int → Int} {f t k : Int} {x : TRs} (h : 0 ≤ k) : trT win w f t (k + 1) x = if w (f + k) 0 ≤ t - sh w f (f + k) ∧ t - sh w f (f + k) ≤ w (f + k) 1 then trB win (w (f + k)) t (t - sh w f (f + k)) (w (f + k) 4) (trT win w f t k x) else trT win w f t k x := ni_s h
theorem trK_0 {win : Int} {w : Int → Int → Int} {f l : Int} {x : TRs} : trK win w f l 0 x = x := ni_0 (Int.le_refl 0)
theorem trK_s {win : Int} {w : Int → Int → Int} {f l k : Int} {x : TRs} (h : 0 ≤ k) : trK win w f l (k + 1) x = trT win w f (tF w f (l - f + 1) + k) (l - f + 1) (trK win w f l k x) := ni_s h
def TB (x : TRs) : Prop := (∀ c, -1000 ≤ x.1 c ∧ x.1 c ≤ 120) ∧ 0 ≤ x.2.2.2 ∧ x.2.2.2 ≤ 9
theorem upZ_in {f : Int → Int} {c v : Int} (h : ∀ c, -1000 ≤ f c ∧ f c ≤ 120) (hv : -1000 ≤ v ∧ v ≤ 120) : ∀ x, -1000 ≤ upZ f c v x ∧ upZ f c v x ≤ 120 := by
  intro x
  by_cases q : x = c
  · rw [q, upZ_s]; exact hv
  · rw [upZ_n q]; exact h x
theorem TB_R {win : Int} {v : Int → Int} {t i r : Int} {x : TRs} (h : TB x) (ht : 0 ≤ t ∧ t ≤ 120) (hw : win ≤ 9) : TB (trR win v t i r x) := by
  unfold trR
  have := h.1 (plc v r + i)
  by_cases q : v (53 + r) = 1
  · rw [if_pos q]; exact ⟨upZ_in h.1 (by omega), h.2⟩
  · rw [if_neg q]
    by_cases q2 : t - x.1 (plc v r + i) ≤ win
    · rw [if_pos q2]; refine ⟨upZ_in h.1 (by omega), ?_⟩
      have := h.2
      show 0 ≤ max x.2.2.2 (t - x.1 (plc v r + i)) ∧ max x.2.2.2 (t - x.1 (plc v r + i)) ≤ 9
      omega
    · rw [if_neg q2]; exact ⟨upZ_in h.1 (by omega), h.2⟩
/-- the trace in memory -/
def TM (M : jM) (win : Int) (x : TRs) : Prop :=
  (M 9 0 1 = zI win ∧ M 9 0 2 = zI x.2.1 ∧ M 9 0 3 = zI x.2.2.1 ∧ M 9 0 4 = zI x.2.2.2) ∧ (∀ c, 0 ≤ c → c < 245 → M 43 0 c.toNat = zI (x.1 c)) ∧ TB x
set_option maxHeartbeats 4000000 in
set_option maxRecDepth 100000 in
theorem tri_at {M0 : jM} {b : Nat} {v : Int → Int} {win t i : Int} {x : TRs} {Q : Int32 → Nat → jM → Prop} (hb : b < jnb M0) (hB : BR M0 b v) (hO : OKL v) (hi : 0 ≤ i ∧ i ≤ 30) (ht : 0 ≤ t ∧ t ≤ 120) (hw : 0 ≤ win ∧ win ≤ 9) (hQ : ∀ M1, fr [9, 43] M0 M1 → TM M1 win (trB win v t i (v 4) x) → Q 0 0 M1) :
    ∀ (d : Nat) (r : Int) (v4 : Int32) (M : jM), r + d = v 4 → 0 ≤ r → v4 = zI r → fr [9, 43] M0 M → TM M win (trB win v t i r x) → at_X9_iterate_3 (zI t) b (zI i) v4 M Q := by
  obtain ⟨_, ⟨a4, a5, a6, a7⟩, a8, _⟩ := hO
  have k1 := hB.1.1
  intro d
  induction d with
  | zero =>
    intro r v4 M hd h0 h4 hfr hT
    subst h4
    refine bl_X9_iterate_3 _ _ _ _ _ _ (by rw [fr_nb hfr]; exact hb) ?_
    have F0 := hfr 0 (by decide)
    simp (disch := omega) only [z_add, z_sub, z_mul, z_neg, z_leT, z_leF, z_ltT, z_ltF, z_eqT, z_eqF, z_inT, z_clamp, z_nI, z_0, z_1, z_2, z_3, z_4, z_5, z_6, z_7, z_8, z_9, z_10, z_11, z_12, z_13, z_14, z_15, z_16, z_17, z_18, z_19, z_20, z_21, z_22, z_23, z_24, z_25, z_26, z_27, z_28, z_29, z_30, z_31, z_32, z_33, z_34, z_35, z_36, z_37, z_38, z_39, z_40, z_41, z_42, z_43, z_44, z_45, z_46, z_47, z_48, z_49, z_50, z_51, z_52, z_53, z_54, z_55, z_56, z_57, z_58, z_59, z_60, z_61, z_77, z_91, z_93, z_97, z_100, z_101, z_102, z_103, z_105, z_111, z_114, z_120, z_123, z_125, z_126, z_200, z_245, z_255, z_576, z_585, z_1000, z_2000, z_3510, z_11700, true_implies, false_implies, implies_true, not_true_eq_false, not_false_eq_true, true_and, and_true, false_and, and_false, ↓reduceIte, Int.reduceToNat, Int.reduceNeg, Int.toNat_natCast, F0, k1]
    have : r = v 4 := by omega
    rw [this] at hT
    exact hQ M hfr hT
  | succ d ih =>
    intro r v4 M hd h0 h4 hfr hT
    subst h4
    refine bl_X9_iterate_3 _ _ _ _ _ _ (by rw [fr_nb hfr]; exact hb) ?_
    have F0 := hfr 0 (by decide)
    have F20 := hfr 20 (by decide)
    have F21 := hfr 21 (by decide)
    obtain ⟨p1, p2, _⟩ := hB.2.1 r h0 (by omega)
    obtain ⟨⟨m1, m2⟩, ⟨m3, m4⟩, m5, _⟩ := a8 r h0 (by omega)
    obtain ⟨⟨t1, t2, t3, t4⟩, tl, tb⟩ := hT
    have hpl : plc v r = 49 * v (5 + r) + (v (29 + r) + 9) := rfl
    have hc : 0 ≤ plc v r + i ∧ plc v r + i < 245 := by omega
    have e1 := trB_s (win := win) (v := v) (t := t) (i := i) (x := x) h0
    have tb2 := TB_R (win := win) (v := v) (i := i) (r := r) tb ht hw.2
    generalize hy : trB win v t i r x = y at *
    have hlat := tl (plc v r + i) hc.1 hc.2
    have hlb := tb.1 (plc v r + i)
    have hfb := tb.2
    generalize hcc : plc v r + i = c at *
    have fin : ∀ (M1 : jM), fr [9, 43] M M1 → TM M1 win (trR win v t i r y) → at_X9_iterate_3 (zI t) b (zI i) (zI (r + 1)) M1 Q := fun M1 h1 h2 =>
      ih (r + 1) _ M1 (by omega) (by omega) rfl (fr_tr hfr h1) (by rw [e1]; exact h2)
    have er : trR win v t i r y = if v (53 + r) = 1 then (upZ y.1 c t, y.2) else if t - y.1 c ≤ win then (upZ y.1 c t, y.2.1 + 1, y.2.2.1 + 1, max y.2.2.2 (t - y.1 c)) else (upZ y.1 c t, y.2.1 + 1, y.2.2.1, y.2.2.2) := by unfold trR; rw [hcc]
    have lat2 : ∀ (M1 : jM), M1 43 = jup M 43 0 c.toNat (zI t) 43 → ∀ x, 0 ≤ x → x < 245 → M1 43 0 x.toNat = zI (upZ y.1 c t x) := by
      intro M1 h1 x h2 h3
      rw [h1]
      by_cases q : x = c
      · rw [q, upZ_s]; exact jup_self _ _ _ _ _
      · rw [upZ_n q, jup_ne (by omega)]; exact tl x h2 h3
    rcases m5 with m5 | m5
    · rw [if_neg (by omega)] at er
      rw [m5] at p2
      by_cases q : t - y.1 c ≤ win
      · rw [if_pos q] at er
        rw [er] at fin tb2
        simp (disch := omega) only [z_add, z_sub, z_mul, z_neg, z_leT, z_leF, z_ltT, z_ltF, z_eqT, z_eqF, z_inT, z_clamp, z_nI, z_0, z_1, z_2, z_3, z_4, z_5, z_6, z_7, z_8, z_9, z_10, z_11, z_12, z_13, z_14, z_15, z_16, z_17, z_18, z_19, z_20, z_21, z_22, z_23, z_24, z_25, z_26, z_27, z_28, z_29, z_30, z_31, z_32, z_33, z_34, z_35, z_36, z_37, z_38, z_39, z_40, z_41, z_42, z_43, z_44, z_45, z_46, z_47, z_48, z_49, z_50, z_51, z_52, z_53, z_54, z_55, z_56, z_57, z_58, z_59, z_60, z_61, z_77, z_91, z_93, z_97, z_100, z_101, z_102, z_103, z_105, z_111, z_114, z_120, z_123, z_125, z_126, z_200, z_245, z_255, z_576, z_585, z_1000, z_2000, z_3510, z_11700, true_implies, false_implies, implies_true, not_true_eq_false, not_false_eq_true, true_and, and_true, false_and, and_false, ↓reduceIte, Int.reduceToNat, Int.reduceNeg, Int.toNat_natCast, F0, F20, F21, k1, p1, p2, hcc]
        rintro M1 rfl
        simp (disch := omega) only [jup_self, jup_ne, z_add, z_sub, z_mul, z_neg, z_leT, z_leF, z_ltT, z_ltF, z_eqT, z_eqF, z_inT, z_clamp, z_nI, z_0, z_1, z_2, z_3, z_4, z_5, z_6, z_7, z_8, z_9, z_10, z_11, z_12, z_13, z_14, z_15, z_16, z_17, z_18, z_19, z_20, z_21, z_22, z_23, z_24, z_25, z_26, z_27, z_28, z_29, z_30, z_31, z_32, z_33, z_34, z_35, z_36, z_37, z_38, z_39, z_40, z_41, z_42, z_43, z_44, z_45, z_46, z_47, z_48, z_49, z_50, z_51, z_52, z_53, z_54, z_55, z_56, z_57, z_58, z_59, z_60, z_61, z_77, z_91, z_93, z_97, z_100, z_101, z_102, z_103, z_105, z_111, z_114, z_120, z_123, z_125, z_126, z_200, z_245, z_255, z_576, z_585, z_1000, z_2000, z_3510, z_11700, true_implies, false_implies, implies_true, not_true_eq_false, not_false_eq_true, true_and, and_true, false_and, and_false, ↓reduceIte, Int.reduceToNat, Int.reduceNeg, Int.toNat_natCast, F0, F20, F21, k1, p1, p2, hcc, t1, t2, t3, t4, hlat]
        rintro M2 rfl
        simp (disch := omega) only [jup_self, jup_ne, z_add, z_sub, z_mul, z_neg, z_leT, z_leF, z_ltT, z_ltF, z_eqT, z_eqF, z_inT, z_clamp, z_nI, z_0, z_1, z_2, z_3, z_4, z_5, z_6, z_7, z_8, z_9, z_10, z_11, z_12, z_13, z_14, z_15, z_16, z_17, z_18, z_19, z_20, z_21, z_22, z_23, z_24, z_25, z_26, z_27, z_28, z_29, z_30, z_31, z_32, z_33, z_34, z_35, z_36, z_37, z_38, z_39, z_40, z_41, z_42, z_43, z_44, z_45, z_46, z_47, z_48, z_49, z_50, z_51, z_52, z_53, z_54, z_55, z_56, z_57, z_58, z_59, z_60, z_61, z_77, z_91, z_93, z_97, z_100, z_101, z_102, z_103, z_105, z_111, z_114, z_120, z_123, z_125, z_126, z_200, z_245, z_255, z_576, z_585, z_1000, z_2000, z_3510, z_11700, true_implies, false_implies, implies_true, not_true_eq_false, not_false_eq_true, true_and, and_true, false_and, and_false, ↓reduceIte, Int.reduceToNat, Int.reduceNeg, Int.toNat_natCast, F0, F20, F21, k1, p1, p2, hcc, t1, t2, t3, t4, hlat]
        rintro M3 rfl
        simp (disch := omega) only [jup_self, jup_ne, z_add, z_sub, z_mul, z_neg, z_leT, z_leF, z_ltT, z_ltF, z_eqT, z_eqF, z_inT, z_clamp, z_nI, z_0, z_1, z_2, z_3, z_4, z_5, z_6, z_7, z_8, z_9, z_10, z_11, z_12, z_13, z_14, z_15, z_16, z_17, z_18, z_19, z_20, z_21, z_22, z_23, z_24, z_25, z_26, z_27, z_28, z_29, z_30, z_31, z_32, z_33, z_34, z_35, z_36, z_37, z_38, z_39, z_40, z_41, z_42, z_43, z_44, z_45, z_46, z_47, z_48, z_49, z_50, z_51, z_52, z_53, z_54, z_55, z_56, z_57, z_58, z_59, z_60, z_61, z_77, z_91, z_93, z_97, z_100, z_101, z_102, z_103, z_105, z_111, z_114, z_120, z_123, z_125, z_126, z_200, z_245, z_255, z_576, z_585, z_1000, z_2000, z_3510, z_11700, true_implies, false_implies, implies_true, not_true_eq_false, not_false_eq_true, true_and, and_true, false_and, and_false, ↓reduceIte, Int.reduceToNat, Int.reduceNeg, Int.toNat_natCast, F0, F20, F21, k1, p1, p2, hcc, t1, t2, t3, t4, hlat, z_max]
        rintro M4 rfl
        refine fin _ (fr_up (fr_up (fr_up (fr_up (fr_rf _ _))))) ⟨⟨?_, ?_, ?_, ?_⟩, lat2 _ ?_, tb2⟩
        · simp (disch := omega) only [jup_self, jup_ne, z_add, z_sub, z_mul, z_neg, z_leT, z_leF, z_ltT, z_ltF, z_eqT, z_eqF, z_inT, z_clamp, z_nI, z_0, z_1, z_2, z_3, z_4, z_5, z_6, z_7, z_8, z_9, z_10, z_11, z_12, z_13, z_14, z_15, z_16, z_17, z_18, z_19, z_20, z_21, z_22, z_23, z_24, z_25, z_26, z_27, z_28, z_29, z_30, z_31, z_32, z_33, z_34, z_35, z_36, z_37, z_38, z_39, z_40, z_41, z_42, z_43, z_44, z_45, z_46, z_47, z_48, z_49, z_50, z_51, z_52, z_53, z_54, z_55, z_56, z_57, z_58, z_59, z_60, z_61, z_77, z_91, z_93, z_97, z_100, z_101, z_102, z_103, z_105, z_111, z_114, z_120, z_123, z_125, z_126, z_200, z_245, z_255, z_576, z_585, z_1000, z_2000, z_3510, z_11700, true_implies, false_implies, implies_true, not_true_eq_false, not_false_eq_true, true_and, and_true, false_and, and_false, ↓reduceIte, Int.reduceToNat, Int.reduceNeg, Int.toNat_natCast, t1]
        · simp (disch := omega) only [jup_self, jup_ne, z_add, z_sub, z_mul, z_neg, z_leT, z_leF, z_ltT, z_ltF, z_eqT, z_eqF, z_inT, z_clamp, z_nI, z_0, z_1, z_2, z_3, z_4, z_5, z_6, z_7, z_8, z_9, z_10, z_11, z_12, z_13, z_14, z_15, z_16, z_17, z_18, z_19, z_20, z_21, z_22, z_23, z_24, z_25, z_26, z_27, z_28, z_29, z_30, z_31, z_32, z_33, z_34, z_35, z_36, z_37, z_38, z_39, z_40, z_41, z_42, z_43, z_44, z_45, z_46, z_47, z_48, z_49, z_50, z_51, z_52, z_53, z_54, z_55, z_56, z_57, z_58, z_59, z_60, z_61, z_77, z_91, z_93, z_97, z_100, z_101, z_102, z_103, z_105, z_111, z_114, z_120, z_123, z_125, z_126, z_200, z_245, z_255, z_576, z_585, z_1000, z_2000, z_3510, z_11700, true_implies, false_implies, implies_true, not_true_eq_false, not_false_eq_true, true_and, and_true, false_and, and_false, ↓reduceIte, Int.reduceToNat, Int.reduceNeg, Int.toNat_natCast]
        · simp (disch := omega) only [jup_self, jup_ne, z_add, z_sub, z_mul, z_neg, z_leT, z_leF, z_ltT, z_ltF, z_eqT, z_eqF, z_inT, z_clamp, z_nI, z_0, z_1, z_2, z_3, z_4, z_5, z_6, z_7, z_8, z_9, z_10, z_11, z_12, z_13, z_14, z_15, z_16, z_17, z_18, z_19, z_20, z_21, z_22, z_23, z_24, z_25, z_26, z_27, z_28, z_29, z_30, z_31, z_32, z_33, z_34, z_35, z_36, z_37, z_38, z_39, z_40, z_41, z_42, z_43, z_44, z_45, z_46, z_47, z_48, z_49, z_50, z_51, z_52, z_53, z_54, z_55, z_56, z_57, z_58, z_59, z_60, z_61, z_77, z_91, z_93, z_97, z_100, z_101, z_102, z_103, z_105, z_111, z_114, z_120, z_123, z_125, z_126, z_200, z_245, z_255, z_576, z_585, z_1000, z_2000, z_3510, z_11700, true_implies, false_implies, implies_true, not_true_eq_false, not_false_eq_true, true_and, and_true, false_and, and_false, ↓reduceIte, Int.reduceToNat, Int.reduceNeg, Int.toNat_natCast]
        · simp (disch := omega) only [jup_self, jup_ne, z_add, z_sub, z_mul, z_neg, z_leT, z_leF, z_ltT, z_ltF, z_eqT, z_eqF, z_inT, z_clamp, z_nI, z_0, z_1, z_2, z_3, z_4, z_5, z_6, z_7, z_8, z_9, z_10, z_11, z_12, z_13, z_14, z_15, z_16, z_17, z_18, z_19, z_20, z_21, z_22, z_23, z_24, z_25, z_26, z_27, z_28, z_29, z_30, z_31, z_32, z_33, z_34, z_35, z_36, z_37, z_38, z_39, z_40, z_41, z_42, z_43, z_44, z_45, z_46, z_47, z_48, z_49, z_50, z_51, z_52, z_53, z_54, z_55, z_56, z_57, z_58, z_59, z_60, z_61, z_77, z_91, z_93, z_97, z_100, z_101, z_102, z_103, z_105, z_111, z_114, z_120, z_123, z_125, z_126, z_200, z_245, z_255, z_576, z_585, z_1000, z_2000, z_3510, z_11700, true_implies, false_implies, implies_true, not_true_eq_false, not_false_eq_true, true_and, and_true, false_and, and_false, ↓reduceIte, Int.reduceToNat, Int.reduceNeg, Int.toNat_natCast]
        · funext i' k'
          simp (disch := omega) only [jup_self, jup_ne, z_add, z_sub, z_mul, z_neg, z_leT, z_leF, z_ltT, z_ltF, z_eqT, z_eqF, z_inT, z_clamp, z_nI, z_0, z_1, z_2, z_3, z_4, z_5, z_6, z_7, z_8, z_9, z_10, z_11, z_12, z_13, z_14, z_15, z_16, z_17, z_18, z_19, z_20, z_21, z_22, z_23, z_24, z_25, z_26, z_27, z_28, z_29, z_30, z_31, z_32, z_33, z_34, z_35, z_36, z_37, z_38, z_39, z_40, z_41, z_42, z_43, z_44, z_45, z_46, z_47, z_48, z_49, z_50, z_51, z_52, z_53, z_54, z_55, z_56, z_57, z_58, z_59, z_60, z_61, z_77, z_91, z_93, z_97, z_100, z_101, z_102, z_103, z_105, z_111, z_114, z_120, z_123, z_125, z_126, z_200, z_245, z_255, z_576, z_585, z_1000, z_2000, z_3510, z_11700, true_implies, false_implies, implies_true, not_true_eq_false, not_false_eq_true, true_and, and_true, false_and, and_false, ↓reduceIte, Int.reduceToNat, Int.reduceNeg, Int.toNat_natCast]
      · rw [if_neg q] at er
        rw [er] at fin tb2
        simp (disch := omega) only [z_add, z_sub, z_mul, z_neg, z_leT, z_leF, z_ltT, z_ltF, z_eqT, z_eqF, z_inT, z_clamp, z_nI, z_0, z_1, z_2, z_3, z_4, z_5, z_6, z_7, z_8, z_9, z_10, z_11, z_12, z_13, z_14, z_15, z_16, z_17, z_18, z_19, z_20, z_21, z_22, z_23, z_24, z_25, z_26, z_27, z_28, z_29, z_30, z_31, z_32, z_33, z_34, z_35, z_36, z_37, z_38, z_39, z_40, z_41, z_42, z_43, z_44, z_45, z_46, z_47, z_48, z_49, z_50, z_51, z_52, z_53, z_54, z_55, z_56, z_57, z_58, z_59, z_60, z_61, z_77, z_91, z_93, z_97, z_100, z_101, z_102, z_103, z_105, z_111, z_114, z_120, z_123, z_125, z_126, z_200, z_245, z_255, z_576, z_585, z_1000, z_2000, z_3510, z_11700, true_implies, false_implies, implies_true, not_true_eq_false, not_false_eq_true, true_and, and_true, false_and, and_false, ↓reduceIte, Int.reduceToNat, Int.reduceNeg, Int.toNat_natCast, F0, F20, F21, k1, p1, p2, hcc]
        rintro M1 rfl
        simp (disch := omega) only [jup_self, jup_ne, z_add, z_sub, z_mul, z_neg, z_leT, z_leF, z_ltT, z_ltF, z_eqT, z_eqF, z_inT, z_clamp, z_nI, z_0, z_1, z_2, z_3, z_4, z_5, z_6, z_7, z_8, z_9, z_10, z_11, z_12, z_13, z_14, z_15, z_16, z_17, z_18, z_19, z_20, z_21, z_22, z_23, z_24, z_25, z_26, z_27, z_28, z_29, z_30, z_31, z_32, z_33, z_34, z_35, z_36, z_37, z_38, z_39, z_40, z_41, z_42, z_43, z_44, z_45, z_46, z_47, z_48, z_49, z_50, z_51, z_52, z_53, z_54, z_55, z_56, z_57, z_58, z_59, z_60, z_61, z_77, z_91, z_93, z_97, z_100, z_101, z_102, z_103, z_105, z_111, z_114, z_120, z_123, z_125, z_126, z_200, z_245, z_255, z_576, z_585, z_1000, z_2000, z_3510, z_11700, true_implies, false_implies, implies_true, not_true_eq_false, not_false_eq_true, true_and, and_true, false_and, and_false, ↓reduceIte, Int.reduceToNat, Int.reduceNeg, Int.toNat_natCast, F0, F20, F21, k1, p1, p2, hcc, t1, t2, t3, t4, hlat]
        rintro M2 rfl
        simp (disch := omega) only [jup_self, jup_ne, z_add, z_sub, z_mul, z_neg, z_leT, z_leF, z_ltT, z_ltF, z_eqT, z_eqF, z_inT, z_clamp, z_nI, z_0, z_1, z_2, z_3, z_4, z_5, z_6, z_7, z_8, z_9, z_10, z_11, z_12, z_13, z_14, z_15, z_16, z_17, z_18, z_19, z_20, z_21, z_22, z_23, z_24, z_25, z_26, z_27, z_28, z_29, z_30, z_31, z_32, z_33, z_34, z_35, z_36, z_37, z_38, z_39, z_40, z_41, z_42, z_43, z_44, z_45, z_46, z_47, z_48, z_49, z_50, z_51, z_52, z_53, z_54, z_55, z_56, z_57, z_58, z_59, z_60, z_61, z_77, z_91, z_93, z_97, z_100, z_101, z_102, z_103, z_105, z_111, z_114, z_120, z_123, z_125, z_126, z_200, z_245, z_255, z_576, z_585, z_1000, z_2000, z_3510, z_11700, true_implies, false_implies, implies_true, not_true_eq_false, not_false_eq_true, true_and, and_true, false_and, and_false, ↓reduceIte, Int.reduceToNat, Int.reduceNeg, Int.toNat_natCast, F0, F20, F21, k1, p1, p2, hcc, t1, t2, t3, t4, hlat]
        refine fin _ (fr_up (fr_up (fr_rf _ _))) ⟨⟨?_, ?_, ?_, ?_⟩, lat2 _ ?_, tb2⟩
        · simp (disch := omega) only [jup_self, jup_ne, z_add, z_sub, z_mul, z_neg, z_leT, z_leF, z_ltT, z_ltF, z_eqT, z_eqF, z_inT, z_clamp, z_nI, z_0, z_1, z_2, z_3, z_4, z_5, z_6, z_7, z_8, z_9, z_10, z_11, z_12, z_13, z_14, z_15, z_16, z_17, z_18, z_19, z_20, z_21, z_22, z_23, z_24, z_25, z_26, z_27, z_28, z_29, z_30, z_31, z_32, z_33, z_34, z_35, z_36, z_37, z_38, z_39, z_40, z_41, z_42, z_43, z_44, z_45, z_46, z_47, z_48, z_49, z_50, z_51, z_52, z_53, z_54, z_55, z_56, z_57, z_58, z_59, z_60, z_61, z_77, z_91, z_93, z_97, z_100, z_101, z_102, z_103, z_105, z_111, z_114, z_120, z_123, z_125, z_126, z_200, z_245, z_255, z_576, z_585, z_1000, z_2000, z_3510, z_11700, true_implies, false_implies, implies_true, not_true_eq_false, not_false_eq_true, true_and, and_true, false_and, and_false, ↓reduceIte, Int.reduceToNat, Int.reduceNeg, Int.toNat_natCast, t1]
        · simp (disch := omega) only [jup_self, jup_ne, z_add, z_sub, z_mul, z_neg, z_leT, z_leF, z_ltT, z_ltF, z_eqT, z_eqF, z_inT, z_clamp, z_nI, z_0, z_1, z_2, z_3, z_4, z_5, z_6, z_7, z_8, z_9, z_10, z_11, z_12, z_13, z_14, z_15, z_16, z_17, z_18, z_19, z_20, z_21, z_22, z_23, z_24, z_25, z_26, z_27, z_28, z_29, z_30, z_31, z_32, z_33, z_34, z_35, z_36, z_37, z_38, z_39, z_40, z_41, z_42, z_43, z_44, z_45, z_46, z_47, z_48, z_49, z_50, z_51, z_52, z_53, z_54, z_55, z_56, z_57, z_58, z_59, z_60, z_61, z_77, z_91, z_93, z_97, z_100, z_101, z_102, z_103, z_105, z_111, z_114, z_120, z_123, z_125, z_126, z_200, z_245, z_255, z_576, z_585, z_1000, z_2000, z_3510, z_11700, true_implies, false_implies, implies_true, not_true_eq_false, not_false_eq_true, true_and, and_true, false_and, and_false, ↓reduceIte, Int.reduceToNat, Int.reduceNeg, Int.toNat_natCast]
        · simp (disch := omega) only [jup_self, jup_ne, z_add, z_sub, z_mul, z_neg, z_leT, z_leF, z_ltT, z_ltF, z_eqT, z_eqF, z_inT, z_clamp, z_nI, z_0, z_1, z_2, z_3, z_4, z_5, z_6, z_7, z_8, z_9, z_10, z_11, z_12, z_13, z_14, z_15, z_16, z_17, z_18, z_19, z_20, z_21, z_22, z_23, z_24, z_25, z_26, z_27, z_28, z_29, z_30, z_31, z_32, z_33, z_34, z_35, z_36, z_37, z_38, z_39, z_40, z_41, z_42, z_43, z_44, z_45, z_46, z_47, z_48, z_49, z_50, z_51, z_52, z_53, z_54, z_55, z_56, z_57, z_58, z_59, z_60, z_61, z_77, z_91, z_93, z_97, z_100, z_101, z_102, z_103, z_105, z_111, z_114, z_120, z_123, z_125, z_126, z_200, z_245, z_255, z_576, z_585, z_1000, z_2000, z_3510, z_11700, true_implies, false_implies, implies_true, not_true_eq_false, not_false_eq_true, true_and, and_true, false_and, and_false, ↓reduceIte, Int.reduceToNat, Int.reduceNeg, Int.toNat_natCast, t3]
        · simp (disch := omega) only [jup_self, jup_ne, z_add, z_sub, z_mul, z_neg, z_leT, z_leF, z_ltT, z_ltF, z_eqT, z_eqF, z_inT, z_clamp, z_nI, z_0, z_1, z_2, z_3, z_4, z_5, z_6, z_7, z_8, z_9, z_10, z_11, z_12, z_13, z_14, z_15, z_16, z_17, z_18, z_19, z_20, z_21, z_22, z_23, z_24, z_25, z_26, z_27, z_28, z_29, z_30, z_31, z_32, z_33, z_34, z_35, z_36, z_37, z_38, z_39, z_40, z_41, z_42, z_43, z_44, z_45, z_46, z_47, z_48, z_49, z_50, z_51, z_52, z_53, z_54, z_55, z_56, z_57, z_58, z_59, z_60, z_61, z_77, z_91, z_93, z_97, z_100, z_101, z_102, z_103, z_105, z_111, z_114, z_120, z_123, z_125, z_126, z_200, z_245, z_255, z_576, z_585, z_1000, z_2000, z_3510, z_11700, true_implies, false_implies, implies_true, not_true_eq_false, not_false_eq_true, true_and, and_true, false_and, and_false, ↓reduceIte, Int.reduceToNat, Int.reduceNeg, Int.toNat_natCast, t4]
        · funext i' k'
          simp (disch := omega) only [jup_self, jup_ne, z_add, z_sub, z_mul, z_neg, z_leT, z_leF, z_ltT, z_ltF, z_eqT, z_eqF, z_inT, z_clamp, z_nI, z_0, z_1, z_2, z_3, z_4, z_5, z_6, z_7, z_8, z_9, z_10, z_11, z_12, z_13, z_14, z_15, z_16, z_17, z_18, z_19, z_20, z_21, z_22, z_23, z_24, z_25, z_26, z_27, z_28, z_29, z_30, z_31, z_32, z_33, z_34, z_35, z_36, z_37, z_38, z_39, z_40, z_41, z_42, z_43, z_44, z_45, z_46, z_47, z_48, z_49, z_50, z_51, z_52, z_53, z_54, z_55, z_56, z_57, z_58, z_59, z_60, z_61, z_77, z_91, z_93, z_97, z_100, z_101, z_102, z_103, z_105, z_111, z_114, z_120, z_123, z_125, z_126, z_200, z_245, z_255, z_576, z_585, z_1000, z_2000, z_3510, z_11700, true_implies, false_implies, implies_true, not_true_eq_false, not_false_eq_true, true_and, and_true, false_and, and_false, ↓reduceIte, Int.reduceToNat, Int.reduceNeg, Int.toNat_natCast]
    · rw [if_pos m5] at er
      rw [m5] at p2
      rw [er] at fin tb2
      simp (disch := omega) only [z_add, z_sub, z_mul, z_neg, z_leT, z_leF, z_ltT, z_ltF, z_eqT, z_eqF, z_inT, z_clamp, z_nI, z_0, z_1, z_2, z_3, z_4, z_5, z_6, z_7, z_8, z_9, z_10, z_11, z_12, z_13, z_14, z_15, z_16, z_17, z_18, z_19, z_20, z_21, z_22, z_23, z_24, z_25, z_26, z_27, z_28, z_29, z_30, z_31, z_32, z_33, z_34, z_35, z_36, z_37, z_38, z_39, z_40, z_41, z_42, z_43, z_44, z_45, z_46, z_47, z_48, z_49, z_50, z_51, z_52, z_53, z_54, z_55, z_56, z_57, z_58, z_59, z_60, z_61, z_77, z_91, z_93, z_97, z_100, z_101, z_102, z_103, z_105, z_111, z_114, z_120, z_123, z_125, z_126, z_200, z_245, z_255, z_576, z_585, z_1000, z_2000, z_3510, z_11700, true_implies, false_implies, implies_true, not_true_eq_false, not_false_eq_true, true_and, and_true, false_and, and_false, ↓reduceIte, Int.reduceToNat, Int.reduceNeg, Int.toNat_natCast, F0, F20, F21, k1, p1, p2, hcc]
      rintro M1 rfl
      simp (disch := omega) only [jup_self, jup_ne, z_add, z_sub, z_mul, z_neg, z_leT, z_leF, z_ltT, z_ltF, z_eqT, z_eqF, z_inT, z_clamp, z_nI, z_0, z_1, z_2, z_3, z_4, z_5, z_6, z_7, z_8, z_9, z_10, z_11, z_12, z_13, z_14, z_15, z_16, z_17, z_18, z_19, z_20, z_21, z_22, z_23, z_24, z_25, z_26, z_27, z_28, z_29, z_30, z_31, z_32, z_33, z_34, z_35, z_36, z_37, z_38, z_39, z_40, z_41, z_42, z_43, z_44, z_45, z_46, z_47, z_48, z_49, z_50, z_51, z_52, z_53, z_54, z_55, z_56, z_57, z_58, z_59, z_60, z_61, z_77, z_91, z_93, z_97, z_100, z_101, z_102, z_103, z_105, z_111, z_114, z_120, z_123, z_125, z_126, z_200, z_245, z_255, z_576, z_585, z_1000, z_2000, z_3510, z_11700, true_implies, false_implies, implies_true, not_true_eq_false, not_false_eq_true, true_and, and_true, false_and, and_false, ↓reduceIte, Int.reduceToNat, Int.reduceNeg, Int.toNat_natCast, F0, F20, F21, k1, p1, p2, hcc, t1, t2, t3, t4, hlat]
      rintro M2 rfl
      simp (disch := omega) only [jup_self, jup_ne, z_add, z_sub, z_mul, z_neg, z_leT, z_leF, z_ltT, z_ltF, z_eqT, z_eqF, z_inT, z_clamp, z_nI, z_0, z_1, z_2, z_3, z_4, z_5, z_6, z_7, z_8, z_9, z_10, z_11, z_12, z_13, z_14, z_15, z_16, z_17, z_18, z_19, z_20, z_21, z_22, z_23, z_24, z_25, z_26, z_27, z_28, z_29, z_30, z_31, z_32, z_33, z_34, z_35, z_36, z_37, z_38, z_39, z_40, z_41, z_42, z_43, z_44, z_45, z_46, z_47, z_48, z_49, z_50, z_51, z_52, z_53, z_54, z_55, z_56, z_57, z_58, z_59, z_60, z_61, z_77, z_91, z_93, z_97, z_100, z_101, z_102, z_103, z_105, z_111, z_114, z_120, z_123, z_125, z_126, z_200, z_245, z_255, z_576, z_585, z_1000, z_2000, z_3510, z_11700, true_implies, false_implies, implies_true, not_true_eq_false, not_false_eq_true, true_and, and_true, false_and, and_false, ↓reduceIte, Int.reduceToNat, Int.reduceNeg, Int.toNat_natCast, F0, F20, F21, k1, p1, p2, hcc, t1, t2, t3, t4, hlat]
      refine fin _ (fr_up (fr_up (fr_rf _ _))) ⟨⟨?_, ?_, ?_, ?_⟩, lat2 _ ?_, tb2⟩
      · simp (disch := omega) only [jup_self, jup_ne, z_add, z_sub, z_mul, z_neg, z_leT, z_leF, z_ltT, z_ltF, z_eqT, z_eqF, z_inT, z_clamp, z_nI, z_0, z_1, z_2, z_3, z_4, z_5, z_6, z_7, z_8, z_9, z_10, z_11, z_12, z_13, z_14, z_15, z_16, z_17, z_18, z_19, z_20, z_21, z_22, z_23, z_24, z_25, z_26, z_27, z_28, z_29, z_30, z_31, z_32, z_33, z_34, z_35, z_36, z_37, z_38, z_39, z_40, z_41, z_42, z_43, z_44, z_45, z_46, z_47, z_48, z_49, z_50, z_51, z_52, z_53, z_54, z_55, z_56, z_57, z_58, z_59, z_60, z_61, z_77, z_91, z_93, z_97, z_100, z_101, z_102, z_103, z_105, z_111, z_114, z_120, z_123, z_125, z_126, z_200, z_245, z_255, z_576, z_585, z_1000, z_2000, z_3510, z_11700, true_implies, false_implies, implies_true, not_true_eq_false, not_false_eq_true, true_and, and_true, false_and, and_false, ↓reduceIte, Int.reduceToNat, Int.reduceNeg, Int.toNat_natCast, t1]
      · simp (disch := omega) only [jup_self, jup_ne, z_add, z_sub, z_mul, z_neg, z_leT, z_leF, z_ltT, z_ltF, z_eqT, z_eqF, z_inT, z_clamp, z_nI, z_0, z_1, z_2, z_3, z_4, z_5, z_6, z_7, z_8, z_9, z_10, z_11, z_12, z_13, z_14, z_15, z_16, z_17, z_18, z_19, z_20, z_21, z_22, z_23, z_24, z_25, z_26, z_27, z_28, z_29, z_30, z_31, z_32, z_33, z_34, z_35, z_36, z_37, z_38, z_39, z_40, z_41, z_42, z_43, z_44, z_45, z_46, z_47, z_48, z_49, z_50, z_51, z_52, z_53, z_54, z_55, z_56, z_57, z_58, z_59, z_60, z_61, z_77, z_91, z_93, z_97, z_100, z_101, z_102, z_103, z_105, z_111, z_114, z_120, z_123, z_125, z_126, z_200, z_245, z_255, z_576, z_585, z_1000, z_2000, z_3510, z_11700, true_implies, false_implies, implies_true, not_true_eq_false, not_false_eq_true, true_and, and_true, false_and, and_false, ↓reduceIte, Int.reduceToNat, Int.reduceNeg, Int.toNat_natCast]
      · simp (disch := omega) only [jup_self, jup_ne, z_add, z_sub, z_mul, z_neg, z_leT, z_leF, z_ltT, z_ltF, z_eqT, z_eqF, z_inT, z_clamp, z_nI, z_0, z_1, z_2, z_3, z_4, z_5, z_6, z_7, z_8, z_9, z_10, z_11, z_12, z_13, z_14, z_15, z_16, z_17, z_18, z_19, z_20, z_21, z_22, z_23, z_24, z_25, z_26, z_27, z_28, z_29, z_30, z_31, z_32, z_33, z_34, z_35, z_36, z_37, z_38, z_39, z_40, z_41, z_42, z_43, z_44, z_45, z_46, z_47, z_48, z_49, z_50, z_51, z_52, z_53, z_54, z_55, z_56, z_57, z_58, z_59, z_60, z_61, z_77, z_91, z_93, z_97, z_100, z_101, z_102, z_103, z_105, z_111, z_114, z_120, z_123, z_125, z_126, z_200, z_245, z_255, z_576, z_585, z_1000, z_2000, z_3510, z_11700, true_implies, false_implies, implies_true, not_true_eq_false, not_false_eq_true, true_and, and_true, false_and, and_false, ↓reduceIte, Int.reduceToNat, Int.reduceNeg, Int.toNat_natCast, t3]
      · simp (disch := omega) only [jup_self, jup_ne, z_add, z_sub, z_mul, z_neg, z_leT, z_leF, z_ltT, z_ltF, z_eqT, z_eqF, z_inT, z_clamp, z_nI, z_0, z_1, z_2, z_3, z_4, z_5, z_6, z_7, z_8, z_9, z_10, z_11, z_12, z_13, z_14, z_15, z_16, z_17, z_18, z_19, z_20, z_21, z_22, z_23, z_24, z_25, z_26, z_27, z_28, z_29, z_30, z_31, z_32, z_33, z_34, z_35, z_36, z_37, z_38, z_39, z_40, z_41, z_42, z_43, z_44, z_45, z_46, z_47, z_48, z_49, z_50, z_51, z_52, z_53, z_54, z_55, z_56, z_57, z_58, z_59, z_60, z_61, z_77, z_91, z_93, z_97, z_100, z_101, z_102, z_103, z_105, z_111, z_114, z_120, z_123, z_125, z_126, z_200, z_245, z_255, z_576, z_585, z_1000, z_2000, z_3510, z_11700, true_implies, false_implies, implies_true, not_true_eq_false, not_false_eq_true, true_and, and_true, false_and, and_false, ↓reduceIte, Int.reduceToNat, Int.reduceNeg, Int.toNat_natCast, t4]
      · funext i' k'
        simp (disch := omega) only [jup_self, jup_ne, z_add, z_sub, z_mul, z_neg, z_leT, z_leF, z_ltT, z_ltF, z_eqT, z_eqF, z_inT, z_clamp, z_nI, z_0, z_1, z_2, z_3, z_4, z_5, z_6, z_7, z_8, z_9, z_10, z_11, z_12, z_13, z_14, z_15, z_16, z_17, z_18, z_19, z_20, z_21, z_22, z_23, z_24, z_25, z_26, z_27, z_28, z_29, z_30, z_31, z_32, z_33, z_34, z_35, z_36, z_37, z_38, z_39, z_40, z_41, z_42, z_43, z_44, z_45, z_46, z_47, z_48, z_49, z_50, z_51, z_52, z_53, z_54, z_55, z_56, z_57, z_58, z_59, z_60, z_61, z_77, z_91, z_93, z_97, z_100, z_101, z_102, z_103, z_105, z_111, z_114, z_120, z_123, z_125, z_126, z_200, z_245, z_255, z_576, z_585, z_1000, z_2000, z_3510, z_11700, true_implies, false_implies, implies_true, not_true_eq_false, not_false_eq_true, true_and, and_true, false_and, and_false, ↓reduceIte, Int.reduceToNat, Int.reduceNeg, Int.toNat_natCast]
theorem tri_ok {M : jM} {b : Nat} {v : Int → Int} {win t i : Int} {x : TRs} {Q : Int32 → Nat → jM → Prop} (hb : b < jnb M) (hB : BR M b v) (hO : OKL v) (hi : 0 ≤ i ∧ i ≤ 30) (ht : 0 ≤ t ∧ t ≤ 120) (hw : 0 ≤ win ∧ win ≤ 9) (hT : TM M win x) (hQ : ∀ M1, fr [9, 43] M M1 → TM M1 win (trB win v t i (v 4) x) → Q 0 0 M1) : ok_X9_iterate (zI t) b (zI i) M Q := by
  refine en_X9_iterate (bl_X9_iterate_0 _ _ _ _ _ hb ?_)
  exact tri_at hb hB hO hi ht hw hQ (v 4).toNat 0 _ M (by have := hO.2.1; omega) (by omega) rfl (fr_rf _ _) (by rw [trB_0]; exact hT)
theorem TB_T {n : Int} {w : Int → Int → Int} {o : Int → Int} {win f t : Int} {x : TRs} (h : TB x) (ht : 0 ≤ t ∧ t ≤ 120) (hw : win ≤ 9) {k : Int} (hk : 0 ≤ k) : TB (trT win w f t k x) := by
  unfold trT
  refine ni_inv (P := fun _ y => TB y) h hk (fun j y h1 h2 hy => ?_)
  show TB (if w (f + j) 0 ≤ t - sh w f (f + j) ∧ t - sh w f (f + j) ≤ w (f + j) 1 then trB win (w (f + j)) t (t - sh w f (f + j)) (w (f + j) 4) y else y)
  split
  · unfold trB
    by_cases q : 0 ≤ w (f + j) 4
    · exact ni_inv (P := fun _ y => TB y) hy q (fun r y h3 h4 hy => TB_R hy ht hw)
    · rw [ni_0 (by omega)]; exact hy
  · exact hy
set_option maxHeartbeats 4000000 in
set_option maxRecDepth 100000 in
theorem pft_ok {M0 : jM} {n : Int} {w : Int → Int → Int} {o : Int → Int} {f l win : Int} {x : TRs} {Q : Int32 → Nat → jM → Prop} (hP : PR M0 0 n w o) (hG : GH n w o) (hnb : jnb M0 ≤ 100000) (hS : GS M0 w f l) (hf : 0 ≤ f) (hfl : f ≤ l) (hl : l < n) (hw : 0 ≤ win ∧ win ≤ 9) (hT : TM M0 win x) (hQ : ∀ M1, fr [9, 43] M0 M1 → TM M1 win (trG win w f l x) → Q 0 0 M1) : ok_X1_perform_T M0 Q := by
  have hn := hG.1
  obtain ⟨⟨g5, g6⟩, gs, g7, g8, _⟩ := hS
  have hst := st_in hG hf (show 0 ≤ l - f + 1 by omega) (by omega)
  have inner : ∀ (t : Int), 0 ≤ t → t ≤ 120 → ∀ (y : TRs), (∀ M1, fr [9, 43] M0 M1 → TM M1 win (trT win w f t (l - f + 1) y) → at_X1_perform_T_5 (zI (t + 1)) M1 Q) →
      ∀ (d : Nat) (k : Int) (v3 : Int32) (M : jM), k + d = l - f + 1 → 0 ≤ k → v3 = zI (f + k) → fr [9, 43] M0 M → TM M win (trT win w f t k y) → at_X1_perform_T_18 (zI t) v3 M Q := by
    intro t ht1 ht2 y hout d
    induction d with
    | zero =>
      intro k v3 M hd h0 h3 hfr hT
      subst h3
      refine bl_X1_perform_T_18 _ _ _ _ ?_
      have F1 := hfr 1 (by decide)
      simp (disch := omega) only [z_add, z_sub, z_mul, z_neg, z_leT, z_leF, z_ltT, z_ltF, z_eqT, z_eqF, z_inT, z_clamp, z_nI, z_0, z_1, z_2, z_3, z_4, z_5, z_6, z_7, z_8, z_9, z_10, z_11, z_12, z_13, z_14, z_15, z_16, z_17, z_18, z_19, z_20, z_21, z_22, z_23, z_24, z_25, z_26, z_27, z_28, z_29, z_30, z_31, z_32, z_33, z_34, z_35, z_36, z_37, z_38, z_39, z_40, z_41, z_42, z_43, z_44, z_45, z_46, z_47, z_48, z_49, z_50, z_51, z_52, z_53, z_54, z_55, z_56, z_57, z_58, z_59, z_60, z_61, z_77, z_91, z_93, z_97, z_100, z_101, z_102, z_103, z_105, z_111, z_114, z_120, z_123, z_125, z_126, z_200, z_245, z_255, z_576, z_585, z_1000, z_2000, z_3510, z_11700, true_implies, false_implies, implies_true, not_true_eq_false, not_false_eq_true, true_and, and_true, false_and, and_false, ↓reduceIte, Int.reduceToNat, Int.reduceNeg, Int.toNat_natCast, F1, g6]
      have e : k = l - f + 1 := by omega
      rw [e] at hT
      exact hout M hfr hT
    | succ d ih =>
      intro k v3 M hd h0 h3 hfr hT
      subst h3
      refine bl_X1_perform_T_18 _ _ _ _ ?_
      have F1 := hfr 1 (by decide)
      have F3 := hfr 3 (by decide)
      have F27 := hfr 27 (by decide)
      have hP' := PR_r hP hfr
      obtain ⟨⟨b1, b2, _⟩, bb, hbb, b0, hBR⟩ := hP'.2.2 (f + k) (by omega) (by omega)
      have c1 := gs (f + k) (by omega) (by omega)
      have i1 := sh_in hG hf (show f ≤ f + k by omega) (show f + k < n by omega)
      have hO := hG.2.2 (f + k) (by omega) (by omega)
      have hw1 := hO.1
      have e1 := trT_s (win := win) (w := w) (f := f) (t := t) (x := y) h0
      have E : ((bb : Nat) : Int).toNat = bb := by omega
      have hnb2 : jnb M ≤ 100000 := by rw [fr_nb hfr]; exact hnb
      by_cases q1 : w (f + k) 0 ≤ t - sh w f (f + k)
      · by_cases q2 : t - sh w f (f + k) ≤ w (f + k) 1
        · rw [if_pos ⟨q1, q2⟩] at e1
          simp (disch := omega) only [z_add, z_sub, z_mul, z_neg, z_leT, z_leF, z_ltT, z_ltF, z_eqT, z_eqF, z_inT, z_clamp, z_nI, z_0, z_1, z_2, z_3, z_4, z_5, z_6, z_7, z_8, z_9, z_10, z_11, z_12, z_13, z_14, z_15, z_16, z_17, z_18, z_19, z_20, z_21, z_22, z_23, z_24, z_25, z_26, z_27, z_28, z_29, z_30, z_31, z_32, z_33, z_34, z_35, z_36, z_37, z_38, z_39, z_40, z_41, z_42, z_43, z_44, z_45, z_46, z_47, z_48, z_49, z_50, z_51, z_52, z_53, z_54, z_55, z_56, z_57, z_58, z_59, z_60, z_61, z_77, z_91, z_93, z_97, z_100, z_101, z_102, z_103, z_105, z_111, z_114, z_120, z_123, z_125, z_126, z_200, z_245, z_255, z_576, z_585, z_1000, z_2000, z_3510, z_11700, true_implies, false_implies, implies_true, not_true_eq_false, not_false_eq_true, true_and, and_true, false_and, and_false, ↓reduceIte, Int.reduceToNat, Int.reduceNeg, Int.toNat_natCast, F1, F27, g6, b1, b2, b0, c1, E]
          refine tri_ok hbb hBR hO (by omega) ⟨ht1, ht2⟩ hw hT (fun M1 a1 a2 => ⟨fr_nb a1, ?_⟩)
          exact ih (k + 1) _ M1 (by omega) (by omega) (zc (by omega)) (fr_tr hfr a1) (by rw [e1]; exact a2)
        · rw [if_neg (fun z => q2 z.2)] at e1
          simp (disch := omega) only [z_add, z_sub, z_mul, z_neg, z_leT, z_leF, z_ltT, z_ltF, z_eqT, z_eqF, z_inT, z_clamp, z_nI, z_0, z_1, z_2, z_3, z_4, z_5, z_6, z_7, z_8, z_9, z_10, z_11, z_12, z_13, z_14, z_15, z_16, z_17, z_18, z_19, z_20, z_21, z_22, z_23, z_24, z_25, z_26, z_27, z_28, z_29, z_30, z_31, z_32, z_33, z_34, z_35, z_36, z_37, z_38, z_39, z_40, z_41, z_42, z_43, z_44, z_45, z_46, z_47, z_48, z_49, z_50, z_51, z_52, z_53, z_54, z_55, z_56, z_57, z_58, z_59, z_60, z_61, z_77, z_91, z_93, z_97, z_100, z_101, z_102, z_103, z_105, z_111, z_114, z_120, z_123, z_125, z_126, z_200, z_245, z_255, z_576, z_585, z_1000, z_2000, z_3510, z_11700, true_implies, false_implies, implies_true, not_true_eq_false, not_false_eq_true, true_and, and_true, false_and, and_false, ↓reduceIte, Int.reduceToNat, Int.reduceNeg, Int.toNat_natCast, F1, F27, g6, b1, b2, b0, c1, E]
          exact ih (k + 1) _ M (by omega) (by omega) (zc (by omega)) hfr (by rw [e1]; exact hT)
      · rw [if_neg (fun z => q1 z.1)] at e1
        simp (disch := omega) only [z_add, z_sub, z_mul, z_neg, z_leT, z_leF, z_ltT, z_ltF, z_eqT, z_eqF, z_inT, z_clamp, z_nI, z_0, z_1, z_2, z_3, z_4, z_5, z_6, z_7, z_8, z_9, z_10, z_11, z_12, z_13, z_14, z_15, z_16, z_17, z_18, z_19, z_20, z_21, z_22, z_23, z_24, z_25, z_26, z_27, z_28, z_29, z_30, z_31, z_32, z_33, z_34, z_35, z_36, z_37, z_38, z_39, z_40, z_41, z_42, z_43, z_44, z_45, z_46, z_47, z_48, z_49, z_50, z_51, z_52, z_53, z_54, z_55, z_56, z_57, z_58, z_59, z_60, z_61, z_77, z_91, z_93, z_97, z_100, z_101, z_102, z_103, z_105, z_111, z_114, z_120, z_123, z_125, z_126, z_200, z_245, z_255, z_576, z_585, z_1000, z_2000, z_3510, z_11700, true_implies, false_implies, implies_true, not_true_eq_false, not_false_eq_true, true_and, and_true, false_and, and_false, ↓reduceIte, Int.reduceToNat, Int.reduceNeg, Int.toNat_natCast, F1, F27, g6, b1, b2, b0, c1, E]
        exact ih (k + 1) _ M (by omega) (by omega) (zc (by omega)) hfr (by rw [e1]; exact hT)
  have hst1 : tF w f (l - f + 1) ≤ 120 := by
    rw [tF_s (show 0 ≤ l - f by omega)]
    have i1 := sh_in hG hf (show f ≤ f + (l - f) by omega) (show f + (l - f) < n by omega)
    have hO := (hG.2.2 (f + (l - f)) (by omega) (by omega)).1
    omega
  have outer : ∀ (d : Nat) (k : Int) (v2 : Int32) (M : jM), k + d = max (tL w f (l - f + 1) - tF w f (l - f + 1) + 1) 0 → 0 ≤ k → v2 = zI (tF w f (l - f + 1) + k) → fr [9, 43] M0 M → TM M win (trK win w f l k x) → at_X1_perform_T_5 v2 M Q := by
    intro d
    induction d with
    | zero =>
      intro k v2 M hd h0 h2 hfr hT
      subst h2
      refine bl_X1_perform_T_5 _ _ _ ?_
      have F1 := hfr 1 (by decide)
      simp (disch := omega) only [z_add, z_sub, z_mul, z_neg, z_leT, z_leF, z_ltT, z_ltF, z_eqT, z_eqF, z_inT, z_clamp, z_nI, z_0, z_1, z_2, z_3, z_4, z_5, z_6, z_7, z_8, z_9, z_10, z_11, z_12, z_13, z_14, z_15, z_16, z_17, z_18, z_19, z_20, z_21, z_22, z_23, z_24, z_25, z_26, z_27, z_28, z_29, z_30, z_31, z_32, z_33, z_34, z_35, z_36, z_37, z_38, z_39, z_40, z_41, z_42, z_43, z_44, z_45, z_46, z_47, z_48, z_49, z_50, z_51, z_52, z_53, z_54, z_55, z_56, z_57, z_58, z_59, z_60, z_61, z_77, z_91, z_93, z_97, z_100, z_101, z_102, z_103, z_105, z_111, z_114, z_120, z_123, z_125, z_126, z_200, z_245, z_255, z_576, z_585, z_1000, z_2000, z_3510, z_11700, true_implies, false_implies, implies_true, not_true_eq_false, not_false_eq_true, true_and, and_true, false_and, and_false, ↓reduceIte, Int.reduceToNat, Int.reduceNeg, Int.toNat_natCast, F1, g8]
      refine hQ M hfr ?_
      unfold trG
      by_cases e : tL w f (l - f + 1) - tF w f (l - f + 1) + 1 = k
      · rw [e]; exact hT
      · have hk : k = 0 := by omega
        rw [hk, trK_0] at hT
        unfold trK
        rw [ni_0 (by omega)]
        exact hT
    | succ d ih =>
      intro k v2 M hd h0 h2 hfr hT
      subst h2
      refine bl_X1_perform_T_5 _ _ _ ?_
      have F1 := hfr 1 (by decide)
      simp (disch := omega) only [z_add, z_sub, z_mul, z_neg, z_leT, z_leF, z_ltT, z_ltF, z_eqT, z_eqF, z_inT, z_clamp, z_nI, z_0, z_1, z_2, z_3, z_4, z_5, z_6, z_7, z_8, z_9, z_10, z_11, z_12, z_13, z_14, z_15, z_16, z_17, z_18, z_19, z_20, z_21, z_22, z_23, z_24, z_25, z_26, z_27, z_28, z_29, z_30, z_31, z_32, z_33, z_34, z_35, z_36, z_37, z_38, z_39, z_40, z_41, z_42, z_43, z_44, z_45, z_46, z_47, z_48, z_49, z_50, z_51, z_52, z_53, z_54, z_55, z_56, z_57, z_58, z_59, z_60, z_61, z_77, z_91, z_93, z_97, z_100, z_101, z_102, z_103, z_105, z_111, z_114, z_120, z_123, z_125, z_126, z_200, z_245, z_255, z_576, z_585, z_1000, z_2000, z_3510, z_11700, true_implies, false_implies, implies_true, not_true_eq_false, not_false_eq_true, true_and, and_true, false_and, and_false, ↓reduceIte, Int.reduceToNat, Int.reduceNeg, Int.toNat_natCast, F1, g8, g5]
      refine inner (tF w f (l - f + 1) + k) (by omega) (by omega) (trK win w f l k x) (fun M1 a1 a2 => ih (k + 1) _ M1 (by omega) (by omega) (zc (by omega)) a1 (by rw [trK_s h0]; exact a2)) (l - f + 1).toNat 0 _ M (by omega) (by omega) (zc (by omega)) hfr (by rw [trT_0]; exact hT)
  refine en_X1_perform_T (bl_X1_perform_T_0 _ _ ?_)
  rw [g7]
  exact outer (max (tL w f (l - f + 1) - tF w f (l - f + 1) + 1) 0).toNat 0 _ M0 (by omega) (by omega) (zc (by omega)) (fr_rf _ _) (by rw [trK_0]; exact hT)
def lat0 : Int → Int := fun _ => -1000
/-- no place was ever referred to -/
def aL (M : jM) : Prop := ∀ c : Int, 0 ≤ c → c < 245 → M 43 0 c.toNat = zI (-1000)
theorem aL_fr {S : List Nat} {M M1 : jM} (h : aL M) (hf : fr S M M1) (h43 : 43 ∉ S := by decide) : aL M1 := fun c a b => by rw [hf 43 h43]; exact h c a b
theorem GS_fr {S : List Nat} {M M1 : jM} {w : Int → Int → Int} {f l : Int} (h : GS M w f l) (hf : fr S M M1) (h1 : 1 ∉ S := by decide) (h27 : 27 ∉ S := by decide) : GS M1 w f l := by
  unfold GS at *
  rw [hf 1 h1, hf 27 h27]
  exact h
theorem forget_ok {M0 : jM} {Q : Int32 → Nat → jM → Prop} (hQ : ∀ M1, fr [43] M0 M1 → aL M1 → Q 0 0 M1) : ok_X9_forget M0 Q := by
  have main : ∀ (d : Nat) (k : Int) (v1 : Int32) (M : jM), k + d = 245 → 0 ≤ k → v1 = zI k → fr [43] M0 M → (∀ c, 0 ≤ c → c < k → M 43 0 c.toNat = zI (-1000)) → at_X9_forget_2 v1 M Q := by
    intro d
    induction d with
    | zero =>
      intro k v1 M hd h0 h2 hfr hs
      subst h2
      refine bl_X9_forget_2 _ _ _ ?_
      simp (disch := omega) only [z_add, z_sub, z_mul, z_neg, z_leT, z_leF, z_ltT, z_ltF, z_eqT, z_eqF, z_inT, z_clamp, z_nI, z_0, z_1, z_2, z_3, z_4, z_5, z_6, z_7, z_8, z_9, z_10, z_11, z_12, z_13, z_14, z_15, z_16, z_17, z_18, z_19, z_20, z_21, z_22, z_23, z_24, z_25, z_26, z_27, z_28, z_29, z_30, z_31, z_32, z_33, z_34, z_35, z_36, z_37, z_38, z_39, z_40, z_41, z_42, z_43, z_44, z_45, z_46, z_47, z_48, z_49, z_50, z_51, z_52, z_53, z_54, z_55, z_56, z_57, z_58, z_59, z_60, z_61, z_77, z_91, z_93, z_97, z_100, z_101, z_102, z_103, z_105, z_111, z_114, z_120, z_123, z_125, z_126, z_200, z_245, z_255, z_576, z_585, z_1000, z_2000, z_3510, z_11700, true_implies, false_implies, implies_true, not_true_eq_false, not_false_eq_true, true_and, and_true, false_and, and_false, ↓reduceIte, Int.reduceToNat, Int.reduceNeg, Int.toNat_natCast]
      exact hQ M hfr (fun c h1 h3 => hs c h1 (by omega))
    | succ d ih =>
      intro k v1 M hd h0 h2 hfr hs
      subst h2
      refine bl_X9_forget_2 _ _ _ ?_
      simp (disch := omega) only [z_add, z_sub, z_mul, z_neg, z_leT, z_leF, z_ltT, z_ltF, z_eqT, z_eqF, z_inT, z_clamp, z_nI, z_0, z_1, z_2, z_3, z_4, z_5, z_6, z_7, z_8, z_9, z_10, z_11, z_12, z_13, z_14, z_15, z_16, z_17, z_18, z_19, z_20, z_21, z_22, z_23, z_24, z_25, z_26, z_27, z_28, z_29, z_30, z_31, z_32, z_33, z_34, z_35, z_36, z_37, z_38, z_39, z_40, z_41, z_42, z_43, z_44, z_45, z_46, z_47, z_48, z_49, z_50, z_51, z_52, z_53, z_54, z_55, z_56, z_57, z_58, z_59, z_60, z_61, z_77, z_91, z_93, z_97, z_100, z_101, z_102, z_103, z_105, z_111, z_114, z_120, z_123, z_125, z_126, z_200, z_245, z_255, z_576, z_585, z_1000, z_2000, z_3510, z_11700, true_implies, false_implies, implies_true, not_true_eq_false, not_false_eq_true, true_and, and_true, false_and, and_false, ↓reduceIte, Int.reduceToNat, Int.reduceNeg, Int.toNat_natCast]
      rintro M1 rfl
      refine ih (k + 1) _ _ (by omega) (by omega) rfl (fr_up hfr) (fun c h1 h3 => ?_)
      by_cases q : c = k
      · rw [q]; simp (disch := omega) only [jup_self, jup_ne, z_add, z_sub, z_mul, z_neg, z_leT, z_leF, z_ltT, z_ltF, z_eqT, z_eqF, z_inT, z_clamp, z_nI, z_0, z_1, z_2, z_3, z_4, z_5, z_6, z_7, z_8, z_9, z_10, z_11, z_12, z_13, z_14, z_15, z_16, z_17, z_18, z_19, z_20, z_21, z_22, z_23, z_24, z_25, z_26, z_27, z_28, z_29, z_30, z_31, z_32, z_33, z_34, z_35, z_36, z_37, z_38, z_39, z_40, z_41, z_42, z_43, z_44, z_45, z_46, z_47, z_48, z_49, z_50, z_51, z_52, z_53, z_54, z_55, z_56, z_57, z_58, z_59, z_60, z_61, z_77, z_91, z_93, z_97, z_100, z_101, z_102, z_103, z_105, z_111, z_114, z_120, z_123, z_125, z_126, z_200, z_245, z_255, z_576, z_585, z_1000, z_2000, z_3510, z_11700, true_implies, false_implies, implies_true, not_true_eq_false, not_false_eq_true, true_and, and_true, false_and, and_false, ↓reduceIte, Int.reduceToNat, Int.reduceNeg, Int.toNat_natCast]
      · simp (disch := omega) only [jup_self, jup_ne, z_add, z_sub, z_mul, z_neg, z_leT, z_leF, z_ltT, z_ltF, z_eqT, z_eqF, z_inT, z_clamp, z_nI, z_0, z_1, z_2, z_3, z_4, z_5, z_6, z_7, z_8, z_9, z_10, z_11, z_12, z_13, z_14, z_15, z_16, z_17, z_18, z_19, z_20, z_21, z_22, z_23, z_24, z_25, z_26, z_27, z_28, z_29, z_30, z_31, z_32, z_33, z_34, z_35, z_36, z_37, z_38, z_39, z_40, z_41, z_42, z_43, z_44, z_45, z_46, z_47, z_48, z_49, z_50, z_51, z_52, z_53, z_54, z_55, z_56, z_57, z_58, z_59, z_60, z_61, z_77, z_91, z_93, z_97, z_100, z_101, z_102, z_103, z_105, z_111, z_114, z_120, z_123, z_125, z_126, z_200, z_245, z_255, z_576, z_585, z_1000, z_2000, z_3510, z_11700, true_implies, false_implies, implies_true, not_true_eq_false, not_false_eq_true, true_and, and_true, false_and, and_false, ↓reduceIte, Int.reduceToNat, Int.reduceNeg, Int.toNat_natCast, hs]
  refine en_X9_forget (bl_X9_forget_0 _ _ ?_)
  exact main 245 0 _ M0 (by omega) (by omega) rfl (fr_rf _ _) (fun c h1 h2 => by omega)
theorem pf0_ok {M0 : jM} {n : Int} {w : Int → Int → Int} {o : Int → Int} {f l win rd ht fa : Int} {Q : Int32 → Nat → jM → Prop} (hP : PR M0 0 n w o) (hG : GH n w o) (hnb : jnb M0 ≤ 100000) (hS : GS M0 w f l) (hf : 0 ≤ f) (hfl : f ≤ l) (hl : l < n) (hw : 0 ≤ win ∧ win ≤ 9) (hfa : 0 ≤ fa ∧ fa ≤ 9) (t1 : M0 9 0 1 = zI win) (t2 : M0 9 0 2 = zI rd) (t3 : M0 9 0 3 = zI ht) (t4 : M0 9 0 4 = zI fa) (hL : aL M0) (hQ : ∀ M1, fr [9, 43] M0 M1 → TM M1 win (trG win w f l (lat0, rd, ht, fa)) → Q 0 0 M1) : ok_X1_perform_T M0 Q :=
  pft_ok (x := (lat0, rd, ht, fa)) hP hG hnb hS hf hfl hl hw ⟨⟨t1, t2, t3, t4⟩, fun c h1 h3 => hL c h1 (by omega), fun c => (show -1000 ≤ (-1000 : Int) ∧ (-1000 : Int) ≤ 120 by omega), hfa⟩ hQ
