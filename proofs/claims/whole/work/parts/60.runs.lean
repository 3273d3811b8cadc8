/-! ===== runs: what is executed ===== -/
def tgt (v : Int → Int) (s : Int) : Int := ni (v 4) (fun r acc => if v (53 + r) = 1 ∧ v (77 + r) = s then r else acc) 0
theorem tgt_eq {v : Int → Int} {s r : Int} (hO : OKL v) (h1 : 0 ≤ r ∧ r < v 4) (h2 : v (53 + r) = 1) (h3 : v (77 + r) = s) : tgt v s = r := by
  obtain ⟨rs, _, _, hu⟩ := hO.2.2.2.2
  have hr := hu r h1.1 h1.2 h2
  rw [h3] at hr
  unfold tgt
  have := ni_inv (f := fun r acc => if v (53 + r) = 1 ∧ v (77 + r) = s then r else acc) (s := (0 : Int)) (k := v 4) (P := fun j x => r < j → x = r) (fun z => by omega) (by omega) (fun j x h4 h5 hx => by
    show r < j + 1 → (if v (53 + j) = 1 ∧ v (77 + j) = s then j else x) = r
    intro h6
    by_cases q : v (53 + j) = 1 ∧ v (77 + j) = s
    · rw [if_pos q]
      have hj := hu j h4 h5 q.1
      rw [q.2] at hj
      omega
    · rw [if_neg q]
      by_cases e : j = r
      · rw [e] at q; exact absurd ⟨h2, h3⟩ q
      · exact hx (by omega))
  exact this h1.2
theorem tgt_in {v : Int → Int} {s : Int} (hO : OKL v) (hs : 0 ≤ s ∧ s < v 3) : 0 ≤ tgt v s ∧ tgt v s < v 4 ∧ v (53 + tgt v s) = 1 ∧ v (77 + tgt v s) = s := by
  obtain ⟨rs, h1, _, hu⟩ := hO.2.2.2.2
  obtain ⟨a, b, c, d⟩ := h1 s hs.1 hs.2
  rw [tgt_eq hO ⟨a, b⟩ c d]
  exact ⟨a, b, c, d⟩
def upC (C : Nat → Int32) (c : Nat) (x : Int32) : Nat → Int32 := fun y => if y = c then x else C y
theorem upC_M {M : jM} {R i c : Nat} {x : Int32} : jup M R i c x R i = upC (M R i) c x := by
  funext y
  unfold upC
  by_cases q : y = c
  · rw [if_pos q, q]; exact jup_self _ _ _ _ _
  · rw [if_neg q]; exact jup_ne (fun z => q z.2.2)
def exS (v : Int → Int) (i s : Int) (C : Nat → Int32) : Nat → Int32 := upC C (plc v (tgt v s) + i).toNat ((evN C v s i (v (101 + s))).headD 0)
def exB (v : Int → Int) (i k : Int) (C : Nat → Int32) : Nat → Int32 := ni k (fun s C => exS v i s C) C
def exT (w : Int → Int → Int) (f t k : Int) (C : Nat → Int32) : Nat → Int32 := ni k (fun b C => if w (f + b) 0 ≤ t - sh w f (f + b) ∧ t - sh w f (f + b) ≤ w (f + b) 1 then exB (w (f + b)) (t - sh w f (f + b)) (w (f + b) 3) C else C) C
def exK (w : Int → Int → Int) (f l k : Int) (C : Nat → Int32) : Nat → Int32 := ni k (fun b C => exT w f (tF w f (l - f + 1) + b) (l - f + 1) C) C
def exG (w : Int → Int → Int) (f l : Int) (C : Nat → Int32) : Nat → Int32 := exK w f l (tL w f (l - f + 1) - tF w f (l - f + 1) + 1) C
theorem exB_0 {v : Int → Int} {i : Int} {C : Nat → Int32} : exB v i 0 C = C := ni_0 (Int.le_refl 0)
theorem exB_s {v : Int → Int} {i k : Int} {C : Nat → Int32} (h : 0 ≤ k) : exB v i (k + 1) C = exS v i k (exB v i k C) := ni_s h
theorem exT_0 {w : Int → Int → Int} {f t : Int} {C : Nat → Int32} : exT w f t 0 C = C := ni_0 (Int.le_refl 0)
theorem exT_s {w : Int → Int → Int} {f t k : Int} {C : Nat → Int32} (h : 0 ≤ k) : exT w f t (k + 1) C = if w (f + k) 0 ≤ t - sh w f (f + k) ∧ t - sh w f (f + k) ≤ w (f + k) 1 then exB (w (f + k)) (t - sh w f (f + k)) (w (f + k) 3) (exT w f t k C) else exT w f t k C := ni_s h
theorem exK_0 {w : Int → Int → Int} {f l : Int} {C : Nat → Int32} : exK w f l 0 C = C := ni_0 (Int.le_refl 0)
theorem exK_s {w : Int → Int → Int} {f l k : Int} {C : Nat → Int32} (h : 0 ≤ k) : exK w f l (k + 1) C = exT w f (tF w f (l - f + 1) + k) (l - f + 1) (exK w f l k C) := ni_s h
def iniZ (seed k : Int) : Int32 := zI ((k / 49 + 1) * seed + 7 * ((k - k / 49 * 49) - 9))
def iniC (seed : Int) (C : Nat → Int32) : Nat → Int32 := fun c => if c < 245 then iniZ seed c else C c
/-- the regions of machine m that change: cells and stack -/
def frM (m : Nat) (M M1 : jM) : Prop := fr [33, 34] M M1 ∧ ∀ j, j ≠ m → M1 33 j = M 33 j
theorem frM_rf {m : Nat} {M : jM} : frM m M M := ⟨fr_rf _ _, fun _ _ => rfl⟩
theorem frM_tr {m : Nat} {M M1 M2 : jM} (h : frM m M M1) (h2 : frM m M1 M2) : frM m M M2 := ⟨fr_tr h.1 h2.1, fun j hj => (h2.2 j hj).trans (h.2 j hj)⟩
theorem frM_up {m : Nat} {M M1 : jM} {c : Nat} {x : Int32} (h : frM m M M1) : frM m M (jup M1 33 m c x) := ⟨fr_up h.1, fun j hj => by
  rw [← h.2 j hj]
  funext y
  exact jup_ne (fun z => hj z.2.1)⟩
theorem frM_34 {m : Nat} {M M1 : jM} (h : fr [34] M M1) : frM m M M1 := ⟨fr_mono h, fun j _ => by rw [h 33 (by decide)]⟩
set_option maxHeartbeats 4000000 in
set_option maxRecDepth 100000 in
theorem mit_ok {M0 : jM} {m b : Nat} {v : Int → Int} {i : Int} {t : Int32} {Q : Int32 → Nat → jM → Prop} (hm : m < 4) (hb : b < jnb M0) (hB : BR M0 b v) (hO : OKL v) (hi : 0 ≤ i ∧ i ≤ 30) (hQ : ∀ M1, frM m M0 M1 → M1 33 m = exB v i (v 3) (M0 33 m) → Q 0 0 M1) : ok_X4_iterate m t b (zI i) M0 Q := by
  have hO' := hO
  obtain ⟨_, ⟨a4, a5, a6, a7⟩, a8, _⟩ := hO
  have k1 := hB.1.2
  have main : ∀ (d : Nat) (s : Int) (v4 : Int32) (M : jM), s + d = v 3 → 0 ≤ s → v4 = zI s → frM m M0 M → M 33 m = exB v i s (M0 33 m) → at_X4_iterate_3 m b (zI i) v4 M Q := by
    intro d
    induction d with
    | zero =>
      intro s v4 M hd h0 h4 hfr hC
      subst h4
      refine bl_X4_iterate_3 _ _ _ _ _ _ hm (by rw [fr_nb hfr.1]; exact hb) ?_
      have F0 := hfr.1 0 (by decide)
      simp (disch := omega) only [z_add, z_sub, z_mul, z_neg, z_leT, z_leF, z_ltT, z_ltF, z_eqT, z_eqF, z_inT, z_clamp, z_nI, z_0, z_1, z_2, z_3, z_4, z_5, z_6, z_7, z_8, z_9, z_10, z_11, z_12, z_13, z_14, z_15, z_16, z_17, z_18, z_19, z_20, z_21, z_22, z_23, z_24, z_25, z_26, z_27, z_28, z_29, z_30, z_31, z_32, z_33, z_34, z_35, z_36, z_37, z_38, z_39, z_40, z_41, z_42, z_43, z_44, z_45, z_46, z_47, z_48, z_49, z_50, z_51, z_52, z_53, z_54, z_55, z_56, z_57, z_58, z_59, z_60, z_61, z_77, z_91, z_93, z_97, z_100, z_101, z_102, z_103, z_105, z_111, z_114, z_120, z_123, z_125, z_126, z_200, z_245, z_255, z_576, z_585, z_1000, z_2000, z_3510, z_11700, true_implies, false_implies, implies_true, not_true_eq_false, not_false_eq_true, true_and, and_true, false_and, and_false, ↓reduceIte, Int.reduceToNat, Int.reduceNeg, Int.toNat_natCast, F0, k1]
      have e : s = v 3 := by omega
      rw [e] at hC
      exact hQ M hfr hC
    | succ d ih =>
      intro s v4 M hd h0 h4 hfr hC
      subst h4
      refine bl_X4_iterate_3 _ _ _ _ _ _ hm (by rw [fr_nb hfr.1]; exact hb) ?_
      have F0 := hfr.1 0 (by decide)
      have F7 := hfr.1 7 (by decide)
      have hBM : BR M b v := by
        unfold BR BRs at *
        rw [F0, F7, hfr.1 20 (by decide), hfr.1 21 (by decide), hfr.1 22 (by decide), hfr.1 24 (by decide), hfr.1 25 (by decide), hfr.1 26 (by decide)]
        exact hB
      obtain ⟨f, h, r, d1, d2, d3, ⟨d4, d5, d6, d7⟩, _⟩ := hB.2.2 s h0 (by omega)
      have hr := tgt_eq hO' ⟨d2.1, d2.2.1⟩ d2.2.2.1 d2.2.2.2
      obtain ⟨⟨m1, m2⟩, ⟨m3, m4⟩, _⟩ := a8 r d2.1 d2.2.1
      have hpl : plc v r = 49 * v (5 + r) + (v (29 + r) + 9) := rfl
      simp (disch := omega) only [z_add, z_sub, z_mul, z_neg, z_leT, z_leF, z_ltT, z_ltF, z_eqT, z_eqF, z_inT, z_clamp, z_nI, z_0, z_1, z_2, z_3, z_4, z_5, z_6, z_7, z_8, z_9, z_10, z_11, z_12, z_13, z_14, z_15, z_16, z_17, z_18, z_19, z_20, z_21, z_22, z_23, z_24, z_25, z_26, z_27, z_28, z_29, z_30, z_31, z_32, z_33, z_34, z_35, z_36, z_37, z_38, z_39, z_40, z_41, z_42, z_43, z_44, z_45, z_46, z_47, z_48, z_49, z_50, z_51, z_52, z_53, z_54, z_55, z_56, z_57, z_58, z_59, z_60, z_61, z_77, z_91, z_93, z_97, z_100, z_101, z_102, z_103, z_105, z_111, z_114, z_120, z_123, z_125, z_126, z_200, z_245, z_255, z_576, z_585, z_1000, z_2000, z_3510, z_11700, true_implies, false_implies, implies_true, not_true_eq_false, not_false_eq_true, true_and, and_true, false_and, and_false, ↓reduceIte, Int.reduceToNat, Int.reduceNeg, Int.toNat_natCast, F0, k1]
      refine ev_ok hm (by rw [fr_nb hfr.1]; exact hb) hBM hO' ⟨h0, by omega⟩ hi (fun M1 c1 => ⟨fr_nb c1, ?_⟩)
      have G7 : M1 7 = M0 7 := (c1 7 (by decide)).trans F7
      simp (disch := omega) only [z_add, z_sub, z_mul, z_neg, z_leT, z_leF, z_ltT, z_ltF, z_eqT, z_eqF, z_inT, z_clamp, z_nI, z_0, z_1, z_2, z_3, z_4, z_5, z_6, z_7, z_8, z_9, z_10, z_11, z_12, z_13, z_14, z_15, z_16, z_17, z_18, z_19, z_20, z_21, z_22, z_23, z_24, z_25, z_26, z_27, z_28, z_29, z_30, z_31, z_32, z_33, z_34, z_35, z_36, z_37, z_38, z_39, z_40, z_41, z_42, z_43, z_44, z_45, z_46, z_47, z_48, z_49, z_50, z_51, z_52, z_53, z_54, z_55, z_56, z_57, z_58, z_59, z_60, z_61, z_77, z_91, z_93, z_97, z_100, z_101, z_102, z_103, z_105, z_111, z_114, z_120, z_123, z_125, z_126, z_200, z_245, z_255, z_576, z_585, z_1000, z_2000, z_3510, z_11700, true_implies, false_implies, implies_true, not_true_eq_false, not_false_eq_true, true_and, and_true, false_and, and_false, ↓reduceIte, Int.reduceToNat, Int.reduceNeg, Int.toNat_natCast, G7, d7]
      rintro M4 rfl
      refine ih (s + 1) _ _ (by omega) (by omega) rfl (frM_up (frM_tr hfr (frM_34 c1))) ?_
      rw [upC_M, c1 33 (by decide), exB_s h0, hC]
      unfold exS
      rw [hr, z_0]
  refine en_X4_iterate (bl_X4_iterate_0 _ _ _ _ _ _ hm hb ?_)
  exact main (v 3).toNat 0 _ M0 (by omega) (by omega) rfl frM_rf (by rw [exB_0])
set_option maxHeartbeats 4000000 in
set_option maxRecDepth 100000 in
theorem pfm_ok {M0 : jM} {n : Int} {w : Int → Int → Int} {o : Int → Int} {f l : Int} {m : Nat} {Q : Int32 → Nat → jM → Prop} (hm : m < 4) (hP : PR M0 0 n w o) (hG : GH n w o) (hnb : jnb M0 ≤ 100000) (hS : GS M0 w f l) (hf : 0 ≤ f) (hfl : f ≤ l) (hl : l < n) (hQ : ∀ M1, frM m M0 M1 → M1 33 m = exG w f l (M0 33 m) → Q 0 0 M1) : ok_X1_perform_M m M0 Q := by
  have hn := hG.1
  obtain ⟨⟨g5, g6⟩, gs, g7, g8, _⟩ := hS
  have hst := st_in hG hf (show 0 ≤ l - f + 1 by omega) (by omega)
  have inner : ∀ (t : Int), 0 ≤ t → t ≤ 120 → ∀ (y : Nat → Int32), (∀ M1, frM m M0 M1 → M1 33 m = exT w f t (l - f + 1) y → at_X1_perform_M_5 m (zI (t + 1)) M1 Q) →
      ∀ (d : Nat) (k : Int) (v3 : Int32) (M : jM), k + d = l - f + 1 → 0 ≤ k → v3 = zI (f + k) → frM m M0 M → M 33 m = exT w f t k y → at_X1_perform_M_18 m (zI t) v3 M Q := by
    intro t ht1 ht2 y hout d
    induction d with
    | zero =>
      intro k v3 M hd h0 h3 hfr hT
      subst h3
      refine bl_X1_perform_M_18 _ _ _ _ _ hm ?_
      have F1 := hfr.1 1 (by decide)
      simp (disch := omega) only [z_add, z_sub, z_mul, z_neg, z_leT, z_leF, z_ltT, z_ltF, z_eqT, z_eqF, z_inT, z_clamp, z_nI, z_0, z_1, z_2, z_3, z_4, z_5, z_6, z_7, z_8, z_9, z_10, z_11, z_12, z_13, z_14, z_15, z_16, z_17, z_18, z_19, z_20, z_21, z_22, z_23, z_24, z_25, z_26, z_27, z_28, z_29, z_30, z_31, z_32, z_33, z_34, z_35, z_36, z_37, z_38, z_39, z_40, z_41, z_42, z_43, z_44, z_45, z_46, z_47, z_48, z_49, z_50, z_51, z_52, z_53, z_54, z_55, z_56, z_57, z_58, z_59, z_60, z_61, z_77, z_91, z_93, z_97, z_100, z_101, z_102, z_103, z_105, z_111, z_114, z_120, z_123, z_125, z_126, z_200, z_245, z_255, z_576, z_585, z_1000, z_2000, z_3510, z_11700, true_implies, false_implies, implies_true, not_true_eq_false, not_false_eq_true, true_and, and_true, false_and, and_false, ↓reduceIte, Int.reduceToNat, Int.reduceNeg, Int.toNat_natCast, F1, g6]
      have e : k = l - f + 1 := by omega
      rw [e] at hT
      exact hout M hfr hT
    | succ d ih =>
      intro k v3 M hd h0 h3 hfr hT
      subst h3
      refine bl_X1_perform_M_18 _ _ _ _ _ hm ?_
      have F1 := hfr.1 1 (by decide)
      have F3 := hfr.1 3 (by decide)
      have F27 := hfr.1 27 (by decide)
      have hP' := PR_r hP hfr.1
      obtain ⟨⟨b1, b2, _⟩, bb, hbb, b0, hBR⟩ := hP'.2.2 (f + k) (by omega) (by omega)
      have c1 := gs (f + k) (by omega) (by omega)
      have i1 := sh_in hG hf (show f ≤ f + k by omega) (show f + k < n by omega)
      have hO := hG.2.2 (f + k) (by omega) (by omega)
      have hw1 := hO.1
      have e1 := exT_s (w := w) (f := f) (t := t) (C := y) h0
      have E : ((bb : Nat) : Int).toNat = bb := by omega
      have hnb2 : jnb M ≤ 100000 := by rw [fr_nb hfr.1]; exact hnb
      by_cases q1 : w (f + k) 0 ≤ t - sh w f (f + k)
      · by_cases q2 : t - sh w f (f + k) ≤ w (f + k) 1
        · rw [if_pos ⟨q1, q2⟩] at e1
          simp (disch := omega) only [z_add, z_sub, z_mul, z_neg, z_leT, z_leF, z_ltT, z_ltF, z_eqT, z_eqF, z_inT, z_clamp, z_nI, z_0, z_1, z_2, z_3, z_4, z_5, z_6, z_7, z_8, z_9, z_10, z_11, z_12, z_13, z_14, z_15, z_16, z_17, z_18, z_19, z_20, z_21, z_22, z_23, z_24, z_25, z_26, z_27, z_28, z_29, z_30, z_31, z_32, z_33, z_34, z_35, z_36, z_37, z_38, z_39, z_40, z_41, z_42, z_43, z_44, z_45, z_46, z_47, z_48, z_49, z_50, z_51, z_52, z_53, z_54, z_55, z_56, z_57, z_58, z_59, z_60, z_61, z_77, z_91, z_93, z_97, z_100, z_101, z_102, z_103, z_105, z_111, z_114, z_120, z_123, z_125, z_126, z_200, z_245, z_255, z_576, z_585, z_1000, z_2000, z_3510, z_11700, true_implies, false_implies, implies_true, not_true_eq_false, not_false_eq_true, true_and, and_true, false_and, and_false, ↓reduceIte, Int.reduceToNat, Int.reduceNeg, Int.toNat_natCast, F1, F27, g6, b1, b2, b0, c1, E]
          refine mit_ok hm hbb hBR hO (by omega) (fun M1 a1 a2 => ⟨fr_nb a1.1, ?_⟩)
          exact ih (k + 1) _ M1 (by omega) (by omega) (zc (by omega)) (frM_tr hfr a1) (by rw [e1, a2, hT])
        · rw [if_neg (fun z => q2 z.2)] at e1
          simp (disch := omega) only [z_add, z_sub, z_mul, z_neg, z_leT, z_leF, z_ltT, z_ltF, z_eqT, z_eqF, z_inT, z_clamp, z_nI, z_0, z_1, z_2, z_3, z_4, z_5, z_6, z_7, z_8, z_9, z_10, z_11, z_12, z_13, z_14, z_15, z_16, z_17, z_18, z_19, z_20, z_21, z_22, z_23, z_24, z_25, z_26, z_27, z_28, z_29, z_30, z_31, z_32, z_33, z_34, z_35, z_36, z_37, z_38, z_39, z_40, z_41, z_42, z_43, z_44, z_45, z_46, z_47, z_48, z_49, z_50, z_51, z_52, z_53, z_54, z_55, z_56, z_57, z_58, z_59, z_60, z_61, z_77, z_91, z_93, z_97, z_100, z_101, z_102, z_103, z_105, z_111, z_114, z_120, z_123, z_125, z_126, z_200, z_245, z_255, z_576, z_585, z_1000, z_2000, z_3510, z_11700, true_implies, false_implies, implies_true, not_true_eq_false, not_false_eq_true, true_and, and_true, false_and, and_false, ↓reduceIte, Int.reduceToNat, Int.reduceNeg, Int.toNat_natCast, F1, F27, g6, b1, b2, b0, c1, E]
          exact ih (k + 1) _ M (by omega) (by omega) (zc (by omega)) hfr (by rw [e1]; exact hT)
      · rw [if_neg (fun z => q1 z.1)] at e1
        simp (disch := omega) only [z_add, z_sub, z_mul, z_neg, z_leT, z_leF, z_ltT, z_ltF, z_eqT, z_eqF, z_inT, z_clamp, z_nI, z_0, z_1, z_2, z_3, z_4, z_5, z_6, z_7, z_8, z_9, z_10, z_11, z_12, z_13, z_14, z_15, z_16, z_17, z_18, z_19, z_20, z_21, z_22, z_23, z_24, z_25, z_26, z_27, z_28, z_29, z_30, z_31, z_32, z_33, z_34, z_35, z_36, z_37, z_38, z_39, z_40, z_41, z_42, z_43, z_44, z_45, z_46, z_47, z_48, z_49, z_50, z_51, z_52, z_53, z_54, z_55, z_56, z_57, z_58, z_59, z_60, z_61, z_77, z_91, z_93, z_97, z_100, z_101, z_102, z_103, z_105, z_111, z_114, z_120, z_123, z_125, z_126, z_200, z_245, z_255, z_576, z_585, z_1000, z_2000, z_3510, z_11700, true_implies, false_implies, implies_true, not_true_eq_false, not_false_eq_true, true_and, and_true, false_and, and_false, ↓reduceIte, Int.reduceToNat, Int.reduceNeg, Int.toNat_natCast, F1, F27, g6, b1, b2, b0, c1, E]
        exact ih (k + 1) _ M (by omega) (by omega) (zc (by omega)) hfr (by rw [e1]; exact hT)
  have hst1 : tF w f (l - f + 1) ≤ 120 := by
    rw [tF_s (show 0 ≤ l - f by omega)]
    have i1 := sh_in hG hf (show f ≤ f + (l - f) by omega) (show f + (l - f) < n by omega)
    have hO := (hG.2.2 (f + (l - f)) (by omega) (by omega)).1
    omega
  have outer : ∀ (d : Nat) (k : Int) (v2 : Int32) (M : jM), k + d = max (tL w f (l - f + 1) - tF w f (l - f + 1) + 1) 0 → 0 ≤ k → v2 = zI (tF w f (l - f + 1) + k) → frM m M0 M → M 33 m = exK w f l k (M0 33 m) → at_X1_perform_M_5 m v2 M Q := by
    intro d
    induction d with
    | zero =>
      intro k v2 M hd h0 h2 hfr hT
      subst h2
      refine bl_X1_perform_M_5 _ _ _ _ hm ?_
      have F1 := hfr.1 1 (by decide)
      simp (disch := omega) only [z_add, z_sub, z_mul, z_neg, z_leT, z_leF, z_ltT, z_ltF, z_eqT, z_eqF, z_inT, z_clamp, z_nI, z_0, z_1, z_2, z_3, z_4, z_5, z_6, z_7, z_8, z_9, z_10, z_11, z_12, z_13, z_14, z_15, z_16, z_17, z_18, z_19, z_20, z_21, z_22, z_23, z_24, z_25, z_26, z_27, z_28, z_29, z_30, z_31, z_32, z_33, z_34, z_35, z_36, z_37, z_38, z_39, z_40, z_41, z_42, z_43, z_44, z_45, z_46, z_47, z_48, z_49, z_50, z_51, z_52, z_53, z_54, z_55, z_56, z_57, z_58, z_59, z_60, z_61, z_77, z_91, z_93, z_97, z_100, z_101, z_102, z_103, z_105, z_111, z_114, z_120, z_123, z_125, z_126, z_200, z_245, z_255, z_576, z_585, z_1000, z_2000, z_3510, z_11700, true_implies, false_implies, implies_true, not_true_eq_false, not_false_eq_true, true_and, and_true, false_and, and_false, ↓reduceIte, Int.reduceToNat, Int.reduceNeg, Int.toNat_natCast, F1, g8]
      refine hQ M hfr ?_
      unfold exG
      by_cases e : tL w f (l - f + 1) - tF w f (l - f + 1) + 1 = k
      · rw [e]; exact hT
      · have hk : k = 0 := by omega
        rw [hk, exK_0] at hT
        unfold exK
        rw [ni_0 (by omega)]
        exact hT
    | succ d ih =>
      intro k v2 M hd h0 h2 hfr hT
      subst h2
      refine bl_X1_perform_M_5 _ _ _ _ hm ?_
      have F1 := hfr.1 1 (by decide)
      simp (disch := omega) only [z_add, z_sub, z_mul, z_neg, z_leT, z_leF, z_ltT, z_ltF, z_eqT, z_eqF, z_inT, z_clamp, z_nI, z_0, z_1, z_2, z_3, z_4, z_5, z_6, z_7, z_8, z_9, z_10, z_11, z_12, z_13, z_14, z_15, z_16, z_17, z_18, z_19, z_20, z_21, z_22, z_23, z_24, z_25, z_26, z_27, z_28, z_29, z_30, z_31, z_32, z_33, z_34, z_35, z_36, z_37, z_38, z_39, z_40, z_41, z_42, z_43, z_44, z_45, z_46, z_47, z_48, z_49, z_50, z_51, z_52, z_53, z_54, z_55, z_56, z_57, z_58, z_59, z_60, z_61, z_77, z_91, z_93, z_97, z_100, z_101, z_102, z_103, z_105, z_111, z_114, z_120, z_123, z_125, z_126, z_200, z_245, z_255, z_576, z_585, z_1000, z_2000, z_3510, z_11700, true_implies, false_implies, implies_true, not_true_eq_false, not_false_eq_true, true_and, and_true, false_and, and_false, ↓reduceIte, Int.reduceToNat, Int.reduceNeg, Int.toNat_natCast, F1, g8, g5]
      refine inner (tF w f (l - f + 1) + k) (by omega) (by omega) (exK w f l k (M0 33 m)) (fun M1 a1 a2 => ih (k + 1) _ M1 (by omega) (by omega) (zc (by omega)) a1 (by rw [exK_s h0]; exact a2)) (l - f + 1).toNat 0 _ M (by omega) (by omega) (zc (by omega)) hfr (by rw [exT_0]; exact hT)
  refine en_X1_perform_M (bl_X1_perform_M_0 _ _ _ hm ?_)
  rw [g7]
  exact outer (max (tL w f (l - f + 1) - tF w f (l - f + 1) + 1) 0).toNat 0 _ M0 (by omega) (by omega) (zc (by omega)) frM_rf (by rw [exK_0])
theorem beg_ok {M0 : jM} {m : Nat} {seed : Int} {Q : Int32 → Nat → jM → Prop} (hm : m < 4) (hQ : ∀ M1, frM m M0 M1 → fr [33] M0 M1 → M1 33 m = iniC seed (M0 33 m) → Q 0 0 M1) : ok_X4_begin m (zI seed) M0 Q := by
  have main : ∀ (d : Nat) (k : Int) (v2 : Int32) (M : jM), k + d = 245 → 0 ≤ k → v2 = zI k → frM m M0 M → fr [33] M0 M → (∀ c : Nat, M 33 m c = if (c : Int) < k then iniZ seed c else M0 33 m c) → at_X4_begin_2 m (zI seed) v2 M Q := by
    intro d
    induction d with
    | zero =>
      intro k v2 M hd h0 h2 hfr hf3 hC
      subst h2
      refine bl_X4_begin_2 _ _ _ _ _ hm ?_
      simp (disch := omega) only [z_add, z_sub, z_mul, z_neg, z_leT, z_leF, z_ltT, z_ltF, z_eqT, z_eqF, z_inT, z_clamp, z_nI, z_0, z_1, z_2, z_3, z_4, z_5, z_6, z_7, z_8, z_9, z_10, z_11, z_12, z_13, z_14, z_15, z_16, z_17, z_18, z_19, z_20, z_21, z_22, z_23, z_24, z_25, z_26, z_27, z_28, z_29, z_30, z_31, z_32, z_33, z_34, z_35, z_36, z_37, z_38, z_39, z_40, z_41, z_42, z_43, z_44, z_45, z_46, z_47, z_48, z_49, z_50, z_51, z_52, z_53, z_54, z_55, z_56, z_57, z_58, z_59, z_60, z_61, z_77, z_91, z_93, z_97, z_100, z_101, z_102, z_103, z_105, z_111, z_114, z_120, z_123, z_125, z_126, z_200, z_245, z_255, z_576, z_585, z_1000, z_2000, z_3510, z_11700, true_implies, false_implies, implies_true, not_true_eq_false, not_false_eq_true, true_and, and_true, false_and, and_false, ↓reduceIte, Int.reduceToNat, Int.reduceNeg, Int.toNat_natCast]
      refine hQ M hfr hf3 ?_
      funext c
      rw [hC c]
      unfold iniC
      by_cases q : c < 245
      · rw [if_pos q, if_pos (by omega)]
      · rw [if_neg q, if_neg (by omega)]
    | succ d ih =>
      intro k v2 M hd h0 h2 hfr hf3 hC
      subst h2
      refine bl_X4_begin_2 _ _ _ _ _ hm ?_
      simp (disch := omega) only [z_add, z_sub, z_mul, z_neg, z_leT, z_leF, z_ltT, z_ltF, z_eqT, z_eqF, z_inT, z_clamp, z_nI, z_0, z_1, z_2, z_3, z_4, z_5, z_6, z_7, z_8, z_9, z_10, z_11, z_12, z_13, z_14, z_15, z_16, z_17, z_18, z_19, z_20, z_21, z_22, z_23, z_24, z_25, z_26, z_27, z_28, z_29, z_30, z_31, z_32, z_33, z_34, z_35, z_36, z_37, z_38, z_39, z_40, z_41, z_42, z_43, z_44, z_45, z_46, z_47, z_48, z_49, z_50, z_51, z_52, z_53, z_54, z_55, z_56, z_57, z_58, z_59, z_60, z_61, z_77, z_91, z_93, z_97, z_100, z_101, z_102, z_103, z_105, z_111, z_114, z_120, z_123, z_125, z_126, z_200, z_245, z_255, z_576, z_585, z_1000, z_2000, z_3510, z_11700, true_implies, false_implies, implies_true, not_true_eq_false, not_false_eq_true, true_and, and_true, false_and, and_false, ↓reduceIte, Int.reduceToNat, Int.reduceNeg, Int.toNat_natCast, z_div49]
      rintro M1 rfl
      refine ih (k + 1) _ _ (by omega) (by omega) rfl (frM_up hfr) (fr_up hf3) (fun c => ?_)
      rw [upC_M]
      unfold upC
      by_cases q : c = k.toNat
      · rw [if_pos q, if_pos (by omega)]
        unfold iniZ
        rw [q, show ((k.toNat : Nat) : Int) = k by omega]
        exact zc (by rw [show k - k / 49 * 49 - 9 = k - k / 49 * 49 + -9 by omega])
      · rw [if_neg q, hC c]
        by_cases q2 : (c : Int) < k
        · rw [if_pos q2, if_pos (by omega)]
        · rw [if_neg q2, if_neg (by omega)]
  refine en_X4_begin (bl_X4_begin_0 _ _ _ _ hm ?_)
  refine main 245 0 _ M0 (by omega) (by omega) rfl frM_rf (fr_rf _ _) (fun c => ?_)
  rw [if_neg (by omega)]
