/-! ===== dependences ===== -/
abbrev dpP (a b : Int → Int) (u v : Int) : Prop := a (5 + u) = b (5 + v) ∧ (a (53 + u) = 1 ∨ b (53 + v) = 1) ∧ a 0 + (a (29 + u) - b (29 + v)) ≤ b 1 ∧ b 0 ≤ a 1 + (a (29 + u) - b (29 + v))
def dpR (a b : Int → Int) (u k : Int) (acc : List (Int × Int)) : List (Int × Int) := ni k (fun v acc => if dpP a b u v then acc ++ [(u, v)] else acc) acc
def dpL (a b : Int → Int) (k : Int) : List (Int × Int) := ni k (fun u acc => dpR a b u (b 4) acc) []
def dps (a b : Int → Int) : List (Int × Int) := dpL a b (a 4)
def dKi (a b : Int → Int) (p : Int × Int) : Int := if a (53 + p.1) = 1 then (if b (53 + p.2) = 1 then 2 else 0) else 1
def dSh (a b : Int → Int) (p : Int × Int) : Int := b (29 + p.2) - a (29 + p.1)
def dGr (a b : Int → Int) (m : Int) (L : List (Int × Int)) : Int := L.foldl (fun m p => max m (dSh a b p)) m
theorem dpR_0 {a b : Int → Int} {u : Int} {acc : List (Int × Int)} : dpR a b u 0 acc = acc := ni_0 (Int.le_refl 0)
theorem dpR_s {a b : Int → Int} {u k : Int} {acc : List (Int × Int)} (h : 0 ≤ k) : dpR a b u (k + 1) acc = if dpP a b u k then dpR a b u k acc ++ [(u, k)] else dpR a b u k acc := ni_s h
theorem dpL_0 {a b : Int → Int} : dpL a b 0 = [] := ni_0 (Int.le_refl 0)
theorem dpL_s {a b : Int → Int} {k : Int} (h : 0 ≤ k) : dpL a b (k + 1) = dpR a b k (b 4) (dpL a b k) := ni_s h
theorem dpR_len {a b : Int → Int} {u : Int} {acc : List (Int × Int)} {k : Int} (h : 0 ≤ k) : ((dpR a b u k acc).length : Int) ≤ acc.length + k := by
  unfold dpR
  refine ni_inv (P := fun j x => ((x : List (Int × Int)).length : Int) ≤ acc.length + j) (by omega) h (fun j x h1 h2 hx => ?_)
  show (((if dpP a b u j then x ++ [(u, j)] else x) : List (Int × Int)).length : Int) ≤ _
  split
  · simp; omega
  · omega
theorem dpL_len {a b : Int → Int} {k : Int} (h : 0 ≤ k) (hb : 0 ≤ b 4 ∧ b 4 ≤ 24) : ((dpL a b k).length : Int) ≤ 24 * k := by
  unfold dpL
  refine ni_inv (P := fun j x => ((x : List (Int × Int)).length : Int) ≤ 24 * j) (by simp) h (fun j x h1 h2 hx => ?_)
  have := dpR_len (a := a) (b := b) (u := j) (acc := x) hb.1
  show ((dpR a b j (b 4) x).length : Int) ≤ _
  omega
theorem dpR_all {a b : Int → Int} {u : Int} {acc : List (Int × Int)} {P : Int × Int → Prop} {k : Int} (h : 0 ≤ k) (h0 : ∀ p ∈ acc, P p) (hs : ∀ v, 0 ≤ v → v < k → dpP a b u v → P (u, v)) : ∀ p ∈ dpR a b u k acc, P p := by
  unfold dpR
  refine ni_inv (P := fun j x => ∀ p ∈ (x : List (Int × Int)), P p) h0 h (fun j x h1 h2 hx => ?_)
  show ∀ p ∈ ((if dpP a b u j then x ++ [(u, j)] else x) : List (Int × Int)), P p
  by_cases q : dpP a b u j
  · rw [if_pos q]
    intro p hp
    rcases List.mem_append.mp hp with h3 | h3
    · exact hx p h3
    · rw [List.mem_singleton.mp h3]; exact hs j h1 h2 q
  · rw [if_neg q]; exact hx
/-- every dependence is one of references -/
theorem dps_all {a b : Int → Int} (ha : 0 ≤ a 4) (hb : 0 ≤ b 4) : ∀ p ∈ dps a b, (0 ≤ p.1 ∧ p.1 < a 4) ∧ (0 ≤ p.2 ∧ p.2 < b 4) ∧ dpP a b p.1 p.2 := by
  unfold dps dpL
  refine ni_inv (P := fun j x => ∀ p ∈ (x : List (Int × Int)), (0 ≤ p.1 ∧ p.1 < a 4) ∧ (0 ≤ p.2 ∧ p.2 < b 4) ∧ dpP a b p.1 p.2) (by simp) ha (fun j x h1 h2 hx => ?_)
  exact dpR_all hb hx (fun v h3 h4 h5 => ⟨⟨h1, h2⟩, ⟨h3, h4⟩, h5⟩)
theorem dGr_snoc {a b : Int → Int} {m : Int} {L : List (Int × Int)} {p : Int × Int} : dGr a b m (L ++ [p]) = max (dGr a b m L) (dSh a b p) := by
  unfold dGr
  rw [List.foldl_append]
  rfl
theorem snoc_get {α : Type} {L : List α} {p q : α} {k : Nat} (h : (L ++ [p])[k]? = some q) : (k < L.length ∧ L[k]? = some q) ∨ (k = L.length ∧ q = p) := by
  rw [List.getElem?_append] at h
  split at h
  · rename_i h1; exact Or.inl ⟨h1, h⟩
  · rename_i h1
    right
    by_cases h2 : k = L.length
    · subst h2; simp at h; exact ⟨rfl, h.symm⟩
    · have : k - L.length = (k - L.length - 1) + 1 := by omega
      rw [this] at h
      simp at h
/-- the class's row of dependences -/
def LK (M : jM) (a b : Int → Int) (L : List (Int × Int)) : Prop :=
  M 2 0 3 = zI L.length ∧ M 2 0 4 = zI (dGr a b (-1000) L) ∧ (-1000 ≤ dGr a b (-1000) L ∧ dGr a b (-1000) L ≤ 18) ∧ ∀ (k : Nat) (p : Int × Int), L[k]? = some p → M 30 0 k = zI (a (5 + p.1)) ∧ M 31 0 k = zI (dKi a b p) ∧ M 32 0 k = zI (dSh a b p)
theorem add_ok {M : jM} {a b : Int → Int} {L : List (Int × Int)} {u v : Int} {kd x y : Int32} {Q : Int32 → Nat → jM → Prop} (hL : LK M a b L) (hlen : L.length < 576) (hkd : kd = zI (dKi a b (u, v))) (hx : x = zI (49 * a (5 + u) + (a (29 + u) + 9))) (hy : y = zI (49 * b (5 + v) + (b (29 + v) + 9))) (he : a (5 + u) = b (5 + v)) (h5 : 0 ≤ a (5 + u) ∧ a (5 + u) ≤ 4) (h29 : -9 ≤ a (29 + u) ∧ a (29 + u) ≤ 9) (h29' : -9 ≤ b (29 + v) ∧ b (29 + v) ≤ 9) (hQ : ∀ M1, fr [2, 30, 31, 32] M M1 → LK M1 a b (L ++ [(u, v)]) → Q 0 0 M1) : ok_X2_add kd x y M Q := by
  subst hkd hx hy
  obtain ⟨l1, l2, l3, l4⟩ := hL
  refine en_X2_add (bl_X2_add_0 _ _ _ _ _ ?_)
  have E : ((L.length : Nat) : Int).toNat = L.length := by omega
  simp (disch := omega) only [z_add, z_sub, z_mul, z_neg, z_leT, z_leF, z_ltT, z_ltF, z_eqT, z_eqF, z_inT, z_clamp, z_nI, z_0, z_1, z_2, z_3, z_4, z_5, z_6, z_7, z_8, z_9, z_10, z_11, z_12, z_13, z_14, z_15, z_16, z_17, z_18, z_19, z_20, z_21, z_22, z_23, z_24, z_25, z_26, z_27, z_28, z_29, z_30, z_31, z_32, z_33, z_34, z_35, z_36, z_37, z_38, z_39, z_40, z_41, z_42, z_43, z_44, z_45, z_46, z_47, z_48, z_49, z_50, z_51, z_52, z_53, z_54, z_55, z_56, z_57, z_58, z_59, z_60, z_61, z_77, z_91, z_93, z_97, z_100, z_101, z_102, z_103, z_105, z_111, z_114, z_120, z_123, z_125, z_126, z_200, z_245, z_255, z_576, z_585, z_1000, z_2000, z_3510, z_11700, true_implies, false_implies, implies_true, not_true_eq_false, not_false_eq_true, true_and, and_true, false_and, and_false, ↓reduceIte, Int.reduceToNat, Int.reduceNeg, Int.toNat_natCast, l1, E, z_div49]
  rintro M1 rfl
  have l1a : jup M 30 0 L.length (zI ((49 * a (5 + u) + (a (29 + u) + 9)) / 49)) 2 0 3 = zI L.length := by rw [jup_R (by decide)]; exact l1
  simp (disch := omega) only [z_add, z_sub, z_mul, z_neg, z_leT, z_leF, z_ltT, z_ltF, z_eqT, z_eqF, z_inT, z_clamp, z_nI, z_0, z_1, z_2, z_3, z_4, z_5, z_6, z_7, z_8, z_9, z_10, z_11, z_12, z_13, z_14, z_15, z_16, z_17, z_18, z_19, z_20, z_21, z_22, z_23, z_24, z_25, z_26, z_27, z_28, z_29, z_30, z_31, z_32, z_33, z_34, z_35, z_36, z_37, z_38, z_39, z_40, z_41, z_42, z_43, z_44, z_45, z_46, z_47, z_48, z_49, z_50, z_51, z_52, z_53, z_54, z_55, z_56, z_57, z_58, z_59, z_60, z_61, z_77, z_91, z_93, z_97, z_100, z_101, z_102, z_103, z_105, z_111, z_114, z_120, z_123, z_125, z_126, z_200, z_245, z_255, z_576, z_585, z_1000, z_2000, z_3510, z_11700, true_implies, false_implies, implies_true, not_true_eq_false, not_false_eq_true, true_and, and_true, false_and, and_false, ↓reduceIte, Int.reduceToNat, Int.reduceNeg, Int.toNat_natCast, l1a, E]
  rintro M2 rfl
  have l1b : jup (jup M 30 0 L.length (zI ((49 * a (5 + u) + (a (29 + u) + 9)) / 49))) 31 0 L.length (zI (dKi a b (u, v))) 2 0 3 = zI L.length := by rw [jup_R (by decide)]; exact l1a
  simp (disch := omega) only [z_add, z_sub, z_mul, z_neg, z_leT, z_leF, z_ltT, z_ltF, z_eqT, z_eqF, z_inT, z_clamp, z_nI, z_0, z_1, z_2, z_3, z_4, z_5, z_6, z_7, z_8, z_9, z_10, z_11, z_12, z_13, z_14, z_15, z_16, z_17, z_18, z_19, z_20, z_21, z_22, z_23, z_24, z_25, z_26, z_27, z_28, z_29, z_30, z_31, z_32, z_33, z_34, z_35, z_36, z_37, z_38, z_39, z_40, z_41, z_42, z_43, z_44, z_45, z_46, z_47, z_48, z_49, z_50, z_51, z_52, z_53, z_54, z_55, z_56, z_57, z_58, z_59, z_60, z_61, z_77, z_91, z_93, z_97, z_100, z_101, z_102, z_103, z_105, z_111, z_114, z_120, z_123, z_125, z_126, z_200, z_245, z_255, z_576, z_585, z_1000, z_2000, z_3510, z_11700, true_implies, false_implies, implies_true, not_true_eq_false, not_false_eq_true, true_and, and_true, false_and, and_false, ↓reduceIte, Int.reduceToNat, Int.reduceNeg, Int.toNat_natCast, l1b, E]
  rintro M3 rfl
  refine ⟨?_, ?_⟩
  · rw [jup_R (by decide), l1b, z_inT (by omega)]; trivial
  · rintro M4 rfl M5 rfl
    have hsh : dSh a b (u, v) = b (29 + v) - a (29 + u) := rfl
    refine hQ _ (fr_up (fr_up (fr_up (fr_up (fr_up (fr_rf _ _)))))) ⟨?_, ?_, ?_, ?_⟩
    · simp (disch := omega) only [jup_self, jup_ne, z_add, z_sub, z_mul, z_neg, z_leT, z_leF, z_ltT, z_ltF, z_eqT, z_eqF, z_inT, z_clamp, z_nI, z_0, z_1, z_2, z_3, z_4, z_5, z_6, z_7, z_8, z_9, z_10, z_11, z_12, z_13, z_14, z_15, z_16, z_17, z_18, z_19, z_20, z_21, z_22, z_23, z_24, z_25, z_26, z_27, z_28, z_29, z_30, z_31, z_32, z_33, z_34, z_35, z_36, z_37, z_38, z_39, z_40, z_41, z_42, z_43, z_44, z_45, z_46, z_47, z_48, z_49, z_50, z_51, z_52, z_53, z_54, z_55, z_56, z_57, z_58, z_59, z_60, z_61, z_77, z_91, z_93, z_97, z_100, z_101, z_102, z_103, z_105, z_111, z_114, z_120, z_123, z_125, z_126, z_200, z_245, z_255, z_576, z_585, z_1000, z_2000, z_3510, z_11700, true_implies, false_implies, implies_true, not_true_eq_false, not_false_eq_true, true_and, and_true, false_and, and_false, ↓reduceIte, Int.reduceToNat, Int.reduceNeg, Int.toNat_natCast, l1]
      exact zc (by simp)
    · rw [dGr_snoc, hsh]
      simp (disch := omega) only [jup_self, jup_ne, z_add, z_sub, z_mul, z_neg, z_leT, z_leF, z_ltT, z_ltF, z_eqT, z_eqF, z_inT, z_clamp, z_nI, z_0, z_1, z_2, z_3, z_4, z_5, z_6, z_7, z_8, z_9, z_10, z_11, z_12, z_13, z_14, z_15, z_16, z_17, z_18, z_19, z_20, z_21, z_22, z_23, z_24, z_25, z_26, z_27, z_28, z_29, z_30, z_31, z_32, z_33, z_34, z_35, z_36, z_37, z_38, z_39, z_40, z_41, z_42, z_43, z_44, z_45, z_46, z_47, z_48, z_49, z_50, z_51, z_52, z_53, z_54, z_55, z_56, z_57, z_58, z_59, z_60, z_61, z_77, z_91, z_93, z_97, z_100, z_101, z_102, z_103, z_105, z_111, z_114, z_120, z_123, z_125, z_126, z_200, z_245, z_255, z_576, z_585, z_1000, z_2000, z_3510, z_11700, true_implies, false_implies, implies_true, not_true_eq_false, not_false_eq_true, true_and, and_true, false_and, and_false, ↓reduceIte, Int.reduceToNat, Int.reduceNeg, Int.toNat_natCast, l1, l2, E, z_max]
      try exact zc (by omega)
    · rw [dGr_snoc, hsh]; omega
    · intro k p hp
      rcases snoc_get hp with ⟨h1, h2⟩ | ⟨h1, h2⟩
      · obtain ⟨p1, p2, p3⟩ := l4 k p h2
        refine ⟨?_, ?_, ?_⟩
        · rw [jup_R (by decide), jup_R (by decide), jup_R (by decide), jup_R (by decide), jup_ne (by omega)]; exact p1
        · rw [jup_R (by decide), jup_R (by decide), jup_R (by decide), jup_ne (by omega), jup_R (by decide)]; exact p2
        · rw [jup_R (by decide), jup_R (by decide), jup_ne (by omega), jup_R (by decide), jup_R (by decide)]; exact p3
      · subst h1 h2
        refine ⟨?_, ?_, ?_⟩
        · rw [jup_R (by decide), jup_R (by decide), jup_R (by decide), jup_R (by decide), jup_self]; exact zc (show (49 * a (5 + u) + (a (29 + u) + 9)) / 49 = a (5 + u) by omega)
        · rw [jup_R (by decide), jup_R (by decide), jup_R (by decide), jup_self]
        · rw [jup_R (by decide), jup_R (by decide), jup_self, hsh]; exact zc (by omega)
set_option maxHeartbeats 4000000 in
set_option maxRecDepth 100000 in
theorem col_34 {M0 : jM} {x y : Nat} {a b : Int → Int} {u : Int} {b1 b2 : Nat} {Q : Int32 → Nat → jM → Prop} (hx : x < 20) (hy : y < 20) (ha : OKL a) (hb : OKL b) (hu : 0 ≤ u ∧ u < a 4)
    (A1 : M0 3 x 1 = zI (a 0)) (A2 : M0 3 x 2 = zI (a 1)) (A0 : M0 3 x 0 = zI (b1 : Int)) (B1 : M0 3 y 1 = zI (b 0)) (B2 : M0 3 y 2 = zI (b 1)) (B0 : M0 3 y 0 = zI (b2 : Int)) (hb1 : b1 < 100000) (hb2 : b2 < 100000) (hA : BR M0 b1 a) (hB : BR M0 b2 b)
    (hout : ∀ M, fr [2, 30, 31, 32] M0 M → LK M a b (dpL a b (u + 1)) → at_X2_collect_14 x y (zI (u + 1)) M Q) :
    ∀ (d : Nat) (v : Int) (v4 : Int32) (M : jM), v + d = b 4 → 0 ≤ v → v4 = zI v → fr [2, 30, 31, 32] M0 M → LK M a b (dpR a b u v (dpL a b u)) → at_X2_collect_34 x y (zI u) v4 M Q := by
  obtain ⟨⟨a1, a2, a3, _⟩, ⟨a4, a5, a6, a7⟩, a8, _⟩ := ha
  obtain ⟨⟨c1, c2, c3, _⟩, ⟨c4, c5, c6, c7⟩, c8, _⟩ := hb
  have E1 : ((b1 : Nat) : Int).toNat = b1 := by omega
  have E2 : ((b2 : Nat) : Int).toNat = b2 := by omega
  intro d
  induction d with
  | zero =>
    intro v v4 M hd h0 h4 hfr hL
    subst h4
    have hv : v = b 4 := by omega
    subst hv
    refine bl_X2_collect_34 _ _ _ _ _ _ hx hy ?_
    have F0 := hfr 0 (by decide)
    have F3 := hfr 3 (by decide)
    have k1 := hB.1.1
    simp (disch := omega) only [z_add, z_sub, z_mul, z_neg, z_leT, z_leF, z_ltT, z_ltF, z_eqT, z_eqF, z_inT, z_clamp, z_nI, z_0, z_1, z_2, z_3, z_4, z_5, z_6, z_7, z_8, z_9, z_10, z_11, z_12, z_13, z_14, z_15, z_16, z_17, z_18, z_19, z_20, z_21, z_22, z_23, z_24, z_25, z_26, z_27, z_28, z_29, z_30, z_31, z_32, z_33, z_34, z_35, z_36, z_37, z_38, z_39, z_40, z_41, z_42, z_43, z_44, z_45, z_46, z_47, z_48, z_49, z_50, z_51, z_52, z_53, z_54, z_55, z_56, z_57, z_58, z_59, z_60, z_61, z_77, z_91, z_93, z_97, z_100, z_101, z_102, z_103, z_105, z_111, z_114, z_120, z_123, z_125, z_126, z_200, z_245, z_255, z_576, z_585, z_1000, z_2000, z_3510, z_11700, true_implies, false_implies, implies_true, not_true_eq_false, not_false_eq_true, true_and, and_true, false_and, and_false, ↓reduceIte, Int.reduceToNat, Int.reduceNeg, Int.toNat_natCast, F0, F3, B0, E2, k1]
    exact hout M hfr (by rw [dpL_s hu.1]; exact hL)
  | succ d ih =>
    intro v v4 M hd h0 h4 hfr hL
    subst h4
    refine bl_X2_collect_34 _ _ _ _ _ _ hx hy ?_
    have F0 := hfr 0 (by decide)
    have F3 := hfr 3 (by decide)
    have F20 := hfr 20 (by decide)
    have F21 := hfr 21 (by decide)
    have k1 := hA.1.1
    have k2 := hB.1.1
    obtain ⟨p1, p2, _⟩ := hA.2.1 u hu.1 hu.2
    obtain ⟨q1, q2, _⟩ := hB.2.1 v h0 (by omega)
    unfold plc at p1 q1
    obtain ⟨⟨m1, m2⟩, ⟨m3, m4⟩, m5, _⟩ := a8 u hu.1 hu.2
    obtain ⟨⟨n1, n2⟩, ⟨n3, n4⟩, n5, _⟩ := c8 v h0 (by omega)
    have hlen : (dpR a b u v (dpL a b u)).length < 576 := by
      have h1 := dpR_len (a := a) (b := b) (u := u) (acc := dpL a b u) h0
      have h2 := dpL_len (a := a) (b := b) hu.1 ⟨c6, c7⟩
      omega
    by_cases hd : dpP a b u v
    · obtain ⟨d1, d2, d3, d4⟩ := hd
      have e1 : dpR a b u (v + 1) (dpL a b u) = dpR a b u v (dpL a b u) ++ [(u, v)] := by rw [dpR_s h0, if_pos ⟨d1, d2, d3, d4⟩]
      have fin : ∀ (M1 : jM), fr [2, 30, 31, 32] M M1 → LK M1 a b (dpR a b u v (dpL a b u) ++ [(u, v)]) → jnb M1 = jnb M ∧ at_X2_collect_34 x y (zI u) (zI (v + 1)) M1 Q := fun M1 h1 h2 =>
        ⟨fr_nb h1, ih (v + 1) _ M1 (by omega) (by omega) rfl (fr_tr hfr h1) (by rw [e1]; exact h2)⟩
      rcases m5 with m5 | m5
      · rcases n5 with n5 | n5
        · omega
        · rw [m5] at p2; rw [n5] at q2
          simp (disch := omega) only [z_add, z_sub, z_mul, z_neg, z_leT, z_leF, z_ltT, z_ltF, z_eqT, z_eqF, z_inT, z_clamp, z_nI, z_0, z_1, z_2, z_3, z_4, z_5, z_6, z_7, z_8, z_9, z_10, z_11, z_12, z_13, z_14, z_15, z_16, z_17, z_18, z_19, z_20, z_21, z_22, z_23, z_24, z_25, z_26, z_27, z_28, z_29, z_30, z_31, z_32, z_33, z_34, z_35, z_36, z_37, z_38, z_39, z_40, z_41, z_42, z_43, z_44, z_45, z_46, z_47, z_48, z_49, z_50, z_51, z_52, z_53, z_54, z_55, z_56, z_57, z_58, z_59, z_60, z_61, z_77, z_91, z_93, z_97, z_100, z_101, z_102, z_103, z_105, z_111, z_114, z_120, z_123, z_125, z_126, z_200, z_245, z_255, z_576, z_585, z_1000, z_2000, z_3510, z_11700, true_implies, false_implies, implies_true, not_true_eq_false, not_false_eq_true, true_and, and_true, false_and, and_false, ↓reduceIte, Int.reduceToNat, Int.reduceNeg, Int.toNat_natCast, F0, F3, F20, F21, A0, A1, A2, B0, B1, B2, E1, E2, k1, k2, p1, p2, q1, q2, z_div49]
          refine add_ok hL hlen ?_ rfl rfl d1 ⟨m1, m2⟩ ⟨m3, m4⟩ ⟨n3, n4⟩ fin
          exact zc (by unfold dKi; simp [m5])
      · rcases n5 with n5 | n5
        · rw [m5] at p2; rw [n5] at q2
          simp (disch := omega) only [z_add, z_sub, z_mul, z_neg, z_leT, z_leF, z_ltT, z_ltF, z_eqT, z_eqF, z_inT, z_clamp, z_nI, z_0, z_1, z_2, z_3, z_4, z_5, z_6, z_7, z_8, z_9, z_10, z_11, z_12, z_13, z_14, z_15, z_16, z_17, z_18, z_19, z_20, z_21, z_22, z_23, z_24, z_25, z_26, z_27, z_28, z_29, z_30, z_31, z_32, z_33, z_34, z_35, z_36, z_37, z_38, z_39, z_40, z_41, z_42, z_43, z_44, z_45, z_46, z_47, z_48, z_49, z_50, z_51, z_52, z_53, z_54, z_55, z_56, z_57, z_58, z_59, z_60, z_61, z_77, z_91, z_93, z_97, z_100, z_101, z_102, z_103, z_105, z_111, z_114, z_120, z_123, z_125, z_126, z_200, z_245, z_255, z_576, z_585, z_1000, z_2000, z_3510, z_11700, true_implies, false_implies, implies_true, not_true_eq_false, not_false_eq_true, true_and, and_true, false_and, and_false, ↓reduceIte, Int.reduceToNat, Int.reduceNeg, Int.toNat_natCast, F0, F3, F20, F21, A0, A1, A2, B0, B1, B2, E1, E2, k1, k2, p1, p2, q1, q2, z_div49]
          refine add_ok hL hlen ?_ rfl rfl d1 ⟨m1, m2⟩ ⟨m3, m4⟩ ⟨n3, n4⟩ fin
          exact zc (by unfold dKi; simp [m5, n5])
        · rw [m5] at p2; rw [n5] at q2
          simp (disch := omega) only [z_add, z_sub, z_mul, z_neg, z_leT, z_leF, z_ltT, z_ltF, z_eqT, z_eqF, z_inT, z_clamp, z_nI, z_0, z_1, z_2, z_3, z_4, z_5, z_6, z_7, z_8, z_9, z_10, z_11, z_12, z_13, z_14, z_15, z_16, z_17, z_18, z_19, z_20, z_21, z_22, z_23, z_24, z_25, z_26, z_27, z_28, z_29, z_30, z_31, z_32, z_33, z_34, z_35, z_36, z_37, z_38, z_39, z_40, z_41, z_42, z_43, z_44, z_45, z_46, z_47, z_48, z_49, z_50, z_51, z_52, z_53, z_54, z_55, z_56, z_57, z_58, z_59, z_60, z_61, z_77, z_91, z_93, z_97, z_100, z_101, z_102, z_103, z_105, z_111, z_114, z_120, z_123, z_125, z_126, z_200, z_245, z_255, z_576, z_585, z_1000, z_2000, z_3510, z_11700, true_implies, false_implies, implies_true, not_true_eq_false, not_false_eq_true, true_and, and_true, false_and, and_false, ↓reduceIte, Int.reduceToNat, Int.reduceNeg, Int.toNat_natCast, F0, F3, F20, F21, A0, A1, A2, B0, B1, B2, E1, E2, k1, k2, p1, p2, q1, q2, z_div49]
          refine add_ok hL hlen ?_ rfl rfl d1 ⟨m1, m2⟩ ⟨m3, m4⟩ ⟨n3, n4⟩ fin
          exact zc (by unfold dKi; simp [m5, n5])
    · have e1 : dpR a b u (v + 1) (dpL a b u) = dpR a b u v (dpL a b u) := by rw [dpR_s h0, if_neg hd]
      have fin : at_X2_collect_34 x y (zI u) (zI (v + 1)) M Q := ih (v + 1) _ M (by omega) (by omega) rfl hfr (by rw [e1]; exact hL)
      have hd2 : a (53 + u) = 0 ∧ b (53 + v) = 0 ∨ (a (5 + u) < b (5 + v) ∨ b (5 + v) < a (5 + u)) ∨ b 1 < a 0 + (a (29 + u) - b (29 + v)) ∨ a 1 + (a (29 + u) - b (29 + v)) < b 0 := by
        by_cases z1 : a (5 + u) = b (5 + v)
        · by_cases z2 : a (53 + u) = 1 ∨ b (53 + v) = 1
          · by_cases z3 : a 0 + (a (29 + u) - b (29 + v)) ≤ b 1
            · by_cases z4 : b 0 ≤ a 1 + (a (29 + u) - b (29 + v))
              · exact absurd ⟨z1, z2, z3, z4⟩ hd
              · omega
            · omega
          · omega
        · omega
      rcases m5 with m5 | m5
      · rcases n5 with n5 | n5
        · rw [m5] at p2; rw [n5] at q2
          simp (disch := omega) only [z_add, z_sub, z_mul, z_neg, z_leT, z_leF, z_ltT, z_ltF, z_eqT, z_eqF, z_inT, z_clamp, z_nI, z_0, z_1, z_2, z_3, z_4, z_5, z_6, z_7, z_8, z_9, z_10, z_11, z_12, z_13, z_14, z_15, z_16, z_17, z_18, z_19, z_20, z_21, z_22, z_23, z_24, z_25, z_26, z_27, z_28, z_29, z_30, z_31, z_32, z_33, z_34, z_35, z_36, z_37, z_38, z_39, z_40, z_41, z_42, z_43, z_44, z_45, z_46, z_47, z_48, z_49, z_50, z_51, z_52, z_53, z_54, z_55, z_56, z_57, z_58, z_59, z_60, z_61, z_77, z_91, z_93, z_97, z_100, z_101, z_102, z_103, z_105, z_111, z_114, z_120, z_123, z_125, z_126, z_200, z_245, z_255, z_576, z_585, z_1000, z_2000, z_3510, z_11700, true_implies, false_implies, implies_true, not_true_eq_false, not_false_eq_true, true_and, and_true, false_and, and_false, ↓reduceIte, Int.reduceToNat, Int.reduceNeg, Int.toNat_natCast, F0, F3, F20, F21, A0, A1, A2, B0, B1, B2, E1, E2, k1, k2, p1, p2, q1, q2, z_div49]
          first | exact fin | (exfalso; omega)
        · rw [m5] at p2; rw [n5] at q2
          rcases hd2 with hd2 | hd2 | hd2 | hd2
          · omega
          · simp (disch := omega) only [z_add, z_sub, z_mul, z_neg, z_leT, z_leF, z_ltT, z_ltF, z_eqT, z_eqF, z_inT, z_clamp, z_nI, z_0, z_1, z_2, z_3, z_4, z_5, z_6, z_7, z_8, z_9, z_10, z_11, z_12, z_13, z_14, z_15, z_16, z_17, z_18, z_19, z_20, z_21, z_22, z_23, z_24, z_25, z_26, z_27, z_28, z_29, z_30, z_31, z_32, z_33, z_34, z_35, z_36, z_37, z_38, z_39, z_40, z_41, z_42, z_43, z_44, z_45, z_46, z_47, z_48, z_49, z_50, z_51, z_52, z_53, z_54, z_55, z_56, z_57, z_58, z_59, z_60, z_61, z_77, z_91, z_93, z_97, z_100, z_101, z_102, z_103, z_105, z_111, z_114, z_120, z_123, z_125, z_126, z_200, z_245, z_255, z_576, z_585, z_1000, z_2000, z_3510, z_11700, true_implies, false_implies, implies_true, not_true_eq_false, not_false_eq_true, true_and, and_true, false_and, and_false, ↓reduceIte, Int.reduceToNat, Int.reduceNeg, Int.toNat_natCast, F0, F3, F20, F21, A0, A1, A2, B0, B1, B2, E1, E2, k1, k2, p1, p2, q1, q2, z_div49]
            first | exact fin | (exfalso; omega)
          · by_cases z1 : a (5 + u) = b (5 + v)
            · simp (disch := omega) only [z_add, z_sub, z_mul, z_neg, z_leT, z_leF, z_ltT, z_ltF, z_eqT, z_eqF, z_inT, z_clamp, z_nI, z_0, z_1, z_2, z_3, z_4, z_5, z_6, z_7, z_8, z_9, z_10, z_11, z_12, z_13, z_14, z_15, z_16, z_17, z_18, z_19, z_20, z_21, z_22, z_23, z_24, z_25, z_26, z_27, z_28, z_29, z_30, z_31, z_32, z_33, z_34, z_35, z_36, z_37, z_38, z_39, z_40, z_41, z_42, z_43, z_44, z_45, z_46, z_47, z_48, z_49, z_50, z_51, z_52, z_53, z_54, z_55, z_56, z_57, z_58, z_59, z_60, z_61, z_77, z_91, z_93, z_97, z_100, z_101, z_102, z_103, z_105, z_111, z_114, z_120, z_123, z_125, z_126, z_200, z_245, z_255, z_576, z_585, z_1000, z_2000, z_3510, z_11700, true_implies, false_implies, implies_true, not_true_eq_false, not_false_eq_true, true_and, and_true, false_and, and_false, ↓reduceIte, Int.reduceToNat, Int.reduceNeg, Int.toNat_natCast, F0, F3, F20, F21, A0, A1, A2, B0, B1, B2, E1, E2, k1, k2, p1, p2, q1, q2, z_div49]
              first | exact fin | (exfalso; omega)
            · simp (disch := omega) only [z_add, z_sub, z_mul, z_neg, z_leT, z_leF, z_ltT, z_ltF, z_eqT, z_eqF, z_inT, z_clamp, z_nI, z_0, z_1, z_2, z_3, z_4, z_5, z_6, z_7, z_8, z_9, z_10, z_11, z_12, z_13, z_14, z_15, z_16, z_17, z_18, z_19, z_20, z_21, z_22, z_23, z_24, z_25, z_26, z_27, z_28, z_29, z_30, z_31, z_32, z_33, z_34, z_35, z_36, z_37, z_38, z_39, z_40, z_41, z_42, z_43, z_44, z_45, z_46, z_47, z_48, z_49, z_50, z_51, z_52, z_53, z_54, z_55, z_56, z_57, z_58, z_59, z_60, z_61, z_77, z_91, z_93, z_97, z_100, z_101, z_102, z_103, z_105, z_111, z_114, z_120, z_123, z_125, z_126, z_200, z_245, z_255, z_576, z_585, z_1000, z_2000, z_3510, z_11700, true_implies, false_implies, implies_true, not_true_eq_false, not_false_eq_true, true_and, and_true, false_and, and_false, ↓reduceIte, Int.reduceToNat, Int.reduceNeg, Int.toNat_natCast, F0, F3, F20, F21, A0, A1, A2, B0, B1, B2, E1, E2, k1, k2, p1, p2, q1, q2, z_div49]
              first | exact fin | (exfalso; omega)
          · by_cases z1 : a (5 + u) = b (5 + v)
            · by_cases z3 : a 0 + (a (29 + u) - b (29 + v)) ≤ b 1
              · simp (disch := omega) only [z_add, z_sub, z_mul, z_neg, z_leT, z_leF, z_ltT, z_ltF, z_eqT, z_eqF, z_inT, z_clamp, z_nI, z_0, z_1, z_2, z_3, z_4, z_5, z_6, z_7, z_8, z_9, z_10, z_11, z_12, z_13, z_14, z_15, z_16, z_17, z_18, z_19, z_20, z_21, z_22, z_23, z_24, z_25, z_26, z_27, z_28, z_29, z_30, z_31, z_32, z_33, z_34, z_35, z_36, z_37, z_38, z_39, z_40, z_41, z_42, z_43, z_44, z_45, z_46, z_47, z_48, z_49, z_50, z_51, z_52, z_53, z_54, z_55, z_56, z_57, z_58, z_59, z_60, z_61, z_77, z_91, z_93, z_97, z_100, z_101, z_102, z_103, z_105, z_111, z_114, z_120, z_123, z_125, z_126, z_200, z_245, z_255, z_576, z_585, z_1000, z_2000, z_3510, z_11700, true_implies, false_implies, implies_true, not_true_eq_false, not_false_eq_true, true_and, and_true, false_and, and_false, ↓reduceIte, Int.reduceToNat, Int.reduceNeg, Int.toNat_natCast, F0, F3, F20, F21, A0, A1, A2, B0, B1, B2, E1, E2, k1, k2, p1, p2, q1, q2, z_div49]
                first | exact fin | (exfalso; omega)
              · simp (disch := omega) only [z_add, z_sub, z_mul, z_neg, z_leT, z_leF, z_ltT, z_ltF, z_eqT, z_eqF, z_inT, z_clamp, z_nI, z_0, z_1, z_2, z_3, z_4, z_5, z_6, z_7, z_8, z_9, z_10, z_11, z_12, z_13, z_14, z_15, z_16, z_17, z_18, z_19, z_20, z_21, z_22, z_23, z_24, z_25, z_26, z_27, z_28, z_29, z_30, z_31, z_32, z_33, z_34, z_35, z_36, z_37, z_38, z_39, z_40, z_41, z_42, z_43, z_44, z_45, z_46, z_47, z_48, z_49, z_50, z_51, z_52, z_53, z_54, z_55, z_56, z_57, z_58, z_59, z_60, z_61, z_77, z_91, z_93, z_97, z_100, z_101, z_102, z_103, z_105, z_111, z_114, z_120, z_123, z_125, z_126, z_200, z_245, z_255, z_576, z_585, z_1000, z_2000, z_3510, z_11700, true_implies, false_implies, implies_true, not_true_eq_false, not_false_eq_true, true_and, and_true, false_and, and_false, ↓reduceIte, Int.reduceToNat, Int.reduceNeg, Int.toNat_natCast, F0, F3, F20, F21, A0, A1, A2, B0, B1, B2, E1, E2, k1, k2, p1, p2, q1, q2, z_div49]
                first | exact fin | (exfalso; omega)
            · simp (disch := omega) only [z_add, z_sub, z_mul, z_neg, z_leT, z_leF, z_ltT, z_ltF, z_eqT, z_eqF, z_inT, z_clamp, z_nI, z_0, z_1, z_2, z_3, z_4, z_5, z_6, z_7, z_8, z_9, z_10, z_11, z_12, z_13, z_14, z_15, z_16, z_17, z_18, z_19, z_20, z_21, z_22, z_23, z_24, z_25, z_26, z_27, z_28, z_29, z_30, z_31, z_32, z_33, z_34, z_35, z_36, z_37, z_38, z_39, z_40, z_41, z_42, z_43, z_44, z_45, z_46, z_47, z_48, z_49, z_50, z_51, z_52, z_53, z_54, z_55, z_56, z_57, z_58, z_59, z_60, z_61, z_77, z_91, z_93, z_97, z_100, z_101, z_102, z_103, z_105, z_111, z_114, z_120, z_123, z_125, z_126, z_200, z_245, z_255, z_576, z_585, z_1000, z_2000, z_3510, z_11700, true_implies, false_implies, implies_true, not_true_eq_false, not_false_eq_true, true_and, and_true, false_and, and_false, ↓reduceIte, Int.reduceToNat, Int.reduceNeg, Int.toNat_natCast, F0, F3, F20, F21, A0, A1, A2, B0, B1, B2, E1, E2, k1, k2, p1, p2, q1, q2, z_div49]
              first | exact fin | (exfalso; omega)
      · rw [m5] at p2
        rcases hd2 with hd2 | hd2 | hd2 | hd2
        · omega
        · simp (disch := omega) only [z_add, z_sub, z_mul, z_neg, z_leT, z_leF, z_ltT, z_ltF, z_eqT, z_eqF, z_inT, z_clamp, z_nI, z_0, z_1, z_2, z_3, z_4, z_5, z_6, z_7, z_8, z_9, z_10, z_11, z_12, z_13, z_14, z_15, z_16, z_17, z_18, z_19, z_20, z_21, z_22, z_23, z_24, z_25, z_26, z_27, z_28, z_29, z_30, z_31, z_32, z_33, z_34, z_35, z_36, z_37, z_38, z_39, z_40, z_41, z_42, z_43, z_44, z_45, z_46, z_47, z_48, z_49, z_50, z_51, z_52, z_53, z_54, z_55, z_56, z_57, z_58, z_59, z_60, z_61, z_77, z_91, z_93, z_97, z_100, z_101, z_102, z_103, z_105, z_111, z_114, z_120, z_123, z_125, z_126, z_200, z_245, z_255, z_576, z_585, z_1000, z_2000, z_3510, z_11700, true_implies, false_implies, implies_true, not_true_eq_false, not_false_eq_true, true_and, and_true, false_and, and_false, ↓reduceIte, Int.reduceToNat, Int.reduceNeg, Int.toNat_natCast, F0, F3, F20, F21, A0, A1, A2, B0, B1, B2, E1, E2, k1, k2, p1, p2, q1, q2, z_div49]
          first | exact fin | (exfalso; omega)
        · by_cases z1 : a (5 + u) = b (5 + v)
          · simp (disch := omega) only [z_add, z_sub, z_mul, z_neg, z_leT, z_leF, z_ltT, z_ltF, z_eqT, z_eqF, z_inT, z_clamp, z_nI, z_0, z_1, z_2, z_3, z_4, z_5, z_6, z_7, z_8, z_9, z_10, z_11, z_12, z_13, z_14, z_15, z_16, z_17, z_18, z_19, z_20, z_21, z_22, z_23, z_24, z_25, z_26, z_27, z_28, z_29, z_30, z_31, z_32, z_33, z_34, z_35, z_36, z_37, z_38, z_39, z_40, z_41, z_42, z_43, z_44, z_45, z_46, z_47, z_48, z_49, z_50, z_51, z_52, z_53, z_54, z_55, z_56, z_57, z_58, z_59, z_60, z_61, z_77, z_91, z_93, z_97, z_100, z_101, z_102, z_103, z_105, z_111, z_114, z_120, z_123, z_125, z_126, z_200, z_245, z_255, z_576, z_585, z_1000, z_2000, z_3510, z_11700, true_implies, false_implies, implies_true, not_true_eq_false, not_false_eq_true, true_and, and_true, false_and, and_false, ↓reduceIte, Int.reduceToNat, Int.reduceNeg, Int.toNat_natCast, F0, F3, F20, F21, A0, A1, A2, B0, B1, B2, E1, E2, k1, k2, p1, p2, q1, q2, z_div49]
            first | exact fin | (exfalso; omega)
          · simp (disch := omega) only [z_add, z_sub, z_mul, z_neg, z_leT, z_leF, z_ltT, z_ltF, z_eqT, z_eqF, z_inT, z_clamp, z_nI, z_0, z_1, z_2, z_3, z_4, z_5, z_6, z_7, z_8, z_9, z_10, z_11, z_12, z_13, z_14, z_15, z_16, z_17, z_18, z_19, z_20, z_21, z_22, z_23, z_24, z_25, z_26, z_27, z_28, z_29, z_30, z_31, z_32, z_33, z_34, z_35, z_36, z_37, z_38, z_39, z_40, z_41, z_42, z_43, z_44, z_45, z_46, z_47, z_48, z_49, z_50, z_51, z_52, z_53, z_54, z_55, z_56, z_57, z_58, z_59, z_60, z_61, z_77, z_91, z_93, z_97, z_100, z_101, z_102, z_103, z_105, z_111, z_114, z_120, z_123, z_125, z_126, z_200, z_245, z_255, z_576, z_585, z_1000, z_2000, z_3510, z_11700, true_implies, false_implies, implies_true, not_true_eq_false, not_false_eq_true, true_and, and_true, false_and, and_false, ↓reduceIte, Int.reduceToNat, Int.reduceNeg, Int.toNat_natCast, F0, F3, F20, F21, A0, A1, A2, B0, B1, B2, E1, E2, k1, k2, p1, p2, q1, q2, z_div49]
            first | exact fin | (exfalso; omega)
        · by_cases z1 : a (5 + u) = b (5 + v)
          · by_cases z3 : a 0 + (a (29 + u) - b (29 + v)) ≤ b 1
            · simp (disch := omega) only [z_add, z_sub, z_mul, z_neg, z_leT, z_leF, z_ltT, z_ltF, z_eqT, z_eqF, z_inT, z_clamp, z_nI, z_0, z_1, z_2, z_3, z_4, z_5, z_6, z_7, z_8, z_9, z_10, z_11, z_12, z_13, z_14, z_15, z_16, z_17, z_18, z_19, z_20, z_21, z_22, z_23, z_24, z_25, z_26, z_27, z_28, z_29, z_30, z_31, z_32, z_33, z_34, z_35, z_36, z_37, z_38, z_39, z_40, z_41, z_42, z_43, z_44, z_45, z_46, z_47, z_48, z_49, z_50, z_51, z_52, z_53, z_54, z_55, z_56, z_57, z_58, z_59, z_60, z_61, z_77, z_91, z_93, z_97, z_100, z_101, z_102, z_103, z_105, z_111, z_114, z_120, z_123, z_125, z_126, z_200, z_245, z_255, z_576, z_585, z_1000, z_2000, z_3510, z_11700, true_implies, false_implies, implies_true, not_true_eq_false, not_false_eq_true, true_and, and_true, false_and, and_false, ↓reduceIte, Int.reduceToNat, Int.reduceNeg, Int.toNat_natCast, F0, F3, F20, F21, A0, A1, A2, B0, B1, B2, E1, E2, k1, k2, p1, p2, q1, q2, z_div49]
              first | exact fin | (exfalso; omega)
            · simp (disch := omega) only [z_add, z_sub, z_mul, z_neg, z_leT, z_leF, z_ltT, z_ltF, z_eqT, z_eqF, z_inT, z_clamp, z_nI, z_0, z_1, z_2, z_3, z_4, z_5, z_6, z_7, z_8, z_9, z_10, z_11, z_12, z_13, z_14, z_15, z_16, z_17, z_18, z_19, z_20, z_21, z_22, z_23, z_24, z_25, z_26, z_27, z_28, z_29, z_30, z_31, z_32, z_33, z_34, z_35, z_36, z_37, z_38, z_39, z_40, z_41, z_42, z_43, z_44, z_45, z_46, z_47, z_48, z_49, z_50, z_51, z_52, z_53, z_54, z_55, z_56, z_57, z_58, z_59, z_60, z_61, z_77, z_91, z_93, z_97, z_100, z_101, z_102, z_103, z_105, z_111, z_114, z_120, z_123, z_125, z_126, z_200, z_245, z_255, z_576, z_585, z_1000, z_2000, z_3510, z_11700, true_implies, false_implies, implies_true, not_true_eq_false, not_false_eq_true, true_and, and_true, false_and, and_false, ↓reduceIte, Int.reduceToNat, Int.reduceNeg, Int.toNat_natCast, F0, F3, F20, F21, A0, A1, A2, B0, B1, B2, E1, E2, k1, k2, p1, p2, q1, q2, z_div49]
              first | exact fin | (exfalso; omega)
          · simp (disch := omega) only [z_add, z_sub, z_mul, z_neg, z_leT, z_leF, z_ltT, z_ltF, z_eqT, z_eqF, z_inT, z_clamp, z_nI, z_0, z_1, z_2, z_3, z_4, z_5, z_6, z_7, z_8, z_9, z_10, z_11, z_12, z_13, z_14, z_15, z_16, z_17, z_18, z_19, z_20, z_21, z_22, z_23, z_24, z_25, z_26, z_27, z_28, z_29, z_30, z_31, z_32, z_33, z_34, z_35, z_36, z_37, z_38, z_39, z_40, z_41, z_42, z_43, z_44, z_45, z_46, z_47, z_48, z_49, z_50, z_51, z_52, z_53, z_54, z_55, z_56, z_57, z_58, z_59, z_60, z_61, z_77, z_91, z_93, z_97, z_100, z_101, z_102, z_103, z_105, z_111, z_114, z_120, z_123, z_125, z_126, z_200, z_245, z_255, z_576, z_585, z_1000, z_2000, z_3510, z_11700, true_implies, false_implies, implies_true, not_true_eq_false, not_false_eq_true, true_and, and_true, false_and, and_false, ↓reduceIte, Int.reduceToNat, Int.reduceNeg, Int.toNat_natCast, F0, F3, F20, F21, A0, A1, A2, B0, B1, B2, E1, E2, k1, k2, p1, p2, q1, q2, z_div49]
            first | exact fin | (exfalso; omega)
theorem col_ok {M : jM} {x y : Nat} {a b : Int → Int} {Q : Int32 → Nat → jM → Prop} (hx : x < 20) (hy : y < 20) (ha : OKL a) (hb : OKL b) (hA : LR M x a) (hB : LR M y b) (hnb : jnb M ≤ 100000) (hQ : ∀ M1, fr [2, 30, 31, 32] M M1 → LK M1 a b (dps a b) → Q 0 0 M1) : ok_X2_collect x y M Q := by
  obtain ⟨⟨A1, A2, A3⟩, b1, h1, A0, hA⟩ := hA
  obtain ⟨⟨B1, B2, B3⟩, b2, h2, B0, hB⟩ := hB
  have ha4 := ha.2.1
  have hb4 := hb.2.1
  have E1 : ((b1 : Nat) : Int).toNat = b1 := by omega
  have k1 := hA.1.1
  have main : ∀ (d : Nat) (u : Int) (v3 : Int32) (M1 : jM), u + d = a 4 → 0 ≤ u → v3 = zI u → fr [2, 30, 31, 32] M M1 → LK M1 a b (dpL a b u) → at_X2_collect_14 x y v3 M1 Q := by
    intro d
    induction d with
    | zero =>
      intro u v3 M1 hd h0 h3 hfr hL
      subst h3
      refine bl_X2_collect_14 _ _ _ _ _ hx hy ?_
      have F0 := hfr 0 (by decide)
      have F3 := hfr 3 (by decide)
      simp (disch := omega) only [z_add, z_sub, z_mul, z_neg, z_leT, z_leF, z_ltT, z_ltF, z_eqT, z_eqF, z_inT, z_clamp, z_nI, z_0, z_1, z_2, z_3, z_4, z_5, z_6, z_7, z_8, z_9, z_10, z_11, z_12, z_13, z_14, z_15, z_16, z_17, z_18, z_19, z_20, z_21, z_22, z_23, z_24, z_25, z_26, z_27, z_28, z_29, z_30, z_31, z_32, z_33, z_34, z_35, z_36, z_37, z_38, z_39, z_40, z_41, z_42, z_43, z_44, z_45, z_46, z_47, z_48, z_49, z_50, z_51, z_52, z_53, z_54, z_55, z_56, z_57, z_58, z_59, z_60, z_61, z_77, z_91, z_93, z_97, z_100, z_101, z_102, z_103, z_105, z_111, z_114, z_120, z_123, z_125, z_126, z_200, z_245, z_255, z_576, z_585, z_1000, z_2000, z_3510, z_11700, true_implies, false_implies, implies_true, not_true_eq_false, not_false_eq_true, true_and, and_true, false_and, and_false, ↓reduceIte, Int.reduceToNat, Int.reduceNeg, Int.toNat_natCast, F0, F3, A0, E1, k1]
      refine hQ M1 hfr ?_
      unfold dps
      rw [show a 4 = u by omega]
      exact hL
    | succ d ih =>
      intro u v3 M1 hd h0 h3 hfr hL
      subst h3
      refine bl_X2_collect_14 _ _ _ _ _ hx hy ?_
      have F0 := hfr 0 (by decide)
      have F3 := hfr 3 (by decide)
      simp (disch := omega) only [z_add, z_sub, z_mul, z_neg, z_leT, z_leF, z_ltT, z_ltF, z_eqT, z_eqF, z_inT, z_clamp, z_nI, z_0, z_1, z_2, z_3, z_4, z_5, z_6, z_7, z_8, z_9, z_10, z_11, z_12, z_13, z_14, z_15, z_16, z_17, z_18, z_19, z_20, z_21, z_22, z_23, z_24, z_25, z_26, z_27, z_28, z_29, z_30, z_31, z_32, z_33, z_34, z_35, z_36, z_37, z_38, z_39, z_40, z_41, z_42, z_43, z_44, z_45, z_46, z_47, z_48, z_49, z_50, z_51, z_52, z_53, z_54, z_55, z_56, z_57, z_58, z_59, z_60, z_61, z_77, z_91, z_93, z_97, z_100, z_101, z_102, z_103, z_105, z_111, z_114, z_120, z_123, z_125, z_126, z_200, z_245, z_255, z_576, z_585, z_1000, z_2000, z_3510, z_11700, true_implies, false_implies, implies_true, not_true_eq_false, not_false_eq_true, true_and, and_true, false_and, and_false, ↓reduceIte, Int.reduceToNat, Int.reduceNeg, Int.toNat_natCast, F0, F3, A0, E1, k1]
      exact col_34 hx hy ha hb ⟨h0, by omega⟩ A1 A2 A0 B1 B2 B0 (by omega) (by omega) hA hB (fun M2 hf2 hL2 => ih (u + 1) _ M2 (by omega) (by omega) rfl hf2 hL2) (b 4).toNat 0 _ M1 (by omega) (by omega) rfl hfr (by rw [dpR_0]; exact hL)
  refine en_X2_collect (bl_X2_collect_0 _ _ _ _ hx hy ?_)
  rintro M1 rfl M2 rfl
  refine main (a 4).toNat 0 _ _ (by omega) (by omega) rfl (fr_up (fr_up (fr_rf _ _))) ?_
  rw [dpL_0]
  refine ⟨?_, ?_, ?_, ?_⟩
  · rw [jup_ne (by omega), jup_self]; rfl
  · rw [jup_self]; rfl
  · show -1000 ≤ (-1000 : Int) ∧ (-1000 : Int) ≤ 18; omega
  · intro k p h; simp at h
