/-! ===== carried distances ===== -/
def crZ (x d : Int) : Int := if 0 < d ∧ (x = 0 ∨ d < x) then d else x
def crF (w : Int → Int → Int) (f p q : Int) (x : Int) (uv : Int × Int) : Int := crZ x (sh w f q - sh w f p - dSh (w p) (w q) uv)
def crP (w : Int → Int → Int) (f p q : Int) (x : Int) : Int := (dps (w p) (w q)).foldl (crF w f p q) x
def crQ (w : Int → Int → Int) (f p k : Int) (x : Int) : Int := ni k (fun b x => crP w f p (f + b) x) x
def crA (w : Int → Int → Int) (f k m : Int) : Int := ni k (fun a x => crQ w f (f + a) m x) 0
theorem crQ_0 {w : Int → Int → Int} {f p x : Int} : crQ w f p 0 x = x := ni_0 (Int.le_refl 0)
theorem crQ_s {w : Int → Int → Int} {f p x k : Int} (h : 0 ≤ k) : crQ w f p (k + 1) x = crP w f p (f + k) (crQ w f p k x) := ni_s h
theorem crA_0 {w : Int → Int → Int} {f m : Int} : crA w f 0 m = 0 := ni_0 (Int.le_refl 0)
theorem crA_s {w : Int → Int → Int} {f m k : Int} (h : 0 ≤ k) : crA w f (k + 1) m = crQ w f (f + k) m (crA w f k m) := ni_s h
theorem crZ_in {x d : Int} (hx : 0 ≤ x ∧ x ≤ 1000) (hd : d ≤ 1000) : 0 ≤ crZ x d ∧ crZ x d ≤ 1000 := by
  unfold crZ
  split <;> omega
theorem foldl_in {α : Type} {g : Int → α → Int} {L : List α} (h : ∀ x p, p ∈ L → 0 ≤ x ∧ x ≤ 1000 → 0 ≤ g x p ∧ g x p ≤ 1000) : ∀ x, 0 ≤ x ∧ x ≤ 1000 → 0 ≤ L.foldl g x ∧ L.foldl g x ≤ 1000 := by
  induction L with
  | nil => intro x hx; exact hx
  | cons p L ih => intro x hx; exact ih (fun y q hq hy => h y q (by simp [hq]) hy) _ (h x p (by simp) hx)
theorem crF_in {n : Int} {w : Int → Int → Int} {o : Int → Int} (hG : GH n w o) {f p q : Int} (hf : 0 ≤ f) (hp : f ≤ p ∧ p < n) (hq : f ≤ q ∧ q < n) : ∀ x uv, uv ∈ dps (w p) (w q) → 0 ≤ x ∧ x ≤ 1000 → 0 ≤ crF w f p q x uv ∧ crF w f p q x uv ≤ 1000 := by
  intro x uv h hx
  have h1 := dSh_in (hG.2.2 p (by omega) hp.2) (hG.2.2 q (by omega) hq.2) uv h
  have h2 := sh_in hG hf hp.1 hp.2
  have h3 := sh_in hG hf hq.1 hq.2
  exact crZ_in hx (by omega)
theorem crP_in {n : Int} {w : Int → Int → Int} {o : Int → Int} (hG : GH n w o) {f p q x : Int} (hf : 0 ≤ f) (hp : f ≤ p ∧ p < n) (hq : f ≤ q ∧ q < n) (hx : 0 ≤ x ∧ x ≤ 1000) : 0 ≤ crP w f p q x ∧ crP w f p q x ≤ 1000 := foldl_in (crF_in hG hf hp hq) x hx
theorem crQ_in {n : Int} {w : Int → Int → Int} {o : Int → Int} (hG : GH n w o) {f p x k : Int} (hf : 0 ≤ f) (hp : f ≤ p ∧ p < n) (h0 : 0 ≤ k) (hk : f + k ≤ n) (hx : 0 ≤ x ∧ x ≤ 1000) : 0 ≤ crQ w f p k x ∧ crQ w f p k x ≤ 1000 :=
  ni_inv (P := fun _ x => 0 ≤ x ∧ x ≤ 1000) hx h0 (fun j x h1 h2 hx => crP_in hG hf hp (by omega) hx)
theorem crA_in {n : Int} {w : Int → Int → Int} {o : Int → Int} (hG : GH n w o) {f k m : Int} (hf : 0 ≤ f) (h0 : 0 ≤ k) (hk : f + k ≤ n) (h1 : 0 ≤ m) (hm : f + m ≤ n) : 0 ≤ crA w f k m ∧ crA w f k m ≤ 1000 :=
  ni_inv (P := fun _ x => 0 ≤ x ∧ x ≤ 1000) ⟨by omega, by omega⟩ h0 (fun j x h2 h3 hx => crQ_in hG hf (by omega) h1 hm hx)
theorem crZ_is {w : Int → Int → Int} {f p q x : Int} {uv : Int × Int} : crF w f p q x uv = if 0 < sh w f q - sh w f p - dSh (w p) (w q) uv ∧ (x = 0 ∨ sh w f q - sh w f p - dSh (w p) (w q) uv < x) then sh w f q - sh w f p - dSh (w p) (w q) uv else x := rfl
set_option maxHeartbeats 4000000 in
set_option maxRecDepth 100000 in
theorem cd_68 {M0 : jM} {n : Int} {w : Int → Int → Int} {o : Int → Int} {f l p q : Int} {Q : Int32 → Nat → jM → Prop} (hG : GH n w o) (hS : GS M0 w f l) (hf : 0 ≤ f) (hl : l < n) (hp : f ≤ p ∧ p ≤ l) (hq : f ≤ q ∧ q ≤ l) (hL : LK M0 (w p) (w q) (dps (w p) (w q))) (x0 : Int) (hx0 : 0 ≤ x0 ∧ x0 ≤ 1000) (hout : at_X1_carriedDistance_26 (zI (crP w f p q x0)) (zI p) (zI (q + 1)) M0 Q) :
    ∀ (d m : Nat) (v1 v4 : Int32), m + d = (dps (w p) (w q)).length → v1 = zI (((dps (w p) (w q)).take m).foldl (crF w f p q) x0) → v4 = zI m → at_X1_carriedDistance_68 v1 (zI p) (zI q) v4 M0 Q := by
  have hn := hG.1
  have hlen : ((dps (w p) (w q)).length : Int) ≤ 576 := by
    have h1 := (hG.2.2 p (by omega) (by omega)).2.1
    have h2 := (hG.2.2 q (by omega) (by omega)).2.1
    have := dpL_len (a := w p) (b := w q) (k := w p 4) (by omega) (by omega)
    unfold dps
    omega
  obtain ⟨l1, _, _, l4⟩ := hL
  intro d
  induction d with
  | zero =>
    intro m v1 v4 hd h1 h4
    subst h1 h4
    refine bl_X1_carriedDistance_68 _ _ _ _ _ _ ?_
    simp (disch := omega) only [z_add, z_sub, z_mul, z_neg, z_leT, z_leF, z_ltT, z_ltF, z_eqT, z_eqF, z_inT, z_clamp, z_nI, z_0, z_1, z_2, z_3, z_4, z_5, z_6, z_7, z_8, z_9, z_10, z_11, z_12, z_13, z_14, z_15, z_16, z_17, z_18, z_19, z_20, z_21, z_22, z_23, z_24, z_25, z_26, z_27, z_28, z_29, z_30, z_31, z_32, z_33, z_34, z_35, z_36, z_37, z_38, z_39, z_40, z_41, z_42, z_43, z_44, z_45, z_46, z_47, z_48, z_49, z_50, z_51, z_52, z_53, z_54, z_55, z_56, z_57, z_58, z_59, z_60, z_61, z_77, z_91, z_93, z_97, z_100, z_101, z_102, z_103, z_105, z_111, z_114, z_120, z_123, z_125, z_126, z_200, z_245, z_255, z_576, z_585, z_1000, z_2000, z_3510, z_11700, true_implies, false_implies, implies_true, not_true_eq_false, not_false_eq_true, true_and, and_true, false_and, and_false, ↓reduceIte, Int.reduceToNat, Int.reduceNeg, Int.toNat_natCast, l1]
    rw [List.take_of_length_le (by omega)]
    exact hout
  | succ d ih =>
    intro m v1 v4 hd h1 h4
    subst h1 h4
    refine bl_X1_carriedDistance_68 _ _ _ _ _ _ ?_
    have hm : m < (dps (w p) (w q)).length := by omega
    have eg : (dps (w p) (w q))[m]? = some (dps (w p) (w q))[m] := List.getElem?_eq_getElem hm
    obtain ⟨_, _, e32⟩ := l4 m _ eg
    have et : (dps (w p) (w q)).take (m + 1) = (dps (w p) (w q)).take m ++ [(dps (w p) (w q))[m]] := List.take_succ_eq_append_getElem hm
    have hmem : (dps (w p) (w q))[m] ∈ dps (w p) (w q) := List.getElem_mem hm
    have hxin : 0 ≤ ((dps (w p) (w q)).take m).foldl (crF w f p q) x0 ∧ ((dps (w p) (w q)).take m).foldl (crF w f p q) x0 ≤ 1000 := foldl_in (fun y r hr hy => crF_in hG hf ⟨hp.1, by omega⟩ ⟨hq.1, by omega⟩ y r (List.mem_of_mem_take hr) hy) x0 hx0
    have hds := dSh_in (hG.2.2 p (by omega) (by omega)) (hG.2.2 q (by omega) (by omega)) _ hmem
    have ef : ((dps (w p) (w q)).take (m + 1)).foldl (crF w f p q) x0 = crF w f p q (((dps (w p) (w q)).take m).foldl (crF w f p q) x0) (dps (w p) (w q))[m] := by rw [et, List.foldl_append]; rfl
    rw [crZ_is] at ef
    have s1 := hS.2.1 p hp.1 hp.2
    have s2 := hS.2.1 q hq.1 hq.2
    have i1 := sh_in hG hf hp.1 (show p < n by omega)
    have i2 := sh_in hG hf hq.1 (show q < n by omega)
    have E : ((m : Nat) : Int).toNat = m := by omega
    generalize ((dps (w p) (w q)).take m).foldl (crF w f p q) x0 = x at *
    generalize dSh (w p) (w q) (dps (w p) (w q))[m] = s at *
    by_cases q1 : 0 < sh w f q - sh w f p - s
    · by_cases q2 : x = 0
      · rw [if_pos ⟨q1, Or.inl q2⟩] at ef
        simp (disch := omega) only [z_add, z_sub, z_mul, z_neg, z_leT, z_leF, z_ltT, z_ltF, z_eqT, z_eqF, z_inT, z_clamp, z_nI, z_0, z_1, z_2, z_3, z_4, z_5, z_6, z_7, z_8, z_9, z_10, z_11, z_12, z_13, z_14, z_15, z_16, z_17, z_18, z_19, z_20, z_21, z_22, z_23, z_24, z_25, z_26, z_27, z_28, z_29, z_30, z_31, z_32, z_33, z_34, z_35, z_36, z_37, z_38, z_39, z_40, z_41, z_42, z_43, z_44, z_45, z_46, z_47, z_48, z_49, z_50, z_51, z_52, z_53, z_54, z_55, z_56, z_57, z_58, z_59, z_60, z_61, z_77, z_91, z_93, z_97, z_100, z_101, z_102, z_103, z_105, z_111, z_114, z_120, z_123, z_125, z_126, z_200, z_245, z_255, z_576, z_585, z_1000, z_2000, z_3510, z_11700, true_implies, false_implies, implies_true, not_true_eq_false, not_false_eq_true, true_and, and_true, false_and, and_false, ↓reduceIte, Int.reduceToNat, Int.reduceNeg, Int.toNat_natCast, l1, s1, s2, E, e32]
        exact ih (m + 1) _ _ (by omega) (by rw [ef]) (zc (by omega))
      · by_cases q3 : sh w f q - sh w f p - s < x
        · rw [if_pos ⟨q1, Or.inr q3⟩] at ef
          simp (disch := omega) only [z_add, z_sub, z_mul, z_neg, z_leT, z_leF, z_ltT, z_ltF, z_eqT, z_eqF, z_inT, z_clamp, z_nI, z_0, z_1, z_2, z_3, z_4, z_5, z_6, z_7, z_8, z_9, z_10, z_11, z_12, z_13, z_14, z_15, z_16, z_17, z_18, z_19, z_20, z_21, z_22, z_23, z_24, z_25, z_26, z_27, z_28, z_29, z_30, z_31, z_32, z_33, z_34, z_35, z_36, z_37, z_38, z_39, z_40, z_41, z_42, z_43, z_44, z_45, z_46, z_47, z_48, z_49, z_50, z_51, z_52, z_53, z_54, z_55, z_56, z_57, z_58, z_59, z_60, z_61, z_77, z_91, z_93, z_97, z_100, z_101, z_102, z_103, z_105, z_111, z_114, z_120, z_123, z_125, z_126, z_200, z_245, z_255, z_576, z_585, z_1000, z_2000, z_3510, z_11700, true_implies, false_implies, implies_true, not_true_eq_false, not_false_eq_true, true_and, and_true, false_and, and_false, ↓reduceIte, Int.reduceToNat, Int.reduceNeg, Int.toNat_natCast, l1, s1, s2, E, e32]
          exact ih (m + 1) _ _ (by omega) (by rw [ef]) (zc (by omega))
        · rw [if_neg (fun z => by omega)] at ef
          simp (disch := omega) only [z_add, z_sub, z_mul, z_neg, z_leT, z_leF, z_ltT, z_ltF, z_eqT, z_eqF, z_inT, z_clamp, z_nI, z_0, z_1, z_2, z_3, z_4, z_5, z_6, z_7, z_8, z_9, z_10, z_11, z_12, z_13, z_14, z_15, z_16, z_17, z_18, z_19, z_20, z_21, z_22, z_23, z_24, z_25, z_26, z_27, z_28, z_29, z_30, z_31, z_32, z_33, z_34, z_35, z_36, z_37, z_38, z_39, z_40, z_41, z_42, z_43, z_44, z_45, z_46, z_47, z_48, z_49, z_50, z_51, z_52, z_53, z_54, z_55, z_56, z_57, z_58, z_59, z_60, z_61, z_77, z_91, z_93, z_97, z_100, z_101, z_102, z_103, z_105, z_111, z_114, z_120, z_123, z_125, z_126, z_200, z_245, z_255, z_576, z_585, z_1000, z_2000, z_3510, z_11700, true_implies, false_implies, implies_true, not_true_eq_false, not_false_eq_true, true_and, and_true, false_and, and_false, ↓reduceIte, Int.reduceToNat, Int.reduceNeg, Int.toNat_natCast, l1, s1, s2, E, e32]
          exact ih (m + 1) _ _ (by omega) (by rw [ef]) (zc (by omega))
    · rw [if_neg (fun z => q1 z.1)] at ef
      simp (disch := omega) only [z_add, z_sub, z_mul, z_neg, z_leT, z_leF, z_ltT, z_ltF, z_eqT, z_eqF, z_inT, z_clamp, z_nI, z_0, z_1, z_2, z_3, z_4, z_5, z_6, z_7, z_8, z_9, z_10, z_11, z_12, z_13, z_14, z_15, z_16, z_17, z_18, z_19, z_20, z_21, z_22, z_23, z_24, z_25, z_26, z_27, z_28, z_29, z_30, z_31, z_32, z_33, z_34, z_35, z_36, z_37, z_38, z_39, z_40, z_41, z_42, z_43, z_44, z_45, z_46, z_47, z_48, z_49, z_50, z_51, z_52, z_53, z_54, z_55, z_56, z_57, z_58, z_59, z_60, z_61, z_77, z_91, z_93, z_97, z_100, z_101, z_102, z_103, z_105, z_111, z_114, z_120, z_123, z_125, z_126, z_200, z_245, z_255, z_576, z_585, z_1000, z_2000, z_3510, z_11700, true_implies, false_implies, implies_true, not_true_eq_false, not_false_eq_true, true_and, and_true, false_and, and_false, ↓reduceIte, Int.reduceToNat, Int.reduceNeg, Int.toNat_natCast, l1, s1, s2, E, e32]
      exact ih (m + 1) _ _ (by omega) (by rw [ef]) (zc (by omega))
theorem cd_ok {M0 : jM} {n : Int} {w : Int → Int → Int} {o : Int → Int} {f l : Int} {Q : Int32 → Nat → jM → Prop} (hG : GH n w o) (hP : PR M0 0 n w o) (hnb : jnb M0 ≤ 100000) (hS : GS M0 w f l) (hf : 0 ≤ f) (hfl : f ≤ l) (hl : l < n) (hQ : ∀ M1, fr [2, 30, 31, 32] M0 M1 → Q (zI (crA w f (l - f + 1) (l - f + 1))) 0 M1) : ok_X1_carriedDistance M0 Q := by
  have hn := hG.1
  have hS0 := hS
  obtain ⟨⟨g5, g6⟩, gs1, _⟩ := hS
  have inner : ∀ (p : Int), f ≤ p → p ≤ l → ∀ (x0 : Int), 0 ≤ x0 ∧ x0 ≤ 1000 → (∀ M1, fr [2, 30, 31, 32] M0 M1 → at_X1_carriedDistance_7 (zI (crQ w f p (l - f + 1) x0)) (zI (p + 1)) M1 Q) →
      ∀ (d : Nat) (k : Int) (v1 v3 : Int32) (M : jM), k + d = l - f + 1 → 0 ≤ k → v1 = zI (crQ w f p k x0) → v3 = zI (f + k) → fr [2, 30, 31, 32] M0 M → at_X1_carriedDistance_26 v1 (zI p) v3 M Q := by
    intro p hp1 hp2 x0 hx0 hout d
    induction d with
    | zero =>
      intro k v1 v3 M hd h0 h1 h3 hfr
      subst h1 h3
      refine bl_X1_carriedDistance_26 _ _ _ _ _ ?_
      have F1 := hfr 1 (by decide)
      simp (disch := omega) only [z_add, z_sub, z_mul, z_neg, z_leT, z_leF, z_ltT, z_ltF, z_eqT, z_eqF, z_inT, z_clamp, z_nI, z_0, z_1, z_2, z_3, z_4, z_5, z_6, z_7, z_8, z_9, z_10, z_11, z_12, z_13, z_14, z_15, z_16, z_17, z_18, z_19, z_20, z_21, z_22, z_23, z_24, z_25, z_26, z_27, z_28, z_29, z_30, z_31, z_32, z_33, z_34, z_35, z_36, z_37, z_38, z_39, z_40, z_41, z_42, z_43, z_44, z_45, z_46, z_47, z_48, z_49, z_50, z_51, z_52, z_53, z_54, z_55, z_56, z_57, z_58, z_59, z_60, z_61, z_77, z_91, z_93, z_97, z_100, z_101, z_102, z_103, z_105, z_111, z_114, z_120, z_123, z_125, z_126, z_200, z_245, z_255, z_576, z_585, z_1000, z_2000, z_3510, z_11700, true_implies, false_implies, implies_true, not_true_eq_false, not_false_eq_true, true_and, and_true, false_and, and_false, ↓reduceIte, Int.reduceToNat, Int.reduceNeg, Int.toNat_natCast, F1, g6]
      rw [show k = l - f + 1 by omega]
      exact hout M hfr
    | succ d ih =>
      intro k v1 v3 M hd h0 h1 h3 hfr
      subst h1 h3
      refine bl_X1_carriedDistance_26 _ _ _ _ _ ?_
      have F1 := hfr 1 (by decide)
      have F27 := hfr 27 (by decide)
      have hP' := PR_r hP hfr
      simp (disch := omega) only [z_add, z_sub, z_mul, z_neg, z_leT, z_leF, z_ltT, z_ltF, z_eqT, z_eqF, z_inT, z_clamp, z_nI, z_0, z_1, z_2, z_3, z_4, z_5, z_6, z_7, z_8, z_9, z_10, z_11, z_12, z_13, z_14, z_15, z_16, z_17, z_18, z_19, z_20, z_21, z_22, z_23, z_24, z_25, z_26, z_27, z_28, z_29, z_30, z_31, z_32, z_33, z_34, z_35, z_36, z_37, z_38, z_39, z_40, z_41, z_42, z_43, z_44, z_45, z_46, z_47, z_48, z_49, z_50, z_51, z_52, z_53, z_54, z_55, z_56, z_57, z_58, z_59, z_60, z_61, z_77, z_91, z_93, z_97, z_100, z_101, z_102, z_103, z_105, z_111, z_114, z_120, z_123, z_125, z_126, z_200, z_245, z_255, z_576, z_585, z_1000, z_2000, z_3510, z_11700, true_implies, false_implies, implies_true, not_true_eq_false, not_false_eq_true, true_and, and_true, false_and, and_false, ↓reduceIte, Int.reduceToNat, Int.reduceNeg, Int.toNat_natCast, F1, g6]
      refine col_ok (a := w p) (b := w (f + k)) (by omega) (by omega) (hG.2.2 p (by omega) (by omega)) (hG.2.2 (f + k) (by omega) (by omega)) (hP'.2.2 p (by omega) (by omega)) (hP'.2.2 (f + k) (by omega) (by omega)) (by rw [fr_nb hfr]; exact hnb) (fun M1 c1 c2 => ⟨fr_nb c1, ?_⟩)
      have hS1 : GS M1 w f l := by unfold GS at *; rw [c1 1 (by decide), c1 27 (by decide), F1, F27]; exact hS0
      refine cd_68 hG hS1 hf hl ⟨hp1, hp2⟩ ⟨by omega, by omega⟩ c2 (crQ w f p k x0) (crQ_in hG hf ⟨hp1, by omega⟩ h0 (by omega) hx0) ?_ (dps (w p) (w (f + k))).length 0 _ _ (by omega) rfl rfl
      exact ih (k + 1) _ _ M1 (by omega) (by omega) (by rw [crQ_s h0]) (zc (by omega)) (fr_tr hfr c1)
  have outer : ∀ (d : Nat) (k : Int) (v1 v2 : Int32) (M : jM), k + d = l - f + 1 → 0 ≤ k → v1 = zI (crA w f k (l - f + 1)) → v2 = zI (f + k) → fr [2, 30, 31, 32] M0 M → at_X1_carriedDistance_7 v1 v2 M Q := by
    intro d
    induction d with
    | zero =>
      intro k v1 v2 M hd h0 h1 h2 hfr
      subst h1 h2
      refine bl_X1_carriedDistance_7 _ _ _ _ ?_
      have F1 := hfr 1 (by decide)
      simp (disch := omega) only [z_add, z_sub, z_mul, z_neg, z_leT, z_leF, z_ltT, z_ltF, z_eqT, z_eqF, z_inT, z_clamp, z_nI, z_0, z_1, z_2, z_3, z_4, z_5, z_6, z_7, z_8, z_9, z_10, z_11, z_12, z_13, z_14, z_15, z_16, z_17, z_18, z_19, z_20, z_21, z_22, z_23, z_24, z_25, z_26, z_27, z_28, z_29, z_30, z_31, z_32, z_33, z_34, z_35, z_36, z_37, z_38, z_39, z_40, z_41, z_42, z_43, z_44, z_45, z_46, z_47, z_48, z_49, z_50, z_51, z_52, z_53, z_54, z_55, z_56, z_57, z_58, z_59, z_60, z_61, z_77, z_91, z_93, z_97, z_100, z_101, z_102, z_103, z_105, z_111, z_114, z_120, z_123, z_125, z_126, z_200, z_245, z_255, z_576, z_585, z_1000, z_2000, z_3510, z_11700, true_implies, false_implies, implies_true, not_true_eq_false, not_false_eq_true, true_and, and_true, false_and, and_false, ↓reduceIte, Int.reduceToNat, Int.reduceNeg, Int.toNat_natCast, F1, g6]
      rw [show k = l - f + 1 by omega]
      exact hQ M hfr
    | succ d ih =>
      intro k v1 v2 M hd h0 h1 h2 hfr
      subst h1 h2
      refine bl_X1_carriedDistance_7 _ _ _ _ ?_
      have F1 := hfr 1 (by decide)
      simp (disch := omega) only [z_add, z_sub, z_mul, z_neg, z_leT, z_leF, z_ltT, z_ltF, z_eqT, z_eqF, z_inT, z_clamp, z_nI, z_0, z_1, z_2, z_3, z_4, z_5, z_6, z_7, z_8, z_9, z_10, z_11, z_12, z_13, z_14, z_15, z_16, z_17, z_18, z_19, z_20, z_21, z_22, z_23, z_24, z_25, z_26, z_27, z_28, z_29, z_30, z_31, z_32, z_33, z_34, z_35, z_36, z_37, z_38, z_39, z_40, z_41, z_42, z_43, z_44, z_45, z_46, z_47, z_48, z_49, z_50, z_51, z_52, z_53, z_54, z_55, z_56, z_57, z_58, z_59, z_60, z_61, z_77, z_91, z_93, z_97, z_100, z_101, z_102, z_103, z_105, z_111, z_114, z_120, z_123, z_125, z_126, z_200, z_245, z_255, z_576, z_585, z_1000, z_2000, z_3510, z_11700, true_implies, false_implies, implies_true, not_true_eq_false, not_false_eq_true, true_and, and_true, false_and, and_false, ↓reduceIte, Int.reduceToNat, Int.reduceNeg, Int.toNat_natCast, F1, g6, g5]
      refine inner (f + k) (by omega) (by omega) (crA w f k (l - f + 1)) (crA_in hG hf h0 (by omega) (by omega) (by omega)) (fun M1 c1 => ih (k + 1) _ _ M1 (by omega) (by omega) (by rw [crA_s h0]) (zc (by omega)) c1) (l - f + 1).toNat 0 _ _ M (by omega) (by omega) (by rw [crQ_0]) (zc (by omega)) hfr
  refine en_X1_carriedDistance (bl_X1_carriedDistance_0 _ _ ?_)
  rw [g5]
  exact outer (l - f + 1).toNat 0 _ _ M0 (by omega) (by omega) (by rw [crA_0]; rfl) (zc (by omega)) (fr_rf _ _)
