/-! ===== the reference's sets ===== -/
theorem fin_sh : ∀ S : Nat, S < 32 → ∀ x : Nat, x < 6 → (decide (((zI (S : Int) >>> (zI (x : Int) &&& zI 31)) &&& zI 1) = zI 0) = !(sbit (S : Int) (x : Int))) := by decide +kernel
theorem sh_T {S x : Int} (hS : 0 ≤ S ∧ S < 32) (hx : 0 ≤ x ∧ x < 6) (h : sbit S x = false) : (((zI S >>> (zI x &&& zI 31)) &&& zI 1) = zI 0) = True := by
  have := fin_sh S.toNat (by omega) x.toNat (by omega)
  rw [show ((S.toNat : Nat) : Int) = S by omega, show ((x.toNat : Nat) : Int) = x by omega, h] at this
  exact eq_true (of_decide_eq_true this)
theorem sh_F {S x : Int} (hS : 0 ≤ S ∧ S < 32) (hx : 0 ≤ x ∧ x < 6) (h : sbit S x = true) : (((zI S >>> (zI x &&& zI 31)) &&& zI 1) = zI 0) = False := by
  have := fin_sh S.toNat (by omega) x.toNat (by omega)
  rw [show ((S.toNat : Nat) : Int) = S by omega, show ((x.toNat : Nat) : Int) = x by omega, h] at this
  exact eq_false (of_decide_eq_false this)
theorem eo_ok {M : jM} {n S f : Int} {Q : Int32 → Nat → jM → Prop} (hn : n ≤ 6) (h0 : M 11 0 0 = zI n) (hS : 0 ≤ S ∧ S < 32) (hf : 0 ≤ f ∧ f < n) (hQ : Q (zI (eS S n f)) 0 M) : ok_X12_endOf (zI S) (zI f) M Q := by
  have main : ∀ (d : Nat) (x : Int) (v3 : Int32), x + 1 + d = n → f ≤ x → v3 = zI x → (∀ y, f ≤ y → y < x → sbit S y = false) → at_X12_endOf_2 (zI S) v3 M Q := by
    intro d
    induction d with
    | zero =>
      intro x v3 hd h1 h3 hb
      subst h3
      refine bl_X12_endOf_2 _ _ _ _ ?_
      have e : eS S n f = x := isE_u (eS_is hf.2) ⟨h1, by omega, hb, Or.inl (by omega)⟩
      rw [e] at hQ
      simp (disch := omega) only [z_add, z_sub, z_mul, z_neg, z_leT, z_leF, z_ltT, z_ltF, z_eqT, z_eqF, z_inT, z_clamp, z_nI, z_0, z_1, z_2, z_3, z_4, z_5, z_6, z_7, z_8, z_9, z_10, z_11, z_12, z_13, z_14, z_15, z_16, z_17, z_18, z_19, z_20, z_21, z_22, z_23, z_24, z_25, z_26, z_27, z_28, z_29, z_30, z_31, z_32, z_33, z_34, z_35, z_36, z_37, z_38, z_39, z_40, z_41, z_42, z_43, z_44, z_45, z_46, z_47, z_48, z_49, z_50, z_51, z_52, z_53, z_54, z_55, z_56, z_57, z_58, z_59, z_60, z_61, z_77, z_91, z_93, z_97, z_100, z_101, z_102, z_103, z_105, z_111, z_114, z_120, z_123, z_125, z_126, z_200, z_245, z_255, z_576, z_585, z_1000, z_2000, z_3510, z_11700, true_implies, false_implies, implies_true, not_true_eq_false, not_false_eq_true, true_and, and_true, false_and, and_false, ↓reduceIte, Int.reduceToNat, Int.reduceNeg, Int.toNat_natCast, h0]
      exact hQ
    | succ d ih =>
      intro x v3 hd h1 h3 hb
      subst h3
      refine bl_X12_endOf_2 _ _ _ _ ?_
      cases hx : sbit S x with
      | false =>
        have hT := sh_T hS (show 0 ≤ x ∧ x < 6 by omega) hx
        simp (disch := omega) only [z_add, z_sub, z_mul, z_neg, z_leT, z_leF, z_ltT, z_ltF, z_eqT, z_eqF, z_inT, z_clamp, z_nI, z_0, z_1, z_2, z_3, z_4, z_5, z_6, z_7, z_8, z_9, z_10, z_11, z_12, z_13, z_14, z_15, z_16, z_17, z_18, z_19, z_20, z_21, z_22, z_23, z_24, z_25, z_26, z_27, z_28, z_29, z_30, z_31, z_32, z_33, z_34, z_35, z_36, z_37, z_38, z_39, z_40, z_41, z_42, z_43, z_44, z_45, z_46, z_47, z_48, z_49, z_50, z_51, z_52, z_53, z_54, z_55, z_56, z_57, z_58, z_59, z_60, z_61, z_77, z_91, z_93, z_97, z_100, z_101, z_102, z_103, z_105, z_111, z_114, z_120, z_123, z_125, z_126, z_200, z_245, z_255, z_576, z_585, z_1000, z_2000, z_3510, z_11700, true_implies, false_implies, implies_true, not_true_eq_false, not_false_eq_true, true_and, and_true, false_and, and_false, ↓reduceIte, Int.reduceToNat, Int.reduceNeg, Int.toNat_natCast, h0, hT]
        exact ih (x + 1) _ (by omega) (by omega) rfl (fun y y1 y2 => by
          by_cases e : y = x
          · rw [e]; exact hx
          · exact hb y y1 (by omega))
      | true =>
        have hT := sh_F hS (show 0 ≤ x ∧ x < 6 by omega) hx
        have e : eS S n f = x := isE_u (eS_is hf.2) ⟨h1, by omega, hb, Or.inr hx⟩
        rw [e] at hQ
        simp (disch := omega) only [z_add, z_sub, z_mul, z_neg, z_leT, z_leF, z_ltT, z_ltF, z_eqT, z_eqF, z_inT, z_clamp, z_nI, z_0, z_1, z_2, z_3, z_4, z_5, z_6, z_7, z_8, z_9, z_10, z_11, z_12, z_13, z_14, z_15, z_16, z_17, z_18, z_19, z_20, z_21, z_22, z_23, z_24, z_25, z_26, z_27, z_28, z_29, z_30, z_31, z_32, z_33, z_34, z_35, z_36, z_37, z_38, z_39, z_40, z_41, z_42, z_43, z_44, z_45, z_46, z_47, z_48, z_49, z_50, z_51, z_52, z_53, z_54, z_55, z_56, z_57, z_58, z_59, z_60, z_61, z_77, z_91, z_93, z_97, z_100, z_101, z_102, z_103, z_105, z_111, z_114, z_120, z_123, z_125, z_126, z_200, z_245, z_255, z_576, z_585, z_1000, z_2000, z_3510, z_11700, true_implies, false_implies, implies_true, not_true_eq_false, not_false_eq_true, true_and, and_true, false_and, and_false, ↓reduceIte, Int.reduceToNat, Int.reduceNeg, Int.toNat_natCast, h0, hT]
        exact hQ
  refine en_X12_endOf (bl_X12_endOf_0 _ _ _ _ ?_)
  exact main (n - f - 1).toNat f _ (by omega) (Int.le_refl f) rfl (fun y y1 y2 => by omega)
theorem fin_pc : ∀ S : Nat, S < 32 → 0 < S → (zI (S : Int) &&& (zI (S : Int) - zI 1)) = zI ((S &&& (S - 1) : Nat) : Int) ∧ (S &&& (S - 1)) < S ∧ pcS (S : Int) = 1 + pcS ((S &&& (S - 1) : Nat) : Int) := by decide +kernel
theorem gi_ok {M : jM} {S : Int} {Q : Int32 → Nat → jM → Prop} (hS : 0 ≤ S ∧ S < 32) (hQ : Q (zI (1 + pcS S)) 0 M) : ok_X12_groupsIn (zI S) M Q := by
  have main : ∀ (d : Nat) (k : Int) (v1 : Int32), d < 32 → v1 = zI k → k + pcS d = 1 + pcS S → at_X12_groupsIn_4 v1 (zI (d : Int)) M Q := by
    intro d
    induction d using Nat.strongRecOn with
    | _ d ih =>
      intro k v1 hd h1 hk
      subst h1
      refine bl_X12_groupsIn_4 _ _ _ _ ?_
      by_cases e : d = 0
      · have e0 : pcS ((0 : Nat) : Int) = 0 := by decide +kernel
        subst e
        rw [e0] at hk
        rw [← hk] at hQ
        simp (disch := omega) only [z_add, z_sub, z_mul, z_neg, z_leT, z_leF, z_ltT, z_ltF, z_eqT, z_eqF, z_inT, z_clamp, z_nI, z_0, z_1, z_2, z_3, z_4, z_5, z_6, z_7, z_8, z_9, z_10, z_11, z_12, z_13, z_14, z_15, z_16, z_17, z_18, z_19, z_20, z_21, z_22, z_23, z_24, z_25, z_26, z_27, z_28, z_29, z_30, z_31, z_32, z_33, z_34, z_35, z_36, z_37, z_38, z_39, z_40, z_41, z_42, z_43, z_44, z_45, z_46, z_47, z_48, z_49, z_50, z_51, z_52, z_53, z_54, z_55, z_56, z_57, z_58, z_59, z_60, z_61, z_77, z_91, z_93, z_97, z_100, z_101, z_102, z_103, z_105, z_111, z_114, z_120, z_123, z_125, z_126, z_200, z_245, z_255, z_576, z_585, z_1000, z_2000, z_3510, z_11700, true_implies, false_implies, implies_true, not_true_eq_false, not_false_eq_true, true_and, and_true, false_and, and_false, ↓reduceIte, Int.reduceToNat, Int.reduceNeg, Int.toNat_natCast]
        rw [show k + 0 = k by omega] at hQ
        exact hQ
      · obtain ⟨p1, p2, p3⟩ := fin_pc d hd (by omega)
        rw [← z_1] at p1
        refine ⟨fun z => ?_, fun _ => ?_⟩
        · rw [z_0, z_eqF (by omega)] at z; exact z.elim
        · rw [p1]
          exact ih _ p2 (k + 1) _ (by omega) (by rw [z_1, z_add]) (by omega)
  refine en_X12_groupsIn (bl_X12_groupsIn_0 _ _ _ ?_)
  have := main S.toNat 1 1 (by omega) z_1 (by rw [show ((S.toNat : Nat) : Int) = S by omega])
  rw [show ((S.toNat : Nat) : Int) = S by omega] at this
  exact this
theorem fin_gr : ∀ S : Nat, S < 32 → ∀ R : Nat, R < 32 → (decide ((zI (R : Int) &&& ((zI (S : Int) ^^^ zI (R : Int)) &&& (-(zI (S : Int) ^^^ zI (R : Int))))) = 0) = !(decide (rvS (S : Int) < rvS (R : Int)))) := by decide +kernel
theorem ig_ok {M : jM} {S R : Int} {Q : Int32 → Nat → jM → Prop} (hS : 0 ≤ S ∧ S < 32) (hR : 0 ≤ R ∧ R < 32) (hQ1 : rvS S < rvS R → Q 1 0 M) (hQ0 : ¬ rvS S < rvS R → Q 0 0 M) : ok_X12_isGreater (zI S) (zI R) M Q := by
  have f := fin_gr S.toNat (by omega) R.toNat (by omega)
  rw [show ((S.toNat : Nat) : Int) = S by omega, show ((R.toNat : Nat) : Int) = R by omega] at f
  refine en_X12_isGreater (bl_X12_isGreater_0 _ _ _ _ ⟨fun z => hQ0 (fun q => ?_), fun z => hQ1 ?_⟩)
  · rw [decide_eq_true z, decide_eq_true q] at f; cases f
  · by_cases q : rvS S < rvS R
    · exact q
    · rw [decide_eq_false z, decide_eq_false q] at f; cases f
theorem isNG_ex {z : Int → Int} {n : Int} (hz : zok z n) (hn : 0 ≤ n) : ∃ T, isNG z n T := by
  have main : ∀ (d : Nat) (j : Int), 0 ≤ j → 0 ≤ gs z j → gs z j ≤ n → n - gs z j ≤ d → (∀ i, 0 ≤ i → i < j → gs z i < n) → ∃ T, isNG z n T := by
    intro d
    induction d with
    | zero => intro j h0 h1 h2 h3 h4; exact ⟨j, h0, by omega, h4⟩
    | succ d ih =>
      intro j h0 h1 h2 h3 h4
      by_cases e : gs z j = n
      · exact ⟨j, h0, e, h4⟩
      · have hb := hz (gs z j) h1 (by omega)
        refine ih (j + 1) (by omega) ?_ ?_ ?_ (fun i i0 i1 => ?_)
        · rw [gs_s h0]; omega
        · rw [gs_s h0]; omega
        · rw [gs_s h0]; omega
        · by_cases e2 : i = j
          · rw [e2]; omega
          · exact h4 i i0 (by omega)
  exact main n.toNat 0 (by omega) (by rw [gs_0]; omega) (by rw [gs_0]; omega) (by rw [gs_0]; omega) (fun i i0 i1 => by omega)
/-- what the groups one after the other count -/
def rdF (w : Int → Int → Int) (o : Int → Int) (z : Int → Int) (j : Int) (x : TRs) : TRs := ni j (fun j x => trG (o 1) w (gs z j) (gs z (j + 1) - 1) (lat0, x.2)) x
theorem rdF_0 {w : Int → Int → Int} {o : Int → Int} {z : Int → Int} {x : TRs} : rdF w o z 0 x = x := ni_0 (Int.le_refl 0)
theorem rdF_s {w : Int → Int → Int} {o : Int → Int} {z : Int → Int} {x : TRs} {j : Int} (h : 0 ≤ j) : rdF w o z (j + 1) x = trG (o 1) w (gs z j) (gs z (j + 1) - 1) (lat0, (rdF w o z j x).2) := ni_s h
theorem trG_H {w : Int → Int → Int} {o : Int → Int} {f l rd h fa : Int} : (trG (o 1) w f l (lat0, rd, h, fa)).2.2.1 = Hh w o f l + h := by
  rw [trG_A.2.2, trG_B]
  rfl
theorem vz_s {w : Int → Int → Int} {o : Int → Int} {n f : Int} {z : Int → Int} {d : Nat} (hf : f < n) : vzN w o n z (d + 1) f = (Hh w o f (f + z f - 1) + (vzN w o n z d (f + z f)).1, 1 + (vzN w o n z d (f + z f)).2) := by
  show (if f < n then _ else _) = _
  rw [if_pos hf]
theorem vz_n {w : Int → Int → Int} {o : Int → Int} {n : Int} {z : Int → Int} : ∀ d : Nat, vzN w o n z d n = (0, 0) := by
  intro d
  cases d with
  | zero => rfl
  | succ d =>
    show (if n < n then _ else _) = _
    rw [if_neg (by omega)]
/-- hits of the groups, summed up -/
theorem rdF_v {w : Int → Int → Int} {o : Int → Int} {n T : Int} {z : Int → Int} (hT : isNG z n T) (x : TRs) : ∀ (d : Nat) (j : Int), 0 ≤ j → j + d = T → (rdF w o z T x).2.2.1 = (rdF w o z j x).2.2.1 + (vzN w o n z d (gs z j)).1 := by
  intro d
  induction d with
  | zero => intro j h0 h1; rw [show j = T by omega]; show _ = _ + (0 : Int); omega
  | succ d ih =>
    intro j h0 h1
    rw [ih (j + 1) (by omega) (by omega), rdF_s h0, vz_s (hT.2.2 j h0 (by omega)), gs_s h0]
    have := trG_H (w := w) (o := o) (f := gs z j) (l := gs z j + z (gs z j) - 1) (rd := (rdF w o z j x).2.1) (h := (rdF w o z j x).2.2.1) (fa := (rdF w o z j x).2.2.2)
    show (trG (o 1) w (gs z j) (gs z j + z (gs z j) - 1) (lat0, (rdF w o z j x).2)).2.2.1 + _ = _ + (Hh w o (gs z j) (gs z j + z (gs z j) - 1) + _)
    have e : ((lat0, (rdF w o z j x).2) : TRs) = (lat0, (rdF w o z j x).2.1, (rdF w o z j x).2.2.1, (rdF w o z j x).2.2.2) := rfl
    rw [e, this]
    omega
theorem vz_d {w : Int → Int → Int} {o : Int → Int} {n : Int} {z : Int → Int} (hz : zok z n) : ∀ (d e : Nat) (f : Int), 0 ≤ f → f ≤ n → n - f ≤ d → n - f ≤ e → vzN w o n z d f = vzN w o n z e f ∧ (alN w o n z d f ↔ alN w o n z e f) := by
  intro d
  induction d with
  | zero =>
    intro e f h0 h1 h2 h3
    have : f = n := by omega
    rw [this, vz_n, vz_n]
    refine ⟨rfl, ?_⟩
    cases e with
    | zero => exact Iff.rfl
    | succ e => exact ⟨fun _ q => absurd q (by omega), fun _ => trivial⟩
  | succ d ih =>
    intro e f h0 h1 h2 h3
    by_cases q : f < n
    · cases e with
      | zero => omega
      | succ e =>
        obtain ⟨b1, b2⟩ := hz f h0 q
        have h4 := ih e (f + z f) (by omega) b2 (by omega) (by omega)
        rw [vz_s q, vz_s q, h4.1]
        refine ⟨rfl, ?_⟩
        show (f < n → _) ↔ (f < n → _)
        rw [h4.2]
    · have : f = n := by omega
      rw [this, vz_n, vz_n]
      refine ⟨rfl, ?_⟩
      cases e with
      | zero => exact ⟨fun _ => trivial, fun _ q => absurd q (by omega)⟩
      | succ e => exact ⟨fun _ q => absurd q (by omega), fun _ q => absurd q (by omega)⟩
theorem vz_T {w : Int → Int → Int} {o : Int → Int} {n T : Int} {z : Int → Int} (hT : isNG z n T) : ∀ (d e : Nat) (j : Int), 0 ≤ j → j + d = T → d ≤ e → vzN w o n z e (gs z j) = vzN w o n z d (gs z j) ∧ (alN w o n z e (gs z j) ↔ alN w o n z d (gs z j)) := by
  intro d
  induction d with
  | zero =>
    intro e j h0 h1 h2
    rw [show j = T by omega, hT.2.1, vz_n, vz_n]
    refine ⟨rfl, ?_⟩
    cases e with
    | zero => exact Iff.rfl
    | succ e => exact ⟨fun _ => trivial, fun _ q => absurd q (by omega)⟩
  | succ d ih =>
    intro e j h0 h1 h2
    cases e with
    | zero => omega
    | succ e =>
      have q := hT.2.2 j h0 (by omega)
      have h4 := ih e (j + 1) (by omega) (by omega) (by omega)
      rw [gs_s h0] at h4
      rw [vz_s q, vz_s q, h4.1]
      refine ⟨rfl, ?_⟩
      show (gs z j < n → _) ↔ (gs z j < n → _)
      rw [h4.2]
def FA (M : jM) : Prop := ∃ fa : Int, (0 ≤ fa ∧ fa ≤ 9) ∧ M 11 0 28 = zI fa
set_option maxHeartbeats 4000000 in
set_option maxRecDepth 100000 in
theorem hi_ok {M0 : jM} {n : Int} {w : Int → Int → Int} {o : Int → Int} {S T rd fa : Int} {Q : Int32 → Nat → jM → Prop} (hG : GH n w o) (hM : MR M0 n w o) (hS : 0 ≤ S ∧ S < 32) (hT : isNG (zS S n) n T) (h27 : M0 11 0 27 = zI rd) (h28 : M0 11 0 28 = zI fa) (hfa : 0 ≤ fa ∧ fa ≤ 9)
    (hQ : ∀ M1 r, fm [59, 60] [22, 23, 24, 27, 28] M0 M1 → FA M1 → (bAl w o n S → r = zI (rdF w o (zS S n) T (lat0, rd, 0, fa)).2.2.1 ∧ M1 11 0 27 = zI (rdF w o (zS S n) T (lat0, rd, 0, fa)).2.1 ∧ M1 11 0 28 = zI (rdF w o (zS S n) T (lat0, rd, 0, fa)).2.2.2) → (¬ bAl w o n S → r = zI (-1)) → Q r 0 M1) : ok_X12_hitsIn (zI S) M0 Q := by
  have hn := hG.1
  have hz := zS_ok (S := S) (n := n)
  have hTn := gs_at hz hn.1 hT hT.1 (Int.le_refl T)
  rw [hT.2.1] at hTn
  have main : ∀ (d : Nat) (j : Int) (v2 v3 : Int32) (M : jM), j + d = T → 0 ≤ j → v2 = zI (rdF w o (zS S n) j (lat0, rd, 0, fa)).2.2.1 → v3 = zI (gs (zS S n) j) → fm [59, 60] [22, 23, 24, 27, 28] M0 M → M 11 0 27 = zI (rdF w o (zS S n) j (lat0, rd, 0, fa)).2.1 → M 11 0 28 = zI (rdF w o (zS S n) j (lat0, rd, 0, fa)).2.2.2 → (0 ≤ (rdF w o (zS S n) j (lat0, rd, 0, fa)).2.2.2 ∧ (rdF w o (zS S n) j (lat0, rd, 0, fa)).2.2.2 ≤ 9) → (bAl w o n S ↔ alN w o n (zS S n) d (gs (zS S n) j)) → at_X12_hitsIn_4 (zI S) v2 v3 M Q := by
    intro d
    induction d with
    | zero =>
      intro j v2 v3 M hd h0 h2 h3 hfr e27 e28 hb hal
      subst h2 h3
      refine bl_X12_hitsIn_4 _ _ _ _ _ ?_
      have hM' := MR_fm hM hfr
      have e0 := hM'.1
      have hj : j = T := by omega
      have ha : bAl w o n S := hal.mpr trivial
      rw [hj] at e27 e28 hb ⊢
      rw [hT.2.1]
      simp (disch := omega) only [z_add, z_sub, z_mul, z_neg, z_leT, z_leF, z_ltT, z_ltF, z_eqT, z_eqF, z_inT, z_clamp, z_nI, z_0, z_1, z_2, z_3, z_4, z_5, z_6, z_7, z_8, z_9, z_10, z_11, z_12, z_13, z_14, z_15, z_16, z_17, z_18, z_19, z_20, z_21, z_22, z_23, z_24, z_25, z_26, z_27, z_28, z_29, z_30, z_31, z_32, z_33, z_34, z_35, z_36, z_37, z_38, z_39, z_40, z_41, z_42, z_43, z_44, z_45, z_46, z_47, z_48, z_49, z_50, z_51, z_52, z_53, z_54, z_55, z_56, z_57, z_58, z_59, z_60, z_61, z_77, z_91, z_93, z_97, z_100, z_101, z_102, z_103, z_105, z_111, z_114, z_120, z_123, z_125, z_126, z_200, z_245, z_255, z_576, z_585, z_1000, z_2000, z_3510, z_11700, true_implies, false_implies, implies_true, not_true_eq_false, not_false_eq_true, true_and, and_true, false_and, and_false, ↓reduceIte, Int.reduceToNat, Int.reduceNeg, Int.toNat_natCast, e0]
      exact hQ M _ hfr ⟨_, hb, e28⟩ (fun _ => ⟨rfl, e27, e28⟩) (fun z => absurd ha z)
    | succ d ih =>
      intro j v2 v3 M hd h0 h2 h3 hfr e27 e28 hb hal
      subst h2 h3
      refine bl_X12_hitsIn_4 _ _ _ _ _ ?_
      have hM' := MR_fm hM hfr
      have e0 := hM'.1
      have b1 := gs_at hz hn.1 hT h0 (by omega)
      have b2 := hT.2.2 j h0 (by omega)
      have b3 := hz (gs (zS S n) j) b1.1 b2
      have b4 := gs_s (z := zS S n) h0
      have ee : eS S n (gs (zS S n) j) = gs (zS S n) (j + 1) - 1 := by rw [b4]; unfold zS; omega
      simp (disch := omega) only [z_add, z_sub, z_mul, z_neg, z_leT, z_leF, z_ltT, z_ltF, z_eqT, z_eqF, z_inT, z_clamp, z_nI, z_0, z_1, z_2, z_3, z_4, z_5, z_6, z_7, z_8, z_9, z_10, z_11, z_12, z_13, z_14, z_15, z_16, z_17, z_18, z_19, z_20, z_21, z_22, z_23, z_24, z_25, z_26, z_27, z_28, z_29, z_30, z_31, z_32, z_33, z_34, z_35, z_36, z_37, z_38, z_39, z_40, z_41, z_42, z_43, z_44, z_45, z_46, z_47, z_48, z_49, z_50, z_51, z_52, z_53, z_54, z_55, z_56, z_57, z_58, z_59, z_60, z_61, z_77, z_91, z_93, z_97, z_100, z_101, z_102, z_103, z_105, z_111, z_114, z_120, z_123, z_125, z_126, z_200, z_245, z_255, z_576, z_585, z_1000, z_2000, z_3510, z_11700, true_implies, false_implies, implies_true, not_true_eq_false, not_false_eq_true, true_and, and_true, false_and, and_false, ↓reduceIte, Int.reduceToNat, Int.reduceNeg, Int.toNat_natCast, e0]
      refine eo_ok hn.2 e0 hS ⟨b1.1, b2⟩ ⟨rfl, ?_⟩
      rw [ee]
      refine ls_ok hG hM' b1.1 (by omega) (by omega) (fun M4 r a1 a2 a3 a4 => ⟨fm_nb a1, fun hr => ?_, fun hr => ?_⟩)
      · have hna : ¬ alw w o (gs (zS S n) j) (gs (zS S n) (j + 1) - 1) := fun z => by rw [a3 z, z_1, z_eqF (by omega)] at hr; exact hr
        have hnb : ¬ bAl w o n S := fun z => hna (by
          have := (hal.mp z b2).1
          rw [b4]
          exact this)
        exact hQ M4 _ (fm_mono (fm_tr hfr a1 (S2 := [59, 60]) (F2 := [22, 23, 24, 27, 28]))) ⟨_, hb, by rw [a1.2 28 (by decide)]; exact e28⟩ (fun z => absurd z hnb) (fun _ => rfl)
      · have hya : alw w o (gs (zS S n) j) (gs (zS S n) (j + 1) - 1) := by
          by_cases z : alw w o (gs (zS S n) j) (gs (zS S n) (j + 1) - 1)
          · exact z
          · have := a4 z
            rw [this] at hr
            exact absurd z_0 hr
        refine ho_ok hG (MR_fm hM' a1) b1.1 (by omega) (by omega) (by rw [a1.2 27 (by decide)]; exact e27) (by rw [a1.2 28 (by decide)]; exact e28) hb (fun M6 c1 c2 c3 c4 => ⟨fm_nb c1, ?_⟩)
        have es := rdF_s (w := w) (o := o) (z := zS S n) (x := (lat0, rd, 0, fa)) h0
        have eA := trG_A (win := o 1) (w := w) (f := gs (zS S n) j) (l := gs (zS S n) (j + 1) - 1) (rd := (rdF w o (zS S n) j (lat0, rd, 0, fa)).2.1) (h := (rdF w o (zS S n) j (lat0, rd, 0, fa)).2.2.1) (fa := (rdF w o (zS S n) j (lat0, rd, 0, fa)).2.2.2)
        have e3 : ((lat0, (rdF w o (zS S n) j (lat0, rd, 0, fa)).2) : TRs) = (lat0, (rdF w o (zS S n) j (lat0, rd, 0, fa)).2.1, (rdF w o (zS S n) j (lat0, rd, 0, fa)).2.2.1, (rdF w o (zS S n) j (lat0, rd, 0, fa)).2.2.2) := rfl
        rw [e3] at es
        rw [← es] at eA
        refine ih (j + 1) _ _ M6 (by omega) (by omega) ?_ ?_ (fm_tr (fm_tr hfr a1 (S2 := [59, 60]) (F2 := [22, 23, 24, 27, 28])) c1) ?_ ?_ ?_ ?_
        · rw [z_add, eA.2.2]; exact zc (by omega)
        · rw [z_add]; exact zc (by omega)
        · rw [c2, eA.1]
        · rw [c3, eA.2.1]
        · rw [eA.2.1]; exact c4.2
        · rw [hal]
          show (gs (zS S n) j < n → _) ↔ _
          rw [b4]
          rw [b4] at hya
          exact ⟨fun z => (z b2).2, fun z _ => ⟨hya, z⟩⟩
  refine en_X12_hitsIn (bl_X12_hitsIn_0 _ _ _ ?_)
  refine main T.toNat 0 _ _ M0 (by have := hT.1; omega) (by omega) (by rw [rdF_0]; exact z_0) (by rw [gs_0]; exact z_0) (fm_rf _ _ _) (by rw [rdF_0]; exact h27) (by rw [rdF_0]; exact h28) (by rw [rdF_0]; exact hfa) ?_
  rw [gs_0]
  have := (vz_T (w := w) (o := o) hT T.toNat 7 0 (by omega) (by have := hT.1; omega) (by omega)).2
  rw [gs_0] at this
  exact this
