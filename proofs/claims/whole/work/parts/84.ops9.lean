theorem az_al {w : Int → Int → Int} {o : Int → Int} {n k : Int} : ∀ (d : Nat) (f : Int), 0 ≤ f → alN w o n (az w o n k) d f := by
  intro d
  induction d with
  | zero => intro f _; trivial
  | succ d ih =>
    intro f h0 hf
    have hz := az_ok (w := w) (o := o) (n := n) (k := k) f h0 hf
    refine ⟨?_, ih _ (by omega)⟩
    obtain ⟨g1, g2, g3, g4⟩ := lg_is (w := w) (o := o) hf
    unfold az at *
    by_cases q : k = 0
    · rw [if_pos q, show f + 1 - 1 = f by omega]; exact alw_one
    · rw [if_neg q] at hz ⊢
      by_cases q2 : k = 1
      · rw [if_pos q2]; exact g3
      · rw [if_neg q2] at hz ⊢
        have := (dp_opt (w := w) (o := o) hf).1
        exact alw_le g3 (by omega)
theorem rdF_ag {w : Int → Int → Int} {o : Int → Int} {n T S : Int} {z : Int → Int} {x : TRs} (hz : zok z n) (hn : 0 ≤ n) (hT : isNG z n T) (hS : isSet S z n T) : rdF w o (zS S n) T x = rdF w o z T x := by
  unfold rdF
  exact ni_congr (fun j y h0 hj => by rw [isSet_gs hz hn hT hS h0 (by omega), isSet_gs hz hn hT hS (show 0 ≤ j + 1 by omega) (by omega)])
def rdV (x : TRs) (b : Int) : Int := if b = 0 then x.2.1 else if b = 1 then x.2.2.1 else x.2.2.2
set_option maxHeartbeats 4000000 in
set_option maxRecDepth 100000 in
theorem op_reads {M : jM} {k : Nat} {n : Int} {w : Int → Int → Int} {o : Int → Int} {ver : Int} {a b : Int32} {P : jM → Int32 → Int32 → Prop} {Q : Int32 → Nat → jM → Prop} (hR : RLz M k n w o ver) (hk : k ≤ 2000) (hP : ∀ M5 r1 r4, RLz M5 (k + 1) n w o ver → M5 11 0 7 = r1 → (r1 = 0 → M5 61 0 0 = r4) → P M5 r1 r4) (hq : ∀ r1 M2, ok_X12_reads a b M2 (fun r4 _ M5 => P M5 r1 r4) → Q r1 0 M2) : ok_L_reads a b M Q := by
  obtain ⟨hnb, hv⟩ := RLz_n hR hk
  have hG := hR.1
  have hPR := hR.2.1
  have hCI := hR.2.2.2.1
  have hn := hG.1
  have h6 := hPR.1
  obtain ⟨a, a1, a2, rfl⟩ := zI_of a
  obtain ⟨b, b1, b2, rfl⟩ := zI_of b
  have key : ∀ (M2 : jM) (r1 : Int32), fr SO M M2 → CI M2 n w o ver → ((¬ ((0 ≤ a ∧ a ≤ 2) ∧ 0 ≤ b ∧ b ≤ 2) ∧ r1 = zI 1) ∨ (((0 ≤ a ∧ a ≤ 2) ∧ 0 ≤ b ∧ b ≤ 2) ∧ r1 = zI 0 ∧ ∃ T, isNG (az w o n a) n T ∧ M2 61 0 0 = zI (rdV (rdF w o (az w o n a) T (lat0, 0, 0, 0)) b))) → ok_X12_reads (zI a) (zI b) M2 (fun r4 _ M5 => P M5 r1 r4) := by
    intro M2 r1 hf hC hr
    obtain ⟨hM2, hF2⟩ := RLz_m hR hf
    have e0 := hM2.1
    refine en_X12_reads (bl_X12_reads_0 _ _ _ _ ?_)
    rintro M3 rfl
    rcases hr with ⟨q, hr⟩ | ⟨q, hr, T, hT, hv2⟩
    · have fin := ro_thr hR hP hf hC (fm_7 (x := zI 0) (fm_rf _ _ _)) (FA_7 hF2) hr (by omega)
      by_cases q3 : 0 ≤ a ∧ a ≤ 2
      · by_cases q4 : b < 0
        · simp (disch := omega) only [jup_self, jup_ne, z_add, z_sub, z_mul, z_neg, z_leT, z_leF, z_ltT, z_ltF, z_eqT, z_eqF, z_inT, z_clamp, z_nI, z_0, z_1, z_2, z_3, z_4, z_5, z_6, z_7, z_8, z_9, z_10, z_11, z_12, z_13, z_14, z_15, z_16, z_17, z_18, z_19, z_20, z_21, z_22, z_23, z_24, z_25, z_26, z_27, z_28, z_29, z_30, z_31, z_32, z_33, z_34, z_35, z_36, z_37, z_38, z_39, z_40, z_41, z_42, z_43, z_44, z_45, z_46, z_47, z_48, z_49, z_50, z_51, z_52, z_53, z_54, z_55, z_56, z_57, z_58, z_59, z_60, z_61, z_77, z_91, z_93, z_97, z_100, z_101, z_102, z_103, z_105, z_111, z_114, z_120, z_123, z_125, z_126, z_200, z_245, z_255, z_576, z_585, z_1000, z_2000, z_3510, z_11700, true_implies, false_implies, implies_true, not_true_eq_false, not_false_eq_true, true_and, and_true, false_and, and_false, ↓reduceIte, Int.reduceToNat, Int.reduceNeg, Int.toNat_natCast]
          rintro M4 rfl
          exact fin _
        · simp (disch := omega) only [jup_self, jup_ne, z_add, z_sub, z_mul, z_neg, z_leT, z_leF, z_ltT, z_ltF, z_eqT, z_eqF, z_inT, z_clamp, z_nI, z_0, z_1, z_2, z_3, z_4, z_5, z_6, z_7, z_8, z_9, z_10, z_11, z_12, z_13, z_14, z_15, z_16, z_17, z_18, z_19, z_20, z_21, z_22, z_23, z_24, z_25, z_26, z_27, z_28, z_29, z_30, z_31, z_32, z_33, z_34, z_35, z_36, z_37, z_38, z_39, z_40, z_41, z_42, z_43, z_44, z_45, z_46, z_47, z_48, z_49, z_50, z_51, z_52, z_53, z_54, z_55, z_56, z_57, z_58, z_59, z_60, z_61, z_77, z_91, z_93, z_97, z_100, z_101, z_102, z_103, z_105, z_111, z_114, z_120, z_123, z_125, z_126, z_200, z_245, z_255, z_576, z_585, z_1000, z_2000, z_3510, z_11700, true_implies, false_implies, implies_true, not_true_eq_false, not_false_eq_true, true_and, and_true, false_and, and_false, ↓reduceIte, Int.reduceToNat, Int.reduceNeg, Int.toNat_natCast]
          rintro M4 rfl
          exact fin _
      · by_cases q4 : a < 0
        · simp (disch := omega) only [jup_self, jup_ne, z_add, z_sub, z_mul, z_neg, z_leT, z_leF, z_ltT, z_ltF, z_eqT, z_eqF, z_inT, z_clamp, z_nI, z_0, z_1, z_2, z_3, z_4, z_5, z_6, z_7, z_8, z_9, z_10, z_11, z_12, z_13, z_14, z_15, z_16, z_17, z_18, z_19, z_20, z_21, z_22, z_23, z_24, z_25, z_26, z_27, z_28, z_29, z_30, z_31, z_32, z_33, z_34, z_35, z_36, z_37, z_38, z_39, z_40, z_41, z_42, z_43, z_44, z_45, z_46, z_47, z_48, z_49, z_50, z_51, z_52, z_53, z_54, z_55, z_56, z_57, z_58, z_59, z_60, z_61, z_77, z_91, z_93, z_97, z_100, z_101, z_102, z_103, z_105, z_111, z_114, z_120, z_123, z_125, z_126, z_200, z_245, z_255, z_576, z_585, z_1000, z_2000, z_3510, z_11700, true_implies, false_implies, implies_true, not_true_eq_false, not_false_eq_true, true_and, and_true, false_and, and_false, ↓reduceIte, Int.reduceToNat, Int.reduceNeg, Int.toNat_natCast]
          rintro M4 rfl
          exact fin _
        · simp (disch := omega) only [jup_self, jup_ne, z_add, z_sub, z_mul, z_neg, z_leT, z_leF, z_ltT, z_ltF, z_eqT, z_eqF, z_inT, z_clamp, z_nI, z_0, z_1, z_2, z_3, z_4, z_5, z_6, z_7, z_8, z_9, z_10, z_11, z_12, z_13, z_14, z_15, z_16, z_17, z_18, z_19, z_20, z_21, z_22, z_23, z_24, z_25, z_26, z_27, z_28, z_29, z_30, z_31, z_32, z_33, z_34, z_35, z_36, z_37, z_38, z_39, z_40, z_41, z_42, z_43, z_44, z_45, z_46, z_47, z_48, z_49, z_50, z_51, z_52, z_53, z_54, z_55, z_56, z_57, z_58, z_59, z_60, z_61, z_77, z_91, z_93, z_97, z_100, z_101, z_102, z_103, z_105, z_111, z_114, z_120, z_123, z_125, z_126, z_200, z_245, z_255, z_576, z_585, z_1000, z_2000, z_3510, z_11700, true_implies, false_implies, implies_true, not_true_eq_false, not_false_eq_true, true_and, and_true, false_and, and_false, ↓reduceIte, Int.reduceToNat, Int.reduceNeg, Int.toNat_natCast]
          rintro M4 rfl
          exact fin _
    · simp (disch := omega) only [jup_self, jup_ne, z_add, z_sub, z_mul, z_neg, z_leT, z_leF, z_ltT, z_ltF, z_eqT, z_eqF, z_inT, z_clamp, z_nI, z_0, z_1, z_2, z_3, z_4, z_5, z_6, z_7, z_8, z_9, z_10, z_11, z_12, z_13, z_14, z_15, z_16, z_17, z_18, z_19, z_20, z_21, z_22, z_23, z_24, z_25, z_26, z_27, z_28, z_29, z_30, z_31, z_32, z_33, z_34, z_35, z_36, z_37, z_38, z_39, z_40, z_41, z_42, z_43, z_44, z_45, z_46, z_47, z_48, z_49, z_50, z_51, z_52, z_53, z_54, z_55, z_56, z_57, z_58, z_59, z_60, z_61, z_77, z_91, z_93, z_97, z_100, z_101, z_102, z_103, z_105, z_111, z_114, z_120, z_123, z_125, z_126, z_200, z_245, z_255, z_576, z_585, z_1000, z_2000, z_3510, z_11700, true_implies, false_implies, implies_true, not_true_eq_false, not_false_eq_true, true_and, and_true, false_and, and_false, ↓reduceIte, Int.reduceToNat, Int.reduceNeg, Int.toNat_natCast]
      refine set_ok hG (MR_7 hM2) (FA_7 hF2) q.1 (fun M4 S c1 c2 c3 c4 => ⟨fm_nb c1, ?_⟩)
      rintro M5 rfl M6 rfl
      have hc : fm [] [27, 28] M4 (jup (jup M4 11 0 27 (zI 0)) 11 0 28 (zI 0)) := fm_f (fm_f (fm_rf _ _ _))
      have hM4 := MR_fm (MR_7 (x := zI 0) hM2) c1
      have hS := c3 T hT
      have hNG := isSet_NG az_ok hn.1 hT hS
      refine hi_ok hG (MR_fm hM4 hc) hS.1 hNG (by rw [jup_ne (by omega), jup_self]) (by rw [jup_self]) (show 0 ≤ (0 : Int) ∧ (0 : Int) ≤ 9 by omega) (fun M7 r d1 d2 d3 d4 => ⟨fm_nb d1, ?_⟩)
      have hal : bAl w o n S := by
        unfold bAl
        have v := vz_ag (w := w) (o := o) hT (isSet_z az_ok hn.1 hT hS) 7 0 (by omega) hT.1
        rw [gs_0] at v
        exact v.2.mpr (az_al 7 0 (by omega))
      obtain ⟨e1, e2, e3⟩ := d3 hal
      rw [rdF_ag az_ok hn.1 hT hS] at e1 e2 e3
      have hm : fm SM FM M2 M7 := fm_tr (fm_tr (fm_tr (fm_7 (x := zI 0) (fm_rf SM FM M2)) c1 (S2 := SM) (F2 := FM)) hc (S2 := SM) (F2 := FM)) d1
      have e7 : M7 11 0 7 = r1 := by rw [d1.2 7 (by decide), hc.2 7 (by decide), c1.2 7 (by decide), jup_self, hr]
      have val : ∀ r4, r4 = zI (rdV (rdF w o (az w o n a) T (lat0, 0, 0, 0)) b) → P M7 r1 r4 := fun r4 h => ro_val hR hP hf hC hm d2 e7 (by rw [fm_61 hm, hv2, h])
      rcases (show b = 0 ∨ b = 1 ∨ b = 2 by omega) with hb | hb | hb
      · subst hb
        simp (disch := omega) only [z_add, z_sub, z_mul, z_neg, z_leT, z_leF, z_ltT, z_ltF, z_eqT, z_eqF, z_inT, z_clamp, z_nI, z_0, z_1, z_2, z_3, z_4, z_5, z_6, z_7, z_8, z_9, z_10, z_11, z_12, z_13, z_14, z_15, z_16, z_17, z_18, z_19, z_20, z_21, z_22, z_23, z_24, z_25, z_26, z_27, z_28, z_29, z_30, z_31, z_32, z_33, z_34, z_35, z_36, z_37, z_38, z_39, z_40, z_41, z_42, z_43, z_44, z_45, z_46, z_47, z_48, z_49, z_50, z_51, z_52, z_53, z_54, z_55, z_56, z_57, z_58, z_59, z_60, z_61, z_77, z_91, z_93, z_97, z_100, z_101, z_102, z_103, z_105, z_111, z_114, z_120, z_123, z_125, z_126, z_200, z_245, z_255, z_576, z_585, z_1000, z_2000, z_3510, z_11700, true_implies, false_implies, implies_true, not_true_eq_false, not_false_eq_true, true_and, and_true, false_and, and_false, ↓reduceIte, Int.reduceToNat, Int.reduceNeg, Int.toNat_natCast, e2]
        exact val _ rfl
      · subst hb
        simp (disch := omega) only [z_add, z_sub, z_mul, z_neg, z_leT, z_leF, z_ltT, z_ltF, z_eqT, z_eqF, z_inT, z_clamp, z_nI, z_0, z_1, z_2, z_3, z_4, z_5, z_6, z_7, z_8, z_9, z_10, z_11, z_12, z_13, z_14, z_15, z_16, z_17, z_18, z_19, z_20, z_21, z_22, z_23, z_24, z_25, z_26, z_27, z_28, z_29, z_30, z_31, z_32, z_33, z_34, z_35, z_36, z_37, z_38, z_39, z_40, z_41, z_42, z_43, z_44, z_45, z_46, z_47, z_48, z_49, z_50, z_51, z_52, z_53, z_54, z_55, z_56, z_57, z_58, z_59, z_60, z_61, z_77, z_91, z_93, z_97, z_100, z_101, z_102, z_103, z_105, z_111, z_114, z_120, z_123, z_125, z_126, z_200, z_245, z_255, z_576, z_585, z_1000, z_2000, z_3510, z_11700, true_implies, false_implies, implies_true, not_true_eq_false, not_false_eq_true, true_and, and_true, false_and, and_false, ↓reduceIte, Int.reduceToNat, Int.reduceNeg, Int.toNat_natCast, e1]
        exact val _ rfl
      · subst hb
        simp (disch := omega) only [z_add, z_sub, z_mul, z_neg, z_leT, z_leF, z_ltT, z_ltF, z_eqT, z_eqF, z_inT, z_clamp, z_nI, z_0, z_1, z_2, z_3, z_4, z_5, z_6, z_7, z_8, z_9, z_10, z_11, z_12, z_13, z_14, z_15, z_16, z_17, z_18, z_19, z_20, z_21, z_22, z_23, z_24, z_25, z_26, z_27, z_28, z_29, z_30, z_31, z_32, z_33, z_34, z_35, z_36, z_37, z_38, z_39, z_40, z_41, z_42, z_43, z_44, z_45, z_46, z_47, z_48, z_49, z_50, z_51, z_52, z_53, z_54, z_55, z_56, z_57, z_58, z_59, z_60, z_61, z_77, z_91, z_93, z_97, z_100, z_101, z_102, z_103, z_105, z_111, z_114, z_120, z_123, z_125, z_126, z_200, z_245, z_255, z_576, z_585, z_1000, z_2000, z_3510, z_11700, true_implies, false_implies, implies_true, not_true_eq_false, not_false_eq_true, true_and, and_true, false_and, and_false, ↓reduceIte, Int.reduceToNat, Int.reduceNeg, Int.toNat_natCast, e3]
        exact val _ rfl
  refine wr_reads (en_X11_reads (bl_X11_reads_0 _ _ _ _ _ ?_))
  refine po_ok hG hPR hnb hCI hv ⟨a1, a2⟩ (fun k0 k1 M3 T f1 f2 f3 f4 => ⟨by omega, fr_nb f1, ?_⟩) (fun z => ⟨rfl, hq _ _ (key M _ (fr_rf _ _) hCI (Or.inl ⟨fun y => z y.1, z_1⟩))⟩)
  have hTn := T_in hn f4.1
  have eo := (PR_r hPR f1).2.1.2.1
  have hw := hG.2.1.2.1
  by_cases qb : 0 ≤ b ∧ b ≤ 2
  · have go : ok_X9_begin (zI (o 1)) M3 (fun _ _ M5 => jnb M5 = jnb M3 ∧ at_X11_reads_44c (zI b) a.toNat (zI 0) M5 (fun r x M1 => jnb M1 = jnb M ∧ Q 0 0 (jup M1 61 0 (0 : Int32).toNatClampNeg r)) (fun E M1 => E = "java/lang/IllegalArgumentException" ∧ Q 1 0 M1)) := by
      refine beg9_ok (fun M4 d1 d2 d3 d4 d5 d6 => ⟨fr_nb d1, ?_⟩)
      have hC4 := CI_fr f2 d1 (by rw [d1 1 (by decide)])
      have hN4 : NE M4 n w := by unfold NE at *; rw [d1 29 (by decide)]; exact f3
      have main : ∀ (d : Nat) (j : Int) (v4 : Int32) (M5 : jM), j + d = T → 0 ≤ j → v4 = zI j → fr [1, 9, 27, 43] M4 M5 → M5 1 0 4 = M4 1 0 4 → M5 9 0 1 = zI (o 1) → M5 9 0 2 = zI (rdF w o (az w o n a) j (lat0, 0, 0, 0)).2.1 → M5 9 0 3 = zI (rdF w o (az w o n a) j (lat0, 0, 0, 0)).2.2.1 → M5 9 0 4 = zI (rdF w o (az w o n a) j (lat0, 0, 0, 0)).2.2.2 → (0 ≤ (rdF w o (az w o n a) j (lat0, 0, 0, 0)).2.2.2 ∧ (rdF w o (az w o n a) j (lat0, 0, 0, 0)).2.2.2 ≤ 9) → at_X11_reads_44c (zI b) a.toNat v4 M5 (fun r x M1 => jnb M1 = jnb M ∧ Q 0 0 (jup M1 61 0 (0 : Int32).toNatClampNeg r)) (fun E M1 => E = "java/lang/IllegalArgumentException" ∧ Q 1 0 M1) := by
        intro d
        induction d with
        | zero =>
          intro j v4 M5 hd j0 h4 hfr e4 t1 t2 t3 t4 tb
          subst h4
          refine bl_X11_reads_44 _ _ _ _ _ _ (by omega) ?_
          have e9 : M5 5 a.toNat 9 = zI T := by rw [hfr 5 (by decide), d1 5 (by decide)]; exact f4.2.1
          have hf5 : fr SO M M5 := fr_tr (fr_tr f1 d1 (U := SO)) hfr
          have hC5 := CI_fr hC4 hfr e4
          have ej : j = T := by omega
          rw [ej] at t2 t3 t4 ⊢
          have enb : jnb M5 = jnb M := fr_nb hf5
          have fin : ∀ x, x = zI (rdV (rdF w o (az w o n a) T (lat0, 0, 0, 0)) b) → Q (zI 0) 0 (jup M5 61 0 0 x) := fun x hx => hq _ _ (key _ _ (o_fr hf5) (o_CI hC5) (Or.inr ⟨⟨⟨k0, k1⟩, qb⟩, rfl, T, f4.1, by rw [jup_self, hx]⟩))
          rcases (show b = 0 ∨ b = 1 ∨ b = 2 by omega) with hb | hb | hb
          · subst hb
            simp (disch := omega) only [z_add, z_sub, z_mul, z_neg, z_leT, z_leF, z_ltT, z_ltF, z_eqT, z_eqF, z_inT, z_clamp, z_nI, z_0, z_1, z_2, z_3, z_4, z_5, z_6, z_7, z_8, z_9, z_10, z_11, z_12, z_13, z_14, z_15, z_16, z_17, z_18, z_19, z_20, z_21, z_22, z_23, z_24, z_25, z_26, z_27, z_28, z_29, z_30, z_31, z_32, z_33, z_34, z_35, z_36, z_37, z_38, z_39, z_40, z_41, z_42, z_43, z_44, z_45, z_46, z_47, z_48, z_49, z_50, z_51, z_52, z_53, z_54, z_55, z_56, z_57, z_58, z_59, z_60, z_61, z_77, z_91, z_93, z_97, z_100, z_101, z_102, z_103, z_105, z_111, z_114, z_120, z_123, z_125, z_126, z_200, z_245, z_255, z_576, z_585, z_1000, z_2000, z_3510, z_11700, true_implies, false_implies, implies_true, not_true_eq_false, not_false_eq_true, true_and, and_true, false_and, and_false, ↓reduceIte, Int.reduceToNat, Int.reduceNeg, Int.toNat_natCast, e9, t2, enb]
            exact fin _ rfl
          · subst hb
            simp (disch := omega) only [z_add, z_sub, z_mul, z_neg, z_leT, z_leF, z_ltT, z_ltF, z_eqT, z_eqF, z_inT, z_clamp, z_nI, z_0, z_1, z_2, z_3, z_4, z_5, z_6, z_7, z_8, z_9, z_10, z_11, z_12, z_13, z_14, z_15, z_16, z_17, z_18, z_19, z_20, z_21, z_22, z_23, z_24, z_25, z_26, z_27, z_28, z_29, z_30, z_31, z_32, z_33, z_34, z_35, z_36, z_37, z_38, z_39, z_40, z_41, z_42, z_43, z_44, z_45, z_46, z_47, z_48, z_49, z_50, z_51, z_52, z_53, z_54, z_55, z_56, z_57, z_58, z_59, z_60, z_61, z_77, z_91, z_93, z_97, z_100, z_101, z_102, z_103, z_105, z_111, z_114, z_120, z_123, z_125, z_126, z_200, z_245, z_255, z_576, z_585, z_1000, z_2000, z_3510, z_11700, true_implies, false_implies, implies_true, not_true_eq_false, not_false_eq_true, true_and, and_true, false_and, and_false, ↓reduceIte, Int.reduceToNat, Int.reduceNeg, Int.toNat_natCast, e9, t3, enb]
            exact fin _ rfl
          · subst hb
            simp (disch := omega) only [z_add, z_sub, z_mul, z_neg, z_leT, z_leF, z_ltT, z_ltF, z_eqT, z_eqF, z_inT, z_clamp, z_nI, z_0, z_1, z_2, z_3, z_4, z_5, z_6, z_7, z_8, z_9, z_10, z_11, z_12, z_13, z_14, z_15, z_16, z_17, z_18, z_19, z_20, z_21, z_22, z_23, z_24, z_25, z_26, z_27, z_28, z_29, z_30, z_31, z_32, z_33, z_34, z_35, z_36, z_37, z_38, z_39, z_40, z_41, z_42, z_43, z_44, z_45, z_46, z_47, z_48, z_49, z_50, z_51, z_52, z_53, z_54, z_55, z_56, z_57, z_58, z_59, z_60, z_61, z_77, z_91, z_93, z_97, z_100, z_101, z_102, z_103, z_105, z_111, z_114, z_120, z_123, z_125, z_126, z_200, z_245, z_255, z_576, z_585, z_1000, z_2000, z_3510, z_11700, true_implies, false_implies, implies_true, not_true_eq_false, not_false_eq_true, true_and, and_true, false_and, and_false, ↓reduceIte, Int.reduceToNat, Int.reduceNeg, Int.toNat_natCast, e9, t4, enb]
            exact fin _ rfl
        | succ d ih =>
          intro j v4 M5 hd j0 h4 hfr e4 t1 t2 t3 t4 tb
          subst h4
          refine bl_X11_reads_44 _ _ _ _ _ _ (by omega) ?_
          have e9 : M5 5 a.toNat 9 = zI T := by rw [hfr 5 (by decide), d1 5 (by decide)]; exact f4.2.1
          have hP5 := PR_r (PR_r (PR_r hPR f1) d1) hfr
          have hN5 : NE M5 n w := by unfold NE at *; rw [hfr 29 (by decide)]; exact hN4
          have hL5 : PLN M5 a.toNat (az w o n a) n T := PLN_fr f4 (by rw [hfr 5 (by decide), d1 5 (by decide)]) (by rw [hfr 35 (by decide), d1 35 (by decide)])
          have u1 := gs_at az_ok hn.1 f4.1 j0 (by omega)
          have u2 := gs_at az_ok hn.1 f4.1 (show 0 ≤ j + 1 by omega) (by omega)
          have u3 := az_ok (w := w) (o := o) (n := n) (k := a) _ u1.1 (f4.1.2.2 j j0 (by omega))
          have u4 := gs_s (z := az w o n a) j0
          have es := rdF_s (w := w) (o := o) (z := az w o n a) (x := (lat0, 0, 0, 0)) j0
          simp (disch := omega) only [z_add, z_sub, z_mul, z_neg, z_leT, z_leF, z_ltT, z_ltF, z_eqT, z_eqF, z_inT, z_clamp, z_nI, z_0, z_1, z_2, z_3, z_4, z_5, z_6, z_7, z_8, z_9, z_10, z_11, z_12, z_13, z_14, z_15, z_16, z_17, z_18, z_19, z_20, z_21, z_22, z_23, z_24, z_25, z_26, z_27, z_28, z_29, z_30, z_31, z_32, z_33, z_34, z_35, z_36, z_37, z_38, z_39, z_40, z_41, z_42, z_43, z_44, z_45, z_46, z_47, z_48, z_49, z_50, z_51, z_52, z_53, z_54, z_55, z_56, z_57, z_58, z_59, z_60, z_61, z_77, z_91, z_93, z_97, z_100, z_101, z_102, z_103, z_105, z_111, z_114, z_120, z_123, z_125, z_126, z_200, z_245, z_255, z_576, z_585, z_1000, z_2000, z_3510, z_11700, true_implies, false_implies, implies_true, not_true_eq_false, not_false_eq_true, true_and, and_true, false_and, and_false, ↓reduceIte, Int.reduceToNat, Int.reduceNeg, Int.toNat_natCast, e9]
          refine tg_ok (by omega) hG hP5 hN5 az_ok hL5 ⟨j0, by omega⟩ (fun M6 g1 g2 g3 => ⟨fr_nb g1, ?_⟩)
          refine forget_ok (fun M8 y1 y2 => ⟨fr_nb y1, ?_⟩)
          have G9 := g1 9 (by decide)
          have Y9 := y1 9 (by decide)
          refine pf0_ok (rd := (rdF w o (az w o n a) j (lat0, 0, 0, 0)).2.1) (ht := (rdF w o (az w o n a) j (lat0, 0, 0, 0)).2.2.1) (fa := (rdF w o (az w o n a) j (lat0, 0, 0, 0)).2.2.2) (win := o 1) (PR_r (PR_r hP5 g1) y1) hG (by rw [fr_nb y1, fr_nb g1, fr_nb hfr, fr_nb d1, fr_nb f1]; exact hnb) (GS_fr g3 y1) u1.1 (by omega) (by omega) hw tb (by rw [Y9, G9]; exact t1) (by rw [Y9, G9]; exact t2) (by rw [Y9, G9]; exact t3) (by rw [Y9, G9]; exact t4) y2 (fun M7 i1 i2 => ⟨fr_nb i1, ?_⟩)
          have e3 : ((lat0, (rdF w o (az w o n a) j (lat0, 0, 0, 0)).2) : TRs) = (lat0, (rdF w o (az w o n a) j (lat0, 0, 0, 0)).2.1, (rdF w o (az w o n a) j (lat0, 0, 0, 0)).2.2.1, (rdF w o (az w o n a) j (lat0, 0, 0, 0)).2.2.2) := rfl
          rw [e3] at es
          rw [← es] at i2
          exact ih (j + 1) _ M7 (by omega) (by omega) rfl (fr_tr (fr_tr (fr_tr hfr g1 (U := [1, 9, 27, 43])) y1 (U := [1, 9, 27, 43])) i1) (by rw [i1 1 (by decide), y1 1 (by decide), g2]; exact e4) i2.1.1 i2.1.2.1 i2.1.2.2.1 i2.1.2.2.2 i2.2.2.2
      exact main T.toNat 0 _ M4 (by omega) (by omega) rfl (fr_rf _ _) rfl d2 (by rw [rdF_0]; exact d3) (by rw [rdF_0]; exact d4) (by rw [rdF_0]; exact d5) (by rw [rdF_0]; exact ⟨Int.le_refl _, by show (0 : Int) ≤ 9; omega⟩)
    refine ⟨fun z => ?_, fun _ => ⟨fun _ => ?_, fun z => ?_⟩⟩
    · rw [z_0, z_ltF (by omega)] at z; exact z.elim
    · rw [show (1 : Int32).toNatClampNeg = 1 by decide, eo]
      exact go
    · exact absurd (by rw [z_2, z_leT (by omega)]; trivial) z
  · have f3 := hq _ _ (key M3 _ (fr_mono f1) f2 (Or.inl ⟨fun y => qb y.2, z_1⟩))
    refine ⟨fun z => ⟨rfl, f3⟩, fun z => ⟨fun y => ?_, fun _ => ⟨rfl, f3⟩⟩⟩
    by_cases q5 : b < 0
    · exact absurd (by rw [z_0, z_ltT (by omega)]; trivial) z
    · rw [z_2, z_leF (by omega)] at y; exact y.elim
def hsC (C : Nat → Int32) (k : Int) : Int32 := ni k (fun j h => zI 31 * h + C j.toNat) (zI 7)
theorem hsC_s {C : Nat → Int32} {k : Int} (h : 0 ≤ k) : hsC C (k + 1) = zI 31 * hsC C k + C k.toNat := ni_s h
theorem hsC_ag {C D : Nat → Int32} (h : agC C D) : hsC C 245 = hsC D 245 := by
  unfold hsC
  exact ni_congr (fun j x j0 j1 => by rw [h j.toNat (by omega)])
set_option maxHeartbeats 4000000 in
set_option maxRecDepth 100000 in
theorem op_run {M : jM} {k : Nat} {n : Int} {w : Int → Int → Int} {o : Int → Int} {ver : Int} {a : Int32} {P : jM → Int32 → Int32 → Prop} {Q : Int32 → Nat → jM → Prop} (hR : RLz M k n w o ver) (hk : k ≤ 2000) (hP : ∀ M5 r1 r4, RLz M5 (k + 1) n w o ver → M5 11 0 7 = r1 → (r1 = 0 → M5 61 0 0 = r4) → P M5 r1 r4) (hq : ∀ r1 M2, ok_X12_run a M2 (fun r4 _ M5 => P M5 r1 r4) → Q r1 0 M2) : ok_L_run a M Q := by
  obtain ⟨hnb, hv⟩ := RLz_n hR hk
  have hG := hR.1
  have hPR := hR.2.1
  have hCI := hR.2.2.2.1
  have hn := hG.1
  have h6 := hPR.1
  obtain ⟨a, a1, a2, rfl⟩ := zI_of a
  have key : ∀ (M2 : jM) (r1 : Int32), fr SO M M2 → CI M2 n w o ver → ((¬ (0 ≤ a ∧ a ≤ 2) ∧ r1 = zI 1) ∨ ((0 ≤ a ∧ a ≤ 2) ∧ r1 = zI 0 ∧ ∃ T C, isNG (az w o n a) n T ∧ M2 61 0 0 = hsC (rnC w o (az w o n a) T C) 245)) → ok_X12_run (zI a) M2 (fun r4 _ M5 => P M5 r1 r4) := by
    intro M2 r1 hf hC hr
    obtain ⟨hM2, hF2⟩ := RLz_m hR hf
    refine en_X12_run (bl_X12_run_0 _ _ _ ?_)
    rcases hr with ⟨q, hr⟩ | ⟨q, hr, T, C, hT, hv2⟩
    · have fin := ro_thr hR hP hf hC (fm_rf _ _ M2) hF2 hr (by omega)
      by_cases q4 : a < 0
      · simp (disch := omega) only [z_add, z_sub, z_mul, z_neg, z_leT, z_leF, z_ltT, z_ltF, z_eqT, z_eqF, z_inT, z_clamp, z_nI, z_0, z_1, z_2, z_3, z_4, z_5, z_6, z_7, z_8, z_9, z_10, z_11, z_12, z_13, z_14, z_15, z_16, z_17, z_18, z_19, z_20, z_21, z_22, z_23, z_24, z_25, z_26, z_27, z_28, z_29, z_30, z_31, z_32, z_33, z_34, z_35, z_36, z_37, z_38, z_39, z_40, z_41, z_42, z_43, z_44, z_45, z_46, z_47, z_48, z_49, z_50, z_51, z_52, z_53, z_54, z_55, z_56, z_57, z_58, z_59, z_60, z_61, z_77, z_91, z_93, z_97, z_100, z_101, z_102, z_103, z_105, z_111, z_114, z_120, z_123, z_125, z_126, z_200, z_245, z_255, z_576, z_585, z_1000, z_2000, z_3510, z_11700, true_implies, false_implies, implies_true, not_true_eq_false, not_false_eq_true, true_and, and_true, false_and, and_false, ↓reduceIte, Int.reduceToNat, Int.reduceNeg, Int.toNat_natCast]
        rintro M3 rfl
        exact ⟨fun z => by rw [jup_self, z_leF (by omega)] at z; exact z.elim, fun _ => fin _⟩
      · simp (disch := omega) only [z_add, z_sub, z_mul, z_neg, z_leT, z_leF, z_ltT, z_ltF, z_eqT, z_eqF, z_inT, z_clamp, z_nI, z_0, z_1, z_2, z_3, z_4, z_5, z_6, z_7, z_8, z_9, z_10, z_11, z_12, z_13, z_14, z_15, z_16, z_17, z_18, z_19, z_20, z_21, z_22, z_23, z_24, z_25, z_26, z_27, z_28, z_29, z_30, z_31, z_32, z_33, z_34, z_35, z_36, z_37, z_38, z_39, z_40, z_41, z_42, z_43, z_44, z_45, z_46, z_47, z_48, z_49, z_50, z_51, z_52, z_53, z_54, z_55, z_56, z_57, z_58, z_59, z_60, z_61, z_77, z_91, z_93, z_97, z_100, z_101, z_102, z_103, z_105, z_111, z_114, z_120, z_123, z_125, z_126, z_200, z_245, z_255, z_576, z_585, z_1000, z_2000, z_3510, z_11700, true_implies, false_implies, implies_true, not_true_eq_false, not_false_eq_true, true_and, and_true, false_and, and_false, ↓reduceIte, Int.reduceToNat, Int.reduceNeg, Int.toNat_natCast]
        rintro M3 rfl
        exact ⟨fun z => by rw [jup_self, z_leF (by omega)] at z; exact z.elim, fun _ => fin _⟩
    · simp (disch := omega) only [z_add, z_sub, z_mul, z_neg, z_leT, z_leF, z_ltT, z_ltF, z_eqT, z_eqF, z_inT, z_clamp, z_nI, z_0, z_1, z_2, z_3, z_4, z_5, z_6, z_7, z_8, z_9, z_10, z_11, z_12, z_13, z_14, z_15, z_16, z_17, z_18, z_19, z_20, z_21, z_22, z_23, z_24, z_25, z_26, z_27, z_28, z_29, z_30, z_31, z_32, z_33, z_34, z_35, z_36, z_37, z_38, z_39, z_40, z_41, z_42, z_43, z_44, z_45, z_46, z_47, z_48, z_49, z_50, z_51, z_52, z_53, z_54, z_55, z_56, z_57, z_58, z_59, z_60, z_61, z_77, z_91, z_93, z_97, z_100, z_101, z_102, z_103, z_105, z_111, z_114, z_120, z_123, z_125, z_126, z_200, z_245, z_255, z_576, z_585, z_1000, z_2000, z_3510, z_11700, true_implies, false_implies, implies_true, not_true_eq_false, not_false_eq_true, true_and, and_true, false_and, and_false, ↓reduceIte, Int.reduceToNat, Int.reduceNeg, Int.toNat_natCast]
      rintro M3 rfl
      rw [jup_self]
      refine ⟨fun _ => ?_, fun z => absurd (by rw [z_leT (by omega)]; trivial) z⟩
      refine set_ok hG (MR_7 hM2) (FA_7 hF2) q (fun M4 S c1 c2 c3 c4 => ⟨fm_nb c1, ?_⟩)
      refine rn_ok hG (MR_fm (MR_7 hM2) c1) az_ok hT (c3 T hT) (fun M5 d1 d2 => ⟨fm_nb d1, ?_⟩)
      have hm : fm SM FM M2 M5 := fm_tr (fm_tr (fm_7 (x := zI 0) (fm_rf SM FM M2)) c1 (S2 := SM) (F2 := FM)) d1
      have val := ro_val (r1 := r1) (r4 := hsC (M5 58 0) 245) hR hP hf hC hm (FA_fm c2 d1) (by rw [d1.2 7 (by decide), c1.2 7 (by decide), jup_self, hr]) (by rw [fm_61 hm, hv2, d2]; exact hsC_ag (rnC_ag hG az_ok hT _ _))
      have loop : ∀ (d : Nat) (kk : Int) (v2 v3 : Int32), kk + d = 245 → 0 ≤ kk → v2 = hsC (M5 58 0) kk → v3 = zI kk → at_X12_run_41 v2 v3 M5 (fun r4 _ M5 => P M5 r1 r4) := by
        intro d
        induction d with
        | zero =>
          intro kk v2 v3 hd k0 h2 h3
          subst h2 h3
          refine bl_X12_run_41 _ _ _ _ ?_
          rw [show kk = 245 by omega]
          simp (disch := omega) only [z_add, z_sub, z_mul, z_neg, z_leT, z_leF, z_ltT, z_ltF, z_eqT, z_eqF, z_inT, z_clamp, z_nI, z_0, z_1, z_2, z_3, z_4, z_5, z_6, z_7, z_8, z_9, z_10, z_11, z_12, z_13, z_14, z_15, z_16, z_17, z_18, z_19, z_20, z_21, z_22, z_23, z_24, z_25, z_26, z_27, z_28, z_29, z_30, z_31, z_32, z_33, z_34, z_35, z_36, z_37, z_38, z_39, z_40, z_41, z_42, z_43, z_44, z_45, z_46, z_47, z_48, z_49, z_50, z_51, z_52, z_53, z_54, z_55, z_56, z_57, z_58, z_59, z_60, z_61, z_77, z_91, z_93, z_97, z_100, z_101, z_102, z_103, z_105, z_111, z_114, z_120, z_123, z_125, z_126, z_200, z_245, z_255, z_576, z_585, z_1000, z_2000, z_3510, z_11700, true_implies, false_implies, implies_true, not_true_eq_false, not_false_eq_true, true_and, and_true, false_and, and_false, ↓reduceIte, Int.reduceToNat, Int.reduceNeg, Int.toNat_natCast]
          exact val
        | succ d ih =>
          intro kk v2 v3 hd k0 h2 h3
          subst h2 h3
          refine bl_X12_run_41 _ _ _ _ ?_
          simp (disch := omega) only [z_add, z_sub, z_mul, z_neg, z_leT, z_leF, z_ltT, z_ltF, z_eqT, z_eqF, z_inT, z_clamp, z_nI, z_0, z_1, z_2, z_3, z_4, z_5, z_6, z_7, z_8, z_9, z_10, z_11, z_12, z_13, z_14, z_15, z_16, z_17, z_18, z_19, z_20, z_21, z_22, z_23, z_24, z_25, z_26, z_27, z_28, z_29, z_30, z_31, z_32, z_33, z_34, z_35, z_36, z_37, z_38, z_39, z_40, z_41, z_42, z_43, z_44, z_45, z_46, z_47, z_48, z_49, z_50, z_51, z_52, z_53, z_54, z_55, z_56, z_57, z_58, z_59, z_60, z_61, z_77, z_91, z_93, z_97, z_100, z_101, z_102, z_103, z_105, z_111, z_114, z_120, z_123, z_125, z_126, z_200, z_245, z_255, z_576, z_585, z_1000, z_2000, z_3510, z_11700, true_implies, false_implies, implies_true, not_true_eq_false, not_false_eq_true, true_and, and_true, false_and, and_false, ↓reduceIte, Int.reduceToNat, Int.reduceNeg, Int.toNat_natCast]
          exact ih (kk + 1) _ _ (by omega) (by omega) (by rw [hsC_s k0]) rfl
      exact loop 245 0 _ _ (by omega) (by omega) (ni_0 (Int.le_refl 0)).symm rfl
  refine wr_run (en_X11_run (bl_X11_run_0 _ _ _ _ ?_))
  refine po_ok hG hPR hnb hCI hv ⟨a1, a2⟩ (fun k0 k1 M3 T f1 f2 f3 f4 => ⟨by omega, fr_nb f1, ?_⟩) (fun z => ⟨rfl, hq _ _ (key M _ (fr_rf _ _) hCI (Or.inl ⟨z, z_1⟩))⟩)
  refine ex2_ok hG (PR_r hPR f1) (by rw [fr_nb f1]; exact hnb) f2 hv ⟨k0, k1⟩ f3 f4 (fun M4 C d1 d2 d3 => ⟨fr_nb d1, ?_⟩)
  have hf4 : fr SO M M4 := fr_tr f1 d1
  have loop : ∀ (d : Nat) (kk : Int) (v3 v4 : Int32), kk + d = 245 → 0 ≤ kk → v3 = hsC (M4 33 (a.toNat + 1)) kk → v4 = zI kk → at_X11_run_16c a.toNat v3 v4 M4 (fun r x M1 => jnb M1 = jnb M ∧ Q 0 0 (jup M1 61 0 (0 : Int32).toNatClampNeg r)) (fun E M1 => E = "java/lang/IllegalArgumentException" ∧ Q 1 0 M1) := by
    intro d
    induction d with
    | zero =>
      intro kk v2 v3 hd kk0 h2 h3
      subst h2 h3
      refine bl_X11_run_16 _ _ _ _ _ _ (by omega) ?_
      rw [show kk = 245 by omega]
      refine ⟨fun _ => ⟨fr_nb hf4, ?_⟩, fun z => absurd (by rw [z_245, z_leT (by omega)]; trivial) z⟩
      rw [z00]
      exact hq _ _ (key _ _ (o_fr hf4) (o_CI d2) (Or.inr ⟨⟨k0, k1⟩, z_0, T, C, f4.1, by rw [jup_self, d3]⟩))
    | succ d ih =>
      intro kk v2 v3 hd kk0 h2 h3
      subst h2 h3
      refine bl_X11_run_16 _ _ _ _ _ _ (by omega) ?_
      have next := ih (kk + 1) (hsC (M4 33 (a.toNat + 1)) (kk + 1)) (zI (kk + 1)) (by omega) (by omega) rfl rfl
      rw [hsC_s kk0] at next
      refine ⟨fun z => ?_, fun _ => ⟨by rw [z_inT (by omega)]; trivial, ?_⟩⟩
      · rw [z_245, z_leF (by omega)] at z; exact z.elim
      · rw [z_clamp (by omega), z_31, z_1, z_add]
        exact next
  exact loop 245 0 _ _ (by omega) (by omega) (by rw [z_7]; exact (ni_0 (Int.le_refl 0)).symm) z_0
