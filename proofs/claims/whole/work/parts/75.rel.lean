/-! ===== what holds between two calls ===== -/
/-- the class's stores of what was found -/
def CI (M : jM) (n : Int) (w : Int → Int → Int) (o : Int → Int) (ver : Int) : Prop :=
  M 6 0 3 = zI ver ∧ (∃ a : Int, M 1 0 4 = zI a ∧ (-1 ≤ a ∧ a ≤ ver) ∧ (a = ver → NE M n w)) ∧
  ∀ k : Nat, k < 3 → M 5 k 0 = zI (k : Int) ∧ (∃ a : Int, M 5 k 10 = zI a ∧ (-1 ≤ a ∧ a ≤ ver) ∧ (a = ver → ∃ T, PLN M k (az w o n k) n T)) ∧
    ∃ a : Int, M 5 k 11 = zI a ∧ (-1 ≤ a ∧ a ≤ ver) ∧ (a = ver → ∃ T C, isNG (az w o n k) n T ∧ M 33 (k + 1) = rnC w o (az w o n k) T C)
theorem CI_eq {M M1 : jM} {n : Int} {w : Int → Int → Int} {o : Int → Int} {ver : Int} (h : CI M n w o ver) (h6 : M1 6 0 3 = M 6 0 3) (h1 : M1 1 0 4 = M 1 0 4) (h5 : M1 5 = M 5) (h29 : M1 29 = M 29) (h33 : ∀ k, M1 33 (k + 1) = M 33 (k + 1)) (h35 : M1 35 = M 35) : CI M1 n w o ver := by
  unfold CI NE PLN at *
  rw [h6, h1, h5, h29, h35]
  refine ⟨h.1, h.2.1, fun k hk => ⟨(h.2.2 k hk).1, (h.2.2 k hk).2.1, ?_⟩⟩
  rw [h33 k]
  exact (h.2.2 k hk).2.2
abbrev SC : List Nat := [1, 2, 5, 9, 27, 29, 30, 31, 32, 33, 34, 35, 36, 37, 38, 43]
abbrev SO : List Nat := [1, 2, 5, 9, 27, 29, 30, 31, 32, 33, 34, 35, 36, 37, 38, 43, 61]
abbrev SM : List Nat := [57, 58, 59, 60]
abbrev FM : List Nat := [7, 22, 23, 24, 27, 28, 29, 30]
theorem CI_fr {S : List Nat} {M M1 : jM} {n : Int} {w : Int → Int → Int} {o : Int → Int} {ver : Int} (h : CI M n w o ver) (hf : fr S M M1) (h1 : M1 1 0 4 = M 1 0 4) (hS : 6 ∉ S ∧ 5 ∉ S ∧ 29 ∉ S ∧ 33 ∉ S ∧ 35 ∉ S := by decide) : CI M1 n w o ver :=
  CI_eq h (by rw [hf 6 hS.1]) h1 (hf 5 hS.2.1) (hf 29 hS.2.2.1) (fun k => by rw [hf 33 hS.2.2.2.1]) (hf 35 hS.2.2.2.2)
theorem CI_fm {S F : List Nat} {M M1 : jM} {n : Int} {w : Int → Int → Int} {o : Int → Int} {ver : Int} (h : CI M n w o ver) (hf : fm S F M M1) (hS : 1 ∉ S ∧ 6 ∉ S ∧ 5 ∉ S ∧ 29 ∉ S ∧ 33 ∉ S ∧ 35 ∉ S := by decide) : CI M1 n w o ver :=
  CI_eq h (by rw [hf.1 6 (by decide) hS.2.1]) (by rw [hf.1 1 (by decide) hS.1]) (hf.1 5 (by decide) hS.2.2.1) (hf.1 29 (by decide) hS.2.2.2.1) (fun k => by rw [hf.1 33 (by decide) hS.2.2.2.2.1]) (hf.1 35 (by decide) hS.2.2.2.2.2)
/-- the arrangement is looked up -/
theorem po_ok {M0 : jM} {n : Int} {w : Int → Int → Int} {o : Int → Int} {ver k : Int} {Q : Int32 → Nat → jM → Prop} {X : String → jM → Prop} (hG : GH n w o) (hP : PR M0 0 n w o) (hnb : jnb M0 ≤ 100000) (hC : CI M0 n w o ver) (hv : 0 ≤ ver ∧ ver < 100000) (hk : -2147483648 ≤ k ∧ k < 2147483648)
    (hQ : 0 ≤ k → k ≤ 2 → ∀ M1 T, fr SC M0 M1 → CI M1 n w o ver → NE M1 n w → PLN M1 k.toNat (az w o n k) n T → Q 0 k.toNat M1) (hX : ¬ (0 ≤ k ∧ k ≤ 2) → X "java/lang/IllegalArgumentException" M0) : ok_X11_planOf (zI k) M0 Q X := by
  refine en_X11_planOf (bl_X11_planOf_0 _ _ _ _ ?_)
  by_cases q : 0 ≤ k ∧ k ≤ 2
  · simp (disch := omega) only [z_add, z_sub, z_mul, z_neg, z_leT, z_leF, z_ltT, z_ltF, z_eqT, z_eqF, z_inT, z_clamp, z_nI, z_0, z_1, z_2, z_3, z_4, z_5, z_6, z_7, z_8, z_9, z_10, z_11, z_12, z_13, z_14, z_15, z_16, z_17, z_18, z_19, z_20, z_21, z_22, z_23, z_24, z_25, z_26, z_27, z_28, z_29, z_30, z_31, z_32, z_33, z_34, z_35, z_36, z_37, z_38, z_39, z_40, z_41, z_42, z_43, z_44, z_45, z_46, z_47, z_48, z_49, z_50, z_51, z_52, z_53, z_54, z_55, z_56, z_57, z_58, z_59, z_60, z_61, z_77, z_91, z_93, z_97, z_100, z_101, z_102, z_103, z_105, z_111, z_114, z_120, z_123, z_125, z_126, z_200, z_245, z_255, z_576, z_585, z_1000, z_2000, z_3510, z_11700, true_implies, false_implies, implies_true, not_true_eq_false, not_false_eq_true, true_and, and_true, false_and, and_false, ↓reduceIte, Int.reduceToNat, Int.reduceNeg, Int.toNat_natCast]
    obtain ⟨c6, ⟨a, c1, ca, cn⟩, cp⟩ := hC
    refine refresh_ok hP hG hnb c1 c6 ⟨ca.1, ca.2, hv.2⟩ cn (fun M1 a1 a2 a3 => ⟨fr_nb a1, ?_⟩)
    obtain ⟨p0, ⟨b, p10, pb, pl⟩, _⟩ := cp k.toNat (by omega)
    have ek : ((k.toNat : Nat) : Int) = k := by omega
    have F5 := a1 5 (by decide)
    have F35 := a1 35 (by decide)
    have F33 := a1 33 (by decide)
    refine mk_ok (k := k.toNat) (by omega) hG (PR_r hP a1) (by rw [fr_nb a1]; exact hnb) a3 (by rw [F5]; exact p0) (by rw [a1 6 (by decide)]; exact c6) (by rw [F5]; exact p10) ⟨pb.1, pb.2, hv.2⟩ (fun z => ?_) (fun M2 T b1 b2 b3 => ⟨fr_nb b1.1, ?_⟩)
    · obtain ⟨T, hT⟩ := pl z
      exact ⟨T, PLN_fr hT (by rw [F5]) F35⟩
    · have hfr : fr SC M0 M2 := fr_tr a1 b1.1
      have hN2 : NE M2 n w := by unfold NE at *; rw [b1.1 29 (by decide)]; exact a3
      refine hQ q.1 q.2 M2 T hfr ⟨by rw [hfr 6 (by decide)]; exact c6, ⟨ver, by rw [b1.2.1, a2], ⟨by omega, Int.le_refl _⟩, fun _ => hN2⟩, fun j hj => ?_⟩ hN2 (by rw [ek] at b3; exact b3)
      have G33 : M2 33 = M0 33 := by rw [b1.1 33 (by decide), F33]
      obtain ⟨q0, ⟨b', q10, qb, ql⟩, c, q11, qc, ql2⟩ := cp j hj
      by_cases e : j = k.toNat
      · subst e
        refine ⟨by rw [b1.2.2.2 0 (by decide) (by decide), F5]; exact q0, ⟨ver, b2, ⟨by omega, Int.le_refl _⟩, fun _ => ⟨T, b3⟩⟩, c, by rw [b1.2.2.2 11 (by decide) (by decide), F5]; exact q11, qc, fun z => ?_⟩
        rw [G33]
        exact ql2 z
      · obtain ⟨e5, e35⟩ := b1.2.2.1 j e
        refine ⟨by rw [e5, F5]; exact q0, ⟨b', by rw [e5, F5]; exact q10, qb, fun z => ?_⟩, c, by rw [e5, F5]; exact q11, qc, fun z => ?_⟩
        · obtain ⟨T', hT'⟩ := ql z
          refine ⟨T', hT'.1, by rw [e5, F5]; exact hT'.2.1, fun i i0 i1 => ?_⟩
          rw [e35, F35]
          exact hT'.2.2 i i0 i1
        · rw [G33]; exact ql2 z
  · have := hX q
    by_cases q2 : k < 0
    · simp (disch := omega) only [z_add, z_sub, z_mul, z_neg, z_leT, z_leF, z_ltT, z_ltF, z_eqT, z_eqF, z_inT, z_clamp, z_nI, z_0, z_1, z_2, z_3, z_4, z_5, z_6, z_7, z_8, z_9, z_10, z_11, z_12, z_13, z_14, z_15, z_16, z_17, z_18, z_19, z_20, z_21, z_22, z_23, z_24, z_25, z_26, z_27, z_28, z_29, z_30, z_31, z_32, z_33, z_34, z_35, z_36, z_37, z_38, z_39, z_40, z_41, z_42, z_43, z_44, z_45, z_46, z_47, z_48, z_49, z_50, z_51, z_52, z_53, z_54, z_55, z_56, z_57, z_58, z_59, z_60, z_61, z_77, z_91, z_93, z_97, z_100, z_101, z_102, z_103, z_105, z_111, z_114, z_120, z_123, z_125, z_126, z_200, z_245, z_255, z_576, z_585, z_1000, z_2000, z_3510, z_11700, true_implies, false_implies, implies_true, not_true_eq_false, not_false_eq_true, true_and, and_true, false_and, and_false, ↓reduceIte, Int.reduceToNat, Int.reduceNeg, Int.toNat_natCast]
      exact this
    · simp (disch := omega) only [z_add, z_sub, z_mul, z_neg, z_leT, z_leF, z_ltT, z_ltF, z_eqT, z_eqF, z_inT, z_clamp, z_nI, z_0, z_1, z_2, z_3, z_4, z_5, z_6, z_7, z_8, z_9, z_10, z_11, z_12, z_13, z_14, z_15, z_16, z_17, z_18, z_19, z_20, z_21, z_22, z_23, z_24, z_25, z_26, z_27, z_28, z_29, z_30, z_31, z_32, z_33, z_34, z_35, z_36, z_37, z_38, z_39, z_40, z_41, z_42, z_43, z_44, z_45, z_46, z_47, z_48, z_49, z_50, z_51, z_52, z_53, z_54, z_55, z_56, z_57, z_58, z_59, z_60, z_61, z_77, z_91, z_93, z_97, z_100, z_101, z_102, z_103, z_105, z_111, z_114, z_120, z_123, z_125, z_126, z_200, z_245, z_255, z_576, z_585, z_1000, z_2000, z_3510, z_11700, true_implies, false_implies, implies_true, not_true_eq_false, not_false_eq_true, true_and, and_true, false_and, and_false, ↓reduceIte, Int.reduceToNat, Int.reduceNeg, Int.toNat_natCast]
      exact this
/-- a plan is executed, and stored so -/
theorem ex2_ok {M0 : jM} {n : Int} {w : Int → Int → Int} {o : Int → Int} {ver k T : Int} {Q : Int32 → Nat → jM → Prop} (hG : GH n w o) (hP : PR M0 0 n w o) (hnb : jnb M0 ≤ 100000) (hC : CI M0 n w o ver) (hv : 0 ≤ ver ∧ ver < 100000) (hk : 0 ≤ k ∧ k ≤ 2) (hN : NE M0 n w) (hL : PLN M0 k.toNat (az w o n k) n T)
    (hQ : ∀ M1 C, fr SC M0 M1 → CI M1 n w o ver → M1 33 (k.toNat + 1) = rnC w o (az w o n k) T C → Q 0 0 M1) : ok_X5_execute k.toNat M0 Q := by
  obtain ⟨c6, ⟨a, c1, ca, cn⟩, cp⟩ := hC
  obtain ⟨p0, p10, c, p11, pc, pl⟩ := cp k.toNat (by omega)
  have ek : ((k.toNat : Nat) : Int) = k := by omega
  rw [ek] at pl
  refine ex_ok (k := k.toNat) (by omega) hG hP hnb hN az_ok hL c6 p11 ⟨pc.1, pc.2, hv.2⟩ (fun z => ?_) (fun M1 C a1 a2 a3 => ?_)
  · obtain ⟨T', C, t1, t2⟩ := pl z
    rw [isNG_u t1 hL.1] at t2
    exact ⟨C, t2⟩
  · have hfr : fr SC M0 M1 := fr_mono a1.1
    refine hQ M1 C hfr ⟨by rw [hfr 6 (by decide)]; exact c6, ⟨a, by rw [a1.2.1]; exact c1, ca, fun z => by unfold NE at *; rw [a1.1 29 (by decide)]; exact cn z⟩, fun j hj => ?_⟩ a3
    obtain ⟨q0, ⟨b', q10, qb, ql⟩, c', q11, qc, ql2⟩ := cp j hj
    by_cases e : j = k.toNat
    · subst e
      refine ⟨by rw [a1.2.2.2.1 0 (by decide)]; exact q0, ⟨b', by rw [a1.2.2.2.1 10 (by decide)]; exact q10, qb, fun z => ?_⟩, ver, a2, ⟨by omega, Int.le_refl _⟩, fun _ => ?_⟩
      · obtain ⟨T', hT'⟩ := ql z
        exact ⟨T', PLN_fr hT' (a1.2.2.2.1 9 (by decide)) (a1.1 35 (by decide))⟩
      · rw [ek]; exact ⟨T, C, hL.1, a3⟩
    · have e5 := a1.2.2.1 j e
      refine ⟨by rw [e5]; exact q0, ⟨b', by rw [e5]; exact q10, qb, fun z => ?_⟩, c', by rw [e5]; exact q11, qc, fun z => ?_⟩
      · obtain ⟨T', hT'⟩ := ql z
        exact ⟨T', PLN_fr hT' (by rw [e5]) (a1.1 35 (by decide))⟩
      · rw [a1.2.2.2.2 (j + 1) (by omega)]; exact ql2 z
/-- the reference's snapshot -/
def MS (M : jM) (n : Int) (w : Int → Int → Int) (o : Int → Int) : Prop :=
  M 11 0 3 = zI n ∧ (M 53 0 0 = zI (o 0) ∧ M 53 0 1 = zI (o 1) ∧ M 53 0 2 = zI (o 2)) ∧ ∀ l j, 0 ≤ l → l < n → 0 ≤ j → j < 585 → M 52 0 (585 * l + j).toNat = zI (w l j)
def SN (M : jM) : Prop := (M 10 0 8 = zI 0 ∧ M 11 0 6 = zI 0) ∨ (M 10 0 8 = zI 1 ∧ M 11 0 6 = zI 1 ∧ ∃ n w o, GH n w o ∧ PR M 1 n w o ∧ MS M n w o)
def TX (M : jM) : Prop := ∃ (len : Int) (tx : Int → Int), M 8 0 2 = zI len ∧ M 11 0 8 = zI len ∧ (0 ≤ len ∧ len ≤ 120) ∧ ∀ j, 0 ≤ j → j < len → M 41 0 j.toNat = zI (tx j) ∧ M 54 0 j.toNat = zI (tx j) ∧ 33 ≤ tx j ∧ tx j ≤ 126
def B3 (M : jM) : Prop := ∀ x : Nat, x < 20 → M 3 x 3 = zI 0 ∨ (x < 12 ∧ M 3 x 3 = zI 1)
theorem B3_01 {M : jM} (h : B3 M) {x : Nat} (hx : x < 20) : M 3 x 3 = zI 0 ∨ M 3 x 3 = zI 1 := (h x hx).imp id And.right
def RST (M : jM) (k : Nat) : Prop := SN M ∧ TX M ∧ jch M ∧ M 8 0 5 = M 11 0 10 ∧ FA M ∧ jnb M ≤ 3 + 8 * k ∧ B3 M
def RLz (M : jM) (k : Nat) (n : Int) (w : Int → Int → Int) (o : Int → Int) (ver : Int) : Prop :=
  GH n w o ∧ PR M 0 n w o ∧ MR M n w o ∧ CI M n w o ver ∧ (0 ≤ ver ∧ ver ≤ 10 * k) ∧ RST M k
theorem RST_eq {M M1 : jM} {k k' : Nat} (h : RST M k) (hk : k ≤ k') (h0 : M1 0 = M 0) (h3 : M1 3 = M 3) (h6 : M1 6 = M 6) (h7 : M1 7 = M 7) (h8 : M1 8 = M 8) (h10 : M1 10 = M 10) (h20 : M1 20 = M 20) (h21 : M1 21 = M 21) (h22 : M1 22 = M 22) (h24 : M1 24 = M 24) (h25 : M1 25 = M 25) (h26 : M1 26 = M 26) (h40 : M1 40 = M 40) (h41 : M1 41 = M 41) (h52 : M1 52 = M 52) (h53 : M1 53 = M 53) (h54 : M1 54 = M 54) (hn : jnb M1 = jnb M) (f3 : M1 11 0 3 = M 11 0 3) (f6 : M1 11 0 6 = M 11 0 6) (f8 : M1 11 0 8 = M 11 0 8) (f10 : M1 11 0 10 = M 11 0 10) (hfa : FA M1) : RST M1 k' := by
  obtain ⟨a1, a2, a3, a4, a5, a6, a7⟩ := h
  refine ⟨?_, ?_, ?_, ?_, hfa, by rw [hn]; omega, ?_⟩
  · rcases a1 with a1 | ⟨b1, b2, n, w, o, b3, b4, b5⟩
    · exact Or.inl (by rw [h10, f6]; exact a1)
    · refine Or.inr ⟨by rw [h10]; exact b1, by rw [f6]; exact b2, n, w, o, b3, PR_fr b4 h0 h3 (by rw [h6]) h7 h20 h21 h22 h24 h25 h26 h40 hn, ?_⟩
      unfold MS at *
      rw [f3, h52, h53]
      exact b5
  · unfold TX at *
    rw [h8, f8, h41, h54]
    exact a2
  · unfold jch at *
    rw [h41]
    exact a3
  · rw [h8, f10]; exact a4
  · unfold B3 at *
    rw [h3]
    exact a7
theorem RLz_m {M M2 : jM} {k : Nat} {n : Int} {w : Int → Int → Int} {o : Int → Int} {ver : Int} (h : RLz M k n w o ver) (hf : fr SO M M2) : MR M2 n w o ∧ FA M2 := by
  refine ⟨MR_fr h.2.2.1 (by rw [hf 11 (by decide)]) (hf 50 (by decide)) (hf 51 (by decide)), ?_⟩
  obtain ⟨fa, f1, f2⟩ := h.2.2.2.2.2.2.2.2.2.1
  exact ⟨fa, f1, by rw [hf 11 (by decide)]; exact f2⟩
/-- after a call that only asks -/
theorem RLz_ro {M M2 M3 : jM} {k : Nat} {n : Int} {w : Int → Int → Int} {o : Int → Int} {ver : Int} (h : RLz M k n w o ver) (hf : fr SO M M2) (hC : CI M2 n w o ver) (hm : fm SM FM M2 M3) (hfa : FA M3) : RLz M3 (k + 1) n w o ver := by
  obtain ⟨a1, a2, a3, a4, a5, a6⟩ := h
  have e : ∀ R, R ≠ 11 → R ∉ SO → R ∉ SM → M3 R = M R := fun R r1 r2 r3 => (hm.1 R r1 r3).trans (hf R r2)
  have f : ∀ x, x ∉ FM → M3 11 0 x = M 11 0 x := fun x hx => by rw [hm.2 x hx, hf 11 (by decide)]
  have hnb : jnb M3 = jnb M := by rw [fm_nb hm, fr_nb hf]
  have hP : PR M3 0 n w o := PR_fr a2 (e 0 (by decide) (by decide) (by decide)) (e 3 (by decide) (by decide) (by decide)) (by rw [e 6 (by decide) (by decide) (by decide)]) (e 7 (by decide) (by decide) (by decide)) (e 20 (by decide) (by decide) (by decide)) (e 21 (by decide) (by decide) (by decide)) (e 22 (by decide) (by decide) (by decide)) (e 24 (by decide) (by decide) (by decide)) (e 25 (by decide) (by decide) (by decide)) (e 26 (by decide) (by decide) (by decide)) (e 40 (by decide) (by decide) (by decide)) hnb
  refine ⟨a1, hP, MR_fr a3 (f 0 (by decide)) (e 50 (by decide) (by decide) (by decide)) (e 51 (by decide) (by decide) (by decide)), CI_fm hC hm, by omega, ?_⟩
  exact RST_eq a6 (by omega) (e 0 (by decide) (by decide) (by decide)) (e 3 (by decide) (by decide) (by decide)) (e 6 (by decide) (by decide) (by decide)) (e 7 (by decide) (by decide) (by decide)) (e 8 (by decide) (by decide) (by decide)) (e 10 (by decide) (by decide) (by decide)) (e 20 (by decide) (by decide) (by decide)) (e 21 (by decide) (by decide) (by decide)) (e 22 (by decide) (by decide) (by decide)) (e 24 (by decide) (by decide) (by decide)) (e 25 (by decide) (by decide) (by decide)) (e 26 (by decide) (by decide) (by decide)) (e 40 (by decide) (by decide) (by decide)) (e 41 (by decide) (by decide) (by decide)) (e 52 (by decide) (by decide) (by decide)) (e 53 (by decide) (by decide) (by decide)) (e 54 (by decide) (by decide) (by decide)) hnb (f 3 (by decide)) (f 6 (by decide)) (f 8 (by decide)) (f 10 (by decide)) hfa
theorem RLz_n {M : jM} {k : Nat} {n : Int} {w : Int → Int → Int} {o : Int → Int} {ver : Int} (h : RLz M k n w o ver) (hk : k ≤ 2000) : jnb M ≤ 100000 ∧ 0 ≤ ver ∧ ver < 100000 := by
  have := h.2.2.2.2.1
  have := h.2.2.2.2.2.2.2.2.2.2.1
  omega
theorem FA_fm {S F : List Nat} {M M1 : jM} (h : FA M) (hf : fm S F M M1) (hF : 28 ∉ F := by decide) : FA M1 := by
  obtain ⟨fa, f1, f2⟩ := h
  exact ⟨fa, f1, by rw [hf.2 28 hF]; exact f2⟩
