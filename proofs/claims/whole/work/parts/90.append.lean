/-! ===== append: four signs, packed ===== -/
def bq (x : Int32) (d : Nat) : Int := (((x.toUInt32 >>> ((zI (8 * (d : Int))).toUInt32 &&& Int32.toUInt32 31)).toInt32) &&& 255).toInt
theorem bq_e (x : Int32) (d : Nat) : ((x.toUInt32 >>> ((zI (8 * (d : Int))).toUInt32 &&& Int32.toUInt32 31)).toInt32) &&& 255 = zI (bq x d) := (zI_toInt _).symm
theorem bq_r (x : Int32) (d : Nat) : 0 ≤ bq x d ∧ bq x d < 256 := by
  have h := vp_in_iff.mp (pk_andIn ((x.toUInt32 >>> ((zI (8 * (d : Int))).toUInt32 &&& Int32.toUInt32 31)).toInt32) (m := 255) 8 (by decide) (by decide))
  unfold bq
  exact ⟨h.1, by omega⟩
theorem bq_c (x : Int32) (d : Nat) : ((zI (bq x d)).toUInt32 % 65536).toInt32 = zI (bq x d) := by
  rw [← bq_e]; exact sc_c2 _
def bgd (x : Int32) : Nat → Prop
  | 0 => True
  | d + 1 => (bq x d = 0 ∨ (33 ≤ bq x d ∧ bq x d ≤ 126)) ∧ bgd x d
def bcn (x : Int32) : Nat → Int
  | 0 => 0
  | d + 1 => (if bq x d = 0 then 0 else 1) + bcn x d
theorem bcn_z {x : Int32} {d : Nat} (q : bq x d = 0) : bcn x (d + 1) = bcn x d := by
  simp only [bcn, if_pos q]; omega
theorem bcn_y {x : Int32} {d : Nat} (q : ¬ bq x d = 0) : bcn x (d + 1) = 1 + bcn x d := by
  simp only [bcn, if_neg q]
theorem bcn_r (x : Int32) (d : Nat) : 0 ≤ bcn x d ∧ bcn x d ≤ d := by
  induction d with
  | zero => exact ⟨Int.le_refl _, Int.le_refl _⟩
  | succ d ih =>
    show 0 ≤ (if bq x d = 0 then 0 else 1) + bcn x d ∧ (if bq x d = 0 then 0 else 1) + bcn x d ≤ _
    split <;> omega
def bap (x : Int32) : Nat → Int → (Int → Int) → (Int → Int)
  | 0, _, t => t
  | d + 1, l, t => if bq x d = 0 then bap x d l t else bap x d (l + 1) (fun j => if j = l then bq x d else t j)
theorem bap_g {x : Int32} : ∀ (d : Nat) (l : Int) (t : Int → Int), bgd x d → (∀ j, 0 ≤ j → j < l → 33 ≤ t j ∧ t j ≤ 126) → ∀ j, 0 ≤ j → j < l + bcn x d → 33 ≤ bap x d l t j ∧ bap x d l t j ≤ 126 := by
  intro d
  induction d with
  | zero => intro l t _ h j j0 j1; exact h j j0 (by simp only [bcn] at j1; omega)
  | succ d ih =>
    intro l t hg h j j0 j1
    simp only [bcn] at j1
    simp only [bap]
    split
    · next q => rw [if_pos q] at j1; exact ih l t hg.2 h j j0 (by omega)
    · next q =>
      rw [if_neg q] at j1
      refine ih (l + 1) _ hg.2 (fun i i0 i1 => ?_) j j0 (by omega)
      by_cases e : i = l
      · rw [if_pos e]; have := hg.1; omega
      · rw [if_neg e]; exact h i i0 (by omega)
set_option maxHeartbeats 4000000 in
set_option maxRecDepth 100000 in
theorem ackg {x : Int32} {Q : Int32 → Nat → jM → Prop} {X : String → jM → Prop} {M : jM} {l : Int} (hl : M 8 0 2 = zI l) (hl0 : 0 ≤ l ∧ l ≤ 120) (hB : ¬ bgd x 4 → X "java/lang/IllegalArgumentException" M) (hS : bgd x 4 → ¬ (l + bcn x 4 ≤ 120) → X "java/lang/IllegalStateException" M) (h : bgd x 4 → l + bcn x 4 ≤ 120 → at_X11_append_93 x 24 M Q X) : ok_X11_append x M Q X := by
  have hr := bcn_r x 4
  have key : ∀ (d : Nat) (c : Int) (v3 : Int32), v3 = zI (8 * (d : Int) - 8) → 0 ≤ c → c + d ≤ 4 → (bgd x d ↔ bgd x 4) → c + bcn x d = bcn x 4 → at_X11_append_5 x (zI c) v3 M Q X := by
    intro d
    induction d with
    | zero =>
      intro c v3 h3 c0 c1 hg hc
      subst h3
      have g4 := hg.mp trivial
      refine bl_X11_append_5 _ _ _ _ _ _ ?_
      refine ⟨fun _ => ?_, fun z => absurd (by rw [z_0, z_ltT (by omega)]; trivial) z⟩
      rw [show c = bcn x 4 by rw [← hc]; exact (Int.add_zero _).symm, hl, z_add]
      by_cases q : l + bcn x 4 ≤ 120
      · exact ⟨fun _ => h g4 q, fun z => absurd (by rw [z_120, z_leT (by omega)]; trivial) z⟩
      · exact ⟨fun z => (by rw [z_120, z_leF (by omega)] at z; exact z.elim), fun _ => hS g4 q⟩
    | succ d ih =>
      intro c v3 h3 c0 c1 hg hc
      rw [show (8 * ((d + 1 : Nat) : Int) - 8) = 8 * (d : Int) by omega] at h3
      subst h3
      refine bl_X11_append_5 _ _ _ _ _ _ ?_
      rw [bq_e]
      obtain ⟨b0, b1⟩ := bq_r x d
      refine ⟨fun z => (by rw [z_0, z_ltF (by omega)] at z; exact z.elim), fun _ => ?_⟩
      have e8 : zI (8 * (d : Int)) + -8 = zI (8 * (d : Int) - 8) := by rw [z_8, z_neg, z_add]; exact zc (by omega)
      rw [e8]
      by_cases q : bq x d = 0
      · have e0 : zI (bq x d) = 0 := by rw [q, z_0]
        refine ⟨fun _ => ⟨fun _ => ?_, fun z => absurd e0 z⟩, fun z => absurd e0 z⟩
        rw [z_0, z_add, Int.add_zero]
        rw [bcn_z q] at hc
        exact ih c _ rfl c0 (by omega) (Iff.trans ⟨fun g => ⟨Or.inl q, g⟩, fun g => g.2⟩ hg) (by omega)
      · have e0 : ¬ zI (bq x d) = 0 := fun z => by rw [z_0, z_eqF (by omega)] at z; exact z
        refine ⟨fun z => absurd z e0, fun _ => ?_⟩
        by_cases q1 : bq x d < 33
        · exact ⟨fun _ => hB (fun g => by have := (hg.mpr g).1; omega), fun z => absurd (by rw [z_33, z_ltT (by omega)]; trivial) z⟩
        refine ⟨fun z => (by rw [z_33, z_ltF (by omega)] at z; exact z.elim), fun _ => ?_⟩
        by_cases q2 : bq x d ≤ 126
        · refine ⟨fun _ => ⟨fun z => absurd z e0, fun _ => ?_⟩, fun z => absurd (by rw [z_126, z_leT (by omega)]; trivial) z⟩
          rw [z_1, z_add]
          rw [bcn_y q] at hc
          exact ih (c + 1) _ rfl (by omega) (by omega) (Iff.trans ⟨fun g => ⟨Or.inr ⟨by omega, q2⟩, g⟩, fun g => g.2⟩ hg) (by omega)
        · exact ⟨fun z => (by rw [z_126, z_leF (by omega)] at z; exact z.elim), fun _ => hB (fun g => by have := (hg.mpr g).1; omega)⟩
  refine en_X11_append (bl_X11_append_0 _ _ _ _ ?_)
  rw [z_0, z_24]
  exact key 4 0 _ rfl (by omega) (by omega) Iff.rfl (Int.zero_add _)
set_option maxHeartbeats 4000000 in
set_option maxRecDepth 100000 in
theorem mckg {x : Int32} {Q : Int32 → Nat → jM → Prop} {M : jM} {l : Int} (hl : M 11 0 8 = zI l) (hl0 : 0 ≤ l ∧ l ≤ 120) (hB : ¬ bgd x 4 → Q 0 0 (jup (jup M 11 0 7 0) 11 0 7 1)) (hS : bgd x 4 → ¬ (l + bcn x 4 ≤ 120) → Q 0 0 (jup (jup M 11 0 7 0) 11 0 7 2)) (h : bgd x 4 → l + bcn x 4 ≤ 120 → at_X12_append_85 x 24 (jup M 11 0 7 0) Q) : ok_X12_append x M Q := by
  have hr := bcn_r x 4
  have hl' : jup M 11 0 7 0 11 0 8 = zI l := by rw [jup_ne (by omega)]; exact hl
  have key : ∀ (d : Nat) (c : Int) (v3 : Int32), v3 = zI (8 * (d : Int) - 8) → 0 ≤ c → c + d ≤ 4 → (bgd x d ↔ bgd x 4) → c + bcn x d = bcn x 4 → at_X12_append_10 x (zI c) v3 (jup M 11 0 7 0) Q := by
    intro d
    induction d with
    | zero =>
      intro c v3 h3 c0 c1 hg hc
      subst h3
      have g4 := hg.mp trivial
      refine bl_X12_append_10 _ _ _ _ _ ?_
      refine ⟨fun _ => ?_, fun z => absurd (by rw [z_0, z_ltT (by omega)]; trivial) z⟩
      rw [show c = bcn x 4 by rw [← hc]; exact (Int.add_zero _).symm, hl', z_add]
      by_cases q : l + bcn x 4 ≤ 120
      · exact ⟨fun _ => h g4 q, fun z => absurd (by rw [z_120, z_leT (by omega)]; trivial) z⟩
      · exact ⟨fun z => (by rw [z_120, z_leF (by omega)] at z; exact z.elim), fun _ M2 hM2 => by rw [hM2]; exact hS g4 q⟩
    | succ d ih =>
      intro c v3 h3 c0 c1 hg hc
      rw [show (8 * ((d + 1 : Nat) : Int) - 8) = 8 * (d : Int) by omega] at h3
      subst h3
      refine bl_X12_append_10 _ _ _ _ _ ?_
      rw [bq_e]
      obtain ⟨b0, b1⟩ := bq_r x d
      refine ⟨fun z => (by rw [z_0, z_ltF (by omega)] at z; exact z.elim), fun _ => ?_⟩
      have e8 : zI (8 * (d : Int)) + -8 = zI (8 * (d : Int) - 8) := by rw [z_8, z_neg, z_add]; exact zc (by omega)
      rw [e8]
      by_cases q : bq x d = 0
      · have e0 : zI (bq x d) = 0 := by rw [q, z_0]
        refine ⟨fun _ => ⟨fun _ => ?_, fun z => absurd e0 z⟩, fun z => absurd e0 z⟩
        rw [z_0, z_add, Int.add_zero]
        rw [bcn_z q] at hc
        exact ih c _ rfl c0 (by omega) (Iff.trans ⟨fun g => ⟨Or.inl q, g⟩, fun g => g.2⟩ hg) (by omega)
      · have e0 : ¬ zI (bq x d) = 0 := fun z => by rw [z_0, z_eqF (by omega)] at z; exact z
        refine ⟨fun z => absurd z e0, fun _ => ?_⟩
        by_cases q1 : 33 ≤ bq x d ∧ bq x d ≤ 126
        · refine ⟨fun _ => ⟨fun z => absurd z e0, fun _ => ?_⟩, fun z => absurd (by rw [z_33, z_126, z_leT (by omega), z_leT (by omega)]; trivial) z⟩
          rw [z_1, z_add]
          rw [bcn_y q] at hc
          exact ih (c + 1) _ rfl (by omega) (by omega) (Iff.trans ⟨fun g => ⟨Or.inr q1, g⟩, fun g => g.2⟩ hg) (by omega)
        · refine ⟨fun z => absurd ?_ q1, fun _ M6 hM6 => ?_⟩
          · rw [z_33, z_126, z_leI (by omega), z_leI (by omega)] at z; exact z
          · rw [hM6]; exact hB (fun g => by have := (hg.mpr g).1; omega)
  refine en_X12_append (bl_X12_append_0 _ _ _ ?_)
  rintro M1 rfl
  rw [show (at_X12_append_10 x 0 24 (jup M 11 0 7 0) Q) = at_X12_append_10 x (zI 0) (zI 24) (jup M 11 0 7 0) Q by rw [z_0, z_24]]
  exact key 4 0 _ rfl (by omega) (by omega) Iff.rfl (Int.zero_add _)
/-- what the class's text may change -/
def fc (M M1 : jM) : Prop := (∀ R, R ≠ 8 → R ≠ 41 → M1 R = M R) ∧ ∀ i f, ¬ (i = 0 ∧ f = 2) → M1 8 i f = M 8 i f
set_option maxHeartbeats 4000000 in
set_option maxRecDepth 100000 in
theorem aad_ok {x : Int32} {Q : Int32 → Nat → jM → Prop} {X : String → jM → Prop} {M : jM} : ∀ (d : Nat) (l : Int) (t : Int → Int) (v3 : Int32) (M1 : jM), v3 = zI (8 * (d : Int) - 8) → d ≤ 4 → 0 ≤ l → l + bcn x d ≤ 120 → fc M M1 → M1 8 0 2 = zI l → (∀ j, 0 ≤ j → j < l → M1 41 0 j.toNat = zI (t j)) → jch M1 → (∀ M2, fc M M2 → M2 8 0 2 = zI (l + bcn x d) → (∀ j, 0 ≤ j → j < l + bcn x d → M2 41 0 j.toNat = zI (bap x d l t j)) → jch M2 → Q (M2 8 0 2) 0 M2) → at_X11_append_93 x v3 M1 Q X := by
  intro d
  induction d with
  | zero =>
    intro l t v3 M1 h3 hd l0 l1 hf hl ht hc hQ
    subst h3
    refine bl_X11_append_93 _ _ _ _ _ ?_
    refine ⟨fun _ => hQ M1 hf ?_ ?_ hc, fun z => absurd (by rw [z_0, z_ltT (by omega)]; trivial) z⟩
    · rw [hl]; exact zc (Int.add_zero _).symm
    · intro j j0 j1
      exact ht j j0 (by rw [show l + bcn x 0 = l from Int.add_zero _] at j1; exact j1)
  | succ d ih =>
    intro l t v3 M1 h3 hd l0 l1 hf hl ht hc hQ
    rw [show (8 * ((d + 1 : Nat) : Int) - 8) = 8 * (d : Int) by omega] at h3
    subst h3
    refine bl_X11_append_93 _ _ _ _ _ ?_
    rw [bq_e]
    obtain ⟨b0, b1⟩ := bq_r x d
    have hbr := bcn_r x d
    refine ⟨fun z => (by rw [z_0, z_ltF (by omega)] at z; exact z.elim), fun _ => ?_⟩
    have e8 : zI (8 * (d : Int)) + -8 = zI (8 * (d : Int) - 8) := by rw [z_8, z_neg, z_add]; exact zc (by omega)
    rw [e8]
    refine en_X8_add (bl_X8_add_0 _ _ _ ?_)
    rw [bq_c]
    by_cases q : bq x d = 0
    · have e0 : zI (bq x d) = 0 := by rw [q, z_0]
      refine ⟨fun _ => ⟨rfl, ?_⟩, fun z => absurd e0 z⟩
      simp only [bcn, if_pos q] at l1
      refine ih l t _ M1 rfl (by omega) l0 (by omega) hf hl ht hc (fun M2 a1 a2 a3 a4 => hQ M2 a1 ?_ ?_ a4)
      · rw [a2]; simp only [bcn, if_pos q]; exact zc (by omega)
      · intro j j0 j1
        simp only [bcn, if_pos q] at j1
        simp only [bap, if_pos q]
        exact a3 j j0 (by omega)
    · have e0 : ¬ zI (bq x d) = 0 := fun z => by rw [z_0, z_eqF (by omega)] at z; exact z
      simp only [bcn, if_neg q] at l1
      refine ⟨fun z => absurd z e0, fun _ => ⟨fun z => ?_, fun _ => ⟨?_, ?_, ?_⟩⟩⟩
      · rw [hl, z_120, z_leF (by omega)] at z; exact z.elim
      · rw [hl, z_inT (by omega)]; trivial
      · have := pk_nc (zI (bq x d)); rw [bq_c] at this; exact this
      · intro M2 h2 M3 hM3
        subst h2 hM3
        rw [hl, z_clamp (by omega)]
        have e2 : jup M1 41 0 l.toNat (zI (bq x d)) 8 0 2 + 1 = zI (l + 1) := by rw [jup_R (by decide), hl, z_1, z_add]
        rw [e2]
        refine ⟨by rw [jnb_up (by decide), jnb_up (by decide)], ?_⟩
        refine ih (l + 1) (fun j => if j = l then bq x d else t j) _ _ rfl (by omega) (by omega) (by omega) ⟨fun R r1 r2 => ?_, fun i f hif => ?_⟩ (jup_self _ _ _ _ _) (fun j j0 j1 => ?_) (fun j => ?_) (fun M4 a1 a2 a3 a4 => hQ M4 a1 ?_ ?_ a4)
        · rw [jup_o r1, jup_o r2]; exact hf.1 R r1 r2
        · rw [jup_ne (by omega), jup_R (by decide)]; exact hf.2 i f hif
        · rw [jup_R (by decide)]
          by_cases e : j = l
          · rw [e, jup_self, if_pos rfl]
          · rw [jup_ne (by omega), if_neg e]; exact ht j j0 (by omega)
        · rw [jup_R (by decide)]
          by_cases e : j = l.toNat
          · rw [e, jup_self]; have := pk_nc (zI (bq x d)); rw [bq_c] at this; exact this
          · rw [jup_ne (by omega)]; exact hc j
        · rw [a2]; simp only [bcn, if_neg q]; exact zc (by omega)
        · intro j j0 j1
          simp only [bcn, if_neg q] at j1
          simp only [bap, if_neg q]
          exact a3 j j0 (by omega)
set_option maxHeartbeats 4000000 in
set_option maxRecDepth 100000 in
theorem mad_ok {x : Int32} {Q : Int32 → Nat → jM → Prop} {M : jM} : ∀ (d : Nat) (l : Int) (t : Int → Int) (v3 : Int32) (M1 : jM), v3 = zI (8 * (d : Int) - 8) → d ≤ 4 → 0 ≤ l → l + bcn x d ≤ 120 → fm [54] [8] M M1 → M1 11 0 8 = zI l → (∀ j, 0 ≤ j → j < l → M1 54 0 j.toNat = zI (t j)) → (∀ M2, fm [54] [8] M M2 → M2 11 0 8 = zI (l + bcn x d) → (∀ j, 0 ≤ j → j < l + bcn x d → M2 54 0 j.toNat = zI (bap x d l t j)) → Q (M2 11 0 8) 0 M2) → at_X12_append_85 x v3 M1 Q := by
  intro d
  induction d with
  | zero =>
    intro l t v3 M1 h3 hd l0 l1 hf hl ht hQ
    subst h3
    refine bl_X12_append_85 _ _ _ _ ?_
    refine ⟨fun _ => hQ M1 hf ?_ ?_, fun z => absurd (by rw [z_0, z_ltT (by omega)]; trivial) z⟩
    · rw [hl]; exact zc (Int.add_zero _).symm
    · intro j j0 j1
      exact ht j j0 (by rw [show l + bcn x 0 = l from Int.add_zero _] at j1; exact j1)
  | succ d ih =>
    intro l t v3 M1 h3 hd l0 l1 hf hl ht hQ
    rw [show (8 * ((d + 1 : Nat) : Int) - 8) = 8 * (d : Int) by omega] at h3
    subst h3
    refine bl_X12_append_85 _ _ _ _ ?_
    rw [bq_e]
    obtain ⟨b0, b1⟩ := bq_r x d
    have hbr := bcn_r x d
    refine ⟨fun z => (by rw [z_0, z_ltF (by omega)] at z; exact z.elim), fun _ => ?_⟩
    have e8 : zI (8 * (d : Int)) + -8 = zI (8 * (d : Int) - 8) := by rw [z_8, z_neg, z_add]; exact zc (by omega)
    rw [e8]
    by_cases q : bq x d = 0
    · have e0 : zI (bq x d) = 0 := by rw [q, z_0]
      refine ⟨fun _ => ?_, fun z => absurd e0 z⟩
      simp only [bcn, if_pos q] at l1
      refine ih l t _ M1 rfl (by omega) l0 (by omega) hf hl ht (fun M2 a1 a2 a3 => hQ M2 a1 ?_ ?_)
      · rw [a2]; simp only [bcn, if_pos q]; exact zc (by omega)
      · intro j j0 j1
        simp only [bcn, if_pos q] at j1
        simp only [bap, if_pos q]
        exact a3 j j0 (by omega)
    · have e0 : ¬ zI (bq x d) = 0 := fun z => by rw [z_0, z_eqF (by omega)] at z; exact z
      simp only [bcn, if_neg q] at l1
      refine ⟨fun z => absurd z e0, fun _ => ⟨?_, ?_⟩⟩
      · rw [hl, z_inT (by omega)]; trivial
      · intro M2 h2 M3 hM3
        subst h2 hM3
        rw [hl, z_clamp (by omega)]
        have e2 : jup M1 54 0 l.toNat (zI (bq x d)) 11 0 8 + 1 = zI (l + 1) := by rw [jup_R (by decide), hl, z_1, z_add]
        rw [e2]
        refine ih (l + 1) (fun j => if j = l then bq x d else t j) _ _ rfl (by omega) (by omega) (by omega) (fm_f (fm_up hf)) (jup_self _ _ _ _ _) (fun j j0 j1 => ?_) (fun M4 a1 a2 a3 => hQ M4 a1 ?_ ?_)
        · rw [jup_R (by decide)]
          by_cases e : j = l
          · rw [e, jup_self, if_pos rfl]
          · rw [jup_ne (by omega), if_neg e]; exact ht j j0 (by omega)
        · rw [a2]; simp only [bcn, if_neg q]; exact zc (by omega)
        · intro j j0 j1
          simp only [bcn, if_neg q] at j1
          simp only [bap, if_neg q]
          exact a3 j j0 (by omega)
set_option maxHeartbeats 4000000 in
set_option maxRecDepth 100000 in
theorem op_append {M : jM} {k : Nat} {n : Int} {w : Int → Int → Int} {o : Int → Int} {ver : Int} {x : Int32} {P : jM → Int32 → Int32 → Prop} {Q : Int32 → Nat → jM → Prop} (hR : RLz M k n w o ver) (hk : k ≤ 2000) (hP : ∀ M5 r1 r4, Rz M5 (k + 1) → M5 11 0 7 = r1 → (r1 = 0 → M5 61 0 0 = r4) → P M5 r1 r4) (hq : ∀ r1 M2, ok_X12_append x M2 (fun r4 _ M5 => P M5 r1 r4) → Q r1 0 M2) : ok_L_append x M Q := by
  obtain ⟨hnb, hv⟩ := RLz_n hR hk
  obtain ⟨hG, hPR, hMR, hCI, hv10, hS1, hS2, hS3, hS4, hS5, hS6, hS7⟩ := hR
  obtain ⟨len, tx, t8, t11, tl, tt⟩ := hS2
  have same : ∀ v, Rz (jup (jup M 11 0 7 0) 11 0 7 v) (k + 1) := fun v => ⟨n, w, o, ver, RLz_ro ⟨hG, hPR, hMR, hCI, hv10, hS1, ⟨len, tx, t8, t11, tl, tt⟩, hS3, hS4, hS5, hS6, hS7⟩ (fr_rf _ _) hCI (fm_f (fm_f (fm_rf SM FM M))) (by obtain ⟨fa, f1, f2⟩ := hS5; exact ⟨fa, f1, by rw [jup_ne (by omega), jup_ne (by omega)]; exact f2⟩)⟩
  refine wr_append (ackg t8 tl (fun g => Or.inl ⟨rfl, hq _ _ (mckg t11 tl (fun _ => hP _ _ _ (same 1) (jup_self _ _ _ _ _) (fun z => ?_)) (fun g2 => absurd g2 g) (fun g2 => absurd g2 g))⟩) (fun g q => Or.inr ⟨rfl, hq _ _ (mckg t11 tl (fun g2 => absurd g g2) (fun _ _ => hP _ _ _ (same 2) (jup_self _ _ _ _ _) (fun z => ?_)) (fun _ q2 => absurd q2 q))⟩) (fun g q => ?_))
  · rw [z_1, z_0, z_eqF (by omega)] at z; exact z.elim
  · rw [z_2, z_0, z_eqF (by omega)] at z; exact z.elim
  have hbr := bcn_r x 4
  rw [z_24]
  refine aad_ok (M := M) 4 len tx _ M rfl (by omega) tl.1 q ⟨fun _ _ _ => rfl, fun _ _ _ => rfl⟩ t8 (fun j j0 j1 => (tt j j0 j1).1) hS3 (fun M2 a1 a2 a3 a4 => ⟨by unfold jnb; rw [a1.1 99 (by decide) (by decide)], hq _ _ ?_⟩)
  rw [z00]
  have e : ∀ R, R ≠ 8 → R ≠ 41 → R ≠ 61 → jup M2 61 0 0 (M2 8 0 2) R = M R := fun R r1 r2 r3 => by rw [jup_o r3]; exact a1.1 R r1 r2
  have e11 : ∀ f, jup M2 61 0 0 (M2 8 0 2) 11 0 f = M 11 0 f := fun f => by rw [e 11 (by decide) (by decide) (by decide)]
  refine mckg (by rw [e11]; exact t11) tl (fun g2 => absurd g g2) (fun _ q2 => absurd q q2) (fun _ _ => ?_)
  rw [z_24]
  refine mad_ok (M := jup (jup M2 61 0 0 (M2 8 0 2)) 11 0 7 0) 4 len tx _ _ rfl (by omega) tl.1 q (fm_rf _ _ _) (by rw [jup_ne (by omega), e11]; exact t11) (fun j j0 j1 => by rw [jup_R (by decide), e 54 (by decide) (by decide) (by decide)]; exact (tt j j0 j1).2.1) (fun M5 b1 b2 b3 => hP _ _ _ ⟨n, w, o, ver, ?_⟩ (by rw [b1.2 7 (by decide), jup_self]) (fun _ => by rw [b1.1 61 (by decide) (by decide), jup_R (by decide), jup_self, a2, b2]))
  have E : ∀ R, R ≠ 8 → R ≠ 41 → R ≠ 61 → R ≠ 11 → R ≠ 54 → M5 R = M R := fun R r1 r2 r3 r4 r5 => by
    rw [b1.1 R r4 (by simp; omega), jup_o r4]; exact e R r1 r2 r3
  have E11 : ∀ f, f ≠ 7 → f ≠ 8 → M5 11 0 f = M 11 0 f := fun f f1 f2 => by rw [b1.2 f (by simp; omega), jup_ne (by omega), e11]
  have E8 : ∀ f, M5 8 0 f = M2 8 0 f := fun f => by rw [b1.1 8 (by decide) (by decide), jup_R (by decide), jup_R (by decide)]
  have E41 : ∀ j, M5 41 0 j = M2 41 0 j := fun j => by rw [b1.1 41 (by decide) (by decide), jup_R (by decide), jup_R (by decide)]
  have n5 : jnb M5 = jnb M := by unfold jnb; rw [E 99 (by decide) (by decide) (by decide) (by decide) (by decide)]
  have hPt : ∀ p n' w' o', PR M p n' w' o' → PR M5 p n' w' o' := fun p n' w' o' h => PR_fr h (E 0 (by decide) (by decide) (by decide) (by decide) (by decide)) (E 3 (by decide) (by decide) (by decide) (by decide) (by decide)) (by rw [E 6 (by decide) (by decide) (by decide) (by decide) (by decide)]) (E 7 (by decide) (by decide) (by decide) (by decide) (by decide)) (E 20 (by decide) (by decide) (by decide) (by decide) (by decide)) (E 21 (by decide) (by decide) (by decide) (by decide) (by decide)) (E 22 (by decide) (by decide) (by decide) (by decide) (by decide)) (E 24 (by decide) (by decide) (by decide) (by decide) (by decide)) (E 25 (by decide) (by decide) (by decide) (by decide) (by decide)) (E 26 (by decide) (by decide) (by decide) (by decide) (by decide)) (E 40 (by decide) (by decide) (by decide) (by decide) (by decide)) n5
  refine ⟨hG, hPt 0 n w o hPR, MR_fr hMR (E11 0 (by decide) (by decide)) (E 50 (by decide) (by decide) (by decide) (by decide) (by decide)) (E 51 (by decide) (by decide) (by decide) (by decide) (by decide)), CI_eq hCI (by rw [E 6 (by decide) (by decide) (by decide) (by decide) (by decide)]) (by rw [E 1 (by decide) (by decide) (by decide) (by decide) (by decide)]) (E 5 (by decide) (by decide) (by decide) (by decide) (by decide)) (E 29 (by decide) (by decide) (by decide) (by decide) (by decide)) (fun j => by rw [E 33 (by decide) (by decide) (by decide) (by decide) (by decide)]) (E 35 (by decide) (by decide) (by decide) (by decide) (by decide)), by omega, ?_, ?_, ?_, ?_, ?_, ?_, ?_⟩
  · exact SN_pt hS1 (by rw [E 10 (by decide) (by decide) (by decide) (by decide) (by decide)]) (E11 6 (by decide) (by decide)) (E11 3 (by decide) (by decide)) (E 52 (by decide) (by decide) (by decide) (by decide) (by decide)) (E 53 (by decide) (by decide) (by decide) (by decide) (by decide)) (fun n' w' o' _ h => hPt 1 n' w' o' h)
  · refine ⟨len + bcn x 4, bap x 4 len tx, by rw [E8]; exact a2, b2, by omega, fun j j0 j1 => ⟨by rw [E41]; exact a3 j j0 j1, b3 j j0 j1, bap_g 4 len tx g (fun i i0 i1 => (tt i i0 i1).2.2) j j0 j1⟩⟩
  · intro j; rw [E41]; exact a4 j
  · rw [E8, a1.2 0 5 (by omega), E11 10 (by decide) (by decide)]; exact hS4
  · obtain ⟨fa, f1, f2⟩ := hS5
    exact ⟨fa, f1, by rw [E11 28 (by decide) (by decide)]; exact f2⟩
  · rw [n5]; omega
  · intro y hy
    rw [E 3 (by decide) (by decide) (by decide) (by decide) (by decide)]
    exact hS7 y hy
