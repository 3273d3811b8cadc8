/-! ===== the class reads: numbers, references, words ===== -/
def chr (len : Int) (tx : Int → Int) (p : Int) : Int := if p < len then tx p else -1
def TG (len : Int) (tx : Int → Int) : Prop := (0 ≤ len ∧ len ≤ 120) ∧ ∀ j, 0 ≤ j → j < len → 33 ≤ tx j ∧ tx j ≤ 126
def CT (M : jM) (len : Int) (tx : Int → Int) (p : Int) : Prop := TG len tx ∧ (0 ≤ p ∧ p ≤ len) ∧ M 8 0 2 = zI len ∧ M 8 0 3 = zI p ∧ (∀ j, 0 ≤ j → j < len → M 41 0 j.toNat = zI (tx j)) ∧ jch M
def fq (S : Nat → Nat → Nat → Prop) (M M1 : jM) : Prop := ∀ R i f, ¬ S R i f → M1 R i f = M R i f
theorem fq_rf (S : Nat → Nat → Nat → Prop) (M : jM) : fq S M M := fun _ _ _ _ => rfl
theorem fq_tr {S : Nat → Nat → Nat → Prop} {M M1 M2 : jM} (h : fq S M M1) (h1 : fq S M1 M2) : fq S M M2 := fun R i f q => (h1 R i f q).trans (h R i f q)
theorem fq_up {S : Nat → Nat → Nat → Prop} {M M1 : jM} {R i f : Nat} {x : Int32} (h : fq S M M1) (hS : S R i f) : fq S M (jup M1 R i f x) := fun R' i' f' q => by
  rw [jup_ne (fun e => q (by rw [e.1, e.2.1, e.2.2]; exact hS))]
  exact h R' i' f' q
theorem fq_mono {S S' : Nat → Nat → Nat → Prop} {M M1 : jM} (h : fq S M M1) (hS : ∀ R i f, S R i f → S' R i f) : fq S' M M1 := fun R i f q => h R i f (fun z => q (hS R i f z))
/-- the place; the place and the fault -/
def cP (R i f : Nat) : Prop := R = 8 ∧ i = 0 ∧ f = 3
def cE (R i f : Nat) : Prop := R = 8 ∧ i = 0 ∧ (f = 3 ∨ f = 5)
theorem cP_E {R i f : Nat} (h : cP R i f) : cE R i f := ⟨h.1, h.2.1, Or.inl h.2.2⟩
theorem fq_nbE {M M1 : jM} (h : fq cE M M1) : jnb M1 = jnb M := by
  unfold jnb
  rw [h 99 0 0 (fun z => by have := z.1; omega)]
theorem fq_nbP {M M1 : jM} (h : fq cP M M1) : jnb M1 = jnb M := fq_nbE (fq_mono h (fun _ _ _ => cP_E))
theorem CT_p {M M1 : jM} {len : Int} {tx : Int → Int} {p p' : Int} (h : CT M len tx p) (hp : 0 ≤ p' ∧ p' ≤ len) (e2 : M1 8 0 2 = M 8 0 2) (e41 : ∀ j, M1 41 0 j = M 41 0 j) (e3 : M1 8 0 3 = zI p') : CT M1 len tx p' :=
  ⟨h.1, hp, by rw [e2]; exact h.2.2.1, e3, fun j j0 j1 => by rw [e41]; exact h.2.2.2.2.1 j j0 j1, fun j => by rw [e41]; exact h.2.2.2.2.2 j⟩
theorem CT_P {M M1 : jM} {len : Int} {tx : Int → Int} {p p' : Int} (h : CT M len tx p) (hf : fq cP M M1) (hp : 0 ≤ p' ∧ p' ≤ len) (e3 : M1 8 0 3 = zI p') : CT M1 len tx p' :=
  CT_p h hp (hf 8 0 2 (fun z => by have := z.2.2; omega)) (fun j => hf 41 0 j (fun z => by have := z.1; omega)) e3
theorem chr_c {len : Int} {tx : Int → Int} {p : Int} (h : TG len tx) (hp : 0 ≤ p) : (p < len ∧ chr len tx p = tx p ∧ 33 ≤ tx p ∧ tx p ≤ 126) ∨ (len ≤ p ∧ chr len tx p = -1) := by
  unfold chr
  by_cases q : p < len
  · rw [if_pos q]; exact Or.inl ⟨q, rfl, h.2 p hp q⟩
  · rw [if_neg q]; exact Or.inr ⟨by omega, rfl⟩
/-- what the class sees -/
theorem jpk_e {M : jM} {len : Int} {tx : Int → Int} {p : Int} (h : CT M len tx p) : ∃ z : Int, jpk M = zI z ∧ ((p < len ∧ z = chr len tx p ∧ 33 ≤ z ∧ z ≤ 126) ∨ (p = len ∧ z = 0 ∧ chr len tx p = -1)) := by
  obtain ⟨g, g0, g2, g3, g4, g5⟩ := h
  have hl := g.1
  unfold jpk
  rcases chr_c (p := p) g g0.1 with ⟨a, b, b1⟩ | ⟨a, b⟩
  · refine ⟨tx p, ?_, Or.inl ⟨a, b.symm, b1⟩⟩
    rw [if_pos ⟨by rw [g3, z_0, z_leT (by omega)]; trivial, by rw [g3, g2, z_ltT (by omega)]; trivial, by rw [g3, z_120, z_ltT (by omega)]; trivial⟩, g3, z_clamp (by omega)]
    exact g4 p g0.1 a
  · refine ⟨0, ?_, Or.inr ⟨by omega, rfl, b⟩⟩
    rw [if_neg (fun z => by have z2 := z.2.1; rw [g3, g2, z_ltF (by omega)] at z2; exact z2), z_0]
theorem dig_e {z : Int} (h : 0 ≤ z ∧ z ≤ 126) : ((48 : Int32) ≤ zI z ∧ zI z ≤ 57) ↔ isD z := by
  unfold isD
  rw [z_48, z_57, z_leI (by omega), z_leI (by omega)]
set_option maxHeartbeats 4000000 in
set_option maxRecDepth 100000 in
theorem pn_ok {M : jM} {len : Int} {tx : Int → Int} {p : Int} {Q : Int32 → Nat → jM → Prop} (hT : CT M len tx p)
    (hg : isD (chr len tx p) → ∀ M1, fq cP M M1 → CT M1 len tx (nP (chr len tx) p) → Q (zI (nX (chr len tx) p)) 0 M1) (hb : ¬ isD (chr len tx p) → ∀ M1, fq cE M M1 → M1 8 0 5 = zI p → Q (-1) 0 M1) : ok_X8_parseNumber M Q := by
  refine en_X8_parseNumber (bl_X8_parseNumber_0 _ _ ?_)
  obtain ⟨z, ez, hz⟩ := jpk_e hT
  have hl := hT.1.1
  have h0 := hT.2.1
  have e3 := hT.2.2.2.1
  rw [ez, dig_e (by omega)]
  refine ⟨hT.2.2.2.2.2, fun q => ⟨hT.2.2.2.2.2, ?_⟩, fun q => ?_⟩
  · have hp : p < len ∧ z = chr len tx p := by unfold isD at q; omega
    have q1 : isD (chr len tx p) := by rw [← hp.2]; exact q
    rintro M1 rfl
    rw [e3, z_1, z_add]
    have f1 : fq cP M (jup M 8 0 3 (zI (p + 1))) := fq_up (fq_rf _ _) ⟨rfl, rfl, rfl⟩
    have T1 : CT (jup M 8 0 3 (zI (p + 1))) len tx (p + 1) := CT_P hT f1 (by omega) (jup_self _ _ _ _ _)
    obtain ⟨y, ey, hy⟩ := jpk_e T1
    rw [z_48, z_sub, ey]
    have nx : ∀ x, nX (chr len tx) p = x → hg = hg := fun _ _ => rfl
    by_cases q0 : z = 48
    · refine ⟨fun _ => ?_, fun w => absurd (by rw [q0, z_0, z_eqT (by omega)]; trivial) w⟩
      have a := hg q1 _ f1
      have b1 : nP (chr len tx) p = p + 1 := by unfold nP; rw [if_neg (fun w => w.1 (by omega))]
      have b2 : nX (chr len tx) p = z - 48 := by unfold nX; rw [if_neg (fun w => w.1 (by omega)), hp.2]
      rw [b1, b2] at a
      exact a T1
    · refine ⟨fun w => (by unfold isD at q; rw [z_0, z_eqF (by omega)] at w; exact w.elim), fun _ => ⟨T1.2.2.2.2.2, ?_⟩⟩
      rw [← z_48, dig_e (by omega)]
      refine ⟨fun q2 => ⟨T1.2.2.2.2.2, ?_⟩, fun q2 => ?_⟩
      · have hy2 : p + 1 < len ∧ y = chr len tx (p + 1) := by unfold isD at q2; omega
        rintro M2 rfl
        have e4 : jup M 8 0 3 (zI (p + 1)) 8 0 3 + zI 1 = zI (p + 2) := by rw [jup_self, z_add]; exact zc (by omega)
        rw [e4]
        have f2 : fq cP M (jup (jup M 8 0 3 (zI (p + 1))) 8 0 3 (zI (p + 2))) := fq_up f1 ⟨rfl, rfl, rfl⟩
        have a := hg q1 _ f2
        have c1 : chr len tx p ≠ 48 ∧ isD (chr len tx (p + 1)) := ⟨by omega, by rw [← hy2.2]; exact q2⟩
        have b1 : nP (chr len tx) p = p + 2 := by unfold nP; rw [if_pos c1]
        have b2 : nX (chr len tx) p = 10 * (z - 48) + y - 48 := by unfold nX; rw [if_pos c1, hp.2, hy2.2]
        rw [b1, b2] at a
        rw [z_48, z_10, z_mul, z_add, z_sub]
        exact a (CT_P hT f2 (by omega) (jup_self _ _ _ _ _))
      · have c1 : ¬ (chr len tx p ≠ 48 ∧ isD (chr len tx (p + 1))) := fun w => q2 (by
          have := w.2
          unfold isD at this ⊢
          omega)
        have a := hg q1 _ f1
        have b1 : nP (chr len tx) p = p + 1 := by unfold nP; rw [if_neg c1]
        have b2 : nX (chr len tx) p = z - 48 := by unfold nX; rw [if_neg c1, hp.2]
        rw [b1, b2] at a
        exact a T1
  · rintro M1 rfl
    refine hb (fun w => q (by unfold isD at w ⊢; omega)) _ (fq_up (fq_rf _ _) ⟨rfl, rfl, Or.inr rfl⟩) ?_
    rw [jup_self, e3]
set_option maxHeartbeats 4000000 in
set_option maxRecDepth 100000 in
theorem xp_ok {n1 : Nat} {len : Int} {tx : Int → Int} {p : Int} {L : Nat} {g : Int → Int} (hn : n1 < 32) (hL : jSlen.getD n1 0 = L) (hL4 : L ≤ 4) (hg : ∀ i : Nat, i < L → jsch n1 (zI (i : Int)) = zI (g (i : Int)) ∧ 33 ≤ g (i : Int) ∧ g (i : Int) ≤ 126) {M : jM} {Q : Int32 → Nat → jM → Prop} (hT : CT M len tx p)
    (hA : (∀ i : Int, 0 ≤ i → i < L → chr len tx (p + i) = g i) → ∀ M1, fq cP M M1 → CT M1 len tx (p + L) → Q 1 0 M1) (hB : ∀ i : Int, 0 ≤ i → i < L → (∀ j, 0 ≤ j → j < i → chr len tx (p + j) = g j) → chr len tx (p + i) ≠ g i → ∀ M1, fq cE M M1 → M1 8 0 5 = zI (p + i) → Q 0 0 M1) : ok_X8_expect n1 M Q := by
  have key : ∀ (d i : Nat) (v2 : Int32) (M1 : jM), i + d = L → v2 = zI (i : Int) → fq cP M M1 → CT M1 len tx (p + i) → (∀ j : Int, 0 ≤ j → j < i → chr len tx (p + j) = g j) → at_X8_expect_2 n1 v2 M1 Q := by
    intro d
    induction d with
    | zero =>
      intro i v2 M1 hd h2 hf hc ha
      subst h2
      have hi : i = L := by omega
      subst hi
      refine bl_X8_expect_2 _ _ _ _ hn ?_
      rw [hL, z_nI]
      exact ⟨fun _ => hA ha M1 hf hc, fun w => absurd (by rw [z_leT (by omega)]; trivial) w⟩
    | succ d ih =>
      intro i v2 M1 hd h2 hf hc ha
      subst h2
      obtain ⟨z, ez, hz⟩ := jpk_e hc
      obtain ⟨g1, g2⟩ := hg i (by omega)
      have hl := hT.1.1
      have hlc := hc.2.1
      have h0 := hT.2.1
      refine bl_X8_expect_2 _ _ _ _ hn ?_
      rw [hL, z_nI, ez, g1, z_eqI (by omega)]
      refine ⟨fun w => (by rw [z_leF (by omega)] at w; exact w.elim), fun _ => ⟨hc.2.2.2.2.2, by rw [z_inT (by omega)]; trivial, fun q => ?_, fun q => ?_⟩⟩
      · rintro M2 rfl
        have e4 : M1 8 0 3 + 1 = zI (p + (i : Int) + 1) := by rw [hc.2.2.2.1, z_1, z_add]
        rw [e4]
        have f2 : fq cP M (jup M1 8 0 3 (zI (p + (i : Int) + 1))) := fq_up hf ⟨rfl, rfl, rfl⟩
        rw [z_1, z_add]
        refine ih (i + 1) _ _ (by omega) (zc (by omega)) f2 (CT_P hT f2 (by omega) (by rw [jup_self]; exact zc (by omega))) (fun j j0 j1 => ?_)
        by_cases e : j = i
        · rw [e]; omega
        · exact ha j j0 (by omega)
      · rintro M2 rfl
        refine hB i (by omega) (by omega) ha (by omega) _ (fq_up (fq_mono hf (fun _ _ _ => cP_E)) ⟨rfl, rfl, Or.inr rfl⟩) ?_
        rw [jup_self]; exact hc.2.2.2.1
  exact en_X8_expect (bl_X8_expect_0 _ _ _ hn (key L 0 _ M (by omega) z_0 (fq_rf _ _) (by rw [show p + ((0 : Nat) : Int) = p by omega]; exact hT) (fun j j0 j1 => by omega)))
/-- one sign -/
theorem x1_ok {n1 : Nat} {len : Int} {tx : Int → Int} {p g : Int} (hn : n1 < 32) (hL : jSlen.getD n1 0 = 1) (hg : jsch n1 0 = zI g) (hg2 : 33 ≤ g ∧ g ≤ 126) {M : jM} {Q : Int32 → Nat → jM → Prop} (hT : CT M len tx p)
    (hA : chr len tx p = g → ∀ M1, fq cP M M1 → CT M1 len tx (p + 1) → Q 1 0 M1) (hB : chr len tx p ≠ g → ∀ M1, fq cE M M1 → M1 8 0 5 = zI p → Q 0 0 M1) : ok_X8_expect n1 M Q := by
  refine xp_ok (L := 1) (g := fun _ => g) hn hL (by omega) (fun i hi => ⟨by rw [show i = 0 by omega]; exact hg, hg2⟩) hT (fun h => hA (by have := h 0 (by omega) (by omega); rw [Int.add_zero] at this; exact this)) (fun i i0 i1 _ h => ?_)
  have e : i = 0 := by omega
  subst e
  rw [Int.add_zero] at h ⊢
  exact hB h
