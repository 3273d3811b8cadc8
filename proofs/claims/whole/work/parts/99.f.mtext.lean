/-! ===== the reference reads: signs, numbers, references ===== -/
def MT (M : jM) (len : Int) (tx : Int → Int) (p : Int) : Prop := TG len tx ∧ (0 ≤ p ∧ p ≤ len) ∧ M 11 0 11 = zI len ∧ M 11 0 12 = zI p ∧ (∀ j, 0 ≤ j → j < len → M 54 0 j.toNat = zI (tx j)) ∧ M 11 0 13 = zI 0
/-- a fault at f was seen -/
def MB (M : jM) (len f : Int) : Prop := (0 ≤ len ∧ len ≤ 120) ∧ M 11 0 11 = zI len ∧ (∃ p, M 11 0 12 = zI p ∧ 0 ≤ p ∧ p ≤ len) ∧ M 11 0 13 = zI 1 ∧ M 11 0 10 = zI f
theorem MT_p {M M1 : jM} {len : Int} {tx : Int → Int} {p p' : Int} (h : MT M len tx p) (hp : 0 ≤ p' ∧ p' ≤ len) (e11 : M1 11 0 11 = M 11 0 11) (e13 : M1 11 0 13 = M 11 0 13) (e54 : ∀ j, M1 54 0 j = M 54 0 j) (e12 : M1 11 0 12 = zI p') : MT M1 len tx p' :=
  ⟨h.1, hp, by rw [e11]; exact h.2.2.1, e12, fun j j0 j1 => by rw [e54]; exact h.2.2.2.2.1 j j0 j1, by rw [e13]; exact h.2.2.2.2.2⟩
theorem jhr_e {M : jM} {len : Int} {tx : Int → Int} {p : Int} (h : MT M len tx p) : jhr M = zI (chr len tx p) ∧ ((p < len ∧ 33 ≤ chr len tx p ∧ chr len tx p ≤ 126) ∨ (p = len ∧ chr len tx p = -1)) := by
  obtain ⟨g, g0, g2, g3, g4, g5⟩ := h
  have hl := g.1
  unfold jhr
  rcases chr_c (p := p) g g0.1 with ⟨a, b, b1⟩ | ⟨a, b⟩
  · refine ⟨?_, Or.inl ⟨a, by omega⟩⟩
    rw [if_pos (by rw [g3, g2, z_ltT (by omega)]; trivial), g3, z_clamp (by omega), b]
    exact g4 p g0.1 a
  · refine ⟨?_, Or.inr ⟨by omega, b⟩⟩
    rw [if_neg (fun z => by rw [g3, g2, z_ltF (by omega)] at z; exact z), b, z_1, z_neg]
theorem MT_in {M : jM} {len : Int} {tx : Int → Int} {p : Int} (h : MT M len tx p) : M 11 0 12 < M 11 0 11 → vp_in (M 11 0 12) 120 := fun w0 => by
  obtain ⟨g, g0, g2, g3, _⟩ := h
  have hl := g.1
  by_cases q : p = 120
  · rw [g3, g2, z_ltF (by omega)] at w0
    exact w0.elim
  · rw [g3, z_inT (by omega)]; trivial
theorem MB_in {M : jM} {len f : Int} (h : MB M len f) : M 11 0 12 < M 11 0 11 → vp_in (M 11 0 12) 120 := fun w => by
  obtain ⟨hl, g2, ⟨p, g3, p0, p1⟩, _⟩ := h
  rw [g3, g2, z_ltI (by omega)] at w
  rw [g3, z_inT (by omega)]; trivial

theorem bd_ok {M : jM} {len : Int} {tx : Int → Int} {p f : Int} {Q : Int32 → Nat → jM → Prop} (h : MT M len tx p) (hQ : ∀ M1, fm [] [10, 13] M M1 → MB M1 len f → Q 0 0 M1) : ok_X12_bad (zI f) M Q := by
  refine en_X12_bad (bl_X12_bad_0 _ _ _ ⟨fun _ => ?_, fun w => absurd (by rw [z_0]; exact h.2.2.2.2.2) w⟩)
  rintro M1 rfl M2 rfl
  refine hQ _ (fm_f (fm_f (fm_rf _ _ _))) ⟨h.1.1, by rw [jup_ne (by omega), jup_ne (by omega)]; exact h.2.2.1, ⟨p, by rw [jup_ne (by omega), jup_ne (by omega)]; exact h.2.2.2.1, h.2.1⟩, by rw [jup_ne (by omega), jup_self, z_1], by rw [jup_self]⟩
theorem bb_ok {M : jM} {len f : Int} {y : Int32} {Q : Int32 → Nat → jM → Prop} (h : MB M len f) (hQ : Q 0 0 M) : ok_X12_bad y M Q :=
  en_X12_bad (bl_X12_bad_0 _ _ _ ⟨fun w => (by rw [h.2.2.2.1, z_0, z_eqF (by omega)] at w; exact w.elim), fun _ => hQ⟩)
theorem fm_n {S F : List Nat} {M M1 : jM} (h : fm S F M M1) (hS : 99 ∉ S := by decide) : jnb M1 = jnb M := by
  unfold jnb; rw [h.1 99 (by decide) hS]
set_option maxHeartbeats 4000000 in
set_option maxRecDepth 100000 in
theorem tk_ok {M : jM} {len : Int} {tx : Int → Int} {p g : Int} {Q : Int32 → Nat → jM → Prop} (h : MT M len tx p) (hg : 33 ≤ g ∧ g ≤ 126) (hA : chr len tx p = g → ∀ M1, fm [] [12] M M1 → MT M1 len tx (p + 1) → Q 0 0 M1) (hB : chr len tx p ≠ g → ∀ M1, fm [] [10, 13] M M1 → MB M1 len p → Q 0 0 M1) : ok_X12_take (zI g) M Q := by
  have hl := h.1.1
  have hp := h.2.1
  obtain ⟨ej, hj⟩ := jhr_e h
  refine en_X12_take (bl_X12_take_0 _ _ _ ⟨fun _ => ⟨MT_in h, fun w => ?_, fun w => ?_⟩, fun w => absurd (by rw [z_0]; exact h.2.2.2.2.2) w⟩)
  · rw [ej, z_eqI (by omega)] at w
    rintro M8 rfl
    rw [h.2.2.2.1, z_1, z_add]
    exact hA w _ (fm_f (fm_rf _ _ _)) (MT_p h (by omega) (by rw [jup_ne (by omega)]) (by rw [jup_ne (by omega)]) (fun j => by rw [jup_R (by decide)]) (jup_self _ _ _ _ _))
  · rw [ej, z_eqI (by omega)] at w
    rw [h.2.2.2.1]
    exact bd_ok h (fun M1 f1 b1 => ⟨fm_n f1, hB w M1 f1 b1⟩)
theorem tb_ok {M : jM} {len f : Int} {y : Int32} {Q : Int32 → Nat → jM → Prop} (h : MB M len f) (hQ : Q 0 0 M) : ok_X12_take y M Q :=
  en_X12_take (bl_X12_take_0 _ _ _ ⟨fun w => (by rw [h.2.2.2.1, z_0, z_eqF (by omega)] at w; exact w.elim), fun _ => bb_ok h ⟨rfl, hQ⟩⟩)
set_option maxHeartbeats 4000000 in
set_option maxRecDepth 100000 in
theorem mn_ok {M : jM} {len : Int} {tx : Int → Int} {p : Int} {Q : Int32 → Nat → jM → Prop} (h : MT M len tx p) (hA : isD (chr len tx p) → ∀ M1, fm [] [12] M M1 → MT M1 len tx (nP (chr len tx) p) → Q (zI (nX (chr len tx) p)) 0 M1) (hB : ¬ isD (chr len tx p) → ∀ M1, fm [] [10, 13] M M1 → MB M1 len p → Q 0 0 M1) : ok_X12_number M Q := by
  have hl := h.1.1
  have hp := h.2.1
  obtain ⟨ej, hj⟩ := jhr_e h
  have dg : ∀ z : Int, -1 ≤ z ∧ z ≤ 126 → (((48 : Int32) ≤ zI z ∧ zI z ≤ 57) ↔ isD z) := fun z hz => by
    unfold isD
    rw [z_48, z_57, z_leI (by omega), z_leI (by omega)]
  refine en_X12_number (bl_X12_number_0 _ _ ⟨fun _ => ⟨MT_in h, fun w => ⟨MT_in h, ?_⟩, fun w => ?_⟩, fun w => absurd (by rw [z_0]; exact h.2.2.2.2.2) w⟩)
  · rw [ej, dg _ (by omega)] at w
    rintro M11 rfl
    have e12 : M 11 0 12 + 1 = zI (p + 1) := by rw [h.2.2.2.1, z_1, z_add]
    rw [e12, ej]
    have hpl : p < len := by unfold isD at w; omega
    have f1 : fm [] [12] M (jup M 11 0 12 (zI (p + 1))) := fm_f (fm_rf _ _ _)
    have T1 : MT (jup M 11 0 12 (zI (p + 1))) len tx (p + 1) := MT_p h (by omega) (by rw [jup_ne (by omega)]) (by rw [jup_ne (by omega)]) (fun j => by rw [jup_R (by decide)]) (jup_self _ _ _ _ _)
    obtain ⟨ek, hk⟩ := jhr_e T1
    rw [ek, z_48, z_sub]
    by_cases q0 : chr len tx p = 48
    · refine ⟨fun _ => ?_, fun w2 => absurd (by rw [q0, z_0, z_leT (by omega)]; trivial) w2⟩
      have a := hA w _ f1
      have b1 : nP (chr len tx) p = p + 1 := by unfold nP; rw [if_neg (fun w => w.1 q0)]
      have b2 : nX (chr len tx) p = chr len tx p - 48 := by unfold nX; rw [if_neg (fun w => w.1 q0)]
      rw [b1, b2] at a
      exact a T1
    · refine ⟨fun w2 => (by unfold isD at w; rw [z_0, z_leF (by omega)] at w2; exact w2.elim), fun _ => ⟨MT_in T1, ?_⟩⟩
      rw [← z_48, dg _ (by omega)]
      refine ⟨fun q2 => ⟨MT_in T1, ?_⟩, fun q2 => ?_⟩
      · rintro M20 rfl
        have c1 : chr len tx p ≠ 48 ∧ isD (chr len tx (p + 1)) := ⟨q0, q2⟩
        have hpl2 : p + 1 < len := by unfold isD at q2; omega
        have e4 : jup M 11 0 12 (zI (p + 1)) 11 0 12 + 1 = zI (p + 2) := by rw [jup_self, z_1, z_add]; exact zc (by omega)
        rw [e4]
        have f2 : fm [] [12] M (jup (jup M 11 0 12 (zI (p + 1))) 11 0 12 (zI (p + 2))) := fm_f f1
        have a := hA w _ f2
        have b1 : nP (chr len tx) p = p + 2 := by unfold nP; rw [if_pos c1]
        have b2 : nX (chr len tx) p = 10 * (chr len tx p - 48) + chr len tx (p + 1) - 48 := by unfold nX; rw [if_pos c1]
        rw [b1, b2] at a
        rw [z_48, z_10, z_mul, z_add, z_sub]
        exact a (MT_p T1 (by omega) (by rw [jup_ne (by omega)]) (by rw [jup_ne (by omega)]) (fun j => by rw [jup_R (by decide)]) (jup_self _ _ _ _ _))
      · have c1 : ¬ (chr len tx p ≠ 48 ∧ isD (chr len tx (p + 1))) := fun w => q2 w.2
        have a := hA w _ f1
        have b1 : nP (chr len tx) p = p + 1 := by unfold nP; rw [if_neg c1]
        have b2 : nX (chr len tx) p = chr len tx p - 48 := by unfold nX; rw [if_neg c1]
        rw [b1, b2] at a
        exact a T1
  · rw [ej, dg _ (by omega)] at w
    rw [h.2.2.2.1]
    exact bd_ok h (fun M1 f1 b1 => ⟨fm_n f1, hB w M1 f1 b1⟩)
theorem nb_ok {M : jM} {len f : Int} {Q : Int32 → Nat → jM → Prop} (h : MB M len f) (hQ : Q 0 0 M) : ok_X12_number M Q :=
  en_X12_number (bl_X12_number_0 _ _ ⟨fun w => (by rw [h.2.2.2.1, z_0, z_eqF (by omega)] at w; exact w.elim), fun _ => bb_ok h ⟨rfl, hQ⟩⟩)
