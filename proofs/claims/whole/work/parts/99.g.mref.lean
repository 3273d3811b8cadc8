/-! ===== the reference reads: bounds, references ===== -/
set_option maxHeartbeats 4000000 in
set_option maxRecDepth 100000 in
theorem mb_ok {M : jM} {len : Int} {tx : Int → Int} {p low : Int} {Q : Int32 → Nat → jM → Prop} (h : MT M len tx p) (hlow : 0 ≤ low ∧ low ≤ 100)
    (hA : isD (chr len tx p) → low ≤ nX (chr len tx) p → nX (chr len tx) p ≤ 30 → ∀ M1, fm [] [12] M M1 → MT M1 len tx (nP (chr len tx) p) → Q (zI (nX (chr len tx) p)) 0 M1) (hB : ¬ (isD (chr len tx p) ∧ low ≤ nX (chr len tx) p ∧ nX (chr len tx) p ≤ 30) → ∀ M1 r, fm [] [10, 12, 13] M M1 → MB M1 len p → Q r 0 M1) : ok_X12_bounded (zI low) M Q := by
  have e12 := h.2.2.2.1
  have hl := h.1.1
  refine en_X12_bounded (bl_X12_bounded_0 _ _ _ ?_)
  refine mn_ok h (fun hd M1 f1 T1 => ⟨fm_n f1, ?_⟩) (fun hd M1 f1 b1 => ⟨fm_n f1, fun _ => hB (fun w => hd w.1) M1 _ (fm_mono f1) b1, fun _ => bb_ok b1 ⟨rfl, hB (fun w => hd w.1) M1 _ (fm_mono f1) b1⟩⟩)
  have hr := nX_r hd
  rw [z_30, z_leI (by omega), z_leI (by omega), e12]
  exact ⟨fun w => hA hd w.1 w.2 M1 f1 T1, fun w => bd_ok T1 (fun M2 f2 b2 => ⟨fm_n f2, hB (fun w2 => w w2.2) M2 _ (fm_tr f1 f2) b2⟩)⟩
theorem mbb_ok {M : jM} {len f : Int} {y : Int32} {Q : Int32 → Nat → jM → Prop} (h : MB M len f) (hQ : ∀ r, Q r 0 M) : ok_X12_bounded y M Q :=
  en_X12_bounded (bl_X12_bounded_0 _ _ _ (nb_ok h ⟨rfl, fun _ => hQ 0, fun _ => bb_ok h ⟨rfl, hQ 0⟩⟩))
theorem MB_n0 {M : jM} {len f : Int} (h : MB M len f) : ¬ (M 11 0 13 = 0) := fun w => by rw [h.2.2.2.1, z_0, z_eqF (by omega)] at w; exact w
theorem MT_0 {M : jM} {len : Int} {tx : Int → Int} {p : Int} (h : MT M len tx p) : M 11 0 13 = 0 := by rw [z_0]; exact h.2.2.2.2.2
set_option maxHeartbeats 4000000 in
set_option maxRecDepth 100000 in
theorem mr_ok {M : jM} {len : Int} {tx : Int → Int} {p : Int} {Q : Int32 → Nat → jM → Prop} (h : MT M len tx p)
    (hA : ∀ p' a d, rfG (chr len tx) p p' a d → ∀ M1, fm [] [12] M M1 → MT M1 len tx p' → Q (zI (20 * a + d + 9)) 0 M1) (hB : ∀ f r, rfB (chr len tx) p f → ∀ M1, fm [] [10, 12, 13] M M1 → MB M1 len f → Q r 0 M1) : ok_X12_reference M Q := by
  have hl := h.1.1
  have hp := h.2.1
  obtain ⟨ej, hj⟩ := jhr_e h
  have e12 := h.2.2.2.1
  have dg : ∀ z : Int, -1 ≤ z ∧ z ≤ 126 → (((48 : Int32) ≤ zI z ∧ zI z ≤ 57) ↔ isD z) := fun z hz => by
    unfold isD
    rw [z_48, z_57, z_leI (by omega), z_leI (by omega)]
  have adv : ∀ (M1 : jM) (q : Int), MT M1 len tx q → q < len → fm [] [12] M M1 → M1 11 0 12 + 1 = zI (q + 1) ∧ MT (jup M1 11 0 12 (zI (q + 1))) len tx (q + 1) ∧ fm [] [12] M (jup M1 11 0 12 (zI (q + 1))) := fun M1 q T hq f =>
    ⟨by rw [T.2.2.2.1, z_1, z_add], MT_p T (by have := T.2.1; omega) (by rw [jup_ne (by omega)]) (by rw [jup_ne (by omega)]) (fun j => by rw [jup_R (by decide)]) (jup_self _ _ _ _ _), fm_f f⟩
  have e97 : zI (chr len tx p) - 97 = zI (chr len tx p - 97) := by rw [z_97, z_sub]
  refine en_X12_reference (bl_X12_reference_0 _ _ ⟨MT_in h, fun _ => ?_, fun w => absurd (MT_0 h) w⟩)
  rw [ej, e97, z_91, z_105, z_93, show ((0 : Int32) ≤ zI (chr len tx p - 97) ∧ zI (chr len tx p - 97) ≤ 4) = (97 ≤ chr len tx p ∧ chr len tx p ≤ 101) by
    rw [z_0, z_4, z_leI (by omega), z_leI (by omega)]
    exact propext ⟨fun w => by omega, fun w => by omega⟩]
  refine ⟨fun ra => ?_, fun ra => ?_⟩
  rotate_left
  · rw [e12]
    exact bd_ok h (fun M1 f1 b1 => ⟨fm_n f1, hB p _ (Or.inl ⟨ra, rfl⟩) M1 (fm_mono f1) b1⟩)
  rintro M8 hM8
  obtain ⟨a1, a2, a3⟩ := adv M p h (by omega) (fm_rf _ _ _)
  rw [a1] at hM8
  rw [← hM8] at a2 a3
  refine tk_ok a2 (by omega) (fun c1 M10 f10 T10 => ⟨fm_n f10, ?_⟩) (fun c1 M10 f10 b10 => ⟨fm_n f10, tb_ok b10 ⟨rfl, MB_in b10, fun _ => ⟨fun w => absurd w (MB_n0 b10), fun _ => tb_ok b10 ⟨rfl, ?_⟩⟩, fun _ => ⟨MB_in b10, fun _ => ⟨fun w => absurd w (MB_n0 b10), fun _ => tb_ok b10 ⟨rfl, ?_⟩⟩, fun _ => ⟨fun w => absurd w (MB_n0 b10), fun _ => tb_ok b10 ⟨rfl, ?_⟩⟩⟩⟩⟩)
  rotate_left
  · exact hB (p + 1) _ (Or.inr ⟨ra, Or.inl ⟨c1, rfl⟩⟩) M10 (fm_tr a3 f10) b10
  · exact hB (p + 1) _ (Or.inr ⟨ra, Or.inl ⟨c1, rfl⟩⟩) M10 (fm_tr a3 f10) b10
  · exact hB (p + 1) _ (Or.inr ⟨ra, Or.inl ⟨c1, rfl⟩⟩) M10 (fm_tr a3 f10) b10
  rw [show p + 1 + 1 = p + 2 by omega] at T10
  have F10 : fm [] [12] M M10 := fm_tr a3 f10
  refine tk_ok T10 (by omega) (fun c2 M12 f12 T12 => ⟨fm_n f12, MT_in T12, ?_⟩) (fun c2 M12 f12 b12 => ⟨fm_n f12, MB_in b12, fun _ => ⟨fun w => absurd w (MB_n0 b12), fun _ => tb_ok b12 ⟨rfl, ?_⟩⟩, fun _ => ⟨MB_in b12, fun _ => ⟨fun w => absurd w (MB_n0 b12), fun _ => tb_ok b12 ⟨rfl, ?_⟩⟩, fun _ => ⟨fun w => absurd w (MB_n0 b12), fun _ => tb_ok b12 ⟨rfl, ?_⟩⟩⟩⟩)
  rotate_left
  · exact hB (p + 2) _ (Or.inr ⟨ra, Or.inr (Or.inl ⟨c1, c2, rfl⟩)⟩) M12 (fm_tr F10 f12) b12
  · exact hB (p + 2) _ (Or.inr ⟨ra, Or.inr (Or.inl ⟨c1, c2, rfl⟩)⟩) M12 (fm_tr F10 f12) b12
  · exact hB (p + 2) _ (Or.inr ⟨ra, Or.inr (Or.inl ⟨c1, c2, rfl⟩)⟩) M12 (fm_tr F10 f12) b12
  rw [show p + 2 + 1 = p + 3 by omega] at T12
  have F12 : fm [] [12] M M12 := fm_tr F10 f12
  obtain ⟨e3, h3⟩ := jhr_e T12
  rw [e3, z_43, z_45, z_eqI (a := chr len tx (p + 3)) (b := 43) (by omega), z_eqI (a := chr len tx (p + 3)) (b := 45) (by omega)]
  have sg : (chr len tx (p + 3) = 43 ∨ chr len tx (p + 3) = 45) → M12 11 0 12 + 1 = zI (p + 4) ∧ MT (jup M12 11 0 12 (zI (p + 4))) len tx (p + 4) ∧ fm [] [12] M (jup M12 11 0 12 (zI (p + 4))) := fun q => by
    have := adv M12 (p + 3) T12 (by omega) F12
    rw [show p + 3 + 1 = p + 4 by omega] at this
    exact this
  have nd : ∀ M43 r, (chr len tx (p + 3) = 43 ∨ chr len tx (p + 3) = 45) → MT M43 len tx (p + 4) → fm [] [12] M M43 → ¬ isD (chr len tx (p + 4)) → ok_X12_bad (M43 11 0 12) M43 (fun _ _ M50 => jnb M50 = jnb M43 ∧ ok_X12_take (zI 93) M50 (fun _ _ M52 => jnb M52 = jnb M50 ∧ Q r 0 M52)) := fun M43 r q T f hd => by
    rw [T.2.2.2.1]
    exact bd_ok T (fun M50 f50 b50 => ⟨fm_n f50, tb_ok b50 ⟨rfl, hB (p + 4) _ (Or.inr ⟨ra, Or.inr (Or.inr ⟨c1, c2, Or.inr (Or.inl ⟨q, hd, rfl⟩)⟩)⟩) M50 (fm_tr f f50) b50⟩⟩)
  have c2' : chr len tx (p + 2) = 105 := c2
  have dgt : ∀ M43 val, (chr len tx (p + 3) = 43 ∨ chr len tx (p + 3) = 45) → MT M43 len tx (p + 4) → fm [] [12] M M43 → isD (chr len tx (p + 4)) → val = zI (20 * (chr len tx p - 97) + (if chr len tx (p + 3) = 43 then chr len tx (p + 4) - 48 else 48 - chr len tx (p + 4)) + 9) → ∀ M56, M56 = jup M43 11 0 12 (M43 11 0 12 + 1) → ok_X12_take (zI 93) M56 (fun _ _ M58 => jnb M58 = jnb M56 ∧ Q val 0 M58) := fun M43 val q T f hd hv M56 hM => by
    have h4 := chr_c (p := p + 4) h.1 (by omega)
    obtain ⟨b1, b2, b3⟩ := adv M43 (p + 4) T (by unfold isD at hd; omega) f
    rw [b1, show p + 4 + 1 = p + 5 by omega] at hM
    rw [show p + 4 + 1 = p + 5 by omega, ← hM] at b2 b3
    subst hv
    refine tk_ok b2 (by omega) (fun c5 M58 f58 T58 => ⟨fm_n f58, hA (p + 6) _ _ ⟨rfl, by omega, c1, c2', Or.inr ?_⟩ M58 (fm_tr b3 f58) (by rw [show p + 6 = p + 5 + 1 by omega]; exact T58)⟩) (fun c5 M58 f58 b58 => ⟨fm_n f58, hB (p + 5) _ (Or.inr ⟨ra, Or.inr (Or.inr ⟨c1, c2', Or.inr (Or.inr ⟨q, hd, c5, rfl⟩)⟩)⟩) M58 (fm_tr b3 f58) b58⟩)
    rcases q with q | q
    · exact Or.inl ⟨q, hd, c5, by rw [if_pos q], rfl⟩
    · exact Or.inr ⟨q, hd, c5, by rw [if_neg (by omega)], rfl⟩
  refine ⟨fun q => ⟨fun _ => ?_, fun w => absurd (MT_0 T12) w⟩, fun q => ⟨MT_in T12, fun q5 => ⟨fun _ => ?_, fun w => absurd (MT_0 T12) w⟩, fun q5 => ⟨fun _ => ?_, fun w => absurd (MT_0 T12) w⟩⟩⟩
  · intro M43 hM43
    obtain ⟨b1, b2, b3⟩ := sg (Or.inl q)
    rw [b1] at hM43
    rw [← hM43] at b2 b3
    obtain ⟨e4, h4⟩ := jhr_e b2
    rw [e4, dg _ (by omega)]
    refine ⟨MT_in b2, fun hd => ⟨MT_in b2, dgt M43 _ (Or.inl q) b2 b3 hd ?_⟩, fun hd => nd M43 _ (Or.inl q) b2 b3 hd⟩
    rw [if_pos q]
    simp only [z_1, z_20, z_48, z_9, z_mul, z_add, z_sub]
    exact zc (by omega)
  · intro M43 hM43
    obtain ⟨b1, b2, b3⟩ := sg (Or.inr q5)
    rw [b1] at hM43
    rw [← hM43] at b2 b3
    obtain ⟨e4, h4⟩ := jhr_e b2
    rw [e4, dg _ (by omega)]
    refine ⟨MT_in b2, fun hd => ⟨MT_in b2, dgt M43 _ (Or.inr q5) b2 b3 hd ?_⟩, fun hd => nd M43 _ (Or.inr q5) b2 b3 hd⟩
    rw [if_neg q]
    simp only [z_1, z_20, z_48, z_9, z_mul, z_add, z_sub, z_neg]
    exact zc (by omega)
  · refine tk_ok T12 (by omega) (fun c5 M58 f58 T58 => ⟨fm_n f58, ?_⟩) (fun c5 M58 f58 b58 => ⟨fm_n f58, hB (p + 3) _ (Or.inr ⟨ra, Or.inr (Or.inr ⟨c1, c2', Or.inl ⟨q, q5, c5, rfl⟩⟩)⟩) M58 (fm_tr F12 f58) b58⟩)
    rw [show p + 3 + 1 = p + 4 by omega] at T58
    have a := hA (p + 4) (chr len tx p - 97) 0 ⟨rfl, by omega, c1, c2', Or.inl ⟨c5, rfl, rfl⟩⟩ M58 (fm_tr F12 f58) T58
    have ev : 20 * zI (chr len tx p - 97) + 0 + 9 = zI (20 * (chr len tx p - 97) + 0 + 9) := by
      simp only [z_0, z_20, z_9, z_mul, z_add]
    rw [ev]
    exact a
