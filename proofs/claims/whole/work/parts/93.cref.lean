/-! ===== the class reads: references, bounds ===== -/
theorem w5 : jSlen.getD 5 0 = 2 := rfl
theorem rfB_x {c : Int → Int} {p f : Int} (h : rfB c p f) : p ≤ f ∧ f ≤ p + 5 := by
  unfold rfB at h; omega
set_option maxHeartbeats 4000000 in
set_option maxRecDepth 100000 in
theorem px_ok {n1 : Nat} {len : Int} {tx : Int → Int} {p : Int} {M : jM} {Q : Int32 → Nat → jM → Prop} (e1 : n1 = 5) (hT : CT M len tx p)
    (hA : chr len tx p = 91 → chr len tx (p + 1) = 105 → ∀ M1, fq cP M M1 → CT M1 len tx (p + 2) → Q 1 0 M1) (hB : chr len tx p ≠ 91 → ∀ M1, fq cE M M1 → M1 8 0 5 = zI p → Q 0 0 M1) (hC : chr len tx p = 91 → chr len tx (p + 1) ≠ 105 → ∀ M1, fq cE M M1 → M1 8 0 5 = zI (p + 1) → Q 0 0 M1) : ok_X8_expect n1 M Q := by
  subst e1
  refine xp_ok (L := 2) (g := fun i => if i = 0 then 91 else 105) (by decide) rfl (by decide) (fun i hi => ?_) hT (fun h => ?_) (fun i i0 i1 hj h => ?_)
  · rcases (show i = 0 ∨ i = 1 by omega) with rfl | rfl
    · exact ⟨by decide +kernel, by decide, by decide⟩
    · exact ⟨by decide +kernel, by decide, by decide⟩
  · have a := h 0 (by omega) (by omega)
    have b := h 1 (by omega) (by omega)
    rw [Int.add_zero, if_pos rfl] at a
    rw [if_neg (by omega)] at b
    exact hA a b
  · rcases (show i = 0 ∨ i = 1 by omega) with rfl | rfl
    · rw [Int.add_zero, if_pos rfl] at h
      rw [Int.add_zero]
      exact hB h
    · rw [if_neg (by omega)] at h
      have a := hj 0 (by omega) (by omega)
      rw [Int.add_zero, if_pos rfl] at a
      exact hC a h
set_option maxHeartbeats 4000000 in
set_option maxRecDepth 100000 in
theorem pr_ok {len : Int} {tx : Int → Int} {p : Int} {M : jM} {Q : Int32 → Nat → jM → Prop} (hT : CT M len tx p)
    (hg : ∀ p' a d, rfG (chr len tx) p p' a d → ∀ M1, fq cP M M1 → CT M1 len tx p' → Q (zI (49 * a + d + 9)) 0 M1) (hb : ∀ f, rfB (chr len tx) p f → ∀ M1, fq cE M M1 → M1 8 0 5 = zI f → Q (-1) 0 M1) : ok_X8_parseReference M Q := by
  refine en_X8_parseReference (bl_X8_parseReference_0 _ _ ?_)
  obtain ⟨z, ez, hz⟩ := jpk_e hT
  have hl := hT.1.1
  have h0 := hT.2.1
  have e3 := hT.2.2.2.1
  have bad0 : ¬ (97 ≤ z ∧ z ≤ 101) → ∀ M1, M1 = jup M 8 0 5 (M 8 0 3) → Q (-1) 0 M1 := fun q M1 hM => by
    subst hM
    exact hb p (Or.inl ⟨by omega, rfl⟩) _ (fq_up (fq_rf _ _) ⟨rfl, rfl, Or.inr rfl⟩) (by rw [jup_self]; exact e3)
  have e97 : zI z - 97 = zI (z - 97) := by rw [z_97, z_sub]
  rw [ez, e97]
  refine ⟨hT.2.2.2.2.2, fun w => bad0 (fun q => (by rw [z_0, z_ltF (by omega)] at w; exact w)), fun _ => ⟨fun w5 => ?_, fun w => bad0 (fun q => w (by rw [z_5, z_ltT (by omega)]; trivial))⟩⟩
  by_cases q : 97 ≤ z ∧ z ≤ 101
  case neg =>
    exfalso
    rename_i w
    rw [z_0, z_ltI (by omega)] at w
    rw [z_5, z_ltI (by omega)] at w5
    omega
  have hp : p < len ∧ z = chr len tx p := by omega
  rintro M1 rfl
  rw [e3, z_1, z_add]
  have f1 : fq cP M (jup M 8 0 3 (zI (p + 1))) := fq_up (fq_rf _ _) ⟨rfl, rfl, rfl⟩
  have T1 : CT (jup M 8 0 3 (zI (p + 1))) len tx (p + 1) := CT_P hT f1 (by omega) (jup_self _ _ _ _ _)
  have ra : 97 ≤ chr len tx p ∧ chr len tx p ≤ 101 := by omega
  refine px_ok rfl T1 (fun c1 c2 M7 f7 T7 => ⟨fq_nbP f7, fun w => absurd w (by decide), fun _ => ?_⟩) (fun c1 M7 f7 g7 => ⟨fq_nbE f7, fun _ => ?_, fun w => absurd rfl w⟩) (fun c1 c2 M7 f7 g7 => ⟨fq_nbE f7, fun _ => ?_, fun w => absurd rfl w⟩)
  rotate_left
  · exact hb (p + 1) (Or.inr ⟨ra, Or.inl ⟨c1, rfl⟩⟩) _ (fq_tr (fq_mono f1 (fun _ _ _ => cP_E)) f7) g7
  · rw [show p + 1 + 1 = p + 2 by omega] at c2 g7
    exact hb (p + 2) (Or.inr ⟨ra, Or.inr (Or.inl ⟨c1, c2, rfl⟩)⟩) _ (fq_tr (fq_mono f1 (fun _ _ _ => cP_E)) f7) g7
  rw [show p + 1 + 1 = p + 2 by omega] at c2
  rw [show p + 1 + 2 = p + 3 by omega] at T7
  have F7 : fq cP M M7 := fq_tr f1 f7
  obtain ⟨y, ey, hy⟩ := jpk_e T7
  have h7 := T7.2.1
  have e37 := T7.2.2.2.1
  rw [ey]
  refine ⟨T7.2.2.2.2.2, ?_⟩
  -- behind a sign
  have sg : (y = 43 ∨ y = 45) → ∀ M11, M11 = jup M7 8 0 3 (zI (p + 4)) → CT M11 len tx (p + 4) ∧ fq cP M M11 := fun qy M11 hM => by
    subst hM
    have f11 : fq cP M (jup M7 8 0 3 (zI (p + 4))) := fq_up F7 ⟨rfl, rfl, rfl⟩
    exact ⟨CT_P hT f11 (by omega) (jup_self _ _ _ _ _), f11⟩
  have e4 : M7 8 0 3 + zI 1 = zI (p + 4) := by rw [e37, z_add]; exact zc (by omega)
  have nd : ∀ M11, (y = 43 ∨ y = 45) → CT M11 len tx (p + 4) → fq cP M M11 → ¬ isD (chr len tx (p + 4)) → ∀ M12, M12 = jup M11 8 0 5 (M11 8 0 3) → Q (-1) 0 M12 := fun M11 qy T11 F11 hd M12 hM => by
    subst hM
    exact hb (p + 4) (Or.inr ⟨ra, Or.inr (Or.inr ⟨c1, c2, Or.inr (Or.inl ⟨by omega, hd, rfl⟩)⟩)⟩) _ (fq_up (fq_mono F11 (fun _ _ _ => cP_E)) ⟨rfl, rfl, Or.inr rfl⟩) (by rw [jup_self]; exact T11.2.2.2.1)
  have dg : ∀ M11 x, (y = 43 ∨ y = 45) → CT M11 len tx (p + 4) → fq cP M M11 → jpk M11 = zI x → isD x → x = chr len tx (p + 4) ∧ p + 4 < len → ∀ (val : Int32), val = zI (49 * (z - 97) + (if y = 43 then x - 48 else 48 - x) + 9) → ∀ M26, M26 = jup M11 8 0 3 (M11 8 0 3 + zI 1) → ok_X8_expect 6 M26 (fun r27 _ M28 => jnb M28 = jnb M26 ∧ (r27 = 0 → Q (-1) 0 M28) ∧ (¬ (r27 = 0) → Q val 0 M28)) := fun M11 x qy T11 F11 ex hd hx val hv M26 hM => by
    subst hM hv
    rw [T11.2.2.2.1, z_add, show p + 4 + 1 = p + 5 by omega]
    have f26 : fq cP M (jup M11 8 0 3 (zI (p + 5))) := fq_up F11 ⟨rfl, rfl, rfl⟩
    have T26 : CT (jup M11 8 0 3 (zI (p + 5))) len tx (p + 5) := CT_P hT f26 (by omega) (jup_self _ _ _ _ _)
    refine x1_ok (g := 93) (by decide) rfl (by decide +kernel) (by decide) T26 (fun c5 M28 f28 T28 => ⟨fq_nbP f28, fun w => absurd w (by decide), fun _ => ?_⟩) (fun c5 M28 f28 g28 => ⟨fq_nbE f28, fun _ => ?_, fun w => absurd rfl w⟩)
    · rw [show p + 5 + 1 = p + 6 by omega] at T28
      refine hg (p + 6) (z - 97) _ ⟨by omega, by omega, c1, c2, Or.inr ?_⟩ M28 (fq_tr f26 f28) T28
      rcases qy with qy | qy
      · exact Or.inl ⟨by omega, by rw [← hx.1]; exact hd, c5, by rw [if_pos qy, hx.1], rfl⟩
      · exact Or.inr ⟨by omega, by rw [← hx.1]; exact hd, c5, by rw [if_neg (by omega), hx.1], rfl⟩
    · refine hb (p + 5) (Or.inr ⟨ra, Or.inr (Or.inr ⟨c1, c2, Or.inr (Or.inr ⟨by omega, by rw [← hx.1]; exact hd, c5, rfl⟩)⟩)⟩) _ (fq_tr (fq_mono f26 (fun _ _ _ => cP_E)) f28) g28
  rw [z_43, z_45, z_eqI (a := y) (b := 43) (by omega), z_eqI (a := y) (b := 45) (by omega), e4]
  refine ⟨fun qy => fun M11 hM => ?_, fun q43 => ⟨fun qy => fun M11 hM => ?_, fun q45 => ?_⟩⟩
  · obtain ⟨T11, F11⟩ := sg (Or.inl qy) M11 hM
    obtain ⟨x, ex, hx⟩ := jpk_e T11
    have hl2 := T11.2.1
    rw [ex, dig_e (by omega)]
    refine ⟨T11.2.2.2.2.2, fun hd => ⟨fun _ => ⟨T11.2.2.2.2.2, ?_⟩, fun w => absurd qy w⟩, fun hd => nd M11 (Or.inl qy) T11 F11 (fun w => hd (by unfold isD at w ⊢; omega))⟩
    refine dg M11 x (Or.inl qy) T11 F11 ex hd (by unfold isD at hd; omega) _ ?_
    rw [if_pos qy]
    simp only [z_48, z_49, z_9, z_mul, z_add, z_sub, z_neg]
    exact zc (by omega)
  · obtain ⟨T11, F11⟩ := sg (Or.inr qy) M11 hM
    obtain ⟨x, ex, hx⟩ := jpk_e T11
    have hl2 := T11.2.1
    rw [ex, dig_e (by omega)]
    refine ⟨T11.2.2.2.2.2, fun hd => ⟨fun w => absurd w q43, fun _ => ⟨T11.2.2.2.2.2, ?_⟩⟩, fun hd => nd M11 (Or.inr qy) T11 F11 (fun w => hd (by unfold isD at w ⊢; omega))⟩
    refine dg M11 x (Or.inr qy) T11 F11 ex hd (by unfold isD at hd; omega) _ ?_
    rw [if_neg q43]
    simp only [z_48, z_49, z_9, z_mul, z_add, z_sub, z_neg]
    exact zc (by omega)
  · refine x1_ok (g := 93) (by decide) rfl (by decide +kernel) (by decide) T7 (fun c5 M28 f28 T28 => ⟨fq_nbP f28, fun w => absurd w (by decide), fun _ => ?_⟩) (fun c5 M28 f28 g28 => ⟨fq_nbE f28, fun _ => ?_, fun w => absurd rfl w⟩)
    · rw [show p + 3 + 1 = p + 4 by omega] at T28
      have a := hg (p + 4) (z - 97) 0 ⟨by omega, by omega, c1, c2, Or.inl ⟨c5, rfl, rfl⟩⟩ M28 (fq_tr F7 f28) T28
      have ev : zI (z - 97) * 49 + 0 - -9 = zI (49 * (z - 97) + 0 + 9) := by
        simp only [z_0, z_49, z_9, z_mul, z_add, z_sub, z_neg]
        exact zc (by omega)
      rw [ev]
      exact a
    · exact hb (p + 3) (Or.inr ⟨ra, Or.inr (Or.inr ⟨c1, c2, Or.inl ⟨by omega, by omega, c5, rfl⟩⟩)⟩) _ (fq_tr (fq_mono F7 (fun _ _ _ => cP_E)) f28) g28
set_option maxHeartbeats 4000000 in
set_option maxRecDepth 100000 in
theorem pb_ok {len : Int} {tx : Int → Int} {p low : Int} {M : jM} {Q : Int32 → Nat → jM → Prop} (hT : CT M len tx p) (hlow : 0 ≤ low ∧ low ≤ 100)
    (hg : isD (chr len tx p) → low ≤ nX (chr len tx) p → nX (chr len tx) p ≤ 30 → ∀ M1, fq cP M M1 → CT M1 len tx (nP (chr len tx) p) → Q (zI (nX (chr len tx) p)) 0 M1) (hb : ¬ (isD (chr len tx p) ∧ low ≤ nX (chr len tx) p ∧ nX (chr len tx) p ≤ 30) → ∀ M1, fq cE M M1 → M1 8 0 5 = zI p → Q (-1) 0 M1) : ok_X8_parseBound (zI low) M Q := by
  refine en_X8_parseBound (bl_X8_parseBound_0 _ _ _ ?_)
  refine pn_ok hT (fun hd M1 f1 T1 => ⟨fq_nbP f1, ?_⟩) (fun hd M1 f1 g1 => ⟨fq_nbE f1, fun _ => hb (fun w => hd w.1) M1 f1 g1, fun w => absurd rfl w⟩)
  have hr := nX_r hd
  have e3 := hT.2.2.2.1
  have ne : ¬ (zI (nX (chr len tx) p) = -1) := fun w => by rw [z_1, z_neg, z_eqF (by omega)] at w; exact w
  have bad : ¬ (low ≤ nX (chr len tx) p ∧ nX (chr len tx) p ≤ 30) → ∀ M3, M3 = jup M1 8 0 5 (M 8 0 3) → Q (-1) 0 M3 := fun q M3 hM => by
    subst hM
    exact hb (fun w => q w.2) _ (fq_up (fq_mono f1 (fun _ _ _ => cP_E)) ⟨rfl, rfl, Or.inr rfl⟩) (by rw [jup_self]; exact e3)
  refine ⟨fun w => absurd w ne, fun _ => ⟨fun w => bad (fun q => by rw [z_ltF (by omega)] at w; exact w), fun w1 => ⟨fun w2 => ?_, fun w => bad (fun q => w (by rw [z_30, z_leT (by omega)]; trivial))⟩⟩⟩
  rw [z_ltI (by omega)] at w1
  rw [z_30, z_leI (by omega)] at w2
  exact hg hd (by omega) w2 M1 f1 T1
