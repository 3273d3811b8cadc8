theorem en_X8_add {v1 : Int32} {M : jM} {Q : Int32 → Nat → jM → Prop} (h : at_X8_add_0 v1 M Q) : ok_X8_add v1 M Q := jr_enter (by decide) (fun g => rfl) (fun g => Nat.le_of_ble_eq_true rfl) h
set_option maxHeartbeats 4000000 in
set_option maxRecDepth 100000 in
theorem bl_X8_add_0 (v1 : Int32) (M : jM) (Q : Int32 → Nat → jM → Prop) 
  (h : (v1 = 0 → Q 0 0 M) ∧ (¬ (v1 = 0) → (120 ≤ (M 8 0 2) → Q 0 0 M) ∧ (¬ (120 ≤ (M 8 0 2)) → vp_in (M 8 0 2) 120 ∧ narrow .char (.int ((v1.toUInt32 % 65536).toInt32)) = .int ((v1.toUInt32 % 65536).toInt32) ∧ (∀ M1 : jM, M1 = jup M 41 0 (M 8 0 2).toNatClampNeg ((v1.toUInt32 % 65536).toInt32) → (∀ M2 : jM, M2 = jup M1 8 0 2 ((M1 8 0 2) + 1) → Q 0 0 M2))))) :
  at_X8_add_0 v1 M Q := by
  intro p l e s m args below meth c D cA base g C hr htb H locs G ls hl
  refine lv_iload_n C.x C.b dX8_add_0 rfl (lv_at hl 1 rfl) ?_
  refine lv_if_eq (tgt := 34) C.x C.b dX8_add_1 (by decide) (fun hc => ?_) (fun hc => ?_)
  · have h := h.1 hc
    exact jr_retV C hr G h (by decide) (by decide) dX8_add_34
  · have h := h.2 hc
    refine lv_aload_n C.x C.b dX8_add_4 rfl (lv_at hl 0 rfl) ?_
    refine jr_get C G jc8 2 (v := .int (M 8 0 2)) (show 0 < 1 by decide) (by decide) (by decide) rfl wd237 dX8_add_5 ?_
    refine lv_bipush (v := 120) C.x C.b dX8_add_8 (by decide) ?_
    refine lv_icmp_ge (tgt := 34) C.x C.b dX8_add_10 (by decide) (fun hc => ?_) (fun hc => ?_)
    · have h := h.1 hc
      exact jr_retV C hr G h (by decide) (by decide) dX8_add_34
    · have h := h.2 hc
      refine lv_aload_n C.x C.b dX8_add_13 rfl (lv_at hl 0 rfl) ?_
      refine jr_get C G jc8 0 (v := .ref (g 41 0)) (show 0 < 1 by decide) (by decide) (by decide) rfl wd234 dX8_add_14 ?_
      refine lv_aload_n C.x C.b dX8_add_17 rfl (lv_at hl 0 rfl) ?_
      refine jr_get C G jc8 2 (v := .int (M 8 0 2)) (show 0 < 1 by decide) (by decide) (by decide) rfl wd237 dX8_add_18 ?_
      refine lv_iload_n C.x C.b dX8_add_21 rfl (lv_at hl 1 rfl) ?_
      refine lv_i2c (v := (v1.toUInt32 % 65536).toInt32) C.x C.b dX8_add_22 rfl ?_
      obtain ⟨hs, h⟩ := h
      obtain ⟨hv, h⟩ := h
      refine jr_cast C G (show 0 < 1 by decide) (by decide) (by decide) (by decide) rfl rfl hs hv dX8_add_23 (fun H locs G => ?_)
      obtain ⟨M1, eM1⟩ : ∃ z : jM, z = jup M 41 0 (M 8 0 2).toNatClampNeg ((v1.toUInt32 % 65536).toInt32) := ⟨_, rfl⟩
      rw [← eM1] at G
      have h := h M1 eM1
      have nM1 : jnb M1 = jnb M := by rw [eM1]; exact jnb_up (by decide)
      refine lv_aload_n C.x C.b dX8_add_24 rfl (lv_at hl 0 rfl) ?_
      refine lv_dup C.x C.b dX8_add_25 rfl ?_
      refine jr_get C G jc8 2 (v := .int (M1 8 0 2)) (show 0 < 1 by decide) (by decide) (by decide) rfl wd237 dX8_add_26 ?_
      refine lv_iconst (v := 1) C.x C.b dX8_add_29 (by decide) ?_
      refine lv_iadd C.x C.b dX8_add_30 ?_
      refine jr_put C G jc8 2 (v := (M1 8 0 2) + 1) (show 0 < 1 by decide) (by decide) (by decide) rfl (by decide) wd237 rfl rfl rfl rfl dX8_add_31 (fun H locs G => ?_)
      obtain ⟨M2, eM2⟩ : ∃ z : jM, z = jup M1 8 0 2 ((M1 8 0 2) + 1) := ⟨_, rfl⟩
      rw [← eM2] at G
      have h := h M2 eM2
      have nM2 : jnb M2 = jnb M1 := by rw [eM2]; exact jnb_up (by decide)
      exact jr_retV C hr G h (by decide) (by decide) dX8_add_34

theorem en_X8_parseNumber  {M : jM} {Q : Int32 → Nat → jM → Prop} (h : at_X8_parseNumber_0  M Q) : ok_X8_parseNumber  M Q := jr_enter (by decide) (fun g => rfl) (fun g => Nat.le_of_ble_eq_true rfl) h
set_option maxHeartbeats 4000000 in
set_option maxRecDepth 100000 in
theorem bl_X8_parseNumber_0  (M : jM) (Q : Int32 → Nat → jM → Prop) 
  (h : (jch M) ∧ ((48 ≤ (jpk M) ∧ (jpk M) ≤ 57) → (jch M) ∧ (∀ M9 : jM, M9 = jup M 8 0 3 ((M 8 0 3) + 1) → ((jpk M) - 48 = 0 → Q ((jpk M) - 48) 0 M9) ∧ (¬ ((jpk M) - 48 = 0) → (jch M9) ∧ ((48 ≤ (jpk M9) ∧ (jpk M9) ≤ 57) → (jch M9) ∧ (∀ M18 : jM, M18 = jup M9 8 0 3 ((M9 8 0 3) + 1) → Q (((10 * ((jpk M) - 48)) + (jpk M9)) - 48) 0 M18)) ∧ (¬ (48 ≤ (jpk M9) ∧ (jpk M9) ≤ 57) → Q ((jpk M) - 48) 0 M9)))) ∧ (¬ (48 ≤ (jpk M) ∧ (jpk M) ≤ 57) → (∀ M19 : jM, M19 = jup M 8 0 5 (M 8 0 3) → Q (-1) 0 M19))) :
  at_X8_parseNumber_0  M Q := by
  intro p l e s m args below meth c D cA base g C hr htb H locs G ls hl
  refine lv_aload_n C.x C.b dX8_parseNumber_0 rfl (lv_at hl 0 rfl) ?_
  obtain ⟨hp3, h⟩ := h
  refine jr_V (d' := 1) C G jc8 jm_X8_peek wd631 (sp_X8_peek hp3 ⟨rfl, rfl⟩ : ok_X8_peek  M (fun r _ M' => (jpk M) = r ∧ M = M')) rfl (show 0 < 1 by decide) (by decide) rfl rfl (by omega) (by decide) (by decide) ⟨rfl, rfl⟩ hl.1 (Nat.le_of_ble_eq_true rfl) dX8_parseNumber_1 (fun r1 r1n M2 H locs hq G => ?_)
  obtain ⟨eq1, eq2⟩ := hq
  subst eq1
  subst eq2
  refine jr_S (d' := 1) C G jm_X8_isDigit wd681 (sp_X8_isDigit ⟨rfl, rfl⟩ : ok_X8_isDigit (jpk M) M (fun r _ M' => jb (48 ≤ (jpk M) ∧ (jpk M) ≤ 57) = r ∧ M = M')) rfl rfl rfl (by omega) (by decide) (by decide) ⟨rfl, rfl⟩ hl.1 (Nat.le_of_ble_eq_true rfl) dX8_parseNumber_4 (fun r4 r4n M5 H locs hq G => ?_)
  obtain ⟨eq1, eq2⟩ := hq
  subst eq1
  subst eq2
  refine lv_if_ne (tgt := 20) C.x C.b dX8_parseNumber_7 (by decide) (fun hc => ?_) (fun hc => ?_)
  · have h := h.1 (jb_1 hc)
    refine lv_aload_n C.x C.b dX8_parseNumber_20 rfl (lv_at hl 0 rfl) ?_
    obtain ⟨hp8, h⟩ := h
    refine jr_V (d' := 1) C G jc8 jm_X8_peek wd631 (sp_X8_peek hp8 ⟨rfl, rfl⟩ : ok_X8_peek  M (fun r _ M' => (jpk M) = r ∧ M = M')) rfl (show 0 < 1 by decide) (by decide) rfl rfl (by omega) (by decide) (by decide) ⟨rfl, rfl⟩ hl.1 (Nat.le_of_ble_eq_true rfl) dX8_parseNumber_21 (fun r6 r6n M7 H locs hq G => ?_)
    obtain ⟨eq1, eq2⟩ := hq
    subst eq1
    subst eq2
    refine lv_bipush (v := 48) C.x C.b dX8_parseNumber_24 (by decide) ?_
    refine lv_isub C.x C.b dX8_parseNumber_26 ?_
    refine lv_istore_n (lv' := [(1, .int ((jpk M) - 48)), (0, .ref (g 8 0))]) C.x C.b dX8_parseNumber_27 rfl hl (by decide) rfl (fun ls hl => ?_)
    refine lv_aload_n C.x C.b dX8_parseNumber_28 rfl (lv_at hl 1 rfl) ?_
    refine lv_dup C.x C.b dX8_parseNumber_29 rfl ?_
    refine jr_get C G jc8 3 (v := .int (M 8 0 3)) (show 0 < 1 by decide) (by decide) (by decide) rfl wd239 dX8_parseNumber_30 ?_
    refine lv_iconst (v := 1) C.x C.b dX8_parseNumber_33 (by decide) ?_
    refine lv_iadd C.x C.b dX8_parseNumber_34 ?_
    refine jr_put C G jc8 3 (v := (M 8 0 3) + 1) (show 0 < 1 by decide) (by decide) (by decide) rfl (by decide) wd239 rfl rfl rfl rfl dX8_parseNumber_35 (fun H locs G => ?_)
    obtain ⟨M9, eM9⟩ : ∃ z : jM, z = jup M 8 0 3 ((M 8 0 3) + 1) := ⟨_, rfl⟩
    rw [← eM9] at G
    have h := h M9 eM9
    have nM9 : jnb M9 = jnb M := by rw [eM9]; exact jnb_up (by decide)
    refine lv_iload_n C.x C.b dX8_parseNumber_38 rfl (lv_at hl 0 rfl) ?_
    refine lv_if_eq (tgt := 75) C.x C.b dX8_parseNumber_39 (by decide) (fun hc => ?_) (fun hc => ?_)
    · have h := h.1 hc
      refine lv_iload_n C.x C.b dX8_parseNumber_75 rfl (lv_at hl 0 rfl) ?_
      exact jr_retI C hr G h (by decide) (by decide) dX8_parseNumber_76
    · have h := h.2 hc
      refine lv_aload_n C.x C.b dX8_parseNumber_42 rfl (lv_at hl 1 rfl) ?_
      obtain ⟨hp12, h⟩ := h
      refine jr_V (d' := 1) C G jc8 jm_X8_peek wd631 (sp_X8_peek hp12 ⟨rfl, rfl⟩ : ok_X8_peek  M9 (fun r _ M' => (jpk M9) = r ∧ M9 = M')) rfl (show 0 < 1 by decide) (by decide) rfl rfl (by omega) (by decide) (by decide) ⟨rfl, rfl⟩ hl.1 (Nat.le_of_ble_eq_true rfl) dX8_parseNumber_43 (fun r10 r10n M11 H locs hq G => ?_)
      obtain ⟨eq1, eq2⟩ := hq
      subst eq1
      subst eq2
      refine jr_S (d' := 1) C G jm_X8_isDigit wd681 (sp_X8_isDigit ⟨rfl, rfl⟩ : ok_X8_isDigit (jpk M9) M9 (fun r _ M' => jb (48 ≤ (jpk M9) ∧ (jpk M9) ≤ 57) = r ∧ M9 = M')) rfl rfl rfl (by omega) (by decide) (by decide) ⟨rfl, rfl⟩ hl.1 (Nat.le_of_ble_eq_true rfl) dX8_parseNumber_46 (fun r13 r13n M14 H locs hq G => ?_)
      obtain ⟨eq1, eq2⟩ := hq
      subst eq1
      subst eq2
      refine lv_if_eq (tgt := 75) C.x C.b dX8_parseNumber_49 (by decide) (fun hc => ?_) (fun hc => ?_)
      · have h := h.2 (jb_0 hc)
        refine lv_iload_n C.x C.b dX8_parseNumber_75 rfl (lv_at hl 0 rfl) ?_
        exact jr_retI C hr G h (by decide) (by decide) dX8_parseNumber_76
      · have h := h.1 (jb_1 hc)
        refine lv_bipush (v := 10) C.x C.b dX8_parseNumber_52 (by decide) ?_
        refine lv_iload_n C.x C.b dX8_parseNumber_54 rfl (lv_at hl 0 rfl) ?_
        refine lv_imul C.x C.b dX8_parseNumber_55 ?_
        refine lv_aload_n C.x C.b dX8_parseNumber_56 rfl (lv_at hl 1 rfl) ?_
        obtain ⟨hp17, h⟩ := h
        refine jr_V (d' := 1) C G jc8 jm_X8_peek wd631 (sp_X8_peek hp17 ⟨rfl, rfl⟩ : ok_X8_peek  M9 (fun r _ M' => (jpk M9) = r ∧ M9 = M')) rfl (show 0 < 1 by decide) (by decide) rfl rfl (by omega) (by decide) (by decide) ⟨rfl, rfl⟩ hl.1 (Nat.le_of_ble_eq_true rfl) dX8_parseNumber_57 (fun r15 r15n M16 H locs hq G => ?_)
        obtain ⟨eq1, eq2⟩ := hq
        subst eq1
        subst eq2
        refine lv_iadd C.x C.b dX8_parseNumber_60 ?_
        refine lv_bipush (v := 48) C.x C.b dX8_parseNumber_61 (by decide) ?_
        refine lv_isub C.x C.b dX8_parseNumber_63 ?_
        refine lv_istore_n (lv' := [(1, .int (((10 * ((jpk M) - 48)) + (jpk M9)) - 48)), (0, .ref (g 8 0))]) C.x C.b dX8_parseNumber_64 rfl hl (by decide) rfl (fun ls hl => ?_)
        refine lv_aload_n C.x C.b dX8_parseNumber_65 rfl (lv_at hl 1 rfl) ?_
        refine lv_dup C.x C.b dX8_parseNumber_66 rfl ?_
        refine jr_get C G jc8 3 (v := .int (M9 8 0 3)) (show 0 < 1 by decide) (by decide) (by decide) rfl wd239 dX8_parseNumber_67 ?_
        refine lv_iconst (v := 1) C.x C.b dX8_parseNumber_70 (by decide) ?_
        refine lv_iadd C.x C.b dX8_parseNumber_71 ?_
        refine jr_put C G jc8 3 (v := (M9 8 0 3) + 1) (show 0 < 1 by decide) (by decide) (by decide) rfl (by decide) wd239 rfl rfl rfl rfl dX8_parseNumber_72 (fun H locs G => ?_)
        obtain ⟨M18, eM18⟩ : ∃ z : jM, z = jup M9 8 0 3 ((M9 8 0 3) + 1) := ⟨_, rfl⟩
        rw [← eM18] at G
        have h := h M18 eM18
        have nM18 : jnb M18 = jnb M9 := by rw [eM18]; exact jnb_up (by decide)
        refine lv_iload_n C.x C.b dX8_parseNumber_75 rfl (lv_at hl 0 rfl) ?_
        exact jr_retI C hr G h (by decide) (by decide) dX8_parseNumber_76
  · have h := h.2 (jb_0 hc)
    refine lv_aload_n C.x C.b dX8_parseNumber_10 rfl (lv_at hl 0 rfl) ?_
    refine lv_aload_n C.x C.b dX8_parseNumber_11 rfl (lv_at hl 0 rfl) ?_
    refine jr_get C G jc8 3 (v := .int (M 8 0 3)) (show 0 < 1 by decide) (by decide) (by decide) rfl wd239 dX8_parseNumber_12 ?_
    refine jr_put C G jc8 5 (v := M 8 0 3) (show 0 < 1 by decide) (by decide) (by decide) rfl (by decide) wd242 rfl rfl rfl rfl dX8_parseNumber_15 (fun H locs G => ?_)
    obtain ⟨M19, eM19⟩ : ∃ z : jM, z = jup M 8 0 5 (M 8 0 3) := ⟨_, rfl⟩
    rw [← eM19] at G
    have h := h M19 eM19
    have nM19 : jnb M19 = jnb M := by rw [eM19]; exact jnb_up (by decide)
    refine lv_iconst (v := (-1)) C.x C.b dX8_parseNumber_18 (by decide) ?_
    exact jr_retI C hr G h (by decide) (by decide) dX8_parseNumber_19

theorem en_X8_parseBound {v1 : Int32} {M : jM} {Q : Int32 → Nat → jM → Prop} (h : at_X8_parseBound_0 v1 M Q) : ok_X8_parseBound v1 M Q := jr_enter (by decide) (fun g => rfl) (fun g => Nat.le_of_ble_eq_true rfl) h
set_option maxHeartbeats 4000000 in
set_option maxRecDepth 100000 in
theorem bl_X8_parseBound_0 (v1 : Int32) (M : jM) (Q : Int32 → Nat → jM → Prop) 
  (h : ok_X8_parseNumber  M (fun r1 _ M2 => jnb M2 = jnb M ∧ (r1 = (-1) → Q r1 0 M2) ∧ (¬ (r1 = (-1)) → (r1 < v1 → (∀ M3 : jM, M3 = jup M2 8 0 5 (M 8 0 3) → Q (-1) 0 M3)) ∧ (¬ (r1 < v1) → (r1 ≤ 30 → Q r1 0 M2) ∧ (¬ (r1 ≤ 30) → (∀ M4 : jM, M4 = jup M2 8 0 5 (M 8 0 3) → Q (-1) 0 M4)))))) :
  at_X8_parseBound_0 v1 M Q := by
  intro p l e s m args below meth c D cA base g C hr htb H locs G ls hl
  refine lv_aload_n C.x C.b dX8_parseBound_0 rfl (lv_at hl 0 rfl) ?_
  refine jr_get C G jc8 3 (v := .int (M 8 0 3)) (show 0 < 1 by decide) (by decide) (by decide) rfl wd239 dX8_parseBound_1 ?_
  refine lv_istore_n (lv' := [(2, .int (M 8 0 3)), (0, .ref (g 8 0)), (1, .int v1)]) C.x C.b dX8_parseBound_4 rfl hl (by decide) rfl (fun ls hl => ?_)
  refine lv_aload_n C.x C.b dX8_parseBound_5 rfl (lv_at hl 1 rfl) ?_
  refine jr_V (d' := 2) C G jc8 jm_X8_parseNumber wd677 h rfl (show 0 < 1 by decide) (by decide) rfl rfl (by omega) (by decide) (by decide) ⟨rfl, rfl⟩ hl.1 (Nat.le_of_ble_eq_true rfl) dX8_parseBound_6 (fun r1 r1n M2 H locs h G => ?_)
  obtain ⟨nM2, h⟩ := h
  refine lv_istore_n (lv' := [(3, .int r1), (2, .int (M 8 0 3)), (0, .ref (g 8 0)), (1, .int v1)]) C.x C.b dX8_parseBound_9 rfl hl (by decide) rfl (fun ls hl => ?_)
  refine lv_iload_n C.x C.b dX8_parseBound_10 rfl (lv_at hl 0 rfl) ?_
  refine lv_iconst (v := (-1)) C.x C.b dX8_parseBound_11 (by decide) ?_
  refine lv_icmp_eq (tgt := 33) C.x C.b dX8_parseBound_12 (by decide) (fun hc => ?_) (fun hc => ?_)
  · have h := h.1 hc
    refine lv_iload_n C.x C.b dX8_parseBound_33 rfl (lv_at hl 0 rfl) ?_
    exact jr_retI C hr G h (by decide) (by decide) dX8_parseBound_34
  · have h := h.2 hc
    refine lv_iload_n C.x C.b dX8_parseBound_15 rfl (lv_at hl 0 rfl) ?_
    refine lv_iload_n C.x C.b dX8_parseBound_16 rfl (lv_at hl 3 rfl) ?_
    refine lv_icmp_lt (tgt := 26) C.x C.b dX8_parseBound_17 (by decide) (fun hc => ?_) (fun hc => ?_)
    · have h := h.1 hc
      refine lv_aload_n C.x C.b dX8_parseBound_26 rfl (lv_at hl 2 rfl) ?_
      refine lv_iload_n C.x C.b dX8_parseBound_27 rfl (lv_at hl 1 rfl) ?_
      refine jr_put C G jc8 5 (v := M 8 0 3) (show 0 < 1 by decide) (by decide) (by decide) rfl (by decide) wd242 rfl rfl rfl rfl dX8_parseBound_28 (fun H locs G => ?_)
      obtain ⟨M3, eM3⟩ : ∃ z : jM, z = jup M2 8 0 5 (M 8 0 3) := ⟨_, rfl⟩
      rw [← eM3] at G
      have h := h M3 eM3
      have nM3 : jnb M3 = jnb M2 := by rw [eM3]; exact jnb_up (by decide)
      refine lv_iconst (v := (-1)) C.x C.b dX8_parseBound_31 (by decide) ?_
      exact jr_retI C hr G h (by decide) (by decide) dX8_parseBound_32
    · have h := h.2 hc
      refine lv_iload_n C.x C.b dX8_parseBound_20 rfl (lv_at hl 0 rfl) ?_
      refine lv_bipush (v := 30) C.x C.b dX8_parseBound_21 (by decide) ?_
      refine lv_icmp_le (tgt := 33) C.x C.b dX8_parseBound_23 (by decide) (fun hc => ?_) (fun hc => ?_)
      · have h := h.1 hc
        refine lv_iload_n C.x C.b dX8_parseBound_33 rfl (lv_at hl 0 rfl) ?_
        exact jr_retI C hr G h (by decide) (by decide) dX8_parseBound_34
      · have h := h.2 hc
        refine lv_aload_n C.x C.b dX8_parseBound_26 rfl (lv_at hl 2 rfl) ?_
        refine lv_iload_n C.x C.b dX8_parseBound_27 rfl (lv_at hl 1 rfl) ?_
        refine jr_put C G jc8 5 (v := M 8 0 3) (show 0 < 1 by decide) (by decide) (by decide) rfl (by decide) wd242 rfl rfl rfl rfl dX8_parseBound_28 (fun H locs G => ?_)
        obtain ⟨M4, eM4⟩ : ∃ z : jM, z = jup M2 8 0 5 (M 8 0 3) := ⟨_, rfl⟩
        rw [← eM4] at G
        have h := h M4 eM4
        have nM4 : jnb M4 = jnb M2 := by rw [eM4]; exact jnb_up (by decide)
        refine lv_iconst (v := (-1)) C.x C.b dX8_parseBound_31 (by decide) ?_
        exact jr_retI C hr G h (by decide) (by decide) dX8_parseBound_32

theorem en_X8_join {n0 : Nat} {v1 : Int32} {v2 : Int32} {v3 : Int32} {M : jM} {Q : Int32 → Nat → jM → Prop} (h : at_X8_join_0 n0 v1 v2 v3 M Q) : ok_X8_join n0 v1 v2 v3 M Q := jr_enter (by decide) (fun g => rfl) (fun g => Nat.le_of_ble_eq_true rfl) h
set_option maxHeartbeats 4000000 in
set_option maxRecDepth 100000 in
theorem bl_X8_join_0 (n0 : Nat) (v1 : Int32) (v2 : Int32) (v3 : Int32) (M : jM) (Q : Int32 → Nat → jM → Prop) (ha0 : n0 < jnb M)
  (h : (v3 = (-1) → Q (-1) 0 M) ∧ (¬ (v3 = (-1)) → ok_X0_addOperator n0 v1 M (fun _ _ M2 => jnb M2 = jnb M ∧ Q ((jmax v2 v3) + 1) 0 M2))) :
  at_X8_join_0 n0 v1 v2 v3 M Q := by
  intro p l e s m args below meth c D cA base g C hr htb H locs G ls hl
  refine lv_iload_n C.x C.b dX8_join_0 rfl (lv_at hl 3 rfl) ?_
  refine lv_iconst (v := (-1)) C.x C.b dX8_join_1 (by decide) ?_
  refine lv_icmp_ne (tgt := 7) C.x C.b dX8_join_2 (by decide) (fun hc => ?_) (fun hc => ?_)
  · have h := h.2 hc
    refine lv_aload_n C.x C.b dX8_join_7 rfl (lv_at hl 0 rfl) ?_
    refine lv_iload_n C.x C.b dX8_join_8 rfl (lv_at hl 1 rfl) ?_
    refine jr_V (d' := 2) C G jc0 jm_X0_addOperator wd735 h rfl (show n0 < jnb M by omega) (by decide) rfl rfl (by omega) (by decide) (by decide) ⟨rfl, rfl⟩ hl.1 (Nat.le_of_ble_eq_true rfl) dX8_join_9 (fun r1 r1n M2 H locs h G => ?_)
    obtain ⟨nM2, h⟩ := h
    refine lv_iload_n C.x C.b dX8_join_12 rfl (lv_at hl 2 rfl) ?_
    refine lv_iload_n C.x C.b dX8_join_13 rfl (lv_at hl 3 rfl) ?_
    refine va_mmax C.x C.b (C.ml.trans hl.1.symm) C.ow (C.w _ wd739) (C.w _ wd740) (C.w _ wd94) (C.w _ wd741) (by decide) (Nat.le_of_ble_eq_true rfl) (by decide) (by decide) dX8_join_14 ?_
    rw [show (if v2 < v3 then v3 else v2 : Int32) = jmax v2 v3 from rfl]
    refine lv_iconst (v := 1) C.x C.b dX8_join_17 (by decide) ?_
    refine lv_iadd C.x C.b dX8_join_18 ?_
    exact jr_retI C hr G h (by decide) (by decide) dX8_join_19
  · have h := h.1 hc
    refine lv_iconst (v := (-1)) C.x C.b dX8_join_5 (by decide) ?_
    exact jr_retI C hr G h (by decide) (by decide) dX8_join_6

theorem en_X8_expect {n1 : Nat} {M : jM} {Q : Int32 → Nat → jM → Prop} (h : at_X8_expect_0 n1 M Q) : ok_X8_expect n1 M Q := jr_enter (by decide) (fun g => rfl) (fun g => Nat.le_of_ble_eq_true rfl) h
set_option maxHeartbeats 4000000 in
set_option maxRecDepth 100000 in
theorem bl_X8_expect_0 (n1 : Nat) (M : jM) (Q : Int32 → Nat → jM → Prop) (ha0 : n1 < 32)
  (h : at_X8_expect_2 n1 0 M Q) :
  at_X8_expect_0 n1 M Q := by
  intro p l e s m args below meth c D cA base g C hr htb H locs G ls hl
  refine lv_iconst (v := 0) C.x C.b dX8_expect_0 (by decide) ?_
  refine lv_istore_n (lv' := [(2, .int 0), (0, .ref (g 8 0)), (1, .ref (g 70 n1))]) C.x C.b dX8_expect_1 rfl hl (by decide) rfl (fun ls hl => ?_)
  exact h p l e s m args below meth c D cA base g C hr htb _ _ G ls (lv_sub hl [1, 2, 0] rfl)
set_option maxHeartbeats 4000000 in
set_option maxRecDepth 100000 in
theorem bl_X8_expect_2 (n1 : Nat) (v2 : Int32) (M : jM) (Q : Int32 → Nat → jM → Prop) (ha0 : n1 < 32)
  (h : ((nI (jSlen.getD n1 0)) ≤ v2 → Q 1 0 M) ∧ (¬ ((nI (jSlen.getD n1 0)) ≤ v2) → (jch M) ∧ (vp_in v2 (jSlen.getD n1 0)) ∧ ((jpk M) = (jsch n1 v2) → (∀ M4 : jM, M4 = jup M 8 0 3 ((M 8 0 3) + 1) → at_X8_expect_2 n1 (v2 + 1) M4 Q)) ∧ (¬ ((jpk M) = (jsch n1 v2)) → (∀ M5 : jM, M5 = jup M 8 0 5 (M 8 0 3) → Q 0 0 M5)))) :
  at_X8_expect_2 n1 v2 M Q := by
  intro p l e s m args below meth c D cA base g C hr htb H locs G ls hl
  refine lv_iload_n C.x C.b dX8_expect_2 rfl (lv_at hl 2 rfl) ?_
  refine lv_aload_n C.x C.b dX8_expect_3 rfl (lv_at hl 1 rfl) ?_
  refine jr_VT (d' := 4) C G (show n1 < 32 by omega) jm_J0_length_8abf5 wd621 (sp_slen (show n1 < 32 by omega) ⟨rfl, rfl⟩ : jOk yJ0_length_8abf5 cJ0_length_8abf5 1 (some .int) 1 1 0 0 (fun g => [.ref (g 70 n1)]) M (fun r _ M' => nI (jSlen.getD n1 0) = r ∧ M = M') jF) rfl rfl rfl (by omega) (by decide) (by decide) ⟨rfl, rfl⟩ hl.1 (Nat.le_of_ble_eq_true rfl) dX8_expect_4 (fun r rn M1 H locs hq G => ?_)
  obtain ⟨eq1, eq2⟩ := hq
  subst eq1
  subst eq2
  refine lv_icmp_ge (tgt := 48) C.x C.b dX8_expect_7 (by decide) (fun hc => ?_) (fun hc => ?_)
  · have h := h.1 hc
    refine lv_iconst (v := 1) C.x C.b dX8_expect_48 (by decide) ?_
    exact jr_retZ C hr G rfl h (by decide) (by decide) dX8_expect_49
  · have h := h.2 hc
    refine lv_aload_n C.x C.b dX8_expect_10 rfl (lv_at hl 0 rfl) ?_
    obtain ⟨hp3, h⟩ := h
    refine jr_V (d' := 4) C G jc8 jm_X8_peek wd631 (sp_X8_peek hp3 ⟨rfl, rfl⟩ : ok_X8_peek  M (fun r _ M' => (jpk M) = r ∧ M = M')) rfl (show 0 < 1 by decide) (by decide) rfl rfl (by omega) (by decide) (by decide) ⟨rfl, rfl⟩ hl.1 (Nat.le_of_ble_eq_true rfl) dX8_expect_11 (fun r1 r1n M2 H locs hq G => ?_)
    obtain ⟨eq1, eq2⟩ := hq
    subst eq1
    subst eq2
    refine lv_aload_n C.x C.b dX8_expect_14 rfl (lv_at hl 1 rfl) ?_
    refine lv_iload_n C.x C.b dX8_expect_15 rfl (lv_at hl 2 rfl) ?_
    obtain ⟨hs, h⟩ := h
    refine jr_VT (d' := 4) C G (show n1 < 32 by omega) jm_J0_charAt_5068e wd635 (sp_schar (show n1 < 32 by omega) hs (jSlen_lt _) ⟨rfl, rfl⟩ : jOk yJ0_charAt_5068e cJ0_charAt_5068e 2 (some .char) 1 3 0 0 (fun g => [.ref (g 70 n1), .int v2]) M (fun r _ M' => jsch n1 v2 = r ∧ M = M') jF) rfl rfl rfl (by omega) (by decide) (by decide) ⟨rfl, rfl⟩ hl.1 (Nat.le_of_ble_eq_true rfl) dX8_expect_16 (fun r rn M1 H locs hq G => ?_)
    obtain ⟨eq1, eq2⟩ := hq
    subst eq1
    subst eq2
    refine lv_icmp_eq (tgt := 32) C.x C.b dX8_expect_19 (by decide) (fun hc => ?_) (fun hc => ?_)
    · have h := h.1 hc
      refine lv_aload_n C.x C.b dX8_expect_32 rfl (lv_at hl 0 rfl) ?_
      refine lv_dup C.x C.b dX8_expect_33 rfl ?_
      refine jr_get C G jc8 3 (v := .int (M 8 0 3)) (show 0 < 1 by decide) (by decide) (by decide) rfl wd239 dX8_expect_34 ?_
      refine lv_iconst (v := 1) C.x C.b dX8_expect_37 (by decide) ?_
      refine lv_iadd C.x C.b dX8_expect_38 ?_
      refine jr_put C G jc8 3 (v := (M 8 0 3) + 1) (show 0 < 1 by decide) (by decide) (by decide) rfl (by decide) wd239 rfl rfl rfl rfl dX8_expect_39 (fun H locs G => ?_)
      obtain ⟨M4, eM4⟩ : ∃ z : jM, z = jup M 8 0 3 ((M 8 0 3) + 1) := ⟨_, rfl⟩
      rw [← eM4] at G
      have h := h M4 eM4
      have nM4 : jnb M4 = jnb M := by rw [eM4]; exact jnb_up (by decide)
      refine lv_iinc (v := v2 + 1) (lv' := [(2, .int (v2 + 1)), (0, .ref (g 8 0)), (1, .ref (g 70 n1))]) C.x C.b dX8_expect_42 hl (k := 2) rfl rfl (by decide) rfl (fun ls hl => ?_)
      refine lv_goto (tgt := 2) C.x C.b dX8_expect_45 (by decide) ?_
      exact h p l e s m args below meth c D cA base g C hr htb _ _ G ls (lv_sub hl [1, 2, 0] rfl)
    · have h := h.2 hc
      refine lv_aload_n C.x C.b dX8_expect_22 rfl (lv_at hl 0 rfl) ?_
      refine lv_aload_n C.x C.b dX8_expect_23 rfl (lv_at hl 0 rfl) ?_
      refine jr_get C G jc8 3 (v := .int (M 8 0 3)) (show 0 < 1 by decide) (by decide) (by decide) rfl wd239 dX8_expect_24 ?_
      refine jr_put C G jc8 5 (v := M 8 0 3) (show 0 < 1 by decide) (by decide) (by decide) rfl (by decide) wd242 rfl rfl rfl rfl dX8_expect_27 (fun H locs G => ?_)
      obtain ⟨M5, eM5⟩ : ∃ z : jM, z = jup M 8 0 5 (M 8 0 3) := ⟨_, rfl⟩
      rw [← eM5] at G
      have h := h M5 eM5
      have nM5 : jnb M5 = jnb M := by rw [eM5]; exact jnb_up (by decide)
      refine lv_iconst (v := 0) C.x C.b dX8_expect_30 (by decide) ?_
      exact jr_retZ C hr G rfl h (by decide) (by decide) dX8_expect_31

