theorem en_X8_parseReference  {M : jM} {Q : Int32 → Nat → jM → Prop} (h : at_X8_parseReference_0  M Q) : ok_X8_parseReference  M Q := jr_enter (by decide) (fun g => rfl) (fun g => Nat.le_of_ble_eq_true rfl) h
set_option maxHeartbeats 4000000 in
set_option maxRecDepth 100000 in
theorem bl_X8_parseReference_0  (M : jM) (Q : Int32 → Nat → jM → Prop) 
  (h : (jch M) ∧ (((jpk M) - 97) < 0 → (∀ M4 : jM, M4 = jup M 8 0 5 (M 8 0 3) → Q (-1) 0 M4)) ∧ (¬ (((jpk M) - 97) < 0) → (((jpk M) - 97) < 5 → (∀ M5 : jM, M5 = jup M 8 0 3 ((M 8 0 3) + 1) → ok_X8_expect 5 M5 (fun r6 _ M7 => jnb M7 = jnb M5 ∧ (r6 = 0 → Q (-1) 0 M7) ∧ (¬ (r6 = 0) → (jch M7) ∧ ((jpk M7) = 43 → (∀ M11 : jM, M11 = jup M7 8 0 3 ((M7 8 0 3) + 1) → (jch M11) ∧ ((48 ≤ (jpk M11) ∧ (jpk M11) ≤ 57) → ((jpk M7) = 43 → (jch M11) ∧ (∀ M26 : jM, M26 = jup M11 8 0 3 ((M11 8 0 3) + 1) → ok_X8_expect 6 M26 (fun r27 _ M28 => jnb M28 = jnb M26 ∧ (r27 = 0 → Q (-1) 0 M28) ∧ (¬ (r27 = 0) → Q (((((jpk M) - 97) * 49) + ((jpk M11) - 48)) - (-9)) 0 M28)))) ∧ (¬ ((jpk M7) = 43) → (jch M11) ∧ (∀ M20 : jM, M20 = jup M11 8 0 3 ((M11 8 0 3) + 1) → ok_X8_expect 6 M20 (fun r21 _ M22 => jnb M22 = jnb M20 ∧ (r21 = 0 → Q (-1) 0 M22) ∧ (¬ (r21 = 0) → Q (((((jpk M) - 97) * 49) + (48 - (jpk M11))) - (-9)) 0 M22))))) ∧ (¬ (48 ≤ (jpk M11) ∧ (jpk M11) ≤ 57) → (∀ M29 : jM, M29 = jup M11 8 0 5 (M11 8 0 3) → Q (-1) 0 M29)))) ∧ (¬ ((jpk M7) = 43) → ((jpk M7) = 45 → (∀ M32 : jM, M32 = jup M7 8 0 3 ((M7 8 0 3) + 1) → (jch M32) ∧ ((48 ≤ (jpk M32) ∧ (jpk M32) ≤ 57) → ((jpk M7) = 43 → (jch M32) ∧ (∀ M47 : jM, M47 = jup M32 8 0 3 ((M32 8 0 3) + 1) → ok_X8_expect 6 M47 (fun r48 _ M49 => jnb M49 = jnb M47 ∧ (r48 = 0 → Q (-1) 0 M49) ∧ (¬ (r48 = 0) → Q (((((jpk M) - 97) * 49) + ((jpk M32) - 48)) - (-9)) 0 M49)))) ∧ (¬ ((jpk M7) = 43) → (jch M32) ∧ (∀ M41 : jM, M41 = jup M32 8 0 3 ((M32 8 0 3) + 1) → ok_X8_expect 6 M41 (fun r42 _ M43 => jnb M43 = jnb M41 ∧ (r42 = 0 → Q (-1) 0 M43) ∧ (¬ (r42 = 0) → Q (((((jpk M) - 97) * 49) + (48 - (jpk M32))) - (-9)) 0 M43))))) ∧ (¬ (48 ≤ (jpk M32) ∧ (jpk M32) ≤ 57) → (∀ M50 : jM, M50 = jup M32 8 0 5 (M32 8 0 3) → Q (-1) 0 M50)))) ∧ (¬ ((jpk M7) = 45) → ok_X8_expect 6 M7 (fun r30 _ M31 => jnb M31 = jnb M7 ∧ (r30 = 0 → Q (-1) 0 M31) ∧ (¬ (r30 = 0) → Q (((((jpk M) - 97) * 49) + 0) - (-9)) 0 M31)))))))) ∧ (¬ (((jpk M) - 97) < 5) → (∀ M51 : jM, M51 = jup M 8 0 5 (M 8 0 3) → Q (-1) 0 M51)))) :
  at_X8_parseReference_0  M Q := by
  intro p l e s m args below meth c D cA base g C hr htb H locs G ls hl
  refine lv_aload_n C.x C.b dX8_parseReference_0 rfl (lv_at hl 0 rfl) ?_
  obtain ⟨hp3, h⟩ := h
  refine jr_V (d' := 5) C G jc8 jm_X8_peek wd631 (sp_X8_peek hp3 ⟨rfl, rfl⟩ : ok_X8_peek  M (fun r _ M' => (jpk M) = r ∧ M = M')) rfl (show 0 < 1 by decide) (by decide) rfl rfl (by omega) (by decide) (by decide) ⟨rfl, rfl⟩ hl.1 (Nat.le_of_ble_eq_true rfl) dX8_parseReference_1 (fun r1 r1n M2 H locs hq G => ?_)
  obtain ⟨eq1, eq2⟩ := hq
  subst eq1
  subst eq2
  refine lv_bipush (v := 97) C.x C.b dX8_parseReference_4 (by decide) ?_
  refine lv_isub C.x C.b dX8_parseReference_6 ?_
  refine lv_istore_n (lv' := [(1, .int ((jpk M) - 97)), (0, .ref (g 8 0))]) C.x C.b dX8_parseReference_7 rfl hl (by decide) rfl (fun ls hl => ?_)
  refine lv_iload_n C.x C.b dX8_parseReference_8 rfl (lv_at hl 0 rfl) ?_
  refine lv_if_lt (tgt := 17) C.x C.b dX8_parseReference_9 (by decide) (fun hc => ?_) (fun hc => ?_)
  · have h := h.1 hc
    refine lv_aload_n C.x C.b dX8_parseReference_17 rfl (lv_at hl 1 rfl) ?_
    refine lv_aload_n C.x C.b dX8_parseReference_18 rfl (lv_at hl 1 rfl) ?_
    refine jr_get C G jc8 3 (v := .int (M 8 0 3)) (show 0 < 1 by decide) (by decide) (by decide) rfl wd239 dX8_parseReference_19 ?_
    refine jr_put C G jc8 5 (v := M 8 0 3) (show 0 < 1 by decide) (by decide) (by decide) rfl (by decide) wd242 rfl rfl rfl rfl dX8_parseReference_22 (fun H locs G => ?_)
    obtain ⟨M4, eM4⟩ : ∃ z : jM, z = jup M 8 0 5 (M 8 0 3) := ⟨_, rfl⟩
    rw [← eM4] at G
    have h := h M4 eM4
    have nM4 : jnb M4 = jnb M := by rw [eM4]; exact jnb_up (by decide)
    refine lv_iconst (v := (-1)) C.x C.b dX8_parseReference_25 (by decide) ?_
    exact jr_retI C hr G h (by decide) (by decide) dX8_parseReference_26
  · have h := h.2 hc
    refine lv_iload_n C.x C.b dX8_parseReference_12 rfl (lv_at hl 0 rfl) ?_
    refine lv_iconst (v := 5) C.x C.b dX8_parseReference_13 (by decide) ?_
    refine lv_icmp_lt (tgt := 27) C.x C.b dX8_parseReference_14 (by decide) (fun hc => ?_) (fun hc => ?_)
    · have h := h.1 hc
      refine lv_aload_n C.x C.b dX8_parseReference_27 rfl (lv_at hl 1 rfl) ?_
      refine lv_dup C.x C.b dX8_parseReference_28 rfl ?_
      refine jr_get C G jc8 3 (v := .int (M 8 0 3)) (show 0 < 1 by decide) (by decide) (by decide) rfl wd239 dX8_parseReference_29 ?_
      refine lv_iconst (v := 1) C.x C.b dX8_parseReference_32 (by decide) ?_
      refine lv_iadd C.x C.b dX8_parseReference_33 ?_
      refine jr_put C G jc8 3 (v := (M 8 0 3) + 1) (show 0 < 1 by decide) (by decide) (by decide) rfl (by decide) wd239 rfl rfl rfl rfl dX8_parseReference_34 (fun H locs G => ?_)
      obtain ⟨M5, eM5⟩ : ∃ z : jM, z = jup M 8 0 3 ((M 8 0 3) + 1) := ⟨_, rfl⟩
      rw [← eM5] at G
      have h := h M5 eM5
      have nM5 : jnb M5 = jnb M := by rw [eM5]; exact jnb_up (by decide)
      refine lv_aload_n C.x C.b dX8_parseReference_37 rfl (lv_at hl 1 rfl) ?_
      refine va_ldcS C.x C.b C.ow (C.st.2.2.2.2.1 5 _ rfl) dX8_parseReference_38 ?_
      refine jr_V (d' := 5) C G jc8 jm_X8_expect wd617 h rfl (show 0 < 1 by decide) (by decide) rfl rfl (by omega) (by decide) (by decide) ⟨rfl, rfl⟩ hl.1 (Nat.le_of_ble_eq_true rfl) dX8_parseReference_40 (fun r6 r6n M7 H locs h G => ?_)
      obtain ⟨nM7, h⟩ := h
      refine lv_if_ne (tgt := 48) C.x C.b dX8_parseReference_43 (by decide) (fun hc => ?_) (fun hc => ?_)
      · have h := h.2 hc
        refine lv_aload_n C.x C.b dX8_parseReference_48 rfl (lv_at hl 1 rfl) ?_
        obtain ⟨hp10, h⟩ := h
        refine jr_V (d' := 5) C G jc8 jm_X8_peek wd631 (sp_X8_peek hp10 ⟨rfl, rfl⟩ : ok_X8_peek  M7 (fun r _ M' => (jpk M7) = r ∧ M7 = M')) rfl (show 0 < 1 by decide) (by decide) rfl rfl (by omega) (by decide) (by decide) ⟨rfl, rfl⟩ hl.1 (Nat.le_of_ble_eq_true rfl) dX8_parseReference_49 (fun r8 r8n M9 H locs hq G => ?_)
        obtain ⟨eq1, eq2⟩ := hq
        subst eq1
        subst eq2
        refine lv_istore_n (lv' := [(2, .int (jpk M7)), (1, .int ((jpk M) - 97)), (0, .ref (g 8 0))]) C.x C.b dX8_parseReference_52 rfl hl (by decide) rfl (fun ls hl => ?_)
        refine lv_iconst (v := 0) C.x C.b dX8_parseReference_53 (by decide) ?_
        refine lv_istore_n (lv' := [(3, .int 0), (2, .int (jpk M7)), (1, .int ((jpk M) - 97)), (0, .ref (g 8 0))]) C.x C.b dX8_parseReference_54 rfl hl (by decide) rfl (fun ls hl => ?_)
        refine lv_iload_n C.x C.b dX8_parseReference_55 rfl (lv_at hl 1 rfl) ?_
        refine lv_bipush (v := 43) C.x C.b dX8_parseReference_56 (by decide) ?_
        refine lv_icmp_eq (tgt := 67) C.x C.b dX8_parseReference_58 (by decide) (fun hc => ?_) (fun hc => ?_)
        · have h := h.1 hc
          refine lv_aload_n C.x C.b dX8_parseReference_67 rfl (lv_at hl 3 rfl) ?_
          refine lv_dup C.x C.b dX8_parseReference_68 rfl ?_
          refine jr_get C G jc8 3 (v := .int (M7 8 0 3)) (show 0 < 1 by decide) (by decide) (by decide) rfl wd239 dX8_parseReference_69 ?_
          refine lv_iconst (v := 1) C.x C.b dX8_parseReference_72 (by decide) ?_
          refine lv_iadd C.x C.b dX8_parseReference_73 ?_
          refine jr_put C G jc8 3 (v := (M7 8 0 3) + 1) (show 0 < 1 by decide) (by decide) (by decide) rfl (by decide) wd239 rfl rfl rfl rfl dX8_parseReference_74 (fun H locs G => ?_)
          obtain ⟨M11, eM11⟩ : ∃ z : jM, z = jup M7 8 0 3 ((M7 8 0 3) + 1) := ⟨_, rfl⟩
          rw [← eM11] at G
          have h := h M11 eM11
          have nM11 : jnb M11 = jnb M7 := by rw [eM11]; exact jnb_up (by decide)
          refine lv_aload_n C.x C.b dX8_parseReference_77 rfl (lv_at hl 3 rfl) ?_
          obtain ⟨hp14, h⟩ := h
          refine jr_V (d' := 5) C G jc8 jm_X8_peek wd631 (sp_X8_peek hp14 ⟨rfl, rfl⟩ : ok_X8_peek  M11 (fun r _ M' => (jpk M11) = r ∧ M11 = M')) rfl (show 0 < 1 by decide) (by decide) rfl rfl (by omega) (by decide) (by decide) ⟨rfl, rfl⟩ hl.1 (Nat.le_of_ble_eq_true rfl) dX8_parseReference_78 (fun r12 r12n M13 H locs hq G => ?_)
          obtain ⟨eq1, eq2⟩ := hq
          subst eq1
          subst eq2
          refine jr_S (d' := 5) C G jm_X8_isDigit wd681 (sp_X8_isDigit ⟨rfl, rfl⟩ : ok_X8_isDigit (jpk M11) M11 (fun r _ M' => jb (48 ≤ (jpk M11) ∧ (jpk M11) ≤ 57) = r ∧ M11 = M')) rfl rfl rfl (by omega) (by decide) (by decide) ⟨rfl, rfl⟩ hl.1 (Nat.le_of_ble_eq_true rfl) dX8_parseReference_81 (fun r15 r15n M16 H locs hq G => ?_)
          obtain ⟨eq1, eq2⟩ := hq
          subst eq1
          subst eq2
          refine lv_if_ne (tgt := 97) C.x C.b dX8_parseReference_84 (by decide) (fun hc => ?_) (fun hc => ?_)
          · have h := h.1 (jb_1 hc)
            refine lv_iload_n C.x C.b dX8_parseReference_97 rfl (lv_at hl 1 rfl) ?_
            refine lv_bipush (v := 43) C.x C.b dX8_parseReference_98 (by decide) ?_
            refine lv_icmp_ne (tgt := 113) C.x C.b dX8_parseReference_100 (by decide) (fun hc => ?_) (fun hc => ?_)
            · have h := h.2 hc
              refine lv_bipush (v := 48) C.x C.b dX8_parseReference_113 (by decide) ?_
              refine lv_aload_n C.x C.b dX8_parseReference_115 rfl (lv_at hl 3 rfl) ?_
              obtain ⟨hp19, h⟩ := h
              refine jr_V (d' := 5) C G jc8 jm_X8_peek wd631 (sp_X8_peek hp19 ⟨rfl, rfl⟩ : ok_X8_peek  M11 (fun r _ M' => (jpk M11) = r ∧ M11 = M')) rfl (show 0 < 1 by decide) (by decide) rfl rfl (by omega) (by decide) (by decide) ⟨rfl, rfl⟩ hl.1 (Nat.le_of_ble_eq_true rfl) dX8_parseReference_116 (fun r17 r17n M18 H locs hq G => ?_)
              obtain ⟨eq1, eq2⟩ := hq
              subst eq1
              subst eq2
              refine lv_isub C.x C.b dX8_parseReference_119 ?_
              refine lv_istore_n (lv' := [(3, .int (48 - (jpk M11))), (2, .int (jpk M7)), (1, .int ((jpk M) - 97)), (0, .ref (g 8 0))]) C.x C.b dX8_parseReference_120 rfl hl (by decide) rfl (fun ls hl => ?_)
              refine lv_aload_n C.x C.b dX8_parseReference_121 rfl (lv_at hl 3 rfl) ?_
              refine lv_dup C.x C.b dX8_parseReference_122 rfl ?_
              refine jr_get C G jc8 3 (v := .int (M11 8 0 3)) (show 0 < 1 by decide) (by decide) (by decide) rfl wd239 dX8_parseReference_123 ?_
              refine lv_iconst (v := 1) C.x C.b dX8_parseReference_126 (by decide) ?_
              refine lv_iadd C.x C.b dX8_parseReference_127 ?_
              refine jr_put C G jc8 3 (v := (M11 8 0 3) + 1) (show 0 < 1 by decide) (by decide) (by decide) rfl (by decide) wd239 rfl rfl rfl rfl dX8_parseReference_128 (fun H locs G => ?_)
              obtain ⟨M20, eM20⟩ : ∃ z : jM, z = jup M11 8 0 3 ((M11 8 0 3) + 1) := ⟨_, rfl⟩
              rw [← eM20] at G
              have h := h M20 eM20
              have nM20 : jnb M20 = jnb M11 := by rw [eM20]; exact jnb_up (by decide)
              refine lv_aload_n C.x C.b dX8_parseReference_131 rfl (lv_at hl 3 rfl) ?_
              refine va_ldcS C.x C.b C.ow (C.st.2.2.2.2.1 6 _ rfl) dX8_parseReference_132 ?_
              refine jr_V (d' := 5) C G jc8 jm_X8_expect wd617 h rfl (show 0 < 1 by decide) (by decide) rfl rfl (by omega) (by decide) (by decide) ⟨rfl, rfl⟩ hl.1 (Nat.le_of_ble_eq_true rfl) dX8_parseReference_134 (fun r21 r21n M22 H locs h G => ?_)
              obtain ⟨nM22, h⟩ := h
              refine lv_if_eq (tgt := 152) C.x C.b dX8_parseReference_137 (by decide) (fun hc => ?_) (fun hc => ?_)
              · have h := h.1 hc
                refine lv_iconst (v := (-1)) C.x C.b dX8_parseReference_152 (by decide) ?_
                exact jr_retI C hr G h (by decide) (by decide) dX8_parseReference_153
              · have h := h.2 hc
                refine lv_iload_n C.x C.b dX8_parseReference_140 rfl (lv_at hl 2 rfl) ?_
                refine lv_bipush (v := 49) C.x C.b dX8_parseReference_141 (by decide) ?_
                refine lv_imul C.x C.b dX8_parseReference_143 ?_
                refine lv_iload_n C.x C.b dX8_parseReference_144 rfl (lv_at hl 0 rfl) ?_
                refine lv_iadd C.x C.b dX8_parseReference_145 ?_
                refine lv_bipush (v := (-9)) C.x C.b dX8_parseReference_146 (by decide) ?_
                refine lv_isub C.x C.b dX8_parseReference_148 ?_
                refine lv_goto (tgt := 153) C.x C.b dX8_parseReference_149 (by decide) ?_
                exact jr_retI C hr G h (by decide) (by decide) dX8_parseReference_153
            · have h := h.1 hc
              refine lv_aload_n C.x C.b dX8_parseReference_103 rfl (lv_at hl 3 rfl) ?_
              obtain ⟨hp25, h⟩ := h
              refine jr_V (d' := 5) C G jc8 jm_X8_peek wd631 (sp_X8_peek hp25 ⟨rfl, rfl⟩ : ok_X8_peek  M11 (fun r _ M' => (jpk M11) = r ∧ M11 = M')) rfl (show 0 < 1 by decide) (by decide) rfl rfl (by omega) (by decide) (by decide) ⟨rfl, rfl⟩ hl.1 (Nat.le_of_ble_eq_true rfl) dX8_parseReference_104 (fun r23 r23n M24 H locs hq G => ?_)
              obtain ⟨eq1, eq2⟩ := hq
              subst eq1
              subst eq2
              refine lv_bipush (v := 48) C.x C.b dX8_parseReference_107 (by decide) ?_
              refine lv_isub C.x C.b dX8_parseReference_109 ?_
              refine lv_goto (tgt := 120) C.x C.b dX8_parseReference_110 (by decide) ?_
              refine lv_istore_n (lv' := [(3, .int ((jpk M11) - 48)), (2, .int (jpk M7)), (1, .int ((jpk M) - 97)), (0, .ref (g 8 0))]) C.x C.b dX8_parseReference_120 rfl hl (by decide) rfl (fun ls hl => ?_)
              refine lv_aload_n C.x C.b dX8_parseReference_121 rfl (lv_at hl 3 rfl) ?_
              refine lv_dup C.x C.b dX8_parseReference_122 rfl ?_
              refine jr_get C G jc8 3 (v := .int (M11 8 0 3)) (show 0 < 1 by decide) (by decide) (by decide) rfl wd239 dX8_parseReference_123 ?_
              refine lv_iconst (v := 1) C.x C.b dX8_parseReference_126 (by decide) ?_
              refine lv_iadd C.x C.b dX8_parseReference_127 ?_
              refine jr_put C G jc8 3 (v := (M11 8 0 3) + 1) (show 0 < 1 by decide) (by decide) (by decide) rfl (by decide) wd239 rfl rfl rfl rfl dX8_parseReference_128 (fun H locs G => ?_)
              obtain ⟨M26, eM26⟩ : ∃ z : jM, z = jup M11 8 0 3 ((M11 8 0 3) + 1) := ⟨_, rfl⟩
              rw [← eM26] at G
              have h := h M26 eM26
              have nM26 : jnb M26 = jnb M11 := by rw [eM26]; exact jnb_up (by decide)
              refine lv_aload_n C.x C.b dX8_parseReference_131 rfl (lv_at hl 3 rfl) ?_
              refine va_ldcS C.x C.b C.ow (C.st.2.2.2.2.1 6 _ rfl) dX8_parseReference_132 ?_
              refine jr_V (d' := 5) C G jc8 jm_X8_expect wd617 h rfl (show 0 < 1 by decide) (by decide) rfl rfl (by omega) (by decide) (by decide) ⟨rfl, rfl⟩ hl.1 (Nat.le_of_ble_eq_true rfl) dX8_parseReference_134 (fun r27 r27n M28 H locs h G => ?_)
              obtain ⟨nM28, h⟩ := h
              refine lv_if_eq (tgt := 152) C.x C.b dX8_parseReference_137 (by decide) (fun hc => ?_) (fun hc => ?_)
              · have h := h.1 hc
                refine lv_iconst (v := (-1)) C.x C.b dX8_parseReference_152 (by decide) ?_
                exact jr_retI C hr G h (by decide) (by decide) dX8_parseReference_153
              · have h := h.2 hc
                refine lv_iload_n C.x C.b dX8_parseReference_140 rfl (lv_at hl 2 rfl) ?_
                refine lv_bipush (v := 49) C.x C.b dX8_parseReference_141 (by decide) ?_
                refine lv_imul C.x C.b dX8_parseReference_143 ?_
                refine lv_iload_n C.x C.b dX8_parseReference_144 rfl (lv_at hl 0 rfl) ?_
                refine lv_iadd C.x C.b dX8_parseReference_145 ?_
                refine lv_bipush (v := (-9)) C.x C.b dX8_parseReference_146 (by decide) ?_
                refine lv_isub C.x C.b dX8_parseReference_148 ?_
                refine lv_goto (tgt := 153) C.x C.b dX8_parseReference_149 (by decide) ?_
                exact jr_retI C hr G h (by decide) (by decide) dX8_parseReference_153
          · have h := h.2 (jb_0 hc)
            refine lv_aload_n C.x C.b dX8_parseReference_87 rfl (lv_at hl 3 rfl) ?_
            refine lv_aload_n C.x C.b dX8_parseReference_88 rfl (lv_at hl 3 rfl) ?_
            refine jr_get C G jc8 3 (v := .int (M11 8 0 3)) (show 0 < 1 by decide) (by decide) (by decide) rfl wd239 dX8_parseReference_89 ?_
            refine jr_put C G jc8 5 (v := M11 8 0 3) (show 0 < 1 by decide) (by decide) (by decide) rfl (by decide) wd242 rfl rfl rfl rfl dX8_parseReference_92 (fun H locs G => ?_)
            obtain ⟨M29, eM29⟩ : ∃ z : jM, z = jup M11 8 0 5 (M11 8 0 3) := ⟨_, rfl⟩
            rw [← eM29] at G
            have h := h M29 eM29
            have nM29 : jnb M29 = jnb M11 := by rw [eM29]; exact jnb_up (by decide)
            refine lv_iconst (v := (-1)) C.x C.b dX8_parseReference_95 (by decide) ?_
            exact jr_retI C hr G h (by decide) (by decide) dX8_parseReference_96
        · have h := h.2 hc
          refine lv_iload_n C.x C.b dX8_parseReference_61 rfl (lv_at hl 1 rfl) ?_
          refine lv_bipush (v := 45) C.x C.b dX8_parseReference_62 (by decide) ?_
          refine lv_icmp_ne (tgt := 131) C.x C.b dX8_parseReference_64 (by decide) (fun hc => ?_) (fun hc => ?_)
          · have h := h.2 hc
            refine lv_aload_n C.x C.b dX8_parseReference_131 rfl (lv_at hl 3 rfl) ?_
            refine va_ldcS C.x C.b C.ow (C.st.2.2.2.2.1 6 _ rfl) dX8_parseReference_132 ?_
            refine jr_V (d' := 5) C G jc8 jm_X8_expect wd617 h rfl (show 0 < 1 by decide) (by decide) rfl rfl (by omega) (by decide) (by decide) ⟨rfl, rfl⟩ hl.1 (Nat.le_of_ble_eq_true rfl) dX8_parseReference_134 (fun r30 r30n M31 H locs h G => ?_)
            obtain ⟨nM31, h⟩ := h
            refine lv_if_eq (tgt := 152) C.x C.b dX8_parseReference_137 (by decide) (fun hc => ?_) (fun hc => ?_)
            · have h := h.1 hc
              refine lv_iconst (v := (-1)) C.x C.b dX8_parseReference_152 (by decide) ?_
              exact jr_retI C hr G h (by decide) (by decide) dX8_parseReference_153
            · have h := h.2 hc
              refine lv_iload_n C.x C.b dX8_parseReference_140 rfl (lv_at hl 2 rfl) ?_
              refine lv_bipush (v := 49) C.x C.b dX8_parseReference_141 (by decide) ?_
              refine lv_imul C.x C.b dX8_parseReference_143 ?_
              refine lv_iload_n C.x C.b dX8_parseReference_144 rfl (lv_at hl 0 rfl) ?_
              refine lv_iadd C.x C.b dX8_parseReference_145 ?_
              refine lv_bipush (v := (-9)) C.x C.b dX8_parseReference_146 (by decide) ?_
              refine lv_isub C.x C.b dX8_parseReference_148 ?_
              refine lv_goto (tgt := 153) C.x C.b dX8_parseReference_149 (by decide) ?_
              exact jr_retI C hr G h (by decide) (by decide) dX8_parseReference_153
          · have h := h.1 hc
            refine lv_aload_n C.x C.b dX8_parseReference_67 rfl (lv_at hl 3 rfl) ?_
            refine lv_dup C.x C.b dX8_parseReference_68 rfl ?_
            refine jr_get C G jc8 3 (v := .int (M7 8 0 3)) (show 0 < 1 by decide) (by decide) (by decide) rfl wd239 dX8_parseReference_69 ?_
            refine lv_iconst (v := 1) C.x C.b dX8_parseReference_72 (by decide) ?_
            refine lv_iadd C.x C.b dX8_parseReference_73 ?_
            refine jr_put C G jc8 3 (v := (M7 8 0 3) + 1) (show 0 < 1 by decide) (by decide) (by decide) rfl (by decide) wd239 rfl rfl rfl rfl dX8_parseReference_74 (fun H locs G => ?_)
            obtain ⟨M32, eM32⟩ : ∃ z : jM, z = jup M7 8 0 3 ((M7 8 0 3) + 1) := ⟨_, rfl⟩
            rw [← eM32] at G
            have h := h M32 eM32
            have nM32 : jnb M32 = jnb M7 := by rw [eM32]; exact jnb_up (by decide)
            refine lv_aload_n C.x C.b dX8_parseReference_77 rfl (lv_at hl 3 rfl) ?_
            obtain ⟨hp35, h⟩ := h
            refine jr_V (d' := 5) C G jc8 jm_X8_peek wd631 (sp_X8_peek hp35 ⟨rfl, rfl⟩ : ok_X8_peek  M32 (fun r _ M' => (jpk M32) = r ∧ M32 = M')) rfl (show 0 < 1 by decide) (by decide) rfl rfl (by omega) (by decide) (by decide) ⟨rfl, rfl⟩ hl.1 (Nat.le_of_ble_eq_true rfl) dX8_parseReference_78 (fun r33 r33n M34 H locs hq G => ?_)
            obtain ⟨eq1, eq2⟩ := hq
            subst eq1
            subst eq2
            refine jr_S (d' := 5) C G jm_X8_isDigit wd681 (sp_X8_isDigit ⟨rfl, rfl⟩ : ok_X8_isDigit (jpk M32) M32 (fun r _ M' => jb (48 ≤ (jpk M32) ∧ (jpk M32) ≤ 57) = r ∧ M32 = M')) rfl rfl rfl (by omega) (by decide) (by decide) ⟨rfl, rfl⟩ hl.1 (Nat.le_of_ble_eq_true rfl) dX8_parseReference_81 (fun r36 r36n M37 H locs hq G => ?_)
            obtain ⟨eq1, eq2⟩ := hq
            subst eq1
            subst eq2
            refine lv_if_ne (tgt := 97) C.x C.b dX8_parseReference_84 (by decide) (fun hc => ?_) (fun hc => ?_)
            · have h := h.1 (jb_1 hc)
              refine lv_iload_n C.x C.b dX8_parseReference_97 rfl (lv_at hl 1 rfl) ?_
              refine lv_bipush (v := 43) C.x C.b dX8_parseReference_98 (by decide) ?_
              refine lv_icmp_ne (tgt := 113) C.x C.b dX8_parseReference_100 (by decide) (fun hc => ?_) (fun hc => ?_)
              · have h := h.2 hc
                refine lv_bipush (v := 48) C.x C.b dX8_parseReference_113 (by decide) ?_
                refine lv_aload_n C.x C.b dX8_parseReference_115 rfl (lv_at hl 3 rfl) ?_
                obtain ⟨hp40, h⟩ := h
                refine jr_V (d' := 5) C G jc8 jm_X8_peek wd631 (sp_X8_peek hp40 ⟨rfl, rfl⟩ : ok_X8_peek  M32 (fun r _ M' => (jpk M32) = r ∧ M32 = M')) rfl (show 0 < 1 by decide) (by decide) rfl rfl (by omega) (by decide) (by decide) ⟨rfl, rfl⟩ hl.1 (Nat.le_of_ble_eq_true rfl) dX8_parseReference_116 (fun r38 r38n M39 H locs hq G => ?_)
                obtain ⟨eq1, eq2⟩ := hq
                subst eq1
                subst eq2
                refine lv_isub C.x C.b dX8_parseReference_119 ?_
                refine lv_istore_n (lv' := [(3, .int (48 - (jpk M32))), (2, .int (jpk M7)), (1, .int ((jpk M) - 97)), (0, .ref (g 8 0))]) C.x C.b dX8_parseReference_120 rfl hl (by decide) rfl (fun ls hl => ?_)
                refine lv_aload_n C.x C.b dX8_parseReference_121 rfl (lv_at hl 3 rfl) ?_
                refine lv_dup C.x C.b dX8_parseReference_122 rfl ?_
                refine jr_get C G jc8 3 (v := .int (M32 8 0 3)) (show 0 < 1 by decide) (by decide) (by decide) rfl wd239 dX8_parseReference_123 ?_
                refine lv_iconst (v := 1) C.x C.b dX8_parseReference_126 (by decide) ?_
                refine lv_iadd C.x C.b dX8_parseReference_127 ?_
                refine jr_put C G jc8 3 (v := (M32 8 0 3) + 1) (show 0 < 1 by decide) (by decide) (by decide) rfl (by decide) wd239 rfl rfl rfl rfl dX8_parseReference_128 (fun H locs G => ?_)
                obtain ⟨M41, eM41⟩ : ∃ z : jM, z = jup M32 8 0 3 ((M32 8 0 3) + 1) := ⟨_, rfl⟩
                rw [← eM41] at G
                have h := h M41 eM41
                have nM41 : jnb M41 = jnb M32 := by rw [eM41]; exact jnb_up (by decide)
                refine lv_aload_n C.x C.b dX8_parseReference_131 rfl (lv_at hl 3 rfl) ?_
                refine va_ldcS C.x C.b C.ow (C.st.2.2.2.2.1 6 _ rfl) dX8_parseReference_132 ?_
                refine jr_V (d' := 5) C G jc8 jm_X8_expect wd617 h rfl (show 0 < 1 by decide) (by decide) rfl rfl (by omega) (by decide) (by decide) ⟨rfl, rfl⟩ hl.1 (Nat.le_of_ble_eq_true rfl) dX8_parseReference_134 (fun r42 r42n M43 H locs h G => ?_)
                obtain ⟨nM43, h⟩ := h
                refine lv_if_eq (tgt := 152) C.x C.b dX8_parseReference_137 (by decide) (fun hc => ?_) (fun hc => ?_)
                · have h := h.1 hc
                  refine lv_iconst (v := (-1)) C.x C.b dX8_parseReference_152 (by decide) ?_
                  exact jr_retI C hr G h (by decide) (by decide) dX8_parseReference_153
                · have h := h.2 hc
                  refine lv_iload_n C.x C.b dX8_parseReference_140 rfl (lv_at hl 2 rfl) ?_
                  refine lv_bipush (v := 49) C.x C.b dX8_parseReference_141 (by decide) ?_
                  refine lv_imul C.x C.b dX8_parseReference_143 ?_
                  refine lv_iload_n C.x C.b dX8_parseReference_144 rfl (lv_at hl 0 rfl) ?_
                  refine lv_iadd C.x C.b dX8_parseReference_145 ?_
                  refine lv_bipush (v := (-9)) C.x C.b dX8_parseReference_146 (by decide) ?_
                  refine lv_isub C.x C.b dX8_parseReference_148 ?_
                  refine lv_goto (tgt := 153) C.x C.b dX8_parseReference_149 (by decide) ?_
                  exact jr_retI C hr G h (by decide) (by decide) dX8_parseReference_153
              · have h := h.1 hc
                refine lv_aload_n C.x C.b dX8_parseReference_103 rfl (lv_at hl 3 rfl) ?_
                obtain ⟨hp46, h⟩ := h
                refine jr_V (d' := 5) C G jc8 jm_X8_peek wd631 (sp_X8_peek hp46 ⟨rfl, rfl⟩ : ok_X8_peek  M32 (fun r _ M' => (jpk M32) = r ∧ M32 = M')) rfl (show 0 < 1 by decide) (by decide) rfl rfl (by omega) (by decide) (by decide) ⟨rfl, rfl⟩ hl.1 (Nat.le_of_ble_eq_true rfl) dX8_parseReference_104 (fun r44 r44n M45 H locs hq G => ?_)
                obtain ⟨eq1, eq2⟩ := hq
                subst eq1
                subst eq2
                refine lv_bipush (v := 48) C.x C.b dX8_parseReference_107 (by decide) ?_
                refine lv_isub C.x C.b dX8_parseReference_109 ?_
                refine lv_goto (tgt := 120) C.x C.b dX8_parseReference_110 (by decide) ?_
                refine lv_istore_n (lv' := [(3, .int ((jpk M32) - 48)), (2, .int (jpk M7)), (1, .int ((jpk M) - 97)), (0, .ref (g 8 0))]) C.x C.b dX8_parseReference_120 rfl hl (by decide) rfl (fun ls hl => ?_)
                refine lv_aload_n C.x C.b dX8_parseReference_121 rfl (lv_at hl 3 rfl) ?_
                refine lv_dup C.x C.b dX8_parseReference_122 rfl ?_
                refine jr_get C G jc8 3 (v := .int (M32 8 0 3)) (show 0 < 1 by decide) (by decide) (by decide) rfl wd239 dX8_parseReference_123 ?_
                refine lv_iconst (v := 1) C.x C.b dX8_parseReference_126 (by decide) ?_
                refine lv_iadd C.x C.b dX8_parseReference_127 ?_
                refine jr_put C G jc8 3 (v := (M32 8 0 3) + 1) (show 0 < 1 by decide) (by decide) (by decide) rfl (by decide) wd239 rfl rfl rfl rfl dX8_parseReference_128 (fun H locs G => ?_)
                obtain ⟨M47, eM47⟩ : ∃ z : jM, z = jup M32 8 0 3 ((M32 8 0 3) + 1) := ⟨_, rfl⟩
                rw [← eM47] at G
                have h := h M47 eM47
                have nM47 : jnb M47 = jnb M32 := by rw [eM47]; exact jnb_up (by decide)
                refine lv_aload_n C.x C.b dX8_parseReference_131 rfl (lv_at hl 3 rfl) ?_
                refine va_ldcS C.x C.b C.ow (C.st.2.2.2.2.1 6 _ rfl) dX8_parseReference_132 ?_
                refine jr_V (d' := 5) C G jc8 jm_X8_expect wd617 h rfl (show 0 < 1 by decide) (by decide) rfl rfl (by omega) (by decide) (by decide) ⟨rfl, rfl⟩ hl.1 (Nat.le_of_ble_eq_true rfl) dX8_parseReference_134 (fun r48 r48n M49 H locs h G => ?_)
                obtain ⟨nM49, h⟩ := h
                refine lv_if_eq (tgt := 152) C.x C.b dX8_parseReference_137 (by decide) (fun hc => ?_) (fun hc => ?_)
                · have h := h.1 hc
                  refine lv_iconst (v := (-1)) C.x C.b dX8_parseReference_152 (by decide) ?_
                  exact jr_retI C hr G h (by decide) (by decide) dX8_parseReference_153
                · have h := h.2 hc
                  refine lv_iload_n C.x C.b dX8_parseReference_140 rfl (lv_at hl 2 rfl) ?_
                  refine lv_bipush (v := 49) C.x C.b dX8_parseReference_141 (by decide) ?_
                  refine lv_imul C.x C.b dX8_parseReference_143 ?_
                  refine lv_iload_n C.x C.b dX8_parseReference_144 rfl (lv_at hl 0 rfl) ?_
                  refine lv_iadd C.x C.b dX8_parseReference_145 ?_
                  refine lv_bipush (v := (-9)) C.x C.b dX8_parseReference_146 (by decide) ?_
                  refine lv_isub C.x C.b dX8_parseReference_148 ?_
                  refine lv_goto (tgt := 153) C.x C.b dX8_parseReference_149 (by decide) ?_
                  exact jr_retI C hr G h (by decide) (by decide) dX8_parseReference_153
            · have h := h.2 (jb_0 hc)
              refine lv_aload_n C.x C.b dX8_parseReference_87 rfl (lv_at hl 3 rfl) ?_
              refine lv_aload_n C.x C.b dX8_parseReference_88 rfl (lv_at hl 3 rfl) ?_
              refine jr_get C G jc8 3 (v := .int (M32 8 0 3)) (show 0 < 1 by decide) (by decide) (by decide) rfl wd239 dX8_parseReference_89 ?_
              refine jr_put C G jc8 5 (v := M32 8 0 3) (show 0 < 1 by decide) (by decide) (by decide) rfl (by decide) wd242 rfl rfl rfl rfl dX8_parseReference_92 (fun H locs G => ?_)
              obtain ⟨M50, eM50⟩ : ∃ z : jM, z = jup M32 8 0 5 (M32 8 0 3) := ⟨_, rfl⟩
              rw [← eM50] at G
              have h := h M50 eM50
              have nM50 : jnb M50 = jnb M32 := by rw [eM50]; exact jnb_up (by decide)
              refine lv_iconst (v := (-1)) C.x C.b dX8_parseReference_95 (by decide) ?_
              exact jr_retI C hr G h (by decide) (by decide) dX8_parseReference_96
      · have h := h.1 hc
        refine lv_iconst (v := (-1)) C.x C.b dX8_parseReference_46 (by decide) ?_
        exact jr_retI C hr G h (by decide) (by decide) dX8_parseReference_47
    · have h := h.2 hc
      refine lv_aload_n C.x C.b dX8_parseReference_17 rfl (lv_at hl 1 rfl) ?_
      refine lv_aload_n C.x C.b dX8_parseReference_18 rfl (lv_at hl 1 rfl) ?_
      refine jr_get C G jc8 3 (v := .int (M 8 0 3)) (show 0 < 1 by decide) (by decide) (by decide) rfl wd239 dX8_parseReference_19 ?_
      refine jr_put C G jc8 5 (v := M 8 0 3) (show 0 < 1 by decide) (by decide) (by decide) rfl (by decide) wd242 rfl rfl rfl rfl dX8_parseReference_22 (fun H locs G => ?_)
      obtain ⟨M51, eM51⟩ : ∃ z : jM, z = jup M 8 0 5 (M 8 0 3) := ⟨_, rfl⟩
      rw [← eM51] at G
      have h := h M51 eM51
      have nM51 : jnb M51 = jnb M := by rw [eM51]; exact jnb_up (by decide)
      refine lv_iconst (v := (-1)) C.x C.b dX8_parseReference_25 (by decide) ?_
      exact jr_retI C hr G h (by decide) (by decide) dX8_parseReference_26

theorem en_X8_parseFactor {nd : Nat} {n1 : Nat} {v2 : Int32} {M : jM} {Q : Int32 → Nat → jM → Prop} (h : at_X8_parseFactor_0 nd n1 v2 M Q) : ok_X8_parseFactor nd n1 v2 M Q := jr_enter (by decide) (fun g => rfl) (fun g => Nat.le_of_ble_eq_true rfl) h
set_option maxHeartbeats 4000000 in
set_option maxRecDepth 100000 in
theorem bl_X8_parseFactor_0 (nd : Nat) (n1 : Nat) (v2 : Int32) (M : jM) (Q : Int32 → Nat → jM → Prop) (ha0 : n1 < jnb M)
  (h : (jch M) ∧ ((48 ≤ (jpk M) ∧ (jpk M) ≤ 57) → ok_X8_parseNumber  M (fun r32 _ M33 => jnb M33 = jnb M ∧ ok_X0_addToken n1 3 r32 M33 (fun _ _ M35 => jnb M35 = jnb M33 ∧ Q 1 0 M35))) ∧ (¬ (48 ≤ (jpk M) ∧ (jpk M) ≤ 57) → ((jpk M) = 105 → (∀ M29 : jM, M29 = jup M 8 0 3 ((M 8 0 3) + 1) → ok_X0_addToken n1 4 0 M29 (fun _ _ M31 => jnb M31 = jnb M29 ∧ Q 1 0 M31))) ∧ (¬ ((jpk M) = 105) → ((jpk M) = 40 → (3 ≤ v2 → (0 ≤ M 0 n1 7) ∧ ((M 7 (4 * n1 + (if M 0 n1 7 < 4 then M 0 n1 7 else 3).toNatClampNeg) 3) < 5 → ok_X8_parseReference  M (fun r19 _ M20 => jnb M20 = jnb M ∧ (r19 = (-1) → (r19 = (-1) → Q (-1) 0 M20) ∧ (¬ (r19 = (-1)) → Q 1 0 M20)) ∧ (¬ (r19 = (-1)) → ok_X0_addRead n1 r19 M20 (fun _ _ M22 => jnb M22 = jnb M20 ∧ (r19 = (-1) → Q (-1) 0 M22) ∧ (¬ (r19 = (-1)) → Q 1 0 M22))))) ∧ (¬ ((M 7 (4 * n1 + (if M 0 n1 7 < 4 then M 0 n1 7 else 3).toNatClampNeg) 3) < 5) → (∀ M23 : jM, M23 = jup M 8 0 5 (M 8 0 3) → Q (-1) 0 M23))) ∧ (¬ (3 ≤ v2) → (∀ M24 : jM, M24 = jup M 8 0 3 ((M 8 0 3) + 1) → 1 ≤ nd ∧ ok_X8_parseSum (nd - 1) n1 (v2 + 1) M24 (fun r25 _ M26 => jnb M26 = jnb M24 ∧ (r25 = (-1) → Q (-1) 0 M26) ∧ (¬ (r25 = (-1)) → ok_X8_expect 8 M26 (fun r27 _ M28 => jnb M28 = jnb M26 ∧ (r27 = 0 → Q (-1) 0 M28) ∧ (¬ (r27 = 0) → Q r25 0 M28))))))) ∧ (¬ ((jpk M) = 40) → (0 ≤ M 0 n1 7) ∧ ((M 7 (4 * n1 + (if M 0 n1 7 < 4 then M 0 n1 7 else 3).toNatClampNeg) 3) < 5 → ok_X8_parseReference  M (fun r10 _ M11 => jnb M11 = jnb M ∧ (r10 = (-1) → (r10 = (-1) → Q (-1) 0 M11) ∧ (¬ (r10 = (-1)) → Q 1 0 M11)) ∧ (¬ (r10 = (-1)) → ok_X0_addRead n1 r10 M11 (fun _ _ M13 => jnb M13 = jnb M11 ∧ (r10 = (-1) → Q (-1) 0 M13) ∧ (¬ (r10 = (-1)) → Q 1 0 M13))))) ∧ (¬ ((M 7 (4 * n1 + (if M 0 n1 7 < 4 then M 0 n1 7 else 3).toNatClampNeg) 3) < 5) → (∀ M14 : jM, M14 = jup M 8 0 5 (M 8 0 3) → Q (-1) 0 M14)))))) :
  at_X8_parseFactor_0 nd n1 v2 M Q := by
  intro p l e s m args below meth c D cA base g C hr htb H locs G ls hl
  refine lv_aload_n C.x C.b dX8_parseFactor_0 rfl (lv_at hl 0 rfl) ?_
  obtain ⟨hp3, h⟩ := h
  refine jr_V (d' := (3 * nd + 6)) C G jc8 jm_X8_peek wd631 (sp_X8_peek hp3 ⟨rfl, rfl⟩ : ok_X8_peek  M (fun r _ M' => (jpk M) = r ∧ M = M')) rfl (show 0 < 1 by decide) (by decide) rfl rfl (by omega) (Nat.le_refl 0) (Nat.le_refl 0) ⟨rfl, rfl⟩ hl.1 (Nat.le_of_ble_eq_true rfl) dX8_parseFactor_1 (fun r1 r1n M2 H locs hq G => ?_)
  obtain ⟨eq1, eq2⟩ := hq
  subst eq1
  subst eq2
  refine lv_istore_n (lv' := [(3, .int (jpk M)), (0, .ref (g 8 0)), (1, .ref (g 0 n1)), (2, .int v2)]) C.x C.b dX8_parseFactor_4 rfl hl (by decide) rfl (fun ls hl => ?_)
  refine lv_iload_n C.x C.b dX8_parseFactor_5 rfl (lv_at hl 0 rfl) ?_
  refine jr_S (d' := (3 * nd + 6)) C G jm_X8_isDigit wd681 (sp_X8_isDigit ⟨rfl, rfl⟩ : ok_X8_isDigit (jpk M) M (fun r _ M' => jb (48 ≤ (jpk M) ∧ (jpk M) ≤ 57) = r ∧ M = M')) rfl rfl rfl (by omega) (Nat.le_refl 0) (Nat.le_refl 0) ⟨rfl, rfl⟩ hl.1 (Nat.le_of_ble_eq_true rfl) dX8_parseFactor_6 (fun r4 r4n M5 H locs hq G => ?_)
  obtain ⟨eq1, eq2⟩ := hq
  subst eq1
  subst eq2
  refine lv_if_eq (tgt := 23) C.x C.b dX8_parseFactor_9 (by decide) (fun hc => ?_) (fun hc => ?_)
  · have h := h.2 (jb_0 hc)
    refine lv_iload_n C.x C.b dX8_parseFactor_23 rfl (lv_at hl 0 rfl) ?_
    refine lv_bipush (v := 105) C.x C.b dX8_parseFactor_24 (by decide) ?_
    refine lv_icmp_ne (tgt := 47) C.x C.b dX8_parseFactor_26 (by decide) (fun hc => ?_) (fun hc => ?_)
    · have h := h.2 hc
      refine lv_iload_n C.x C.b dX8_parseFactor_47 rfl (lv_at hl 0 rfl) ?_
      refine lv_bipush (v := 40) C.x C.b dX8_parseFactor_48 (by decide) ?_
      refine lv_icmp_ne (tgt := 100) C.x C.b dX8_parseFactor_50 (by decide) (fun hc => ?_) (fun hc => ?_)
      · have h := h.2 hc
        refine lv_aload_n C.x C.b dX8_parseFactor_100 rfl (lv_at hl 2 rfl) ?_
        obtain ⟨hp8, h⟩ := h
        refine jr_V (d' := (3 * nd + 6)) C G jc0 jm_X0_open wd722 (sp_X0_open (show n1 < jnb M by omega) hp8 ⟨rfl, rfl⟩ : ok_X0_open n1 M (fun _ r M' => 4 * n1 + (if M 0 n1 7 < 4 then M 0 n1 7 else 3).toNatClampNeg = r ∧ M = M')) rfl (show n1 < jnb M by omega) (by decide) rfl rfl (by omega) (Nat.le_refl 0) (Nat.le_refl 0) ⟨rfl, rfl⟩ hl.1 (Nat.le_of_ble_eq_true rfl) dX8_parseFactor_101 (fun r6 r6n M7 H locs hq G => ?_)
        obtain ⟨eq1, eq2⟩ := hq
        subst eq1
        subst eq2
        have hf9 := sp_open4 hp8
        refine jr_get C G jc7 3 (v := .int (M 7 (4 * n1 + (if M 0 n1 7 < 4 then M 0 n1 7 else 3).toNatClampNeg) 3)) (show 4 * n1 + (if M 0 n1 7 < 4 then M 0 n1 7 else 3).toNatClampNeg < 4 * jnb M by omega) (by decide) (by decide) rfl wd134 dX8_parseFactor_104 ?_
        refine lv_iconst (v := 5) C.x C.b dX8_parseFactor_107 (by decide) ?_
        refine lv_icmp_lt (tgt := 121) C.x C.b dX8_parseFactor_108 (by decide) (fun hc => ?_) (fun hc => ?_)
        · have h := h.1 hc
          refine lv_aload_n C.x C.b dX8_parseFactor_121 rfl (lv_at hl 1 rfl) ?_
          refine jr_V (d' := (3 * nd + 6)) C G jc8 jm_X8_parseReference wd698 h rfl (show 0 < 1 by decide) (by decide) rfl rfl (by omega) (Nat.le_refl 0) (Nat.le_refl 0) ⟨rfl, rfl⟩ hl.1 (Nat.le_of_ble_eq_true rfl) dX8_parseFactor_122 (fun r10 r10n M11 H locs h G => ?_)
          obtain ⟨nM11, h⟩ := h
          refine lv_istore (lv' := [(4, .int r10), (3, .int (jpk M)), (0, .ref (g 8 0)), (1, .ref (g 0 n1)), (2, .int v2)]) C.x C.b dX8_parseFactor_125 hl (by decide) rfl (fun ls hl => ?_)
          refine lv_iload C.x C.b dX8_parseFactor_127 (lv_at hl 0 rfl) ?_
          refine lv_iconst (v := (-1)) C.x C.b dX8_parseFactor_129 (by decide) ?_
          refine lv_icmp_eq (tgt := 139) C.x C.b dX8_parseFactor_130 (by decide) (fun hc => ?_) (fun hc => ?_)
          · have h := h.1 hc
            refine lv_iload C.x C.b dX8_parseFactor_139 (lv_at hl 0 rfl) ?_
            refine lv_iconst (v := (-1)) C.x C.b dX8_parseFactor_141 (by decide) ?_
            refine lv_icmp_ne (tgt := 149) C.x C.b dX8_parseFactor_142 (by decide) (fun hc => ?_) (fun hc => ?_)
            · have h := h.2 hc
              refine lv_iconst (v := 1) C.x C.b dX8_parseFactor_149 (by decide) ?_
              exact jr_retI C hr G h (by decide) (by decide) dX8_parseFactor_150
            · have h := h.1 hc
              refine lv_iconst (v := (-1)) C.x C.b dX8_parseFactor_145 (by decide) ?_
              refine lv_goto (tgt := 150) C.x C.b dX8_parseFactor_146 (by decide) ?_
              exact jr_retI C hr G h (by decide) (by decide) dX8_parseFactor_150
          · have h := h.2 hc
            refine lv_aload_n C.x C.b dX8_parseFactor_133 rfl (lv_at hl 3 rfl) ?_
            refine lv_iload C.x C.b dX8_parseFactor_134 (lv_at hl 0 rfl) ?_
            refine jr_V (d' := (3 * nd + 6)) C G jc0 jm_X0_addRead wd723 h rfl (show n1 < jnb M11 by omega) (by decide) rfl rfl (by omega) (Nat.le_refl 0) (Nat.le_refl 0) ⟨rfl, rfl⟩ hl.1 (Nat.le_of_ble_eq_true rfl) dX8_parseFactor_136 (fun r12 r12n M13 H locs h G => ?_)
            obtain ⟨nM13, h⟩ := h
            refine lv_iload C.x C.b dX8_parseFactor_139 (lv_at hl 0 rfl) ?_
            refine lv_iconst (v := (-1)) C.x C.b dX8_parseFactor_141 (by decide) ?_
            refine lv_icmp_ne (tgt := 149) C.x C.b dX8_parseFactor_142 (by decide) (fun hc => ?_) (fun hc => ?_)
            · have h := h.2 hc
              refine lv_iconst (v := 1) C.x C.b dX8_parseFactor_149 (by decide) ?_
              exact jr_retI C hr G h (by decide) (by decide) dX8_parseFactor_150
            · have h := h.1 hc
              refine lv_iconst (v := (-1)) C.x C.b dX8_parseFactor_145 (by decide) ?_
              refine lv_goto (tgt := 150) C.x C.b dX8_parseFactor_146 (by decide) ?_
              exact jr_retI C hr G h (by decide) (by decide) dX8_parseFactor_150
        · have h := h.2 hc
          refine lv_aload_n C.x C.b dX8_parseFactor_111 rfl (lv_at hl 1 rfl) ?_
          refine lv_aload_n C.x C.b dX8_parseFactor_112 rfl (lv_at hl 1 rfl) ?_
          refine jr_get C G jc8 3 (v := .int (M 8 0 3)) (show 0 < 1 by decide) (by decide) (by decide) rfl wd239 dX8_parseFactor_113 ?_
          refine jr_put C G jc8 5 (v := M 8 0 3) (show 0 < 1 by decide) (by decide) (by decide) rfl (by decide) wd242 rfl rfl rfl rfl dX8_parseFactor_116 (fun H locs G => ?_)
          obtain ⟨M14, eM14⟩ : ∃ z : jM, z = jup M 8 0 5 (M 8 0 3) := ⟨_, rfl⟩
          rw [← eM14] at G
          have h := h M14 eM14
          have nM14 : jnb M14 = jnb M := by rw [eM14]; exact jnb_up (by decide)
          refine lv_iconst (v := (-1)) C.x C.b dX8_parseFactor_119 (by decide) ?_
          exact jr_retI C hr G h (by decide) (by decide) dX8_parseFactor_120
      · have h := h.1 hc
        refine lv_iload_n C.x C.b dX8_parseFactor_53 rfl (lv_at hl 3 rfl) ?_
        refine lv_iconst (v := 3) C.x C.b dX8_parseFactor_54 (by decide) ?_
        refine lv_icmp_ge (tgt := 100) C.x C.b dX8_parseFactor_55 (by decide) (fun hc => ?_) (fun hc => ?_)
        · have h := h.1 hc
          refine lv_aload_n C.x C.b dX8_parseFactor_100 rfl (lv_at hl 2 rfl) ?_
          obtain ⟨hp17, h⟩ := h
          refine jr_V (d' := (3 * nd + 6)) C G jc0 jm_X0_open wd722 (sp_X0_open (show n1 < jnb M by omega) hp17 ⟨rfl, rfl⟩ : ok_X0_open n1 M (fun _ r M' => 4 * n1 + (if M 0 n1 7 < 4 then M 0 n1 7 else 3).toNatClampNeg = r ∧ M = M')) rfl (show n1 < jnb M by omega) (by decide) rfl rfl (by omega) (Nat.le_refl 0) (Nat.le_refl 0) ⟨rfl, rfl⟩ hl.1 (Nat.le_of_ble_eq_true rfl) dX8_parseFactor_101 (fun r15 r15n M16 H locs hq G => ?_)
          obtain ⟨eq1, eq2⟩ := hq
          subst eq1
          subst eq2
          have hf18 := sp_open4 hp17
          refine jr_get C G jc7 3 (v := .int (M 7 (4 * n1 + (if M 0 n1 7 < 4 then M 0 n1 7 else 3).toNatClampNeg) 3)) (show 4 * n1 + (if M 0 n1 7 < 4 then M 0 n1 7 else 3).toNatClampNeg < 4 * jnb M by omega) (by decide) (by decide) rfl wd134 dX8_parseFactor_104 ?_
          refine lv_iconst (v := 5) C.x C.b dX8_parseFactor_107 (by decide) ?_
          refine lv_icmp_lt (tgt := 121) C.x C.b dX8_parseFactor_108 (by decide) (fun hc => ?_) (fun hc => ?_)
          · have h := h.1 hc
            refine lv_aload_n C.x C.b dX8_parseFactor_121 rfl (lv_at hl 1 rfl) ?_
            refine jr_V (d' := (3 * nd + 6)) C G jc8 jm_X8_parseReference wd698 h rfl (show 0 < 1 by decide) (by decide) rfl rfl (by omega) (Nat.le_refl 0) (Nat.le_refl 0) ⟨rfl, rfl⟩ hl.1 (Nat.le_of_ble_eq_true rfl) dX8_parseFactor_122 (fun r19 r19n M20 H locs h G => ?_)
            obtain ⟨nM20, h⟩ := h
            refine lv_istore (lv' := [(4, .int r19), (3, .int (jpk M)), (0, .ref (g 8 0)), (1, .ref (g 0 n1)), (2, .int v2)]) C.x C.b dX8_parseFactor_125 hl (by decide) rfl (fun ls hl => ?_)
            refine lv_iload C.x C.b dX8_parseFactor_127 (lv_at hl 0 rfl) ?_
            refine lv_iconst (v := (-1)) C.x C.b dX8_parseFactor_129 (by decide) ?_
            refine lv_icmp_eq (tgt := 139) C.x C.b dX8_parseFactor_130 (by decide) (fun hc => ?_) (fun hc => ?_)
            · have h := h.1 hc
              refine lv_iload C.x C.b dX8_parseFactor_139 (lv_at hl 0 rfl) ?_
              refine lv_iconst (v := (-1)) C.x C.b dX8_parseFactor_141 (by decide) ?_
              refine lv_icmp_ne (tgt := 149) C.x C.b dX8_parseFactor_142 (by decide) (fun hc => ?_) (fun hc => ?_)
              · have h := h.2 hc
                refine lv_iconst (v := 1) C.x C.b dX8_parseFactor_149 (by decide) ?_
                exact jr_retI C hr G h (by decide) (by decide) dX8_parseFactor_150
              · have h := h.1 hc
                refine lv_iconst (v := (-1)) C.x C.b dX8_parseFactor_145 (by decide) ?_
                refine lv_goto (tgt := 150) C.x C.b dX8_parseFactor_146 (by decide) ?_
                exact jr_retI C hr G h (by decide) (by decide) dX8_parseFactor_150
            · have h := h.2 hc
              refine lv_aload_n C.x C.b dX8_parseFactor_133 rfl (lv_at hl 3 rfl) ?_
              refine lv_iload C.x C.b dX8_parseFactor_134 (lv_at hl 0 rfl) ?_
              refine jr_V (d' := (3 * nd + 6)) C G jc0 jm_X0_addRead wd723 h rfl (show n1 < jnb M20 by omega) (by decide) rfl rfl (by omega) (Nat.le_refl 0) (Nat.le_refl 0) ⟨rfl, rfl⟩ hl.1 (Nat.le_of_ble_eq_true rfl) dX8_parseFactor_136 (fun r21 r21n M22 H locs h G => ?_)
              obtain ⟨nM22, h⟩ := h
              refine lv_iload C.x C.b dX8_parseFactor_139 (lv_at hl 0 rfl) ?_
              refine lv_iconst (v := (-1)) C.x C.b dX8_parseFactor_141 (by decide) ?_
              refine lv_icmp_ne (tgt := 149) C.x C.b dX8_parseFactor_142 (by decide) (fun hc => ?_) (fun hc => ?_)
              · have h := h.2 hc
                refine lv_iconst (v := 1) C.x C.b dX8_parseFactor_149 (by decide) ?_
                exact jr_retI C hr G h (by decide) (by decide) dX8_parseFactor_150
              · have h := h.1 hc
                refine lv_iconst (v := (-1)) C.x C.b dX8_parseFactor_145 (by decide) ?_
                refine lv_goto (tgt := 150) C.x C.b dX8_parseFactor_146 (by decide) ?_
                exact jr_retI C hr G h (by decide) (by decide) dX8_parseFactor_150
          · have h := h.2 hc
            refine lv_aload_n C.x C.b dX8_parseFactor_111 rfl (lv_at hl 1 rfl) ?_
            refine lv_aload_n C.x C.b dX8_parseFactor_112 rfl (lv_at hl 1 rfl) ?_
            refine jr_get C G jc8 3 (v := .int (M 8 0 3)) (show 0 < 1 by decide) (by decide) (by decide) rfl wd239 dX8_parseFactor_113 ?_
            refine jr_put C G jc8 5 (v := M 8 0 3) (show 0 < 1 by decide) (by decide) (by decide) rfl (by decide) wd242 rfl rfl rfl rfl dX8_parseFactor_116 (fun H locs G => ?_)
            obtain ⟨M23, eM23⟩ : ∃ z : jM, z = jup M 8 0 5 (M 8 0 3) := ⟨_, rfl⟩
            rw [← eM23] at G
            have h := h M23 eM23
            have nM23 : jnb M23 = jnb M := by rw [eM23]; exact jnb_up (by decide)
            refine lv_iconst (v := (-1)) C.x C.b dX8_parseFactor_119 (by decide) ?_
            exact jr_retI C hr G h (by decide) (by decide) dX8_parseFactor_120
        · have h := h.2 hc
          refine lv_aload_n C.x C.b dX8_parseFactor_58 rfl (lv_at hl 1 rfl) ?_
          refine lv_dup C.x C.b dX8_parseFactor_59 rfl ?_
          refine jr_get C G jc8 3 (v := .int (M 8 0 3)) (show 0 < 1 by decide) (by decide) (by decide) rfl wd239 dX8_parseFactor_60 ?_
          refine lv_iconst (v := 1) C.x C.b dX8_parseFactor_63 (by decide) ?_
          refine lv_iadd C.x C.b dX8_parseFactor_64 ?_
          refine jr_put C G jc8 3 (v := (M 8 0 3) + 1) (show 0 < 1 by decide) (by decide) (by decide) rfl (by decide) wd239 rfl rfl rfl rfl dX8_parseFactor_65 (fun H locs G => ?_)
          obtain ⟨M24, eM24⟩ : ∃ z : jM, z = jup M 8 0 3 ((M 8 0 3) + 1) := ⟨_, rfl⟩
          rw [← eM24] at G
          have h := h M24 eM24
          have nM24 : jnb M24 = jnb M := by rw [eM24]; exact jnb_up (by decide)
          refine lv_aload_n C.x C.b dX8_parseFactor_68 rfl (lv_at hl 1 rfl) ?_
          refine lv_aload_n C.x C.b dX8_parseFactor_69 rfl (lv_at hl 2 rfl) ?_
          refine lv_iload_n C.x C.b dX8_parseFactor_70 rfl (lv_at hl 3 rfl) ?_
          refine lv_iconst (v := 1) C.x C.b dX8_parseFactor_71 (by decide) ?_
          refine lv_iadd C.x C.b dX8_parseFactor_72 ?_
          obtain ⟨hnd, h⟩ := h
          refine jr_V (d' := (3 * nd + 6)) C G jc8 jm_X8_parseSum wd705 h rfl (show 0 < 1 by decide) (by decide) rfl rfl (by omega) (Nat.le_refl 0) (Nat.le_refl 0) ⟨rfl, rfl⟩ hl.1 (Nat.le_of_ble_eq_true rfl) dX8_parseFactor_73 (fun r25 r25n M26 H locs h G => ?_)
          obtain ⟨nM26, h⟩ := h
          refine lv_istore (lv' := [(4, .int r25), (3, .int (jpk M)), (0, .ref (g 8 0)), (1, .ref (g 0 n1)), (2, .int v2)]) C.x C.b dX8_parseFactor_76 hl (by decide) rfl (fun ls hl => ?_)
          refine lv_iload C.x C.b dX8_parseFactor_78 (lv_at hl 0 rfl) ?_
          refine lv_iconst (v := (-1)) C.x C.b dX8_parseFactor_80 (by decide) ?_
          refine lv_icmp_eq (tgt := 98) C.x C.b dX8_parseFactor_81 (by decide) (fun hc => ?_) (fun hc => ?_)
          · have h := h.1 hc
            refine lv_iconst (v := (-1)) C.x C.b dX8_parseFactor_98 (by decide) ?_
            exact jr_retI C hr G h (by decide) (by decide) dX8_parseFactor_99
          · have h := h.2 hc
            refine lv_aload_n C.x C.b dX8_parseFactor_84 rfl (lv_at hl 2 rfl) ?_
            refine va_ldcS C.x C.b C.ow (C.st.2.2.2.2.1 8 _ rfl) dX8_parseFactor_85 ?_
            refine jr_V (d' := (3 * nd + 6)) C G jc8 jm_X8_expect wd617 h rfl (show 0 < 1 by decide) (by decide) rfl rfl (by omega) (Nat.le_refl 0) (Nat.le_refl 0) ⟨rfl, rfl⟩ hl.1 (Nat.le_of_ble_eq_true rfl) dX8_parseFactor_87 (fun r27 r27n M28 H locs h G => ?_)
            obtain ⟨nM28, h⟩ := h
            refine lv_if_eq (tgt := 98) C.x C.b dX8_parseFactor_90 (by decide) (fun hc => ?_) (fun hc => ?_)
            · have h := h.1 hc
              refine lv_iconst (v := (-1)) C.x C.b dX8_parseFactor_98 (by decide) ?_
              exact jr_retI C hr G h (by decide) (by decide) dX8_parseFactor_99
            · have h := h.2 hc
              refine lv_iload C.x C.b dX8_parseFactor_93 (lv_at hl 0 rfl) ?_
              refine lv_goto (tgt := 99) C.x C.b dX8_parseFactor_95 (by decide) ?_
              exact jr_retI C hr G h (by decide) (by decide) dX8_parseFactor_99
    · have h := h.1 hc
      refine lv_aload_n C.x C.b dX8_parseFactor_29 rfl (lv_at hl 1 rfl) ?_
      refine lv_dup C.x C.b dX8_parseFactor_30 rfl ?_
      refine jr_get C G jc8 3 (v := .int (M 8 0 3)) (show 0 < 1 by decide) (by decide) (by decide) rfl wd239 dX8_parseFactor_31 ?_
      refine lv_iconst (v := 1) C.x C.b dX8_parseFactor_34 (by decide) ?_
      refine lv_iadd C.x C.b dX8_parseFactor_35 ?_
      refine jr_put C G jc8 3 (v := (M 8 0 3) + 1) (show 0 < 1 by decide) (by decide) (by decide) rfl (by decide) wd239 rfl rfl rfl rfl dX8_parseFactor_36 (fun H locs G => ?_)
      obtain ⟨M29, eM29⟩ : ∃ z : jM, z = jup M 8 0 3 ((M 8 0 3) + 1) := ⟨_, rfl⟩
      rw [← eM29] at G
      have h := h M29 eM29
      have nM29 : jnb M29 = jnb M := by rw [eM29]; exact jnb_up (by decide)
      refine lv_aload_n C.x C.b dX8_parseFactor_39 rfl (lv_at hl 2 rfl) ?_
      refine lv_iconst (v := 4) C.x C.b dX8_parseFactor_40 (by decide) ?_
      refine lv_iconst (v := 0) C.x C.b dX8_parseFactor_41 (by decide) ?_
      refine jr_V (d' := (3 * nd + 6)) C G jc0 jm_X0_addToken wd717 h rfl (show n1 < jnb M29 by omega) (by decide) rfl rfl (by omega) (Nat.le_refl 0) (Nat.le_refl 0) ⟨rfl, rfl⟩ hl.1 (Nat.le_of_ble_eq_true rfl) dX8_parseFactor_42 (fun r30 r30n M31 H locs h G => ?_)
      obtain ⟨nM31, h⟩ := h
      refine lv_iconst (v := 1) C.x C.b dX8_parseFactor_45 (by decide) ?_
      exact jr_retI C hr G h (by decide) (by decide) dX8_parseFactor_46
  · have h := h.1 (jb_1 hc)
    refine lv_aload_n C.x C.b dX8_parseFactor_12 rfl (lv_at hl 2 rfl) ?_
    refine lv_iconst (v := 3) C.x C.b dX8_parseFactor_13 (by decide) ?_
    refine lv_aload_n C.x C.b dX8_parseFactor_14 rfl (lv_at hl 1 rfl) ?_
    refine jr_V (d' := (3 * nd + 6)) C G jc8 jm_X8_parseNumber wd677 h rfl (show 0 < 1 by decide) (by decide) rfl rfl (by omega) (Nat.le_refl 0) (Nat.le_refl 0) ⟨rfl, rfl⟩ hl.1 (Nat.le_of_ble_eq_true rfl) dX8_parseFactor_15 (fun r32 r32n M33 H locs h G => ?_)
    obtain ⟨nM33, h⟩ := h
    refine jr_V (d' := (3 * nd + 6)) C G jc0 jm_X0_addToken wd717 h rfl (show n1 < jnb M33 by omega) (by decide) rfl rfl (by omega) (Nat.le_refl 0) (Nat.le_refl 0) ⟨rfl, rfl⟩ hl.1 (Nat.le_of_ble_eq_true rfl) dX8_parseFactor_18 (fun r34 r34n M35 H locs h G => ?_)
    obtain ⟨nM35, h⟩ := h
    refine lv_iconst (v := 1) C.x C.b dX8_parseFactor_21 (by decide) ?_
    exact jr_retI C hr G h (by decide) (by decide) dX8_parseFactor_22

theorem en_X8_parseProduct {nd : Nat} {n1 : Nat} {v2 : Int32} {M : jM} {Q : Int32 → Nat → jM → Prop} (h : at_X8_parseProduct_0 nd n1 v2 M Q) : ok_X8_parseProduct nd n1 v2 M Q := jr_enter (by decide) (fun g => rfl) (fun g => Nat.le_of_ble_eq_true rfl) h
set_option maxHeartbeats 4000000 in
set_option maxRecDepth 100000 in
theorem bl_X8_parseProduct_0 (nd : Nat) (n1 : Nat) (v2 : Int32) (M : jM) (Q : Int32 → Nat → jM → Prop) (ha0 : n1 < jnb M)
  (h : ok_X8_parseFactor nd n1 v2 M (fun r1 _ M2 => jnb M2 = jnb M ∧ at_X8_parseProduct_10 nd n1 v2 r1 0 M2 Q)) :
  at_X8_parseProduct_0 nd n1 v2 M Q := by
  intro p l e s m args below meth c D cA base g C hr htb H locs G ls hl
  refine lv_aload_n C.x C.b dX8_parseProduct_0 rfl (lv_at hl 0 rfl) ?_
  refine lv_aload_n C.x C.b dX8_parseProduct_1 rfl (lv_at hl 1 rfl) ?_
  refine lv_iload_n C.x C.b dX8_parseProduct_2 rfl (lv_at hl 2 rfl) ?_
  refine jr_V (d' := (3 * nd + 7)) C G jc8 jm_X8_parseFactor wd713 h rfl (show 0 < 1 by decide) (by decide) rfl rfl (by omega) (Nat.le_refl 0) (Nat.le_refl 0) ⟨rfl, rfl⟩ hl.1 (Nat.le_of_ble_eq_true rfl) dX8_parseProduct_3 (fun r1 r1n M2 H locs h G => ?_)
  obtain ⟨nM2, h⟩ := h
  refine lv_istore_n (lv' := [(3, .int r1), (0, .ref (g 8 0)), (1, .ref (g 0 n1)), (2, .int v2)]) C.x C.b dX8_parseProduct_6 rfl hl (by decide) rfl (fun ls hl => ?_)
  refine lv_iconst (v := 0) C.x C.b dX8_parseProduct_7 (by decide) ?_
  refine lv_istore (lv' := [(4, .int 0), (3, .int r1), (0, .ref (g 8 0)), (1, .ref (g 0 n1)), (2, .int v2)]) C.x C.b dX8_parseProduct_8 hl (by decide) rfl (fun ls hl => ?_)
  exact h p l e s m args below meth c D cA base g C hr htb _ _ G ls (lv_sub hl [2, 3, 4, 1, 0] rfl)
set_option maxHeartbeats 4000000 in
set_option maxRecDepth 100000 in
theorem bl_X8_parseProduct_10 (nd : Nat) (n1 : Nat) (v2 : Int32) (v3 : Int32) (v4 : Int32) (M : jM) (Q : Int32 → Nat → jM → Prop) (ha0 : n1 < jnb M)
  (h : (120 ≤ v4 → Q v3 0 M) ∧ (¬ (120 ≤ v4) → (v3 = (-1) → Q v3 0 M) ∧ (¬ (v3 = (-1)) → (jch M) ∧ ((jpk M) = 42 → (∀ M4 : jM, M4 = jup M 8 0 3 ((M 8 0 3) + 1) → ok_X8_parseFactor nd n1 v2 M4 (fun r5 _ M6 => jnb M6 = jnb M4 ∧ ok_X8_join n1 2 v3 r5 M6 (fun r7 _ M8 => jnb M8 = jnb M6 ∧ at_X8_parseProduct_10 nd n1 v2 r7 (v4 + 1) M8 Q)))) ∧ (¬ ((jpk M) = 42) → Q v3 0 M)))) :
  at_X8_parseProduct_10 nd n1 v2 v3 v4 M Q := by
  intro p l e s m args below meth c D cA base g C hr htb H locs G ls hl
  refine lv_iload C.x C.b dX8_parseProduct_10 (lv_at hl 4 rfl) ?_
  refine lv_bipush (v := 120) C.x C.b dX8_parseProduct_12 (by decide) ?_
  refine lv_icmp_ge (tgt := 60) C.x C.b dX8_parseProduct_14 (by decide) (fun hc => ?_) (fun hc => ?_)
  · have h := h.1 hc
    refine lv_iload_n C.x C.b dX8_parseProduct_60 rfl (lv_at hl 3 rfl) ?_
    exact jr_retI C hr G h (by decide) (by decide) dX8_parseProduct_61
  · have h := h.2 hc
    refine lv_iload_n C.x C.b dX8_parseProduct_17 rfl (lv_at hl 3 rfl) ?_
    refine lv_iconst (v := (-1)) C.x C.b dX8_parseProduct_18 (by decide) ?_
    refine lv_icmp_eq (tgt := 60) C.x C.b dX8_parseProduct_19 (by decide) (fun hc => ?_) (fun hc => ?_)
    · have h := h.1 hc
      refine lv_iload_n C.x C.b dX8_parseProduct_60 rfl (lv_at hl 3 rfl) ?_
      exact jr_retI C hr G h (by decide) (by decide) dX8_parseProduct_61
    · have h := h.2 hc
      refine lv_aload_n C.x C.b dX8_parseProduct_22 rfl (lv_at hl 0 rfl) ?_
      obtain ⟨hp3, h⟩ := h
      refine jr_V (d' := (3 * nd + 7)) C G jc8 jm_X8_peek wd631 (sp_X8_peek hp3 ⟨rfl, rfl⟩ : ok_X8_peek  M (fun r _ M' => (jpk M) = r ∧ M = M')) rfl (show 0 < 1 by decide) (by decide) rfl rfl (by omega) (Nat.le_refl 0) (Nat.le_refl 0) ⟨rfl, rfl⟩ hl.1 (Nat.le_of_ble_eq_true rfl) dX8_parseProduct_23 (fun r1 r1n M2 H locs hq G => ?_)
      obtain ⟨eq1, eq2⟩ := hq
      subst eq1
      subst eq2
      refine lv_bipush (v := 42) C.x C.b dX8_parseProduct_26 (by decide) ?_
      refine lv_icmp_ne (tgt := 60) C.x C.b dX8_parseProduct_28 (by decide) (fun hc => ?_) (fun hc => ?_)
      · have h := h.2 hc
        refine lv_iload_n C.x C.b dX8_parseProduct_60 rfl (lv_at hl 3 rfl) ?_
        exact jr_retI C hr G h (by decide) (by decide) dX8_parseProduct_61
      · have h := h.1 hc
        refine lv_aload_n C.x C.b dX8_parseProduct_31 rfl (lv_at hl 0 rfl) ?_
        refine lv_dup C.x C.b dX8_parseProduct_32 rfl ?_
        refine jr_get C G jc8 3 (v := .int (M 8 0 3)) (show 0 < 1 by decide) (by decide) (by decide) rfl wd239 dX8_parseProduct_33 ?_
        refine lv_iconst (v := 1) C.x C.b dX8_parseProduct_36 (by decide) ?_
        refine lv_iadd C.x C.b dX8_parseProduct_37 ?_
        refine jr_put C G jc8 3 (v := (M 8 0 3) + 1) (show 0 < 1 by decide) (by decide) (by decide) rfl (by decide) wd239 rfl rfl rfl rfl dX8_parseProduct_38 (fun H locs G => ?_)
        obtain ⟨M4, eM4⟩ : ∃ z : jM, z = jup M 8 0 3 ((M 8 0 3) + 1) := ⟨_, rfl⟩
        rw [← eM4] at G
        have h := h M4 eM4
        have nM4 : jnb M4 = jnb M := by rw [eM4]; exact jnb_up (by decide)
        refine lv_aload_n C.x C.b dX8_parseProduct_41 rfl (lv_at hl 1 rfl) ?_
        refine lv_iconst (v := 2) C.x C.b dX8_parseProduct_42 (by decide) ?_
        refine lv_iload_n C.x C.b dX8_parseProduct_43 rfl (lv_at hl 3 rfl) ?_
        refine lv_aload_n C.x C.b dX8_parseProduct_44 rfl (lv_at hl 0 rfl) ?_
        refine lv_aload_n C.x C.b dX8_parseProduct_45 rfl (lv_at hl 1 rfl) ?_
        refine lv_iload_n C.x C.b dX8_parseProduct_46 rfl (lv_at hl 2 rfl) ?_
        refine jr_V (d' := (3 * nd + 7)) C G jc8 jm_X8_parseFactor wd713 h rfl (show 0 < 1 by decide) (by decide) rfl rfl (by omega) (Nat.le_refl 0) (Nat.le_refl 0) ⟨rfl, rfl⟩ hl.1 (Nat.le_of_ble_eq_true rfl) dX8_parseProduct_47 (fun r5 r5n M6 H locs h G => ?_)
        obtain ⟨nM6, h⟩ := h
        refine jr_S (d' := (3 * nd + 7)) C G jm_X8_join wd732 h rfl rfl rfl (by omega) (Nat.le_refl 0) (Nat.le_refl 0) ⟨rfl, rfl⟩ hl.1 (Nat.le_of_ble_eq_true rfl) dX8_parseProduct_50 (fun r7 r7n M8 H locs h G => ?_)
        obtain ⟨nM8, h⟩ := h
        refine lv_istore_n (lv' := [(3, .int r7), (0, .ref (g 8 0)), (1, .ref (g 0 n1)), (2, .int v2), (4, .int v4)]) C.x C.b dX8_parseProduct_53 rfl hl (by decide) rfl (fun ls hl => ?_)
        refine lv_iinc (v := v4 + 1) (lv' := [(4, .int (v4 + 1)), (3, .int r7), (0, .ref (g 8 0)), (1, .ref (g 0 n1)), (2, .int v2)]) C.x C.b dX8_parseProduct_54 hl (k := 4) rfl rfl (by decide) rfl (fun ls hl => ?_)
        refine lv_goto (tgt := 10) C.x C.b dX8_parseProduct_57 (by decide) ?_
        exact h p l e s m args below meth c D cA base g C hr htb _ _ G ls (lv_sub hl [2, 3, 4, 1, 0] rfl)

theorem en_X8_parseSum {nd : Nat} {n1 : Nat} {v2 : Int32} {M : jM} {Q : Int32 → Nat → jM → Prop} (h : at_X8_parseSum_0 nd n1 v2 M Q) : ok_X8_parseSum nd n1 v2 M Q := jr_enter (by decide) (fun g => rfl) (fun g => Nat.le_of_ble_eq_true rfl) h
set_option maxHeartbeats 4000000 in
set_option maxRecDepth 100000 in
theorem bl_X8_parseSum_0 (nd : Nat) (n1 : Nat) (v2 : Int32) (M : jM) (Q : Int32 → Nat → jM → Prop) (ha0 : n1 < jnb M)
  (h : ok_X8_parseProduct nd n1 v2 M (fun r1 _ M2 => jnb M2 = jnb M ∧ at_X8_parseSum_10 nd n1 v2 r1 0 M2 Q)) :
  at_X8_parseSum_0 nd n1 v2 M Q := by
  intro p l e s m args below meth c D cA base g C hr htb H locs G ls hl
  refine lv_aload_n C.x C.b dX8_parseSum_0 rfl (lv_at hl 0 rfl) ?_
  refine lv_aload_n C.x C.b dX8_parseSum_1 rfl (lv_at hl 1 rfl) ?_
  refine lv_iload_n C.x C.b dX8_parseSum_2 rfl (lv_at hl 2 rfl) ?_
  refine jr_V (d' := (3 * nd + 8)) C G jc8 jm_X8_parseProduct wd709 h rfl (show 0 < 1 by decide) (by decide) rfl rfl (by omega) (Nat.le_refl 0) (Nat.le_refl 0) ⟨rfl, rfl⟩ hl.1 (Nat.le_of_ble_eq_true rfl) dX8_parseSum_3 (fun r1 r1n M2 H locs h G => ?_)
  obtain ⟨nM2, h⟩ := h
  refine lv_istore_n (lv' := [(3, .int r1), (0, .ref (g 8 0)), (1, .ref (g 0 n1)), (2, .int v2)]) C.x C.b dX8_parseSum_6 rfl hl (by decide) rfl (fun ls hl => ?_)
  refine lv_iconst (v := 0) C.x C.b dX8_parseSum_7 (by decide) ?_
  refine lv_istore (lv' := [(4, .int 0), (3, .int r1), (0, .ref (g 8 0)), (1, .ref (g 0 n1)), (2, .int v2)]) C.x C.b dX8_parseSum_8 hl (by decide) rfl (fun ls hl => ?_)
  exact h p l e s m args below meth c D cA base g C hr htb _ _ G ls (lv_sub hl [2, 3, 4, 1, 0] rfl)
set_option maxHeartbeats 4000000 in
set_option maxRecDepth 100000 in
theorem bl_X8_parseSum_10 (nd : Nat) (n1 : Nat) (v2 : Int32) (v3 : Int32) (v4 : Int32) (M : jM) (Q : Int32 → Nat → jM → Prop) (ha0 : n1 < jnb M)
  (h : (120 ≤ v4 → Q v3 0 M) ∧ (¬ (120 ≤ v4) → (v3 = (-1) → Q v3 0 M) ∧ (¬ (v3 = (-1)) → (jch M) ∧ ((jpk M) = 43 → (jch M) ∧ ((jpk M) = 43 → (∀ M12 : jM, M12 = jup M 8 0 3 ((M 8 0 3) + 1) → ok_X8_parseProduct nd n1 v2 M12 (fun r13 _ M14 => jnb M14 = jnb M12 ∧ ok_X8_join n1 0 v3 r13 M14 (fun r15 _ M16 => jnb M16 = jnb M14 ∧ at_X8_parseSum_10 nd n1 v2 r15 (v4 + 1) M16 Q)))) ∧ (¬ ((jpk M) = 43) → (∀ M7 : jM, M7 = jup M 8 0 3 ((M 8 0 3) + 1) → ok_X8_parseProduct nd n1 v2 M7 (fun r8 _ M9 => jnb M9 = jnb M7 ∧ ok_X8_join n1 1 v3 r8 M9 (fun r10 _ M11 => jnb M11 = jnb M9 ∧ at_X8_parseSum_10 nd n1 v2 r10 (v4 + 1) M11 Q))))) ∧ (¬ ((jpk M) = 43) → (jch M) ∧ ((jpk M) = 45 → (jch M) ∧ ((jpk M) = 43 → (∀ M28 : jM, M28 = jup M 8 0 3 ((M 8 0 3) + 1) → ok_X8_parseProduct nd n1 v2 M28 (fun r29 _ M30 => jnb M30 = jnb M28 ∧ ok_X8_join n1 0 v3 r29 M30 (fun r31 _ M32 => jnb M32 = jnb M30 ∧ at_X8_parseSum_10 nd n1 v2 r31 (v4 + 1) M32 Q)))) ∧ (¬ ((jpk M) = 43) → (∀ M23 : jM, M23 = jup M 8 0 3 ((M 8 0 3) + 1) → ok_X8_parseProduct nd n1 v2 M23 (fun r24 _ M25 => jnb M25 = jnb M23 ∧ ok_X8_join n1 1 v3 r24 M25 (fun r26 _ M27 => jnb M27 = jnb M25 ∧ at_X8_parseSum_10 nd n1 v2 r26 (v4 + 1) M27 Q))))) ∧ (¬ ((jpk M) = 45) → Q v3 0 M))))) :
  at_X8_parseSum_10 nd n1 v2 v3 v4 M Q := by
  intro p l e s m args below meth c D cA base g C hr htb H locs G ls hl
  refine lv_iload C.x C.b dX8_parseSum_10 (lv_at hl 4 rfl) ?_
  refine lv_bipush (v := 120) C.x C.b dX8_parseSum_12 (by decide) ?_
  refine lv_icmp_ge (tgt := 86) C.x C.b dX8_parseSum_14 (by decide) (fun hc => ?_) (fun hc => ?_)
  · have h := h.1 hc
    refine lv_iload_n C.x C.b dX8_parseSum_86 rfl (lv_at hl 3 rfl) ?_
    exact jr_retI C hr G h (by decide) (by decide) dX8_parseSum_87
  · have h := h.2 hc
    refine lv_iload_n C.x C.b dX8_parseSum_17 rfl (lv_at hl 3 rfl) ?_
    refine lv_iconst (v := (-1)) C.x C.b dX8_parseSum_18 (by decide) ?_
    refine lv_icmp_eq (tgt := 86) C.x C.b dX8_parseSum_19 (by decide) (fun hc => ?_) (fun hc => ?_)
    · have h := h.1 hc
      refine lv_iload_n C.x C.b dX8_parseSum_86 rfl (lv_at hl 3 rfl) ?_
      exact jr_retI C hr G h (by decide) (by decide) dX8_parseSum_87
    · have h := h.2 hc
      refine lv_aload_n C.x C.b dX8_parseSum_22 rfl (lv_at hl 0 rfl) ?_
      obtain ⟨hp3, h⟩ := h
      refine jr_V (d' := (3 * nd + 8)) C G jc8 jm_X8_peek wd631 (sp_X8_peek hp3 ⟨rfl, rfl⟩ : ok_X8_peek  M (fun r _ M' => (jpk M) = r ∧ M = M')) rfl (show 0 < 1 by decide) (by decide) rfl rfl (by omega) (Nat.le_refl 0) (Nat.le_refl 0) ⟨rfl, rfl⟩ hl.1 (Nat.le_of_ble_eq_true rfl) dX8_parseSum_23 (fun r1 r1n M2 H locs hq G => ?_)
      obtain ⟨eq1, eq2⟩ := hq
      subst eq1
      subst eq2
      refine lv_bipush (v := 43) C.x C.b dX8_parseSum_26 (by decide) ?_
      refine lv_icmp_eq (tgt := 40) C.x C.b dX8_parseSum_28 (by decide) (fun hc => ?_) (fun hc => ?_)
      · have h := h.1 hc
        refine lv_aload_n C.x C.b dX8_parseSum_40 rfl (lv_at hl 0 rfl) ?_
        obtain ⟨hp6, h⟩ := h
        refine jr_V (d' := (3 * nd + 8)) C G jc8 jm_X8_peek wd631 (sp_X8_peek hp6 ⟨rfl, rfl⟩ : ok_X8_peek  M (fun r _ M' => (jpk M) = r ∧ M = M')) rfl (show 0 < 1 by decide) (by decide) rfl rfl (by omega) (Nat.le_refl 0) (Nat.le_refl 0) ⟨rfl, rfl⟩ hl.1 (Nat.le_of_ble_eq_true rfl) dX8_parseSum_41 (fun r4 r4n M5 H locs hq G => ?_)
        obtain ⟨eq1, eq2⟩ := hq
        subst eq1
        subst eq2
        refine lv_bipush (v := 43) C.x C.b dX8_parseSum_44 (by decide) ?_
        refine lv_icmp_ne (tgt := 53) C.x C.b dX8_parseSum_46 (by decide) (fun hc => ?_) (fun hc => ?_)
        · have h := h.2 hc
          refine lv_iconst (v := 1) C.x C.b dX8_parseSum_53 (by decide) ?_
          refine lv_istore (lv' := [(5, .int 1), (0, .ref (g 8 0)), (1, .ref (g 0 n1)), (2, .int v2), (3, .int v3), (4, .int v4)]) C.x C.b dX8_parseSum_54 hl (by decide) rfl (fun ls hl => ?_)
          refine lv_aload_n C.x C.b dX8_parseSum_56 rfl (lv_at hl 1 rfl) ?_
          refine lv_dup C.x C.b dX8_parseSum_57 rfl ?_
          refine jr_get C G jc8 3 (v := .int (M 8 0 3)) (show 0 < 1 by decide) (by decide) (by decide) rfl wd239 dX8_parseSum_58 ?_
          refine lv_iconst (v := 1) C.x C.b dX8_parseSum_61 (by decide) ?_
          refine lv_iadd C.x C.b dX8_parseSum_62 ?_
          refine jr_put C G jc8 3 (v := (M 8 0 3) + 1) (show 0 < 1 by decide) (by decide) (by decide) rfl (by decide) wd239 rfl rfl rfl rfl dX8_parseSum_63 (fun H locs G => ?_)
          obtain ⟨M7, eM7⟩ : ∃ z : jM, z = jup M 8 0 3 ((M 8 0 3) + 1) := ⟨_, rfl⟩
          rw [← eM7] at G
          have h := h M7 eM7
          have nM7 : jnb M7 = jnb M := by rw [eM7]; exact jnb_up (by decide)
          refine lv_aload_n C.x C.b dX8_parseSum_66 rfl (lv_at hl 2 rfl) ?_
          refine lv_iload C.x C.b dX8_parseSum_67 (lv_at hl 0 rfl) ?_
          refine lv_iload_n C.x C.b dX8_parseSum_69 rfl (lv_at hl 4 rfl) ?_
          refine lv_aload_n C.x C.b dX8_parseSum_70 rfl (lv_at hl 1 rfl) ?_
          refine lv_aload_n C.x C.b dX8_parseSum_71 rfl (lv_at hl 2 rfl) ?_
          refine lv_iload_n C.x C.b dX8_parseSum_72 rfl (lv_at hl 3 rfl) ?_
          refine jr_V (d' := (3 * nd + 8)) C G jc8 jm_X8_parseProduct wd709 h rfl (show 0 < 1 by decide) (by decide) rfl rfl (by omega) (Nat.le_refl 0) (Nat.le_refl 0) ⟨rfl, rfl⟩ hl.1 (Nat.le_of_ble_eq_true rfl) dX8_parseSum_73 (fun r8 r8n M9 H locs h G => ?_)
          obtain ⟨nM9, h⟩ := h
          refine jr_S (d' := (3 * nd + 8)) C G jm_X8_join wd732 h rfl rfl rfl (by omega) (Nat.le_refl 0) (Nat.le_refl 0) ⟨rfl, rfl⟩ hl.1 (Nat.le_of_ble_eq_true rfl) dX8_parseSum_76 (fun r10 r10n M11 H locs h G => ?_)
          obtain ⟨nM11, h⟩ := h
          refine lv_istore_n (lv' := [(3, .int r10), (5, .int 1), (0, .ref (g 8 0)), (1, .ref (g 0 n1)), (2, .int v2), (4, .int v4)]) C.x C.b dX8_parseSum_79 rfl hl (by decide) rfl (fun ls hl => ?_)
          refine lv_iinc (v := v4 + 1) (lv' := [(4, .int (v4 + 1)), (3, .int r10), (5, .int 1), (0, .ref (g 8 0)), (1, .ref (g 0 n1)), (2, .int v2)]) C.x C.b dX8_parseSum_80 hl (k := 5) rfl rfl (by decide) rfl (fun ls hl => ?_)
          refine lv_goto (tgt := 10) C.x C.b dX8_parseSum_83 (by decide) ?_
          exact h p l e s m args below meth c D cA base g C hr htb _ _ G ls (lv_sub hl [3, 4, 5, 1, 0] rfl)
        · have h := h.1 hc
          refine lv_iconst (v := 0) C.x C.b dX8_parseSum_49 (by decide) ?_
          refine lv_goto (tgt := 54) C.x C.b dX8_parseSum_50 (by decide) ?_
          refine lv_istore (lv' := [(5, .int 0), (0, .ref (g 8 0)), (1, .ref (g 0 n1)), (2, .int v2), (3, .int v3), (4, .int v4)]) C.x C.b dX8_parseSum_54 hl (by decide) rfl (fun ls hl => ?_)
          refine lv_aload_n C.x C.b dX8_parseSum_56 rfl (lv_at hl 1 rfl) ?_
          refine lv_dup C.x C.b dX8_parseSum_57 rfl ?_
          refine jr_get C G jc8 3 (v := .int (M 8 0 3)) (show 0 < 1 by decide) (by decide) (by decide) rfl wd239 dX8_parseSum_58 ?_
          refine lv_iconst (v := 1) C.x C.b dX8_parseSum_61 (by decide) ?_
          refine lv_iadd C.x C.b dX8_parseSum_62 ?_
          refine jr_put C G jc8 3 (v := (M 8 0 3) + 1) (show 0 < 1 by decide) (by decide) (by decide) rfl (by decide) wd239 rfl rfl rfl rfl dX8_parseSum_63 (fun H locs G => ?_)
          obtain ⟨M12, eM12⟩ : ∃ z : jM, z = jup M 8 0 3 ((M 8 0 3) + 1) := ⟨_, rfl⟩
          rw [← eM12] at G
          have h := h M12 eM12
          have nM12 : jnb M12 = jnb M := by rw [eM12]; exact jnb_up (by decide)
          refine lv_aload_n C.x C.b dX8_parseSum_66 rfl (lv_at hl 2 rfl) ?_
          refine lv_iload C.x C.b dX8_parseSum_67 (lv_at hl 0 rfl) ?_
          refine lv_iload_n C.x C.b dX8_parseSum_69 rfl (lv_at hl 4 rfl) ?_
          refine lv_aload_n C.x C.b dX8_parseSum_70 rfl (lv_at hl 1 rfl) ?_
          refine lv_aload_n C.x C.b dX8_parseSum_71 rfl (lv_at hl 2 rfl) ?_
          refine lv_iload_n C.x C.b dX8_parseSum_72 rfl (lv_at hl 3 rfl) ?_
          refine jr_V (d' := (3 * nd + 8)) C G jc8 jm_X8_parseProduct wd709 h rfl (show 0 < 1 by decide) (by decide) rfl rfl (by omega) (Nat.le_refl 0) (Nat.le_refl 0) ⟨rfl, rfl⟩ hl.1 (Nat.le_of_ble_eq_true rfl) dX8_parseSum_73 (fun r13 r13n M14 H locs h G => ?_)
          obtain ⟨nM14, h⟩ := h
          refine jr_S (d' := (3 * nd + 8)) C G jm_X8_join wd732 h rfl rfl rfl (by omega) (Nat.le_refl 0) (Nat.le_refl 0) ⟨rfl, rfl⟩ hl.1 (Nat.le_of_ble_eq_true rfl) dX8_parseSum_76 (fun r15 r15n M16 H locs h G => ?_)
          obtain ⟨nM16, h⟩ := h
          refine lv_istore_n (lv' := [(3, .int r15), (5, .int 0), (0, .ref (g 8 0)), (1, .ref (g 0 n1)), (2, .int v2), (4, .int v4)]) C.x C.b dX8_parseSum_79 rfl hl (by decide) rfl (fun ls hl => ?_)
          refine lv_iinc (v := v4 + 1) (lv' := [(4, .int (v4 + 1)), (3, .int r15), (5, .int 0), (0, .ref (g 8 0)), (1, .ref (g 0 n1)), (2, .int v2)]) C.x C.b dX8_parseSum_80 hl (k := 5) rfl rfl (by decide) rfl (fun ls hl => ?_)
          refine lv_goto (tgt := 10) C.x C.b dX8_parseSum_83 (by decide) ?_
          exact h p l e s m args below meth c D cA base g C hr htb _ _ G ls (lv_sub hl [3, 4, 5, 1, 0] rfl)
      · have h := h.2 hc
        refine lv_aload_n C.x C.b dX8_parseSum_31 rfl (lv_at hl 0 rfl) ?_
        obtain ⟨hp19, h⟩ := h
        refine jr_V (d' := (3 * nd + 8)) C G jc8 jm_X8_peek wd631 (sp_X8_peek hp19 ⟨rfl, rfl⟩ : ok_X8_peek  M (fun r _ M' => (jpk M) = r ∧ M = M')) rfl (show 0 < 1 by decide) (by decide) rfl rfl (by omega) (Nat.le_refl 0) (Nat.le_refl 0) ⟨rfl, rfl⟩ hl.1 (Nat.le_of_ble_eq_true rfl) dX8_parseSum_32 (fun r17 r17n M18 H locs hq G => ?_)
        obtain ⟨eq1, eq2⟩ := hq
        subst eq1
        subst eq2
        refine lv_bipush (v := 45) C.x C.b dX8_parseSum_35 (by decide) ?_
        refine lv_icmp_ne (tgt := 86) C.x C.b dX8_parseSum_37 (by decide) (fun hc => ?_) (fun hc => ?_)
        · have h := h.2 hc
          refine lv_iload_n C.x C.b dX8_parseSum_86 rfl (lv_at hl 3 rfl) ?_
          exact jr_retI C hr G h (by decide) (by decide) dX8_parseSum_87
        · have h := h.1 hc
          refine lv_aload_n C.x C.b dX8_parseSum_40 rfl (lv_at hl 0 rfl) ?_
          obtain ⟨hp22, h⟩ := h
          refine jr_V (d' := (3 * nd + 8)) C G jc8 jm_X8_peek wd631 (sp_X8_peek hp22 ⟨rfl, rfl⟩ : ok_X8_peek  M (fun r _ M' => (jpk M) = r ∧ M = M')) rfl (show 0 < 1 by decide) (by decide) rfl rfl (by omega) (Nat.le_refl 0) (Nat.le_refl 0) ⟨rfl, rfl⟩ hl.1 (Nat.le_of_ble_eq_true rfl) dX8_parseSum_41 (fun r20 r20n M21 H locs hq G => ?_)
          obtain ⟨eq1, eq2⟩ := hq
          subst eq1
          subst eq2
          refine lv_bipush (v := 43) C.x C.b dX8_parseSum_44 (by decide) ?_
          refine lv_icmp_ne (tgt := 53) C.x C.b dX8_parseSum_46 (by decide) (fun hc => ?_) (fun hc => ?_)
          · have h := h.2 hc
            refine lv_iconst (v := 1) C.x C.b dX8_parseSum_53 (by decide) ?_
            refine lv_istore (lv' := [(5, .int 1), (0, .ref (g 8 0)), (1, .ref (g 0 n1)), (2, .int v2), (3, .int v3), (4, .int v4)]) C.x C.b dX8_parseSum_54 hl (by decide) rfl (fun ls hl => ?_)
            refine lv_aload_n C.x C.b dX8_parseSum_56 rfl (lv_at hl 1 rfl) ?_
            refine lv_dup C.x C.b dX8_parseSum_57 rfl ?_
            refine jr_get C G jc8 3 (v := .int (M 8 0 3)) (show 0 < 1 by decide) (by decide) (by decide) rfl wd239 dX8_parseSum_58 ?_
            refine lv_iconst (v := 1) C.x C.b dX8_parseSum_61 (by decide) ?_
            refine lv_iadd C.x C.b dX8_parseSum_62 ?_
            refine jr_put C G jc8 3 (v := (M 8 0 3) + 1) (show 0 < 1 by decide) (by decide) (by decide) rfl (by decide) wd239 rfl rfl rfl rfl dX8_parseSum_63 (fun H locs G => ?_)
            obtain ⟨M23, eM23⟩ : ∃ z : jM, z = jup M 8 0 3 ((M 8 0 3) + 1) := ⟨_, rfl⟩
            rw [← eM23] at G
            have h := h M23 eM23
            have nM23 : jnb M23 = jnb M := by rw [eM23]; exact jnb_up (by decide)
            refine lv_aload_n C.x C.b dX8_parseSum_66 rfl (lv_at hl 2 rfl) ?_
            refine lv_iload C.x C.b dX8_parseSum_67 (lv_at hl 0 rfl) ?_
            refine lv_iload_n C.x C.b dX8_parseSum_69 rfl (lv_at hl 4 rfl) ?_
            refine lv_aload_n C.x C.b dX8_parseSum_70 rfl (lv_at hl 1 rfl) ?_
            refine lv_aload_n C.x C.b dX8_parseSum_71 rfl (lv_at hl 2 rfl) ?_
            refine lv_iload_n C.x C.b dX8_parseSum_72 rfl (lv_at hl 3 rfl) ?_
            refine jr_V (d' := (3 * nd + 8)) C G jc8 jm_X8_parseProduct wd709 h rfl (show 0 < 1 by decide) (by decide) rfl rfl (by omega) (Nat.le_refl 0) (Nat.le_refl 0) ⟨rfl, rfl⟩ hl.1 (Nat.le_of_ble_eq_true rfl) dX8_parseSum_73 (fun r24 r24n M25 H locs h G => ?_)
            obtain ⟨nM25, h⟩ := h
            refine jr_S (d' := (3 * nd + 8)) C G jm_X8_join wd732 h rfl rfl rfl (by omega) (Nat.le_refl 0) (Nat.le_refl 0) ⟨rfl, rfl⟩ hl.1 (Nat.le_of_ble_eq_true rfl) dX8_parseSum_76 (fun r26 r26n M27 H locs h G => ?_)
            obtain ⟨nM27, h⟩ := h
            refine lv_istore_n (lv' := [(3, .int r26), (5, .int 1), (0, .ref (g 8 0)), (1, .ref (g 0 n1)), (2, .int v2), (4, .int v4)]) C.x C.b dX8_parseSum_79 rfl hl (by decide) rfl (fun ls hl => ?_)
            refine lv_iinc (v := v4 + 1) (lv' := [(4, .int (v4 + 1)), (3, .int r26), (5, .int 1), (0, .ref (g 8 0)), (1, .ref (g 0 n1)), (2, .int v2)]) C.x C.b dX8_parseSum_80 hl (k := 5) rfl rfl (by decide) rfl (fun ls hl => ?_)
            refine lv_goto (tgt := 10) C.x C.b dX8_parseSum_83 (by decide) ?_
            exact h p l e s m args below meth c D cA base g C hr htb _ _ G ls (lv_sub hl [3, 4, 5, 1, 0] rfl)
          · have h := h.1 hc
            refine lv_iconst (v := 0) C.x C.b dX8_parseSum_49 (by decide) ?_
            refine lv_goto (tgt := 54) C.x C.b dX8_parseSum_50 (by decide) ?_
            refine lv_istore (lv' := [(5, .int 0), (0, .ref (g 8 0)), (1, .ref (g 0 n1)), (2, .int v2), (3, .int v3), (4, .int v4)]) C.x C.b dX8_parseSum_54 hl (by decide) rfl (fun ls hl => ?_)
            refine lv_aload_n C.x C.b dX8_parseSum_56 rfl (lv_at hl 1 rfl) ?_
            refine lv_dup C.x C.b dX8_parseSum_57 rfl ?_
            refine jr_get C G jc8 3 (v := .int (M 8 0 3)) (show 0 < 1 by decide) (by decide) (by decide) rfl wd239 dX8_parseSum_58 ?_
            refine lv_iconst (v := 1) C.x C.b dX8_parseSum_61 (by decide) ?_
            refine lv_iadd C.x C.b dX8_parseSum_62 ?_
            refine jr_put C G jc8 3 (v := (M 8 0 3) + 1) (show 0 < 1 by decide) (by decide) (by decide) rfl (by decide) wd239 rfl rfl rfl rfl dX8_parseSum_63 (fun H locs G => ?_)
            obtain ⟨M28, eM28⟩ : ∃ z : jM, z = jup M 8 0 3 ((M 8 0 3) + 1) := ⟨_, rfl⟩
            rw [← eM28] at G
            have h := h M28 eM28
            have nM28 : jnb M28 = jnb M := by rw [eM28]; exact jnb_up (by decide)
            refine lv_aload_n C.x C.b dX8_parseSum_66 rfl (lv_at hl 2 rfl) ?_
            refine lv_iload C.x C.b dX8_parseSum_67 (lv_at hl 0 rfl) ?_
            refine lv_iload_n C.x C.b dX8_parseSum_69 rfl (lv_at hl 4 rfl) ?_
            refine lv_aload_n C.x C.b dX8_parseSum_70 rfl (lv_at hl 1 rfl) ?_
            refine lv_aload_n C.x C.b dX8_parseSum_71 rfl (lv_at hl 2 rfl) ?_
            refine lv_iload_n C.x C.b dX8_parseSum_72 rfl (lv_at hl 3 rfl) ?_
            refine jr_V (d' := (3 * nd + 8)) C G jc8 jm_X8_parseProduct wd709 h rfl (show 0 < 1 by decide) (by decide) rfl rfl (by omega) (Nat.le_refl 0) (Nat.le_refl 0) ⟨rfl, rfl⟩ hl.1 (Nat.le_of_ble_eq_true rfl) dX8_parseSum_73 (fun r29 r29n M30 H locs h G => ?_)
            obtain ⟨nM30, h⟩ := h
            refine jr_S (d' := (3 * nd + 8)) C G jm_X8_join wd732 h rfl rfl rfl (by omega) (Nat.le_refl 0) (Nat.le_refl 0) ⟨rfl, rfl⟩ hl.1 (Nat.le_of_ble_eq_true rfl) dX8_parseSum_76 (fun r31 r31n M32 H locs h G => ?_)
            obtain ⟨nM32, h⟩ := h
            refine lv_istore_n (lv' := [(3, .int r31), (5, .int 0), (0, .ref (g 8 0)), (1, .ref (g 0 n1)), (2, .int v2), (4, .int v4)]) C.x C.b dX8_parseSum_79 rfl hl (by decide) rfl (fun ls hl => ?_)
            refine lv_iinc (v := v4 + 1) (lv' := [(4, .int (v4 + 1)), (3, .int r31), (5, .int 0), (0, .ref (g 8 0)), (1, .ref (g 0 n1)), (2, .int v2)]) C.x C.b dX8_parseSum_80 hl (k := 5) rfl rfl (by decide) rfl (fun ls hl => ?_)
            refine lv_goto (tgt := 10) C.x C.b dX8_parseSum_83 (by decide) ?_
            exact h p l e s m args below meth c D cA base g C hr htb _ _ G ls (lv_sub hl [3, 4, 5, 1, 0] rfl)

theorem en_X8_parseStatement {n1 : Nat} {M : jM} {Q : Int32 → Nat → jM → Prop} (h : at_X8_parseStatement_0 n1 M Q) : ok_X8_parseStatement n1 M Q := jr_enter (by decide) (fun g => rfl) (fun g => Nat.le_of_ble_eq_true rfl) h
set_option maxHeartbeats 4000000 in
set_option maxRecDepth 100000 in
theorem bl_X8_parseStatement_0 (n1 : Nat) (M : jM) (Q : Int32 → Nat → jM → Prop) (ha0 : n1 < jnb M)
  (h : ok_X0_begin n1 M (fun _ _ M2 => jnb M2 = jnb M ∧ ok_X8_parseReference  M2 (fun r3 _ M4 => jnb M4 = jnb M2 ∧ (r3 = (-1) → Q 0 0 M4) ∧ (¬ (r3 = (-1)) → ok_X8_expect 7 M4 (fun r5 _ M6 => jnb M6 = jnb M4 ∧ (r5 = 0 → Q 0 0 M6) ∧ (¬ (r5 = 0) → ok_X8_parseSum 3 n1 0 M6 (fun r7 _ M8 => jnb M8 = jnb M6 ∧ (r7 = (-1) → Q 0 0 M8) ∧ (¬ (r7 = (-1)) → ok_X0_close n1 r3 r7 M8 (fun _ _ M10 => jnb M10 = jnb M8 ∧ Q 1 0 M10))))))))) :
  at_X8_parseStatement_0 n1 M Q := by
  intro p l e s m args below meth c D cA base g C hr htb H locs G ls hl
  refine lv_aload_n C.x C.b dX8_parseStatement_0 rfl (lv_at hl 1 rfl) ?_
  refine jr_V (d' := 18) C G jc0 jm_X0_begin wd690 h rfl (show n1 < jnb M by omega) (by decide) rfl rfl (by omega) (by decide) (by decide) ⟨rfl, rfl⟩ hl.1 (Nat.le_of_ble_eq_true rfl) dX8_parseStatement_1 (fun r1 r1n M2 H locs h G => ?_)
  obtain ⟨nM2, h⟩ := h
  refine lv_aload_n C.x C.b dX8_parseStatement_4 rfl (lv_at hl 0 rfl) ?_
  refine jr_V (d' := 18) C G jc8 jm_X8_parseReference wd698 h rfl (show 0 < 1 by decide) (by decide) rfl rfl (by omega) (by decide) (by decide) ⟨rfl, rfl⟩ hl.1 (Nat.le_of_ble_eq_true rfl) dX8_parseStatement_5 (fun r3 r3n M4 H locs h G => ?_)
  obtain ⟨nM4, h⟩ := h
  refine lv_istore_n (lv' := [(2, .int r3), (0, .ref (g 8 0)), (1, .ref (g 0 n1))]) C.x C.b dX8_parseStatement_8 rfl hl (by decide) rfl (fun ls hl => ?_)
  refine lv_iload_n C.x C.b dX8_parseStatement_9 rfl (lv_at hl 0 rfl) ?_
  refine lv_iconst (v := (-1)) C.x C.b dX8_parseStatement_10 (by decide) ?_
  refine lv_icmp_eq (tgt := 23) C.x C.b dX8_parseStatement_11 (by decide) (fun hc => ?_) (fun hc => ?_)
  · have h := h.1 hc
    refine lv_iconst (v := 0) C.x C.b dX8_parseStatement_23 (by decide) ?_
    exact jr_retZ C hr G rfl h (by decide) (by decide) dX8_parseStatement_24
  · have h := h.2 hc
    refine lv_aload_n C.x C.b dX8_parseStatement_14 rfl (lv_at hl 1 rfl) ?_
    refine va_ldcS C.x C.b C.ow (C.st.2.2.2.2.1 7 _ rfl) dX8_parseStatement_15 ?_
    refine jr_V (d' := 18) C G jc8 jm_X8_expect wd617 h rfl (show 0 < 1 by decide) (by decide) rfl rfl (by omega) (by decide) (by decide) ⟨rfl, rfl⟩ hl.1 (Nat.le_of_ble_eq_true rfl) dX8_parseStatement_17 (fun r5 r5n M6 H locs h G => ?_)
    obtain ⟨nM6, h⟩ := h
    refine lv_if_ne (tgt := 25) C.x C.b dX8_parseStatement_20 (by decide) (fun hc => ?_) (fun hc => ?_)
    · have h := h.2 hc
      refine lv_aload_n C.x C.b dX8_parseStatement_25 rfl (lv_at hl 1 rfl) ?_
      refine lv_aload_n C.x C.b dX8_parseStatement_26 rfl (lv_at hl 2 rfl) ?_
      refine lv_iconst (v := 0) C.x C.b dX8_parseStatement_27 (by decide) ?_
      refine jr_V (d' := 18) C G jc8 jm_X8_parseSum wd705 h rfl (show 0 < 1 by decide) (by decide) rfl rfl (by omega) (by decide) (by decide) ⟨rfl, rfl⟩ hl.1 (Nat.le_of_ble_eq_true rfl) dX8_parseStatement_28 (fun r7 r7n M8 H locs h G => ?_)
      obtain ⟨nM8, h⟩ := h
      refine lv_istore_n (lv' := [(3, .int r7), (2, .int r3), (0, .ref (g 8 0)), (1, .ref (g 0 n1))]) C.x C.b dX8_parseStatement_31 rfl hl (by decide) rfl (fun ls hl => ?_)
      refine lv_iload_n C.x C.b dX8_parseStatement_32 rfl (lv_at hl 0 rfl) ?_
      refine lv_iconst (v := (-1)) C.x C.b dX8_parseStatement_33 (by decide) ?_
      refine lv_icmp_ne (tgt := 39) C.x C.b dX8_parseStatement_34 (by decide) (fun hc => ?_) (fun hc => ?_)
      · have h := h.2 hc
        refine lv_aload_n C.x C.b dX8_parseStatement_39 rfl (lv_at hl 3 rfl) ?_
        refine lv_iload_n C.x C.b dX8_parseStatement_40 rfl (lv_at hl 1 rfl) ?_
        refine lv_iload_n C.x C.b dX8_parseStatement_41 rfl (lv_at hl 0 rfl) ?_
        refine jr_V (d' := 18) C G jc0 jm_X0_close wd742 h rfl (show n1 < jnb M8 by omega) (by decide) rfl rfl (by omega) (by decide) (by decide) ⟨rfl, rfl⟩ hl.1 (Nat.le_of_ble_eq_true rfl) dX8_parseStatement_42 (fun r9 r9n M10 H locs h G => ?_)
        obtain ⟨nM10, h⟩ := h
        refine lv_iconst (v := 1) C.x C.b dX8_parseStatement_45 (by decide) ?_
        exact jr_retZ C hr G rfl h (by decide) (by decide) dX8_parseStatement_46
      · have h := h.1 hc
        refine lv_iconst (v := 0) C.x C.b dX8_parseStatement_37 (by decide) ?_
        exact jr_retZ C hr G rfl h (by decide) (by decide) dX8_parseStatement_38
    · have h := h.1 hc
      refine lv_iconst (v := 0) C.x C.b dX8_parseStatement_23 (by decide) ?_
      exact jr_retZ C hr G rfl h (by decide) (by decide) dX8_parseStatement_24

