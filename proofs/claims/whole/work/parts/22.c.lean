theorem en_X8_parseLoop {n1 : Nat} {M : jM} {Q : Int32 → Nat → jM → Prop} (h : at_X8_parseLoop_0 n1 M Q) : ok_X8_parseLoop n1 M Q := jr_enterA (by decide) (fun g => rfl) (fun g => Nat.le_of_ble_eq_true rfl) h
set_option maxHeartbeats 4000000 in
set_option maxRecDepth 100000 in
theorem bl_X8_parseLoop_0 (n1 : Nat) (M : jM) (Q : Int32 → Nat → jM → Prop) (ha0 : n1 < 20)
  (h : jnb M + 1 < 2 ^ 31 ∧ (∀ M1 : jM, M1 = jnB M → (∀ M3 : jM, M3 = jup M1 3 n1 0 (nI (jnb M)) → ok_X8_expect 2 M3 (fun r4 _ M5 => jnb M5 = jnb M3 ∧ (r4 = 0 → Q 0 0 M5) ∧ (¬ (r4 = 0) → ok_X8_parseBound 0 M5 (fun r6 _ M7 => jnb M7 = jnb M5 ∧ (∀ M8 : jM, M8 = jup M7 3 n1 1 r6 → (M8 3 n1 1 = (-1) → Q 0 0 M8) ∧ (¬ (M8 3 n1 1 = (-1)) → ok_X8_expect 3 M8 (fun r9 _ M10 => jnb M10 = jnb M8 ∧ (r9 = 0 → Q 0 0 M10) ∧ (¬ (r9 = 0) → ok_X8_parseBound (M10 3 n1 1) M10 (fun r11 _ M12 => jnb M12 = jnb M10 ∧ (∀ M13 : jM, M13 = jup M12 3 n1 2 r11 → (M13 3 n1 2 = (-1) → Q 0 0 M13) ∧ (¬ (M13 3 n1 2 = (-1)) → ok_X8_expect 4 M13 (fun r14 _ M15 => jnb M15 = jnb M13 ∧ (r14 = 0 → Q 0 0 M15) ∧ (¬ (r14 = 0) → at_X8_parseLoop_88 (jnb M) 1 1 M15 Q))))))))))))))) :
  at_X8_parseLoop_0 n1 M Q := by
  intro p l e s m args below meth c D cA base n0 g0 g hx hn C hr htb H locs G ls hl
  obtain ⟨hnb, h⟩ := h
  refine jr_newBody (d' := 19) C G hnb (by decide) (by decide) ⟨rfl, rfl⟩ (by decide) hl.1 (Nat.le_of_ble_eq_true rfl) dX8_parseLoop_0 dX8_parseLoop_3 dX8_parseLoop_4 (fun g2 H locs hx1 G => ?_)
  have C := C.ext hx1
  have hx := hx.tr hx1 (by omega)
  have hl : lv_has ls 5 [(0, .ref (g 8 0)), (1, .ref (g 3 n1))] := hl
  rw [← hx1.1 8 0 (show 0 < jCntN (jnb M) 8 from (by show 0 < 1; omega))] at hl
  rw [← hx1.1 3 n1 (show n1 < jCntN (jnb M) 3 from (by show n1 < 20; omega))] at hl
  obtain ⟨M1, eM1⟩ : ∃ z : jM, z = jnB M := ⟨_, rfl⟩
  rw [← eM1] at G
  have h := h M1 eM1
  have nM1 : jnb M1 = jnb M + 1 := by rw [eM1]; exact jnb_nB hnb
  refine lv_astore_n (lv' := [(2, .ref (g2 0 (jnb M))), (0, .ref (g2 8 0)), (1, .ref (g2 3 n1))]) C.x C.b dX8_parseLoop_7 rfl hl (by decide) rfl (fun ls hl => ?_)
  refine lv_aload_n C.x C.b dX8_parseLoop_8 rfl (lv_at hl 2 rfl) ?_
  refine lv_aload_n C.x C.b dX8_parseLoop_9 rfl (lv_at hl 0 rfl) ?_
  refine jr_putB C G jc3 (show n1 < 20 by omega) (show (jnb M) < jnb M1 by omega) wd206 rfl rfl (fun _ => rfl) (fun _ => rfl) dX8_parseLoop_10 (fun H locs G => ?_)
  obtain ⟨M3, eM3⟩ : ∃ z : jM, z = jup M1 3 n1 0 (nI (jnb M)) := ⟨_, rfl⟩
  rw [← eM3] at G
  have h := h M3 eM3
  have nM3 : jnb M3 = jnb M1 := by rw [eM3]; exact jnb_up (by decide)
  refine lv_aload_n C.x C.b dX8_parseLoop_13 rfl (lv_at hl 1 rfl) ?_
  refine va_ldcS C.x C.b C.ow (C.st.2.2.2.2.1 2 _ rfl) dX8_parseLoop_14 ?_
  refine jr_V (d' := 19) C G jc8 jm_X8_expect wd617 h rfl (show 0 < 1 by decide) (by decide) rfl rfl (by omega) (by decide) (by decide) ⟨rfl, rfl⟩ hl.1 (Nat.le_of_ble_eq_true rfl) dX8_parseLoop_16 (fun r4 r4n M5 H locs h G => ?_)
  obtain ⟨nM5, h⟩ := h
  refine lv_if_ne (tgt := 24) C.x C.b dX8_parseLoop_19 (by decide) (fun hc => ?_) (fun hc => ?_)
  · have h := h.2 hc
    refine lv_aload_n C.x C.b dX8_parseLoop_24 rfl (lv_at hl 2 rfl) ?_
    refine lv_aload_n C.x C.b dX8_parseLoop_25 rfl (lv_at hl 1 rfl) ?_
    refine lv_iconst (v := 0) C.x C.b dX8_parseLoop_26 (by decide) ?_
    refine jr_V (d' := 19) C G jc8 jm_X8_parseBound wd673 h rfl (show 0 < 1 by decide) (by decide) rfl rfl (by omega) (by decide) (by decide) ⟨rfl, rfl⟩ hl.1 (Nat.le_of_ble_eq_true rfl) dX8_parseLoop_27 (fun r6 r6n M7 H locs h G => ?_)
    obtain ⟨nM7, h⟩ := h
    refine jr_put C G jc3 1 (v := r6) (show n1 < 20 by omega) (by decide) (by decide) rfl (by decide) wd212 rfl rfl rfl rfl dX8_parseLoop_30 (fun H locs G => ?_)
    obtain ⟨M8, eM8⟩ : ∃ z : jM, z = jup M7 3 n1 1 r6 := ⟨_, rfl⟩
    rw [← eM8] at G
    have h := h M8 eM8
    have nM8 : jnb M8 = jnb M7 := by rw [eM8]; exact jnb_up (by decide)
    refine lv_aload_n C.x C.b dX8_parseLoop_33 rfl (lv_at hl 2 rfl) ?_
    refine jr_get C G jc3 1 (v := .int (M8 3 n1 1)) (show n1 < 20 by omega) (by decide) (by decide) rfl wd212 dX8_parseLoop_34 ?_
    refine lv_iconst (v := (-1)) C.x C.b dX8_parseLoop_37 (by decide) ?_
    refine lv_icmp_eq (tgt := 50) C.x C.b dX8_parseLoop_38 (by decide) (fun hc => ?_) (fun hc => ?_)
    · have h := h.1 hc
      refine lv_iconst (v := 0) C.x C.b dX8_parseLoop_50 (by decide) ?_
      exact jr_retZA C hr G hx (by omega) rfl h (by decide) (by decide) dX8_parseLoop_51
    · have h := h.2 hc
      refine lv_aload_n C.x C.b dX8_parseLoop_41 rfl (lv_at hl 1 rfl) ?_
      refine va_ldcS C.x C.b C.ow (C.st.2.2.2.2.1 3 _ rfl) dX8_parseLoop_42 ?_
      refine jr_V (d' := 19) C G jc8 jm_X8_expect wd617 h rfl (show 0 < 1 by decide) (by decide) rfl rfl (by omega) (by decide) (by decide) ⟨rfl, rfl⟩ hl.1 (Nat.le_of_ble_eq_true rfl) dX8_parseLoop_44 (fun r9 r9n M10 H locs h G => ?_)
      obtain ⟨nM10, h⟩ := h
      refine lv_if_ne (tgt := 52) C.x C.b dX8_parseLoop_47 (by decide) (fun hc => ?_) (fun hc => ?_)
      · have h := h.2 hc
        refine lv_aload_n C.x C.b dX8_parseLoop_52 rfl (lv_at hl 2 rfl) ?_
        refine lv_aload_n C.x C.b dX8_parseLoop_53 rfl (lv_at hl 1 rfl) ?_
        refine lv_aload_n C.x C.b dX8_parseLoop_54 rfl (lv_at hl 2 rfl) ?_
        refine jr_get C G jc3 1 (v := .int (M10 3 n1 1)) (show n1 < 20 by omega) (by decide) (by decide) rfl wd212 dX8_parseLoop_55 ?_
        refine jr_V (d' := 19) C G jc8 jm_X8_parseBound wd673 h rfl (show 0 < 1 by decide) (by decide) rfl rfl (by omega) (by decide) (by decide) ⟨rfl, rfl⟩ hl.1 (Nat.le_of_ble_eq_true rfl) dX8_parseLoop_58 (fun r11 r11n M12 H locs h G => ?_)
        obtain ⟨nM12, h⟩ := h
        refine jr_put C G jc3 2 (v := r11) (show n1 < 20 by omega) (by decide) (by decide) rfl (by decide) wd218 rfl rfl rfl rfl dX8_parseLoop_61 (fun H locs G => ?_)
        obtain ⟨M13, eM13⟩ : ∃ z : jM, z = jup M12 3 n1 2 r11 := ⟨_, rfl⟩
        rw [← eM13] at G
        have h := h M13 eM13
        have nM13 : jnb M13 = jnb M12 := by rw [eM13]; exact jnb_up (by decide)
        refine lv_aload_n C.x C.b dX8_parseLoop_64 rfl (lv_at hl 2 rfl) ?_
        refine jr_get C G jc3 2 (v := .int (M13 3 n1 2)) (show n1 < 20 by omega) (by decide) (by decide) rfl wd218 dX8_parseLoop_65 ?_
        refine lv_iconst (v := (-1)) C.x C.b dX8_parseLoop_68 (by decide) ?_
        refine lv_icmp_eq (tgt := 81) C.x C.b dX8_parseLoop_69 (by decide) (fun hc => ?_) (fun hc => ?_)
        · have h := h.1 hc
          refine lv_iconst (v := 0) C.x C.b dX8_parseLoop_81 (by decide) ?_
          exact jr_retZA C hr G hx (by omega) rfl h (by decide) (by decide) dX8_parseLoop_82
        · have h := h.2 hc
          refine lv_aload_n C.x C.b dX8_parseLoop_72 rfl (lv_at hl 1 rfl) ?_
          refine va_ldcS C.x C.b C.ow (C.st.2.2.2.2.1 4 _ rfl) dX8_parseLoop_73 ?_
          refine jr_V (d' := 19) C G jc8 jm_X8_expect wd617 h rfl (show 0 < 1 by decide) (by decide) rfl rfl (by omega) (by decide) (by decide) ⟨rfl, rfl⟩ hl.1 (Nat.le_of_ble_eq_true rfl) dX8_parseLoop_75 (fun r14 r14n M15 H locs h G => ?_)
          obtain ⟨nM15, h⟩ := h
          refine lv_if_ne (tgt := 83) C.x C.b dX8_parseLoop_78 (by decide) (fun hc => ?_) (fun hc => ?_)
          · have h := h.2 hc
            refine lv_iconst (v := 1) C.x C.b dX8_parseLoop_83 (by decide) ?_
            refine lv_istore_n (lv' := [(3, .int 1), (2, .ref (g2 0 (jnb M))), (0, .ref (g2 8 0)), (1, .ref (g2 3 n1))]) C.x C.b dX8_parseLoop_84 rfl hl (by decide) rfl (fun ls hl => ?_)
            refine lv_iconst (v := 1) C.x C.b dX8_parseLoop_85 (by decide) ?_
            refine lv_istore (lv' := [(4, .int 1), (3, .int 1), (2, .ref (g2 0 (jnb M))), (0, .ref (g2 8 0)), (1, .ref (g2 3 n1))]) C.x C.b dX8_parseLoop_86 hl (by decide) rfl (fun ls hl => ?_)
            refine W.widen (by first | decide | omega) (by first | decide | omega) (h p l e s m args below meth c D cA base n0 g0 g2 hx (by omega) C hr htb _ _ G ls (lv_sub hl [3, 2, 1, 0] rfl))
          · have h := h.1 hc
            refine lv_iconst (v := 0) C.x C.b dX8_parseLoop_81 (by decide) ?_
            exact jr_retZA C hr G hx (by omega) rfl h (by decide) (by decide) dX8_parseLoop_82
      · have h := h.1 hc
        refine lv_iconst (v := 0) C.x C.b dX8_parseLoop_50 (by decide) ?_
        exact jr_retZA C hr G hx (by omega) rfl h (by decide) (by decide) dX8_parseLoop_51
  · have h := h.1 hc
    refine lv_iconst (v := 0) C.x C.b dX8_parseLoop_22 (by decide) ?_
    exact jr_retZA C hr G hx (by omega) rfl h (by decide) (by decide) dX8_parseLoop_23
set_option maxHeartbeats 4000000 in
set_option maxRecDepth 100000 in
theorem bl_X8_parseLoop_88 (n2 : Nat) (v3 : Int32) (v4 : Int32) (M : jM) (Q : Int32 → Nat → jM → Prop) (ha0 : n2 < jnb M)
  (h : (4 < v4 → ok_X8_expect 9 M (fun r1 _ M2 => jnb M2 = jnb M ∧ (r1 = 0 ∨ r1 = 1) ∧ Q r1 0 M2)) ∧ (¬ (4 < v4) → (v3 = 0 → ok_X8_expect 9 M (fun r3 _ M4 => jnb M4 = jnb M ∧ (r3 = 0 ∨ r3 = 1) ∧ Q r3 0 M4)) ∧ (¬ (v3 = 0) → ok_X8_parseStatement n2 M (fun r5 _ M6 => jnb M6 = jnb M ∧ (r5 = 0 → Q 0 0 M6) ∧ (¬ (r5 = 0) → (4 ≤ v4 → (∀ M7 : jM, M7 = jup M6 8 0 3 ((M6 8 0 3) + 0) → at_X8_parseLoop_88 n2 0 (v4 + 1) M7 Q)) ∧ (¬ (4 ≤ v4) → (jch M6) ∧ ((jpk M6) = 59 → (∀ M12 : jM, M12 = jup M6 8 0 3 ((M6 8 0 3) + 1) → at_X8_parseLoop_88 n2 1 (v4 + 1) M12 Q)) ∧ (¬ ((jpk M6) = 59) → (∀ M11 : jM, M11 = jup M6 8 0 3 ((M6 8 0 3) + 0) → at_X8_parseLoop_88 n2 0 (v4 + 1) M11 Q)))))))) :
  at_X8_parseLoop_88 n2 v3 v4 M Q := by
  intro p l e s m args below meth c D cA base n0 g0 g hx hn C hr htb H locs G ls hl
  refine lv_iload C.x C.b dX8_parseLoop_88 (lv_at hl 3 rfl) ?_
  refine lv_iconst (v := 4) C.x C.b dX8_parseLoop_90 (by decide) ?_
  refine lv_icmp_gt (tgt := 153) C.x C.b dX8_parseLoop_91 (by decide) (fun hc => ?_) (fun hc => ?_)
  · have h := h.1 hc
    refine lv_aload_n C.x C.b dX8_parseLoop_153 rfl (lv_at hl 0 rfl) ?_
    refine va_ldcS C.x C.b C.ow (C.st.2.2.2.2.1 9 _ rfl) dX8_parseLoop_154 ?_
    refine jr_V (d' := 19) C G jc8 jm_X8_expect wd617 h rfl (show 0 < 1 by decide) (by decide) rfl rfl (by omega) (by decide) (by decide) ⟨rfl, rfl⟩ hl.1 (Nat.le_of_ble_eq_true rfl) dX8_parseLoop_156 (fun r1 r1n M2 H locs h G => ?_)
    obtain ⟨nM2, h⟩ := h
    obtain ⟨hs, h⟩ := h
    exact jr_retZA C hr G hx (by omega) (jz_n hs) h (by decide) (by decide) dX8_parseLoop_159
  · have h := h.2 hc
    refine lv_iload_n C.x C.b dX8_parseLoop_94 rfl (lv_at hl 2 rfl) ?_
    refine lv_if_eq (tgt := 153) C.x C.b dX8_parseLoop_95 (by decide) (fun hc => ?_) (fun hc => ?_)
    · have h := h.1 hc
      refine lv_aload_n C.x C.b dX8_parseLoop_153 rfl (lv_at hl 0 rfl) ?_
      refine va_ldcS C.x C.b C.ow (C.st.2.2.2.2.1 9 _ rfl) dX8_parseLoop_154 ?_
      refine jr_V (d' := 19) C G jc8 jm_X8_expect wd617 h rfl (show 0 < 1 by decide) (by decide) rfl rfl (by omega) (by decide) (by decide) ⟨rfl, rfl⟩ hl.1 (Nat.le_of_ble_eq_true rfl) dX8_parseLoop_156 (fun r3 r3n M4 H locs h G => ?_)
      obtain ⟨nM4, h⟩ := h
      obtain ⟨hs, h⟩ := h
      exact jr_retZA C hr G hx (by omega) (jz_n hs) h (by decide) (by decide) dX8_parseLoop_159
    · have h := h.2 hc
      refine lv_aload_n C.x C.b dX8_parseLoop_98 rfl (lv_at hl 0 rfl) ?_
      refine lv_aload_n C.x C.b dX8_parseLoop_99 rfl (lv_at hl 1 rfl) ?_
      refine jr_V (d' := 19) C G jc8 jm_X8_parseStatement wd686 h rfl (show 0 < 1 by decide) (by decide) rfl rfl (by omega) (by decide) (by decide) ⟨rfl, rfl⟩ hl.1 (Nat.le_of_ble_eq_true rfl) dX8_parseLoop_100 (fun r5 r5n M6 H locs h G => ?_)
      obtain ⟨nM6, h⟩ := h
      refine lv_if_ne (tgt := 108) C.x C.b dX8_parseLoop_103 (by decide) (fun hc => ?_) (fun hc => ?_)
      · have h := h.2 hc
        refine lv_iload C.x C.b dX8_parseLoop_108 (lv_at hl 3 rfl) ?_
        refine lv_iconst (v := 4) C.x C.b dX8_parseLoop_110 (by decide) ?_
        refine lv_icmp_ge (tgt := 127) C.x C.b dX8_parseLoop_111 (by decide) (fun hc => ?_) (fun hc => ?_)
        · have h := h.1 hc
          refine lv_iconst (v := 0) C.x C.b dX8_parseLoop_127 (by decide) ?_
          refine lv_istore_n (lv' := [(3, .int 0), (0, .ref (g 8 0)), (2, .ref (g 0 n2)), (4, .int v4)]) C.x C.b dX8_parseLoop_128 rfl hl (by decide) rfl (fun ls hl => ?_)
          refine lv_aload_n C.x C.b dX8_parseLoop_129 rfl (lv_at hl 1 rfl) ?_
          refine lv_dup C.x C.b dX8_parseLoop_130 rfl ?_
          refine jr_get C G jc8 3 (v := .int (M6 8 0 3)) (show 0 < 1 by decide) (by decide) (by decide) rfl wd239 dX8_parseLoop_131 ?_
          refine lv_iload_n C.x C.b dX8_parseLoop_134 rfl (lv_at hl 0 rfl) ?_
          refine lv_if_eq (tgt := 142) C.x C.b dX8_parseLoop_135 (by decide) (fun _ => ?_) (fun hc => absurd hc (by decide))
          refine lv_iconst (v := 0) C.x C.b dX8_parseLoop_142 (by decide) ?_
          refine lv_iadd C.x C.b dX8_parseLoop_143 ?_
          refine jr_put C G jc8 3 (v := (M6 8 0 3) + 0) (show 0 < 1 by decide) (by decide) (by decide) rfl (by decide) wd239 rfl rfl rfl rfl dX8_parseLoop_144 (fun H locs G => ?_)
          obtain ⟨M7, eM7⟩ : ∃ z : jM, z = jup M6 8 0 3 ((M6 8 0 3) + 0) := ⟨_, rfl⟩
          rw [← eM7] at G
          have h := h M7 eM7
          have nM7 : jnb M7 = jnb M6 := by rw [eM7]; exact jnb_up (by decide)
          refine lv_iinc (v := v4 + 1) (lv' := [(4, .int (v4 + 1)), (3, .int 0), (0, .ref (g 8 0)), (2, .ref (g 0 n2))]) C.x C.b dX8_parseLoop_147 hl (k := 3) rfl rfl (by decide) rfl (fun ls hl => ?_)
          refine lv_goto (tgt := 88) C.x C.b dX8_parseLoop_150 (by decide) ?_
          refine W.widen (by first | decide | omega) (by first | decide | omega) (h p l e s m args below meth c D cA base n0 g0 g hx (by omega) C hr htb _ _ G ls (lv_sub hl [2, 3, 1, 0] rfl))
        · have h := h.2 hc
          refine lv_aload_n C.x C.b dX8_parseLoop_114 rfl (lv_at hl 0 rfl) ?_
          obtain ⟨hp10, h⟩ := h
          refine jr_V (d' := 19) C G jc8 jm_X8_peek wd631 (sp_X8_peek hp10 ⟨rfl, rfl⟩ : ok_X8_peek  M6 (fun r _ M' => (jpk M6) = r ∧ M6 = M')) rfl (show 0 < 1 by decide) (by decide) rfl rfl (by omega) (by decide) (by decide) ⟨rfl, rfl⟩ hl.1 (Nat.le_of_ble_eq_true rfl) dX8_parseLoop_115 (fun r8 r8n M9 H locs hq G => ?_)
          obtain ⟨eq1, eq2⟩ := hq
          subst eq1
          subst eq2
          refine lv_bipush (v := 59) C.x C.b dX8_parseLoop_118 (by decide) ?_
          refine lv_icmp_ne (tgt := 127) C.x C.b dX8_parseLoop_120 (by decide) (fun hc => ?_) (fun hc => ?_)
          · have h := h.2 hc
            refine lv_iconst (v := 0) C.x C.b dX8_parseLoop_127 (by decide) ?_
            refine lv_istore_n (lv' := [(3, .int 0), (0, .ref (g 8 0)), (2, .ref (g 0 n2)), (4, .int v4)]) C.x C.b dX8_parseLoop_128 rfl hl (by decide) rfl (fun ls hl => ?_)
            refine lv_aload_n C.x C.b dX8_parseLoop_129 rfl (lv_at hl 1 rfl) ?_
            refine lv_dup C.x C.b dX8_parseLoop_130 rfl ?_
            refine jr_get C G jc8 3 (v := .int (M6 8 0 3)) (show 0 < 1 by decide) (by decide) (by decide) rfl wd239 dX8_parseLoop_131 ?_
            refine lv_iload_n C.x C.b dX8_parseLoop_134 rfl (lv_at hl 0 rfl) ?_
            refine lv_if_eq (tgt := 142) C.x C.b dX8_parseLoop_135 (by decide) (fun _ => ?_) (fun hc => absurd hc (by decide))
            refine lv_iconst (v := 0) C.x C.b dX8_parseLoop_142 (by decide) ?_
            refine lv_iadd C.x C.b dX8_parseLoop_143 ?_
            refine jr_put C G jc8 3 (v := (M6 8 0 3) + 0) (show 0 < 1 by decide) (by decide) (by decide) rfl (by decide) wd239 rfl rfl rfl rfl dX8_parseLoop_144 (fun H locs G => ?_)
            obtain ⟨M11, eM11⟩ : ∃ z : jM, z = jup M6 8 0 3 ((M6 8 0 3) + 0) := ⟨_, rfl⟩
            rw [← eM11] at G
            have h := h M11 eM11
            have nM11 : jnb M11 = jnb M6 := by rw [eM11]; exact jnb_up (by decide)
            refine lv_iinc (v := v4 + 1) (lv' := [(4, .int (v4 + 1)), (3, .int 0), (0, .ref (g 8 0)), (2, .ref (g 0 n2))]) C.x C.b dX8_parseLoop_147 hl (k := 3) rfl rfl (by decide) rfl (fun ls hl => ?_)
            refine lv_goto (tgt := 88) C.x C.b dX8_parseLoop_150 (by decide) ?_
            refine W.widen (by first | decide | omega) (by first | decide | omega) (h p l e s m args below meth c D cA base n0 g0 g hx (by omega) C hr htb _ _ G ls (lv_sub hl [2, 3, 1, 0] rfl))
          · have h := h.1 hc
            refine lv_iconst (v := 1) C.x C.b dX8_parseLoop_123 (by decide) ?_
            refine lv_goto (tgt := 128) C.x C.b dX8_parseLoop_124 (by decide) ?_
            refine lv_istore_n (lv' := [(3, .int 1), (0, .ref (g 8 0)), (2, .ref (g 0 n2)), (4, .int v4)]) C.x C.b dX8_parseLoop_128 rfl hl (by decide) rfl (fun ls hl => ?_)
            refine lv_aload_n C.x C.b dX8_parseLoop_129 rfl (lv_at hl 1 rfl) ?_
            refine lv_dup C.x C.b dX8_parseLoop_130 rfl ?_
            refine jr_get C G jc8 3 (v := .int (M6 8 0 3)) (show 0 < 1 by decide) (by decide) (by decide) rfl wd239 dX8_parseLoop_131 ?_
            refine lv_iload_n C.x C.b dX8_parseLoop_134 rfl (lv_at hl 0 rfl) ?_
            refine lv_if_eq (tgt := 142) C.x C.b dX8_parseLoop_135 (by decide) (fun hc => absurd hc (by decide)) (fun _ => ?_)
            refine lv_iconst (v := 1) C.x C.b dX8_parseLoop_138 (by decide) ?_
            refine lv_goto (tgt := 143) C.x C.b dX8_parseLoop_139 (by decide) ?_
            refine lv_iadd C.x C.b dX8_parseLoop_143 ?_
            refine jr_put C G jc8 3 (v := (M6 8 0 3) + 1) (show 0 < 1 by decide) (by decide) (by decide) rfl (by decide) wd239 rfl rfl rfl rfl dX8_parseLoop_144 (fun H locs G => ?_)
            obtain ⟨M12, eM12⟩ : ∃ z : jM, z = jup M6 8 0 3 ((M6 8 0 3) + 1) := ⟨_, rfl⟩
            rw [← eM12] at G
            have h := h M12 eM12
            have nM12 : jnb M12 = jnb M6 := by rw [eM12]; exact jnb_up (by decide)
            refine lv_iinc (v := v4 + 1) (lv' := [(4, .int (v4 + 1)), (3, .int 1), (0, .ref (g 8 0)), (2, .ref (g 0 n2))]) C.x C.b dX8_parseLoop_147 hl (k := 3) rfl rfl (by decide) rfl (fun ls hl => ?_)
            refine lv_goto (tgt := 88) C.x C.b dX8_parseLoop_150 (by decide) ?_
            refine W.widen (by first | decide | omega) (by first | decide | omega) (h p l e s m args below meth c D cA base n0 g0 g hx (by omega) C hr htb _ _ G ls (lv_sub hl [2, 3, 1, 0] rfl))
      · have h := h.1 hc
        refine lv_iconst (v := 0) C.x C.b dX8_parseLoop_106 (by decide) ?_
        exact jr_retZA C hr G hx (by omega) rfl h (by decide) (by decide) dX8_parseLoop_107

theorem en_X8_parse  {M : jM} {Q : Int32 → Nat → jM → Prop} (h : at_X8_parse_0  M Q) : ok_X8_parse  M Q := jr_enterA (by decide) (fun g => rfl) (fun g => Nat.le_of_ble_eq_true rfl) h
set_option maxHeartbeats 4000000 in
set_option maxRecDepth 100000 in
theorem bl_X8_parse_0  (M : jM) (Q : Int32 → Nat → jM → Prop) 
  (h : (∀ M1 : jM, M1 = jup M 8 0 3 0 → (∀ M2 : jM, M2 = jup M1 8 0 4 0 → (∀ M3 : jM, M3 = jup M2 8 0 5 (-1) → at_X8_parse_19 0 1 0 M3 Q)))) :
  at_X8_parse_0  M Q := by
  intro p l e s m args below meth c D cA base n0 g0 g hx hn C hr htb H locs G ls hl
  refine lv_aload_n C.x C.b dX8_parse_0 rfl (lv_at hl 0 rfl) ?_
  refine lv_iconst (v := 0) C.x C.b dX8_parse_1 (by decide) ?_
  refine jr_put C G jc8 3 (v := 0) (show 0 < 1 by decide) (by decide) (by decide) rfl (by decide) wd239 rfl rfl rfl rfl dX8_parse_2 (fun H locs G => ?_)
  obtain ⟨M1, eM1⟩ : ∃ z : jM, z = jup M 8 0 3 0 := ⟨_, rfl⟩
  rw [← eM1] at G
  have h := h M1 eM1
  have nM1 : jnb M1 = jnb M := by rw [eM1]; exact jnb_up (by decide)
  refine lv_aload_n C.x C.b dX8_parse_5 rfl (lv_at hl 0 rfl) ?_
  refine lv_iconst (v := 0) C.x C.b dX8_parse_6 (by decide) ?_
  refine jr_put C G jc8 4 (v := 0) (show 0 < 1 by decide) (by decide) (by decide) rfl (by decide) wd240 rfl rfl rfl rfl dX8_parse_7 (fun H locs G => ?_)
  obtain ⟨M2, eM2⟩ : ∃ z : jM, z = jup M1 8 0 4 0 := ⟨_, rfl⟩
  rw [← eM2] at G
  have h := h M2 eM2
  have nM2 : jnb M2 = jnb M1 := by rw [eM2]; exact jnb_up (by decide)
  refine lv_aload_n C.x C.b dX8_parse_10 rfl (lv_at hl 0 rfl) ?_
  refine lv_iconst (v := (-1)) C.x C.b dX8_parse_11 (by decide) ?_
  refine jr_put C G jc8 5 (v := (-1)) (show 0 < 1 by decide) (by decide) (by decide) rfl (by decide) wd242 rfl rfl rfl rfl dX8_parse_12 (fun H locs G => ?_)
  obtain ⟨M3, eM3⟩ : ∃ z : jM, z = jup M2 8 0 5 (-1) := ⟨_, rfl⟩
  rw [← eM3] at G
  have h := h M3 eM3
  have nM3 : jnb M3 = jnb M2 := by rw [eM3]; exact jnb_up (by decide)
  refine lv_iconst (v := 1) C.x C.b dX8_parse_15 (by decide) ?_
  refine lv_istore_n (lv' := [(1, .int 1), (0, .ref (g 8 0))]) C.x C.b dX8_parse_16 rfl hl (by decide) rfl (fun ls hl => ?_)
  refine lv_iconst (v := 0) C.x C.b dX8_parse_17 (by decide) ?_
  refine lv_istore_n (lv' := [(2, .int 0), (1, .int 1), (0, .ref (g 8 0))]) C.x C.b dX8_parse_18 rfl hl (by decide) rfl (fun ls hl => ?_)
  refine W.widen (by first | decide | omega) (by first | decide | omega) (h p l e s m args below meth c D cA base n0 g0 g hx (by omega) C hr htb _ _ G ls (lv_sub hl [2, 1, 0] rfl))
set_option maxHeartbeats 4000000 in
set_option maxRecDepth 100000 in
theorem bl_X8_parse_19 (kc : Nat) (v1 : Int32) (v2 : Int32) (M : jM) (Q : Int32 → Nat → jM → Prop) (hkc8 : kc ≤ 8)
  (h : (8 ≤ v2 → (∀ M1 : jM, M1 = jup M 8 0 2 0 → Q 0 0 M1)) ∧ (¬ (8 ≤ v2) → (v1 = 0 → (∀ M2 : jM, M2 = jup M 8 0 2 0 → Q 0 0 M2)) ∧ (¬ (v1 = 0) → vp_in v2 8 ∧ kc < 8 ∧ ok_X8_parseLoop (12 + v2.toNatClampNeg) M (fun r4 _ M5 => (r4 = 0 → at_X8_parse_19 (kc + 1) 0 (v2 + 1) M5 Q) ∧ (¬ (r4 = 0) → (∀ M7 : jM, M7 = jup M5 8 0 4 ((M5 8 0 4) + 1) → ((M7 8 0 2) ≤ (M7 8 0 3) → at_X8_parse_19 (kc + 1) 0 (v2 + 1) M7 Q) ∧ (¬ ((M7 8 0 2) ≤ (M7 8 0 3)) → at_X8_parse_19 (kc + 1) 1 (v2 + 1) M7 Q))))))) :
  at_X8_parse_19 kc v1 v2 M Q := by
  intro p l e s m args below meth c D cA base n0 g0 g hx hn C hr htb H locs G ls hl
  refine lv_iload_n C.x C.b dX8_parse_19 rfl (lv_at hl 2 rfl) ?_
  refine lv_bipush (v := 8) C.x C.b dX8_parse_20 (by decide) ?_
  refine lv_icmp_ge (tgt := 77) C.x C.b dX8_parse_22 (by decide) (fun hc => ?_) (fun hc => ?_)
  · have h := h.1 hc
    refine lv_aload_n C.x C.b dX8_parse_77 rfl (lv_at hl 0 rfl) ?_
    refine lv_iconst (v := 0) C.x C.b dX8_parse_78 (by decide) ?_
    refine jr_put C G jc8 2 (v := 0) (show 0 < 1 by decide) (by decide) (by decide) rfl (by decide) wd237 rfl rfl rfl rfl dX8_parse_79 (fun H locs G => ?_)
    obtain ⟨M1, eM1⟩ : ∃ z : jM, z = jup M 8 0 2 0 := ⟨_, rfl⟩
    rw [← eM1] at G
    have h := h M1 eM1
    have nM1 : jnb M1 = jnb M := by rw [eM1]; exact jnb_up (by decide)
    exact jr_retVA C hr G hx (by omega) h (by first | decide | omega) (by first | decide | omega) dX8_parse_82
  · have h := h.2 hc
    refine lv_iload_n C.x C.b dX8_parse_25 rfl (lv_at hl 1 rfl) ?_
    refine lv_if_eq (tgt := 77) C.x C.b dX8_parse_26 (by decide) (fun hc => ?_) (fun hc => ?_)
    · have h := h.1 hc
      refine lv_aload_n C.x C.b dX8_parse_77 rfl (lv_at hl 0 rfl) ?_
      refine lv_iconst (v := 0) C.x C.b dX8_parse_78 (by decide) ?_
      refine jr_put C G jc8 2 (v := 0) (show 0 < 1 by decide) (by decide) (by decide) rfl (by decide) wd237 rfl rfl rfl rfl dX8_parse_79 (fun H locs G => ?_)
      obtain ⟨M2, eM2⟩ : ∃ z : jM, z = jup M 8 0 2 0 := ⟨_, rfl⟩
      rw [← eM2] at G
      have h := h M2 eM2
      have nM2 : jnb M2 = jnb M := by rw [eM2]; exact jnb_up (by decide)
      exact jr_retVA C hr G hx (by omega) h (by first | decide | omega) (by first | decide | omega) dX8_parse_82
    · have h := h.2 hc
      refine lv_iconst (v := 0) C.x C.b dX8_parse_29 (by decide) ?_
      refine lv_istore_n (lv' := [(1, .int 0), (0, .ref (g 8 0)), (2, .int v2)]) C.x C.b dX8_parse_30 rfl hl (by decide) rfl (fun ls hl => ?_)
      refine lv_aload_n C.x C.b dX8_parse_31 rfl (lv_at hl 1 rfl) ?_
      refine lv_aload_n C.x C.b dX8_parse_32 rfl (lv_at hl 1 rfl) ?_
      refine jr_get C G jc8 1 (v := .ref (g 42 0)) (show 0 < 1 by decide) (by decide) (by decide) rfl wd235 dX8_parse_33 ?_
      refine lv_iload_n C.x C.b dX8_parse_36 rfl (lv_at hl 2 rfl) ?_
      obtain ⟨hs, h⟩ := h
      have hj3 := vp_lt hs
      refine jr_aald C G (R := 42) (R' := 3) (i' := 12 + v2.toNatClampNeg) (show 0 < 1 by decide) (by decide) (by decide) (by decide) rfl rfl hs rfl dX8_parse_37 ?_
      obtain ⟨hkc, h⟩ := h
      refine jr_VA (d' := 20) C G jc8 jm_X8_parseLoop wd612 h rfl (show 0 < 1 by decide) (by decide) rfl rfl (by omega) (by first | decide | (show _ ≤ _; simp only [jRm]; omega)) (by first | decide | (show _ ≤ _; simp only [jRm]; omega)) ⟨rfl, rfl⟩ hl.1 (Nat.le_of_ble_eq_true rfl) dX8_parse_38 (fun r4 r4n M5 g6 H locs hx1 hn1 h G => ?_)
      have C := C.ext hx1
      have hx := hx.tr hx1 (by omega)
      have hl : lv_has ls 3 [(1, .int 0), (0, .ref (g 8 0)), (2, .int v2)] := hl
      rw [← hx1.1 8 0 (show 0 < jCntN (jnb M) 8 from (by show 0 < 1; omega))] at hl
      refine lv_if_eq (tgt := 71) C.x C.b dX8_parse_41 (by decide) (fun hc => ?_) (fun hc => ?_)
      · have h := h.1 hc
        refine lv_iinc (v := v2 + 1) (lv' := [(2, .int (v2 + 1)), (1, .int 0), (0, .ref (g6 8 0))]) C.x C.b dX8_parse_71 hl (k := 2) rfl rfl (by decide) rfl (fun ls hl => ?_)
        refine lv_goto (tgt := 19) C.x C.b dX8_parse_74 (by decide) ?_
        refine W.widen (by first | decide | omega) (by first | decide | omega) (h p l e s m args below meth c D cA base n0 g0 g6 hx (by omega) C hr htb _ _ G ls (lv_sub hl [2, 1, 0] rfl))
      · have h := h.2 hc
        refine lv_aload_n C.x C.b dX8_parse_44 rfl (lv_at hl 1 rfl) ?_
        refine lv_dup C.x C.b dX8_parse_45 rfl ?_
        refine jr_get C G jc8 4 (v := .int (M5 8 0 4)) (show 0 < 1 by decide) (by decide) (by decide) rfl wd240 dX8_parse_46 ?_
        refine lv_iconst (v := 1) C.x C.b dX8_parse_49 (by decide) ?_
        refine lv_iadd C.x C.b dX8_parse_50 ?_
        refine jr_put C G jc8 4 (v := (M5 8 0 4) + 1) (show 0 < 1 by decide) (by decide) (by decide) rfl (by decide) wd240 rfl rfl rfl rfl dX8_parse_51 (fun H locs G => ?_)
        obtain ⟨M7, eM7⟩ : ∃ z : jM, z = jup M5 8 0 4 ((M5 8 0 4) + 1) := ⟨_, rfl⟩
        rw [← eM7] at G
        have h := h M7 eM7
        have nM7 : jnb M7 = jnb M5 := by rw [eM7]; exact jnb_up (by decide)
        refine lv_aload_n C.x C.b dX8_parse_54 rfl (lv_at hl 1 rfl) ?_
        refine jr_get C G jc8 3 (v := .int (M7 8 0 3)) (show 0 < 1 by decide) (by decide) (by decide) rfl wd239 dX8_parse_55 ?_
        refine lv_aload_n C.x C.b dX8_parse_58 rfl (lv_at hl 1 rfl) ?_
        refine jr_get C G jc8 2 (v := .int (M7 8 0 2)) (show 0 < 1 by decide) (by decide) (by decide) rfl wd237 dX8_parse_59 ?_
        refine lv_icmp_ge (tgt := 69) C.x C.b dX8_parse_62 (by decide) (fun hc => ?_) (fun hc => ?_)
        · have h := h.1 hc
          refine lv_iconst (v := 0) C.x C.b dX8_parse_69 (by decide) ?_
          refine lv_istore_n (lv' := [(1, .int 0), (0, .ref (g6 8 0)), (2, .int v2)]) C.x C.b dX8_parse_70 rfl hl (by decide) rfl (fun ls hl => ?_)
          refine lv_iinc (v := v2 + 1) (lv' := [(2, .int (v2 + 1)), (1, .int 0), (0, .ref (g6 8 0))]) C.x C.b dX8_parse_71 hl (k := 2) rfl rfl (by decide) rfl (fun ls hl => ?_)
          refine lv_goto (tgt := 19) C.x C.b dX8_parse_74 (by decide) ?_
          refine W.widen (by first | decide | omega) (by first | decide | omega) (h p l e s m args below meth c D cA base n0 g0 g6 hx (by omega) C hr htb _ _ G ls (lv_sub hl [2, 1, 0] rfl))
        · have h := h.2 hc
          refine lv_iconst (v := 1) C.x C.b dX8_parse_65 (by decide) ?_
          refine lv_goto (tgt := 70) C.x C.b dX8_parse_66 (by decide) ?_
          refine lv_istore_n (lv' := [(1, .int 1), (0, .ref (g6 8 0)), (2, .int v2)]) C.x C.b dX8_parse_70 rfl hl (by decide) rfl (fun ls hl => ?_)
          refine lv_iinc (v := v2 + 1) (lv' := [(2, .int (v2 + 1)), (1, .int 1), (0, .ref (g6 8 0))]) C.x C.b dX8_parse_71 hl (k := 2) rfl rfl (by decide) rfl (fun ls hl => ?_)
          refine lv_goto (tgt := 19) C.x C.b dX8_parse_74 (by decide) ?_
          refine W.widen (by first | decide | omega) (by first | decide | omega) (h p l e s m args below meth c D cA base n0 g0 g6 hx (by omega) C hr htb _ _ G ls (lv_sub hl [2, 1, 0] rfl))

