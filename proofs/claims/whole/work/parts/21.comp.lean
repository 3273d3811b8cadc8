theorem en_X0_addReference {n0 : Nat} {v1 : Int32} {v2 : Int32} {M : jM} {Q : Int32 → Nat → jM → Prop} (h : at_X0_addReference_0 n0 v1 v2 M Q) : ok_X0_addReference n0 v1 v2 M Q := jr_enter (by decide) (fun g => rfl) (fun g => Nat.le_of_ble_eq_true rfl) h
set_option maxHeartbeats 4000000 in
set_option maxRecDepth 100000 in
theorem bl_X0_addReference_0 (n0 : Nat) (v1 : Int32) (v2 : Int32) (M : jM) (Q : Int32 → Nat → jM → Prop) (ha0 : n0 < jnb M)
  (h : (24 ≤ (M 0 n0 6) → Q 0 0 M) ∧ (¬ (24 ≤ (M 0 n0 6)) → vp_in (M 0 n0 6) 24 ∧ (∀ M1 : jM, M1 = jup M 20 n0 (M 0 n0 6).toNatClampNeg v1 → vp_in (M1 0 n0 6) 24 ∧ (v2 = 0 ∨ v2 = 1) ∧ (∀ M2 : jM, M2 = jup M1 21 n0 (M1 0 n0 6).toNatClampNeg v2 → vp_in (M2 0 n0 6) 24 ∧ (∀ M3 : jM, M3 = jup M2 22 n0 (M2 0 n0 6).toNatClampNeg (M2 0 n0 7) → (∀ M4 : jM, M4 = jup M3 0 n0 6 ((M3 0 n0 6) + 1) → Q 0 0 M4)))))) :
  at_X0_addReference_0 n0 v1 v2 M Q := by
  intro p l e s m args below meth c D cA base g C hr htb H locs G ls hl
  refine lv_aload_n C.x C.b dX0_addReference_0 rfl (lv_at hl 0 rfl) ?_
  refine jr_get C G jc0 6 (v := .int (M 0 n0 6)) (show n0 < jnb M by omega) (by decide) (by decide) rfl wd173 dX0_addReference_1 ?_
  refine lv_bipush (v := 24) C.x C.b dX0_addReference_4 (by decide) ?_
  refine lv_icmp_ge (tgt := 52) C.x C.b dX0_addReference_6 (by decide) (fun hc => ?_) (fun hc => ?_)
  · have h := h.1 hc
    exact jr_retV C hr G h (by decide) (by decide) dX0_addReference_52
  · have h := h.2 hc
    refine lv_aload_n C.x C.b dX0_addReference_9 rfl (lv_at hl 0 rfl) ?_
    refine jr_get C G jc0 0 (v := .ref (g 20 n0)) (show n0 < jnb M by omega) (by decide) (by decide) rfl wd155 dX0_addReference_10 ?_
    refine lv_aload_n C.x C.b dX0_addReference_13 rfl (lv_at hl 0 rfl) ?_
    refine jr_get C G jc0 6 (v := .int (M 0 n0 6)) (show n0 < jnb M by omega) (by decide) (by decide) rfl wd173 dX0_addReference_14 ?_
    refine lv_iload_n C.x C.b dX0_addReference_17 rfl (lv_at hl 1 rfl) ?_
    obtain ⟨hs, h⟩ := h
    refine jr_ast C G (show n0 < jnb M by omega) (by decide) (by decide) (by decide) rfl rfl hs dX0_addReference_18 (fun H locs G => ?_)
    obtain ⟨M1, eM1⟩ : ∃ z : jM, z = jup M 20 n0 (M 0 n0 6).toNatClampNeg v1 := ⟨_, rfl⟩
    rw [← eM1] at G
    have h := h M1 eM1
    have nM1 : jnb M1 = jnb M := by rw [eM1]; exact jnb_up (by decide)
    refine lv_aload_n C.x C.b dX0_addReference_19 rfl (lv_at hl 0 rfl) ?_
    refine jr_get C G jc0 1 (v := .ref (g 21 n0)) (show n0 < jnb M1 by omega) (by decide) (by decide) rfl wd159 dX0_addReference_20 ?_
    refine lv_aload_n C.x C.b dX0_addReference_23 rfl (lv_at hl 0 rfl) ?_
    refine jr_get C G jc0 6 (v := .int (M1 0 n0 6)) (show n0 < jnb M1 by omega) (by decide) (by decide) rfl wd173 dX0_addReference_24 ?_
    refine lv_iload_n C.x C.b dX0_addReference_27 rfl (lv_at hl 2 rfl) ?_
    obtain ⟨hs, h⟩ := h
    obtain ⟨hv, h⟩ := h
    refine jr_zast C G (show n0 < jnb M1 by omega) (by decide) (by decide) (by decide) rfl rfl hs (jz_n hv) dX0_addReference_28 (fun H locs G => ?_)
    obtain ⟨M2, eM2⟩ : ∃ z : jM, z = jup M1 21 n0 (M1 0 n0 6).toNatClampNeg v2 := ⟨_, rfl⟩
    rw [← eM2] at G
    have h := h M2 eM2
    have nM2 : jnb M2 = jnb M1 := by rw [eM2]; exact jnb_up (by decide)
    refine lv_aload_n C.x C.b dX0_addReference_29 rfl (lv_at hl 0 rfl) ?_
    refine jr_get C G jc0 2 (v := .ref (g 22 n0)) (show n0 < jnb M2 by omega) (by decide) (by decide) rfl wd163 dX0_addReference_30 ?_
    refine lv_aload_n C.x C.b dX0_addReference_33 rfl (lv_at hl 0 rfl) ?_
    refine jr_get C G jc0 6 (v := .int (M2 0 n0 6)) (show n0 < jnb M2 by omega) (by decide) (by decide) rfl wd173 dX0_addReference_34 ?_
    refine lv_aload_n C.x C.b dX0_addReference_37 rfl (lv_at hl 0 rfl) ?_
    refine jr_get C G jc0 7 (v := .int (M2 0 n0 7)) (show n0 < jnb M2 by omega) (by decide) (by decide) rfl wd176 dX0_addReference_38 ?_
    obtain ⟨hs, h⟩ := h
    refine jr_ast C G (show n0 < jnb M2 by omega) (by decide) (by decide) (by decide) rfl rfl hs dX0_addReference_41 (fun H locs G => ?_)
    obtain ⟨M3, eM3⟩ : ∃ z : jM, z = jup M2 22 n0 (M2 0 n0 6).toNatClampNeg (M2 0 n0 7) := ⟨_, rfl⟩
    rw [← eM3] at G
    have h := h M3 eM3
    have nM3 : jnb M3 = jnb M2 := by rw [eM3]; exact jnb_up (by decide)
    refine lv_aload_n C.x C.b dX0_addReference_42 rfl (lv_at hl 0 rfl) ?_
    refine lv_dup C.x C.b dX0_addReference_43 rfl ?_
    refine jr_get C G jc0 6 (v := .int (M3 0 n0 6)) (show n0 < jnb M3 by omega) (by decide) (by decide) rfl wd173 dX0_addReference_44 ?_
    refine lv_iconst (v := 1) C.x C.b dX0_addReference_47 (by decide) ?_
    refine lv_iadd C.x C.b dX0_addReference_48 ?_
    refine jr_put C G jc0 6 (v := (M3 0 n0 6) + 1) (show n0 < jnb M3 by omega) (by decide) (by decide) rfl (by decide) wd173 rfl rfl rfl rfl dX0_addReference_49 (fun H locs G => ?_)
    obtain ⟨M4, eM4⟩ : ∃ z : jM, z = jup M3 0 n0 6 ((M3 0 n0 6) + 1) := ⟨_, rfl⟩
    rw [← eM4] at G
    have h := h M4 eM4
    have nM4 : jnb M4 = jnb M3 := by rw [eM4]; exact jnb_up (by decide)
    exact jr_retV C hr G h (by decide) (by decide) dX0_addReference_52

theorem en_X0_addToken {n0 : Nat} {v1 : Int32} {v2 : Int32} {M : jM} {Q : Int32 → Nat → jM → Prop} (h : at_X0_addToken_0 n0 v1 v2 M Q) : ok_X0_addToken n0 v1 v2 M Q := jr_enter (by decide) (fun g => rfl) (fun g => Nat.le_of_ble_eq_true rfl) h
set_option maxHeartbeats 4000000 in
set_option maxRecDepth 100000 in
theorem bl_X0_addToken_0 (n0 : Nat) (v1 : Int32) (v2 : Int32) (M : jM) (Q : Int32 → Nat → jM → Prop) (ha0 : n0 < jnb M)
  (h : (120 ≤ (M 0 n0 8) → Q 0 0 M) ∧ (¬ (120 ≤ (M 0 n0 8)) → vp_in (M 0 n0 8) 120 ∧ (∀ M1 : jM, M1 = jup M 24 n0 (M 0 n0 8).toNatClampNeg v1 → vp_in (M1 0 n0 8) 120 ∧ (∀ M2 : jM, M2 = jup M1 25 n0 (M1 0 n0 8).toNatClampNeg v2 → (∀ M3 : jM, M3 = jup M2 0 n0 8 ((M2 0 n0 8) + 1) → Q 0 0 M3))))) :
  at_X0_addToken_0 n0 v1 v2 M Q := by
  intro p l e s m args below meth c D cA base g C hr htb H locs G ls hl
  refine lv_aload_n C.x C.b dX0_addToken_0 rfl (lv_at hl 0 rfl) ?_
  refine jr_get C G jc0 8 (v := .int (M 0 n0 8)) (show n0 < jnb M by omega) (by decide) (by decide) rfl wd179 dX0_addToken_1 ?_
  refine lv_bipush (v := 120) C.x C.b dX0_addToken_4 (by decide) ?_
  refine lv_icmp_ge (tgt := 39) C.x C.b dX0_addToken_6 (by decide) (fun hc => ?_) (fun hc => ?_)
  · have h := h.1 hc
    exact jr_retV C hr G h (by decide) (by decide) dX0_addToken_39
  · have h := h.2 hc
    refine lv_aload_n C.x C.b dX0_addToken_9 rfl (lv_at hl 0 rfl) ?_
    refine jr_get C G jc0 4 (v := .ref (g 24 n0)) (show n0 < jnb M by omega) (by decide) (by decide) rfl wd168 dX0_addToken_10 ?_
    refine lv_aload_n C.x C.b dX0_addToken_13 rfl (lv_at hl 0 rfl) ?_
    refine jr_get C G jc0 8 (v := .int (M 0 n0 8)) (show n0 < jnb M by omega) (by decide) (by decide) rfl wd179 dX0_addToken_14 ?_
    refine lv_iload_n C.x C.b dX0_addToken_17 rfl (lv_at hl 1 rfl) ?_
    obtain ⟨hs, h⟩ := h
    refine jr_ast C G (show n0 < jnb M by omega) (by decide) (by decide) (by decide) rfl rfl hs dX0_addToken_18 (fun H locs G => ?_)
    obtain ⟨M1, eM1⟩ : ∃ z : jM, z = jup M 24 n0 (M 0 n0 8).toNatClampNeg v1 := ⟨_, rfl⟩
    rw [← eM1] at G
    have h := h M1 eM1
    have nM1 : jnb M1 = jnb M := by rw [eM1]; exact jnb_up (by decide)
    refine lv_aload_n C.x C.b dX0_addToken_19 rfl (lv_at hl 0 rfl) ?_
    refine jr_get C G jc0 5 (v := .ref (g 25 n0)) (show n0 < jnb M1 by omega) (by decide) (by decide) rfl wd170 dX0_addToken_20 ?_
    refine lv_aload_n C.x C.b dX0_addToken_23 rfl (lv_at hl 0 rfl) ?_
    refine jr_get C G jc0 8 (v := .int (M1 0 n0 8)) (show n0 < jnb M1 by omega) (by decide) (by decide) rfl wd179 dX0_addToken_24 ?_
    refine lv_iload_n C.x C.b dX0_addToken_27 rfl (lv_at hl 2 rfl) ?_
    obtain ⟨hs, h⟩ := h
    refine jr_ast C G (show n0 < jnb M1 by omega) (by decide) (by decide) (by decide) rfl rfl hs dX0_addToken_28 (fun H locs G => ?_)
    obtain ⟨M2, eM2⟩ : ∃ z : jM, z = jup M1 25 n0 (M1 0 n0 8).toNatClampNeg v2 := ⟨_, rfl⟩
    rw [← eM2] at G
    have h := h M2 eM2
    have nM2 : jnb M2 = jnb M1 := by rw [eM2]; exact jnb_up (by decide)
    refine lv_aload_n C.x C.b dX0_addToken_29 rfl (lv_at hl 0 rfl) ?_
    refine lv_dup C.x C.b dX0_addToken_30 rfl ?_
    refine jr_get C G jc0 8 (v := .int (M2 0 n0 8)) (show n0 < jnb M2 by omega) (by decide) (by decide) rfl wd179 dX0_addToken_31 ?_
    refine lv_iconst (v := 1) C.x C.b dX0_addToken_34 (by decide) ?_
    refine lv_iadd C.x C.b dX0_addToken_35 ?_
    refine jr_put C G jc0 8 (v := (M2 0 n0 8) + 1) (show n0 < jnb M2 by omega) (by decide) (by decide) rfl (by decide) wd179 rfl rfl rfl rfl dX0_addToken_36 (fun H locs G => ?_)
    obtain ⟨M3, eM3⟩ : ∃ z : jM, z = jup M2 0 n0 8 ((M2 0 n0 8) + 1) := ⟨_, rfl⟩
    rw [← eM3] at G
    have h := h M3 eM3
    have nM3 : jnb M3 = jnb M2 := by rw [eM3]; exact jnb_up (by decide)
    exact jr_retV C hr G h (by decide) (by decide) dX0_addToken_39

theorem en_X3_copyFrom {n0 : Nat} {n1 : Nat} {M : jM} {Q : Int32 → Nat → jM → Prop} (h : at_X3_copyFrom_0 n0 n1 M Q) : ok_X3_copyFrom n0 n1 M Q := jr_enter (by decide) (fun g => rfl) (fun g => Nat.le_of_ble_eq_true rfl) h
set_option maxHeartbeats 4000000 in
set_option maxRecDepth 100000 in
theorem bl_X3_copyFrom_0 (n0 : Nat) (n1 : Nat) (M : jM) (Q : Int32 → Nat → jM → Prop) (ha0 : n0 < 20) (ha1 : n1 < 20)
  (h : (∀ M2 : jM, M2 = jup M 3 n0 0 (nI ((M 3 n1 0).toNatClampNeg)) → (∀ M3 : jM, M3 = jup M2 3 n0 1 (M2 3 n1 1) → (∀ M4 : jM, M4 = jup M3 3 n0 2 (M3 3 n1 2) → (M4 3 n1 3 = 0 ∨ M4 3 n1 3 = 1) ∧ (∀ M5 : jM, M5 = jup M4 3 n0 3 (M4 3 n1 3) → Q 0 0 M5))))) :
  at_X3_copyFrom_0 n0 n1 M Q := by
  intro p l e s m args below meth c D cA base g C hr htb H locs G ls hl
  refine lv_aload_n C.x C.b dX3_copyFrom_0 rfl (lv_at hl 0 rfl) ?_
  refine lv_aload_n C.x C.b dX3_copyFrom_1 rfl (lv_at hl 1 rfl) ?_
  have hb1 : (M 3 n1 0).toNatClampNeg < jnb M := G.1.2.2 _ (by omega)
  refine jr_get C G jc3 0 (v := .ref (g 0 ((M 3 n1 0).toNatClampNeg))) (show n1 < 20 by omega) (by decide) (by decide) rfl wd204 dX3_copyFrom_2 ?_
  refine jr_putB C G jc3 (show n0 < 20 by omega) (show (M 3 n1 0).toNatClampNeg < jnb M by omega) wd204 rfl rfl (fun _ => rfl) (fun _ => rfl) dX3_copyFrom_5 (fun H locs G => ?_)
  obtain ⟨M2, eM2⟩ : ∃ z : jM, z = jup M 3 n0 0 (nI ((M 3 n1 0).toNatClampNeg)) := ⟨_, rfl⟩
  rw [← eM2] at G
  have h := h M2 eM2
  have nM2 : jnb M2 = jnb M := by rw [eM2]; exact jnb_up (by decide)
  refine lv_aload_n C.x C.b dX3_copyFrom_8 rfl (lv_at hl 0 rfl) ?_
  refine lv_aload_n C.x C.b dX3_copyFrom_9 rfl (lv_at hl 1 rfl) ?_
  refine jr_get C G jc3 1 (v := .int (M2 3 n1 1)) (show n1 < 20 by omega) (by decide) (by decide) rfl wd209 dX3_copyFrom_10 ?_
  refine jr_put C G jc3 1 (v := M2 3 n1 1) (show n0 < 20 by omega) (by decide) (by decide) rfl (by decide) wd209 rfl rfl rfl rfl dX3_copyFrom_13 (fun H locs G => ?_)
  obtain ⟨M3, eM3⟩ : ∃ z : jM, z = jup M2 3 n0 1 (M2 3 n1 1) := ⟨_, rfl⟩
  rw [← eM3] at G
  have h := h M3 eM3
  have nM3 : jnb M3 = jnb M2 := by rw [eM3]; exact jnb_up (by decide)
  refine lv_aload_n C.x C.b dX3_copyFrom_16 rfl (lv_at hl 0 rfl) ?_
  refine lv_aload_n C.x C.b dX3_copyFrom_17 rfl (lv_at hl 1 rfl) ?_
  refine jr_get C G jc3 2 (v := .int (M3 3 n1 2)) (show n1 < 20 by omega) (by decide) (by decide) rfl wd215 dX3_copyFrom_18 ?_
  refine jr_put C G jc3 2 (v := M3 3 n1 2) (show n0 < 20 by omega) (by decide) (by decide) rfl (by decide) wd215 rfl rfl rfl rfl dX3_copyFrom_21 (fun H locs G => ?_)
  obtain ⟨M4, eM4⟩ : ∃ z : jM, z = jup M3 3 n0 2 (M3 3 n1 2) := ⟨_, rfl⟩
  rw [← eM4] at G
  have h := h M4 eM4
  have nM4 : jnb M4 = jnb M3 := by rw [eM4]; exact jnb_up (by decide)
  refine lv_aload_n C.x C.b dX3_copyFrom_24 rfl (lv_at hl 0 rfl) ?_
  refine lv_aload_n C.x C.b dX3_copyFrom_25 rfl (lv_at hl 1 rfl) ?_
  refine jr_get C G jc3 3 (v := .int (M4 3 n1 3)) (show n1 < 20 by omega) (by decide) (by decide) rfl wd221 dX3_copyFrom_26 ?_
  obtain ⟨hs, h⟩ := h
  refine jr_put C G jc3 3 (v := M4 3 n1 3) (show n0 < 20 by omega) (by decide) (by decide) rfl (by decide) wd221 rfl rfl (jz_n hs) (jz_f hs) dX3_copyFrom_29 (fun H locs G => ?_)
  obtain ⟨M5, eM5⟩ : ∃ z : jM, z = jup M4 3 n0 3 (M4 3 n1 3) := ⟨_, rfl⟩
  rw [← eM5] at G
  have h := h M5 eM5
  have nM5 : jnb M5 = jnb M4 := by rw [eM5]; exact jnb_up (by decide)
  exact jr_retV C hr G h (by decide) (by decide) dX3_copyFrom_32

theorem en_X4_begin {n0 : Nat} {v1 : Int32} {M : jM} {Q : Int32 → Nat → jM → Prop} (h : at_X4_begin_0 n0 v1 M Q) : ok_X4_begin n0 v1 M Q := jr_enter (by decide) (fun g => rfl) (fun g => Nat.le_of_ble_eq_true rfl) h
set_option maxHeartbeats 4000000 in
set_option maxRecDepth 100000 in
theorem bl_X4_begin_0 (n0 : Nat) (v1 : Int32) (M : jM) (Q : Int32 → Nat → jM → Prop) (ha0 : n0 < 4)
  (h : at_X4_begin_2 n0 v1 0 M Q) :
  at_X4_begin_0 n0 v1 M Q := by
  intro p l e s m args below meth c D cA base g C hr htb H locs G ls hl
  refine lv_iconst (v := 0) C.x C.b dX4_begin_0 (by decide) ?_
  refine lv_istore_n (lv' := [(2, .int 0), (0, .ref (g 4 n0)), (1, .int v1)]) C.x C.b dX4_begin_1 rfl hl (by decide) rfl (fun ls hl => ?_)
  exact h p l e s m args below meth c D cA base g C hr htb _ _ G ls (lv_sub hl [1, 2, 0] rfl)
set_option maxHeartbeats 4000000 in
set_option maxRecDepth 100000 in
theorem bl_X4_begin_2 (n0 : Nat) (v1 : Int32) (v2 : Int32) (M : jM) (Q : Int32 → Nat → jM → Prop) (ha0 : n0 < 4)
  (h : (245 ≤ v2 → Q 0 0 M) ∧ (¬ (245 ≤ v2) → vp_in v2 245 ∧ (∀ M1 : jM, M1 = jup M 33 n0 v2.toNatClampNeg ((((v2 / 49) + 1) * v1) + (7 * ((v2 - v2 / 49 * 49) + (-9)))) → at_X4_begin_2 n0 v1 (v2 + 1) M1 Q))) :
  at_X4_begin_2 n0 v1 v2 M Q := by
  intro p l e s m args below meth c D cA base g C hr htb H locs G ls hl
  refine lv_iload_n C.x C.b dX4_begin_2 rfl (lv_at hl 2 rfl) ?_
  refine lv_sipush (v := 245) C.x C.b dX4_begin_3 (by decide) ?_
  refine lv_icmp_ge (tgt := 40) C.x C.b dX4_begin_6 (by decide) (fun hc => ?_) (fun hc => ?_)
  · have h := h.1 hc
    exact jr_retV C hr G h (by decide) (by decide) dX4_begin_40
  · have h := h.2 hc
    refine lv_aload_n C.x C.b dX4_begin_9 rfl (lv_at hl 0 rfl) ?_
    refine jr_get C G jc4 0 (v := .ref (g 33 n0)) (show n0 < 4 by omega) (by decide) (by decide) rfl wd399 dX4_begin_10 ?_
    refine lv_iload_n C.x C.b dX4_begin_13 rfl (lv_at hl 2 rfl) ?_
    refine lv_iload_n C.x C.b dX4_begin_14 rfl (lv_at hl 2 rfl) ?_
    refine lv_bipush (v := 49) C.x C.b dX4_begin_15 (by decide) ?_
    refine lv_idiv C.x C.b dX4_begin_17 (by decide) ?_
    refine lv_iconst (v := 1) C.x C.b dX4_begin_18 (by decide) ?_
    refine lv_iadd C.x C.b dX4_begin_19 ?_
    refine lv_iload_n C.x C.b dX4_begin_20 rfl (lv_at hl 1 rfl) ?_
    refine lv_imul C.x C.b dX4_begin_21 ?_
    refine lv_bipush (v := 7) C.x C.b dX4_begin_22 (by decide) ?_
    refine lv_iload_n C.x C.b dX4_begin_24 rfl (lv_at hl 2 rfl) ?_
    refine lv_bipush (v := 49) C.x C.b dX4_begin_25 (by decide) ?_
    refine lv_irem C.x C.b dX4_begin_27 (by decide) ?_
    refine lv_bipush (v := (-9)) C.x C.b dX4_begin_28 (by decide) ?_
    refine lv_iadd C.x C.b dX4_begin_30 ?_
    refine lv_imul C.x C.b dX4_begin_31 ?_
    refine lv_iadd C.x C.b dX4_begin_32 ?_
    obtain ⟨hs, h⟩ := h
    refine jr_ast C G (show n0 < 4 by omega) (by decide) (by decide) (by decide) rfl rfl hs dX4_begin_33 (fun H locs G => ?_)
    obtain ⟨M1, eM1⟩ : ∃ z : jM, z = jup M 33 n0 v2.toNatClampNeg ((((v2 / 49) + 1) * v1) + (7 * ((v2 - v2 / 49 * 49) + (-9)))) := ⟨_, rfl⟩
    rw [← eM1] at G
    have h := h M1 eM1
    have nM1 : jnb M1 = jnb M := by rw [eM1]; exact jnb_up (by decide)
    refine lv_iinc (v := v2 + 1) (lv' := [(2, .int (v2 + 1)), (0, .ref (g 4 n0)), (1, .int v1)]) C.x C.b dX4_begin_34 hl (k := 2) rfl rfl (by decide) rfl (fun ls hl => ?_)
    refine lv_goto (tgt := 2) C.x C.b dX4_begin_37 (by decide) ?_
    exact h p l e s m args below meth c D cA base g C hr htb _ _ G ls (lv_sub hl [1, 2, 0] rfl)

theorem en_X5_groupWith {n0 : Nat} {v1 : Int32} {M : jM} {Q : Int32 → Nat → jM → Prop} (h : at_X5_groupWith_0 n0 v1 M Q) : ok_X5_groupWith n0 v1 M Q := jr_enter (by decide) (fun g => rfl) (fun g => Nat.le_of_ble_eq_true rfl) h
set_option maxHeartbeats 4000000 in
set_option maxRecDepth 100000 in
theorem bl_X5_groupWith_0 (n0 : Nat) (v1 : Int32) (M : jM) (Q : Int32 → Nat → jM → Prop) (ha0 : n0 < 3)
  (h : at_X5_groupWith_4 n0 v1 0 1 M Q) :
  at_X5_groupWith_0 n0 v1 M Q := by
  intro p l e s m args below meth c D cA base g C hr htb H locs G ls hl
  refine lv_iconst (v := 0) C.x C.b dX5_groupWith_0 (by decide) ?_
  refine lv_istore_n (lv' := [(2, .int 0), (0, .ref (g 5 n0)), (1, .int v1)]) C.x C.b dX5_groupWith_1 rfl hl (by decide) rfl (fun ls hl => ?_)
  refine lv_iconst (v := 1) C.x C.b dX5_groupWith_2 (by decide) ?_
  refine lv_istore_n (lv' := [(3, .int 1), (2, .int 0), (0, .ref (g 5 n0)), (1, .int v1)]) C.x C.b dX5_groupWith_3 rfl hl (by decide) rfl (fun ls hl => ?_)
  exact h p l e s m args below meth c D cA base g C hr htb _ _ G ls (lv_sub hl [2, 3, 1, 0] rfl)
set_option maxHeartbeats 4000000 in
set_option maxRecDepth 100000 in
theorem bl_X5_groupWith_4 (n0 : Nat) (v1 : Int32) (v2 : Int32) (v3 : Int32) (M : jM) (Q : Int32 → Nat → jM → Prop) (ha0 : n0 < 3)
  (h : ((M 5 n0 9) ≤ v3 → Q v2 0 M) ∧ (¬ ((M 5 n0 9) ≤ v3) → (6 < v3 → Q v2 0 M) ∧ (¬ (6 < v3) → vp_in v3 7 ∧ (v1 < (M 35 n0 v3.toNatClampNeg) → at_X5_groupWith_4 n0 v1 v2 (v3 + 1) M Q) ∧ (¬ (v1 < (M 35 n0 v3.toNatClampNeg)) → at_X5_groupWith_4 n0 v1 v3 (v3 + 1) M Q)))) :
  at_X5_groupWith_4 n0 v1 v2 v3 M Q := by
  intro p l e s m args below meth c D cA base g C hr htb H locs G ls hl
  refine lv_iload_n C.x C.b dX5_groupWith_4 rfl (lv_at hl 3 rfl) ?_
  refine lv_aload_n C.x C.b dX5_groupWith_5 rfl (lv_at hl 0 rfl) ?_
  refine jr_get C G jc5 9 (v := .int (M 5 n0 9)) (show n0 < 3 by omega) (by decide) (by decide) rfl wd426 dX5_groupWith_6 ?_
  refine lv_icmp_ge (tgt := 36) C.x C.b dX5_groupWith_9 (by decide) (fun hc => ?_) (fun hc => ?_)
  · have h := h.1 hc
    refine lv_iload_n C.x C.b dX5_groupWith_36 rfl (lv_at hl 2 rfl) ?_
    exact jr_retI C hr G h (by decide) (by decide) dX5_groupWith_37
  · have h := h.2 hc
    refine lv_iload_n C.x C.b dX5_groupWith_12 rfl (lv_at hl 3 rfl) ?_
    refine lv_bipush (v := 6) C.x C.b dX5_groupWith_13 (by decide) ?_
    refine lv_icmp_gt (tgt := 36) C.x C.b dX5_groupWith_15 (by decide) (fun hc => ?_) (fun hc => ?_)
    · have h := h.1 hc
      refine lv_iload_n C.x C.b dX5_groupWith_36 rfl (lv_at hl 2 rfl) ?_
      exact jr_retI C hr G h (by decide) (by decide) dX5_groupWith_37
    · have h := h.2 hc
      refine lv_aload_n C.x C.b dX5_groupWith_18 rfl (lv_at hl 0 rfl) ?_
      refine jr_get C G jc5 5 (v := .ref (g 35 n0)) (show n0 < 3 by omega) (by decide) (by decide) rfl wd422 dX5_groupWith_19 ?_
      refine lv_iload_n C.x C.b dX5_groupWith_22 rfl (lv_at hl 3 rfl) ?_
      obtain ⟨hs, h⟩ := h
      refine jr_ald C G (show n0 < 3 by omega) (by decide) (by decide) (by decide) rfl rfl hs dX5_groupWith_23 ?_
      refine lv_iload_n C.x C.b dX5_groupWith_24 rfl (lv_at hl 1 rfl) ?_
      refine lv_icmp_gt (tgt := 30) C.x C.b dX5_groupWith_25 (by decide) (fun hc => ?_) (fun hc => ?_)
      · have h := h.1 hc
        refine lv_iinc (v := v3 + 1) (lv' := [(3, .int (v3 + 1)), (0, .ref (g 5 n0)), (1, .int v1), (2, .int v2)]) C.x C.b dX5_groupWith_30 hl (k := 3) rfl rfl (by decide) rfl (fun ls hl => ?_)
        refine lv_goto (tgt := 4) C.x C.b dX5_groupWith_33 (by decide) ?_
        exact h p l e s m args below meth c D cA base g C hr htb _ _ G ls (lv_sub hl [1, 2, 3, 0] rfl)
      · have h := h.2 hc
        refine lv_iload_n C.x C.b dX5_groupWith_28 rfl (lv_at hl 3 rfl) ?_
        refine lv_istore_n (lv' := [(2, .int v3), (0, .ref (g 5 n0)), (1, .int v1), (3, .int v3)]) C.x C.b dX5_groupWith_29 rfl hl (by decide) rfl (fun ls hl => ?_)
        refine lv_iinc (v := v3 + 1) (lv' := [(3, .int (v3 + 1)), (2, .int v3), (0, .ref (g 5 n0)), (1, .int v1)]) C.x C.b dX5_groupWith_30 hl (k := 3) rfl rfl (by decide) rfl (fun ls hl => ?_)
        refine lv_goto (tgt := 4) C.x C.b dX5_groupWith_33 (by decide) ?_
        exact h p l e s m args below meth c D cA base g C hr htb _ _ G ls (lv_sub hl [2, 3, 1, 0] rfl)

theorem en_X6_replaceOption {n0 : Nat} {v1 : Int32} {v2 : Int32} {M : jM} {Q : Int32 → Nat → jM → Prop} (h : at_X6_replaceOption_0 n0 v1 v2 M Q) : ok_X6_replaceOption n0 v1 v2 M Q := jr_enter (by decide) (fun g => rfl) (fun g => Nat.le_of_ble_eq_true rfl) h
set_option maxHeartbeats 4000000 in
set_option maxRecDepth 100000 in
theorem bl_X6_replaceOption_0 (n0 : Nat) (v1 : Int32) (v2 : Int32) (M : jM) (Q : Int32 → Nat → jM → Prop) (ha0 : n0 < 2)
  (h : (v1 < 0 → Q 0 0 M) ∧ (¬ (v1 < 0) → (3 ≤ v1 → Q 0 0 M) ∧ (¬ (3 ≤ v1) → vp_in v1 3 ∧ (∀ M1 : jM, M1 = jup M 40 n0 v1.toNatClampNeg v2 → (∀ M2 : jM, M2 = jup M1 6 n0 3 ((M1 6 n0 3) + 1) → Q 0 0 M2))))) :
  at_X6_replaceOption_0 n0 v1 v2 M Q := by
  intro p l e s m args below meth c D cA base g C hr htb H locs G ls hl
  refine lv_iload_n C.x C.b dX6_replaceOption_0 rfl (lv_at hl 1 rfl) ?_
  refine lv_if_lt (tgt := 26) C.x C.b dX6_replaceOption_1 (by decide) (fun hc => ?_) (fun hc => ?_)
  · have h := h.1 hc
    exact jr_retV C hr G h (by decide) (by decide) dX6_replaceOption_26
  · have h := h.2 hc
    refine lv_iload_n C.x C.b dX6_replaceOption_4 rfl (lv_at hl 1 rfl) ?_
    refine lv_iconst (v := 3) C.x C.b dX6_replaceOption_5 (by decide) ?_
    refine lv_icmp_ge (tgt := 26) C.x C.b dX6_replaceOption_6 (by decide) (fun hc => ?_) (fun hc => ?_)
    · have h := h.1 hc
      exact jr_retV C hr G h (by decide) (by decide) dX6_replaceOption_26
    · have h := h.2 hc
      refine lv_aload_n C.x C.b dX6_replaceOption_9 rfl (lv_at hl 0 rfl) ?_
      refine jr_get C G jc6 1 (v := .ref (g 40 n0)) (show n0 < 2 by omega) (by decide) (by decide) rfl wd270 dX6_replaceOption_10 ?_
      refine lv_iload_n C.x C.b dX6_replaceOption_13 rfl (lv_at hl 1 rfl) ?_
      refine lv_iload_n C.x C.b dX6_replaceOption_14 rfl (lv_at hl 2 rfl) ?_
      obtain ⟨hs, h⟩ := h
      refine jr_ast C G (show n0 < 2 by omega) (by decide) (by decide) (by decide) rfl rfl hs dX6_replaceOption_15 (fun H locs G => ?_)
      obtain ⟨M1, eM1⟩ : ∃ z : jM, z = jup M 40 n0 v1.toNatClampNeg v2 := ⟨_, rfl⟩
      rw [← eM1] at G
      have h := h M1 eM1
      have nM1 : jnb M1 = jnb M := by rw [eM1]; exact jnb_up (by decide)
      refine lv_aload_n C.x C.b dX6_replaceOption_16 rfl (lv_at hl 0 rfl) ?_
      refine lv_dup C.x C.b dX6_replaceOption_17 rfl ?_
      refine jr_get C G jc6 3 (v := .int (M1 6 n0 3)) (show n0 < 2 by omega) (by decide) (by decide) rfl wd280 dX6_replaceOption_18 ?_
      refine lv_iconst (v := 1) C.x C.b dX6_replaceOption_21 (by decide) ?_
      refine lv_iadd C.x C.b dX6_replaceOption_22 ?_
      refine jr_put C G jc6 3 (v := (M1 6 n0 3) + 1) (show n0 < 2 by omega) (by decide) (by decide) rfl (by decide) wd280 rfl rfl rfl rfl dX6_replaceOption_23 (fun H locs G => ?_)
      obtain ⟨M2, eM2⟩ : ∃ z : jM, z = jup M1 6 n0 3 ((M1 6 n0 3) + 1) := ⟨_, rfl⟩
      rw [← eM2] at G
      have h := h M2 eM2
      have nM2 : jnb M2 = jnb M1 := by rw [eM2]; exact jnb_up (by decide)
      exact jr_retV C hr G h (by decide) (by decide) dX6_replaceOption_26

theorem en_X9_forget  {M : jM} {Q : Int32 → Nat → jM → Prop} (h : at_X9_forget_0  M Q) : ok_X9_forget  M Q := jr_enter (by decide) (fun g => rfl) (fun g => Nat.le_of_ble_eq_true rfl) h
set_option maxHeartbeats 4000000 in
set_option maxRecDepth 100000 in
theorem bl_X9_forget_0  (M : jM) (Q : Int32 → Nat → jM → Prop) 
  (h : at_X9_forget_2 0 M Q) :
  at_X9_forget_0  M Q := by
  intro p l e s m args below meth c D cA base g C hr htb H locs G ls hl
  refine lv_iconst (v := 0) C.x C.b dX9_forget_0 (by decide) ?_
  refine lv_istore_n (lv' := [(1, .int 0), (0, .ref (g 9 0))]) C.x C.b dX9_forget_1 rfl hl (by decide) rfl (fun ls hl => ?_)
  exact h p l e s m args below meth c D cA base g C hr htb _ _ G ls (lv_sub hl [1, 0] rfl)
set_option maxHeartbeats 4000000 in
set_option maxRecDepth 100000 in
theorem bl_X9_forget_2 (v1 : Int32) (M : jM) (Q : Int32 → Nat → jM → Prop) 
  (h : (245 ≤ v1 → Q 0 0 M) ∧ (¬ (245 ≤ v1) → vp_in v1 245 ∧ (∀ M1 : jM, M1 = jup M 43 0 v1.toNatClampNeg (-1000) → at_X9_forget_2 (v1 + 1) M1 Q))) :
  at_X9_forget_2 v1 M Q := by
  intro p l e s m args below meth c D cA base g C hr htb H locs G ls hl
  refine lv_iload_n C.x C.b dX9_forget_2 rfl (lv_at hl 1 rfl) ?_
  refine lv_sipush (v := 245) C.x C.b dX9_forget_3 (by decide) ?_
  refine lv_icmp_ge (tgt := 24) C.x C.b dX9_forget_6 (by decide) (fun hc => ?_) (fun hc => ?_)
  · have h := h.1 hc
    exact jr_retV C hr G h (by decide) (by decide) dX9_forget_24
  · have h := h.2 hc
    refine lv_aload_n C.x C.b dX9_forget_9 rfl (lv_at hl 0 rfl) ?_
    refine jr_get C G jc9 0 (v := .ref (g 43 0)) (show 0 < 1 by decide) (by decide) (by decide) rfl wd373 dX9_forget_10 ?_
    refine lv_iload_n C.x C.b dX9_forget_13 rfl (lv_at hl 1 rfl) ?_
    refine lv_sipush (v := (-1000)) C.x C.b dX9_forget_14 (by decide) ?_
    obtain ⟨hs, h⟩ := h
    refine jr_ast C G (show 0 < 1 by decide) (by decide) (by decide) (by decide) rfl rfl hs dX9_forget_17 (fun H locs G => ?_)
    obtain ⟨M1, eM1⟩ : ∃ z : jM, z = jup M 43 0 v1.toNatClampNeg (-1000) := ⟨_, rfl⟩
    rw [← eM1] at G
    have h := h M1 eM1
    have nM1 : jnb M1 = jnb M := by rw [eM1]; exact jnb_up (by decide)
    refine lv_iinc (v := v1 + 1) (lv' := [(1, .int (v1 + 1)), (0, .ref (g 9 0))]) C.x C.b dX9_forget_18 hl (k := 1) rfl rfl (by decide) rfl (fun ls hl => ?_)
    refine lv_goto (tgt := 2) C.x C.b dX9_forget_21 (by decide) ?_
    exact h p l e s m args below meth c D cA base g C hr htb _ _ G ls (lv_sub hl [1, 0] rfl)

theorem en_X0_addRead {n0 : Nat} {v1 : Int32} {M : jM} {Q : Int32 → Nat → jM → Prop} (h : at_X0_addRead_0 n0 v1 M Q) : ok_X0_addRead n0 v1 M Q := jr_enter (by decide) (fun g => rfl) (fun g => Nat.le_of_ble_eq_true rfl) h
set_option maxHeartbeats 4000000 in
set_option maxRecDepth 100000 in
theorem bl_X0_addRead_0 (n0 : Nat) (v1 : Int32) (M : jM) (Q : Int32 → Nat → jM → Prop) (ha0 : n0 < jnb M)
  (h : ok_X0_addReference n0 v1 0 M (fun _ _ M2 => jnb M2 = jnb M ∧ ok_X0_addToken n0 5 v1 M2 (fun _ _ M4 => jnb M4 = jnb M2 ∧ (0 ≤ M4 0 n0 7) ∧ (∀ M9 : jM, M9 = jup M4 7 (4 * n0 + (if M4 0 n0 7 < 4 then M4 0 n0 7 else 3).toNatClampNeg) 3 ((M4 7 (4 * n0 + (if M4 0 n0 7 < 4 then M4 0 n0 7 else 3).toNatClampNeg) 3) + 1) → Q 0 0 M9)))) :
  at_X0_addRead_0 n0 v1 M Q := by
  intro p l e s m args below meth c D cA base g C hr htb H locs G ls hl
  refine lv_aload_n C.x C.b dX0_addRead_0 rfl (lv_at hl 0 rfl) ?_
  refine lv_iload_n C.x C.b dX0_addRead_1 rfl (lv_at hl 1 rfl) ?_
  refine lv_iconst (v := 0) C.x C.b dX0_addRead_2 (by decide) ?_
  refine jr_V (d' := 1) C G jc0 jm_X0_addReference wd727 h rfl (show n0 < jnb M by omega) (by decide) rfl rfl (by omega) (by decide) (by decide) ⟨rfl, rfl⟩ hl.1 (Nat.le_of_ble_eq_true rfl) dX0_addRead_3 (fun r1 r1n M2 H locs h G => ?_)
  obtain ⟨nM2, h⟩ := h
  refine lv_aload_n C.x C.b dX0_addRead_6 rfl (lv_at hl 0 rfl) ?_
  refine lv_iconst (v := 5) C.x C.b dX0_addRead_7 (by decide) ?_
  refine lv_iload_n C.x C.b dX0_addRead_8 rfl (lv_at hl 1 rfl) ?_
  refine jr_V (d' := 1) C G jc0 jm_X0_addToken wd731 h rfl (show n0 < jnb M2 by omega) (by decide) rfl rfl (by omega) (by decide) (by decide) ⟨rfl, rfl⟩ hl.1 (Nat.le_of_ble_eq_true rfl) dX0_addRead_9 (fun r3 r3n M4 H locs h G => ?_)
  obtain ⟨nM4, h⟩ := h
  refine lv_aload_n C.x C.b dX0_addRead_12 rfl (lv_at hl 0 rfl) ?_
  obtain ⟨hp7, h⟩ := h
  refine jr_V (d' := 1) C G jc0 jm_X0_open wd694 (sp_X0_open (show n0 < jnb M4 by omega) hp7 ⟨rfl, rfl⟩ : ok_X0_open n0 M4 (fun _ r M' => 4 * n0 + (if M4 0 n0 7 < 4 then M4 0 n0 7 else 3).toNatClampNeg = r ∧ M4 = M')) rfl (show n0 < jnb M4 by omega) (by decide) rfl rfl (by omega) (by decide) (by decide) ⟨rfl, rfl⟩ hl.1 (Nat.le_of_ble_eq_true rfl) dX0_addRead_13 (fun r5 r5n M6 H locs hq G => ?_)
  obtain ⟨eq1, eq2⟩ := hq
  subst eq1
  subst eq2
  have hf8 := sp_open4 hp7
  refine lv_dup C.x C.b dX0_addRead_16 rfl ?_
  refine jr_get C G jc7 3 (v := .int (M4 7 (4 * n0 + (if M4 0 n0 7 < 4 then M4 0 n0 7 else 3).toNatClampNeg) 3)) (show 4 * n0 + (if M4 0 n0 7 < 4 then M4 0 n0 7 else 3).toNatClampNeg < 4 * jnb M4 by omega) (by decide) (by decide) rfl wd133 dX0_addRead_17 ?_
  refine lv_iconst (v := 1) C.x C.b dX0_addRead_20 (by decide) ?_
  refine lv_iadd C.x C.b dX0_addRead_21 ?_
  refine jr_put C G jc7 3 (v := (M4 7 (4 * n0 + (if M4 0 n0 7 < 4 then M4 0 n0 7 else 3).toNatClampNeg) 3) + 1) (show 4 * n0 + (if M4 0 n0 7 < 4 then M4 0 n0 7 else 3).toNatClampNeg < 4 * jnb M4 by omega) (by decide) (by decide) rfl (by decide) wd133 rfl rfl rfl rfl dX0_addRead_22 (fun H locs G => ?_)
  obtain ⟨M9, eM9⟩ : ∃ z : jM, z = jup M4 7 (4 * n0 + (if M4 0 n0 7 < 4 then M4 0 n0 7 else 3).toNatClampNeg) 3 ((M4 7 (4 * n0 + (if M4 0 n0 7 < 4 then M4 0 n0 7 else 3).toNatClampNeg) 3) + 1) := ⟨_, rfl⟩
  rw [← eM9] at G
  have h := h M9 eM9
  have nM9 : jnb M9 = jnb M4 := by rw [eM9]; exact jnb_up (by decide)
  exact jr_retV C hr G h (by decide) (by decide) dX0_addRead_25

theorem en_X0_addOperator {n0 : Nat} {v1 : Int32} {M : jM} {Q : Int32 → Nat → jM → Prop} (h : at_X0_addOperator_0 n0 v1 M Q) : ok_X0_addOperator n0 v1 M Q := jr_enter (by decide) (fun g => rfl) (fun g => Nat.le_of_ble_eq_true rfl) h
set_option maxHeartbeats 4000000 in
set_option maxRecDepth 100000 in
theorem bl_X0_addOperator_0 (n0 : Nat) (v1 : Int32) (M : jM) (Q : Int32 → Nat → jM → Prop) (ha0 : n0 < jnb M)
  (h : (v1 < 0 → Q 0 0 M) ∧ (¬ (v1 < 0) → (2 < v1 → Q 0 0 M) ∧ (¬ (2 < v1) → ok_X0_addToken n0 v1 0 M (fun _ _ M2 => jnb M2 = jnb M ∧ (0 ≤ M2 0 n0 7) ∧ vp_in v1 3 ∧ vp_in v1 3 ∧ (∀ M7 : jM, M7 = jup M2 26 (4 * n0 + (if M2 0 n0 7 < 4 then M2 0 n0 7 else 3).toNatClampNeg) v1.toNatClampNeg ((M2 26 (4 * n0 + (if M2 0 n0 7 < 4 then M2 0 n0 7 else 3).toNatClampNeg) v1.toNatClampNeg) + 1) → Q 0 0 M7))))) :
  at_X0_addOperator_0 n0 v1 M Q := by
  intro p l e s m args below meth c D cA base g C hr htb H locs G ls hl
  refine lv_iload_n C.x C.b dX0_addOperator_0 rfl (lv_at hl 1 rfl) ?_
  refine lv_if_lt (tgt := 28) C.x C.b dX0_addOperator_1 (by decide) (fun hc => ?_) (fun hc => ?_)
  · have h := h.1 hc
    exact jr_retV C hr G h (by decide) (by decide) dX0_addOperator_28
  · have h := h.2 hc
    refine lv_iload_n C.x C.b dX0_addOperator_4 rfl (lv_at hl 1 rfl) ?_
    refine lv_iconst (v := 2) C.x C.b dX0_addOperator_5 (by decide) ?_
    refine lv_icmp_gt (tgt := 28) C.x C.b dX0_addOperator_6 (by decide) (fun hc => ?_) (fun hc => ?_)
    · have h := h.1 hc
      exact jr_retV C hr G h (by decide) (by decide) dX0_addOperator_28
    · have h := h.2 hc
      refine lv_aload_n C.x C.b dX0_addOperator_9 rfl (lv_at hl 0 rfl) ?_
      refine lv_iload_n C.x C.b dX0_addOperator_10 rfl (lv_at hl 1 rfl) ?_
      refine lv_iconst (v := 0) C.x C.b dX0_addOperator_11 (by decide) ?_
      refine jr_V (d' := 1) C G jc0 jm_X0_addToken wd731 h rfl (show n0 < jnb M by omega) (by decide) rfl rfl (by omega) (by decide) (by decide) ⟨rfl, rfl⟩ hl.1 (Nat.le_of_ble_eq_true rfl) dX0_addOperator_12 (fun r1 r1n M2 H locs h G => ?_)
      obtain ⟨nM2, h⟩ := h
      refine lv_aload_n C.x C.b dX0_addOperator_15 rfl (lv_at hl 0 rfl) ?_
      obtain ⟨hp5, h⟩ := h
      refine jr_V (d' := 1) C G jc0 jm_X0_open wd694 (sp_X0_open (show n0 < jnb M2 by omega) hp5 ⟨rfl, rfl⟩ : ok_X0_open n0 M2 (fun _ r M' => 4 * n0 + (if M2 0 n0 7 < 4 then M2 0 n0 7 else 3).toNatClampNeg = r ∧ M2 = M')) rfl (show n0 < jnb M2 by omega) (by decide) rfl rfl (by omega) (by decide) (by decide) ⟨rfl, rfl⟩ hl.1 (Nat.le_of_ble_eq_true rfl) dX0_addOperator_16 (fun r3 r3n M4 H locs hq G => ?_)
      obtain ⟨eq1, eq2⟩ := hq
      subst eq1
      subst eq2
      have hf6 := sp_open4 hp5
      refine jr_get C G jc7 0 (v := .ref (g 26 (4 * n0 + (if M2 0 n0 7 < 4 then M2 0 n0 7 else 3).toNatClampNeg))) (show 4 * n0 + (if M2 0 n0 7 < 4 then M2 0 n0 7 else 3).toNatClampNeg < 4 * jnb M2 by omega) (by decide) (by decide) rfl wd127 dX0_addOperator_19 ?_
      refine lv_iload_n C.x C.b dX0_addOperator_22 rfl (lv_at hl 1 rfl) ?_
      refine lv_dup2_11 C.x C.b dX0_addOperator_23 rfl rfl ?_
      obtain ⟨hs, h⟩ := h
      refine jr_ald C G (show 4 * n0 + (if M2 0 n0 7 < 4 then M2 0 n0 7 else 3).toNatClampNeg < 4 * jnb M2 by omega) (by decide) (by decide) (by decide) rfl rfl hs dX0_addOperator_24 ?_
      refine lv_iconst (v := 1) C.x C.b dX0_addOperator_25 (by decide) ?_
      refine lv_iadd C.x C.b dX0_addOperator_26 ?_
      obtain ⟨hs, h⟩ := h
      refine jr_ast C G (show 4 * n0 + (if M2 0 n0 7 < 4 then M2 0 n0 7 else 3).toNatClampNeg < 4 * jnb M2 by omega) (by decide) (by decide) (by decide) rfl rfl hs dX0_addOperator_27 (fun H locs G => ?_)
      obtain ⟨M7, eM7⟩ : ∃ z : jM, z = jup M2 26 (4 * n0 + (if M2 0 n0 7 < 4 then M2 0 n0 7 else 3).toNatClampNeg) v1.toNatClampNeg ((M2 26 (4 * n0 + (if M2 0 n0 7 < 4 then M2 0 n0 7 else 3).toNatClampNeg) v1.toNatClampNeg) + 1) := ⟨_, rfl⟩
      rw [← eM7] at G
      have h := h M7 eM7
      have nM7 : jnb M7 = jnb M2 := by rw [eM7]; exact jnb_up (by decide)
      exact jr_retV C hr G h (by decide) (by decide) dX0_addOperator_28

theorem en_X0_begin {n0 : Nat} {M : jM} {Q : Int32 → Nat → jM → Prop} (h : at_X0_begin_0 n0 M Q) : ok_X0_begin n0 M Q := jr_enter (by decide) (fun g => rfl) (fun g => Nat.le_of_ble_eq_true rfl) h
set_option maxHeartbeats 4000000 in
set_option maxRecDepth 100000 in
theorem bl_X0_begin_0 (n0 : Nat) (M : jM) (Q : Int32 → Nat → jM → Prop) (ha0 : n0 < jnb M)
  (h : (0 ≤ M 0 n0 7) ∧ (∀ M5 : jM, M5 = jup M 7 (4 * n0 + (if M 0 n0 7 < 4 then M 0 n0 7 else 3).toNatClampNeg) 1 (M 0 n0 8) → Q 0 0 M5)) :
  at_X0_begin_0 n0 M Q := by
  intro p l e s m args below meth c D cA base g C hr htb H locs G ls hl
  refine lv_aload_n C.x C.b dX0_begin_0 rfl (lv_at hl 0 rfl) ?_
  obtain ⟨hp3, h⟩ := h
  refine jr_V (d' := 1) C G jc0 jm_X0_open wd694 (sp_X0_open (show n0 < jnb M by omega) hp3 ⟨rfl, rfl⟩ : ok_X0_open n0 M (fun _ r M' => 4 * n0 + (if M 0 n0 7 < 4 then M 0 n0 7 else 3).toNatClampNeg = r ∧ M = M')) rfl (show n0 < jnb M by omega) (by decide) rfl rfl (by omega) (by decide) (by decide) ⟨rfl, rfl⟩ hl.1 (Nat.le_of_ble_eq_true rfl) dX0_begin_1 (fun r1 r1n M2 H locs hq G => ?_)
  obtain ⟨eq1, eq2⟩ := hq
  subst eq1
  subst eq2
  have hf4 := sp_open4 hp3
  refine lv_aload_n C.x C.b dX0_begin_4 rfl (lv_at hl 0 rfl) ?_
  refine jr_get C G jc0 8 (v := .int (M 0 n0 8)) (show n0 < jnb M by omega) (by decide) (by decide) rfl wd179 dX0_begin_5 ?_
  refine jr_put C G jc7 1 (v := M 0 n0 8) (show 4 * n0 + (if M 0 n0 7 < 4 then M 0 n0 7 else 3).toNatClampNeg < 4 * jnb M by omega) (by decide) (by decide) rfl (by decide) wd130 rfl rfl rfl rfl dX0_begin_8 (fun H locs G => ?_)
  obtain ⟨M5, eM5⟩ : ∃ z : jM, z = jup M 7 (4 * n0 + (if M 0 n0 7 < 4 then M 0 n0 7 else 3).toNatClampNeg) 1 (M 0 n0 8) := ⟨_, rfl⟩
  rw [← eM5] at G
  have h := h M5 eM5
  have nM5 : jnb M5 = jnb M := by rw [eM5]; exact jnb_up (by decide)
  exact jr_retV C hr G h (by decide) (by decide) dX0_begin_11

theorem en_X0_close {n0 : Nat} {v1 : Int32} {v2 : Int32} {M : jM} {Q : Int32 → Nat → jM → Prop} (h : at_X0_close_0 n0 v1 v2 M Q) : ok_X0_close n0 v1 v2 M Q := jr_enter (by decide) (fun g => rfl) (fun g => Nat.le_of_ble_eq_true rfl) h
set_option maxHeartbeats 4000000 in
set_option maxRecDepth 100000 in
theorem bl_X0_close_0 (n0 : Nat) (v1 : Int32) (v2 : Int32) (M : jM) (Q : Int32 → Nat → jM → Prop) (ha0 : n0 < jnb M)
  (h : (0 ≤ M 0 n0 7) ∧ (∀ M5 : jM, M5 = jup M 7 (4 * n0 + (if M 0 n0 7 < 4 then M 0 n0 7 else 3).toNatClampNeg) 5 v1 → (∀ M6 : jM, M6 = jup M5 7 (4 * n0 + (if M 0 n0 7 < 4 then M 0 n0 7 else 3).toNatClampNeg) 4 v2 → (∀ M7 : jM, M7 = jup M6 7 (4 * n0 + (if M 0 n0 7 < 4 then M 0 n0 7 else 3).toNatClampNeg) 2 (M6 0 n0 8) → ok_X0_addReference n0 v1 1 M7 (fun _ _ M9 => jnb M9 = jnb M7 ∧ (∀ M10 : jM, M10 = jup M9 0 n0 7 ((M9 0 n0 7) + 1) → Q 0 0 M10)))))) :
  at_X0_close_0 n0 v1 v2 M Q := by
  intro p l e s m args below meth c D cA base g C hr htb H locs G ls hl
  refine lv_aload_n C.x C.b dX0_close_0 rfl (lv_at hl 0 rfl) ?_
  obtain ⟨hp3, h⟩ := h
  refine jr_V (d' := 1) C G jc0 jm_X0_open wd694 (sp_X0_open (show n0 < jnb M by omega) hp3 ⟨rfl, rfl⟩ : ok_X0_open n0 M (fun _ r M' => 4 * n0 + (if M 0 n0 7 < 4 then M 0 n0 7 else 3).toNatClampNeg = r ∧ M = M')) rfl (show n0 < jnb M by omega) (by decide) rfl rfl (by omega) (by decide) (by decide) ⟨rfl, rfl⟩ hl.1 (Nat.le_of_ble_eq_true rfl) dX0_close_1 (fun r1 r1n M2 H locs hq G => ?_)
  obtain ⟨eq1, eq2⟩ := hq
  subst eq1
  subst eq2
  have hf4 := sp_open4 hp3
  refine lv_astore_n (lv' := [(3, .ref (g 7 (4 * n0 + (if M 0 n0 7 < 4 then M 0 n0 7 else 3).toNatClampNeg))), (0, .ref (g 0 n0)), (1, .int v1), (2, .int v2)]) C.x C.b dX0_close_4 rfl hl (by decide) rfl (fun ls hl => ?_)
  refine lv_aload_n C.x C.b dX0_close_5 rfl (lv_at hl 0 rfl) ?_
  refine lv_iload_n C.x C.b dX0_close_6 rfl (lv_at hl 2 rfl) ?_
  refine jr_put C G jc7 5 (v := v1) (show 4 * n0 + (if M 0 n0 7 < 4 then M 0 n0 7 else 3).toNatClampNeg < 4 * jnb M by omega) (by decide) (by decide) rfl (by decide) wd138 rfl rfl rfl rfl dX0_close_7 (fun H locs G => ?_)
  obtain ⟨M5, eM5⟩ : ∃ z : jM, z = jup M 7 (4 * n0 + (if M 0 n0 7 < 4 then M 0 n0 7 else 3).toNatClampNeg) 5 v1 := ⟨_, rfl⟩
  rw [← eM5] at G
  have h := h M5 eM5
  have nM5 : jnb M5 = jnb M := by rw [eM5]; exact jnb_up (by decide)
  refine lv_aload_n C.x C.b dX0_close_10 rfl (lv_at hl 0 rfl) ?_
  refine lv_iload_n C.x C.b dX0_close_11 rfl (lv_at hl 3 rfl) ?_
  refine jr_put C G jc7 4 (v := v2) (show 4 * n0 + (if M 0 n0 7 < 4 then M 0 n0 7 else 3).toNatClampNeg < 4 * jnb M5 by omega) (by decide) (by decide) rfl (by decide) wd135 rfl rfl rfl rfl dX0_close_12 (fun H locs G => ?_)
  obtain ⟨M6, eM6⟩ : ∃ z : jM, z = jup M5 7 (4 * n0 + (if M 0 n0 7 < 4 then M 0 n0 7 else 3).toNatClampNeg) 4 v2 := ⟨_, rfl⟩
  rw [← eM6] at G
  have h := h M6 eM6
  have nM6 : jnb M6 = jnb M5 := by rw [eM6]; exact jnb_up (by decide)
  refine lv_aload_n C.x C.b dX0_close_15 rfl (lv_at hl 0 rfl) ?_
  refine lv_aload_n C.x C.b dX0_close_16 rfl (lv_at hl 1 rfl) ?_
  refine jr_get C G jc0 8 (v := .int (M6 0 n0 8)) (show n0 < jnb M6 by omega) (by decide) (by decide) rfl wd179 dX0_close_17 ?_
  refine jr_put C G jc7 2 (v := M6 0 n0 8) (show 4 * n0 + (if M 0 n0 7 < 4 then M 0 n0 7 else 3).toNatClampNeg < 4 * jnb M6 by omega) (by decide) (by decide) rfl (by decide) wd132 rfl rfl rfl rfl dX0_close_20 (fun H locs G => ?_)
  obtain ⟨M7, eM7⟩ : ∃ z : jM, z = jup M6 7 (4 * n0 + (if M 0 n0 7 < 4 then M 0 n0 7 else 3).toNatClampNeg) 2 (M6 0 n0 8) := ⟨_, rfl⟩
  rw [← eM7] at G
  have h := h M7 eM7
  have nM7 : jnb M7 = jnb M6 := by rw [eM7]; exact jnb_up (by decide)
  refine lv_aload_n C.x C.b dX0_close_23 rfl (lv_at hl 1 rfl) ?_
  refine lv_iload_n C.x C.b dX0_close_24 rfl (lv_at hl 2 rfl) ?_
  refine lv_iconst (v := 1) C.x C.b dX0_close_25 (by decide) ?_
  refine jr_V (d' := 1) C G jc0 jm_X0_addReference wd727 h rfl (show n0 < jnb M7 by omega) (by decide) rfl rfl (by omega) (by decide) (by decide) ⟨rfl, rfl⟩ hl.1 (Nat.le_of_ble_eq_true rfl) dX0_close_26 (fun r8 r8n M9 H locs h G => ?_)
  obtain ⟨nM9, h⟩ := h
  refine lv_aload_n C.x C.b dX0_close_29 rfl (lv_at hl 1 rfl) ?_
  refine lv_dup C.x C.b dX0_close_30 rfl ?_
  refine jr_get C G jc0 7 (v := .int (M9 0 n0 7)) (show n0 < jnb M9 by omega) (by decide) (by decide) rfl wd176 dX0_close_31 ?_
  refine lv_iconst (v := 1) C.x C.b dX0_close_34 (by decide) ?_
  refine lv_iadd C.x C.b dX0_close_35 ?_
  refine jr_put C G jc0 7 (v := (M9 0 n0 7) + 1) (show n0 < jnb M9 by omega) (by decide) (by decide) rfl (by decide) wd176 rfl rfl rfl rfl dX0_close_36 (fun H locs G => ?_)
  obtain ⟨M10, eM10⟩ : ∃ z : jM, z = jup M9 0 n0 7 ((M9 0 n0 7) + 1) := ⟨_, rfl⟩
  rw [← eM10] at G
  have h := h M10 eM10
  have nM10 : jnb M10 = jnb M9 := by rw [eM10]; exact jnb_up (by decide)
  exact jr_retV C hr G h (by decide) (by decide) dX0_close_39

theorem en_X1_countSteps  {M : jM} {Q : Int32 → Nat → jM → Prop} (h : at_X1_countSteps_0  M Q) : ok_X1_countSteps  M Q := jr_enter (by decide) (fun g => rfl) (fun g => Nat.le_of_ble_eq_true rfl) h
set_option maxHeartbeats 4000000 in
set_option maxRecDepth 100000 in
theorem bl_X1_countSteps_0  (M : jM) (Q : Int32 → Nat → jM → Prop) 
  (h : at_X1_countSteps_5 (M 1 0 5) M Q) :
  at_X1_countSteps_0  M Q := by
  intro p l e s m args below meth c D cA base g C hr htb H locs G ls hl
  refine lv_aload_n C.x C.b dX1_countSteps_0 rfl (lv_at hl 0 rfl) ?_
  refine jr_get C G jc1 5 (v := .int (M 1 0 5)) (show 0 < 1 by decide) (by decide) (by decide) rfl wd334 dX1_countSteps_1 ?_
  refine lv_istore_n (lv' := [(1, .int (M 1 0 5)), (0, .ref (g 1 0))]) C.x C.b dX1_countSteps_4 rfl hl (by decide) rfl (fun ls hl => ?_)
  exact h p l e s m args below meth c D cA base g C hr htb _ _ G ls (lv_sub hl [1, 0] rfl)
set_option maxHeartbeats 4000000 in
set_option maxRecDepth 100000 in
theorem bl_X1_countSteps_5 (v1 : Int32) (M : jM) (Q : Int32 → Nat → jM → Prop) 
  (h : ((M 1 0 6) < v1 → Q 0 0 M) ∧ (¬ ((M 1 0 6) < v1) → (6 ≤ v1 → Q 0 0 M) ∧ (¬ (6 ≤ v1) → vp_in v1 6 ∧ vp_in v1 6 ∧ vp_in v1 6 ∧ vp_in v1 6 ∧ (v1 = (M 1 0 5) → (∀ M18 : jM, M18 = jup M 1 0 7 ((M 3 (6 * 0 + v1.toNatClampNeg) 1) + (M 27 0 v1.toNatClampNeg)) → (v1 = (M18 1 0 5) → (∀ M26 : jM, M26 = jup M18 1 0 8 ((M 3 (6 * 0 + v1.toNatClampNeg) 2) + (M 27 0 v1.toNatClampNeg)) → (v1 = (M26 1 0 5) → (∀ M30 : jM, M30 = jup M26 1 0 9 ((M 3 (6 * 0 + v1.toNatClampNeg) 1) + (M 27 0 v1.toNatClampNeg)) → (v1 = (M30 1 0 5) → (∀ M32 : jM, M32 = jup M30 1 0 10 ((M 3 (6 * 0 + v1.toNatClampNeg) 2) + (M 27 0 v1.toNatClampNeg)) → at_X1_countSteps_5 (v1 + 1) M32 Q)) ∧ (¬ (v1 = (M30 1 0 5)) → (∀ M31 : jM, M31 = jup M30 1 0 10 (jmin (M30 1 0 10) ((M 3 (6 * 0 + v1.toNatClampNeg) 2) + (M 27 0 v1.toNatClampNeg))) → at_X1_countSteps_5 (v1 + 1) M31 Q)))) ∧ (¬ (v1 = (M26 1 0 5)) → (∀ M27 : jM, M27 = jup M26 1 0 9 (jmax (M26 1 0 9) ((M 3 (6 * 0 + v1.toNatClampNeg) 1) + (M 27 0 v1.toNatClampNeg))) → (v1 = (M27 1 0 5) → (∀ M29 : jM, M29 = jup M27 1 0 10 ((M 3 (6 * 0 + v1.toNatClampNeg) 2) + (M 27 0 v1.toNatClampNeg)) → at_X1_countSteps_5 (v1 + 1) M29 Q)) ∧ (¬ (v1 = (M27 1 0 5)) → (∀ M28 : jM, M28 = jup M27 1 0 10 (jmin (M27 1 0 10) ((M 3 (6 * 0 + v1.toNatClampNeg) 2) + (M 27 0 v1.toNatClampNeg))) → at_X1_countSteps_5 (v1 + 1) M28 Q)))))) ∧ (¬ (v1 = (M18 1 0 5)) → (∀ M19 : jM, M19 = jup M18 1 0 8 (jmax (M18 1 0 8) ((M 3 (6 * 0 + v1.toNatClampNeg) 2) + (M 27 0 v1.toNatClampNeg))) → (v1 = (M19 1 0 5) → (∀ M23 : jM, M23 = jup M19 1 0 9 ((M 3 (6 * 0 + v1.toNatClampNeg) 1) + (M 27 0 v1.toNatClampNeg)) → (v1 = (M23 1 0 5) → (∀ M25 : jM, M25 = jup M23 1 0 10 ((M 3 (6 * 0 + v1.toNatClampNeg) 2) + (M 27 0 v1.toNatClampNeg)) → at_X1_countSteps_5 (v1 + 1) M25 Q)) ∧ (¬ (v1 = (M23 1 0 5)) → (∀ M24 : jM, M24 = jup M23 1 0 10 (jmin (M23 1 0 10) ((M 3 (6 * 0 + v1.toNatClampNeg) 2) + (M 27 0 v1.toNatClampNeg))) → at_X1_countSteps_5 (v1 + 1) M24 Q)))) ∧ (¬ (v1 = (M19 1 0 5)) → (∀ M20 : jM, M20 = jup M19 1 0 9 (jmax (M19 1 0 9) ((M 3 (6 * 0 + v1.toNatClampNeg) 1) + (M 27 0 v1.toNatClampNeg))) → (v1 = (M20 1 0 5) → (∀ M22 : jM, M22 = jup M20 1 0 10 ((M 3 (6 * 0 + v1.toNatClampNeg) 2) + (M 27 0 v1.toNatClampNeg)) → at_X1_countSteps_5 (v1 + 1) M22 Q)) ∧ (¬ (v1 = (M20 1 0 5)) → (∀ M21 : jM, M21 = jup M20 1 0 10 (jmin (M20 1 0 10) ((M 3 (6 * 0 + v1.toNatClampNeg) 2) + (M 27 0 v1.toNatClampNeg))) → at_X1_countSteps_5 (v1 + 1) M21 Q)))))))) ∧ (¬ (v1 = (M 1 0 5)) → (∀ M3 : jM, M3 = jup M 1 0 7 (jmin (M 1 0 7) ((M 3 (6 * 0 + v1.toNatClampNeg) 1) + (M 27 0 v1.toNatClampNeg))) → (v1 = (M3 1 0 5) → (∀ M11 : jM, M11 = jup M3 1 0 8 ((M 3 (6 * 0 + v1.toNatClampNeg) 2) + (M 27 0 v1.toNatClampNeg)) → (v1 = (M11 1 0 5) → (∀ M15 : jM, M15 = jup M11 1 0 9 ((M 3 (6 * 0 + v1.toNatClampNeg) 1) + (M 27 0 v1.toNatClampNeg)) → (v1 = (M15 1 0 5) → (∀ M17 : jM, M17 = jup M15 1 0 10 ((M 3 (6 * 0 + v1.toNatClampNeg) 2) + (M 27 0 v1.toNatClampNeg)) → at_X1_countSteps_5 (v1 + 1) M17 Q)) ∧ (¬ (v1 = (M15 1 0 5)) → (∀ M16 : jM, M16 = jup M15 1 0 10 (jmin (M15 1 0 10) ((M 3 (6 * 0 + v1.toNatClampNeg) 2) + (M 27 0 v1.toNatClampNeg))) → at_X1_countSteps_5 (v1 + 1) M16 Q)))) ∧ (¬ (v1 = (M11 1 0 5)) → (∀ M12 : jM, M12 = jup M11 1 0 9 (jmax (M11 1 0 9) ((M 3 (6 * 0 + v1.toNatClampNeg) 1) + (M 27 0 v1.toNatClampNeg))) → (v1 = (M12 1 0 5) → (∀ M14 : jM, M14 = jup M12 1 0 10 ((M 3 (6 * 0 + v1.toNatClampNeg) 2) + (M 27 0 v1.toNatClampNeg)) → at_X1_countSteps_5 (v1 + 1) M14 Q)) ∧ (¬ (v1 = (M12 1 0 5)) → (∀ M13 : jM, M13 = jup M12 1 0 10 (jmin (M12 1 0 10) ((M 3 (6 * 0 + v1.toNatClampNeg) 2) + (M 27 0 v1.toNatClampNeg))) → at_X1_countSteps_5 (v1 + 1) M13 Q)))))) ∧ (¬ (v1 = (M3 1 0 5)) → (∀ M4 : jM, M4 = jup M3 1 0 8 (jmax (M3 1 0 8) ((M 3 (6 * 0 + v1.toNatClampNeg) 2) + (M 27 0 v1.toNatClampNeg))) → (v1 = (M4 1 0 5) → (∀ M8 : jM, M8 = jup M4 1 0 9 ((M 3 (6 * 0 + v1.toNatClampNeg) 1) + (M 27 0 v1.toNatClampNeg)) → (v1 = (M8 1 0 5) → (∀ M10 : jM, M10 = jup M8 1 0 10 ((M 3 (6 * 0 + v1.toNatClampNeg) 2) + (M 27 0 v1.toNatClampNeg)) → at_X1_countSteps_5 (v1 + 1) M10 Q)) ∧ (¬ (v1 = (M8 1 0 5)) → (∀ M9 : jM, M9 = jup M8 1 0 10 (jmin (M8 1 0 10) ((M 3 (6 * 0 + v1.toNatClampNeg) 2) + (M 27 0 v1.toNatClampNeg))) → at_X1_countSteps_5 (v1 + 1) M9 Q)))) ∧ (¬ (v1 = (M4 1 0 5)) → (∀ M5 : jM, M5 = jup M4 1 0 9 (jmax (M4 1 0 9) ((M 3 (6 * 0 + v1.toNatClampNeg) 1) + (M 27 0 v1.toNatClampNeg))) → (v1 = (M5 1 0 5) → (∀ M7 : jM, M7 = jup M5 1 0 10 ((M 3 (6 * 0 + v1.toNatClampNeg) 2) + (M 27 0 v1.toNatClampNeg)) → at_X1_countSteps_5 (v1 + 1) M7 Q)) ∧ (¬ (v1 = (M5 1 0 5)) → (∀ M6 : jM, M6 = jup M5 1 0 10 (jmin (M5 1 0 10) ((M 3 (6 * 0 + v1.toNatClampNeg) 2) + (M 27 0 v1.toNatClampNeg))) → at_X1_countSteps_5 (v1 + 1) M6 Q))))))))))) :
  at_X1_countSteps_5 v1 M Q := by
  intro p l e s m args below meth c D cA base g C hr htb H locs G ls hl
  refine lv_iload_n C.x C.b dX1_countSteps_5 rfl (lv_at hl 1 rfl) ?_
  refine lv_aload_n C.x C.b dX1_countSteps_6 rfl (lv_at hl 0 rfl) ?_
  refine jr_get C G jc1 6 (v := .int (M 1 0 6)) (show 0 < 1 by decide) (by decide) (by decide) rfl wd335 dX1_countSteps_7 ?_
  refine lv_icmp_gt (tgt := 161) C.x C.b dX1_countSteps_10 (by decide) (fun hc => ?_) (fun hc => ?_)
  · have h := h.1 hc
    exact jr_retV C hr G h (by decide) (by decide) dX1_countSteps_161
  · have h := h.2 hc
    refine lv_iload_n C.x C.b dX1_countSteps_13 rfl (lv_at hl 1 rfl) ?_
    refine lv_bipush (v := 6) C.x C.b dX1_countSteps_14 (by decide) ?_
    refine lv_icmp_ge (tgt := 161) C.x C.b dX1_countSteps_16 (by decide) (fun hc => ?_) (fun hc => ?_)
    · have h := h.1 hc
      exact jr_retV C hr G h (by decide) (by decide) dX1_countSteps_161
    · have h := h.2 hc
      refine lv_aload_n C.x C.b dX1_countSteps_19 rfl (lv_at hl 0 rfl) ?_
      refine jr_get C G jc1 0 (v := .ref (g 6 0)) (show 0 < 1 by decide) (by decide) (by decide) rfl wd328 dX1_countSteps_20 ?_
      refine jr_get C G jc6 0 (v := .ref (g 39 0)) (show 0 < 2 by decide) (by decide) (by decide) rfl wd268 dX1_countSteps_23 ?_
      refine lv_iload_n C.x C.b dX1_countSteps_26 rfl (lv_at hl 1 rfl) ?_
      obtain ⟨hs, h⟩ := h
      have hj1 := vp_lt hs
      refine jr_aald C G (R := 39) (R' := 3) (i' := 6 * 0 + v1.toNatClampNeg) (show 0 < 2 by decide) (by decide) (by decide) (by decide) rfl rfl hs rfl dX1_countSteps_27 ?_
      refine jr_get C G jc3 1 (v := .int (M 3 (6 * 0 + v1.toNatClampNeg) 1)) (show 6 * 0 + v1.toNatClampNeg < 20 by omega) (by decide) (by decide) rfl wd211 dX1_countSteps_28 ?_
      refine lv_aload_n C.x C.b dX1_countSteps_31 rfl (lv_at hl 0 rfl) ?_
      refine jr_get C G jc1 2 (v := .ref (g 27 0)) (show 0 < 1 by decide) (by decide) (by decide) rfl wd330 dX1_countSteps_32 ?_
      refine lv_iload_n C.x C.b dX1_countSteps_35 rfl (lv_at hl 1 rfl) ?_
      obtain ⟨hs, h⟩ := h
      refine jr_ald C G (show 0 < 1 by decide) (by decide) (by decide) (by decide) rfl rfl hs dX1_countSteps_36 ?_
      refine lv_iadd C.x C.b dX1_countSteps_37 ?_
      refine lv_istore_n (lv' := [(2, .int ((M 3 (6 * 0 + v1.toNatClampNeg) 1) + (M 27 0 v1.toNatClampNeg))), (0, .ref (g 1 0)), (1, .int v1)]) C.x C.b dX1_countSteps_38 rfl hl (by decide) rfl (fun ls hl => ?_)
      refine lv_aload_n C.x C.b dX1_countSteps_39 rfl (lv_at hl 1 rfl) ?_
      refine jr_get C G jc1 0 (v := .ref (g 6 0)) (show 0 < 1 by decide) (by decide) (by decide) rfl wd328 dX1_countSteps_40 ?_
      refine jr_get C G jc6 0 (v := .ref (g 39 0)) (show 0 < 2 by decide) (by decide) (by decide) rfl wd268 dX1_countSteps_43 ?_
      refine lv_iload_n C.x C.b dX1_countSteps_46 rfl (lv_at hl 2 rfl) ?_
      obtain ⟨hs, h⟩ := h
      have hj2 := vp_lt hs
      refine jr_aald C G (R := 39) (R' := 3) (i' := 6 * 0 + v1.toNatClampNeg) (show 0 < 2 by decide) (by decide) (by decide) (by decide) rfl rfl hs rfl dX1_countSteps_47 ?_
      refine jr_get C G jc3 2 (v := .int (M 3 (6 * 0 + v1.toNatClampNeg) 2)) (show 6 * 0 + v1.toNatClampNeg < 20 by omega) (by decide) (by decide) rfl wd217 dX1_countSteps_48 ?_
      refine lv_aload_n C.x C.b dX1_countSteps_51 rfl (lv_at hl 1 rfl) ?_
      refine jr_get C G jc1 2 (v := .ref (g 27 0)) (show 0 < 1 by decide) (by decide) (by decide) rfl wd330 dX1_countSteps_52 ?_
      refine lv_iload_n C.x C.b dX1_countSteps_55 rfl (lv_at hl 2 rfl) ?_
      obtain ⟨hs, h⟩ := h
      refine jr_ald C G (show 0 < 1 by decide) (by decide) (by decide) (by decide) rfl rfl hs dX1_countSteps_56 ?_
      refine lv_iadd C.x C.b dX1_countSteps_57 ?_
      refine lv_istore_n (lv' := [(3, .int ((M 3 (6 * 0 + v1.toNatClampNeg) 2) + (M 27 0 v1.toNatClampNeg))), (2, .int ((M 3 (6 * 0 + v1.toNatClampNeg) 1) + (M 27 0 v1.toNatClampNeg))), (0, .ref (g 1 0)), (1, .int v1)]) C.x C.b dX1_countSteps_58 rfl hl (by decide) rfl (fun ls hl => ?_)
      refine lv_aload_n C.x C.b dX1_countSteps_59 rfl (lv_at hl 2 rfl) ?_
      refine lv_iload_n C.x C.b dX1_countSteps_60 rfl (lv_at hl 3 rfl) ?_
      refine lv_aload_n C.x C.b dX1_countSteps_61 rfl (lv_at hl 2 rfl) ?_
      refine jr_get C G jc1 5 (v := .int (M 1 0 5)) (show 0 < 1 by decide) (by decide) (by decide) rfl wd334 dX1_countSteps_62 ?_
      refine lv_icmp_ne (tgt := 72) C.x C.b dX1_countSteps_65 (by decide) (fun hc => ?_) (fun hc => ?_)
      · have h := h.2 hc
        refine lv_aload_n C.x C.b dX1_countSteps_72 rfl (lv_at hl 2 rfl) ?_
        refine jr_get C G jc1 7 (v := .int (M 1 0 7)) (show 0 < 1 by decide) (by decide) (by decide) rfl wd336 dX1_countSteps_73 ?_
        refine lv_iload_n C.x C.b dX1_countSteps_76 rfl (lv_at hl 1 rfl) ?_
        refine va_mmin C.x C.b (C.ml.trans hl.1.symm) C.ow (C.w _ wd1011) (C.w _ wd890) (C.w _ wd94) (C.w _ wd891) (by decide) (Nat.le_of_ble_eq_true rfl) (by decide) (by decide) dX1_countSteps_77 ?_
        rw [show (if ((M 3 (6 * 0 + v1.toNatClampNeg) 1) + (M 27 0 v1.toNatClampNeg)) < (M 1 0 7) then (M 3 (6 * 0 + v1.toNatClampNeg) 1) + (M 27 0 v1.toNatClampNeg) else M 1 0 7 : Int32) = jmin (M 1 0 7) ((M 3 (6 * 0 + v1.toNatClampNeg) 1) + (M 27 0 v1.toNatClampNeg)) from rfl]
        refine jr_put C G jc1 7 (v := jmin (M 1 0 7) ((M 3 (6 * 0 + v1.toNatClampNeg) 1) + (M 27 0 v1.toNatClampNeg))) (show 0 < 1 by decide) (by decide) (by decide) rfl (by decide) wd336 rfl rfl rfl rfl dX1_countSteps_80 (fun H locs G => ?_)
        obtain ⟨M3, eM3⟩ : ∃ z : jM, z = jup M 1 0 7 (jmin (M 1 0 7) ((M 3 (6 * 0 + v1.toNatClampNeg) 1) + (M 27 0 v1.toNatClampNeg))) := ⟨_, rfl⟩
        rw [← eM3] at G
        have h := h M3 eM3
        have nM3 : jnb M3 = jnb M := by rw [eM3]; exact jnb_up (by decide)
        refine lv_aload_n C.x C.b dX1_countSteps_83 rfl (lv_at hl 2 rfl) ?_
        refine lv_iload_n C.x C.b dX1_countSteps_84 rfl (lv_at hl 3 rfl) ?_
        refine lv_aload_n C.x C.b dX1_countSteps_85 rfl (lv_at hl 2 rfl) ?_
        refine jr_get C G jc1 5 (v := .int (M3 1 0 5)) (show 0 < 1 by decide) (by decide) (by decide) rfl wd334 dX1_countSteps_86 ?_
        refine lv_icmp_ne (tgt := 96) C.x C.b dX1_countSteps_89 (by decide) (fun hc => ?_) (fun hc => ?_)
        · have h := h.2 hc
          refine lv_aload_n C.x C.b dX1_countSteps_96 rfl (lv_at hl 2 rfl) ?_
          refine jr_get C G jc1 8 (v := .int (M3 1 0 8)) (show 0 < 1 by decide) (by decide) (by decide) rfl wd338 dX1_countSteps_97 ?_
          refine lv_iload_n C.x C.b dX1_countSteps_100 rfl (lv_at hl 0 rfl) ?_
          refine va_mmax C.x C.b (C.ml.trans hl.1.symm) C.ow (C.w _ wd1010) (C.w _ wd740) (C.w _ wd94) (C.w _ wd741) (by decide) (Nat.le_of_ble_eq_true rfl) (by decide) (by decide) dX1_countSteps_101 ?_
          rw [show (if (M3 1 0 8) < ((M 3 (6 * 0 + v1.toNatClampNeg) 2) + (M 27 0 v1.toNatClampNeg)) then (M 3 (6 * 0 + v1.toNatClampNeg) 2) + (M 27 0 v1.toNatClampNeg) else M3 1 0 8 : Int32) = jmax (M3 1 0 8) ((M 3 (6 * 0 + v1.toNatClampNeg) 2) + (M 27 0 v1.toNatClampNeg)) from rfl]
          refine jr_put C G jc1 8 (v := jmax (M3 1 0 8) ((M 3 (6 * 0 + v1.toNatClampNeg) 2) + (M 27 0 v1.toNatClampNeg))) (show 0 < 1 by decide) (by decide) (by decide) rfl (by decide) wd338 rfl rfl rfl rfl dX1_countSteps_104 (fun H locs G => ?_)
          obtain ⟨M4, eM4⟩ : ∃ z : jM, z = jup M3 1 0 8 (jmax (M3 1 0 8) ((M 3 (6 * 0 + v1.toNatClampNeg) 2) + (M 27 0 v1.toNatClampNeg))) := ⟨_, rfl⟩
          rw [← eM4] at G
          have h := h M4 eM4
          have nM4 : jnb M4 = jnb M3 := by rw [eM4]; exact jnb_up (by decide)
          refine lv_aload_n C.x C.b dX1_countSteps_107 rfl (lv_at hl 2 rfl) ?_
          refine lv_iload_n C.x C.b dX1_countSteps_108 rfl (lv_at hl 3 rfl) ?_
          refine lv_aload_n C.x C.b dX1_countSteps_109 rfl (lv_at hl 2 rfl) ?_
          refine jr_get C G jc1 5 (v := .int (M4 1 0 5)) (show 0 < 1 by decide) (by decide) (by decide) rfl wd334 dX1_countSteps_110 ?_
          refine lv_icmp_ne (tgt := 120) C.x C.b dX1_countSteps_113 (by decide) (fun hc => ?_) (fun hc => ?_)
          · have h := h.2 hc
            refine lv_aload_n C.x C.b dX1_countSteps_120 rfl (lv_at hl 2 rfl) ?_
            refine jr_get C G jc1 9 (v := .int (M4 1 0 9)) (show 0 < 1 by decide) (by decide) (by decide) rfl wd340 dX1_countSteps_121 ?_
            refine lv_iload_n C.x C.b dX1_countSteps_124 rfl (lv_at hl 1 rfl) ?_
            refine va_mmax C.x C.b (C.ml.trans hl.1.symm) C.ow (C.w _ wd1010) (C.w _ wd740) (C.w _ wd94) (C.w _ wd741) (by decide) (Nat.le_of_ble_eq_true rfl) (by decide) (by decide) dX1_countSteps_125 ?_
            rw [show (if (M4 1 0 9) < ((M 3 (6 * 0 + v1.toNatClampNeg) 1) + (M 27 0 v1.toNatClampNeg)) then (M 3 (6 * 0 + v1.toNatClampNeg) 1) + (M 27 0 v1.toNatClampNeg) else M4 1 0 9 : Int32) = jmax (M4 1 0 9) ((M 3 (6 * 0 + v1.toNatClampNeg) 1) + (M 27 0 v1.toNatClampNeg)) from rfl]
            refine jr_put C G jc1 9 (v := jmax (M4 1 0 9) ((M 3 (6 * 0 + v1.toNatClampNeg) 1) + (M 27 0 v1.toNatClampNeg))) (show 0 < 1 by decide) (by decide) (by decide) rfl (by decide) wd340 rfl rfl rfl rfl dX1_countSteps_128 (fun H locs G => ?_)
            obtain ⟨M5, eM5⟩ : ∃ z : jM, z = jup M4 1 0 9 (jmax (M4 1 0 9) ((M 3 (6 * 0 + v1.toNatClampNeg) 1) + (M 27 0 v1.toNatClampNeg))) := ⟨_, rfl⟩
            rw [← eM5] at G
            have h := h M5 eM5
            have nM5 : jnb M5 = jnb M4 := by rw [eM5]; exact jnb_up (by decide)
            refine lv_aload_n C.x C.b dX1_countSteps_131 rfl (lv_at hl 2 rfl) ?_
            refine lv_iload_n C.x C.b dX1_countSteps_132 rfl (lv_at hl 3 rfl) ?_
            refine lv_aload_n C.x C.b dX1_countSteps_133 rfl (lv_at hl 2 rfl) ?_
            refine jr_get C G jc1 5 (v := .int (M5 1 0 5)) (show 0 < 1 by decide) (by decide) (by decide) rfl wd334 dX1_countSteps_134 ?_
            refine lv_icmp_ne (tgt := 144) C.x C.b dX1_countSteps_137 (by decide) (fun hc => ?_) (fun hc => ?_)
            · have h := h.2 hc
              refine lv_aload_n C.x C.b dX1_countSteps_144 rfl (lv_at hl 2 rfl) ?_
              refine jr_get C G jc1 10 (v := .int (M5 1 0 10)) (show 0 < 1 by decide) (by decide) (by decide) rfl wd342 dX1_countSteps_145 ?_
              refine lv_iload_n C.x C.b dX1_countSteps_148 rfl (lv_at hl 0 rfl) ?_
              refine va_mmin C.x C.b (C.ml.trans hl.1.symm) C.ow (C.w _ wd1011) (C.w _ wd890) (C.w _ wd94) (C.w _ wd891) (by decide) (Nat.le_of_ble_eq_true rfl) (by decide) (by decide) dX1_countSteps_149 ?_
              rw [show (if ((M 3 (6 * 0 + v1.toNatClampNeg) 2) + (M 27 0 v1.toNatClampNeg)) < (M5 1 0 10) then (M 3 (6 * 0 + v1.toNatClampNeg) 2) + (M 27 0 v1.toNatClampNeg) else M5 1 0 10 : Int32) = jmin (M5 1 0 10) ((M 3 (6 * 0 + v1.toNatClampNeg) 2) + (M 27 0 v1.toNatClampNeg)) from rfl]
              refine jr_put C G jc1 10 (v := jmin (M5 1 0 10) ((M 3 (6 * 0 + v1.toNatClampNeg) 2) + (M 27 0 v1.toNatClampNeg))) (show 0 < 1 by decide) (by decide) (by decide) rfl (by decide) wd342 rfl rfl rfl rfl dX1_countSteps_152 (fun H locs G => ?_)
              obtain ⟨M6, eM6⟩ : ∃ z : jM, z = jup M5 1 0 10 (jmin (M5 1 0 10) ((M 3 (6 * 0 + v1.toNatClampNeg) 2) + (M 27 0 v1.toNatClampNeg))) := ⟨_, rfl⟩
              rw [← eM6] at G
              have h := h M6 eM6
              have nM6 : jnb M6 = jnb M5 := by rw [eM6]; exact jnb_up (by decide)
              refine lv_iinc (v := v1 + 1) (lv' := [(1, .int (v1 + 1)), (3, .int ((M 3 (6 * 0 + v1.toNatClampNeg) 2) + (M 27 0 v1.toNatClampNeg))), (2, .int ((M 3 (6 * 0 + v1.toNatClampNeg) 1) + (M 27 0 v1.toNatClampNeg))), (0, .ref (g 1 0))]) C.x C.b dX1_countSteps_155 hl (k := 3) rfl rfl (by decide) rfl (fun ls hl => ?_)
              refine lv_goto (tgt := 5) C.x C.b dX1_countSteps_158 (by decide) ?_
              exact h p l e s m args below meth c D cA base g C hr htb _ _ G ls (lv_sub hl [3, 0] rfl)
            · have h := h.1 hc
              refine lv_iload_n C.x C.b dX1_countSteps_140 rfl (lv_at hl 0 rfl) ?_
              refine lv_goto (tgt := 152) C.x C.b dX1_countSteps_141 (by decide) ?_
              refine jr_put C G jc1 10 (v := (M 3 (6 * 0 + v1.toNatClampNeg) 2) + (M 27 0 v1.toNatClampNeg)) (show 0 < 1 by decide) (by decide) (by decide) rfl (by decide) wd342 rfl rfl rfl rfl dX1_countSteps_152 (fun H locs G => ?_)
              obtain ⟨M7, eM7⟩ : ∃ z : jM, z = jup M5 1 0 10 ((M 3 (6 * 0 + v1.toNatClampNeg) 2) + (M 27 0 v1.toNatClampNeg)) := ⟨_, rfl⟩
              rw [← eM7] at G
              have h := h M7 eM7
              have nM7 : jnb M7 = jnb M5 := by rw [eM7]; exact jnb_up (by decide)
              refine lv_iinc (v := v1 + 1) (lv' := [(1, .int (v1 + 1)), (3, .int ((M 3 (6 * 0 + v1.toNatClampNeg) 2) + (M 27 0 v1.toNatClampNeg))), (2, .int ((M 3 (6 * 0 + v1.toNatClampNeg) 1) + (M 27 0 v1.toNatClampNeg))), (0, .ref (g 1 0))]) C.x C.b dX1_countSteps_155 hl (k := 3) rfl rfl (by decide) rfl (fun ls hl => ?_)
              refine lv_goto (tgt := 5) C.x C.b dX1_countSteps_158 (by decide) ?_
              exact h p l e s m args below meth c D cA base g C hr htb _ _ G ls (lv_sub hl [3, 0] rfl)
          · have h := h.1 hc
            refine lv_iload_n C.x C.b dX1_countSteps_116 rfl (lv_at hl 1 rfl) ?_
            refine lv_goto (tgt := 128) C.x C.b dX1_countSteps_117 (by decide) ?_
            refine jr_put C G jc1 9 (v := (M 3 (6 * 0 + v1.toNatClampNeg) 1) + (M 27 0 v1.toNatClampNeg)) (show 0 < 1 by decide) (by decide) (by decide) rfl (by decide) wd340 rfl rfl rfl rfl dX1_countSteps_128 (fun H locs G => ?_)
            obtain ⟨M8, eM8⟩ : ∃ z : jM, z = jup M4 1 0 9 ((M 3 (6 * 0 + v1.toNatClampNeg) 1) + (M 27 0 v1.toNatClampNeg)) := ⟨_, rfl⟩
            rw [← eM8] at G
            have h := h M8 eM8
            have nM8 : jnb M8 = jnb M4 := by rw [eM8]; exact jnb_up (by decide)
            refine lv_aload_n C.x C.b dX1_countSteps_131 rfl (lv_at hl 2 rfl) ?_
            refine lv_iload_n C.x C.b dX1_countSteps_132 rfl (lv_at hl 3 rfl) ?_
            refine lv_aload_n C.x C.b dX1_countSteps_133 rfl (lv_at hl 2 rfl) ?_
            refine jr_get C G jc1 5 (v := .int (M8 1 0 5)) (show 0 < 1 by decide) (by decide) (by decide) rfl wd334 dX1_countSteps_134 ?_
            refine lv_icmp_ne (tgt := 144) C.x C.b dX1_countSteps_137 (by decide) (fun hc => ?_) (fun hc => ?_)
            · have h := h.2 hc
              refine lv_aload_n C.x C.b dX1_countSteps_144 rfl (lv_at hl 2 rfl) ?_
              refine jr_get C G jc1 10 (v := .int (M8 1 0 10)) (show 0 < 1 by decide) (by decide) (by decide) rfl wd342 dX1_countSteps_145 ?_
              refine lv_iload_n C.x C.b dX1_countSteps_148 rfl (lv_at hl 0 rfl) ?_
              refine va_mmin C.x C.b (C.ml.trans hl.1.symm) C.ow (C.w _ wd1011) (C.w _ wd890) (C.w _ wd94) (C.w _ wd891) (by decide) (Nat.le_of_ble_eq_true rfl) (by decide) (by decide) dX1_countSteps_149 ?_
              rw [show (if ((M 3 (6 * 0 + v1.toNatClampNeg) 2) + (M 27 0 v1.toNatClampNeg)) < (M8 1 0 10) then (M 3 (6 * 0 + v1.toNatClampNeg) 2) + (M 27 0 v1.toNatClampNeg) else M8 1 0 10 : Int32) = jmin (M8 1 0 10) ((M 3 (6 * 0 + v1.toNatClampNeg) 2) + (M 27 0 v1.toNatClampNeg)) from rfl]
              refine jr_put C G jc1 10 (v := jmin (M8 1 0 10) ((M 3 (6 * 0 + v1.toNatClampNeg) 2) + (M 27 0 v1.toNatClampNeg))) (show 0 < 1 by decide) (by decide) (by decide) rfl (by decide) wd342 rfl rfl rfl rfl dX1_countSteps_152 (fun H locs G => ?_)
              obtain ⟨M9, eM9⟩ : ∃ z : jM, z = jup M8 1 0 10 (jmin (M8 1 0 10) ((M 3 (6 * 0 + v1.toNatClampNeg) 2) + (M 27 0 v1.toNatClampNeg))) := ⟨_, rfl⟩
              rw [← eM9] at G
              have h := h M9 eM9
              have nM9 : jnb M9 = jnb M8 := by rw [eM9]; exact jnb_up (by decide)
              refine lv_iinc (v := v1 + 1) (lv' := [(1, .int (v1 + 1)), (3, .int ((M 3 (6 * 0 + v1.toNatClampNeg) 2) + (M 27 0 v1.toNatClampNeg))), (2, .int ((M 3 (6 * 0 + v1.toNatClampNeg) 1) + (M 27 0 v1.toNatClampNeg))), (0, .ref (g 1 0))]) C.x C.b dX1_countSteps_155 hl (k := 3) rfl rfl (by decide) rfl (fun ls hl => ?_)
              refine lv_goto (tgt := 5) C.x C.b dX1_countSteps_158 (by decide) ?_
              exact h p l e s m args below meth c D cA base g C hr htb _ _ G ls (lv_sub hl [3, 0] rfl)
            · have h := h.1 hc
              refine lv_iload_n C.x C.b dX1_countSteps_140 rfl (lv_at hl 0 rfl) ?_
              refine lv_goto (tgt := 152) C.x C.b dX1_countSteps_141 (by decide) ?_
              refine jr_put C G jc1 10 (v := (M 3 (6 * 0 + v1.toNatClampNeg) 2) + (M 27 0 v1.toNatClampNeg)) (show 0 < 1 by decide) (by decide) (by decide) rfl (by decide) wd342 rfl rfl rfl rfl dX1_countSteps_152 (fun H locs G => ?_)
              obtain ⟨M10, eM10⟩ : ∃ z : jM, z = jup M8 1 0 10 ((M 3 (6 * 0 + v1.toNatClampNeg) 2) + (M 27 0 v1.toNatClampNeg)) := ⟨_, rfl⟩
              rw [← eM10] at G
              have h := h M10 eM10
              have nM10 : jnb M10 = jnb M8 := by rw [eM10]; exact jnb_up (by decide)
              refine lv_iinc (v := v1 + 1) (lv' := [(1, .int (v1 + 1)), (3, .int ((M 3 (6 * 0 + v1.toNatClampNeg) 2) + (M 27 0 v1.toNatClampNeg))), (2, .int ((M 3 (6 * 0 + v1.toNatClampNeg) 1) + (M 27 0 v1.toNatClampNeg))), (0, .ref (g 1 0))]) C.x C.b dX1_countSteps_155 hl (k := 3) rfl rfl (by decide) rfl (fun ls hl => ?_)
              refine lv_goto (tgt := 5) C.x C.b dX1_countSteps_158 (by decide) ?_
              exact h p l e s m args below meth c D cA base g C hr htb _ _ G ls (lv_sub hl [3, 0] rfl)
        · have h := h.1 hc
          refine lv_iload_n C.x C.b dX1_countSteps_92 rfl (lv_at hl 0 rfl) ?_
          refine lv_goto (tgt := 104) C.x C.b dX1_countSteps_93 (by decide) ?_
          refine jr_put C G jc1 8 (v := (M 3 (6 * 0 + v1.toNatClampNeg) 2) + (M 27 0 v1.toNatClampNeg)) (show 0 < 1 by decide) (by decide) (by decide) rfl (by decide) wd338 rfl rfl rfl rfl dX1_countSteps_104 (fun H locs G => ?_)
          obtain ⟨M11, eM11⟩ : ∃ z : jM, z = jup M3 1 0 8 ((M 3 (6 * 0 + v1.toNatClampNeg) 2) + (M 27 0 v1.toNatClampNeg)) := ⟨_, rfl⟩
          rw [← eM11] at G
          have h := h M11 eM11
          have nM11 : jnb M11 = jnb M3 := by rw [eM11]; exact jnb_up (by decide)
          refine lv_aload_n C.x C.b dX1_countSteps_107 rfl (lv_at hl 2 rfl) ?_
          refine lv_iload_n C.x C.b dX1_countSteps_108 rfl (lv_at hl 3 rfl) ?_
          refine lv_aload_n C.x C.b dX1_countSteps_109 rfl (lv_at hl 2 rfl) ?_
          refine jr_get C G jc1 5 (v := .int (M11 1 0 5)) (show 0 < 1 by decide) (by decide) (by decide) rfl wd334 dX1_countSteps_110 ?_
          refine lv_icmp_ne (tgt := 120) C.x C.b dX1_countSteps_113 (by decide) (fun hc => ?_) (fun hc => ?_)
          · have h := h.2 hc
            refine lv_aload_n C.x C.b dX1_countSteps_120 rfl (lv_at hl 2 rfl) ?_
            refine jr_get C G jc1 9 (v := .int (M11 1 0 9)) (show 0 < 1 by decide) (by decide) (by decide) rfl wd340 dX1_countSteps_121 ?_
            refine lv_iload_n C.x C.b dX1_countSteps_124 rfl (lv_at hl 1 rfl) ?_
            refine va_mmax C.x C.b (C.ml.trans hl.1.symm) C.ow (C.w _ wd1010) (C.w _ wd740) (C.w _ wd94) (C.w _ wd741) (by decide) (Nat.le_of_ble_eq_true rfl) (by decide) (by decide) dX1_countSteps_125 ?_
            rw [show (if (M11 1 0 9) < ((M 3 (6 * 0 + v1.toNatClampNeg) 1) + (M 27 0 v1.toNatClampNeg)) then (M 3 (6 * 0 + v1.toNatClampNeg) 1) + (M 27 0 v1.toNatClampNeg) else M11 1 0 9 : Int32) = jmax (M11 1 0 9) ((M 3 (6 * 0 + v1.toNatClampNeg) 1) + (M 27 0 v1.toNatClampNeg)) from rfl]
            refine jr_put C G jc1 9 (v := jmax (M11 1 0 9) ((M 3 (6 * 0 + v1.toNatClampNeg) 1) + (M 27 0 v1.toNatClampNeg))) (show 0 < 1 by decide) (by decide) (by decide) rfl (by decide) wd340 rfl rfl rfl rfl dX1_countSteps_128 (fun H locs G => ?_)
            obtain ⟨M12, eM12⟩ : ∃ z : jM, z = jup M11 1 0 9 (jmax (M11 1 0 9) ((M 3 (6 * 0 + v1.toNatClampNeg) 1) + (M 27 0 v1.toNatClampNeg))) := ⟨_, rfl⟩
            rw [← eM12] at G
            have h := h M12 eM12
            have nM12 : jnb M12 = jnb M11 := by rw [eM12]; exact jnb_up (by decide)
            refine lv_aload_n C.x C.b dX1_countSteps_131 rfl (lv_at hl 2 rfl) ?_
            refine lv_iload_n C.x C.b dX1_countSteps_132 rfl (lv_at hl 3 rfl) ?_
            refine lv_aload_n C.x C.b dX1_countSteps_133 rfl (lv_at hl 2 rfl) ?_
            refine jr_get C G jc1 5 (v := .int (M12 1 0 5)) (show 0 < 1 by decide) (by decide) (by decide) rfl wd334 dX1_countSteps_134 ?_
            refine lv_icmp_ne (tgt := 144) C.x C.b dX1_countSteps_137 (by decide) (fun hc => ?_) (fun hc => ?_)
            · have h := h.2 hc
              refine lv_aload_n C.x C.b dX1_countSteps_144 rfl (lv_at hl 2 rfl) ?_
              refine jr_get C G jc1 10 (v := .int (M12 1 0 10)) (show 0 < 1 by decide) (by decide) (by decide) rfl wd342 dX1_countSteps_145 ?_
              refine lv_iload_n C.x C.b dX1_countSteps_148 rfl (lv_at hl 0 rfl) ?_
              refine va_mmin C.x C.b (C.ml.trans hl.1.symm) C.ow (C.w _ wd1011) (C.w _ wd890) (C.w _ wd94) (C.w _ wd891) (by decide) (Nat.le_of_ble_eq_true rfl) (by decide) (by decide) dX1_countSteps_149 ?_
              rw [show (if ((M 3 (6 * 0 + v1.toNatClampNeg) 2) + (M 27 0 v1.toNatClampNeg)) < (M12 1 0 10) then (M 3 (6 * 0 + v1.toNatClampNeg) 2) + (M 27 0 v1.toNatClampNeg) else M12 1 0 10 : Int32) = jmin (M12 1 0 10) ((M 3 (6 * 0 + v1.toNatClampNeg) 2) + (M 27 0 v1.toNatClampNeg)) from rfl]
              refine jr_put C G jc1 10 (v := jmin (M12 1 0 10) ((M 3 (6 * 0 + v1.toNatClampNeg) 2) + (M 27 0 v1.toNatClampNeg))) (show 0 < 1 by decide) (by decide) (by decide) rfl (by decide) wd342 rfl rfl rfl rfl dX1_countSteps_152 (fun H locs G => ?_)
              obtain ⟨M13, eM13⟩ : ∃ z : jM, z = jup M12 1 0 10 (jmin (M12 1 0 10) ((M 3 (6 * 0 + v1.toNatClampNeg) 2) + (M 27 0 v1.toNatClampNeg))) := ⟨_, rfl⟩
              rw [← eM13] at G
              have h := h M13 eM13
              have nM13 : jnb M13 = jnb M12 := by rw [eM13]; exact jnb_up (by decide)
              refine lv_iinc (v := v1 + 1) (lv' := [(1, .int (v1 + 1)), (3, .int ((M 3 (6 * 0 + v1.toNatClampNeg) 2) + (M 27 0 v1.toNatClampNeg))), (2, .int ((M 3 (6 * 0 + v1.toNatClampNeg) 1) + (M 27 0 v1.toNatClampNeg))), (0, .ref (g 1 0))]) C.x C.b dX1_countSteps_155 hl (k := 3) rfl rfl (by decide) rfl (fun ls hl => ?_)
              refine lv_goto (tgt := 5) C.x C.b dX1_countSteps_158 (by decide) ?_
              exact h p l e s m args below meth c D cA base g C hr htb _ _ G ls (lv_sub hl [3, 0] rfl)
            · have h := h.1 hc
              refine lv_iload_n C.x C.b dX1_countSteps_140 rfl (lv_at hl 0 rfl) ?_
              refine lv_goto (tgt := 152) C.x C.b dX1_countSteps_141 (by decide) ?_
              refine jr_put C G jc1 10 (v := (M 3 (6 * 0 + v1.toNatClampNeg) 2) + (M 27 0 v1.toNatClampNeg)) (show 0 < 1 by decide) (by decide) (by decide) rfl (by decide) wd342 rfl rfl rfl rfl dX1_countSteps_152 (fun H locs G => ?_)
              obtain ⟨M14, eM14⟩ : ∃ z : jM, z = jup M12 1 0 10 ((M 3 (6 * 0 + v1.toNatClampNeg) 2) + (M 27 0 v1.toNatClampNeg)) := ⟨_, rfl⟩
              rw [← eM14] at G
              have h := h M14 eM14
              have nM14 : jnb M14 = jnb M12 := by rw [eM14]; exact jnb_up (by decide)
              refine lv_iinc (v := v1 + 1) (lv' := [(1, .int (v1 + 1)), (3, .int ((M 3 (6 * 0 + v1.toNatClampNeg) 2) + (M 27 0 v1.toNatClampNeg))), (2, .int ((M 3 (6 * 0 + v1.toNatClampNeg) 1) + (M 27 0 v1.toNatClampNeg))), (0, .ref (g 1 0))]) C.x C.b dX1_countSteps_155 hl (k := 3) rfl rfl (by decide) rfl (fun ls hl => ?_)
              refine lv_goto (tgt := 5) C.x C.b dX1_countSteps_158 (by decide) ?_
              exact h p l e s m args below meth c D cA base g C hr htb _ _ G ls (lv_sub hl [3, 0] rfl)
          · have h := h.1 hc
            refine lv_iload_n C.x C.b dX1_countSteps_116 rfl (lv_at hl 1 rfl) ?_
            refine lv_goto (tgt := 128) C.x C.b dX1_countSteps_117 (by decide) ?_
            refine jr_put C G jc1 9 (v := (M 3 (6 * 0 + v1.toNatClampNeg) 1) + (M 27 0 v1.toNatClampNeg)) (show 0 < 1 by decide) (by decide) (by decide) rfl (by decide) wd340 rfl rfl rfl rfl dX1_countSteps_128 (fun H locs G => ?_)
            obtain ⟨M15, eM15⟩ : ∃ z : jM, z = jup M11 1 0 9 ((M 3 (6 * 0 + v1.toNatClampNeg) 1) + (M 27 0 v1.toNatClampNeg)) := ⟨_, rfl⟩
            rw [← eM15] at G
            have h := h M15 eM15
            have nM15 : jnb M15 = jnb M11 := by rw [eM15]; exact jnb_up (by decide)
            refine lv_aload_n C.x C.b dX1_countSteps_131 rfl (lv_at hl 2 rfl) ?_
            refine lv_iload_n C.x C.b dX1_countSteps_132 rfl (lv_at hl 3 rfl) ?_
            refine lv_aload_n C.x C.b dX1_countSteps_133 rfl (lv_at hl 2 rfl) ?_
            refine jr_get C G jc1 5 (v := .int (M15 1 0 5)) (show 0 < 1 by decide) (by decide) (by decide) rfl wd334 dX1_countSteps_134 ?_
            refine lv_icmp_ne (tgt := 144) C.x C.b dX1_countSteps_137 (by decide) (fun hc => ?_) (fun hc => ?_)
            · have h := h.2 hc
              refine lv_aload_n C.x C.b dX1_countSteps_144 rfl (lv_at hl 2 rfl) ?_
              refine jr_get C G jc1 10 (v := .int (M15 1 0 10)) (show 0 < 1 by decide) (by decide) (by decide) rfl wd342 dX1_countSteps_145 ?_
              refine lv_iload_n C.x C.b dX1_countSteps_148 rfl (lv_at hl 0 rfl) ?_
              refine va_mmin C.x C.b (C.ml.trans hl.1.symm) C.ow (C.w _ wd1011) (C.w _ wd890) (C.w _ wd94) (C.w _ wd891) (by decide) (Nat.le_of_ble_eq_true rfl) (by decide) (by decide) dX1_countSteps_149 ?_
              rw [show (if ((M 3 (6 * 0 + v1.toNatClampNeg) 2) + (M 27 0 v1.toNatClampNeg)) < (M15 1 0 10) then (M 3 (6 * 0 + v1.toNatClampNeg) 2) + (M 27 0 v1.toNatClampNeg) else M15 1 0 10 : Int32) = jmin (M15 1 0 10) ((M 3 (6 * 0 + v1.toNatClampNeg) 2) + (M 27 0 v1.toNatClampNeg)) from rfl]
              refine jr_put C G jc1 10 (v := jmin (M15 1 0 10) ((M 3 (6 * 0 + v1.toNatClampNeg) 2) + (M 27 0 v1.toNatClampNeg))) (show 0 < 1 by decide) (by decide) (by decide) rfl (by decide) wd342 rfl rfl rfl rfl dX1_countSteps_152 (fun H locs G => ?_)
              obtain ⟨M16, eM16⟩ : ∃ z : jM, z = jup M15 1 0 10 (jmin (M15 1 0 10) ((M 3 (6 * 0 + v1.toNatClampNeg) 2) + (M 27 0 v1.toNatClampNeg))) := ⟨_, rfl⟩
              rw [← eM16] at G
              have h := h M16 eM16
              have nM16 : jnb M16 = jnb M15 := by rw [eM16]; exact jnb_up (by decide)
              refine lv_iinc (v := v1 + 1) (lv' := [(1, .int (v1 + 1)), (3, .int ((M 3 (6 * 0 + v1.toNatClampNeg) 2) + (M 27 0 v1.toNatClampNeg))), (2, .int ((M 3 (6 * 0 + v1.toNatClampNeg) 1) + (M 27 0 v1.toNatClampNeg))), (0, .ref (g 1 0))]) C.x C.b dX1_countSteps_155 hl (k := 3) rfl rfl (by decide) rfl (fun ls hl => ?_)
              refine lv_goto (tgt := 5) C.x C.b dX1_countSteps_158 (by decide) ?_
              exact h p l e s m args below meth c D cA base g C hr htb _ _ G ls (lv_sub hl [3, 0] rfl)
            · have h := h.1 hc
              refine lv_iload_n C.x C.b dX1_countSteps_140 rfl (lv_at hl 0 rfl) ?_
              refine lv_goto (tgt := 152) C.x C.b dX1_countSteps_141 (by decide) ?_
              refine jr_put C G jc1 10 (v := (M 3 (6 * 0 + v1.toNatClampNeg) 2) + (M 27 0 v1.toNatClampNeg)) (show 0 < 1 by decide) (by decide) (by decide) rfl (by decide) wd342 rfl rfl rfl rfl dX1_countSteps_152 (fun H locs G => ?_)
              obtain ⟨M17, eM17⟩ : ∃ z : jM, z = jup M15 1 0 10 ((M 3 (6 * 0 + v1.toNatClampNeg) 2) + (M 27 0 v1.toNatClampNeg)) := ⟨_, rfl⟩
              rw [← eM17] at G
              have h := h M17 eM17
              have nM17 : jnb M17 = jnb M15 := by rw [eM17]; exact jnb_up (by decide)
              refine lv_iinc (v := v1 + 1) (lv' := [(1, .int (v1 + 1)), (3, .int ((M 3 (6 * 0 + v1.toNatClampNeg) 2) + (M 27 0 v1.toNatClampNeg))), (2, .int ((M 3 (6 * 0 + v1.toNatClampNeg) 1) + (M 27 0 v1.toNatClampNeg))), (0, .ref (g 1 0))]) C.x C.b dX1_countSteps_155 hl (k := 3) rfl rfl (by decide) rfl (fun ls hl => ?_)
              refine lv_goto (tgt := 5) C.x C.b dX1_countSteps_158 (by decide) ?_
              exact h p l e s m args below meth c D cA base g C hr htb _ _ G ls (lv_sub hl [3, 0] rfl)
      · have h := h.1 hc
        refine lv_iload_n C.x C.b dX1_countSteps_68 rfl (lv_at hl 1 rfl) ?_
        refine lv_goto (tgt := 80) C.x C.b dX1_countSteps_69 (by decide) ?_
        refine jr_put C G jc1 7 (v := (M 3 (6 * 0 + v1.toNatClampNeg) 1) + (M 27 0 v1.toNatClampNeg)) (show 0 < 1 by decide) (by decide) (by decide) rfl (by decide) wd336 rfl rfl rfl rfl dX1_countSteps_80 (fun H locs G => ?_)
        obtain ⟨M18, eM18⟩ : ∃ z : jM, z = jup M 1 0 7 ((M 3 (6 * 0 + v1.toNatClampNeg) 1) + (M 27 0 v1.toNatClampNeg)) := ⟨_, rfl⟩
        rw [← eM18] at G
        have h := h M18 eM18
        have nM18 : jnb M18 = jnb M := by rw [eM18]; exact jnb_up (by decide)
        refine lv_aload_n C.x C.b dX1_countSteps_83 rfl (lv_at hl 2 rfl) ?_
        refine lv_iload_n C.x C.b dX1_countSteps_84 rfl (lv_at hl 3 rfl) ?_
        refine lv_aload_n C.x C.b dX1_countSteps_85 rfl (lv_at hl 2 rfl) ?_
        refine jr_get C G jc1 5 (v := .int (M18 1 0 5)) (show 0 < 1 by decide) (by decide) (by decide) rfl wd334 dX1_countSteps_86 ?_
        refine lv_icmp_ne (tgt := 96) C.x C.b dX1_countSteps_89 (by decide) (fun hc => ?_) (fun hc => ?_)
        · have h := h.2 hc
          refine lv_aload_n C.x C.b dX1_countSteps_96 rfl (lv_at hl 2 rfl) ?_
          refine jr_get C G jc1 8 (v := .int (M18 1 0 8)) (show 0 < 1 by decide) (by decide) (by decide) rfl wd338 dX1_countSteps_97 ?_
          refine lv_iload_n C.x C.b dX1_countSteps_100 rfl (lv_at hl 0 rfl) ?_
          refine va_mmax C.x C.b (C.ml.trans hl.1.symm) C.ow (C.w _ wd1010) (C.w _ wd740) (C.w _ wd94) (C.w _ wd741) (by decide) (Nat.le_of_ble_eq_true rfl) (by decide) (by decide) dX1_countSteps_101 ?_
          rw [show (if (M18 1 0 8) < ((M 3 (6 * 0 + v1.toNatClampNeg) 2) + (M 27 0 v1.toNatClampNeg)) then (M 3 (6 * 0 + v1.toNatClampNeg) 2) + (M 27 0 v1.toNatClampNeg) else M18 1 0 8 : Int32) = jmax (M18 1 0 8) ((M 3 (6 * 0 + v1.toNatClampNeg) 2) + (M 27 0 v1.toNatClampNeg)) from rfl]
          refine jr_put C G jc1 8 (v := jmax (M18 1 0 8) ((M 3 (6 * 0 + v1.toNatClampNeg) 2) + (M 27 0 v1.toNatClampNeg))) (show 0 < 1 by decide) (by decide) (by decide) rfl (by decide) wd338 rfl rfl rfl rfl dX1_countSteps_104 (fun H locs G => ?_)
          obtain ⟨M19, eM19⟩ : ∃ z : jM, z = jup M18 1 0 8 (jmax (M18 1 0 8) ((M 3 (6 * 0 + v1.toNatClampNeg) 2) + (M 27 0 v1.toNatClampNeg))) := ⟨_, rfl⟩
          rw [← eM19] at G
          have h := h M19 eM19
          have nM19 : jnb M19 = jnb M18 := by rw [eM19]; exact jnb_up (by decide)
          refine lv_aload_n C.x C.b dX1_countSteps_107 rfl (lv_at hl 2 rfl) ?_
          refine lv_iload_n C.x C.b dX1_countSteps_108 rfl (lv_at hl 3 rfl) ?_
          refine lv_aload_n C.x C.b dX1_countSteps_109 rfl (lv_at hl 2 rfl) ?_
          refine jr_get C G jc1 5 (v := .int (M19 1 0 5)) (show 0 < 1 by decide) (by decide) (by decide) rfl wd334 dX1_countSteps_110 ?_
          refine lv_icmp_ne (tgt := 120) C.x C.b dX1_countSteps_113 (by decide) (fun hc => ?_) (fun hc => ?_)
          · have h := h.2 hc
            refine lv_aload_n C.x C.b dX1_countSteps_120 rfl (lv_at hl 2 rfl) ?_
            refine jr_get C G jc1 9 (v := .int (M19 1 0 9)) (show 0 < 1 by decide) (by decide) (by decide) rfl wd340 dX1_countSteps_121 ?_
            refine lv_iload_n C.x C.b dX1_countSteps_124 rfl (lv_at hl 1 rfl) ?_
            refine va_mmax C.x C.b (C.ml.trans hl.1.symm) C.ow (C.w _ wd1010) (C.w _ wd740) (C.w _ wd94) (C.w _ wd741) (by decide) (Nat.le_of_ble_eq_true rfl) (by decide) (by decide) dX1_countSteps_125 ?_
            rw [show (if (M19 1 0 9) < ((M 3 (6 * 0 + v1.toNatClampNeg) 1) + (M 27 0 v1.toNatClampNeg)) then (M 3 (6 * 0 + v1.toNatClampNeg) 1) + (M 27 0 v1.toNatClampNeg) else M19 1 0 9 : Int32) = jmax (M19 1 0 9) ((M 3 (6 * 0 + v1.toNatClampNeg) 1) + (M 27 0 v1.toNatClampNeg)) from rfl]
            refine jr_put C G jc1 9 (v := jmax (M19 1 0 9) ((M 3 (6 * 0 + v1.toNatClampNeg) 1) + (M 27 0 v1.toNatClampNeg))) (show 0 < 1 by decide) (by decide) (by decide) rfl (by decide) wd340 rfl rfl rfl rfl dX1_countSteps_128 (fun H locs G => ?_)
            obtain ⟨M20, eM20⟩ : ∃ z : jM, z = jup M19 1 0 9 (jmax (M19 1 0 9) ((M 3 (6 * 0 + v1.toNatClampNeg) 1) + (M 27 0 v1.toNatClampNeg))) := ⟨_, rfl⟩
            rw [← eM20] at G
            have h := h M20 eM20
            have nM20 : jnb M20 = jnb M19 := by rw [eM20]; exact jnb_up (by decide)
            refine lv_aload_n C.x C.b dX1_countSteps_131 rfl (lv_at hl 2 rfl) ?_
            refine lv_iload_n C.x C.b dX1_countSteps_132 rfl (lv_at hl 3 rfl) ?_
            refine lv_aload_n C.x C.b dX1_countSteps_133 rfl (lv_at hl 2 rfl) ?_
            refine jr_get C G jc1 5 (v := .int (M20 1 0 5)) (show 0 < 1 by decide) (by decide) (by decide) rfl wd334 dX1_countSteps_134 ?_
            refine lv_icmp_ne (tgt := 144) C.x C.b dX1_countSteps_137 (by decide) (fun hc => ?_) (fun hc => ?_)
            · have h := h.2 hc
              refine lv_aload_n C.x C.b dX1_countSteps_144 rfl (lv_at hl 2 rfl) ?_
              refine jr_get C G jc1 10 (v := .int (M20 1 0 10)) (show 0 < 1 by decide) (by decide) (by decide) rfl wd342 dX1_countSteps_145 ?_
              refine lv_iload_n C.x C.b dX1_countSteps_148 rfl (lv_at hl 0 rfl) ?_
              refine va_mmin C.x C.b (C.ml.trans hl.1.symm) C.ow (C.w _ wd1011) (C.w _ wd890) (C.w _ wd94) (C.w _ wd891) (by decide) (Nat.le_of_ble_eq_true rfl) (by decide) (by decide) dX1_countSteps_149 ?_
              rw [show (if ((M 3 (6 * 0 + v1.toNatClampNeg) 2) + (M 27 0 v1.toNatClampNeg)) < (M20 1 0 10) then (M 3 (6 * 0 + v1.toNatClampNeg) 2) + (M 27 0 v1.toNatClampNeg) else M20 1 0 10 : Int32) = jmin (M20 1 0 10) ((M 3 (6 * 0 + v1.toNatClampNeg) 2) + (M 27 0 v1.toNatClampNeg)) from rfl]
              refine jr_put C G jc1 10 (v := jmin (M20 1 0 10) ((M 3 (6 * 0 + v1.toNatClampNeg) 2) + (M 27 0 v1.toNatClampNeg))) (show 0 < 1 by decide) (by decide) (by decide) rfl (by decide) wd342 rfl rfl rfl rfl dX1_countSteps_152 (fun H locs G => ?_)
              obtain ⟨M21, eM21⟩ : ∃ z : jM, z = jup M20 1 0 10 (jmin (M20 1 0 10) ((M 3 (6 * 0 + v1.toNatClampNeg) 2) + (M 27 0 v1.toNatClampNeg))) := ⟨_, rfl⟩
              rw [← eM21] at G
              have h := h M21 eM21
              have nM21 : jnb M21 = jnb M20 := by rw [eM21]; exact jnb_up (by decide)
              refine lv_iinc (v := v1 + 1) (lv' := [(1, .int (v1 + 1)), (3, .int ((M 3 (6 * 0 + v1.toNatClampNeg) 2) + (M 27 0 v1.toNatClampNeg))), (2, .int ((M 3 (6 * 0 + v1.toNatClampNeg) 1) + (M 27 0 v1.toNatClampNeg))), (0, .ref (g 1 0))]) C.x C.b dX1_countSteps_155 hl (k := 3) rfl rfl (by decide) rfl (fun ls hl => ?_)
              refine lv_goto (tgt := 5) C.x C.b dX1_countSteps_158 (by decide) ?_
              exact h p l e s m args below meth c D cA base g C hr htb _ _ G ls (lv_sub hl [3, 0] rfl)
            · have h := h.1 hc
              refine lv_iload_n C.x C.b dX1_countSteps_140 rfl (lv_at hl 0 rfl) ?_
              refine lv_goto (tgt := 152) C.x C.b dX1_countSteps_141 (by decide) ?_
              refine jr_put C G jc1 10 (v := (M 3 (6 * 0 + v1.toNatClampNeg) 2) + (M 27 0 v1.toNatClampNeg)) (show 0 < 1 by decide) (by decide) (by decide) rfl (by decide) wd342 rfl rfl rfl rfl dX1_countSteps_152 (fun H locs G => ?_)
              obtain ⟨M22, eM22⟩ : ∃ z : jM, z = jup M20 1 0 10 ((M 3 (6 * 0 + v1.toNatClampNeg) 2) + (M 27 0 v1.toNatClampNeg)) := ⟨_, rfl⟩
              rw [← eM22] at G
              have h := h M22 eM22
              have nM22 : jnb M22 = jnb M20 := by rw [eM22]; exact jnb_up (by decide)
              refine lv_iinc (v := v1 + 1) (lv' := [(1, .int (v1 + 1)), (3, .int ((M 3 (6 * 0 + v1.toNatClampNeg) 2) + (M 27 0 v1.toNatClampNeg))), (2, .int ((M 3 (6 * 0 + v1.toNatClampNeg) 1) + (M 27 0 v1.toNatClampNeg))), (0, .ref (g 1 0))]) C.x C.b dX1_countSteps_155 hl (k := 3) rfl rfl (by decide) rfl (fun ls hl => ?_)
              refine lv_goto (tgt := 5) C.x C.b dX1_countSteps_158 (by decide) ?_
              exact h p l e s m args below meth c D cA base g C hr htb _ _ G ls (lv_sub hl [3, 0] rfl)
          · have h := h.1 hc
            refine lv_iload_n C.x C.b dX1_countSteps_116 rfl (lv_at hl 1 rfl) ?_
            refine lv_goto (tgt := 128) C.x C.b dX1_countSteps_117 (by decide) ?_
            refine jr_put C G jc1 9 (v := (M 3 (6 * 0 + v1.toNatClampNeg) 1) + (M 27 0 v1.toNatClampNeg)) (show 0 < 1 by decide) (by decide) (by decide) rfl (by decide) wd340 rfl rfl rfl rfl dX1_countSteps_128 (fun H locs G => ?_)
            obtain ⟨M23, eM23⟩ : ∃ z : jM, z = jup M19 1 0 9 ((M 3 (6 * 0 + v1.toNatClampNeg) 1) + (M 27 0 v1.toNatClampNeg)) := ⟨_, rfl⟩
            rw [← eM23] at G
            have h := h M23 eM23
            have nM23 : jnb M23 = jnb M19 := by rw [eM23]; exact jnb_up (by decide)
            refine lv_aload_n C.x C.b dX1_countSteps_131 rfl (lv_at hl 2 rfl) ?_
            refine lv_iload_n C.x C.b dX1_countSteps_132 rfl (lv_at hl 3 rfl) ?_
            refine lv_aload_n C.x C.b dX1_countSteps_133 rfl (lv_at hl 2 rfl) ?_
            refine jr_get C G jc1 5 (v := .int (M23 1 0 5)) (show 0 < 1 by decide) (by decide) (by decide) rfl wd334 dX1_countSteps_134 ?_
            refine lv_icmp_ne (tgt := 144) C.x C.b dX1_countSteps_137 (by decide) (fun hc => ?_) (fun hc => ?_)
            · have h := h.2 hc
              refine lv_aload_n C.x C.b dX1_countSteps_144 rfl (lv_at hl 2 rfl) ?_
              refine jr_get C G jc1 10 (v := .int (M23 1 0 10)) (show 0 < 1 by decide) (by decide) (by decide) rfl wd342 dX1_countSteps_145 ?_
              refine lv_iload_n C.x C.b dX1_countSteps_148 rfl (lv_at hl 0 rfl) ?_
              refine va_mmin C.x C.b (C.ml.trans hl.1.symm) C.ow (C.w _ wd1011) (C.w _ wd890) (C.w _ wd94) (C.w _ wd891) (by decide) (Nat.le_of_ble_eq_true rfl) (by decide) (by decide) dX1_countSteps_149 ?_
              rw [show (if ((M 3 (6 * 0 + v1.toNatClampNeg) 2) + (M 27 0 v1.toNatClampNeg)) < (M23 1 0 10) then (M 3 (6 * 0 + v1.toNatClampNeg) 2) + (M 27 0 v1.toNatClampNeg) else M23 1 0 10 : Int32) = jmin (M23 1 0 10) ((M 3 (6 * 0 + v1.toNatClampNeg) 2) + (M 27 0 v1.toNatClampNeg)) from rfl]
              refine jr_put C G jc1 10 (v := jmin (M23 1 0 10) ((M 3 (6 * 0 + v1.toNatClampNeg) 2) + (M 27 0 v1.toNatClampNeg))) (show 0 < 1 by decide) (by decide) (by decide) rfl (by decide) wd342 rfl rfl rfl rfl dX1_countSteps_152 (fun H locs G => ?_)
              obtain ⟨M24, eM24⟩ : ∃ z : jM, z = jup M23 1 0 10 (jmin (M23 1 0 10) ((M 3 (6 * 0 + v1.toNatClampNeg) 2) + (M 27 0 v1.toNatClampNeg))) := ⟨_, rfl⟩
              rw [← eM24] at G
              have h := h M24 eM24
              have nM24 : jnb M24 = jnb M23 := by rw [eM24]; exact jnb_up (by decide)
              refine lv_iinc (v := v1 + 1) (lv' := [(1, .int (v1 + 1)), (3, .int ((M 3 (6 * 0 + v1.toNatClampNeg) 2) + (M 27 0 v1.toNatClampNeg))), (2, .int ((M 3 (6 * 0 + v1.toNatClampNeg) 1) + (M 27 0 v1.toNatClampNeg))), (0, .ref (g 1 0))]) C.x C.b dX1_countSteps_155 hl (k := 3) rfl rfl (by decide) rfl (fun ls hl => ?_)
              refine lv_goto (tgt := 5) C.x C.b dX1_countSteps_158 (by decide) ?_
              exact h p l e s m args below meth c D cA base g C hr htb _ _ G ls (lv_sub hl [3, 0] rfl)
            · have h := h.1 hc
              refine lv_iload_n C.x C.b dX1_countSteps_140 rfl (lv_at hl 0 rfl) ?_
              refine lv_goto (tgt := 152) C.x C.b dX1_countSteps_141 (by decide) ?_
              refine jr_put C G jc1 10 (v := (M 3 (6 * 0 + v1.toNatClampNeg) 2) + (M 27 0 v1.toNatClampNeg)) (show 0 < 1 by decide) (by decide) (by decide) rfl (by decide) wd342 rfl rfl rfl rfl dX1_countSteps_152 (fun H locs G => ?_)
              obtain ⟨M25, eM25⟩ : ∃ z : jM, z = jup M23 1 0 10 ((M 3 (6 * 0 + v1.toNatClampNeg) 2) + (M 27 0 v1.toNatClampNeg)) := ⟨_, rfl⟩
              rw [← eM25] at G
              have h := h M25 eM25
              have nM25 : jnb M25 = jnb M23 := by rw [eM25]; exact jnb_up (by decide)
              refine lv_iinc (v := v1 + 1) (lv' := [(1, .int (v1 + 1)), (3, .int ((M 3 (6 * 0 + v1.toNatClampNeg) 2) + (M 27 0 v1.toNatClampNeg))), (2, .int ((M 3 (6 * 0 + v1.toNatClampNeg) 1) + (M 27 0 v1.toNatClampNeg))), (0, .ref (g 1 0))]) C.x C.b dX1_countSteps_155 hl (k := 3) rfl rfl (by decide) rfl (fun ls hl => ?_)
              refine lv_goto (tgt := 5) C.x C.b dX1_countSteps_158 (by decide) ?_
              exact h p l e s m args below meth c D cA base g C hr htb _ _ G ls (lv_sub hl [3, 0] rfl)
        · have h := h.1 hc
          refine lv_iload_n C.x C.b dX1_countSteps_92 rfl (lv_at hl 0 rfl) ?_
          refine lv_goto (tgt := 104) C.x C.b dX1_countSteps_93 (by decide) ?_
          refine jr_put C G jc1 8 (v := (M 3 (6 * 0 + v1.toNatClampNeg) 2) + (M 27 0 v1.toNatClampNeg)) (show 0 < 1 by decide) (by decide) (by decide) rfl (by decide) wd338 rfl rfl rfl rfl dX1_countSteps_104 (fun H locs G => ?_)
          obtain ⟨M26, eM26⟩ : ∃ z : jM, z = jup M18 1 0 8 ((M 3 (6 * 0 + v1.toNatClampNeg) 2) + (M 27 0 v1.toNatClampNeg)) := ⟨_, rfl⟩
          rw [← eM26] at G
          have h := h M26 eM26
          have nM26 : jnb M26 = jnb M18 := by rw [eM26]; exact jnb_up (by decide)
          refine lv_aload_n C.x C.b dX1_countSteps_107 rfl (lv_at hl 2 rfl) ?_
          refine lv_iload_n C.x C.b dX1_countSteps_108 rfl (lv_at hl 3 rfl) ?_
          refine lv_aload_n C.x C.b dX1_countSteps_109 rfl (lv_at hl 2 rfl) ?_
          refine jr_get C G jc1 5 (v := .int (M26 1 0 5)) (show 0 < 1 by decide) (by decide) (by decide) rfl wd334 dX1_countSteps_110 ?_
          refine lv_icmp_ne (tgt := 120) C.x C.b dX1_countSteps_113 (by decide) (fun hc => ?_) (fun hc => ?_)
          · have h := h.2 hc
            refine lv_aload_n C.x C.b dX1_countSteps_120 rfl (lv_at hl 2 rfl) ?_
            refine jr_get C G jc1 9 (v := .int (M26 1 0 9)) (show 0 < 1 by decide) (by decide) (by decide) rfl wd340 dX1_countSteps_121 ?_
            refine lv_iload_n C.x C.b dX1_countSteps_124 rfl (lv_at hl 1 rfl) ?_
            refine va_mmax C.x C.b (C.ml.trans hl.1.symm) C.ow (C.w _ wd1010) (C.w _ wd740) (C.w _ wd94) (C.w _ wd741) (by decide) (Nat.le_of_ble_eq_true rfl) (by decide) (by decide) dX1_countSteps_125 ?_
            rw [show (if (M26 1 0 9) < ((M 3 (6 * 0 + v1.toNatClampNeg) 1) + (M 27 0 v1.toNatClampNeg)) then (M 3 (6 * 0 + v1.toNatClampNeg) 1) + (M 27 0 v1.toNatClampNeg) else M26 1 0 9 : Int32) = jmax (M26 1 0 9) ((M 3 (6 * 0 + v1.toNatClampNeg) 1) + (M 27 0 v1.toNatClampNeg)) from rfl]
            refine jr_put C G jc1 9 (v := jmax (M26 1 0 9) ((M 3 (6 * 0 + v1.toNatClampNeg) 1) + (M 27 0 v1.toNatClampNeg))) (show 0 < 1 by decide) (by decide) (by decide) rfl (by decide) wd340 rfl rfl rfl rfl dX1_countSteps_128 (fun H locs G => ?_)
            obtain ⟨M27, eM27⟩ : ∃ z : jM, z = jup M26 1 0 9 (jmax (M26 1 0 9) ((M 3 (6 * 0 + v1.toNatClampNeg) 1) + (M 27 0 v1.toNatClampNeg))) := ⟨_, rfl⟩
            rw [← eM27] at G
            have h := h M27 eM27
            have nM27 : jnb M27 = jnb M26 := by rw [eM27]; exact jnb_up (by decide)
            refine lv_aload_n C.x C.b dX1_countSteps_131 rfl (lv_at hl 2 rfl) ?_
            refine lv_iload_n C.x C.b dX1_countSteps_132 rfl (lv_at hl 3 rfl) ?_
            refine lv_aload_n C.x C.b dX1_countSteps_133 rfl (lv_at hl 2 rfl) ?_
            refine jr_get C G jc1 5 (v := .int (M27 1 0 5)) (show 0 < 1 by decide) (by decide) (by decide) rfl wd334 dX1_countSteps_134 ?_
            refine lv_icmp_ne (tgt := 144) C.x C.b dX1_countSteps_137 (by decide) (fun hc => ?_) (fun hc => ?_)
            · have h := h.2 hc
              refine lv_aload_n C.x C.b dX1_countSteps_144 rfl (lv_at hl 2 rfl) ?_
              refine jr_get C G jc1 10 (v := .int (M27 1 0 10)) (show 0 < 1 by decide) (by decide) (by decide) rfl wd342 dX1_countSteps_145 ?_
              refine lv_iload_n C.x C.b dX1_countSteps_148 rfl (lv_at hl 0 rfl) ?_
              refine va_mmin C.x C.b (C.ml.trans hl.1.symm) C.ow (C.w _ wd1011) (C.w _ wd890) (C.w _ wd94) (C.w _ wd891) (by decide) (Nat.le_of_ble_eq_true rfl) (by decide) (by decide) dX1_countSteps_149 ?_
              rw [show (if ((M 3 (6 * 0 + v1.toNatClampNeg) 2) + (M 27 0 v1.toNatClampNeg)) < (M27 1 0 10) then (M 3 (6 * 0 + v1.toNatClampNeg) 2) + (M 27 0 v1.toNatClampNeg) else M27 1 0 10 : Int32) = jmin (M27 1 0 10) ((M 3 (6 * 0 + v1.toNatClampNeg) 2) + (M 27 0 v1.toNatClampNeg)) from rfl]
              refine jr_put C G jc1 10 (v := jmin (M27 1 0 10) ((M 3 (6 * 0 + v1.toNatClampNeg) 2) + (M 27 0 v1.toNatClampNeg))) (show 0 < 1 by decide) (by decide) (by decide) rfl (by decide) wd342 rfl rfl rfl rfl dX1_countSteps_152 (fun H locs G => ?_)
              obtain ⟨M28, eM28⟩ : ∃ z : jM, z = jup M27 1 0 10 (jmin (M27 1 0 10) ((M 3 (6 * 0 + v1.toNatClampNeg) 2) + (M 27 0 v1.toNatClampNeg))) := ⟨_, rfl⟩
              rw [← eM28] at G
              have h := h M28 eM28
              have nM28 : jnb M28 = jnb M27 := by rw [eM28]; exact jnb_up (by decide)
              refine lv_iinc (v := v1 + 1) (lv' := [(1, .int (v1 + 1)), (3, .int ((M 3 (6 * 0 + v1.toNatClampNeg) 2) + (M 27 0 v1.toNatClampNeg))), (2, .int ((M 3 (6 * 0 + v1.toNatClampNeg) 1) + (M 27 0 v1.toNatClampNeg))), (0, .ref (g 1 0))]) C.x C.b dX1_countSteps_155 hl (k := 3) rfl rfl (by decide) rfl (fun ls hl => ?_)
              refine lv_goto (tgt := 5) C.x C.b dX1_countSteps_158 (by decide) ?_
              exact h p l e s m args below meth c D cA base g C hr htb _ _ G ls (lv_sub hl [3, 0] rfl)
            · have h := h.1 hc
              refine lv_iload_n C.x C.b dX1_countSteps_140 rfl (lv_at hl 0 rfl) ?_
              refine lv_goto (tgt := 152) C.x C.b dX1_countSteps_141 (by decide) ?_
              refine jr_put C G jc1 10 (v := (M 3 (6 * 0 + v1.toNatClampNeg) 2) + (M 27 0 v1.toNatClampNeg)) (show 0 < 1 by decide) (by decide) (by decide) rfl (by decide) wd342 rfl rfl rfl rfl dX1_countSteps_152 (fun H locs G => ?_)
              obtain ⟨M29, eM29⟩ : ∃ z : jM, z = jup M27 1 0 10 ((M 3 (6 * 0 + v1.toNatClampNeg) 2) + (M 27 0 v1.toNatClampNeg)) := ⟨_, rfl⟩
              rw [← eM29] at G
              have h := h M29 eM29
              have nM29 : jnb M29 = jnb M27 := by rw [eM29]; exact jnb_up (by decide)
              refine lv_iinc (v := v1 + 1) (lv' := [(1, .int (v1 + 1)), (3, .int ((M 3 (6 * 0 + v1.toNatClampNeg) 2) + (M 27 0 v1.toNatClampNeg))), (2, .int ((M 3 (6 * 0 + v1.toNatClampNeg) 1) + (M 27 0 v1.toNatClampNeg))), (0, .ref (g 1 0))]) C.x C.b dX1_countSteps_155 hl (k := 3) rfl rfl (by decide) rfl (fun ls hl => ?_)
              refine lv_goto (tgt := 5) C.x C.b dX1_countSteps_158 (by decide) ?_
              exact h p l e s m args below meth c D cA base g C hr htb _ _ G ls (lv_sub hl [3, 0] rfl)
          · have h := h.1 hc
            refine lv_iload_n C.x C.b dX1_countSteps_116 rfl (lv_at hl 1 rfl) ?_
            refine lv_goto (tgt := 128) C.x C.b dX1_countSteps_117 (by decide) ?_
            refine jr_put C G jc1 9 (v := (M 3 (6 * 0 + v1.toNatClampNeg) 1) + (M 27 0 v1.toNatClampNeg)) (show 0 < 1 by decide) (by decide) (by decide) rfl (by decide) wd340 rfl rfl rfl rfl dX1_countSteps_128 (fun H locs G => ?_)
            obtain ⟨M30, eM30⟩ : ∃ z : jM, z = jup M26 1 0 9 ((M 3 (6 * 0 + v1.toNatClampNeg) 1) + (M 27 0 v1.toNatClampNeg)) := ⟨_, rfl⟩
            rw [← eM30] at G
            have h := h M30 eM30
            have nM30 : jnb M30 = jnb M26 := by rw [eM30]; exact jnb_up (by decide)
            refine lv_aload_n C.x C.b dX1_countSteps_131 rfl (lv_at hl 2 rfl) ?_
            refine lv_iload_n C.x C.b dX1_countSteps_132 rfl (lv_at hl 3 rfl) ?_
            refine lv_aload_n C.x C.b dX1_countSteps_133 rfl (lv_at hl 2 rfl) ?_
            refine jr_get C G jc1 5 (v := .int (M30 1 0 5)) (show 0 < 1 by decide) (by decide) (by decide) rfl wd334 dX1_countSteps_134 ?_
            refine lv_icmp_ne (tgt := 144) C.x C.b dX1_countSteps_137 (by decide) (fun hc => ?_) (fun hc => ?_)
            · have h := h.2 hc
              refine lv_aload_n C.x C.b dX1_countSteps_144 rfl (lv_at hl 2 rfl) ?_
              refine jr_get C G jc1 10 (v := .int (M30 1 0 10)) (show 0 < 1 by decide) (by decide) (by decide) rfl wd342 dX1_countSteps_145 ?_
              refine lv_iload_n C.x C.b dX1_countSteps_148 rfl (lv_at hl 0 rfl) ?_
              refine va_mmin C.x C.b (C.ml.trans hl.1.symm) C.ow (C.w _ wd1011) (C.w _ wd890) (C.w _ wd94) (C.w _ wd891) (by decide) (Nat.le_of_ble_eq_true rfl) (by decide) (by decide) dX1_countSteps_149 ?_
              rw [show (if ((M 3 (6 * 0 + v1.toNatClampNeg) 2) + (M 27 0 v1.toNatClampNeg)) < (M30 1 0 10) then (M 3 (6 * 0 + v1.toNatClampNeg) 2) + (M 27 0 v1.toNatClampNeg) else M30 1 0 10 : Int32) = jmin (M30 1 0 10) ((M 3 (6 * 0 + v1.toNatClampNeg) 2) + (M 27 0 v1.toNatClampNeg)) from rfl]
              refine jr_put C G jc1 10 (v := jmin (M30 1 0 10) ((M 3 (6 * 0 + v1.toNatClampNeg) 2) + (M 27 0 v1.toNatClampNeg))) (show 0 < 1 by decide) (by decide) (by decide) rfl (by decide) wd342 rfl rfl rfl rfl dX1_countSteps_152 (fun H locs G => ?_)
              obtain ⟨M31, eM31⟩ : ∃ z : jM, z = jup M30 1 0 10 (jmin (M30 1 0 10) ((M 3 (6 * 0 + v1.toNatClampNeg) 2) + (M 27 0 v1.toNatClampNeg))) := ⟨_, rfl⟩
              rw [← eM31] at G
              have h := h M31 eM31
              have nM31 : jnb M31 = jnb M30 := by rw [eM31]; exact jnb_up (by decide)
              refine lv_iinc (v := v1 + 1) (lv' := [(1, .int (v1 + 1)), (3, .int ((M 3 (6 * 0 + v1.toNatClampNeg) 2) + (M 27 0 v1.toNatClampNeg))), (2, .int ((M 3 (6 * 0 + v1.toNatClampNeg) 1) + (M 27 0 v1.toNatClampNeg))), (0, .ref (g 1 0))]) C.x C.b dX1_countSteps_155 hl (k := 3) rfl rfl (by decide) rfl (fun ls hl => ?_)
              refine lv_goto (tgt := 5) C.x C.b dX1_countSteps_158 (by decide) ?_
              exact h p l e s m args below meth c D cA base g C hr htb _ _ G ls (lv_sub hl [3, 0] rfl)
            · have h := h.1 hc
              refine lv_iload_n C.x C.b dX1_countSteps_140 rfl (lv_at hl 0 rfl) ?_
              refine lv_goto (tgt := 152) C.x C.b dX1_countSteps_141 (by decide) ?_
              refine jr_put C G jc1 10 (v := (M 3 (6 * 0 + v1.toNatClampNeg) 2) + (M 27 0 v1.toNatClampNeg)) (show 0 < 1 by decide) (by decide) (by decide) rfl (by decide) wd342 rfl rfl rfl rfl dX1_countSteps_152 (fun H locs G => ?_)
              obtain ⟨M32, eM32⟩ : ∃ z : jM, z = jup M30 1 0 10 ((M 3 (6 * 0 + v1.toNatClampNeg) 2) + (M 27 0 v1.toNatClampNeg)) := ⟨_, rfl⟩
              rw [← eM32] at G
              have h := h M32 eM32
              have nM32 : jnb M32 = jnb M30 := by rw [eM32]; exact jnb_up (by decide)
              refine lv_iinc (v := v1 + 1) (lv' := [(1, .int (v1 + 1)), (3, .int ((M 3 (6 * 0 + v1.toNatClampNeg) 2) + (M 27 0 v1.toNatClampNeg))), (2, .int ((M 3 (6 * 0 + v1.toNatClampNeg) 1) + (M 27 0 v1.toNatClampNeg))), (0, .ref (g 1 0))]) C.x C.b dX1_countSteps_155 hl (k := 3) rfl rfl (by decide) rfl (fun ls hl => ?_)
              refine lv_goto (tgt := 5) C.x C.b dX1_countSteps_158 (by decide) ?_
              exact h p l e s m args below meth c D cA base g C hr htb _ _ G ls (lv_sub hl [3, 0] rfl)

theorem en_X2_add {v1 : Int32} {v2 : Int32} {v3 : Int32} {M : jM} {Q : Int32 → Nat → jM → Prop} (h : at_X2_add_0 v1 v2 v3 M Q) : ok_X2_add v1 v2 v3 M Q := jr_enter (by decide) (fun g => rfl) (fun g => Nat.le_of_ble_eq_true rfl) h
set_option maxHeartbeats 4000000 in
set_option maxRecDepth 100000 in
theorem bl_X2_add_0 (v1 : Int32) (v2 : Int32) (v3 : Int32) (M : jM) (Q : Int32 → Nat → jM → Prop) 
  (h : (576 ≤ (M 2 0 3) → Q 0 0 M) ∧ (¬ (576 ≤ (M 2 0 3)) → vp_in (M 2 0 3) 576 ∧ (∀ M1 : jM, M1 = jup M 30 0 (M 2 0 3).toNatClampNeg (v2 / 49) → vp_in (M1 2 0 3) 576 ∧ (∀ M2 : jM, M2 = jup M1 31 0 (M1 2 0 3).toNatClampNeg v1 → vp_in (M2 2 0 3) 576 ∧ (∀ M3 : jM, M3 = jup M2 32 0 (M2 2 0 3).toNatClampNeg (v3 - v2) → vp_in (M3 2 0 3) 576 ∧ (∀ M4 : jM, M4 = jup M3 2 0 4 (jmax (M3 2 0 4) (M3 32 0 (M3 2 0 3).toNatClampNeg)) → (∀ M5 : jM, M5 = jup M4 2 0 3 ((M4 2 0 3) + 1) → Q 0 0 M5))))))) :
  at_X2_add_0 v1 v2 v3 M Q := by
  intro p l e s m args below meth c D cA base g C hr htb H locs G ls hl
  refine lv_aload_n C.x C.b dX2_add_0 rfl (lv_at hl 0 rfl) ?_
  refine jr_get C G jc2 3 (v := .int (M 2 0 3)) (show 0 < 1 by decide) (by decide) (by decide) rfl wd303 dX2_add_1 ?_
  refine lv_sipush (v := 576) C.x C.b dX2_add_4 (by decide) ?_
  refine lv_icmp_ge (tgt := 75) C.x C.b dX2_add_7 (by decide) (fun hc => ?_) (fun hc => ?_)
  · have h := h.1 hc
    exact jr_retV C hr G h (by decide) (by decide) dX2_add_75
  · have h := h.2 hc
    refine lv_aload_n C.x C.b dX2_add_10 rfl (lv_at hl 0 rfl) ?_
    refine jr_get C G jc2 0 (v := .ref (g 30 0)) (show 0 < 1 by decide) (by decide) (by decide) rfl wd296 dX2_add_11 ?_
    refine lv_aload_n C.x C.b dX2_add_14 rfl (lv_at hl 0 rfl) ?_
    refine jr_get C G jc2 3 (v := .int (M 2 0 3)) (show 0 < 1 by decide) (by decide) (by decide) rfl wd303 dX2_add_15 ?_
    refine lv_iload_n C.x C.b dX2_add_18 rfl (lv_at hl 2 rfl) ?_
    refine lv_bipush (v := 49) C.x C.b dX2_add_19 (by decide) ?_
    refine lv_idiv C.x C.b dX2_add_21 (by decide) ?_
    obtain ⟨hs, h⟩ := h
    refine jr_ast C G (show 0 < 1 by decide) (by decide) (by decide) (by decide) rfl rfl hs dX2_add_22 (fun H locs G => ?_)
    obtain ⟨M1, eM1⟩ : ∃ z : jM, z = jup M 30 0 (M 2 0 3).toNatClampNeg (v2 / 49) := ⟨_, rfl⟩
    rw [← eM1] at G
    have h := h M1 eM1
    have nM1 : jnb M1 = jnb M := by rw [eM1]; exact jnb_up (by decide)
    refine lv_aload_n C.x C.b dX2_add_23 rfl (lv_at hl 0 rfl) ?_
    refine jr_get C G jc2 1 (v := .ref (g 31 0)) (show 0 < 1 by decide) (by decide) (by decide) rfl wd298 dX2_add_24 ?_
    refine lv_aload_n C.x C.b dX2_add_27 rfl (lv_at hl 0 rfl) ?_
    refine jr_get C G jc2 3 (v := .int (M1 2 0 3)) (show 0 < 1 by decide) (by decide) (by decide) rfl wd303 dX2_add_28 ?_
    refine lv_iload_n C.x C.b dX2_add_31 rfl (lv_at hl 1 rfl) ?_
    obtain ⟨hs, h⟩ := h
    refine jr_ast C G (show 0 < 1 by decide) (by decide) (by decide) (by decide) rfl rfl hs dX2_add_32 (fun H locs G => ?_)
    obtain ⟨M2, eM2⟩ : ∃ z : jM, z = jup M1 31 0 (M1 2 0 3).toNatClampNeg v1 := ⟨_, rfl⟩
    rw [← eM2] at G
    have h := h M2 eM2
    have nM2 : jnb M2 = jnb M1 := by rw [eM2]; exact jnb_up (by decide)
    refine lv_aload_n C.x C.b dX2_add_33 rfl (lv_at hl 0 rfl) ?_
    refine jr_get C G jc2 2 (v := .ref (g 32 0)) (show 0 < 1 by decide) (by decide) (by decide) rfl wd300 dX2_add_34 ?_
    refine lv_aload_n C.x C.b dX2_add_37 rfl (lv_at hl 0 rfl) ?_
    refine jr_get C G jc2 3 (v := .int (M2 2 0 3)) (show 0 < 1 by decide) (by decide) (by decide) rfl wd303 dX2_add_38 ?_
    refine lv_iload_n C.x C.b dX2_add_41 rfl (lv_at hl 3 rfl) ?_
    refine lv_iload_n C.x C.b dX2_add_42 rfl (lv_at hl 2 rfl) ?_
    refine lv_isub C.x C.b dX2_add_43 ?_
    obtain ⟨hs, h⟩ := h
    refine jr_ast C G (show 0 < 1 by decide) (by decide) (by decide) (by decide) rfl rfl hs dX2_add_44 (fun H locs G => ?_)
    obtain ⟨M3, eM3⟩ : ∃ z : jM, z = jup M2 32 0 (M2 2 0 3).toNatClampNeg (v3 - v2) := ⟨_, rfl⟩
    rw [← eM3] at G
    have h := h M3 eM3
    have nM3 : jnb M3 = jnb M2 := by rw [eM3]; exact jnb_up (by decide)
    refine lv_aload_n C.x C.b dX2_add_45 rfl (lv_at hl 0 rfl) ?_
    refine lv_aload_n C.x C.b dX2_add_46 rfl (lv_at hl 0 rfl) ?_
    refine jr_get C G jc2 4 (v := .int (M3 2 0 4)) (show 0 < 1 by decide) (by decide) (by decide) rfl wd306 dX2_add_47 ?_
    refine lv_aload_n C.x C.b dX2_add_50 rfl (lv_at hl 0 rfl) ?_
    refine jr_get C G jc2 2 (v := .ref (g 32 0)) (show 0 < 1 by decide) (by decide) (by decide) rfl wd300 dX2_add_51 ?_
    refine lv_aload_n C.x C.b dX2_add_54 rfl (lv_at hl 0 rfl) ?_
    refine jr_get C G jc2 3 (v := .int (M3 2 0 3)) (show 0 < 1 by decide) (by decide) (by decide) rfl wd303 dX2_add_55 ?_
    obtain ⟨hs, h⟩ := h
    refine jr_ald C G (show 0 < 1 by decide) (by decide) (by decide) (by decide) rfl rfl hs dX2_add_58 ?_
    refine va_mmax C.x C.b (C.ml.trans hl.1.symm) C.ow (C.w _ wd951) (C.w _ wd740) (C.w _ wd94) (C.w _ wd741) (by decide) (Nat.le_of_ble_eq_true rfl) (by decide) (by decide) dX2_add_59 ?_
    rw [show (if (M3 2 0 4) < (M3 32 0 (M3 2 0 3).toNatClampNeg) then M3 32 0 (M3 2 0 3).toNatClampNeg else M3 2 0 4 : Int32) = jmax (M3 2 0 4) (M3 32 0 (M3 2 0 3).toNatClampNeg) from rfl]
    refine jr_put C G jc2 4 (v := jmax (M3 2 0 4) (M3 32 0 (M3 2 0 3).toNatClampNeg)) (show 0 < 1 by decide) (by decide) (by decide) rfl (by decide) wd306 rfl rfl rfl rfl dX2_add_62 (fun H locs G => ?_)
    obtain ⟨M4, eM4⟩ : ∃ z : jM, z = jup M3 2 0 4 (jmax (M3 2 0 4) (M3 32 0 (M3 2 0 3).toNatClampNeg)) := ⟨_, rfl⟩
    rw [← eM4] at G
    have h := h M4 eM4
    have nM4 : jnb M4 = jnb M3 := by rw [eM4]; exact jnb_up (by decide)
    refine lv_aload_n C.x C.b dX2_add_65 rfl (lv_at hl 0 rfl) ?_
    refine lv_dup C.x C.b dX2_add_66 rfl ?_
    refine jr_get C G jc2 3 (v := .int (M4 2 0 3)) (show 0 < 1 by decide) (by decide) (by decide) rfl wd303 dX2_add_67 ?_
    refine lv_iconst (v := 1) C.x C.b dX2_add_70 (by decide) ?_
    refine lv_iadd C.x C.b dX2_add_71 ?_
    refine jr_put C G jc2 3 (v := (M4 2 0 3) + 1) (show 0 < 1 by decide) (by decide) (by decide) rfl (by decide) wd303 rfl rfl rfl rfl dX2_add_72 (fun H locs G => ?_)
    obtain ⟨M5, eM5⟩ : ∃ z : jM, z = jup M4 2 0 3 ((M4 2 0 3) + 1) := ⟨_, rfl⟩
    rw [← eM5] at G
    have h := h M5 eM5
    have nM5 : jnb M5 = jnb M4 := by rw [eM5]; exact jnb_up (by decide)
    exact jr_retV C hr G h (by decide) (by decide) dX2_add_75

theorem en_X4_evaluate {n0 : Nat} {n1 : Nat} {n2 : Nat} {v3 : Int32} {M : jM} {Q : Int32 → Nat → jM → Prop} (h : at_X4_evaluate_0 n0 n1 n2 v3 M Q) : ok_X4_evaluate n0 n1 n2 v3 M Q := jr_enter (by decide) (fun g => rfl) (fun g => Nat.le_of_ble_eq_true rfl) h
set_option maxHeartbeats 4000000 in
set_option maxRecDepth 100000 in
theorem bl_X4_evaluate_0 (n0 : Nat) (n1 : Nat) (n2 : Nat) (v3 : Int32) (M : jM) (Q : Int32 → Nat → jM → Prop) (ha0 : n0 < 4) (ha1 : n1 < jnb M) (ha2 : n2 < 4 * jnb M)
  (h : at_X4_evaluate_24 n0 n1 v3 0 (jmin (M 7 n2 2) 120) (jmax (M 7 n2 1) 0) M Q) :
  at_X4_evaluate_0 n0 n1 n2 v3 M Q := by
  intro p l e s m args below meth c D cA base g C hr htb H locs G ls hl
  refine lv_iconst (v := 0) C.x C.b dX4_evaluate_0 (by decide) ?_
  refine lv_istore (lv' := [(4, .int 0), (0, .ref (g 4 n0)), (1, .ref (g 0 n1)), (2, .ref (g 7 n2)), (3, .int v3)]) C.x C.b dX4_evaluate_1 hl (by decide) rfl (fun ls hl => ?_)
  refine lv_aload_n C.x C.b dX4_evaluate_3 rfl (lv_at hl 3 rfl) ?_
  refine jr_get C G jc7 2 (v := .int (M 7 n2 2)) (show n2 < 4 * jnb M by omega) (by decide) (by decide) rfl wd131 dX4_evaluate_4 ?_
  refine lv_bipush (v := 120) C.x C.b dX4_evaluate_7 (by decide) ?_
  refine va_mmin C.x C.b (C.ml.trans hl.1.symm) C.ow (C.w _ wd889) (C.w _ wd890) (C.w _ wd94) (C.w _ wd891) (by decide) (Nat.le_of_ble_eq_true rfl) (by decide) (by decide) dX4_evaluate_9 ?_
  rw [show (if 120 < (M 7 n2 2) then 120 else M 7 n2 2 : Int32) = jmin (M 7 n2 2) 120 from rfl]
  refine lv_istore (lv' := [(5, .int (jmin (M 7 n2 2) 120)), (4, .int 0), (0, .ref (g 4 n0)), (1, .ref (g 0 n1)), (2, .ref (g 7 n2)), (3, .int v3)]) C.x C.b dX4_evaluate_12 hl (by decide) rfl (fun ls hl => ?_)
  refine lv_aload_n C.x C.b dX4_evaluate_14 rfl (lv_at hl 4 rfl) ?_
  refine jr_get C G jc7 1 (v := .int (M 7 n2 1)) (show n2 < 4 * jnb M by omega) (by decide) (by decide) rfl wd129 dX4_evaluate_15 ?_
  refine lv_iconst (v := 0) C.x C.b dX4_evaluate_18 (by decide) ?_
  refine va_mmax C.x C.b (C.ml.trans hl.1.symm) C.ow (C.w _ wd892) (C.w _ wd740) (C.w _ wd94) (C.w _ wd741) (by decide) (Nat.le_of_ble_eq_true rfl) (by decide) (by decide) dX4_evaluate_19 ?_
  rw [show (if (M 7 n2 1) < 0 then 0 else M 7 n2 1 : Int32) = jmax (M 7 n2 1) 0 from rfl]
  refine lv_istore (lv' := [(6, .int (jmax (M 7 n2 1) 0)), (5, .int (jmin (M 7 n2 2) 120)), (4, .int 0), (0, .ref (g 4 n0)), (1, .ref (g 0 n1)), (2, .ref (g 7 n2)), (3, .int v3)]) C.x C.b dX4_evaluate_22 hl (by decide) rfl (fun ls hl => ?_)
  exact h p l e s m args below meth c D cA base g C hr htb _ _ G ls (lv_sub hl [3, 4, 6, 2, 1, 0] rfl)
set_option maxHeartbeats 4000000 in
set_option maxRecDepth 100000 in
theorem bl_X4_evaluate_24 (n0 : Nat) (n1 : Nat) (v3 : Int32) (v4 : Int32) (v5 : Int32) (v6 : Int32) (M : jM) (Q : Int32 → Nat → jM → Prop) (ha0 : n0 < 4) (ha1 : n1 < jnb M)
  (h : (v5 ≤ v6 → Q (M 34 n0 (0 : Int32).toNatClampNeg) 0 M) ∧ (¬ (v5 ≤ v6) → vp_in v6 120 ∧ ((M 24 n1 v6.toNatClampNeg) ≤ 2 → (v4 < 2 → at_X4_evaluate_24 n0 n1 v3 v4 v5 (v6 + 1) M Q) ∧ (¬ (v4 < 2) → (9 < v4 → at_X4_evaluate_24 n0 n1 v3 v4 v5 (v6 + 1) M Q) ∧ (¬ (9 < v4) → vp_in ((v4 + (-1)) - 1) 9 ∧ vp_in (v4 + (-1)) 9 ∧ vp_in ((v4 + (-1)) - 1) 9 ∧ (∀ M3 : jM, M3 = jup M 34 n0 ((v4 + (-1)) - 1).toNatClampNeg (if (M 24 n1 v6.toNatClampNeg) = 0 then (M 34 n0 ((v4 + (-1)) - 1).toNatClampNeg) + (M 34 n0 (v4 + (-1)).toNatClampNeg) else if (M 24 n1 v6.toNatClampNeg) = 1 then (M 34 n0 ((v4 + (-1)) - 1).toNatClampNeg) - (M 34 n0 (v4 + (-1)).toNatClampNeg) else (M 34 n0 ((v4 + (-1)) - 1).toNatClampNeg) * (M 34 n0 (v4 + (-1)).toNatClampNeg)) → at_X4_evaluate_24 n0 n1 v3 (v4 + (-1)) v5 (v6 + 1) M3 Q)))) ∧ (¬ ((M 24 n1 v6.toNatClampNeg) ≤ 2) → (9 ≤ v4 → (v4 < 2 → at_X4_evaluate_24 n0 n1 v3 v4 v5 (v6 + 1) M Q) ∧ (¬ (v4 < 2) → (9 < v4 → at_X4_evaluate_24 n0 n1 v3 v4 v5 (v6 + 1) M Q) ∧ (¬ (9 < v4) → vp_in ((v4 + (-1)) - 1) 9 ∧ vp_in (v4 + (-1)) 9 ∧ vp_in ((v4 + (-1)) - 1) 9 ∧ (∀ M6 : jM, M6 = jup M 34 n0 ((v4 + (-1)) - 1).toNatClampNeg (if (M 24 n1 v6.toNatClampNeg) = 0 then (M 34 n0 ((v4 + (-1)) - 1).toNatClampNeg) + (M 34 n0 (v4 + (-1)).toNatClampNeg) else if (M 24 n1 v6.toNatClampNeg) = 1 then (M 34 n0 ((v4 + (-1)) - 1).toNatClampNeg) - (M 34 n0 (v4 + (-1)).toNatClampNeg) else (M 34 n0 ((v4 + (-1)) - 1).toNatClampNeg) * (M 34 n0 (v4 + (-1)).toNatClampNeg)) → at_X4_evaluate_24 n0 n1 v3 (v4 + (-1)) v5 (v6 + 1) M6 Q)))) ∧ (¬ (9 ≤ v4) → vp_in v6 120 ∧ vp_in v4 9 ∧ (∀ M9 : jM, M9 = jup M 34 n0 v4.toNatClampNeg (if (M 24 n1 v6.toNatClampNeg) = 3 then (M 25 n1 v6.toNatClampNeg) else if (M 24 n1 v6.toNatClampNeg) = 4 then v3 else if 0 ≤ (M 25 n1 v6.toNatClampNeg) + v3 ∧ (M 25 n1 v6.toNatClampNeg) + v3 < 245 then M 33 n0 ((M 25 n1 v6.toNatClampNeg) + v3).toNatClampNeg else 0) → at_X4_evaluate_24 n0 n1 v3 (v4 + 1) v5 (v6 + 1) M9 Q))))) :
  at_X4_evaluate_24 n0 n1 v3 v4 v5 v6 M Q := by
  intro p l e s m args below meth c D cA base g C hr htb H locs G ls hl
  refine lv_iload C.x C.b dX4_evaluate_24 (lv_at hl 5 rfl) ?_
  refine lv_iload C.x C.b dX4_evaluate_26 (lv_at hl 4 rfl) ?_
  refine lv_icmp_ge (tgt := 132) C.x C.b dX4_evaluate_28 (by decide) (fun hc => ?_) (fun hc => ?_)
  · have h := h.1 hc
    refine lv_aload_n C.x C.b dX4_evaluate_132 rfl (lv_at hl 0 rfl) ?_
    refine jr_get C G jc4 1 (v := .ref (g 34 n0)) (show n0 < 4 by omega) (by decide) (by decide) rfl wd401 dX4_evaluate_133 ?_
    refine lv_iconst (v := 0) C.x C.b dX4_evaluate_136 (by decide) ?_
    refine jr_ald C G (show n0 < 4 by omega) (by decide) (by decide) (by decide) rfl rfl (by unfold vp_in; decide) dX4_evaluate_137 ?_
    exact jr_retI C hr G h (by decide) (by decide) dX4_evaluate_138
  · have h := h.2 hc
    refine lv_aload_n C.x C.b dX4_evaluate_31 rfl (lv_at hl 1 rfl) ?_
    refine jr_get C G jc0 4 (v := .ref (g 24 n1)) (show n1 < jnb M by omega) (by decide) (by decide) rfl wd169 dX4_evaluate_32 ?_
    refine lv_iload C.x C.b dX4_evaluate_35 (lv_at hl 5 rfl) ?_
    obtain ⟨hs, h⟩ := h
    refine jr_ald C G (show n1 < jnb M by omega) (by decide) (by decide) (by decide) rfl rfl hs dX4_evaluate_37 ?_
    refine lv_istore (lv' := [(7, .int (M 24 n1 v6.toNatClampNeg)), (0, .ref (g 4 n0)), (1, .ref (g 0 n1)), (3, .int v3), (4, .int v4), (5, .int v5), (6, .int v6)]) C.x C.b dX4_evaluate_38 hl (by decide) rfl (fun ls hl => ?_)
    refine lv_iload C.x C.b dX4_evaluate_40 (lv_at hl 0 rfl) ?_
    refine lv_iconst (v := 2) C.x C.b dX4_evaluate_42 (by decide) ?_
    refine lv_icmp_le (tgt := 80) C.x C.b dX4_evaluate_43 (by decide) (fun hc => ?_) (fun hc => ?_)
    · have h := h.1 hc
      refine lv_iload C.x C.b dX4_evaluate_80 (lv_at hl 4 rfl) ?_
      refine lv_iconst (v := 2) C.x C.b dX4_evaluate_82 (by decide) ?_
      refine lv_icmp_lt (tgt := 126) C.x C.b dX4_evaluate_83 (by decide) (fun hc => ?_) (fun hc => ?_)
      · have h := h.1 hc
        refine lv_iinc (v := v6 + 1) (lv' := [(6, .int (v6 + 1)), (7, .int (M 24 n1 v6.toNatClampNeg)), (0, .ref (g 4 n0)), (1, .ref (g 0 n1)), (3, .int v3), (4, .int v4), (5, .int v5)]) C.x C.b dX4_evaluate_126 hl (k := 6) rfl rfl (by decide) rfl (fun ls hl => ?_)
        refine lv_goto (tgt := 24) C.x C.b dX4_evaluate_129 (by decide) ?_
        exact h p l e s m args below meth c D cA base g C hr htb _ _ G ls (lv_sub hl [2, 3, 4, 5, 6, 0] rfl)
      · have h := h.2 hc
        refine lv_iload C.x C.b dX4_evaluate_86 (lv_at hl 4 rfl) ?_
        refine lv_bipush (v := 9) C.x C.b dX4_evaluate_88 (by decide) ?_
        refine lv_icmp_gt (tgt := 126) C.x C.b dX4_evaluate_90 (by decide) (fun hc => ?_) (fun hc => ?_)
        · have h := h.1 hc
          refine lv_iinc (v := v6 + 1) (lv' := [(6, .int (v6 + 1)), (7, .int (M 24 n1 v6.toNatClampNeg)), (0, .ref (g 4 n0)), (1, .ref (g 0 n1)), (3, .int v3), (4, .int v4), (5, .int v5)]) C.x C.b dX4_evaluate_126 hl (k := 6) rfl rfl (by decide) rfl (fun ls hl => ?_)
          refine lv_goto (tgt := 24) C.x C.b dX4_evaluate_129 (by decide) ?_
          exact h p l e s m args below meth c D cA base g C hr htb _ _ G ls (lv_sub hl [2, 3, 4, 5, 6, 0] rfl)
        · have h := h.2 hc
          refine lv_iinc (v := v4 + (-1)) (lv' := [(4, .int (v4 + (-1))), (7, .int (M 24 n1 v6.toNatClampNeg)), (0, .ref (g 4 n0)), (1, .ref (g 0 n1)), (3, .int v3), (5, .int v5), (6, .int v6)]) C.x C.b dX4_evaluate_93 hl (k := 4) rfl rfl (by decide) rfl (fun ls hl => ?_)
          refine lv_aload_n C.x C.b dX4_evaluate_96 rfl (lv_at hl 2 rfl) ?_
          refine jr_get C G jc4 1 (v := .ref (g 34 n0)) (show n0 < 4 by omega) (by decide) (by decide) rfl wd401 dX4_evaluate_97 ?_
          refine lv_iload C.x C.b dX4_evaluate_100 (lv_at hl 0 rfl) ?_
          refine lv_iconst (v := 1) C.x C.b dX4_evaluate_102 (by decide) ?_
          refine lv_isub C.x C.b dX4_evaluate_103 ?_
          refine lv_iload C.x C.b dX4_evaluate_104 (lv_at hl 1 rfl) ?_
          refine lv_aload_n C.x C.b dX4_evaluate_106 rfl (lv_at hl 2 rfl) ?_
          refine jr_get C G jc4 1 (v := .ref (g 34 n0)) (show n0 < 4 by omega) (by decide) (by decide) rfl wd401 dX4_evaluate_107 ?_
          refine lv_iload C.x C.b dX4_evaluate_110 (lv_at hl 0 rfl) ?_
          refine lv_iconst (v := 1) C.x C.b dX4_evaluate_112 (by decide) ?_
          refine lv_isub C.x C.b dX4_evaluate_113 ?_
          obtain ⟨hs, h⟩ := h
          refine jr_ald C G (show n0 < 4 by omega) (by decide) (by decide) (by decide) rfl rfl hs dX4_evaluate_114 ?_
          refine lv_aload_n C.x C.b dX4_evaluate_115 rfl (lv_at hl 2 rfl) ?_
          refine jr_get C G jc4 1 (v := .ref (g 34 n0)) (show n0 < 4 by omega) (by decide) (by decide) rfl wd401 dX4_evaluate_116 ?_
          refine lv_iload C.x C.b dX4_evaluate_119 (lv_at hl 0 rfl) ?_
          obtain ⟨hs, h⟩ := h
          refine jr_ald C G (show n0 < 4 by omega) (by decide) (by decide) (by decide) rfl rfl hs dX4_evaluate_121 ?_
          refine jr_S (d' := 1) C G jm_X4_apply wd897 (sp_X4_apply ⟨rfl, rfl⟩ : ok_X4_apply (M 24 n1 v6.toNatClampNeg) (M 34 n0 ((v4 + (-1)) - 1).toNatClampNeg) (M 34 n0 (v4 + (-1)).toNatClampNeg) M (fun r _ M' => (if (M 24 n1 v6.toNatClampNeg) = 0 then (M 34 n0 ((v4 + (-1)) - 1).toNatClampNeg) + (M 34 n0 (v4 + (-1)).toNatClampNeg) else if (M 24 n1 v6.toNatClampNeg) = 1 then (M 34 n0 ((v4 + (-1)) - 1).toNatClampNeg) - (M 34 n0 (v4 + (-1)).toNatClampNeg) else (M 34 n0 ((v4 + (-1)) - 1).toNatClampNeg) * (M 34 n0 (v4 + (-1)).toNatClampNeg)) = r ∧ M = M')) rfl rfl rfl (by omega) (by decide) (by decide) ⟨rfl, rfl⟩ hl.1 (Nat.le_of_ble_eq_true rfl) dX4_evaluate_122 (fun r1 r1n M2 H locs hq G => ?_)
          obtain ⟨eq1, eq2⟩ := hq
          subst eq1
          subst eq2
          obtain ⟨hs, h⟩ := h
          refine jr_ast C G (show n0 < 4 by omega) (by decide) (by decide) (by decide) rfl rfl hs dX4_evaluate_125 (fun H locs G => ?_)
          obtain ⟨M3, eM3⟩ : ∃ z : jM, z = jup M 34 n0 ((v4 + (-1)) - 1).toNatClampNeg (if (M 24 n1 v6.toNatClampNeg) = 0 then (M 34 n0 ((v4 + (-1)) - 1).toNatClampNeg) + (M 34 n0 (v4 + (-1)).toNatClampNeg) else if (M 24 n1 v6.toNatClampNeg) = 1 then (M 34 n0 ((v4 + (-1)) - 1).toNatClampNeg) - (M 34 n0 (v4 + (-1)).toNatClampNeg) else (M 34 n0 ((v4 + (-1)) - 1).toNatClampNeg) * (M 34 n0 (v4 + (-1)).toNatClampNeg)) := ⟨_, rfl⟩
          rw [← eM3] at G
          have h := h M3 eM3
          have nM3 : jnb M3 = jnb M := by rw [eM3]; exact jnb_up (by decide)
          refine lv_iinc (v := v6 + 1) (lv' := [(6, .int (v6 + 1)), (4, .int (v4 + (-1))), (7, .int (M 24 n1 v6.toNatClampNeg)), (0, .ref (g 4 n0)), (1, .ref (g 0 n1)), (3, .int v3), (5, .int v5)]) C.x C.b dX4_evaluate_126 hl (k := 6) rfl rfl (by decide) rfl (fun ls hl => ?_)
          refine lv_goto (tgt := 24) C.x C.b dX4_evaluate_129 (by decide) ?_
          exact h p l e s m args below meth c D cA base g C hr htb _ _ G ls (lv_sub hl [3, 4, 5, 1, 6, 0] rfl)
    · have h := h.2 hc
      refine lv_iload C.x C.b dX4_evaluate_46 (lv_at hl 4 rfl) ?_
      refine lv_bipush (v := 9) C.x C.b dX4_evaluate_48 (by decide) ?_
      refine lv_icmp_ge (tgt := 80) C.x C.b dX4_evaluate_50 (by decide) (fun hc => ?_) (fun hc => ?_)
      · have h := h.1 hc
        refine lv_iload C.x C.b dX4_evaluate_80 (lv_at hl 4 rfl) ?_
        refine lv_iconst (v := 2) C.x C.b dX4_evaluate_82 (by decide) ?_
        refine lv_icmp_lt (tgt := 126) C.x C.b dX4_evaluate_83 (by decide) (fun hc => ?_) (fun hc => ?_)
        · have h := h.1 hc
          refine lv_iinc (v := v6 + 1) (lv' := [(6, .int (v6 + 1)), (7, .int (M 24 n1 v6.toNatClampNeg)), (0, .ref (g 4 n0)), (1, .ref (g 0 n1)), (3, .int v3), (4, .int v4), (5, .int v5)]) C.x C.b dX4_evaluate_126 hl (k := 6) rfl rfl (by decide) rfl (fun ls hl => ?_)
          refine lv_goto (tgt := 24) C.x C.b dX4_evaluate_129 (by decide) ?_
          exact h p l e s m args below meth c D cA base g C hr htb _ _ G ls (lv_sub hl [2, 3, 4, 5, 6, 0] rfl)
        · have h := h.2 hc
          refine lv_iload C.x C.b dX4_evaluate_86 (lv_at hl 4 rfl) ?_
          refine lv_bipush (v := 9) C.x C.b dX4_evaluate_88 (by decide) ?_
          refine lv_icmp_gt (tgt := 126) C.x C.b dX4_evaluate_90 (by decide) (fun hc => ?_) (fun hc => ?_)
          · have h := h.1 hc
            refine lv_iinc (v := v6 + 1) (lv' := [(6, .int (v6 + 1)), (7, .int (M 24 n1 v6.toNatClampNeg)), (0, .ref (g 4 n0)), (1, .ref (g 0 n1)), (3, .int v3), (4, .int v4), (5, .int v5)]) C.x C.b dX4_evaluate_126 hl (k := 6) rfl rfl (by decide) rfl (fun ls hl => ?_)
            refine lv_goto (tgt := 24) C.x C.b dX4_evaluate_129 (by decide) ?_
            exact h p l e s m args below meth c D cA base g C hr htb _ _ G ls (lv_sub hl [2, 3, 4, 5, 6, 0] rfl)
          · have h := h.2 hc
            refine lv_iinc (v := v4 + (-1)) (lv' := [(4, .int (v4 + (-1))), (7, .int (M 24 n1 v6.toNatClampNeg)), (0, .ref (g 4 n0)), (1, .ref (g 0 n1)), (3, .int v3), (5, .int v5), (6, .int v6)]) C.x C.b dX4_evaluate_93 hl (k := 4) rfl rfl (by decide) rfl (fun ls hl => ?_)
            refine lv_aload_n C.x C.b dX4_evaluate_96 rfl (lv_at hl 2 rfl) ?_
            refine jr_get C G jc4 1 (v := .ref (g 34 n0)) (show n0 < 4 by omega) (by decide) (by decide) rfl wd401 dX4_evaluate_97 ?_
            refine lv_iload C.x C.b dX4_evaluate_100 (lv_at hl 0 rfl) ?_
            refine lv_iconst (v := 1) C.x C.b dX4_evaluate_102 (by decide) ?_
            refine lv_isub C.x C.b dX4_evaluate_103 ?_
            refine lv_iload C.x C.b dX4_evaluate_104 (lv_at hl 1 rfl) ?_
            refine lv_aload_n C.x C.b dX4_evaluate_106 rfl (lv_at hl 2 rfl) ?_
            refine jr_get C G jc4 1 (v := .ref (g 34 n0)) (show n0 < 4 by omega) (by decide) (by decide) rfl wd401 dX4_evaluate_107 ?_
            refine lv_iload C.x C.b dX4_evaluate_110 (lv_at hl 0 rfl) ?_
            refine lv_iconst (v := 1) C.x C.b dX4_evaluate_112 (by decide) ?_
            refine lv_isub C.x C.b dX4_evaluate_113 ?_
            obtain ⟨hs, h⟩ := h
            refine jr_ald C G (show n0 < 4 by omega) (by decide) (by decide) (by decide) rfl rfl hs dX4_evaluate_114 ?_
            refine lv_aload_n C.x C.b dX4_evaluate_115 rfl (lv_at hl 2 rfl) ?_
            refine jr_get C G jc4 1 (v := .ref (g 34 n0)) (show n0 < 4 by omega) (by decide) (by decide) rfl wd401 dX4_evaluate_116 ?_
            refine lv_iload C.x C.b dX4_evaluate_119 (lv_at hl 0 rfl) ?_
            obtain ⟨hs, h⟩ := h
            refine jr_ald C G (show n0 < 4 by omega) (by decide) (by decide) (by decide) rfl rfl hs dX4_evaluate_121 ?_
            refine jr_S (d' := 1) C G jm_X4_apply wd897 (sp_X4_apply ⟨rfl, rfl⟩ : ok_X4_apply (M 24 n1 v6.toNatClampNeg) (M 34 n0 ((v4 + (-1)) - 1).toNatClampNeg) (M 34 n0 (v4 + (-1)).toNatClampNeg) M (fun r _ M' => (if (M 24 n1 v6.toNatClampNeg) = 0 then (M 34 n0 ((v4 + (-1)) - 1).toNatClampNeg) + (M 34 n0 (v4 + (-1)).toNatClampNeg) else if (M 24 n1 v6.toNatClampNeg) = 1 then (M 34 n0 ((v4 + (-1)) - 1).toNatClampNeg) - (M 34 n0 (v4 + (-1)).toNatClampNeg) else (M 34 n0 ((v4 + (-1)) - 1).toNatClampNeg) * (M 34 n0 (v4 + (-1)).toNatClampNeg)) = r ∧ M = M')) rfl rfl rfl (by omega) (by decide) (by decide) ⟨rfl, rfl⟩ hl.1 (Nat.le_of_ble_eq_true rfl) dX4_evaluate_122 (fun r4 r4n M5 H locs hq G => ?_)
            obtain ⟨eq1, eq2⟩ := hq
            subst eq1
            subst eq2
            obtain ⟨hs, h⟩ := h
            refine jr_ast C G (show n0 < 4 by omega) (by decide) (by decide) (by decide) rfl rfl hs dX4_evaluate_125 (fun H locs G => ?_)
            obtain ⟨M6, eM6⟩ : ∃ z : jM, z = jup M 34 n0 ((v4 + (-1)) - 1).toNatClampNeg (if (M 24 n1 v6.toNatClampNeg) = 0 then (M 34 n0 ((v4 + (-1)) - 1).toNatClampNeg) + (M 34 n0 (v4 + (-1)).toNatClampNeg) else if (M 24 n1 v6.toNatClampNeg) = 1 then (M 34 n0 ((v4 + (-1)) - 1).toNatClampNeg) - (M 34 n0 (v4 + (-1)).toNatClampNeg) else (M 34 n0 ((v4 + (-1)) - 1).toNatClampNeg) * (M 34 n0 (v4 + (-1)).toNatClampNeg)) := ⟨_, rfl⟩
            rw [← eM6] at G
            have h := h M6 eM6
            have nM6 : jnb M6 = jnb M := by rw [eM6]; exact jnb_up (by decide)
            refine lv_iinc (v := v6 + 1) (lv' := [(6, .int (v6 + 1)), (4, .int (v4 + (-1))), (7, .int (M 24 n1 v6.toNatClampNeg)), (0, .ref (g 4 n0)), (1, .ref (g 0 n1)), (3, .int v3), (5, .int v5)]) C.x C.b dX4_evaluate_126 hl (k := 6) rfl rfl (by decide) rfl (fun ls hl => ?_)
            refine lv_goto (tgt := 24) C.x C.b dX4_evaluate_129 (by decide) ?_
            exact h p l e s m args below meth c D cA base g C hr htb _ _ G ls (lv_sub hl [3, 4, 5, 1, 6, 0] rfl)
      · have h := h.2 hc
        refine lv_aload_n C.x C.b dX4_evaluate_53 rfl (lv_at hl 1 rfl) ?_
        refine jr_get C G jc4 1 (v := .ref (g 34 n0)) (show n0 < 4 by omega) (by decide) (by decide) rfl wd401 dX4_evaluate_54 ?_
        refine lv_iload C.x C.b dX4_evaluate_57 (lv_at hl 4 rfl) ?_
        refine lv_aload_n C.x C.b dX4_evaluate_59 rfl (lv_at hl 1 rfl) ?_
        refine lv_iload C.x C.b dX4_evaluate_60 (lv_at hl 0 rfl) ?_
        refine lv_aload_n C.x C.b dX4_evaluate_62 rfl (lv_at hl 2 rfl) ?_
        refine jr_get C G jc0 5 (v := .ref (g 25 n1)) (show n1 < jnb M by omega) (by decide) (by decide) rfl wd171 dX4_evaluate_63 ?_
        refine lv_iload C.x C.b dX4_evaluate_66 (lv_at hl 6 rfl) ?_
        obtain ⟨hs, h⟩ := h
        refine jr_ald C G (show n1 < jnb M by omega) (by decide) (by decide) (by decide) rfl rfl hs dX4_evaluate_68 ?_
        refine lv_iload_n C.x C.b dX4_evaluate_69 rfl (lv_at hl 3 rfl) ?_
        refine jr_V (d' := 1) C G jc4 jm_X4_operand wd893 (sp_X4_operand (show n0 < 4 by omega) ⟨rfl, rfl⟩ : ok_X4_operand n0 (M 24 n1 v6.toNatClampNeg) (M 25 n1 v6.toNatClampNeg) v3 M (fun r _ M' => (if (M 24 n1 v6.toNatClampNeg) = 3 then (M 25 n1 v6.toNatClampNeg) else if (M 24 n1 v6.toNatClampNeg) = 4 then v3 else if 0 ≤ (M 25 n1 v6.toNatClampNeg) + v3 ∧ (M 25 n1 v6.toNatClampNeg) + v3 < 245 then M 33 n0 ((M 25 n1 v6.toNatClampNeg) + v3).toNatClampNeg else 0) = r ∧ M = M')) rfl (show n0 < 4 by omega) (by decide) rfl rfl (by omega) (by decide) (by decide) ⟨rfl, rfl⟩ hl.1 (Nat.le_of_ble_eq_true rfl) dX4_evaluate_70 (fun r7 r7n M8 H locs hq G => ?_)
        obtain ⟨eq1, eq2⟩ := hq
        subst eq1
        subst eq2
        obtain ⟨hs, h⟩ := h
        refine jr_ast C G (show n0 < 4 by omega) (by decide) (by decide) (by decide) rfl rfl hs dX4_evaluate_73 (fun H locs G => ?_)
        obtain ⟨M9, eM9⟩ : ∃ z : jM, z = jup M 34 n0 v4.toNatClampNeg (if (M 24 n1 v6.toNatClampNeg) = 3 then (M 25 n1 v6.toNatClampNeg) else if (M 24 n1 v6.toNatClampNeg) = 4 then v3 else if 0 ≤ (M 25 n1 v6.toNatClampNeg) + v3 ∧ (M 25 n1 v6.toNatClampNeg) + v3 < 245 then M 33 n0 ((M 25 n1 v6.toNatClampNeg) + v3).toNatClampNeg else 0) := ⟨_, rfl⟩
        rw [← eM9] at G
        have h := h M9 eM9
        have nM9 : jnb M9 = jnb M := by rw [eM9]; exact jnb_up (by decide)
        refine lv_iinc (v := v4 + 1) (lv' := [(4, .int (v4 + 1)), (7, .int (M 24 n1 v6.toNatClampNeg)), (0, .ref (g 4 n0)), (1, .ref (g 0 n1)), (3, .int v3), (5, .int v5), (6, .int v6)]) C.x C.b dX4_evaluate_74 hl (k := 4) rfl rfl (by decide) rfl (fun ls hl => ?_)
        refine lv_goto (tgt := 126) C.x C.b dX4_evaluate_77 (by decide) ?_
        refine lv_iinc (v := v6 + 1) (lv' := [(6, .int (v6 + 1)), (4, .int (v4 + 1)), (7, .int (M 24 n1 v6.toNatClampNeg)), (0, .ref (g 4 n0)), (1, .ref (g 0 n1)), (3, .int v3), (5, .int v5)]) C.x C.b dX4_evaluate_126 hl (k := 6) rfl rfl (by decide) rfl (fun ls hl => ?_)
        refine lv_goto (tgt := 24) C.x C.b dX4_evaluate_129 (by decide) ?_
        exact h p l e s m args below meth c D cA base g C hr htb _ _ G ls (lv_sub hl [3, 4, 5, 1, 6, 0] rfl)

theorem en_X6_add {n0 : Nat} {n1 : Nat} {M : jM} {Q : Int32 → Nat → jM → Prop} (h : at_X6_add_0 n0 n1 M Q) : ok_X6_add n0 n1 M Q := jr_enter (by decide) (fun g => rfl) (fun g => Nat.le_of_ble_eq_true rfl) h
set_option maxHeartbeats 4000000 in
set_option maxRecDepth 100000 in
theorem bl_X6_add_0 (n0 : Nat) (n1 : Nat) (M : jM) (Q : Int32 → Nat → jM → Prop) (ha0 : n0 < 2) (ha1 : n1 < 20)
  (h : (6 ≤ (M 6 n0 2) → Q 0 0 M) ∧ (¬ (6 ≤ (M 6 n0 2)) → vp_in (M 6 n0 2) 6 ∧ ok_X3_copyFrom (6 * n0 + (M 6 n0 2).toNatClampNeg) n1 M (fun _ _ M3 => jnb M3 = jnb M ∧ (∀ M4 : jM, M4 = jup M3 6 n0 2 ((M3 6 n0 2) + 1) → (∀ M5 : jM, M5 = jup M4 6 n0 3 ((M4 6 n0 3) + 1) → Q 0 0 M5))))) :
  at_X6_add_0 n0 n1 M Q := by
  intro p l e s m args below meth c D cA base g C hr htb H locs G ls hl
  refine lv_aload_n C.x C.b dX6_add_0 rfl (lv_at hl 0 rfl) ?_
  refine jr_get C G jc6 2 (v := .int (M 6 n0 2)) (show n0 < 2 by omega) (by decide) (by decide) rfl wd274 dX6_add_1 ?_
  refine lv_bipush (v := 6) C.x C.b dX6_add_4 (by decide) ?_
  refine lv_icmp_ge (tgt := 42) C.x C.b dX6_add_6 (by decide) (fun hc => ?_) (fun hc => ?_)
  · have h := h.1 hc
    exact jr_retV C hr G h (by decide) (by decide) dX6_add_42
  · have h := h.2 hc
    refine lv_aload_n C.x C.b dX6_add_9 rfl (lv_at hl 0 rfl) ?_
    refine jr_get C G jc6 0 (v := .ref (g 39 n0)) (show n0 < 2 by omega) (by decide) (by decide) rfl wd267 dX6_add_10 ?_
    refine lv_aload_n C.x C.b dX6_add_13 rfl (lv_at hl 0 rfl) ?_
    refine jr_get C G jc6 2 (v := .int (M 6 n0 2)) (show n0 < 2 by omega) (by decide) (by decide) rfl wd274 dX6_add_14 ?_
    obtain ⟨hs, h⟩ := h
    have hj1 := vp_lt hs
    refine jr_aald C G (R := 39) (R' := 3) (i' := 6 * n0 + (M 6 n0 2).toNatClampNeg) (show n0 < 2 by omega) (by decide) (by decide) (by decide) rfl rfl hs rfl dX6_add_17 ?_
    refine lv_aload_n C.x C.b dX6_add_18 rfl (lv_at hl 1 rfl) ?_
    refine jr_V (d' := 1) C G jc3 jm_X3_copyFrom wd499 h rfl (show 6 * n0 + (M 6 n0 2).toNatClampNeg < 20 by omega) (by decide) rfl rfl (by omega) (by decide) (by decide) ⟨rfl, rfl⟩ hl.1 (Nat.le_of_ble_eq_true rfl) dX6_add_19 (fun r2 r2n M3 H locs h G => ?_)
    obtain ⟨nM3, h⟩ := h
    refine lv_aload_n C.x C.b dX6_add_22 rfl (lv_at hl 0 rfl) ?_
    refine lv_dup C.x C.b dX6_add_23 rfl ?_
    refine jr_get C G jc6 2 (v := .int (M3 6 n0 2)) (show n0 < 2 by omega) (by decide) (by decide) rfl wd274 dX6_add_24 ?_
    refine lv_iconst (v := 1) C.x C.b dX6_add_27 (by decide) ?_
    refine lv_iadd C.x C.b dX6_add_28 ?_
    refine jr_put C G jc6 2 (v := (M3 6 n0 2) + 1) (show n0 < 2 by omega) (by decide) (by decide) rfl (by decide) wd274 rfl rfl rfl rfl dX6_add_29 (fun H locs G => ?_)
    obtain ⟨M4, eM4⟩ : ∃ z : jM, z = jup M3 6 n0 2 ((M3 6 n0 2) + 1) := ⟨_, rfl⟩
    rw [← eM4] at G
    have h := h M4 eM4
    have nM4 : jnb M4 = jnb M3 := by rw [eM4]; exact jnb_up (by decide)
    refine lv_aload_n C.x C.b dX6_add_32 rfl (lv_at hl 0 rfl) ?_
    refine lv_dup C.x C.b dX6_add_33 rfl ?_
    refine jr_get C G jc6 3 (v := .int (M4 6 n0 3)) (show n0 < 2 by omega) (by decide) (by decide) rfl wd280 dX6_add_34 ?_
    refine lv_iconst (v := 1) C.x C.b dX6_add_37 (by decide) ?_
    refine lv_iadd C.x C.b dX6_add_38 ?_
    refine jr_put C G jc6 3 (v := (M4 6 n0 3) + 1) (show n0 < 2 by omega) (by decide) (by decide) rfl (by decide) wd280 rfl rfl rfl rfl dX6_add_39 (fun H locs G => ?_)
    obtain ⟨M5, eM5⟩ : ∃ z : jM, z = jup M4 6 n0 3 ((M4 6 n0 3) + 1) := ⟨_, rfl⟩
    rw [← eM5] at G
    have h := h M5 eM5
    have nM5 : jnb M5 = jnb M4 := by rw [eM5]; exact jnb_up (by decide)
    exact jr_retV C hr G h (by decide) (by decide) dX6_add_42

theorem en_X6_remove {n0 : Nat} {v1 : Int32} {M : jM} {Q : Int32 → Nat → jM → Prop} (h : at_X6_remove_0 n0 v1 M Q) : ok_X6_remove n0 v1 M Q := jr_enter (by decide) (fun g => rfl) (fun g => Nat.le_of_ble_eq_true rfl) h
set_option maxHeartbeats 4000000 in
set_option maxRecDepth 100000 in
theorem bl_X6_remove_0 (n0 : Nat) (v1 : Int32) (M : jM) (Q : Int32 → Nat → jM → Prop) (ha0 : n0 < 2)
  (h : ((0 ≤ v1 ∧ v1 < M 6 n0 2 ∧ v1 < 6) → at_X6_remove_10 n0 v1 M Q) ∧ (¬ (0 ≤ v1 ∧ v1 < M 6 n0 2 ∧ v1 < 6) → Q 0 0 M)) :
  at_X6_remove_0 n0 v1 M Q := by
  intro p l e s m args below meth c D cA base g C hr htb H locs G ls hl
  refine lv_aload_n C.x C.b dX6_remove_0 rfl (lv_at hl 0 rfl) ?_
  refine lv_iload_n C.x C.b dX6_remove_1 rfl (lv_at hl 1 rfl) ?_
  refine jr_V (d' := 1) C G jc6 jm_X6_hasLoop wd789 (sp_X6_hasLoop (show n0 < 2 by omega) ⟨rfl, rfl⟩ : ok_X6_hasLoop n0 v1 M (fun r _ M' => jb (0 ≤ v1 ∧ v1 < M 6 n0 2 ∧ v1 < 6) = r ∧ M = M')) rfl (show n0 < 2 by omega) (by decide) rfl rfl (by omega) (by decide) (by decide) ⟨rfl, rfl⟩ hl.1 (Nat.le_of_ble_eq_true rfl) dX6_remove_2 (fun r1 r1n M2 H locs hq G => ?_)
  obtain ⟨eq1, eq2⟩ := hq
  subst eq1
  subst eq2
  refine lv_if_eq (tgt := 71) C.x C.b dX6_remove_5 (by decide) (fun hc => ?_) (fun hc => ?_)
  · have h := h.2 (jb_0 hc)
    exact jr_retV C hr G h (by decide) (by decide) dX6_remove_71
  · have h := h.1 (jb_1 hc)
    refine lv_iload_n C.x C.b dX6_remove_8 rfl (lv_at hl 1 rfl) ?_
    refine lv_istore_n (lv' := [(2, .int v1), (0, .ref (g 6 n0)), (1, .int v1)]) C.x C.b dX6_remove_9 rfl hl (by decide) rfl (fun ls hl => ?_)
    exact h p l e s m args below meth c D cA base g C hr htb _ _ G ls (lv_sub hl [1, 0] rfl)
set_option maxHeartbeats 4000000 in
set_option maxRecDepth 100000 in
theorem bl_X6_remove_10 (n0 : Nat) (v2 : Int32) (M : jM) (Q : Int32 → Nat → jM → Prop) (ha0 : n0 < 2)
  (h : ((M 6 n0 2) ≤ (v2 + 1) → (∀ M1 : jM, M1 = jup M 6 n0 2 ((M 6 n0 2) - 1) → (∀ M2 : jM, M2 = jup M1 6 n0 3 ((M1 6 n0 3) + 1) → Q 0 0 M2))) ∧ (¬ ((M 6 n0 2) ≤ (v2 + 1)) → (6 ≤ (v2 + 1) → (∀ M3 : jM, M3 = jup M 6 n0 2 ((M 6 n0 2) - 1) → (∀ M4 : jM, M4 = jup M3 6 n0 3 ((M3 6 n0 3) + 1) → Q 0 0 M4))) ∧ (¬ (6 ≤ (v2 + 1)) → vp_in v2 6 ∧ vp_in (v2 + 1) 6 ∧ ok_X3_copyFrom (6 * n0 + v2.toNatClampNeg) (6 * n0 + (v2 + 1).toNatClampNeg) M (fun _ _ M8 => jnb M8 = jnb M ∧ at_X6_remove_10 n0 (v2 + 1) M8 Q)))) :
  at_X6_remove_10 n0 v2 M Q := by
  intro p l e s m args below meth c D cA base g C hr htb H locs G ls hl
  refine lv_iload_n C.x C.b dX6_remove_10 rfl (lv_at hl 1 rfl) ?_
  refine lv_iconst (v := 1) C.x C.b dX6_remove_11 (by decide) ?_
  refine lv_iadd C.x C.b dX6_remove_12 ?_
  refine lv_aload_n C.x C.b dX6_remove_13 rfl (lv_at hl 0 rfl) ?_
  refine jr_get C G jc6 2 (v := .int (M 6 n0 2)) (show n0 < 2 by omega) (by decide) (by decide) rfl wd274 dX6_remove_14 ?_
  refine lv_icmp_ge (tgt := 51) C.x C.b dX6_remove_17 (by decide) (fun hc => ?_) (fun hc => ?_)
  · have h := h.1 hc
    refine lv_aload_n C.x C.b dX6_remove_51 rfl (lv_at hl 0 rfl) ?_
    refine lv_dup C.x C.b dX6_remove_52 rfl ?_
    refine jr_get C G jc6 2 (v := .int (M 6 n0 2)) (show n0 < 2 by omega) (by decide) (by decide) rfl wd274 dX6_remove_53 ?_
    refine lv_iconst (v := 1) C.x C.b dX6_remove_56 (by decide) ?_
    refine lv_isub C.x C.b dX6_remove_57 ?_
    refine jr_put C G jc6 2 (v := (M 6 n0 2) - 1) (show n0 < 2 by omega) (by decide) (by decide) rfl (by decide) wd274 rfl rfl rfl rfl dX6_remove_58 (fun H locs G => ?_)
    obtain ⟨M1, eM1⟩ : ∃ z : jM, z = jup M 6 n0 2 ((M 6 n0 2) - 1) := ⟨_, rfl⟩
    rw [← eM1] at G
    have h := h M1 eM1
    have nM1 : jnb M1 = jnb M := by rw [eM1]; exact jnb_up (by decide)
    refine lv_aload_n C.x C.b dX6_remove_61 rfl (lv_at hl 0 rfl) ?_
    refine lv_dup C.x C.b dX6_remove_62 rfl ?_
    refine jr_get C G jc6 3 (v := .int (M1 6 n0 3)) (show n0 < 2 by omega) (by decide) (by decide) rfl wd280 dX6_remove_63 ?_
    refine lv_iconst (v := 1) C.x C.b dX6_remove_66 (by decide) ?_
    refine lv_iadd C.x C.b dX6_remove_67 ?_
    refine jr_put C G jc6 3 (v := (M1 6 n0 3) + 1) (show n0 < 2 by omega) (by decide) (by decide) rfl (by decide) wd280 rfl rfl rfl rfl dX6_remove_68 (fun H locs G => ?_)
    obtain ⟨M2, eM2⟩ : ∃ z : jM, z = jup M1 6 n0 3 ((M1 6 n0 3) + 1) := ⟨_, rfl⟩
    rw [← eM2] at G
    have h := h M2 eM2
    have nM2 : jnb M2 = jnb M1 := by rw [eM2]; exact jnb_up (by decide)
    exact jr_retV C hr G h (by decide) (by decide) dX6_remove_71
  · have h := h.2 hc
    refine lv_iload_n C.x C.b dX6_remove_20 rfl (lv_at hl 1 rfl) ?_
    refine lv_iconst (v := 1) C.x C.b dX6_remove_21 (by decide) ?_
    refine lv_iadd C.x C.b dX6_remove_22 ?_
    refine lv_bipush (v := 6) C.x C.b dX6_remove_23 (by decide) ?_
    refine lv_icmp_ge (tgt := 51) C.x C.b dX6_remove_25 (by decide) (fun hc => ?_) (fun hc => ?_)
    · have h := h.1 hc
      refine lv_aload_n C.x C.b dX6_remove_51 rfl (lv_at hl 0 rfl) ?_
      refine lv_dup C.x C.b dX6_remove_52 rfl ?_
      refine jr_get C G jc6 2 (v := .int (M 6 n0 2)) (show n0 < 2 by omega) (by decide) (by decide) rfl wd274 dX6_remove_53 ?_
      refine lv_iconst (v := 1) C.x C.b dX6_remove_56 (by decide) ?_
      refine lv_isub C.x C.b dX6_remove_57 ?_
      refine jr_put C G jc6 2 (v := (M 6 n0 2) - 1) (show n0 < 2 by omega) (by decide) (by decide) rfl (by decide) wd274 rfl rfl rfl rfl dX6_remove_58 (fun H locs G => ?_)
      obtain ⟨M3, eM3⟩ : ∃ z : jM, z = jup M 6 n0 2 ((M 6 n0 2) - 1) := ⟨_, rfl⟩
      rw [← eM3] at G
      have h := h M3 eM3
      have nM3 : jnb M3 = jnb M := by rw [eM3]; exact jnb_up (by decide)
      refine lv_aload_n C.x C.b dX6_remove_61 rfl (lv_at hl 0 rfl) ?_
      refine lv_dup C.x C.b dX6_remove_62 rfl ?_
      refine jr_get C G jc6 3 (v := .int (M3 6 n0 3)) (show n0 < 2 by omega) (by decide) (by decide) rfl wd280 dX6_remove_63 ?_
      refine lv_iconst (v := 1) C.x C.b dX6_remove_66 (by decide) ?_
      refine lv_iadd C.x C.b dX6_remove_67 ?_
      refine jr_put C G jc6 3 (v := (M3 6 n0 3) + 1) (show n0 < 2 by omega) (by decide) (by decide) rfl (by decide) wd280 rfl rfl rfl rfl dX6_remove_68 (fun H locs G => ?_)
      obtain ⟨M4, eM4⟩ : ∃ z : jM, z = jup M3 6 n0 3 ((M3 6 n0 3) + 1) := ⟨_, rfl⟩
      rw [← eM4] at G
      have h := h M4 eM4
      have nM4 : jnb M4 = jnb M3 := by rw [eM4]; exact jnb_up (by decide)
      exact jr_retV C hr G h (by decide) (by decide) dX6_remove_71
    · have h := h.2 hc
      refine lv_aload_n C.x C.b dX6_remove_28 rfl (lv_at hl 0 rfl) ?_
      refine jr_get C G jc6 0 (v := .ref (g 39 n0)) (show n0 < 2 by omega) (by decide) (by decide) rfl wd267 dX6_remove_29 ?_
      refine lv_iload_n C.x C.b dX6_remove_32 rfl (lv_at hl 1 rfl) ?_
      obtain ⟨hs, h⟩ := h
      have hj5 := vp_lt hs
      refine jr_aald C G (R := 39) (R' := 3) (i' := 6 * n0 + v2.toNatClampNeg) (show n0 < 2 by omega) (by decide) (by decide) (by decide) rfl rfl hs rfl dX6_remove_33 ?_
      refine lv_aload_n C.x C.b dX6_remove_34 rfl (lv_at hl 0 rfl) ?_
      refine jr_get C G jc6 0 (v := .ref (g 39 n0)) (show n0 < 2 by omega) (by decide) (by decide) rfl wd267 dX6_remove_35 ?_
      refine lv_iload_n C.x C.b dX6_remove_38 rfl (lv_at hl 1 rfl) ?_
      refine lv_iconst (v := 1) C.x C.b dX6_remove_39 (by decide) ?_
      refine lv_iadd C.x C.b dX6_remove_40 ?_
      obtain ⟨hs, h⟩ := h
      have hj6 := vp_lt hs
      refine jr_aald C G (R := 39) (R' := 3) (i' := 6 * n0 + (v2 + 1).toNatClampNeg) (show n0 < 2 by omega) (by decide) (by decide) (by decide) rfl rfl hs rfl dX6_remove_41 ?_
      refine jr_V (d' := 1) C G jc3 jm_X3_copyFrom wd499 h rfl (show 6 * n0 + v2.toNatClampNeg < 20 by omega) (by decide) rfl rfl (by omega) (by decide) (by decide) ⟨rfl, rfl⟩ hl.1 (Nat.le_of_ble_eq_true rfl) dX6_remove_42 (fun r7 r7n M8 H locs h G => ?_)
      obtain ⟨nM8, h⟩ := h
      refine lv_iinc (v := v2 + 1) (lv' := [(2, .int (v2 + 1)), (0, .ref (g 6 n0))]) C.x C.b dX6_remove_45 hl (k := 1) rfl rfl (by decide) rfl (fun ls hl => ?_)
      refine lv_goto (tgt := 10) C.x C.b dX6_remove_48 (by decide) ?_
      exact h p l e s m args below meth c D cA base g C hr htb _ _ G ls (lv_sub hl [1, 0] rfl)

theorem en_X6_replaceBounds {n0 : Nat} {v1 : Int32} {v2 : Int32} {v3 : Int32} {M : jM} {Q : Int32 → Nat → jM → Prop} (h : at_X6_replaceBounds_0 n0 v1 v2 v3 M Q) : ok_X6_replaceBounds n0 v1 v2 v3 M Q := jr_enter (by decide) (fun g => rfl) (fun g => Nat.le_of_ble_eq_true rfl) h
set_option maxHeartbeats 4000000 in
set_option maxRecDepth 100000 in
theorem bl_X6_replaceBounds_0 (n0 : Nat) (v1 : Int32) (v2 : Int32) (v3 : Int32) (M : jM) (Q : Int32 → Nat → jM → Prop) (ha0 : n0 < 2)
  (h : ((0 ≤ v1 ∧ v1 < M 6 n0 2 ∧ v1 < 6) → vp_in v1 6 ∧ (∀ M4 : jM, M4 = jup M 3 (6 * n0 + v1.toNatClampNeg) 1 v2 → vp_in v1 6 ∧ (∀ M6 : jM, M6 = jup M4 3 (6 * n0 + v1.toNatClampNeg) 2 v3 → (∀ M7 : jM, M7 = jup M6 6 n0 3 ((M6 6 n0 3) + 1) → Q 0 0 M7)))) ∧ (¬ (0 ≤ v1 ∧ v1 < M 6 n0 2 ∧ v1 < 6) → Q 0 0 M)) :
  at_X6_replaceBounds_0 n0 v1 v2 v3 M Q := by
  intro p l e s m args below meth c D cA base g C hr htb H locs G ls hl
  refine lv_aload_n C.x C.b dX6_replaceBounds_0 rfl (lv_at hl 0 rfl) ?_
  refine lv_iload_n C.x C.b dX6_replaceBounds_1 rfl (lv_at hl 1 rfl) ?_
  refine jr_V (d' := 1) C G jc6 jm_X6_hasLoop wd789 (sp_X6_hasLoop (show n0 < 2 by omega) ⟨rfl, rfl⟩ : ok_X6_hasLoop n0 v1 M (fun r _ M' => jb (0 ≤ v1 ∧ v1 < M 6 n0 2 ∧ v1 < 6) = r ∧ M = M')) rfl (show n0 < 2 by omega) (by decide) rfl rfl (by omega) (by decide) (by decide) ⟨rfl, rfl⟩ hl.1 (Nat.le_of_ble_eq_true rfl) dX6_replaceBounds_2 (fun r1 r1n M2 H locs hq G => ?_)
  obtain ⟨eq1, eq2⟩ := hq
  subst eq1
  subst eq2
  refine lv_if_eq (tgt := 38) C.x C.b dX6_replaceBounds_5 (by decide) (fun hc => ?_) (fun hc => ?_)
  · have h := h.2 (jb_0 hc)
    exact jr_retV C hr G h (by decide) (by decide) dX6_replaceBounds_38
  · have h := h.1 (jb_1 hc)
    refine lv_aload_n C.x C.b dX6_replaceBounds_8 rfl (lv_at hl 0 rfl) ?_
    refine jr_get C G jc6 0 (v := .ref (g 39 n0)) (show n0 < 2 by omega) (by decide) (by decide) rfl wd267 dX6_replaceBounds_9 ?_
    refine lv_iload_n C.x C.b dX6_replaceBounds_12 rfl (lv_at hl 1 rfl) ?_
    obtain ⟨hs, h⟩ := h
    have hj3 := vp_lt hs
    refine jr_aald C G (R := 39) (R' := 3) (i' := 6 * n0 + v1.toNatClampNeg) (show n0 < 2 by omega) (by decide) (by decide) (by decide) rfl rfl hs rfl dX6_replaceBounds_13 ?_
    refine lv_iload_n C.x C.b dX6_replaceBounds_14 rfl (lv_at hl 2 rfl) ?_
    refine jr_put C G jc3 1 (v := v2) (show 6 * n0 + v1.toNatClampNeg < 20 by omega) (by decide) (by decide) rfl (by decide) wd213 rfl rfl rfl rfl dX6_replaceBounds_15 (fun H locs G => ?_)
    obtain ⟨M4, eM4⟩ : ∃ z : jM, z = jup M 3 (6 * n0 + v1.toNatClampNeg) 1 v2 := ⟨_, rfl⟩
    rw [← eM4] at G
    have h := h M4 eM4
    have nM4 : jnb M4 = jnb M := by rw [eM4]; exact jnb_up (by decide)
    refine lv_aload_n C.x C.b dX6_replaceBounds_18 rfl (lv_at hl 0 rfl) ?_
    refine jr_get C G jc6 0 (v := .ref (g 39 n0)) (show n0 < 2 by omega) (by decide) (by decide) rfl wd267 dX6_replaceBounds_19 ?_
    refine lv_iload_n C.x C.b dX6_replaceBounds_22 rfl (lv_at hl 1 rfl) ?_
    obtain ⟨hs, h⟩ := h
    have hj5 := vp_lt hs
    refine jr_aald C G (R := 39) (R' := 3) (i' := 6 * n0 + v1.toNatClampNeg) (show n0 < 2 by omega) (by decide) (by decide) (by decide) rfl rfl hs rfl dX6_replaceBounds_23 ?_
    refine lv_iload_n C.x C.b dX6_replaceBounds_24 rfl (lv_at hl 3 rfl) ?_
    refine jr_put C G jc3 2 (v := v3) (show 6 * n0 + v1.toNatClampNeg < 20 by omega) (by decide) (by decide) rfl (by decide) wd219 rfl rfl rfl rfl dX6_replaceBounds_25 (fun H locs G => ?_)
    obtain ⟨M6, eM6⟩ : ∃ z : jM, z = jup M4 3 (6 * n0 + v1.toNatClampNeg) 2 v3 := ⟨_, rfl⟩
    rw [← eM6] at G
    have h := h M6 eM6
    have nM6 : jnb M6 = jnb M4 := by rw [eM6]; exact jnb_up (by decide)
    refine lv_aload_n C.x C.b dX6_replaceBounds_28 rfl (lv_at hl 0 rfl) ?_
    refine lv_dup C.x C.b dX6_replaceBounds_29 rfl ?_
    refine jr_get C G jc6 3 (v := .int (M6 6 n0 3)) (show n0 < 2 by omega) (by decide) (by decide) rfl wd280 dX6_replaceBounds_30 ?_
    refine lv_iconst (v := 1) C.x C.b dX6_replaceBounds_33 (by decide) ?_
    refine lv_iadd C.x C.b dX6_replaceBounds_34 ?_
    refine jr_put C G jc6 3 (v := (M6 6 n0 3) + 1) (show n0 < 2 by omega) (by decide) (by decide) rfl (by decide) wd280 rfl rfl rfl rfl dX6_replaceBounds_35 (fun H locs G => ?_)
    obtain ⟨M7, eM7⟩ : ∃ z : jM, z = jup M6 6 n0 3 ((M6 6 n0 3) + 1) := ⟨_, rfl⟩
    rw [← eM7] at G
    have h := h M7 eM7
    have nM7 : jnb M7 = jnb M6 := by rw [eM7]; exact jnb_up (by decide)
    exact jr_retV C hr G h (by decide) (by decide) dX6_replaceBounds_38

theorem en_X6_replaceBarrier {n0 : Nat} {v1 : Int32} {v2 : Int32} {M : jM} {Q : Int32 → Nat → jM → Prop} (h : at_X6_replaceBarrier_0 n0 v1 v2 M Q) : ok_X6_replaceBarrier n0 v1 v2 M Q := jr_enter (by decide) (fun g => rfl) (fun g => Nat.le_of_ble_eq_true rfl) h
set_option maxHeartbeats 4000000 in
set_option maxRecDepth 100000 in
theorem bl_X6_replaceBarrier_0 (n0 : Nat) (v1 : Int32) (v2 : Int32) (M : jM) (Q : Int32 → Nat → jM → Prop) (ha0 : n0 < 2)
  (h : ((0 ≤ v1 ∧ v1 < M 6 n0 2 ∧ v1 < 6) → vp_in v1 6 ∧ (v2 = 0 ∨ v2 = 1) ∧ (∀ M4 : jM, M4 = jup M 3 (6 * n0 + v1.toNatClampNeg) 3 v2 → (∀ M5 : jM, M5 = jup M4 6 n0 3 ((M4 6 n0 3) + 1) → Q 0 0 M5))) ∧ (¬ (0 ≤ v1 ∧ v1 < M 6 n0 2 ∧ v1 < 6) → Q 0 0 M)) :
  at_X6_replaceBarrier_0 n0 v1 v2 M Q := by
  intro p l e s m args below meth c D cA base g C hr htb H locs G ls hl
  refine lv_aload_n C.x C.b dX6_replaceBarrier_0 rfl (lv_at hl 0 rfl) ?_
  refine lv_iload_n C.x C.b dX6_replaceBarrier_1 rfl (lv_at hl 1 rfl) ?_
  refine jr_V (d' := 1) C G jc6 jm_X6_hasLoop wd789 (sp_X6_hasLoop (show n0 < 2 by omega) ⟨rfl, rfl⟩ : ok_X6_hasLoop n0 v1 M (fun r _ M' => jb (0 ≤ v1 ∧ v1 < M 6 n0 2 ∧ v1 < 6) = r ∧ M = M')) rfl (show n0 < 2 by omega) (by decide) rfl rfl (by omega) (by decide) (by decide) ⟨rfl, rfl⟩ hl.1 (Nat.le_of_ble_eq_true rfl) dX6_replaceBarrier_2 (fun r1 r1n M2 H locs hq G => ?_)
  obtain ⟨eq1, eq2⟩ := hq
  subst eq1
  subst eq2
  refine lv_if_eq (tgt := 28) C.x C.b dX6_replaceBarrier_5 (by decide) (fun hc => ?_) (fun hc => ?_)
  · have h := h.2 (jb_0 hc)
    exact jr_retV C hr G h (by decide) (by decide) dX6_replaceBarrier_28
  · have h := h.1 (jb_1 hc)
    refine lv_aload_n C.x C.b dX6_replaceBarrier_8 rfl (lv_at hl 0 rfl) ?_
    refine jr_get C G jc6 0 (v := .ref (g 39 n0)) (show n0 < 2 by omega) (by decide) (by decide) rfl wd267 dX6_replaceBarrier_9 ?_
    refine lv_iload_n C.x C.b dX6_replaceBarrier_12 rfl (lv_at hl 1 rfl) ?_
    obtain ⟨hs, h⟩ := h
    have hj3 := vp_lt hs
    refine jr_aald C G (R := 39) (R' := 3) (i' := 6 * n0 + v1.toNatClampNeg) (show n0 < 2 by omega) (by decide) (by decide) (by decide) rfl rfl hs rfl dX6_replaceBarrier_13 ?_
    refine lv_iload_n C.x C.b dX6_replaceBarrier_14 rfl (lv_at hl 2 rfl) ?_
    obtain ⟨hs, h⟩ := h
    refine jr_put C G jc3 3 (v := v2) (show 6 * n0 + v1.toNatClampNeg < 20 by omega) (by decide) (by decide) rfl (by decide) wd222 rfl rfl (jz_n hs) (jz_f hs) dX6_replaceBarrier_15 (fun H locs G => ?_)
    obtain ⟨M4, eM4⟩ : ∃ z : jM, z = jup M 3 (6 * n0 + v1.toNatClampNeg) 3 v2 := ⟨_, rfl⟩
    rw [← eM4] at G
    have h := h M4 eM4
    have nM4 : jnb M4 = jnb M := by rw [eM4]; exact jnb_up (by decide)
    refine lv_aload_n C.x C.b dX6_replaceBarrier_18 rfl (lv_at hl 0 rfl) ?_
    refine lv_dup C.x C.b dX6_replaceBarrier_19 rfl ?_
    refine jr_get C G jc6 3 (v := .int (M4 6 n0 3)) (show n0 < 2 by omega) (by decide) (by decide) rfl wd280 dX6_replaceBarrier_20 ?_
    refine lv_iconst (v := 1) C.x C.b dX6_replaceBarrier_23 (by decide) ?_
    refine lv_iadd C.x C.b dX6_replaceBarrier_24 ?_
    refine jr_put C G jc6 3 (v := (M4 6 n0 3) + 1) (show n0 < 2 by omega) (by decide) (by decide) rfl (by decide) wd280 rfl rfl rfl rfl dX6_replaceBarrier_25 (fun H locs G => ?_)
    obtain ⟨M5, eM5⟩ : ∃ z : jM, z = jup M4 6 n0 3 ((M4 6 n0 3) + 1) := ⟨_, rfl⟩
    rw [← eM5] at G
    have h := h M5 eM5
    have nM5 : jnb M5 = jnb M4 := by rw [eM5]; exact jnb_up (by decide)
    exact jr_retV C hr G h (by decide) (by decide) dX6_replaceBarrier_28

theorem en_X6_copyFrom {n0 : Nat} {n1 : Nat} {M : jM} {Q : Int32 → Nat → jM → Prop} (h : at_X6_copyFrom_0 n0 n1 M Q) : ok_X6_copyFrom n0 n1 M Q := jr_enter (by decide) (fun g => rfl) (fun g => Nat.le_of_ble_eq_true rfl) h
set_option maxHeartbeats 4000000 in
set_option maxRecDepth 100000 in
theorem bl_X6_copyFrom_0 (n0 : Nat) (n1 : Nat) (M : jM) (Q : Int32 → Nat → jM → Prop) (ha0 : n0 < 2) (ha1 : n1 < 2)
  (h : at_X6_copyFrom_2 n0 n1 0 M Q) :
  at_X6_copyFrom_0 n0 n1 M Q := by
  intro p l e s m args below meth c D cA base g C hr htb H locs G ls hl
  refine lv_iconst (v := 0) C.x C.b dX6_copyFrom_0 (by decide) ?_
  refine lv_istore_n (lv' := [(2, .int 0), (0, .ref (g 6 n0)), (1, .ref (g 6 n1))]) C.x C.b dX6_copyFrom_1 rfl hl (by decide) rfl (fun ls hl => ?_)
  exact h p l e s m args below meth c D cA base g C hr htb _ _ G ls (lv_sub hl [1, 2, 0] rfl)
set_option maxHeartbeats 4000000 in
set_option maxRecDepth 100000 in
theorem bl_X6_copyFrom_2 (n0 : Nat) (n1 : Nat) (v2 : Int32) (M : jM) (Q : Int32 → Nat → jM → Prop) (ha0 : n0 < 2) (ha1 : n1 < 2)
  (h : (6 ≤ v2 → at_X6_copyFrom_31 n0 n1 0 M Q) ∧ (¬ (6 ≤ v2) → vp_in v2 6 ∧ vp_in v2 6 ∧ ok_X3_copyFrom (6 * n0 + v2.toNatClampNeg) (6 * n1 + v2.toNatClampNeg) M (fun _ _ M4 => jnb M4 = jnb M ∧ at_X6_copyFrom_2 n0 n1 (v2 + 1) M4 Q))) :
  at_X6_copyFrom_2 n0 n1 v2 M Q := by
  intro p l e s m args below meth c D cA base g C hr htb H locs G ls hl
  refine lv_iload_n C.x C.b dX6_copyFrom_2 rfl (lv_at hl 2 rfl) ?_
  refine lv_bipush (v := 6) C.x C.b dX6_copyFrom_3 (by decide) ?_
  refine lv_icmp_ge (tgt := 29) C.x C.b dX6_copyFrom_5 (by decide) (fun hc => ?_) (fun hc => ?_)
  · have h := h.1 hc
    refine lv_iconst (v := 0) C.x C.b dX6_copyFrom_29 (by decide) ?_
    refine lv_istore_n (lv' := [(2, .int 0), (0, .ref (g 6 n0)), (1, .ref (g 6 n1))]) C.x C.b dX6_copyFrom_30 rfl hl (by decide) rfl (fun ls hl => ?_)
    exact h p l e s m args below meth c D cA base g C hr htb _ _ G ls (lv_sub hl [1, 2, 0] rfl)
  · have h := h.2 hc
    refine lv_aload_n C.x C.b dX6_copyFrom_8 rfl (lv_at hl 0 rfl) ?_
    refine jr_get C G jc6 0 (v := .ref (g 39 n0)) (show n0 < 2 by omega) (by decide) (by decide) rfl wd267 dX6_copyFrom_9 ?_
    refine lv_iload_n C.x C.b dX6_copyFrom_12 rfl (lv_at hl 2 rfl) ?_
    obtain ⟨hs, h⟩ := h
    have hj1 := vp_lt hs
    refine jr_aald C G (R := 39) (R' := 3) (i' := 6 * n0 + v2.toNatClampNeg) (show n0 < 2 by omega) (by decide) (by decide) (by decide) rfl rfl hs rfl dX6_copyFrom_13 ?_
    refine lv_aload_n C.x C.b dX6_copyFrom_14 rfl (lv_at hl 1 rfl) ?_
    refine jr_get C G jc6 0 (v := .ref (g 39 n1)) (show n1 < 2 by omega) (by decide) (by decide) rfl wd267 dX6_copyFrom_15 ?_
    refine lv_iload_n C.x C.b dX6_copyFrom_18 rfl (lv_at hl 2 rfl) ?_
    obtain ⟨hs, h⟩ := h
    have hj2 := vp_lt hs
    refine jr_aald C G (R := 39) (R' := 3) (i' := 6 * n1 + v2.toNatClampNeg) (show n1 < 2 by omega) (by decide) (by decide) (by decide) rfl rfl hs rfl dX6_copyFrom_19 ?_
    refine jr_V (d' := 1) C G jc3 jm_X3_copyFrom wd499 h rfl (show 6 * n0 + v2.toNatClampNeg < 20 by omega) (by decide) rfl rfl (by omega) (by decide) (by decide) ⟨rfl, rfl⟩ hl.1 (Nat.le_of_ble_eq_true rfl) dX6_copyFrom_20 (fun r3 r3n M4 H locs h G => ?_)
    obtain ⟨nM4, h⟩ := h
    refine lv_iinc (v := v2 + 1) (lv' := [(2, .int (v2 + 1)), (0, .ref (g 6 n0)), (1, .ref (g 6 n1))]) C.x C.b dX6_copyFrom_23 hl (k := 2) rfl rfl (by decide) rfl (fun ls hl => ?_)
    refine lv_goto (tgt := 2) C.x C.b dX6_copyFrom_26 (by decide) ?_
    exact h p l e s m args below meth c D cA base g C hr htb _ _ G ls (lv_sub hl [1, 2, 0] rfl)
set_option maxHeartbeats 4000000 in
set_option maxRecDepth 100000 in
theorem bl_X6_copyFrom_31 (n0 : Nat) (n1 : Nat) (v2 : Int32) (M : jM) (Q : Int32 → Nat → jM → Prop) (ha0 : n0 < 2) (ha1 : n1 < 2)
  (h : (3 ≤ v2 → (∀ M1 : jM, M1 = jup M 6 n0 2 (M 6 n1 2) → (∀ M2 : jM, M2 = jup M1 6 n0 3 ((M1 6 n0 3) + 1) → Q 0 0 M2))) ∧ (¬ (3 ≤ v2) → vp_in v2 3 ∧ vp_in v2 3 ∧ (∀ M3 : jM, M3 = jup M 40 n0 v2.toNatClampNeg (M 40 n1 v2.toNatClampNeg) → at_X6_copyFrom_31 n0 n1 (v2 + 1) M3 Q))) :
  at_X6_copyFrom_31 n0 n1 v2 M Q := by
  intro p l e s m args below meth c D cA base g C hr htb H locs G ls hl
  refine lv_iload_n C.x C.b dX6_copyFrom_31 rfl (lv_at hl 2 rfl) ?_
  refine lv_iconst (v := 3) C.x C.b dX6_copyFrom_32 (by decide) ?_
  refine lv_icmp_ge (tgt := 54) C.x C.b dX6_copyFrom_33 (by decide) (fun hc => ?_) (fun hc => ?_)
  · have h := h.1 hc
    refine lv_aload_n C.x C.b dX6_copyFrom_54 rfl (lv_at hl 0 rfl) ?_
    refine lv_aload_n C.x C.b dX6_copyFrom_55 rfl (lv_at hl 1 rfl) ?_
    refine jr_get C G jc6 2 (v := .int (M 6 n1 2)) (show n1 < 2 by omega) (by decide) (by decide) rfl wd274 dX6_copyFrom_56 ?_
    refine jr_put C G jc6 2 (v := M 6 n1 2) (show n0 < 2 by omega) (by decide) (by decide) rfl (by decide) wd274 rfl rfl rfl rfl dX6_copyFrom_59 (fun H locs G => ?_)
    obtain ⟨M1, eM1⟩ : ∃ z : jM, z = jup M 6 n0 2 (M 6 n1 2) := ⟨_, rfl⟩
    rw [← eM1] at G
    have h := h M1 eM1
    have nM1 : jnb M1 = jnb M := by rw [eM1]; exact jnb_up (by decide)
    refine lv_aload_n C.x C.b dX6_copyFrom_62 rfl (lv_at hl 0 rfl) ?_
    refine lv_dup C.x C.b dX6_copyFrom_63 rfl ?_
    refine jr_get C G jc6 3 (v := .int (M1 6 n0 3)) (show n0 < 2 by omega) (by decide) (by decide) rfl wd280 dX6_copyFrom_64 ?_
    refine lv_iconst (v := 1) C.x C.b dX6_copyFrom_67 (by decide) ?_
    refine lv_iadd C.x C.b dX6_copyFrom_68 ?_
    refine jr_put C G jc6 3 (v := (M1 6 n0 3) + 1) (show n0 < 2 by omega) (by decide) (by decide) rfl (by decide) wd280 rfl rfl rfl rfl dX6_copyFrom_69 (fun H locs G => ?_)
    obtain ⟨M2, eM2⟩ : ∃ z : jM, z = jup M1 6 n0 3 ((M1 6 n0 3) + 1) := ⟨_, rfl⟩
    rw [← eM2] at G
    have h := h M2 eM2
    have nM2 : jnb M2 = jnb M1 := by rw [eM2]; exact jnb_up (by decide)
    exact jr_retV C hr G h (by decide) (by decide) dX6_copyFrom_72
  · have h := h.2 hc
    refine lv_aload_n C.x C.b dX6_copyFrom_36 rfl (lv_at hl 0 rfl) ?_
    refine jr_get C G jc6 1 (v := .ref (g 40 n0)) (show n0 < 2 by omega) (by decide) (by decide) rfl wd270 dX6_copyFrom_37 ?_
    refine lv_iload_n C.x C.b dX6_copyFrom_40 rfl (lv_at hl 2 rfl) ?_
    refine lv_aload_n C.x C.b dX6_copyFrom_41 rfl (lv_at hl 1 rfl) ?_
    refine jr_get C G jc6 1 (v := .ref (g 40 n1)) (show n1 < 2 by omega) (by decide) (by decide) rfl wd270 dX6_copyFrom_42 ?_
    refine lv_iload_n C.x C.b dX6_copyFrom_45 rfl (lv_at hl 2 rfl) ?_
    obtain ⟨hs, h⟩ := h
    refine jr_ald C G (show n1 < 2 by omega) (by decide) (by decide) (by decide) rfl rfl hs dX6_copyFrom_46 ?_
    obtain ⟨hs, h⟩ := h
    refine jr_ast C G (show n0 < 2 by omega) (by decide) (by decide) (by decide) rfl rfl hs dX6_copyFrom_47 (fun H locs G => ?_)
    obtain ⟨M3, eM3⟩ : ∃ z : jM, z = jup M 40 n0 v2.toNatClampNeg (M 40 n1 v2.toNatClampNeg) := ⟨_, rfl⟩
    rw [← eM3] at G
    have h := h M3 eM3
    have nM3 : jnb M3 = jnb M := by rw [eM3]; exact jnb_up (by decide)
    refine lv_iinc (v := v2 + 1) (lv' := [(2, .int (v2 + 1)), (0, .ref (g 6 n0)), (1, .ref (g 6 n1))]) C.x C.b dX6_copyFrom_48 hl (k := 2) rfl rfl (by decide) rfl (fun ls hl => ?_)
    refine lv_goto (tgt := 31) C.x C.b dX6_copyFrom_51 (by decide) ?_
    exact h p l e s m args below meth c D cA base g C hr htb _ _ G ls (lv_sub hl [1, 2, 0] rfl)

theorem en_X9_begin {v1 : Int32} {M : jM} {Q : Int32 → Nat → jM → Prop} (h : at_X9_begin_0 v1 M Q) : ok_X9_begin v1 M Q := jr_enter (by decide) (fun g => rfl) (fun g => Nat.le_of_ble_eq_true rfl) h
set_option maxHeartbeats 4000000 in
set_option maxRecDepth 100000 in
theorem bl_X9_begin_0 (v1 : Int32) (M : jM) (Q : Int32 → Nat → jM → Prop) 
  (h : (∀ M1 : jM, M1 = jup M 9 0 1 v1 → (∀ M2 : jM, M2 = jup M1 9 0 2 0 → (∀ M3 : jM, M3 = jup M2 9 0 3 0 → (∀ M4 : jM, M4 = jup M3 9 0 4 0 → ok_X9_forget  M4 (fun _ _ M6 => jnb M6 = jnb M4 ∧ Q 0 0 M6)))))) :
  at_X9_begin_0 v1 M Q := by
  intro p l e s m args below meth c D cA base g C hr htb H locs G ls hl
  refine lv_aload_n C.x C.b dX9_begin_0 rfl (lv_at hl 0 rfl) ?_
  refine lv_iload_n C.x C.b dX9_begin_1 rfl (lv_at hl 1 rfl) ?_
  refine jr_put C G jc9 1 (v := v1) (show 0 < 1 by decide) (by decide) (by decide) rfl (by decide) wd374 rfl rfl rfl rfl dX9_begin_2 (fun H locs G => ?_)
  obtain ⟨M1, eM1⟩ : ∃ z : jM, z = jup M 9 0 1 v1 := ⟨_, rfl⟩
  rw [← eM1] at G
  have h := h M1 eM1
  have nM1 : jnb M1 = jnb M := by rw [eM1]; exact jnb_up (by decide)
  refine lv_aload_n C.x C.b dX9_begin_5 rfl (lv_at hl 0 rfl) ?_
  refine lv_iconst (v := 0) C.x C.b dX9_begin_6 (by decide) ?_
  refine jr_put C G jc9 2 (v := 0) (show 0 < 1 by decide) (by decide) (by decide) rfl (by decide) wd375 rfl rfl rfl rfl dX9_begin_7 (fun H locs G => ?_)
  obtain ⟨M2, eM2⟩ : ∃ z : jM, z = jup M1 9 0 2 0 := ⟨_, rfl⟩
  rw [← eM2] at G
  have h := h M2 eM2
  have nM2 : jnb M2 = jnb M1 := by rw [eM2]; exact jnb_up (by decide)
  refine lv_aload_n C.x C.b dX9_begin_10 rfl (lv_at hl 0 rfl) ?_
  refine lv_iconst (v := 0) C.x C.b dX9_begin_11 (by decide) ?_
  refine jr_put C G jc9 3 (v := 0) (show 0 < 1 by decide) (by decide) (by decide) rfl (by decide) wd377 rfl rfl rfl rfl dX9_begin_12 (fun H locs G => ?_)
  obtain ⟨M3, eM3⟩ : ∃ z : jM, z = jup M2 9 0 3 0 := ⟨_, rfl⟩
  rw [← eM3] at G
  have h := h M3 eM3
  have nM3 : jnb M3 = jnb M2 := by rw [eM3]; exact jnb_up (by decide)
  refine lv_aload_n C.x C.b dX9_begin_15 rfl (lv_at hl 0 rfl) ?_
  refine lv_iconst (v := 0) C.x C.b dX9_begin_16 (by decide) ?_
  refine jr_put C G jc9 4 (v := 0) (show 0 < 1 by decide) (by decide) (by decide) rfl (by decide) wd380 rfl rfl rfl rfl dX9_begin_17 (fun H locs G => ?_)
  obtain ⟨M4, eM4⟩ : ∃ z : jM, z = jup M3 9 0 4 0 := ⟨_, rfl⟩
  rw [← eM4] at G
  have h := h M4 eM4
  have nM4 : jnb M4 = jnb M3 := by rw [eM4]; exact jnb_up (by decide)
  refine lv_aload_n C.x C.b dX9_begin_20 rfl (lv_at hl 0 rfl) ?_
  refine jr_V (d' := 1) C G jc9 jm_X9_forget wd1043 h rfl (show 0 < 1 by decide) (by decide) rfl rfl (by omega) (by decide) (by decide) ⟨rfl, rfl⟩ hl.1 (Nat.le_of_ble_eq_true rfl) dX9_begin_21 (fun r5 r5n M6 H locs h G => ?_)
  obtain ⟨nM6, h⟩ := h
  exact jr_retV C hr G h (by decide) (by decide) dX9_begin_24

theorem en_X9_iterate {v1 : Int32} {n2 : Nat} {v3 : Int32} {M : jM} {Q : Int32 → Nat → jM → Prop} (h : at_X9_iterate_0 v1 n2 v3 M Q) : ok_X9_iterate v1 n2 v3 M Q := jr_enter (by decide) (fun g => rfl) (fun g => Nat.le_of_ble_eq_true rfl) h
set_option maxHeartbeats 4000000 in
set_option maxRecDepth 100000 in
theorem bl_X9_iterate_0 (v1 : Int32) (n2 : Nat) (v3 : Int32) (M : jM) (Q : Int32 → Nat → jM → Prop) (ha0 : n2 < jnb M)
  (h : at_X9_iterate_3 v1 n2 v3 0 M Q) :
  at_X9_iterate_0 v1 n2 v3 M Q := by
  intro p l e s m args below meth c D cA base g C hr htb H locs G ls hl
  refine lv_iconst (v := 0) C.x C.b dX9_iterate_0 (by decide) ?_
  refine lv_istore (lv' := [(4, .int 0), (0, .ref (g 9 0)), (1, .int v1), (2, .ref (g 0 n2)), (3, .int v3)]) C.x C.b dX9_iterate_1 hl (by decide) rfl (fun ls hl => ?_)
  exact h p l e s m args below meth c D cA base g C hr htb _ _ G ls (lv_sub hl [1, 2, 3, 4, 0] rfl)
set_option maxHeartbeats 4000000 in
set_option maxRecDepth 100000 in
theorem bl_X9_iterate_3 (v1 : Int32) (n2 : Nat) (v3 : Int32) (v4 : Int32) (M : jM) (Q : Int32 → Nat → jM → Prop) (ha0 : n2 < jnb M)
  (h : ((M 0 n2 6) ≤ v4 → Q 0 0 M) ∧ (¬ ((M 0 n2 6) ≤ v4) → (24 ≤ v4 → Q 0 0 M) ∧ (¬ (24 ≤ v4) → vp_in v4 24 ∧ (((M 20 n2 v4.toNatClampNeg) + v3) < 0 → at_X9_iterate_3 v1 n2 v3 (v4 + 1) M Q) ∧ (¬ (((M 20 n2 v4.toNatClampNeg) + v3) < 0) → (245 ≤ ((M 20 n2 v4.toNatClampNeg) + v3) → at_X9_iterate_3 v1 n2 v3 (v4 + 1) M Q) ∧ (¬ (245 ≤ ((M 20 n2 v4.toNatClampNeg) + v3)) → vp_in ((M 20 n2 v4.toNatClampNeg) + v3) 245 ∧ vp_in ((M 20 n2 v4.toNatClampNeg) + v3) 245 ∧ (∀ M1 : jM, M1 = jup M 43 0 ((M 20 n2 v4.toNatClampNeg) + v3).toNatClampNeg v1 → vp_in v4 24 ∧ (M1 21 n2 v4.toNatClampNeg = 0 → (∀ M2 : jM, M2 = jup M1 9 0 2 ((M1 9 0 2) + 1) → vp_in v4 24 ∧ (M2 21 n2 v4.toNatClampNeg = 0 → ((M2 9 0 1) < (v1 - (M 43 0 ((M 20 n2 v4.toNatClampNeg) + v3).toNatClampNeg)) → at_X9_iterate_3 v1 n2 v3 (v4 + 1) M2 Q) ∧ (¬ ((M2 9 0 1) < (v1 - (M 43 0 ((M 20 n2 v4.toNatClampNeg) + v3).toNatClampNeg))) → (∀ M3 : jM, M3 = jup M2 9 0 3 ((M2 9 0 3) + 1) → (∀ M4 : jM, M4 = jup M3 9 0 4 (jmax (M3 9 0 4) (v1 - (M 43 0 ((M 20 n2 v4.toNatClampNeg) + v3).toNatClampNeg))) → at_X9_iterate_3 v1 n2 v3 (v4 + 1) M4 Q)))) ∧ (¬ (M2 21 n2 v4.toNatClampNeg = 0) → at_X9_iterate_3 v1 n2 v3 (v4 + 1) M2 Q))) ∧ (¬ (M1 21 n2 v4.toNatClampNeg = 0) → (∀ M5 : jM, M5 = jup M1 9 0 2 ((M1 9 0 2) + 0) → vp_in v4 24 ∧ (M5 21 n2 v4.toNatClampNeg = 0 → ((M5 9 0 1) < (v1 - (M 43 0 ((M 20 n2 v4.toNatClampNeg) + v3).toNatClampNeg)) → at_X9_iterate_3 v1 n2 v3 (v4 + 1) M5 Q) ∧ (¬ ((M5 9 0 1) < (v1 - (M 43 0 ((M 20 n2 v4.toNatClampNeg) + v3).toNatClampNeg))) → (∀ M6 : jM, M6 = jup M5 9 0 3 ((M5 9 0 3) + 1) → (∀ M7 : jM, M7 = jup M6 9 0 4 (jmax (M6 9 0 4) (v1 - (M 43 0 ((M 20 n2 v4.toNatClampNeg) + v3).toNatClampNeg))) → at_X9_iterate_3 v1 n2 v3 (v4 + 1) M7 Q)))) ∧ (¬ (M5 21 n2 v4.toNatClampNeg = 0) → at_X9_iterate_3 v1 n2 v3 (v4 + 1) M5 Q))))))))) :
  at_X9_iterate_3 v1 n2 v3 v4 M Q := by
  intro p l e s m args below meth c D cA base g C hr htb H locs G ls hl
  refine lv_iload C.x C.b dX9_iterate_3 (lv_at hl 4 rfl) ?_
  refine lv_aload_n C.x C.b dX9_iterate_5 rfl (lv_at hl 2 rfl) ?_
  refine jr_get C G jc0 6 (v := .int (M 0 n2 6)) (show n2 < jnb M by omega) (by decide) (by decide) rfl wd174 dX9_iterate_6 ?_
  refine lv_icmp_ge (tgt := 134) C.x C.b dX9_iterate_9 (by decide) (fun hc => ?_) (fun hc => ?_)
  · have h := h.1 hc
    exact jr_retV C hr G h (by decide) (by decide) dX9_iterate_134
  · have h := h.2 hc
    refine lv_iload C.x C.b dX9_iterate_12 (lv_at hl 4 rfl) ?_
    refine lv_bipush (v := 24) C.x C.b dX9_iterate_14 (by decide) ?_
    refine lv_icmp_ge (tgt := 134) C.x C.b dX9_iterate_16 (by decide) (fun hc => ?_) (fun hc => ?_)
    · have h := h.1 hc
      exact jr_retV C hr G h (by decide) (by decide) dX9_iterate_134
    · have h := h.2 hc
      refine lv_aload_n C.x C.b dX9_iterate_19 rfl (lv_at hl 2 rfl) ?_
      refine jr_get C G jc0 0 (v := .ref (g 20 n2)) (show n2 < jnb M by omega) (by decide) (by decide) rfl wd157 dX9_iterate_20 ?_
      refine lv_iload C.x C.b dX9_iterate_23 (lv_at hl 4 rfl) ?_
      obtain ⟨hs, h⟩ := h
      refine jr_ald C G (show n2 < jnb M by omega) (by decide) (by decide) (by decide) rfl rfl hs dX9_iterate_25 ?_
      refine lv_iload_n C.x C.b dX9_iterate_26 rfl (lv_at hl 3 rfl) ?_
      refine lv_iadd C.x C.b dX9_iterate_27 ?_
      refine lv_istore (lv' := [(5, .int ((M 20 n2 v4.toNatClampNeg) + v3)), (0, .ref (g 9 0)), (1, .int v1), (2, .ref (g 0 n2)), (3, .int v3), (4, .int v4)]) C.x C.b dX9_iterate_28 hl (by decide) rfl (fun ls hl => ?_)
      refine lv_iload C.x C.b dX9_iterate_30 (lv_at hl 0 rfl) ?_
      refine lv_if_lt (tgt := 128) C.x C.b dX9_iterate_32 (by decide) (fun hc => ?_) (fun hc => ?_)
      · have h := h.1 hc
        refine lv_iinc (v := v4 + 1) (lv' := [(4, .int (v4 + 1)), (5, .int ((M 20 n2 v4.toNatClampNeg) + v3)), (0, .ref (g 9 0)), (1, .int v1), (2, .ref (g 0 n2)), (3, .int v3)]) C.x C.b dX9_iterate_128 hl (k := 5) rfl rfl (by decide) rfl (fun ls hl => ?_)
        refine lv_goto (tgt := 3) C.x C.b dX9_iterate_131 (by decide) ?_
        exact h p l e s m args below meth c D cA base g C hr htb _ _ G ls (lv_sub hl [2, 3, 4, 5, 0] rfl)
      · have h := h.2 hc
        refine lv_iload C.x C.b dX9_iterate_35 (lv_at hl 0 rfl) ?_
        refine lv_sipush (v := 245) C.x C.b dX9_iterate_37 (by decide) ?_
        refine lv_icmp_ge (tgt := 128) C.x C.b dX9_iterate_40 (by decide) (fun hc => ?_) (fun hc => ?_)
        · have h := h.1 hc
          refine lv_iinc (v := v4 + 1) (lv' := [(4, .int (v4 + 1)), (5, .int ((M 20 n2 v4.toNatClampNeg) + v3)), (0, .ref (g 9 0)), (1, .int v1), (2, .ref (g 0 n2)), (3, .int v3)]) C.x C.b dX9_iterate_128 hl (k := 5) rfl rfl (by decide) rfl (fun ls hl => ?_)
          refine lv_goto (tgt := 3) C.x C.b dX9_iterate_131 (by decide) ?_
          exact h p l e s m args below meth c D cA base g C hr htb _ _ G ls (lv_sub hl [2, 3, 4, 5, 0] rfl)
        · have h := h.2 hc
          refine lv_iload_n C.x C.b dX9_iterate_43 rfl (lv_at hl 2 rfl) ?_
          refine lv_aload_n C.x C.b dX9_iterate_44 rfl (lv_at hl 1 rfl) ?_
          refine jr_get C G jc9 0 (v := .ref (g 43 0)) (show 0 < 1 by decide) (by decide) (by decide) rfl wd373 dX9_iterate_45 ?_
          refine lv_iload C.x C.b dX9_iterate_48 (lv_at hl 0 rfl) ?_
          obtain ⟨hs, h⟩ := h
          refine jr_ald C G (show 0 < 1 by decide) (by decide) (by decide) (by decide) rfl rfl hs dX9_iterate_50 ?_
          refine lv_isub C.x C.b dX9_iterate_51 ?_
          refine lv_istore (lv' := [(6, .int (v1 - (M 43 0 ((M 20 n2 v4.toNatClampNeg) + v3).toNatClampNeg))), (5, .int ((M 20 n2 v4.toNatClampNeg) + v3)), (0, .ref (g 9 0)), (1, .int v1), (2, .ref (g 0 n2)), (3, .int v3), (4, .int v4)]) C.x C.b dX9_iterate_52 hl (by decide) rfl (fun ls hl => ?_)
          refine lv_aload_n C.x C.b dX9_iterate_54 rfl (lv_at hl 2 rfl) ?_
          refine jr_get C G jc9 0 (v := .ref (g 43 0)) (show 0 < 1 by decide) (by decide) (by decide) rfl wd373 dX9_iterate_55 ?_
          refine lv_iload C.x C.b dX9_iterate_58 (lv_at hl 1 rfl) ?_
          refine lv_iload_n C.x C.b dX9_iterate_60 rfl (lv_at hl 3 rfl) ?_
          obtain ⟨hs, h⟩ := h
          refine jr_ast C G (show 0 < 1 by decide) (by decide) (by decide) (by decide) rfl rfl hs dX9_iterate_61 (fun H locs G => ?_)
          obtain ⟨M1, eM1⟩ : ∃ z : jM, z = jup M 43 0 ((M 20 n2 v4.toNatClampNeg) + v3).toNatClampNeg v1 := ⟨_, rfl⟩
          rw [← eM1] at G
          have h := h M1 eM1
          have nM1 : jnb M1 = jnb M := by rw [eM1]; exact jnb_up (by decide)
          refine lv_aload_n C.x C.b dX9_iterate_62 rfl (lv_at hl 2 rfl) ?_
          refine lv_dup C.x C.b dX9_iterate_63 rfl ?_
          refine jr_get C G jc9 2 (v := .int (M1 9 0 2)) (show 0 < 1 by decide) (by decide) (by decide) rfl wd375 dX9_iterate_64 ?_
          refine lv_aload_n C.x C.b dX9_iterate_67 rfl (lv_at hl 4 rfl) ?_
          refine jr_get C G jc0 1 (v := .ref (g 21 n2)) (show n2 < jnb M1 by omega) (by decide) (by decide) rfl wd161 dX9_iterate_68 ?_
          refine lv_iload C.x C.b dX9_iterate_71 (lv_at hl 6 rfl) ?_
          obtain ⟨hs, h⟩ := h
          refine jr_zald C G (show n2 < jnb M1 by omega) (by decide) (by decide) (by decide) rfl rfl hs dX9_iterate_73 ?_
          refine lv_if_eq (tgt := 81) C.x C.b dX9_iterate_74 (by decide) (fun hc => ?_) (fun hc => ?_)
          · have h := h.1 hc
            refine lv_iconst (v := 1) C.x C.b dX9_iterate_81 (by decide) ?_
            refine lv_iadd C.x C.b dX9_iterate_82 ?_
            refine jr_put C G jc9 2 (v := (M1 9 0 2) + 1) (show 0 < 1 by decide) (by decide) (by decide) rfl (by decide) wd375 rfl rfl rfl rfl dX9_iterate_83 (fun H locs G => ?_)
            obtain ⟨M2, eM2⟩ : ∃ z : jM, z = jup M1 9 0 2 ((M1 9 0 2) + 1) := ⟨_, rfl⟩
            rw [← eM2] at G
            have h := h M2 eM2
            have nM2 : jnb M2 = jnb M1 := by rw [eM2]; exact jnb_up (by decide)
            refine lv_aload_n C.x C.b dX9_iterate_86 rfl (lv_at hl 4 rfl) ?_
            refine jr_get C G jc0 1 (v := .ref (g 21 n2)) (show n2 < jnb M2 by omega) (by decide) (by decide) rfl wd161 dX9_iterate_87 ?_
            refine lv_iload C.x C.b dX9_iterate_90 (lv_at hl 6 rfl) ?_
            obtain ⟨hs, h⟩ := h
            refine jr_zald C G (show n2 < jnb M2 by omega) (by decide) (by decide) (by decide) rfl rfl hs dX9_iterate_92 ?_
            refine lv_if_ne (tgt := 128) C.x C.b dX9_iterate_93 (by decide) (fun hc => ?_) (fun hc => ?_)
            · have h := h.2 hc
              refine lv_iinc (v := v4 + 1) (lv' := [(4, .int (v4 + 1)), (6, .int (v1 - (M 43 0 ((M 20 n2 v4.toNatClampNeg) + v3).toNatClampNeg))), (5, .int ((M 20 n2 v4.toNatClampNeg) + v3)), (0, .ref (g 9 0)), (1, .int v1), (2, .ref (g 0 n2)), (3, .int v3)]) C.x C.b dX9_iterate_128 hl (k := 6) rfl rfl (by decide) rfl (fun ls hl => ?_)
              refine lv_goto (tgt := 3) C.x C.b dX9_iterate_131 (by decide) ?_
              exact h p l e s m args below meth c D cA base g C hr htb _ _ G ls (lv_sub hl [3, 4, 5, 6, 0] rfl)
            · have h := h.1 hc
              refine lv_iload C.x C.b dX9_iterate_96 (lv_at hl 0 rfl) ?_
              refine lv_aload_n C.x C.b dX9_iterate_98 rfl (lv_at hl 2 rfl) ?_
              refine jr_get C G jc9 1 (v := .int (M2 9 0 1)) (show 0 < 1 by decide) (by decide) (by decide) rfl wd374 dX9_iterate_99 ?_
              refine lv_icmp_gt (tgt := 128) C.x C.b dX9_iterate_102 (by decide) (fun hc => ?_) (fun hc => ?_)
              · have h := h.1 hc
                refine lv_iinc (v := v4 + 1) (lv' := [(4, .int (v4 + 1)), (6, .int (v1 - (M 43 0 ((M 20 n2 v4.toNatClampNeg) + v3).toNatClampNeg))), (5, .int ((M 20 n2 v4.toNatClampNeg) + v3)), (0, .ref (g 9 0)), (1, .int v1), (2, .ref (g 0 n2)), (3, .int v3)]) C.x C.b dX9_iterate_128 hl (k := 6) rfl rfl (by decide) rfl (fun ls hl => ?_)
                refine lv_goto (tgt := 3) C.x C.b dX9_iterate_131 (by decide) ?_
                exact h p l e s m args below meth c D cA base g C hr htb _ _ G ls (lv_sub hl [3, 4, 5, 6, 0] rfl)
              · have h := h.2 hc
                refine lv_aload_n C.x C.b dX9_iterate_105 rfl (lv_at hl 2 rfl) ?_
                refine lv_dup C.x C.b dX9_iterate_106 rfl ?_
                refine jr_get C G jc9 3 (v := .int (M2 9 0 3)) (show 0 < 1 by decide) (by decide) (by decide) rfl wd377 dX9_iterate_107 ?_
                refine lv_iconst (v := 1) C.x C.b dX9_iterate_110 (by decide) ?_
                refine lv_iadd C.x C.b dX9_iterate_111 ?_
                refine jr_put C G jc9 3 (v := (M2 9 0 3) + 1) (show 0 < 1 by decide) (by decide) (by decide) rfl (by decide) wd377 rfl rfl rfl rfl dX9_iterate_112 (fun H locs G => ?_)
                obtain ⟨M3, eM3⟩ : ∃ z : jM, z = jup M2 9 0 3 ((M2 9 0 3) + 1) := ⟨_, rfl⟩
                rw [← eM3] at G
                have h := h M3 eM3
                have nM3 : jnb M3 = jnb M2 := by rw [eM3]; exact jnb_up (by decide)
                refine lv_aload_n C.x C.b dX9_iterate_115 rfl (lv_at hl 2 rfl) ?_
                refine lv_aload_n C.x C.b dX9_iterate_116 rfl (lv_at hl 2 rfl) ?_
                refine jr_get C G jc9 4 (v := .int (M3 9 0 4)) (show 0 < 1 by decide) (by decide) (by decide) rfl wd380 dX9_iterate_117 ?_
                refine lv_iload C.x C.b dX9_iterate_120 (lv_at hl 0 rfl) ?_
                refine va_mmax C.x C.b (C.ml.trans hl.1.symm) C.ow (C.w _ wd1069) (C.w _ wd740) (C.w _ wd94) (C.w _ wd741) (by decide) (Nat.le_of_ble_eq_true rfl) (by decide) (by decide) dX9_iterate_122 ?_
                rw [show (if (M3 9 0 4) < (v1 - (M 43 0 ((M 20 n2 v4.toNatClampNeg) + v3).toNatClampNeg)) then v1 - (M 43 0 ((M 20 n2 v4.toNatClampNeg) + v3).toNatClampNeg) else M3 9 0 4 : Int32) = jmax (M3 9 0 4) (v1 - (M 43 0 ((M 20 n2 v4.toNatClampNeg) + v3).toNatClampNeg)) from rfl]
                refine jr_put C G jc9 4 (v := jmax (M3 9 0 4) (v1 - (M 43 0 ((M 20 n2 v4.toNatClampNeg) + v3).toNatClampNeg))) (show 0 < 1 by decide) (by decide) (by decide) rfl (by decide) wd380 rfl rfl rfl rfl dX9_iterate_125 (fun H locs G => ?_)
                obtain ⟨M4, eM4⟩ : ∃ z : jM, z = jup M3 9 0 4 (jmax (M3 9 0 4) (v1 - (M 43 0 ((M 20 n2 v4.toNatClampNeg) + v3).toNatClampNeg))) := ⟨_, rfl⟩
                rw [← eM4] at G
                have h := h M4 eM4
                have nM4 : jnb M4 = jnb M3 := by rw [eM4]; exact jnb_up (by decide)
                refine lv_iinc (v := v4 + 1) (lv' := [(4, .int (v4 + 1)), (6, .int (v1 - (M 43 0 ((M 20 n2 v4.toNatClampNeg) + v3).toNatClampNeg))), (5, .int ((M 20 n2 v4.toNatClampNeg) + v3)), (0, .ref (g 9 0)), (1, .int v1), (2, .ref (g 0 n2)), (3, .int v3)]) C.x C.b dX9_iterate_128 hl (k := 6) rfl rfl (by decide) rfl (fun ls hl => ?_)
                refine lv_goto (tgt := 3) C.x C.b dX9_iterate_131 (by decide) ?_
                exact h p l e s m args below meth c D cA base g C hr htb _ _ G ls (lv_sub hl [3, 4, 5, 6, 0] rfl)
          · have h := h.2 hc
            refine lv_iconst (v := 0) C.x C.b dX9_iterate_77 (by decide) ?_
            refine lv_goto (tgt := 82) C.x C.b dX9_iterate_78 (by decide) ?_
            refine lv_iadd C.x C.b dX9_iterate_82 ?_
            refine jr_put C G jc9 2 (v := (M1 9 0 2) + 0) (show 0 < 1 by decide) (by decide) (by decide) rfl (by decide) wd375 rfl rfl rfl rfl dX9_iterate_83 (fun H locs G => ?_)
            obtain ⟨M5, eM5⟩ : ∃ z : jM, z = jup M1 9 0 2 ((M1 9 0 2) + 0) := ⟨_, rfl⟩
            rw [← eM5] at G
            have h := h M5 eM5
            have nM5 : jnb M5 = jnb M1 := by rw [eM5]; exact jnb_up (by decide)
            refine lv_aload_n C.x C.b dX9_iterate_86 rfl (lv_at hl 4 rfl) ?_
            refine jr_get C G jc0 1 (v := .ref (g 21 n2)) (show n2 < jnb M5 by omega) (by decide) (by decide) rfl wd161 dX9_iterate_87 ?_
            refine lv_iload C.x C.b dX9_iterate_90 (lv_at hl 6 rfl) ?_
            obtain ⟨hs, h⟩ := h
            refine jr_zald C G (show n2 < jnb M5 by omega) (by decide) (by decide) (by decide) rfl rfl hs dX9_iterate_92 ?_
            refine lv_if_ne (tgt := 128) C.x C.b dX9_iterate_93 (by decide) (fun hc => ?_) (fun hc => ?_)
            · have h := h.2 hc
              refine lv_iinc (v := v4 + 1) (lv' := [(4, .int (v4 + 1)), (6, .int (v1 - (M 43 0 ((M 20 n2 v4.toNatClampNeg) + v3).toNatClampNeg))), (5, .int ((M 20 n2 v4.toNatClampNeg) + v3)), (0, .ref (g 9 0)), (1, .int v1), (2, .ref (g 0 n2)), (3, .int v3)]) C.x C.b dX9_iterate_128 hl (k := 6) rfl rfl (by decide) rfl (fun ls hl => ?_)
              refine lv_goto (tgt := 3) C.x C.b dX9_iterate_131 (by decide) ?_
              exact h p l e s m args below meth c D cA base g C hr htb _ _ G ls (lv_sub hl [3, 4, 5, 6, 0] rfl)
            · have h := h.1 hc
              refine lv_iload C.x C.b dX9_iterate_96 (lv_at hl 0 rfl) ?_
              refine lv_aload_n C.x C.b dX9_iterate_98 rfl (lv_at hl 2 rfl) ?_
              refine jr_get C G jc9 1 (v := .int (M5 9 0 1)) (show 0 < 1 by decide) (by decide) (by decide) rfl wd374 dX9_iterate_99 ?_
              refine lv_icmp_gt (tgt := 128) C.x C.b dX9_iterate_102 (by decide) (fun hc => ?_) (fun hc => ?_)
              · have h := h.1 hc
                refine lv_iinc (v := v4 + 1) (lv' := [(4, .int (v4 + 1)), (6, .int (v1 - (M 43 0 ((M 20 n2 v4.toNatClampNeg) + v3).toNatClampNeg))), (5, .int ((M 20 n2 v4.toNatClampNeg) + v3)), (0, .ref (g 9 0)), (1, .int v1), (2, .ref (g 0 n2)), (3, .int v3)]) C.x C.b dX9_iterate_128 hl (k := 6) rfl rfl (by decide) rfl (fun ls hl => ?_)
                refine lv_goto (tgt := 3) C.x C.b dX9_iterate_131 (by decide) ?_
                exact h p l e s m args below meth c D cA base g C hr htb _ _ G ls (lv_sub hl [3, 4, 5, 6, 0] rfl)
              · have h := h.2 hc
                refine lv_aload_n C.x C.b dX9_iterate_105 rfl (lv_at hl 2 rfl) ?_
                refine lv_dup C.x C.b dX9_iterate_106 rfl ?_
                refine jr_get C G jc9 3 (v := .int (M5 9 0 3)) (show 0 < 1 by decide) (by decide) (by decide) rfl wd377 dX9_iterate_107 ?_
                refine lv_iconst (v := 1) C.x C.b dX9_iterate_110 (by decide) ?_
                refine lv_iadd C.x C.b dX9_iterate_111 ?_
                refine jr_put C G jc9 3 (v := (M5 9 0 3) + 1) (show 0 < 1 by decide) (by decide) (by decide) rfl (by decide) wd377 rfl rfl rfl rfl dX9_iterate_112 (fun H locs G => ?_)
                obtain ⟨M6, eM6⟩ : ∃ z : jM, z = jup M5 9 0 3 ((M5 9 0 3) + 1) := ⟨_, rfl⟩
                rw [← eM6] at G
                have h := h M6 eM6
                have nM6 : jnb M6 = jnb M5 := by rw [eM6]; exact jnb_up (by decide)
                refine lv_aload_n C.x C.b dX9_iterate_115 rfl (lv_at hl 2 rfl) ?_
                refine lv_aload_n C.x C.b dX9_iterate_116 rfl (lv_at hl 2 rfl) ?_
                refine jr_get C G jc9 4 (v := .int (M6 9 0 4)) (show 0 < 1 by decide) (by decide) (by decide) rfl wd380 dX9_iterate_117 ?_
                refine lv_iload C.x C.b dX9_iterate_120 (lv_at hl 0 rfl) ?_
                refine va_mmax C.x C.b (C.ml.trans hl.1.symm) C.ow (C.w _ wd1069) (C.w _ wd740) (C.w _ wd94) (C.w _ wd741) (by decide) (Nat.le_of_ble_eq_true rfl) (by decide) (by decide) dX9_iterate_122 ?_
                rw [show (if (M6 9 0 4) < (v1 - (M 43 0 ((M 20 n2 v4.toNatClampNeg) + v3).toNatClampNeg)) then v1 - (M 43 0 ((M 20 n2 v4.toNatClampNeg) + v3).toNatClampNeg) else M6 9 0 4 : Int32) = jmax (M6 9 0 4) (v1 - (M 43 0 ((M 20 n2 v4.toNatClampNeg) + v3).toNatClampNeg)) from rfl]
                refine jr_put C G jc9 4 (v := jmax (M6 9 0 4) (v1 - (M 43 0 ((M 20 n2 v4.toNatClampNeg) + v3).toNatClampNeg))) (show 0 < 1 by decide) (by decide) (by decide) rfl (by decide) wd380 rfl rfl rfl rfl dX9_iterate_125 (fun H locs G => ?_)
                obtain ⟨M7, eM7⟩ : ∃ z : jM, z = jup M6 9 0 4 (jmax (M6 9 0 4) (v1 - (M 43 0 ((M 20 n2 v4.toNatClampNeg) + v3).toNatClampNeg))) := ⟨_, rfl⟩
                rw [← eM7] at G
                have h := h M7 eM7
                have nM7 : jnb M7 = jnb M6 := by rw [eM7]; exact jnb_up (by decide)
                refine lv_iinc (v := v4 + 1) (lv' := [(4, .int (v4 + 1)), (6, .int (v1 - (M 43 0 ((M 20 n2 v4.toNatClampNeg) + v3).toNatClampNeg))), (5, .int ((M 20 n2 v4.toNatClampNeg) + v3)), (0, .ref (g 9 0)), (1, .int v1), (2, .ref (g 0 n2)), (3, .int v3)]) C.x C.b dX9_iterate_128 hl (k := 6) rfl rfl (by decide) rfl (fun ls hl => ?_)
                refine lv_goto (tgt := 3) C.x C.b dX9_iterate_131 (by decide) ?_
                exact h p l e s m args below meth c D cA base g C hr htb _ _ G ls (lv_sub hl [3, 4, 5, 6, 0] rfl)

theorem en_X1_take {v1 : Int32} {v2 : Int32} {M : jM} {Q : Int32 → Nat → jM → Prop} (h : at_X1_take_0 v1 v2 M Q) : ok_X1_take v1 v2 M Q := jr_enter (by decide) (fun g => rfl) (fun g => Nat.le_of_ble_eq_true rfl) h
set_option maxHeartbeats 4000000 in
set_option maxRecDepth 100000 in
theorem bl_X1_take_0 (v1 : Int32) (v2 : Int32) (M : jM) (Q : Int32 → Nat → jM → Prop) 
  (h : (∀ M1 : jM, M1 = jup M 1 0 5 (jmax v1 0) → (∀ M2 : jM, M2 = jup M1 1 0 6 (jmin v2 ((M1 6 0 2) - 1)) → at_X1_take_31 (M2 1 0 5) M2 Q))) :
  at_X1_take_0 v1 v2 M Q := by
  intro p l e s m args below meth c D cA base g C hr htb H locs G ls hl
  refine lv_aload_n C.x C.b dX1_take_0 rfl (lv_at hl 0 rfl) ?_
  refine lv_iload_n C.x C.b dX1_take_1 rfl (lv_at hl 1 rfl) ?_
  refine lv_iconst (v := 0) C.x C.b dX1_take_2 (by decide) ?_
  refine va_mmax C.x C.b (C.ml.trans hl.1.symm) C.ow (C.w _ wd1010) (C.w _ wd740) (C.w _ wd94) (C.w _ wd741) (by decide) (Nat.le_of_ble_eq_true rfl) (by decide) (by decide) dX1_take_3 ?_
  rw [show (if v1 < 0 then 0 else v1 : Int32) = jmax v1 0 from rfl]
  refine jr_put C G jc1 5 (v := jmax v1 0) (show 0 < 1 by decide) (by decide) (by decide) rfl (by decide) wd334 rfl rfl rfl rfl dX1_take_6 (fun H locs G => ?_)
  obtain ⟨M1, eM1⟩ : ∃ z : jM, z = jup M 1 0 5 (jmax v1 0) := ⟨_, rfl⟩
  rw [← eM1] at G
  have h := h M1 eM1
  have nM1 : jnb M1 = jnb M := by rw [eM1]; exact jnb_up (by decide)
  refine lv_aload_n C.x C.b dX1_take_9 rfl (lv_at hl 0 rfl) ?_
  refine lv_iload_n C.x C.b dX1_take_10 rfl (lv_at hl 2 rfl) ?_
  refine lv_aload_n C.x C.b dX1_take_11 rfl (lv_at hl 0 rfl) ?_
  refine jr_get C G jc1 0 (v := .ref (g 6 0)) (show 0 < 1 by decide) (by decide) (by decide) rfl wd328 dX1_take_12 ?_
  refine jr_get C G jc6 2 (v := .int (M1 6 0 2)) (show 0 < 2 by decide) (by decide) (by decide) rfl wd275 dX1_take_15 ?_
  refine lv_iconst (v := 1) C.x C.b dX1_take_18 (by decide) ?_
  refine lv_isub C.x C.b dX1_take_19 ?_
  refine va_mmin C.x C.b (C.ml.trans hl.1.symm) C.ow (C.w _ wd1011) (C.w _ wd890) (C.w _ wd94) (C.w _ wd891) (by decide) (Nat.le_of_ble_eq_true rfl) (by decide) (by decide) dX1_take_20 ?_
  rw [show (if ((M1 6 0 2) - 1) < v2 then (M1 6 0 2) - 1 else v2 : Int32) = jmin v2 ((M1 6 0 2) - 1) from rfl]
  refine jr_put C G jc1 6 (v := jmin v2 ((M1 6 0 2) - 1)) (show 0 < 1 by decide) (by decide) (by decide) rfl (by decide) wd335 rfl rfl rfl rfl dX1_take_23 (fun H locs G => ?_)
  obtain ⟨M2, eM2⟩ : ∃ z : jM, z = jup M1 1 0 6 (jmin v2 ((M1 6 0 2) - 1)) := ⟨_, rfl⟩
  rw [← eM2] at G
  have h := h M2 eM2
  have nM2 : jnb M2 = jnb M1 := by rw [eM2]; exact jnb_up (by decide)
  refine lv_aload_n C.x C.b dX1_take_26 rfl (lv_at hl 0 rfl) ?_
  refine jr_get C G jc1 5 (v := .int (M2 1 0 5)) (show 0 < 1 by decide) (by decide) (by decide) rfl wd334 dX1_take_27 ?_
  refine lv_istore_n (lv' := [(3, .int (M2 1 0 5)), (0, .ref (g 1 0)), (1, .int v1), (2, .int v2)]) C.x C.b dX1_take_30 rfl hl (by decide) rfl (fun ls hl => ?_)
  exact h p l e s m args below meth c D cA base g C hr htb _ _ G ls (lv_sub hl [1, 0] rfl)
set_option maxHeartbeats 4000000 in
set_option maxRecDepth 100000 in
theorem bl_X1_take_31 (v3 : Int32) (M : jM) (Q : Int32 → Nat → jM → Prop) 
  (h : ((M 1 0 6) < v3 → ok_X1_countSteps  M (fun _ _ M2 => jnb M2 = jnb M ∧ Q 0 0 M2)) ∧ (¬ ((M 1 0 6) < v3) → (6 ≤ v3 → ok_X1_countSteps  M (fun _ _ M4 => jnb M4 = jnb M ∧ Q 0 0 M4)) ∧ (¬ (6 ≤ v3) → vp_in v3 6 ∧ (∀ M5 : jM, M5 = jup M 27 0 v3.toNatClampNeg 0 → at_X1_take_58 v3 (M5 1 0 5) M5 Q)))) :
  at_X1_take_31 v3 M Q := by
  intro p l e s m args below meth c D cA base g C hr htb H locs G ls hl
  refine lv_iload_n C.x C.b dX1_take_31 rfl (lv_at hl 1 rfl) ?_
  refine lv_aload_n C.x C.b dX1_take_32 rfl (lv_at hl 0 rfl) ?_
  refine jr_get C G jc1 6 (v := .int (M 1 0 6)) (show 0 < 1 by decide) (by decide) (by decide) rfl wd335 dX1_take_33 ?_
  refine lv_icmp_gt (tgt := 108) C.x C.b dX1_take_36 (by decide) (fun hc => ?_) (fun hc => ?_)
  · have h := h.1 hc
    refine lv_aload_n C.x C.b dX1_take_108 rfl (lv_at hl 0 rfl) ?_
    refine jr_V (d' := 2) C G jc1 jm_X1_countSteps wd1012 h rfl (show 0 < 1 by decide) (by decide) rfl rfl (by omega) (by decide) (by decide) ⟨rfl, rfl⟩ hl.1 (Nat.le_of_ble_eq_true rfl) dX1_take_109 (fun r1 r1n M2 H locs h G => ?_)
    obtain ⟨nM2, h⟩ := h
    exact jr_retV C hr G h (by decide) (by decide) dX1_take_112
  · have h := h.2 hc
    refine lv_iload_n C.x C.b dX1_take_39 rfl (lv_at hl 1 rfl) ?_
    refine lv_bipush (v := 6) C.x C.b dX1_take_40 (by decide) ?_
    refine lv_icmp_ge (tgt := 108) C.x C.b dX1_take_42 (by decide) (fun hc => ?_) (fun hc => ?_)
    · have h := h.1 hc
      refine lv_aload_n C.x C.b dX1_take_108 rfl (lv_at hl 0 rfl) ?_
      refine jr_V (d' := 2) C G jc1 jm_X1_countSteps wd1012 h rfl (show 0 < 1 by decide) (by decide) rfl rfl (by omega) (by decide) (by decide) ⟨rfl, rfl⟩ hl.1 (Nat.le_of_ble_eq_true rfl) dX1_take_109 (fun r3 r3n M4 H locs h G => ?_)
      obtain ⟨nM4, h⟩ := h
      exact jr_retV C hr G h (by decide) (by decide) dX1_take_112
    · have h := h.2 hc
      refine lv_aload_n C.x C.b dX1_take_45 rfl (lv_at hl 0 rfl) ?_
      refine jr_get C G jc1 2 (v := .ref (g 27 0)) (show 0 < 1 by decide) (by decide) (by decide) rfl wd330 dX1_take_46 ?_
      refine lv_iload_n C.x C.b dX1_take_49 rfl (lv_at hl 1 rfl) ?_
      refine lv_iconst (v := 0) C.x C.b dX1_take_50 (by decide) ?_
      obtain ⟨hs, h⟩ := h
      refine jr_ast C G (show 0 < 1 by decide) (by decide) (by decide) (by decide) rfl rfl hs dX1_take_51 (fun H locs G => ?_)
      obtain ⟨M5, eM5⟩ : ∃ z : jM, z = jup M 27 0 v3.toNatClampNeg 0 := ⟨_, rfl⟩
      rw [← eM5] at G
      have h := h M5 eM5
      have nM5 : jnb M5 = jnb M := by rw [eM5]; exact jnb_up (by decide)
      refine lv_aload_n C.x C.b dX1_take_52 rfl (lv_at hl 0 rfl) ?_
      refine jr_get C G jc1 5 (v := .int (M5 1 0 5)) (show 0 < 1 by decide) (by decide) (by decide) rfl wd334 dX1_take_53 ?_
      refine lv_istore (lv' := [(4, .int (M5 1 0 5)), (0, .ref (g 1 0)), (3, .int v3)]) C.x C.b dX1_take_56 hl (by decide) rfl (fun ls hl => ?_)
      exact h p l e s m args below meth c D cA base g C hr htb _ _ G ls (lv_sub hl [1, 2, 0] rfl)
set_option maxHeartbeats 4000000 in
set_option maxRecDepth 100000 in
theorem bl_X1_take_58 (v3 : Int32) (v4 : Int32) (M : jM) (Q : Int32 → Nat → jM → Prop) 
  (h : (v3 ≤ v4 → at_X1_take_31 (v3 + 1) M Q) ∧ (¬ (v3 ≤ v4) → vp_in v3 6 ∧ vp_in v4 6 ∧ vp_in v4 6 ∧ vp_in v3 6 ∧ vp_in v3 6 ∧ (∀ M2 : jM, M2 = jup M 27 0 v3.toNatClampNeg (jmax (M 27 0 v3.toNatClampNeg) ((M 27 0 v4.toNatClampNeg) + (M 29 (v4.toNatClampNeg) v3.toNatClampNeg))) → at_X1_take_58 v3 (v4 + 1) M2 Q))) :
  at_X1_take_58 v3 v4 M Q := by
  intro p l e s m args below meth c D cA base g C hr htb H locs G ls hl
  refine lv_iload C.x C.b dX1_take_58 (lv_at hl 2 rfl) ?_
  refine lv_iload_n C.x C.b dX1_take_60 rfl (lv_at hl 1 rfl) ?_
  refine lv_icmp_ge (tgt := 102) C.x C.b dX1_take_61 (by decide) (fun hc => ?_) (fun hc => ?_)
  · have h := h.1 hc
    refine lv_iinc (v := v3 + 1) (lv' := [(3, .int (v3 + 1)), (0, .ref (g 1 0)), (4, .int v4)]) C.x C.b dX1_take_102 hl (k := 1) rfl rfl (by decide) rfl (fun ls hl => ?_)
    refine lv_goto (tgt := 31) C.x C.b dX1_take_105 (by decide) ?_
    exact h p l e s m args below meth c D cA base g C hr htb _ _ G ls (lv_sub hl [1, 0] rfl)
  · have h := h.2 hc
    refine lv_aload_n C.x C.b dX1_take_64 rfl (lv_at hl 0 rfl) ?_
    refine jr_get C G jc1 2 (v := .ref (g 27 0)) (show 0 < 1 by decide) (by decide) (by decide) rfl wd330 dX1_take_65 ?_
    refine lv_iload_n C.x C.b dX1_take_68 rfl (lv_at hl 1 rfl) ?_
    refine lv_aload_n C.x C.b dX1_take_69 rfl (lv_at hl 0 rfl) ?_
    refine jr_get C G jc1 2 (v := .ref (g 27 0)) (show 0 < 1 by decide) (by decide) (by decide) rfl wd330 dX1_take_70 ?_
    refine lv_iload_n C.x C.b dX1_take_73 rfl (lv_at hl 1 rfl) ?_
    obtain ⟨hs, h⟩ := h
    refine jr_ald C G (show 0 < 1 by decide) (by decide) (by decide) (by decide) rfl rfl hs dX1_take_74 ?_
    refine lv_aload_n C.x C.b dX1_take_75 rfl (lv_at hl 0 rfl) ?_
    refine jr_get C G jc1 2 (v := .ref (g 27 0)) (show 0 < 1 by decide) (by decide) (by decide) rfl wd330 dX1_take_76 ?_
    refine lv_iload C.x C.b dX1_take_79 (lv_at hl 2 rfl) ?_
    obtain ⟨hs, h⟩ := h
    refine jr_ald C G (show 0 < 1 by decide) (by decide) (by decide) (by decide) rfl rfl hs dX1_take_81 ?_
    refine lv_aload_n C.x C.b dX1_take_82 rfl (lv_at hl 0 rfl) ?_
    refine jr_get C G jc1 3 (v := .ref (g 28 0)) (show 0 < 1 by decide) (by decide) (by decide) rfl wd332 dX1_take_83 ?_
    refine lv_iload C.x C.b dX1_take_86 (lv_at hl 2 rfl) ?_
    obtain ⟨hs, h⟩ := h
    have hj1 := vp_lt hs
    refine jr_aald C G (R := 28) (R' := 29) (i' := v4.toNatClampNeg) (show 0 < 1 by decide) (by decide) (by decide) (by decide) rfl rfl hs rfl dX1_take_88 ?_
    refine lv_iload_n C.x C.b dX1_take_89 rfl (lv_at hl 1 rfl) ?_
    obtain ⟨hs, h⟩ := h
    refine jr_ald C G (show v4.toNatClampNeg < 6 by omega) (by decide) (by decide) (by decide) rfl rfl hs dX1_take_90 ?_
    refine lv_iadd C.x C.b dX1_take_91 ?_
    refine va_mmax C.x C.b (C.ml.trans hl.1.symm) C.ow (C.w _ wd1010) (C.w _ wd740) (C.w _ wd94) (C.w _ wd741) (by decide) (Nat.le_of_ble_eq_true rfl) (by decide) (by decide) dX1_take_92 ?_
    rw [show (if (M 27 0 v3.toNatClampNeg) < ((M 27 0 v4.toNatClampNeg) + (M 29 (v4.toNatClampNeg) v3.toNatClampNeg)) then (M 27 0 v4.toNatClampNeg) + (M 29 (v4.toNatClampNeg) v3.toNatClampNeg) else M 27 0 v3.toNatClampNeg : Int32) = jmax (M 27 0 v3.toNatClampNeg) ((M 27 0 v4.toNatClampNeg) + (M 29 (v4.toNatClampNeg) v3.toNatClampNeg)) from rfl]
    obtain ⟨hs, h⟩ := h
    refine jr_ast C G (show 0 < 1 by decide) (by decide) (by decide) (by decide) rfl rfl hs dX1_take_95 (fun H locs G => ?_)
    obtain ⟨M2, eM2⟩ : ∃ z : jM, z = jup M 27 0 v3.toNatClampNeg (jmax (M 27 0 v3.toNatClampNeg) ((M 27 0 v4.toNatClampNeg) + (M 29 (v4.toNatClampNeg) v3.toNatClampNeg))) := ⟨_, rfl⟩
    rw [← eM2] at G
    have h := h M2 eM2
    have nM2 : jnb M2 = jnb M := by rw [eM2]; exact jnb_up (by decide)
    refine lv_iinc (v := v4 + 1) (lv' := [(4, .int (v4 + 1)), (0, .ref (g 1 0)), (3, .int v3)]) C.x C.b dX1_take_96 hl (k := 2) rfl rfl (by decide) rfl (fun ls hl => ?_)
    refine lv_goto (tgt := 58) C.x C.b dX1_take_99 (by decide) ?_
    exact h p l e s m args below meth c D cA base g C hr htb _ _ G ls (lv_sub hl [1, 2, 0] rfl)

theorem en_X2_collect {n1 : Nat} {n2 : Nat} {M : jM} {Q : Int32 → Nat → jM → Prop} (h : at_X2_collect_0 n1 n2 M Q) : ok_X2_collect n1 n2 M Q := jr_enter (by decide) (fun g => rfl) (fun g => Nat.le_of_ble_eq_true rfl) h
set_option maxHeartbeats 4000000 in
set_option maxRecDepth 100000 in
theorem bl_X2_collect_0 (n1 : Nat) (n2 : Nat) (M : jM) (Q : Int32 → Nat → jM → Prop) (ha0 : n1 < 20) (ha1 : n2 < 20)
  (h : (∀ M1 : jM, M1 = jup M 2 0 3 0 → (∀ M2 : jM, M2 = jup M1 2 0 4 (-1000) → at_X2_collect_14 n1 n2 0 M2 Q))) :
  at_X2_collect_0 n1 n2 M Q := by
  intro p l e s m args below meth c D cA base g C hr htb H locs G ls hl
  refine lv_aload_n C.x C.b dX2_collect_0 rfl (lv_at hl 0 rfl) ?_
  refine lv_iconst (v := 0) C.x C.b dX2_collect_1 (by decide) ?_
  refine jr_put C G jc2 3 (v := 0) (show 0 < 1 by decide) (by decide) (by decide) rfl (by decide) wd303 rfl rfl rfl rfl dX2_collect_2 (fun H locs G => ?_)
  obtain ⟨M1, eM1⟩ : ∃ z : jM, z = jup M 2 0 3 0 := ⟨_, rfl⟩
  rw [← eM1] at G
  have h := h M1 eM1
  have nM1 : jnb M1 = jnb M := by rw [eM1]; exact jnb_up (by decide)
  refine lv_aload_n C.x C.b dX2_collect_5 rfl (lv_at hl 0 rfl) ?_
  refine lv_sipush (v := (-1000)) C.x C.b dX2_collect_6 (by decide) ?_
  refine jr_put C G jc2 4 (v := (-1000)) (show 0 < 1 by decide) (by decide) (by decide) rfl (by decide) wd306 rfl rfl rfl rfl dX2_collect_9 (fun H locs G => ?_)
  obtain ⟨M2, eM2⟩ : ∃ z : jM, z = jup M1 2 0 4 (-1000) := ⟨_, rfl⟩
  rw [← eM2] at G
  have h := h M2 eM2
  have nM2 : jnb M2 = jnb M1 := by rw [eM2]; exact jnb_up (by decide)
  refine lv_iconst (v := 0) C.x C.b dX2_collect_12 (by decide) ?_
  refine lv_istore_n (lv' := [(3, .int 0), (0, .ref (g 2 0)), (1, .ref (g 3 n1)), (2, .ref (g 3 n2))]) C.x C.b dX2_collect_13 rfl hl (by decide) rfl (fun ls hl => ?_)
  exact h p l e s m args below meth c D cA base g C hr htb _ _ G ls (lv_sub hl [1, 2, 3, 0] rfl)
set_option maxHeartbeats 4000000 in
set_option maxRecDepth 100000 in
theorem bl_X2_collect_14 (n1 : Nat) (n2 : Nat) (v3 : Int32) (M : jM) (Q : Int32 → Nat → jM → Prop) (ha0 : n1 < 20) (ha1 : n2 < 20)
  (h : ((M 0 ((M 3 n1 0).toNatClampNeg) 6) ≤ v3 → Q 0 0 M) ∧ (¬ ((M 0 ((M 3 n1 0).toNatClampNeg) 6) ≤ v3) → (24 ≤ v3 → Q 0 0 M) ∧ (¬ (24 ≤ v3) → at_X2_collect_34 n1 n2 v3 0 M Q))) :
  at_X2_collect_14 n1 n2 v3 M Q := by
  intro p l e s m args below meth c D cA base g C hr htb H locs G ls hl
  refine lv_iload_n C.x C.b dX2_collect_14 rfl (lv_at hl 3 rfl) ?_
  refine lv_aload_n C.x C.b dX2_collect_15 rfl (lv_at hl 1 rfl) ?_
  have hb1 : (M 3 n1 0).toNatClampNeg < jnb M := G.1.2.2 _ (by omega)
  refine jr_get C G jc3 0 (v := .ref (g 0 ((M 3 n1 0).toNatClampNeg))) (show n1 < 20 by omega) (by decide) (by decide) rfl wd205 dX2_collect_16 ?_
  refine jr_get C G jc0 6 (v := .int (M 0 ((M 3 n1 0).toNatClampNeg) 6)) (show (M 3 n1 0).toNatClampNeg < jnb M by omega) (by decide) (by decide) rfl wd172 dX2_collect_19 ?_
  refine lv_icmp_ge (tgt := 171) C.x C.b dX2_collect_22 (by decide) (fun hc => ?_) (fun hc => ?_)
  · have h := h.1 hc
    exact jr_retV C hr G h (by decide) (by decide) dX2_collect_171
  · have h := h.2 hc
    refine lv_iload_n C.x C.b dX2_collect_25 rfl (lv_at hl 3 rfl) ?_
    refine lv_bipush (v := 24) C.x C.b dX2_collect_26 (by decide) ?_
    refine lv_icmp_ge (tgt := 171) C.x C.b dX2_collect_28 (by decide) (fun hc => ?_) (fun hc => ?_)
    · have h := h.1 hc
      exact jr_retV C hr G h (by decide) (by decide) dX2_collect_171
    · have h := h.2 hc
      refine lv_iconst (v := 0) C.x C.b dX2_collect_31 (by decide) ?_
      refine lv_istore (lv' := [(4, .int 0), (0, .ref (g 2 0)), (1, .ref (g 3 n1)), (2, .ref (g 3 n2)), (3, .int v3)]) C.x C.b dX2_collect_32 hl (by decide) rfl (fun ls hl => ?_)
      exact h p l e s m args below meth c D cA base g C hr htb _ _ G ls (lv_sub hl [1, 2, 3, 4, 0] rfl)
set_option maxHeartbeats 4000000 in
set_option maxRecDepth 100000 in
theorem bl_X2_collect_34 (n1 : Nat) (n2 : Nat) (v3 : Int32) (v4 : Int32) (M : jM) (Q : Int32 → Nat → jM → Prop) (ha0 : n1 < 20) (ha1 : n2 < 20)
  (h : ((M 0 ((M 3 n2 0).toNatClampNeg) 6) ≤ v4 → at_X2_collect_14 n1 n2 (v3 + 1) M Q) ∧ (¬ ((M 0 ((M 3 n2 0).toNatClampNeg) 6) ≤ v4) → (24 ≤ v4 → at_X2_collect_14 n1 n2 (v3 + 1) M Q) ∧ (¬ (24 ≤ v4) → vp_in v3 24 ∧ vp_in v4 24 ∧ (M 21 ((M 3 n1 0).toNatClampNeg) v3.toNatClampNeg = 0 → (M 21 ((M 3 n2 0).toNatClampNeg) v4.toNatClampNeg = 0 → at_X2_collect_34 n1 n2 v3 (v4 + 1) M Q) ∧ (¬ (M 21 ((M 3 n2 0).toNatClampNeg) v4.toNatClampNeg = 0) → vp_in v3 24 ∧ vp_in v4 24 ∧ (((M 20 ((M 3 n1 0).toNatClampNeg) v3.toNatClampNeg) / 49 = (M 20 ((M 3 n2 0).toNatClampNeg) v4.toNatClampNeg) / 49 ∧ M 3 n1 1 + (M 20 ((M 3 n1 0).toNatClampNeg) v3.toNatClampNeg) ≤ M 3 n2 2 + (M 20 ((M 3 n2 0).toNatClampNeg) v4.toNatClampNeg) ∧ M 3 n2 1 + (M 20 ((M 3 n2 0).toNatClampNeg) v4.toNatClampNeg) ≤ M 3 n1 2 + (M 20 ((M 3 n1 0).toNatClampNeg) v3.toNatClampNeg)) → (M 21 ((M 3 n1 0).toNatClampNeg) v3.toNatClampNeg = 0 → vp_in v3 24 ∧ vp_in v4 24 ∧ ok_X2_add 1 (M 20 ((M 3 n1 0).toNatClampNeg) v3.toNatClampNeg) (M 20 ((M 3 n2 0).toNatClampNeg) v4.toNatClampNeg) M (fun _ _ M35 => jnb M35 = jnb M ∧ at_X2_collect_34 n1 n2 v3 (v4 + 1) M35 Q)) ∧ (¬ (M 21 ((M 3 n1 0).toNatClampNeg) v3.toNatClampNeg = 0) → (M 21 ((M 3 n2 0).toNatClampNeg) v4.toNatClampNeg = 0 → vp_in v3 24 ∧ vp_in v4 24 ∧ ok_X2_add 0 (M 20 ((M 3 n1 0).toNatClampNeg) v3.toNatClampNeg) (M 20 ((M 3 n2 0).toNatClampNeg) v4.toNatClampNeg) M (fun _ _ M27 => jnb M27 = jnb M ∧ at_X2_collect_34 n1 n2 v3 (v4 + 1) M27 Q)) ∧ (¬ (M 21 ((M 3 n2 0).toNatClampNeg) v4.toNatClampNeg = 0) → vp_in v3 24 ∧ vp_in v4 24 ∧ ok_X2_add 2 (M 20 ((M 3 n1 0).toNatClampNeg) v3.toNatClampNeg) (M 20 ((M 3 n2 0).toNatClampNeg) v4.toNatClampNeg) M (fun _ _ M31 => jnb M31 = jnb M ∧ at_X2_collect_34 n1 n2 v3 (v4 + 1) M31 Q)))) ∧ (¬ ((M 20 ((M 3 n1 0).toNatClampNeg) v3.toNatClampNeg) / 49 = (M 20 ((M 3 n2 0).toNatClampNeg) v4.toNatClampNeg) / 49 ∧ M 3 n1 1 + (M 20 ((M 3 n1 0).toNatClampNeg) v3.toNatClampNeg) ≤ M 3 n2 2 + (M 20 ((M 3 n2 0).toNatClampNeg) v4.toNatClampNeg) ∧ M 3 n2 1 + (M 20 ((M 3 n2 0).toNatClampNeg) v4.toNatClampNeg) ≤ M 3 n1 2 + (M 20 ((M 3 n1 0).toNatClampNeg) v3.toNatClampNeg)) → at_X2_collect_34 n1 n2 v3 (v4 + 1) M Q))) ∧ (¬ (M 21 ((M 3 n1 0).toNatClampNeg) v3.toNatClampNeg = 0) → vp_in v3 24 ∧ vp_in v4 24 ∧ (((M 20 ((M 3 n1 0).toNatClampNeg) v3.toNatClampNeg) / 49 = (M 20 ((M 3 n2 0).toNatClampNeg) v4.toNatClampNeg) / 49 ∧ M 3 n1 1 + (M 20 ((M 3 n1 0).toNatClampNeg) v3.toNatClampNeg) ≤ M 3 n2 2 + (M 20 ((M 3 n2 0).toNatClampNeg) v4.toNatClampNeg) ∧ M 3 n2 1 + (M 20 ((M 3 n2 0).toNatClampNeg) v4.toNatClampNeg) ≤ M 3 n1 2 + (M 20 ((M 3 n1 0).toNatClampNeg) v3.toNatClampNeg)) → (M 21 ((M 3 n1 0).toNatClampNeg) v3.toNatClampNeg = 0 → vp_in v3 24 ∧ vp_in v4 24 ∧ ok_X2_add 1 (M 20 ((M 3 n1 0).toNatClampNeg) v3.toNatClampNeg) (M 20 ((M 3 n2 0).toNatClampNeg) v4.toNatClampNeg) M (fun _ _ M19 => jnb M19 = jnb M ∧ at_X2_collect_34 n1 n2 v3 (v4 + 1) M19 Q)) ∧ (¬ (M 21 ((M 3 n1 0).toNatClampNeg) v3.toNatClampNeg = 0) → (M 21 ((M 3 n2 0).toNatClampNeg) v4.toNatClampNeg = 0 → vp_in v3 24 ∧ vp_in v4 24 ∧ ok_X2_add 0 (M 20 ((M 3 n1 0).toNatClampNeg) v3.toNatClampNeg) (M 20 ((M 3 n2 0).toNatClampNeg) v4.toNatClampNeg) M (fun _ _ M11 => jnb M11 = jnb M ∧ at_X2_collect_34 n1 n2 v3 (v4 + 1) M11 Q)) ∧ (¬ (M 21 ((M 3 n2 0).toNatClampNeg) v4.toNatClampNeg = 0) → vp_in v3 24 ∧ vp_in v4 24 ∧ ok_X2_add 2 (M 20 ((M 3 n1 0).toNatClampNeg) v3.toNatClampNeg) (M 20 ((M 3 n2 0).toNatClampNeg) v4.toNatClampNeg) M (fun _ _ M15 => jnb M15 = jnb M ∧ at_X2_collect_34 n1 n2 v3 (v4 + 1) M15 Q)))) ∧ (¬ ((M 20 ((M 3 n1 0).toNatClampNeg) v3.toNatClampNeg) / 49 = (M 20 ((M 3 n2 0).toNatClampNeg) v4.toNatClampNeg) / 49 ∧ M 3 n1 1 + (M 20 ((M 3 n1 0).toNatClampNeg) v3.toNatClampNeg) ≤ M 3 n2 2 + (M 20 ((M 3 n2 0).toNatClampNeg) v4.toNatClampNeg) ∧ M 3 n2 1 + (M 20 ((M 3 n2 0).toNatClampNeg) v4.toNatClampNeg) ≤ M 3 n1 2 + (M 20 ((M 3 n1 0).toNatClampNeg) v3.toNatClampNeg)) → at_X2_collect_34 n1 n2 v3 (v4 + 1) M Q))))) :
  at_X2_collect_34 n1 n2 v3 v4 M Q := by
  intro p l e s m args below meth c D cA base g C hr htb H locs G ls hl
  refine lv_iload C.x C.b dX2_collect_34 (lv_at hl 4 rfl) ?_
  refine lv_aload_n C.x C.b dX2_collect_36 rfl (lv_at hl 2 rfl) ?_
  have hb1 : (M 3 n2 0).toNatClampNeg < jnb M := G.1.2.2 _ (by omega)
  refine jr_get C G jc3 0 (v := .ref (g 0 ((M 3 n2 0).toNatClampNeg))) (show n2 < 20 by omega) (by decide) (by decide) rfl wd205 dX2_collect_37 ?_
  refine jr_get C G jc0 6 (v := .int (M 0 ((M 3 n2 0).toNatClampNeg) 6)) (show (M 3 n2 0).toNatClampNeg < jnb M by omega) (by decide) (by decide) rfl wd172 dX2_collect_40 ?_
  refine lv_icmp_ge (tgt := 165) C.x C.b dX2_collect_43 (by decide) (fun hc => ?_) (fun hc => ?_)
  · have h := h.1 hc
    refine lv_iinc (v := v3 + 1) (lv' := [(3, .int (v3 + 1)), (0, .ref (g 2 0)), (1, .ref (g 3 n1)), (2, .ref (g 3 n2)), (4, .int v4)]) C.x C.b dX2_collect_165 hl (k := 3) rfl rfl (by decide) rfl (fun ls hl => ?_)
    refine lv_goto (tgt := 14) C.x C.b dX2_collect_168 (by decide) ?_
    exact h p l e s m args below meth c D cA base g C hr htb _ _ G ls (lv_sub hl [1, 2, 3, 0] rfl)
  · have h := h.2 hc
    refine lv_iload C.x C.b dX2_collect_46 (lv_at hl 4 rfl) ?_
    refine lv_bipush (v := 24) C.x C.b dX2_collect_48 (by decide) ?_
    refine lv_icmp_ge (tgt := 165) C.x C.b dX2_collect_50 (by decide) (fun hc => ?_) (fun hc => ?_)
    · have h := h.1 hc
      refine lv_iinc (v := v3 + 1) (lv' := [(3, .int (v3 + 1)), (0, .ref (g 2 0)), (1, .ref (g 3 n1)), (2, .ref (g 3 n2)), (4, .int v4)]) C.x C.b dX2_collect_165 hl (k := 3) rfl rfl (by decide) rfl (fun ls hl => ?_)
      refine lv_goto (tgt := 14) C.x C.b dX2_collect_168 (by decide) ?_
      exact h p l e s m args below meth c D cA base g C hr htb _ _ G ls (lv_sub hl [1, 2, 3, 0] rfl)
    · have h := h.2 hc
      refine lv_aload_n C.x C.b dX2_collect_53 rfl (lv_at hl 1 rfl) ?_
      have hb2 : (M 3 n1 0).toNatClampNeg < jnb M := G.1.2.2 _ (by omega)
      refine jr_get C G jc3 0 (v := .ref (g 0 ((M 3 n1 0).toNatClampNeg))) (show n1 < 20 by omega) (by decide) (by decide) rfl wd205 dX2_collect_54 ?_
      refine jr_get C G jc0 1 (v := .ref (g 21 ((M 3 n1 0).toNatClampNeg))) (show (M 3 n1 0).toNatClampNeg < jnb M by omega) (by decide) (by decide) rfl wd160 dX2_collect_57 ?_
      refine lv_iload_n C.x C.b dX2_collect_60 rfl (lv_at hl 3 rfl) ?_
      obtain ⟨hs, h⟩ := h
      refine jr_zald C G (show (M 3 n1 0).toNatClampNeg < jnb M by omega) (by decide) (by decide) (by decide) rfl rfl hs dX2_collect_61 ?_
      refine lv_istore (lv' := [(5, .int (M 21 ((M 3 n1 0).toNatClampNeg) v3.toNatClampNeg)), (0, .ref (g 2 0)), (1, .ref (g 3 n1)), (2, .ref (g 3 n2)), (3, .int v3), (4, .int v4)]) C.x C.b dX2_collect_62 hl (by decide) rfl (fun ls hl => ?_)
      refine lv_aload_n C.x C.b dX2_collect_64 rfl (lv_at hl 3 rfl) ?_
      have hb3 : (M 3 n2 0).toNatClampNeg < jnb M := G.1.2.2 _ (by omega)
      refine jr_get C G jc3 0 (v := .ref (g 0 ((M 3 n2 0).toNatClampNeg))) (show n2 < 20 by omega) (by decide) (by decide) rfl wd205 dX2_collect_65 ?_
      refine jr_get C G jc0 1 (v := .ref (g 21 ((M 3 n2 0).toNatClampNeg))) (show (M 3 n2 0).toNatClampNeg < jnb M by omega) (by decide) (by decide) rfl wd160 dX2_collect_68 ?_
      refine lv_iload C.x C.b dX2_collect_71 (lv_at hl 5 rfl) ?_
      obtain ⟨hs, h⟩ := h
      refine jr_zald C G (show (M 3 n2 0).toNatClampNeg < jnb M by omega) (by decide) (by decide) (by decide) rfl rfl hs dX2_collect_73 ?_
      refine lv_istore (lv' := [(6, .int (M 21 ((M 3 n2 0).toNatClampNeg) v4.toNatClampNeg)), (5, .int (M 21 ((M 3 n1 0).toNatClampNeg) v3.toNatClampNeg)), (0, .ref (g 2 0)), (1, .ref (g 3 n1)), (2, .ref (g 3 n2)), (3, .int v3), (4, .int v4)]) C.x C.b dX2_collect_74 hl (by decide) rfl (fun ls hl => ?_)
      refine lv_iload C.x C.b dX2_collect_76 (lv_at hl 1 rfl) ?_
      refine lv_if_ne (tgt := 86) C.x C.b dX2_collect_78 (by decide) (fun hc => ?_) (fun hc => ?_)
      · have h := h.2 hc
        refine lv_aload_n C.x C.b dX2_collect_86 rfl (lv_at hl 3 rfl) ?_
        refine lv_aload_n C.x C.b dX2_collect_87 rfl (lv_at hl 3 rfl) ?_
        have hb4 : (M 3 n1 0).toNatClampNeg < jnb M := G.1.2.2 _ (by omega)
        refine jr_get C G jc3 0 (v := .ref (g 0 ((M 3 n1 0).toNatClampNeg))) (show n1 < 20 by omega) (by decide) (by decide) rfl wd205 dX2_collect_88 ?_
        refine jr_get C G jc0 0 (v := .ref (g 20 ((M 3 n1 0).toNatClampNeg))) (show (M 3 n1 0).toNatClampNeg < jnb M by omega) (by decide) (by decide) rfl wd156 dX2_collect_91 ?_
        refine lv_iload_n C.x C.b dX2_collect_94 rfl (lv_at hl 5 rfl) ?_
        obtain ⟨hs, h⟩ := h
        refine jr_ald C G (show (M 3 n1 0).toNatClampNeg < jnb M by omega) (by decide) (by decide) (by decide) rfl rfl hs dX2_collect_95 ?_
        refine lv_aload_n C.x C.b dX2_collect_96 rfl (lv_at hl 4 rfl) ?_
        refine lv_aload_n C.x C.b dX2_collect_97 rfl (lv_at hl 4 rfl) ?_
        have hb5 : (M 3 n2 0).toNatClampNeg < jnb M := G.1.2.2 _ (by omega)
        refine jr_get C G jc3 0 (v := .ref (g 0 ((M 3 n2 0).toNatClampNeg))) (show n2 < 20 by omega) (by decide) (by decide) rfl wd205 dX2_collect_98 ?_
        refine jr_get C G jc0 0 (v := .ref (g 20 ((M 3 n2 0).toNatClampNeg))) (show (M 3 n2 0).toNatClampNeg < jnb M by omega) (by decide) (by decide) rfl wd156 dX2_collect_101 ?_
        refine lv_iload C.x C.b dX2_collect_104 (lv_at hl 6 rfl) ?_
        obtain ⟨hs, h⟩ := h
        refine jr_ald C G (show (M 3 n2 0).toNatClampNeg < jnb M by omega) (by decide) (by decide) (by decide) rfl rfl hs dX2_collect_106 ?_
        refine jr_S (d' := 2) C G jm_X2_meet wd944 (sp_X2_meet (show n1 < 20 by omega) (show n2 < 20 by omega) ⟨rfl, rfl⟩ : ok_X2_meet n1 (M 20 ((M 3 n1 0).toNatClampNeg) v3.toNatClampNeg) n2 (M 20 ((M 3 n2 0).toNatClampNeg) v4.toNatClampNeg) M (fun r _ M' => jb ((M 20 ((M 3 n1 0).toNatClampNeg) v3.toNatClampNeg) / 49 = (M 20 ((M 3 n2 0).toNatClampNeg) v4.toNatClampNeg) / 49 ∧ M 3 n1 1 + (M 20 ((M 3 n1 0).toNatClampNeg) v3.toNatClampNeg) ≤ M 3 n2 2 + (M 20 ((M 3 n2 0).toNatClampNeg) v4.toNatClampNeg) ∧ M 3 n2 1 + (M 20 ((M 3 n2 0).toNatClampNeg) v4.toNatClampNeg) ≤ M 3 n1 2 + (M 20 ((M 3 n1 0).toNatClampNeg) v3.toNatClampNeg)) = r ∧ M = M')) rfl rfl rfl (by omega) (by decide) (by decide) ⟨rfl, rfl⟩ hl.1 (Nat.le_of_ble_eq_true rfl) dX2_collect_107 (fun r6 r6n M7 H locs hq G => ?_)
        obtain ⟨eq1, eq2⟩ := hq
        subst eq1
        subst eq2
        refine lv_if_eq (tgt := 159) C.x C.b dX2_collect_110 (by decide) (fun hc => ?_) (fun hc => ?_)
        · have h := h.2 (jb_0 hc)
          refine lv_iinc (v := v4 + 1) (lv' := [(4, .int (v4 + 1)), (6, .int (M 21 ((M 3 n2 0).toNatClampNeg) v4.toNatClampNeg)), (5, .int (M 21 ((M 3 n1 0).toNatClampNeg) v3.toNatClampNeg)), (0, .ref (g 2 0)), (1, .ref (g 3 n1)), (2, .ref (g 3 n2)), (3, .int v3)]) C.x C.b dX2_collect_159 hl (k := 6) rfl rfl (by decide) rfl (fun ls hl => ?_)
          refine lv_goto (tgt := 34) C.x C.b dX2_collect_162 (by decide) ?_
          exact h p l e s m args below meth c D cA base g C hr htb _ _ G ls (lv_sub hl [3, 4, 5, 6, 0] rfl)
        · have h := h.1 (jb_1 hc)
          refine lv_iload C.x C.b dX2_collect_113 (lv_at hl 1 rfl) ?_
          refine lv_if_ne (tgt := 122) C.x C.b dX2_collect_115 (by decide) (fun hc => ?_) (fun hc => ?_)
          · have h := h.2 hc
            refine lv_iload C.x C.b dX2_collect_122 (lv_at hl 0 rfl) ?_
            refine lv_if_eq (tgt := 131) C.x C.b dX2_collect_124 (by decide) (fun hc => ?_) (fun hc => ?_)
            · have h := h.1 hc
              refine lv_iconst (v := 0) C.x C.b dX2_collect_131 (by decide) ?_
              refine lv_istore (lv' := [(7, .int 0), (6, .int (M 21 ((M 3 n2 0).toNatClampNeg) v4.toNatClampNeg)), (5, .int (M 21 ((M 3 n1 0).toNatClampNeg) v3.toNatClampNeg)), (0, .ref (g 2 0)), (1, .ref (g 3 n1)), (2, .ref (g 3 n2)), (3, .int v3), (4, .int v4)]) C.x C.b dX2_collect_132 hl (by decide) rfl (fun ls hl => ?_)
              refine lv_aload_n C.x C.b dX2_collect_134 rfl (lv_at hl 3 rfl) ?_
              refine lv_iload C.x C.b dX2_collect_135 (lv_at hl 0 rfl) ?_
              refine lv_aload_n C.x C.b dX2_collect_137 rfl (lv_at hl 4 rfl) ?_
              have hb8 : (M 3 n1 0).toNatClampNeg < jnb M := G.1.2.2 _ (by omega)
              refine jr_get C G jc3 0 (v := .ref (g 0 ((M 3 n1 0).toNatClampNeg))) (show n1 < 20 by omega) (by decide) (by decide) rfl wd205 dX2_collect_138 ?_
              refine jr_get C G jc0 0 (v := .ref (g 20 ((M 3 n1 0).toNatClampNeg))) (show (M 3 n1 0).toNatClampNeg < jnb M by omega) (by decide) (by decide) rfl wd156 dX2_collect_141 ?_
              refine lv_iload_n C.x C.b dX2_collect_144 rfl (lv_at hl 6 rfl) ?_
              obtain ⟨hs, h⟩ := h
              refine jr_ald C G (show (M 3 n1 0).toNatClampNeg < jnb M by omega) (by decide) (by decide) (by decide) rfl rfl hs dX2_collect_145 ?_
              refine lv_aload_n C.x C.b dX2_collect_146 rfl (lv_at hl 5 rfl) ?_
              have hb9 : (M 3 n2 0).toNatClampNeg < jnb M := G.1.2.2 _ (by omega)
              refine jr_get C G jc3 0 (v := .ref (g 0 ((M 3 n2 0).toNatClampNeg))) (show n2 < 20 by omega) (by decide) (by decide) rfl wd205 dX2_collect_147 ?_
              refine jr_get C G jc0 0 (v := .ref (g 20 ((M 3 n2 0).toNatClampNeg))) (show (M 3 n2 0).toNatClampNeg < jnb M by omega) (by decide) (by decide) rfl wd156 dX2_collect_150 ?_
              refine lv_iload C.x C.b dX2_collect_153 (lv_at hl 7 rfl) ?_
              obtain ⟨hs, h⟩ := h
              refine jr_ald C G (show (M 3 n2 0).toNatClampNeg < jnb M by omega) (by decide) (by decide) (by decide) rfl rfl hs dX2_collect_155 ?_
              refine jr_V (d' := 2) C G jc2 jm_X2_add wd947 h rfl (show 0 < 1 by decide) (by decide) rfl rfl (by omega) (by decide) (by decide) ⟨rfl, rfl⟩ hl.1 (Nat.le_of_ble_eq_true rfl) dX2_collect_156 (fun r10 r10n M11 H locs h G => ?_)
              obtain ⟨nM11, h⟩ := h
              refine lv_iinc (v := v4 + 1) (lv' := [(4, .int (v4 + 1)), (7, .int 0), (6, .int (M 21 ((M 3 n2 0).toNatClampNeg) v4.toNatClampNeg)), (5, .int (M 21 ((M 3 n1 0).toNatClampNeg) v3.toNatClampNeg)), (0, .ref (g 2 0)), (1, .ref (g 3 n1)), (2, .ref (g 3 n2)), (3, .int v3)]) C.x C.b dX2_collect_159 hl (k := 7) rfl rfl (by decide) rfl (fun ls hl => ?_)
              refine lv_goto (tgt := 34) C.x C.b dX2_collect_162 (by decide) ?_
              exact h p l e s m args below meth c D cA base g C hr htb _ _ G ls (lv_sub hl [4, 5, 6, 7, 0] rfl)
            · have h := h.2 hc
              refine lv_iconst (v := 2) C.x C.b dX2_collect_127 (by decide) ?_
              refine lv_goto (tgt := 132) C.x C.b dX2_collect_128 (by decide) ?_
              refine lv_istore (lv' := [(7, .int 2), (6, .int (M 21 ((M 3 n2 0).toNatClampNeg) v4.toNatClampNeg)), (5, .int (M 21 ((M 3 n1 0).toNatClampNeg) v3.toNatClampNeg)), (0, .ref (g 2 0)), (1, .ref (g 3 n1)), (2, .ref (g 3 n2)), (3, .int v3), (4, .int v4)]) C.x C.b dX2_collect_132 hl (by decide) rfl (fun ls hl => ?_)
              refine lv_aload_n C.x C.b dX2_collect_134 rfl (lv_at hl 3 rfl) ?_
              refine lv_iload C.x C.b dX2_collect_135 (lv_at hl 0 rfl) ?_
              refine lv_aload_n C.x C.b dX2_collect_137 rfl (lv_at hl 4 rfl) ?_
              have hb12 : (M 3 n1 0).toNatClampNeg < jnb M := G.1.2.2 _ (by omega)
              refine jr_get C G jc3 0 (v := .ref (g 0 ((M 3 n1 0).toNatClampNeg))) (show n1 < 20 by omega) (by decide) (by decide) rfl wd205 dX2_collect_138 ?_
              refine jr_get C G jc0 0 (v := .ref (g 20 ((M 3 n1 0).toNatClampNeg))) (show (M 3 n1 0).toNatClampNeg < jnb M by omega) (by decide) (by decide) rfl wd156 dX2_collect_141 ?_
              refine lv_iload_n C.x C.b dX2_collect_144 rfl (lv_at hl 6 rfl) ?_
              obtain ⟨hs, h⟩ := h
              refine jr_ald C G (show (M 3 n1 0).toNatClampNeg < jnb M by omega) (by decide) (by decide) (by decide) rfl rfl hs dX2_collect_145 ?_
              refine lv_aload_n C.x C.b dX2_collect_146 rfl (lv_at hl 5 rfl) ?_
              have hb13 : (M 3 n2 0).toNatClampNeg < jnb M := G.1.2.2 _ (by omega)
              refine jr_get C G jc3 0 (v := .ref (g 0 ((M 3 n2 0).toNatClampNeg))) (show n2 < 20 by omega) (by decide) (by decide) rfl wd205 dX2_collect_147 ?_
              refine jr_get C G jc0 0 (v := .ref (g 20 ((M 3 n2 0).toNatClampNeg))) (show (M 3 n2 0).toNatClampNeg < jnb M by omega) (by decide) (by decide) rfl wd156 dX2_collect_150 ?_
              refine lv_iload C.x C.b dX2_collect_153 (lv_at hl 7 rfl) ?_
              obtain ⟨hs, h⟩ := h
              refine jr_ald C G (show (M 3 n2 0).toNatClampNeg < jnb M by omega) (by decide) (by decide) (by decide) rfl rfl hs dX2_collect_155 ?_
              refine jr_V (d' := 2) C G jc2 jm_X2_add wd947 h rfl (show 0 < 1 by decide) (by decide) rfl rfl (by omega) (by decide) (by decide) ⟨rfl, rfl⟩ hl.1 (Nat.le_of_ble_eq_true rfl) dX2_collect_156 (fun r14 r14n M15 H locs h G => ?_)
              obtain ⟨nM15, h⟩ := h
              refine lv_iinc (v := v4 + 1) (lv' := [(4, .int (v4 + 1)), (7, .int 2), (6, .int (M 21 ((M 3 n2 0).toNatClampNeg) v4.toNatClampNeg)), (5, .int (M 21 ((M 3 n1 0).toNatClampNeg) v3.toNatClampNeg)), (0, .ref (g 2 0)), (1, .ref (g 3 n1)), (2, .ref (g 3 n2)), (3, .int v3)]) C.x C.b dX2_collect_159 hl (k := 7) rfl rfl (by decide) rfl (fun ls hl => ?_)
              refine lv_goto (tgt := 34) C.x C.b dX2_collect_162 (by decide) ?_
              exact h p l e s m args below meth c D cA base g C hr htb _ _ G ls (lv_sub hl [4, 5, 6, 7, 0] rfl)
          · have h := h.1 hc
            refine lv_iconst (v := 1) C.x C.b dX2_collect_118 (by decide) ?_
            refine lv_goto (tgt := 132) C.x C.b dX2_collect_119 (by decide) ?_
            refine lv_istore (lv' := [(7, .int 1), (6, .int (M 21 ((M 3 n2 0).toNatClampNeg) v4.toNatClampNeg)), (5, .int (M 21 ((M 3 n1 0).toNatClampNeg) v3.toNatClampNeg)), (0, .ref (g 2 0)), (1, .ref (g 3 n1)), (2, .ref (g 3 n2)), (3, .int v3), (4, .int v4)]) C.x C.b dX2_collect_132 hl (by decide) rfl (fun ls hl => ?_)
            refine lv_aload_n C.x C.b dX2_collect_134 rfl (lv_at hl 3 rfl) ?_
            refine lv_iload C.x C.b dX2_collect_135 (lv_at hl 0 rfl) ?_
            refine lv_aload_n C.x C.b dX2_collect_137 rfl (lv_at hl 4 rfl) ?_
            have hb16 : (M 3 n1 0).toNatClampNeg < jnb M := G.1.2.2 _ (by omega)
            refine jr_get C G jc3 0 (v := .ref (g 0 ((M 3 n1 0).toNatClampNeg))) (show n1 < 20 by omega) (by decide) (by decide) rfl wd205 dX2_collect_138 ?_
            refine jr_get C G jc0 0 (v := .ref (g 20 ((M 3 n1 0).toNatClampNeg))) (show (M 3 n1 0).toNatClampNeg < jnb M by omega) (by decide) (by decide) rfl wd156 dX2_collect_141 ?_
            refine lv_iload_n C.x C.b dX2_collect_144 rfl (lv_at hl 6 rfl) ?_
            obtain ⟨hs, h⟩ := h
            refine jr_ald C G (show (M 3 n1 0).toNatClampNeg < jnb M by omega) (by decide) (by decide) (by decide) rfl rfl hs dX2_collect_145 ?_
            refine lv_aload_n C.x C.b dX2_collect_146 rfl (lv_at hl 5 rfl) ?_
            have hb17 : (M 3 n2 0).toNatClampNeg < jnb M := G.1.2.2 _ (by omega)
            refine jr_get C G jc3 0 (v := .ref (g 0 ((M 3 n2 0).toNatClampNeg))) (show n2 < 20 by omega) (by decide) (by decide) rfl wd205 dX2_collect_147 ?_
            refine jr_get C G jc0 0 (v := .ref (g 20 ((M 3 n2 0).toNatClampNeg))) (show (M 3 n2 0).toNatClampNeg < jnb M by omega) (by decide) (by decide) rfl wd156 dX2_collect_150 ?_
            refine lv_iload C.x C.b dX2_collect_153 (lv_at hl 7 rfl) ?_
            obtain ⟨hs, h⟩ := h
            refine jr_ald C G (show (M 3 n2 0).toNatClampNeg < jnb M by omega) (by decide) (by decide) (by decide) rfl rfl hs dX2_collect_155 ?_
            refine jr_V (d' := 2) C G jc2 jm_X2_add wd947 h rfl (show 0 < 1 by decide) (by decide) rfl rfl (by omega) (by decide) (by decide) ⟨rfl, rfl⟩ hl.1 (Nat.le_of_ble_eq_true rfl) dX2_collect_156 (fun r18 r18n M19 H locs h G => ?_)
            obtain ⟨nM19, h⟩ := h
            refine lv_iinc (v := v4 + 1) (lv' := [(4, .int (v4 + 1)), (7, .int 1), (6, .int (M 21 ((M 3 n2 0).toNatClampNeg) v4.toNatClampNeg)), (5, .int (M 21 ((M 3 n1 0).toNatClampNeg) v3.toNatClampNeg)), (0, .ref (g 2 0)), (1, .ref (g 3 n1)), (2, .ref (g 3 n2)), (3, .int v3)]) C.x C.b dX2_collect_159 hl (k := 7) rfl rfl (by decide) rfl (fun ls hl => ?_)
            refine lv_goto (tgt := 34) C.x C.b dX2_collect_162 (by decide) ?_
            exact h p l e s m args below meth c D cA base g C hr htb _ _ G ls (lv_sub hl [4, 5, 6, 7, 0] rfl)
      · have h := h.1 hc
        refine lv_iload C.x C.b dX2_collect_81 (lv_at hl 0 rfl) ?_
        refine lv_if_eq (tgt := 159) C.x C.b dX2_collect_83 (by decide) (fun hc => ?_) (fun hc => ?_)
        · have h := h.1 hc
          refine lv_iinc (v := v4 + 1) (lv' := [(4, .int (v4 + 1)), (6, .int (M 21 ((M 3 n2 0).toNatClampNeg) v4.toNatClampNeg)), (5, .int (M 21 ((M 3 n1 0).toNatClampNeg) v3.toNatClampNeg)), (0, .ref (g 2 0)), (1, .ref (g 3 n1)), (2, .ref (g 3 n2)), (3, .int v3)]) C.x C.b dX2_collect_159 hl (k := 6) rfl rfl (by decide) rfl (fun ls hl => ?_)
          refine lv_goto (tgt := 34) C.x C.b dX2_collect_162 (by decide) ?_
          exact h p l e s m args below meth c D cA base g C hr htb _ _ G ls (lv_sub hl [3, 4, 5, 6, 0] rfl)
        · have h := h.2 hc
          refine lv_aload_n C.x C.b dX2_collect_86 rfl (lv_at hl 3 rfl) ?_
          refine lv_aload_n C.x C.b dX2_collect_87 rfl (lv_at hl 3 rfl) ?_
          have hb20 : (M 3 n1 0).toNatClampNeg < jnb M := G.1.2.2 _ (by omega)
          refine jr_get C G jc3 0 (v := .ref (g 0 ((M 3 n1 0).toNatClampNeg))) (show n1 < 20 by omega) (by decide) (by decide) rfl wd205 dX2_collect_88 ?_
          refine jr_get C G jc0 0 (v := .ref (g 20 ((M 3 n1 0).toNatClampNeg))) (show (M 3 n1 0).toNatClampNeg < jnb M by omega) (by decide) (by decide) rfl wd156 dX2_collect_91 ?_
          refine lv_iload_n C.x C.b dX2_collect_94 rfl (lv_at hl 5 rfl) ?_
          obtain ⟨hs, h⟩ := h
          refine jr_ald C G (show (M 3 n1 0).toNatClampNeg < jnb M by omega) (by decide) (by decide) (by decide) rfl rfl hs dX2_collect_95 ?_
          refine lv_aload_n C.x C.b dX2_collect_96 rfl (lv_at hl 4 rfl) ?_
          refine lv_aload_n C.x C.b dX2_collect_97 rfl (lv_at hl 4 rfl) ?_
          have hb21 : (M 3 n2 0).toNatClampNeg < jnb M := G.1.2.2 _ (by omega)
          refine jr_get C G jc3 0 (v := .ref (g 0 ((M 3 n2 0).toNatClampNeg))) (show n2 < 20 by omega) (by decide) (by decide) rfl wd205 dX2_collect_98 ?_
          refine jr_get C G jc0 0 (v := .ref (g 20 ((M 3 n2 0).toNatClampNeg))) (show (M 3 n2 0).toNatClampNeg < jnb M by omega) (by decide) (by decide) rfl wd156 dX2_collect_101 ?_
          refine lv_iload C.x C.b dX2_collect_104 (lv_at hl 6 rfl) ?_
          obtain ⟨hs, h⟩ := h
          refine jr_ald C G (show (M 3 n2 0).toNatClampNeg < jnb M by omega) (by decide) (by decide) (by decide) rfl rfl hs dX2_collect_106 ?_
          refine jr_S (d' := 2) C G jm_X2_meet wd944 (sp_X2_meet (show n1 < 20 by omega) (show n2 < 20 by omega) ⟨rfl, rfl⟩ : ok_X2_meet n1 (M 20 ((M 3 n1 0).toNatClampNeg) v3.toNatClampNeg) n2 (M 20 ((M 3 n2 0).toNatClampNeg) v4.toNatClampNeg) M (fun r _ M' => jb ((M 20 ((M 3 n1 0).toNatClampNeg) v3.toNatClampNeg) / 49 = (M 20 ((M 3 n2 0).toNatClampNeg) v4.toNatClampNeg) / 49 ∧ M 3 n1 1 + (M 20 ((M 3 n1 0).toNatClampNeg) v3.toNatClampNeg) ≤ M 3 n2 2 + (M 20 ((M 3 n2 0).toNatClampNeg) v4.toNatClampNeg) ∧ M 3 n2 1 + (M 20 ((M 3 n2 0).toNatClampNeg) v4.toNatClampNeg) ≤ M 3 n1 2 + (M 20 ((M 3 n1 0).toNatClampNeg) v3.toNatClampNeg)) = r ∧ M = M')) rfl rfl rfl (by omega) (by decide) (by decide) ⟨rfl, rfl⟩ hl.1 (Nat.le_of_ble_eq_true rfl) dX2_collect_107 (fun r22 r22n M23 H locs hq G => ?_)
          obtain ⟨eq1, eq2⟩ := hq
          subst eq1
          subst eq2
          refine lv_if_eq (tgt := 159) C.x C.b dX2_collect_110 (by decide) (fun hc => ?_) (fun hc => ?_)
          · have h := h.2 (jb_0 hc)
            refine lv_iinc (v := v4 + 1) (lv' := [(4, .int (v4 + 1)), (6, .int (M 21 ((M 3 n2 0).toNatClampNeg) v4.toNatClampNeg)), (5, .int (M 21 ((M 3 n1 0).toNatClampNeg) v3.toNatClampNeg)), (0, .ref (g 2 0)), (1, .ref (g 3 n1)), (2, .ref (g 3 n2)), (3, .int v3)]) C.x C.b dX2_collect_159 hl (k := 6) rfl rfl (by decide) rfl (fun ls hl => ?_)
            refine lv_goto (tgt := 34) C.x C.b dX2_collect_162 (by decide) ?_
            exact h p l e s m args below meth c D cA base g C hr htb _ _ G ls (lv_sub hl [3, 4, 5, 6, 0] rfl)
          · have h := h.1 (jb_1 hc)
            refine lv_iload C.x C.b dX2_collect_113 (lv_at hl 1 rfl) ?_
            refine lv_if_ne (tgt := 122) C.x C.b dX2_collect_115 (by decide) (fun hc => ?_) (fun hc => ?_)
            · have h := h.2 hc
              refine lv_iload C.x C.b dX2_collect_122 (lv_at hl 0 rfl) ?_
              refine lv_if_eq (tgt := 131) C.x C.b dX2_collect_124 (by decide) (fun hc => ?_) (fun hc => ?_)
              · have h := h.1 hc
                refine lv_iconst (v := 0) C.x C.b dX2_collect_131 (by decide) ?_
                refine lv_istore (lv' := [(7, .int 0), (6, .int (M 21 ((M 3 n2 0).toNatClampNeg) v4.toNatClampNeg)), (5, .int (M 21 ((M 3 n1 0).toNatClampNeg) v3.toNatClampNeg)), (0, .ref (g 2 0)), (1, .ref (g 3 n1)), (2, .ref (g 3 n2)), (3, .int v3), (4, .int v4)]) C.x C.b dX2_collect_132 hl (by decide) rfl (fun ls hl => ?_)
                refine lv_aload_n C.x C.b dX2_collect_134 rfl (lv_at hl 3 rfl) ?_
                refine lv_iload C.x C.b dX2_collect_135 (lv_at hl 0 rfl) ?_
                refine lv_aload_n C.x C.b dX2_collect_137 rfl (lv_at hl 4 rfl) ?_
                have hb24 : (M 3 n1 0).toNatClampNeg < jnb M := G.1.2.2 _ (by omega)
                refine jr_get C G jc3 0 (v := .ref (g 0 ((M 3 n1 0).toNatClampNeg))) (show n1 < 20 by omega) (by decide) (by decide) rfl wd205 dX2_collect_138 ?_
                refine jr_get C G jc0 0 (v := .ref (g 20 ((M 3 n1 0).toNatClampNeg))) (show (M 3 n1 0).toNatClampNeg < jnb M by omega) (by decide) (by decide) rfl wd156 dX2_collect_141 ?_
                refine lv_iload_n C.x C.b dX2_collect_144 rfl (lv_at hl 6 rfl) ?_
                obtain ⟨hs, h⟩ := h
                refine jr_ald C G (show (M 3 n1 0).toNatClampNeg < jnb M by omega) (by decide) (by decide) (by decide) rfl rfl hs dX2_collect_145 ?_
                refine lv_aload_n C.x C.b dX2_collect_146 rfl (lv_at hl 5 rfl) ?_
                have hb25 : (M 3 n2 0).toNatClampNeg < jnb M := G.1.2.2 _ (by omega)
                refine jr_get C G jc3 0 (v := .ref (g 0 ((M 3 n2 0).toNatClampNeg))) (show n2 < 20 by omega) (by decide) (by decide) rfl wd205 dX2_collect_147 ?_
                refine jr_get C G jc0 0 (v := .ref (g 20 ((M 3 n2 0).toNatClampNeg))) (show (M 3 n2 0).toNatClampNeg < jnb M by omega) (by decide) (by decide) rfl wd156 dX2_collect_150 ?_
                refine lv_iload C.x C.b dX2_collect_153 (lv_at hl 7 rfl) ?_
                obtain ⟨hs, h⟩ := h
                refine jr_ald C G (show (M 3 n2 0).toNatClampNeg < jnb M by omega) (by decide) (by decide) (by decide) rfl rfl hs dX2_collect_155 ?_
                refine jr_V (d' := 2) C G jc2 jm_X2_add wd947 h rfl (show 0 < 1 by decide) (by decide) rfl rfl (by omega) (by decide) (by decide) ⟨rfl, rfl⟩ hl.1 (Nat.le_of_ble_eq_true rfl) dX2_collect_156 (fun r26 r26n M27 H locs h G => ?_)
                obtain ⟨nM27, h⟩ := h
                refine lv_iinc (v := v4 + 1) (lv' := [(4, .int (v4 + 1)), (7, .int 0), (6, .int (M 21 ((M 3 n2 0).toNatClampNeg) v4.toNatClampNeg)), (5, .int (M 21 ((M 3 n1 0).toNatClampNeg) v3.toNatClampNeg)), (0, .ref (g 2 0)), (1, .ref (g 3 n1)), (2, .ref (g 3 n2)), (3, .int v3)]) C.x C.b dX2_collect_159 hl (k := 7) rfl rfl (by decide) rfl (fun ls hl => ?_)
                refine lv_goto (tgt := 34) C.x C.b dX2_collect_162 (by decide) ?_
                exact h p l e s m args below meth c D cA base g C hr htb _ _ G ls (lv_sub hl [4, 5, 6, 7, 0] rfl)
              · have h := h.2 hc
                refine lv_iconst (v := 2) C.x C.b dX2_collect_127 (by decide) ?_
                refine lv_goto (tgt := 132) C.x C.b dX2_collect_128 (by decide) ?_
                refine lv_istore (lv' := [(7, .int 2), (6, .int (M 21 ((M 3 n2 0).toNatClampNeg) v4.toNatClampNeg)), (5, .int (M 21 ((M 3 n1 0).toNatClampNeg) v3.toNatClampNeg)), (0, .ref (g 2 0)), (1, .ref (g 3 n1)), (2, .ref (g 3 n2)), (3, .int v3), (4, .int v4)]) C.x C.b dX2_collect_132 hl (by decide) rfl (fun ls hl => ?_)
                refine lv_aload_n C.x C.b dX2_collect_134 rfl (lv_at hl 3 rfl) ?_
                refine lv_iload C.x C.b dX2_collect_135 (lv_at hl 0 rfl) ?_
                refine lv_aload_n C.x C.b dX2_collect_137 rfl (lv_at hl 4 rfl) ?_
                have hb28 : (M 3 n1 0).toNatClampNeg < jnb M := G.1.2.2 _ (by omega)
                refine jr_get C G jc3 0 (v := .ref (g 0 ((M 3 n1 0).toNatClampNeg))) (show n1 < 20 by omega) (by decide) (by decide) rfl wd205 dX2_collect_138 ?_
                refine jr_get C G jc0 0 (v := .ref (g 20 ((M 3 n1 0).toNatClampNeg))) (show (M 3 n1 0).toNatClampNeg < jnb M by omega) (by decide) (by decide) rfl wd156 dX2_collect_141 ?_
                refine lv_iload_n C.x C.b dX2_collect_144 rfl (lv_at hl 6 rfl) ?_
                obtain ⟨hs, h⟩ := h
                refine jr_ald C G (show (M 3 n1 0).toNatClampNeg < jnb M by omega) (by decide) (by decide) (by decide) rfl rfl hs dX2_collect_145 ?_
                refine lv_aload_n C.x C.b dX2_collect_146 rfl (lv_at hl 5 rfl) ?_
                have hb29 : (M 3 n2 0).toNatClampNeg < jnb M := G.1.2.2 _ (by omega)
                refine jr_get C G jc3 0 (v := .ref (g 0 ((M 3 n2 0).toNatClampNeg))) (show n2 < 20 by omega) (by decide) (by decide) rfl wd205 dX2_collect_147 ?_
                refine jr_get C G jc0 0 (v := .ref (g 20 ((M 3 n2 0).toNatClampNeg))) (show (M 3 n2 0).toNatClampNeg < jnb M by omega) (by decide) (by decide) rfl wd156 dX2_collect_150 ?_
                refine lv_iload C.x C.b dX2_collect_153 (lv_at hl 7 rfl) ?_
                obtain ⟨hs, h⟩ := h
                refine jr_ald C G (show (M 3 n2 0).toNatClampNeg < jnb M by omega) (by decide) (by decide) (by decide) rfl rfl hs dX2_collect_155 ?_
                refine jr_V (d' := 2) C G jc2 jm_X2_add wd947 h rfl (show 0 < 1 by decide) (by decide) rfl rfl (by omega) (by decide) (by decide) ⟨rfl, rfl⟩ hl.1 (Nat.le_of_ble_eq_true rfl) dX2_collect_156 (fun r30 r30n M31 H locs h G => ?_)
                obtain ⟨nM31, h⟩ := h
                refine lv_iinc (v := v4 + 1) (lv' := [(4, .int (v4 + 1)), (7, .int 2), (6, .int (M 21 ((M 3 n2 0).toNatClampNeg) v4.toNatClampNeg)), (5, .int (M 21 ((M 3 n1 0).toNatClampNeg) v3.toNatClampNeg)), (0, .ref (g 2 0)), (1, .ref (g 3 n1)), (2, .ref (g 3 n2)), (3, .int v3)]) C.x C.b dX2_collect_159 hl (k := 7) rfl rfl (by decide) rfl (fun ls hl => ?_)
                refine lv_goto (tgt := 34) C.x C.b dX2_collect_162 (by decide) ?_
                exact h p l e s m args below meth c D cA base g C hr htb _ _ G ls (lv_sub hl [4, 5, 6, 7, 0] rfl)
            · have h := h.1 hc
              refine lv_iconst (v := 1) C.x C.b dX2_collect_118 (by decide) ?_
              refine lv_goto (tgt := 132) C.x C.b dX2_collect_119 (by decide) ?_
              refine lv_istore (lv' := [(7, .int 1), (6, .int (M 21 ((M 3 n2 0).toNatClampNeg) v4.toNatClampNeg)), (5, .int (M 21 ((M 3 n1 0).toNatClampNeg) v3.toNatClampNeg)), (0, .ref (g 2 0)), (1, .ref (g 3 n1)), (2, .ref (g 3 n2)), (3, .int v3), (4, .int v4)]) C.x C.b dX2_collect_132 hl (by decide) rfl (fun ls hl => ?_)
              refine lv_aload_n C.x C.b dX2_collect_134 rfl (lv_at hl 3 rfl) ?_
              refine lv_iload C.x C.b dX2_collect_135 (lv_at hl 0 rfl) ?_
              refine lv_aload_n C.x C.b dX2_collect_137 rfl (lv_at hl 4 rfl) ?_
              have hb32 : (M 3 n1 0).toNatClampNeg < jnb M := G.1.2.2 _ (by omega)
              refine jr_get C G jc3 0 (v := .ref (g 0 ((M 3 n1 0).toNatClampNeg))) (show n1 < 20 by omega) (by decide) (by decide) rfl wd205 dX2_collect_138 ?_
              refine jr_get C G jc0 0 (v := .ref (g 20 ((M 3 n1 0).toNatClampNeg))) (show (M 3 n1 0).toNatClampNeg < jnb M by omega) (by decide) (by decide) rfl wd156 dX2_collect_141 ?_
              refine lv_iload_n C.x C.b dX2_collect_144 rfl (lv_at hl 6 rfl) ?_
              obtain ⟨hs, h⟩ := h
              refine jr_ald C G (show (M 3 n1 0).toNatClampNeg < jnb M by omega) (by decide) (by decide) (by decide) rfl rfl hs dX2_collect_145 ?_
              refine lv_aload_n C.x C.b dX2_collect_146 rfl (lv_at hl 5 rfl) ?_
              have hb33 : (M 3 n2 0).toNatClampNeg < jnb M := G.1.2.2 _ (by omega)
              refine jr_get C G jc3 0 (v := .ref (g 0 ((M 3 n2 0).toNatClampNeg))) (show n2 < 20 by omega) (by decide) (by decide) rfl wd205 dX2_collect_147 ?_
              refine jr_get C G jc0 0 (v := .ref (g 20 ((M 3 n2 0).toNatClampNeg))) (show (M 3 n2 0).toNatClampNeg < jnb M by omega) (by decide) (by decide) rfl wd156 dX2_collect_150 ?_
              refine lv_iload C.x C.b dX2_collect_153 (lv_at hl 7 rfl) ?_
              obtain ⟨hs, h⟩ := h
              refine jr_ald C G (show (M 3 n2 0).toNatClampNeg < jnb M by omega) (by decide) (by decide) (by decide) rfl rfl hs dX2_collect_155 ?_
              refine jr_V (d' := 2) C G jc2 jm_X2_add wd947 h rfl (show 0 < 1 by decide) (by decide) rfl rfl (by omega) (by decide) (by decide) ⟨rfl, rfl⟩ hl.1 (Nat.le_of_ble_eq_true rfl) dX2_collect_156 (fun r34 r34n M35 H locs h G => ?_)
              obtain ⟨nM35, h⟩ := h
              refine lv_iinc (v := v4 + 1) (lv' := [(4, .int (v4 + 1)), (7, .int 1), (6, .int (M 21 ((M 3 n2 0).toNatClampNeg) v4.toNatClampNeg)), (5, .int (M 21 ((M 3 n1 0).toNatClampNeg) v3.toNatClampNeg)), (0, .ref (g 2 0)), (1, .ref (g 3 n1)), (2, .ref (g 3 n2)), (3, .int v3)]) C.x C.b dX2_collect_159 hl (k := 7) rfl rfl (by decide) rfl (fun ls hl => ?_)
              refine lv_goto (tgt := 34) C.x C.b dX2_collect_162 (by decide) ?_
              exact h p l e s m args below meth c D cA base g C hr htb _ _ G ls (lv_sub hl [4, 5, 6, 7, 0] rfl)

theorem en_X4_iterate {n0 : Nat} {v1 : Int32} {n2 : Nat} {v3 : Int32} {M : jM} {Q : Int32 → Nat → jM → Prop} (h : at_X4_iterate_0 n0 v1 n2 v3 M Q) : ok_X4_iterate n0 v1 n2 v3 M Q := jr_enter (by decide) (fun g => rfl) (fun g => Nat.le_of_ble_eq_true rfl) h
set_option maxHeartbeats 4000000 in
set_option maxRecDepth 100000 in
theorem bl_X4_iterate_0 (n0 : Nat) (v1 : Int32) (n2 : Nat) (v3 : Int32) (M : jM) (Q : Int32 → Nat → jM → Prop) (ha0 : n0 < 4) (ha1 : n2 < jnb M)
  (h : at_X4_iterate_3 n0 n2 v3 0 M Q) :
  at_X4_iterate_0 n0 v1 n2 v3 M Q := by
  intro p l e s m args below meth c D cA base g C hr htb H locs G ls hl
  refine lv_iconst (v := 0) C.x C.b dX4_iterate_0 (by decide) ?_
  refine lv_istore (lv' := [(4, .int 0), (0, .ref (g 4 n0)), (1, .int v1), (2, .ref (g 0 n2)), (3, .int v3)]) C.x C.b dX4_iterate_1 hl (by decide) rfl (fun ls hl => ?_)
  exact h p l e s m args below meth c D cA base g C hr htb _ _ G ls (lv_sub hl [1, 3, 4, 0] rfl)
set_option maxHeartbeats 4000000 in
set_option maxRecDepth 100000 in
theorem bl_X4_iterate_3 (n0 : Nat) (n2 : Nat) (v3 : Int32) (v4 : Int32) (M : jM) (Q : Int32 → Nat → jM → Prop) (ha0 : n0 < 4) (ha1 : n2 < jnb M)
  (h : ((M 0 n2 7) ≤ v4 → Q 0 0 M) ∧ (¬ ((M 0 n2 7) ≤ v4) → (4 ≤ v4 → Q 0 0 M) ∧ (¬ (4 ≤ v4) → vp_in v4 4 ∧ ok_X4_evaluate n0 n2 (4 * n2 + v4.toNatClampNeg) v3 M (fun r2 _ M3 => jnb M3 = jnb M ∧ (((M3 7 (4 * n2 + v4.toNatClampNeg) 5) + v3) < 0 → at_X4_iterate_3 n0 n2 v3 (v4 + 1) M3 Q) ∧ (¬ (((M3 7 (4 * n2 + v4.toNatClampNeg) 5) + v3) < 0) → (245 ≤ ((M3 7 (4 * n2 + v4.toNatClampNeg) 5) + v3) → at_X4_iterate_3 n0 n2 v3 (v4 + 1) M3 Q) ∧ (¬ (245 ≤ ((M3 7 (4 * n2 + v4.toNatClampNeg) 5) + v3)) → vp_in ((M3 7 (4 * n2 + v4.toNatClampNeg) 5) + v3) 245 ∧ (∀ M4 : jM, M4 = jup M3 33 n0 ((M3 7 (4 * n2 + v4.toNatClampNeg) 5) + v3).toNatClampNeg r2 → at_X4_iterate_3 n0 n2 v3 (v4 + 1) M4 Q))))))) :
  at_X4_iterate_3 n0 n2 v3 v4 M Q := by
  intro p l e s m args below meth c D cA base g C hr htb H locs G ls hl
  refine lv_iload C.x C.b dX4_iterate_3 (lv_at hl 3 rfl) ?_
  refine lv_aload_n C.x C.b dX4_iterate_5 rfl (lv_at hl 1 rfl) ?_
  refine jr_get C G jc0 7 (v := .int (M 0 n2 7)) (show n2 < jnb M by omega) (by decide) (by decide) rfl wd177 dX4_iterate_6 ?_
  refine lv_icmp_ge (tgt := 74) C.x C.b dX4_iterate_9 (by decide) (fun hc => ?_) (fun hc => ?_)
  · have h := h.1 hc
    exact jr_retV C hr G h (by decide) (by decide) dX4_iterate_74
  · have h := h.2 hc
    refine lv_iload C.x C.b dX4_iterate_12 (lv_at hl 3 rfl) ?_
    refine lv_iconst (v := 4) C.x C.b dX4_iterate_14 (by decide) ?_
    refine lv_icmp_ge (tgt := 74) C.x C.b dX4_iterate_15 (by decide) (fun hc => ?_) (fun hc => ?_)
    · have h := h.1 hc
      exact jr_retV C hr G h (by decide) (by decide) dX4_iterate_74
    · have h := h.2 hc
      refine lv_aload_n C.x C.b dX4_iterate_18 rfl (lv_at hl 1 rfl) ?_
      refine jr_get C G jc0 3 (v := .ref (g 23 n2)) (show n2 < jnb M by omega) (by decide) (by decide) rfl wd166 dX4_iterate_19 ?_
      refine lv_iload C.x C.b dX4_iterate_22 (lv_at hl 3 rfl) ?_
      obtain ⟨hs, h⟩ := h
      have hj1 := vp_lt hs
      refine jr_aald C G (R := 23) (R' := 7) (i' := 4 * n2 + v4.toNatClampNeg) (show n2 < jnb M by omega) (by decide) (by decide) (by decide) rfl rfl hs rfl dX4_iterate_24 ?_
      refine lv_astore (lv' := [(5, .ref (g 7 (4 * n2 + v4.toNatClampNeg))), (0, .ref (g 4 n0)), (2, .ref (g 0 n2)), (3, .int v3), (4, .int v4)]) C.x C.b dX4_iterate_25 hl (by decide) rfl (fun ls hl => ?_)
      refine lv_aload_n C.x C.b dX4_iterate_27 rfl (lv_at hl 1 rfl) ?_
      refine lv_aload_n C.x C.b dX4_iterate_28 rfl (lv_at hl 2 rfl) ?_
      refine lv_aload C.x C.b dX4_iterate_29 (lv_at hl 0 rfl) ?_
      refine lv_iload_n C.x C.b dX4_iterate_31 rfl (lv_at hl 3 rfl) ?_
      refine jr_V (d' := 2) C G jc4 jm_X4_evaluate wd1062 h rfl (show n0 < 4 by omega) (by decide) rfl rfl (by omega) (by decide) (by decide) ⟨rfl, rfl⟩ hl.1 (Nat.le_of_ble_eq_true rfl) dX4_iterate_32 (fun r2 r2n M3 H locs h G => ?_)
      obtain ⟨nM3, h⟩ := h
      refine lv_istore (lv' := [(6, .int r2), (5, .ref (g 7 (4 * n2 + v4.toNatClampNeg))), (0, .ref (g 4 n0)), (2, .ref (g 0 n2)), (3, .int v3), (4, .int v4)]) C.x C.b dX4_iterate_35 hl (by decide) rfl (fun ls hl => ?_)
      refine lv_aload C.x C.b dX4_iterate_37 (lv_at hl 1 rfl) ?_
      refine jr_get C G jc7 5 (v := .int (M3 7 (4 * n2 + v4.toNatClampNeg) 5)) (show 4 * n2 + v4.toNatClampNeg < 4 * jnb M3 by omega) (by decide) (by decide) rfl wd137 dX4_iterate_39 ?_
      refine lv_iload_n C.x C.b dX4_iterate_42 rfl (lv_at hl 4 rfl) ?_
      refine lv_iadd C.x C.b dX4_iterate_43 ?_
      refine lv_istore (lv' := [(7, .int ((M3 7 (4 * n2 + v4.toNatClampNeg) 5) + v3)), (6, .int r2), (5, .ref (g 7 (4 * n2 + v4.toNatClampNeg))), (0, .ref (g 4 n0)), (2, .ref (g 0 n2)), (3, .int v3), (4, .int v4)]) C.x C.b dX4_iterate_44 hl (by decide) rfl (fun ls hl => ?_)
      refine lv_iload C.x C.b dX4_iterate_46 (lv_at hl 0 rfl) ?_
      refine lv_if_lt (tgt := 68) C.x C.b dX4_iterate_48 (by decide) (fun hc => ?_) (fun hc => ?_)
      · have h := h.1 hc
        refine lv_iinc (v := v4 + 1) (lv' := [(4, .int (v4 + 1)), (7, .int ((M3 7 (4 * n2 + v4.toNatClampNeg) 5) + v3)), (6, .int r2), (5, .ref (g 7 (4 * n2 + v4.toNatClampNeg))), (0, .ref (g 4 n0)), (2, .ref (g 0 n2)), (3, .int v3)]) C.x C.b dX4_iterate_68 hl (k := 6) rfl rfl (by decide) rfl (fun ls hl => ?_)
        refine lv_goto (tgt := 3) C.x C.b dX4_iterate_71 (by decide) ?_
        exact h p l e s m args below meth c D cA base g C hr htb _ _ G ls (lv_sub hl [4, 5, 6, 0] rfl)
      · have h := h.2 hc
        refine lv_iload C.x C.b dX4_iterate_51 (lv_at hl 0 rfl) ?_
        refine lv_sipush (v := 245) C.x C.b dX4_iterate_53 (by decide) ?_
        refine lv_icmp_ge (tgt := 68) C.x C.b dX4_iterate_56 (by decide) (fun hc => ?_) (fun hc => ?_)
        · have h := h.1 hc
          refine lv_iinc (v := v4 + 1) (lv' := [(4, .int (v4 + 1)), (7, .int ((M3 7 (4 * n2 + v4.toNatClampNeg) 5) + v3)), (6, .int r2), (5, .ref (g 7 (4 * n2 + v4.toNatClampNeg))), (0, .ref (g 4 n0)), (2, .ref (g 0 n2)), (3, .int v3)]) C.x C.b dX4_iterate_68 hl (k := 6) rfl rfl (by decide) rfl (fun ls hl => ?_)
          refine lv_goto (tgt := 3) C.x C.b dX4_iterate_71 (by decide) ?_
          exact h p l e s m args below meth c D cA base g C hr htb _ _ G ls (lv_sub hl [4, 5, 6, 0] rfl)
        · have h := h.2 hc
          refine lv_aload_n C.x C.b dX4_iterate_59 rfl (lv_at hl 3 rfl) ?_
          refine jr_get C G jc4 0 (v := .ref (g 33 n0)) (show n0 < 4 by omega) (by decide) (by decide) rfl wd399 dX4_iterate_60 ?_
          refine lv_iload C.x C.b dX4_iterate_63 (lv_at hl 0 rfl) ?_
          refine lv_iload C.x C.b dX4_iterate_65 (lv_at hl 1 rfl) ?_
          obtain ⟨hs, h⟩ := h
          refine jr_ast C G (show n0 < 4 by omega) (by decide) (by decide) (by decide) rfl rfl hs dX4_iterate_67 (fun H locs G => ?_)
          obtain ⟨M4, eM4⟩ : ∃ z : jM, z = jup M3 33 n0 ((M3 7 (4 * n2 + v4.toNatClampNeg) 5) + v3).toNatClampNeg r2 := ⟨_, rfl⟩
          rw [← eM4] at G
          have h := h M4 eM4
          have nM4 : jnb M4 = jnb M3 := by rw [eM4]; exact jnb_up (by decide)
          refine lv_iinc (v := v4 + 1) (lv' := [(4, .int (v4 + 1)), (7, .int ((M3 7 (4 * n2 + v4.toNatClampNeg) 5) + v3)), (6, .int r2), (5, .ref (g 7 (4 * n2 + v4.toNatClampNeg))), (0, .ref (g 4 n0)), (2, .ref (g 0 n2)), (3, .int v3)]) C.x C.b dX4_iterate_68 hl (k := 6) rfl rfl (by decide) rfl (fun ls hl => ?_)
          refine lv_goto (tgt := 3) C.x C.b dX4_iterate_71 (by decide) ?_
          exact h p l e s m args below meth c D cA base g C hr htb _ _ G ls (lv_sub hl [4, 5, 6, 0] rfl)

theorem en_X1_refresh  {M : jM} {Q : Int32 → Nat → jM → Prop} (h : at_X1_refresh_0  M Q) : ok_X1_refresh  M Q := jr_enter (by decide) (fun g => rfl) (fun g => Nat.le_of_ble_eq_true rfl) h
set_option maxHeartbeats 4000000 in
set_option maxRecDepth 100000 in
theorem bl_X1_refresh_0  (M : jM) (Q : Int32 → Nat → jM → Prop) 
  (h : (M 1 0 4 = (M 6 0 3) → Q 0 0 M) ∧ (¬ (M 1 0 4 = (M 6 0 3)) → at_X1_refresh_17 0 M Q)) :
  at_X1_refresh_0  M Q := by
  intro p l e s m args below meth c D cA base g C hr htb H locs G ls hl
  refine lv_aload_n C.x C.b dX1_refresh_0 rfl (lv_at hl 0 rfl) ?_
  refine jr_get C G jc1 4 (v := .int (M 1 0 4)) (show 0 < 1 by decide) (by decide) (by decide) rfl wd333 dX1_refresh_1 ?_
  refine lv_aload_n C.x C.b dX1_refresh_4 rfl (lv_at hl 0 rfl) ?_
  refine jr_get C G jc1 0 (v := .ref (g 6 0)) (show 0 < 1 by decide) (by decide) (by decide) rfl wd328 dX1_refresh_5 ?_
  refine jr_get C G jc6 3 (v := .int (M 6 0 3)) (show 0 < 2 by decide) (by decide) (by decide) rfl wd278 dX1_refresh_8 ?_
  refine lv_icmp_ne (tgt := 15) C.x C.b dX1_refresh_11 (by decide) (fun hc => ?_) (fun hc => ?_)
  · have h := h.2 hc
    refine lv_iconst (v := 0) C.x C.b dX1_refresh_15 (by decide) ?_
    refine lv_istore_n (lv' := [(1, .int 0), (0, .ref (g 1 0))]) C.x C.b dX1_refresh_16 rfl hl (by decide) rfl (fun ls hl => ?_)
    exact h p l e s m args below meth c D cA base g C hr htb _ _ G ls (lv_sub hl [1, 0] rfl)
  · have h := h.1 hc
    exact jr_retV C hr G h (by decide) (by decide) dX1_refresh_14
set_option maxHeartbeats 4000000 in
set_option maxRecDepth 100000 in
theorem bl_X1_refresh_17 (v1 : Int32) (M : jM) (Q : Int32 → Nat → jM → Prop) 
  (h : ((M 6 0 2) ≤ v1 → (∀ M1 : jM, M1 = jup M 1 0 4 (M 6 0 3) → Q 0 0 M1)) ∧ (¬ ((M 6 0 2) ≤ v1) → (6 ≤ v1 → (∀ M2 : jM, M2 = jup M 1 0 4 (M 6 0 3) → Q 0 0 M2)) ∧ (¬ (6 ≤ v1) → at_X1_refresh_36 v1 0 M Q))) :
  at_X1_refresh_17 v1 M Q := by
  intro p l e s m args below meth c D cA base g C hr htb H locs G ls hl
  refine lv_iload_n C.x C.b dX1_refresh_17 rfl (lv_at hl 1 rfl) ?_
  refine lv_aload_n C.x C.b dX1_refresh_18 rfl (lv_at hl 0 rfl) ?_
  refine jr_get C G jc1 0 (v := .ref (g 6 0)) (show 0 < 1 by decide) (by decide) (by decide) rfl wd328 dX1_refresh_19 ?_
  refine jr_get C G jc6 2 (v := .int (M 6 0 2)) (show 0 < 2 by decide) (by decide) (by decide) rfl wd275 dX1_refresh_22 ?_
  refine lv_icmp_ge (tgt := 93) C.x C.b dX1_refresh_25 (by decide) (fun hc => ?_) (fun hc => ?_)
  · have h := h.1 hc
    refine lv_aload_n C.x C.b dX1_refresh_93 rfl (lv_at hl 0 rfl) ?_
    refine lv_aload_n C.x C.b dX1_refresh_94 rfl (lv_at hl 0 rfl) ?_
    refine jr_get C G jc1 0 (v := .ref (g 6 0)) (show 0 < 1 by decide) (by decide) (by decide) rfl wd328 dX1_refresh_95 ?_
    refine jr_get C G jc6 3 (v := .int (M 6 0 3)) (show 0 < 2 by decide) (by decide) (by decide) rfl wd278 dX1_refresh_98 ?_
    refine jr_put C G jc1 4 (v := M 6 0 3) (show 0 < 1 by decide) (by decide) (by decide) rfl (by decide) wd333 rfl rfl rfl rfl dX1_refresh_101 (fun H locs G => ?_)
    obtain ⟨M1, eM1⟩ : ∃ z : jM, z = jup M 1 0 4 (M 6 0 3) := ⟨_, rfl⟩
    rw [← eM1] at G
    have h := h M1 eM1
    have nM1 : jnb M1 = jnb M := by rw [eM1]; exact jnb_up (by decide)
    exact jr_retV C hr G h (by decide) (by decide) dX1_refresh_104
  · have h := h.2 hc
    refine lv_iload_n C.x C.b dX1_refresh_28 rfl (lv_at hl 1 rfl) ?_
    refine lv_bipush (v := 6) C.x C.b dX1_refresh_29 (by decide) ?_
    refine lv_icmp_ge (tgt := 93) C.x C.b dX1_refresh_31 (by decide) (fun hc => ?_) (fun hc => ?_)
    · have h := h.1 hc
      refine lv_aload_n C.x C.b dX1_refresh_93 rfl (lv_at hl 0 rfl) ?_
      refine lv_aload_n C.x C.b dX1_refresh_94 rfl (lv_at hl 0 rfl) ?_
      refine jr_get C G jc1 0 (v := .ref (g 6 0)) (show 0 < 1 by decide) (by decide) (by decide) rfl wd328 dX1_refresh_95 ?_
      refine jr_get C G jc6 3 (v := .int (M 6 0 3)) (show 0 < 2 by decide) (by decide) (by decide) rfl wd278 dX1_refresh_98 ?_
      refine jr_put C G jc1 4 (v := M 6 0 3) (show 0 < 1 by decide) (by decide) (by decide) rfl (by decide) wd333 rfl rfl rfl rfl dX1_refresh_101 (fun H locs G => ?_)
      obtain ⟨M2, eM2⟩ : ∃ z : jM, z = jup M 1 0 4 (M 6 0 3) := ⟨_, rfl⟩
      rw [← eM2] at G
      have h := h M2 eM2
      have nM2 : jnb M2 = jnb M := by rw [eM2]; exact jnb_up (by decide)
      exact jr_retV C hr G h (by decide) (by decide) dX1_refresh_104
    · have h := h.2 hc
      refine lv_iconst (v := 0) C.x C.b dX1_refresh_34 (by decide) ?_
      refine lv_istore_n (lv' := [(2, .int 0), (0, .ref (g 1 0)), (1, .int v1)]) C.x C.b dX1_refresh_35 rfl hl (by decide) rfl (fun ls hl => ?_)
      exact h p l e s m args below meth c D cA base g C hr htb _ _ G ls (lv_sub hl [1, 2, 0] rfl)
set_option maxHeartbeats 4000000 in
set_option maxRecDepth 100000 in
theorem bl_X1_refresh_36 (v1 : Int32) (v2 : Int32) (M : jM) (Q : Int32 → Nat → jM → Prop) 
  (h : (v1 ≤ v2 → at_X1_refresh_17 (v1 + 1) M Q) ∧ (¬ (v1 ≤ v2) → vp_in v2 6 ∧ vp_in v1 6 ∧ ok_X2_collect (6 * 0 + v2.toNatClampNeg) (6 * 0 + v1.toNatClampNeg) M (fun _ _ M4 => jnb M4 = jnb M ∧ vp_in v2 6 ∧ vp_in v1 6 ∧ (∀ M6 : jM, M6 = jup M4 29 (v2.toNatClampNeg) v1.toNatClampNeg (M4 2 0 4) → at_X1_refresh_36 v1 (v2 + 1) M6 Q)))) :
  at_X1_refresh_36 v1 v2 M Q := by
  intro p l e s m args below meth c D cA base g C hr htb H locs G ls hl
  refine lv_iload_n C.x C.b dX1_refresh_36 rfl (lv_at hl 2 rfl) ?_
  refine lv_iload_n C.x C.b dX1_refresh_37 rfl (lv_at hl 1 rfl) ?_
  refine lv_icmp_ge (tgt := 87) C.x C.b dX1_refresh_38 (by decide) (fun hc => ?_) (fun hc => ?_)
  · have h := h.1 hc
    refine lv_iinc (v := v1 + 1) (lv' := [(1, .int (v1 + 1)), (0, .ref (g 1 0)), (2, .int v2)]) C.x C.b dX1_refresh_87 hl (k := 1) rfl rfl (by decide) rfl (fun ls hl => ?_)
    refine lv_goto (tgt := 17) C.x C.b dX1_refresh_90 (by decide) ?_
    exact h p l e s m args below meth c D cA base g C hr htb _ _ G ls (lv_sub hl [1, 0] rfl)
  · have h := h.2 hc
    refine lv_aload_n C.x C.b dX1_refresh_41 rfl (lv_at hl 0 rfl) ?_
    refine jr_get C G jc1 1 (v := .ref (g 2 0)) (show 0 < 1 by decide) (by decide) (by decide) rfl wd329 dX1_refresh_42 ?_
    refine lv_aload_n C.x C.b dX1_refresh_45 rfl (lv_at hl 0 rfl) ?_
    refine jr_get C G jc1 0 (v := .ref (g 6 0)) (show 0 < 1 by decide) (by decide) (by decide) rfl wd328 dX1_refresh_46 ?_
    refine jr_get C G jc6 0 (v := .ref (g 39 0)) (show 0 < 2 by decide) (by decide) (by decide) rfl wd268 dX1_refresh_49 ?_
    refine lv_iload_n C.x C.b dX1_refresh_52 rfl (lv_at hl 2 rfl) ?_
    obtain ⟨hs, h⟩ := h
    have hj1 := vp_lt hs
    refine jr_aald C G (R := 39) (R' := 3) (i' := 6 * 0 + v2.toNatClampNeg) (show 0 < 2 by decide) (by decide) (by decide) (by decide) rfl rfl hs rfl dX1_refresh_53 ?_
    refine lv_aload_n C.x C.b dX1_refresh_54 rfl (lv_at hl 0 rfl) ?_
    refine jr_get C G jc1 0 (v := .ref (g 6 0)) (show 0 < 1 by decide) (by decide) (by decide) rfl wd328 dX1_refresh_55 ?_
    refine jr_get C G jc6 0 (v := .ref (g 39 0)) (show 0 < 2 by decide) (by decide) (by decide) rfl wd268 dX1_refresh_58 ?_
    refine lv_iload_n C.x C.b dX1_refresh_61 rfl (lv_at hl 1 rfl) ?_
    obtain ⟨hs, h⟩ := h
    have hj2 := vp_lt hs
    refine jr_aald C G (R := 39) (R' := 3) (i' := 6 * 0 + v1.toNatClampNeg) (show 0 < 2 by decide) (by decide) (by decide) (by decide) rfl rfl hs rfl dX1_refresh_62 ?_
    refine jr_V (d' := 3) C G jc2 jm_X2_collect wd1001 h rfl (show 0 < 1 by decide) (by decide) rfl rfl (by omega) (by decide) (by decide) ⟨rfl, rfl⟩ hl.1 (Nat.le_of_ble_eq_true rfl) dX1_refresh_63 (fun r3 r3n M4 H locs h G => ?_)
    obtain ⟨nM4, h⟩ := h
    refine lv_aload_n C.x C.b dX1_refresh_66 rfl (lv_at hl 0 rfl) ?_
    refine jr_get C G jc1 3 (v := .ref (g 28 0)) (show 0 < 1 by decide) (by decide) (by decide) rfl wd332 dX1_refresh_67 ?_
    refine lv_iload_n C.x C.b dX1_refresh_70 rfl (lv_at hl 2 rfl) ?_
    obtain ⟨hs, h⟩ := h
    have hj5 := vp_lt hs
    refine jr_aald C G (R := 28) (R' := 29) (i' := v2.toNatClampNeg) (show 0 < 1 by decide) (by decide) (by decide) (by decide) rfl rfl hs rfl dX1_refresh_71 ?_
    refine lv_iload_n C.x C.b dX1_refresh_72 rfl (lv_at hl 1 rfl) ?_
    refine lv_aload_n C.x C.b dX1_refresh_73 rfl (lv_at hl 0 rfl) ?_
    refine jr_get C G jc1 1 (v := .ref (g 2 0)) (show 0 < 1 by decide) (by decide) (by decide) rfl wd329 dX1_refresh_74 ?_
    refine jr_get C G jc2 4 (v := .int (M4 2 0 4)) (show 0 < 1 by decide) (by decide) (by decide) rfl wd307 dX1_refresh_77 ?_
    obtain ⟨hs, h⟩ := h
    refine jr_ast C G (show v2.toNatClampNeg < 6 by omega) (by decide) (by decide) (by decide) rfl rfl hs dX1_refresh_80 (fun H locs G => ?_)
    obtain ⟨M6, eM6⟩ : ∃ z : jM, z = jup M4 29 (v2.toNatClampNeg) v1.toNatClampNeg (M4 2 0 4) := ⟨_, rfl⟩
    rw [← eM6] at G
    have h := h M6 eM6
    have nM6 : jnb M6 = jnb M4 := by rw [eM6]; exact jnb_up (by decide)
    refine lv_iinc (v := v2 + 1) (lv' := [(2, .int (v2 + 1)), (0, .ref (g 1 0)), (1, .int v1)]) C.x C.b dX1_refresh_81 hl (k := 2) rfl rfl (by decide) rfl (fun ls hl => ?_)
    refine lv_goto (tgt := 36) C.x C.b dX1_refresh_84 (by decide) ?_
    exact h p l e s m args below meth c D cA base g C hr htb _ _ G ls (lv_sub hl [1, 2, 0] rfl)

theorem en_X1_longest {v1 : Int32} {M : jM} {Q : Int32 → Nat → jM → Prop} (h : at_X1_longest_0 v1 M Q) : ok_X1_longest v1 M Q := jr_enter (by decide) (fun g => rfl) (fun g => Nat.le_of_ble_eq_true rfl) h
set_option maxHeartbeats 4000000 in
set_option maxRecDepth 100000 in
theorem bl_X1_longest_0 (v1 : Int32) (M : jM) (Q : Int32 → Nat → jM → Prop) 
  (h : ok_X1_take v1 ((M 6 0 2) - 1) M (fun _ _ M2 => jnb M2 = jnb M ∧ at_X1_longest_23 1 ((M2 1 0 5) + 1) M2 Q)) :
  at_X1_longest_0 v1 M Q := by
  intro p l e s m args below meth c D cA base g C hr htb H locs G ls hl
  refine lv_aload_n C.x C.b dX1_longest_0 rfl (lv_at hl 0 rfl) ?_
  refine lv_iload_n C.x C.b dX1_longest_1 rfl (lv_at hl 1 rfl) ?_
  refine lv_aload_n C.x C.b dX1_longest_2 rfl (lv_at hl 0 rfl) ?_
  refine jr_get C G jc1 0 (v := .ref (g 6 0)) (show 0 < 1 by decide) (by decide) (by decide) rfl wd328 dX1_longest_3 ?_
  refine jr_get C G jc6 2 (v := .int (M 6 0 2)) (show 0 < 2 by decide) (by decide) (by decide) rfl wd275 dX1_longest_6 ?_
  refine lv_iconst (v := 1) C.x C.b dX1_longest_9 (by decide) ?_
  refine lv_isub C.x C.b dX1_longest_10 ?_
  refine jr_V (d' := 3) C G jc1 jm_X1_take wd1006 h rfl (show 0 < 1 by decide) (by decide) rfl rfl (by omega) (by decide) (by decide) ⟨rfl, rfl⟩ hl.1 (Nat.le_of_ble_eq_true rfl) dX1_longest_11 (fun r1 r1n M2 H locs h G => ?_)
  obtain ⟨nM2, h⟩ := h
  refine lv_iconst (v := 1) C.x C.b dX1_longest_14 (by decide) ?_
  refine lv_istore_n (lv' := [(2, .int 1), (0, .ref (g 1 0)), (1, .int v1)]) C.x C.b dX1_longest_15 rfl hl (by decide) rfl (fun ls hl => ?_)
  refine lv_aload_n C.x C.b dX1_longest_16 rfl (lv_at hl 1 rfl) ?_
  refine jr_get C G jc1 5 (v := .int (M2 1 0 5)) (show 0 < 1 by decide) (by decide) (by decide) rfl wd334 dX1_longest_17 ?_
  refine lv_iconst (v := 1) C.x C.b dX1_longest_20 (by decide) ?_
  refine lv_iadd C.x C.b dX1_longest_21 ?_
  refine lv_istore_n (lv' := [(3, .int ((M2 1 0 5) + 1)), (2, .int 1), (0, .ref (g 1 0)), (1, .int v1)]) C.x C.b dX1_longest_22 rfl hl (by decide) rfl (fun ls hl => ?_)
  exact h p l e s m args below meth c D cA base g C hr htb _ _ G ls (lv_sub hl [2, 1, 0] rfl)
set_option maxHeartbeats 4000000 in
set_option maxRecDepth 100000 in
theorem bl_X1_longest_23 (v2 : Int32) (v3 : Int32) (M : jM) (Q : Int32 → Nat → jM → Prop) 
  (h : ((M 1 0 6) < v3 → Q v2 0 M) ∧ (¬ ((M 1 0 6) < v3) → (6 ≤ v3 → Q v2 0 M) ∧ (¬ (6 ≤ v3) → vp_in v3 6 ∧ (M 3 (6 * 0 + v3.toNatClampNeg) 3 = 0 → vp_in v3 6 ∧ ((M 27 0 v3.toNatClampNeg) ≤ (M 40 0 (0 : Int32).toNatClampNeg) → at_X1_longest_23 (v2 + 1) (v3 + 1) M Q) ∧ (¬ ((M 27 0 v3.toNatClampNeg) ≤ (M 40 0 (0 : Int32).toNatClampNeg)) → Q v2 0 M)) ∧ (¬ (M 3 (6 * 0 + v3.toNatClampNeg) 3 = 0) → Q v2 0 M)))) :
  at_X1_longest_23 v2 v3 M Q := by
  intro p l e s m args below meth c D cA base g C hr htb H locs G ls hl
  refine lv_iload_n C.x C.b dX1_longest_23 rfl (lv_at hl 2 rfl) ?_
  refine lv_aload_n C.x C.b dX1_longest_24 rfl (lv_at hl 0 rfl) ?_
  refine jr_get C G jc1 6 (v := .int (M 1 0 6)) (show 0 < 1 by decide) (by decide) (by decide) rfl wd335 dX1_longest_25 ?_
  refine lv_icmp_gt (tgt := 81) C.x C.b dX1_longest_28 (by decide) (fun hc => ?_) (fun hc => ?_)
  · have h := h.1 hc
    refine lv_iload_n C.x C.b dX1_longest_81 rfl (lv_at hl 1 rfl) ?_
    exact jr_retI C hr G h (by decide) (by decide) dX1_longest_82
  · have h := h.2 hc
    refine lv_iload_n C.x C.b dX1_longest_31 rfl (lv_at hl 2 rfl) ?_
    refine lv_bipush (v := 6) C.x C.b dX1_longest_32 (by decide) ?_
    refine lv_icmp_ge (tgt := 81) C.x C.b dX1_longest_34 (by decide) (fun hc => ?_) (fun hc => ?_)
    · have h := h.1 hc
      refine lv_iload_n C.x C.b dX1_longest_81 rfl (lv_at hl 1 rfl) ?_
      exact jr_retI C hr G h (by decide) (by decide) dX1_longest_82
    · have h := h.2 hc
      refine lv_aload_n C.x C.b dX1_longest_37 rfl (lv_at hl 0 rfl) ?_
      refine jr_get C G jc1 0 (v := .ref (g 6 0)) (show 0 < 1 by decide) (by decide) (by decide) rfl wd328 dX1_longest_38 ?_
      refine jr_get C G jc6 0 (v := .ref (g 39 0)) (show 0 < 2 by decide) (by decide) (by decide) rfl wd268 dX1_longest_41 ?_
      refine lv_iload_n C.x C.b dX1_longest_44 rfl (lv_at hl 2 rfl) ?_
      obtain ⟨hs, h⟩ := h
      have hj1 := vp_lt hs
      refine jr_aald C G (R := 39) (R' := 3) (i' := 6 * 0 + v3.toNatClampNeg) (show 0 < 2 by decide) (by decide) (by decide) (by decide) rfl rfl hs rfl dX1_longest_45 ?_
      refine jr_get C G jc3 3 (v := .int (M 3 (6 * 0 + v3.toNatClampNeg) 3)) (show 6 * 0 + v3.toNatClampNeg < 20 by omega) (by decide) (by decide) rfl wd223 dX1_longest_46 ?_
      refine lv_if_ne (tgt := 70) C.x C.b dX1_longest_49 (by decide) (fun hc => ?_) (fun hc => ?_)
      · have h := h.2 hc
        refine lv_iload_n C.x C.b dX1_longest_70 rfl (lv_at hl 1 rfl) ?_
        exact jr_retI C hr G h (by decide) (by decide) dX1_longest_71
      · have h := h.1 hc
        refine lv_aload_n C.x C.b dX1_longest_52 rfl (lv_at hl 0 rfl) ?_
        refine jr_get C G jc1 2 (v := .ref (g 27 0)) (show 0 < 1 by decide) (by decide) (by decide) rfl wd330 dX1_longest_53 ?_
        refine lv_iload_n C.x C.b dX1_longest_56 rfl (lv_at hl 2 rfl) ?_
        obtain ⟨hs, h⟩ := h
        refine jr_ald C G (show 0 < 1 by decide) (by decide) (by decide) (by decide) rfl rfl hs dX1_longest_57 ?_
        refine lv_aload_n C.x C.b dX1_longest_58 rfl (lv_at hl 0 rfl) ?_
        refine jr_get C G jc1 0 (v := .ref (g 6 0)) (show 0 < 1 by decide) (by decide) (by decide) rfl wd328 dX1_longest_59 ?_
        refine jr_get C G jc6 1 (v := .ref (g 40 0)) (show 0 < 2 by decide) (by decide) (by decide) rfl wd272 dX1_longest_62 ?_
        refine lv_iconst (v := 0) C.x C.b dX1_longest_65 (by decide) ?_
        refine jr_ald C G (show 0 < 2 by decide) (by decide) (by decide) (by decide) rfl rfl (by unfold vp_in; decide) dX1_longest_66 ?_
        refine lv_icmp_le (tgt := 72) C.x C.b dX1_longest_67 (by decide) (fun hc => ?_) (fun hc => ?_)
        · have h := h.1 hc
          refine lv_iinc (v := v2 + 1) (lv' := [(2, .int (v2 + 1)), (0, .ref (g 1 0)), (3, .int v3)]) C.x C.b dX1_longest_72 hl (k := 1) rfl rfl (by decide) rfl (fun ls hl => ?_)
          refine lv_iinc (v := v3 + 1) (lv' := [(3, .int (v3 + 1)), (2, .int (v2 + 1)), (0, .ref (g 1 0))]) C.x C.b dX1_longest_75 hl (k := 2) rfl rfl (by decide) rfl (fun ls hl => ?_)
          refine lv_goto (tgt := 23) C.x C.b dX1_longest_78 (by decide) ?_
          exact h p l e s m args below meth c D cA base g C hr htb _ _ G ls (lv_sub hl [2, 1, 0] rfl)
        · have h := h.2 hc
          refine lv_iload_n C.x C.b dX1_longest_70 rfl (lv_at hl 1 rfl) ?_
          exact jr_retI C hr G h (by decide) (by decide) dX1_longest_71

theorem en_X1_perform_M {n1 : Nat} {M : jM} {Q : Int32 → Nat → jM → Prop} (h : at_X1_perform_M_0 n1 M Q) : ok_X1_perform_M n1 M Q := jr_enter (by decide) (fun g => rfl) (fun g => Nat.le_of_ble_eq_true rfl) h
set_option maxHeartbeats 4000000 in
set_option maxRecDepth 100000 in
theorem bl_X1_perform_M_0 (n1 : Nat) (M : jM) (Q : Int32 → Nat → jM → Prop) (ha0 : n1 < 4)
  (h : at_X1_perform_M_5 n1 (M 1 0 7) M Q) :
  at_X1_perform_M_0 n1 M Q := by
  intro p l e s m args below meth c D cA base g C hr htb H locs G ls hl
  refine lv_aload_n C.x C.b dX1_perform_0 rfl (lv_at hl 0 rfl) ?_
  refine jr_get C G jc1 7 (v := .int (M 1 0 7)) (show 0 < 1 by decide) (by decide) (by decide) rfl wd336 dX1_perform_1 ?_
  refine lv_istore_n (lv' := [(2, .int (M 1 0 7)), (0, .ref (g 1 0)), (1, .ref (g 4 n1))]) C.x C.b dX1_perform_4 rfl hl (by decide) rfl (fun ls hl => ?_)
  exact h p l e s m args below meth c D cA base g C hr htb _ _ G ls (lv_sub hl [1, 2, 0] rfl)
set_option maxHeartbeats 4000000 in
set_option maxRecDepth 100000 in
theorem bl_X1_perform_M_5 (n1 : Nat) (v2 : Int32) (M : jM) (Q : Int32 → Nat → jM → Prop) (ha0 : n1 < 4)
  (h : ((M 1 0 8) < v2 → Q 0 0 M) ∧ (¬ ((M 1 0 8) < v2) → at_X1_perform_M_18 n1 v2 (M 1 0 5) M Q)) :
  at_X1_perform_M_5 n1 v2 M Q := by
  intro p l e s m args below meth c D cA base g C hr htb H locs G ls hl
  refine lv_iload_n C.x C.b dX1_perform_5 rfl (lv_at hl 2 rfl) ?_
  refine lv_aload_n C.x C.b dX1_perform_6 rfl (lv_at hl 0 rfl) ?_
  refine jr_get C G jc1 8 (v := .int (M 1 0 8)) (show 0 < 1 by decide) (by decide) (by decide) rfl wd338 dX1_perform_7 ?_
  refine lv_icmp_gt (tgt := 89) C.x C.b dX1_perform_10 (by decide) (fun hc => ?_) (fun hc => ?_)
  · have h := h.1 hc
    exact jr_retV C hr G h (by decide) (by decide) dX1_perform_89
  · have h := h.2 hc
    refine lv_aload_n C.x C.b dX1_perform_13 rfl (lv_at hl 0 rfl) ?_
    refine jr_get C G jc1 5 (v := .int (M 1 0 5)) (show 0 < 1 by decide) (by decide) (by decide) rfl wd334 dX1_perform_14 ?_
    refine lv_istore_n (lv' := [(3, .int (M 1 0 5)), (0, .ref (g 1 0)), (1, .ref (g 4 n1)), (2, .int v2)]) C.x C.b dX1_perform_17 rfl hl (by decide) rfl (fun ls hl => ?_)
    exact h p l e s m args below meth c D cA base g C hr htb _ _ G ls (lv_sub hl [1, 2, 3, 0] rfl)
set_option maxHeartbeats 4000000 in
set_option maxRecDepth 100000 in
theorem bl_X1_perform_M_18 (n1 : Nat) (v2 : Int32) (v3 : Int32) (M : jM) (Q : Int32 → Nat → jM → Prop) (ha0 : n1 < 4)
  (h : ((M 1 0 6) < v3 → at_X1_perform_M_5 n1 (v2 + 1) M Q) ∧ (¬ ((M 1 0 6) < v3) → (6 ≤ v3 → at_X1_perform_M_5 n1 (v2 + 1) M Q) ∧ (¬ (6 ≤ v3) → vp_in v3 6 ∧ vp_in v3 6 ∧ ((M 3 (6 * 0 + v3.toNatClampNeg) 1 ≤ (v2 - (M 27 0 v3.toNatClampNeg)) ∧ (v2 - (M 27 0 v3.toNatClampNeg)) ≤ M 3 (6 * 0 + v3.toNatClampNeg) 2) → ok_X4_iterate n1 v2 ((M 3 (6 * 0 + v3.toNatClampNeg) 0).toNatClampNeg) (v2 - (M 27 0 v3.toNatClampNeg)) M (fun _ _ M6 => jnb M6 = jnb M ∧ at_X1_perform_M_18 n1 v2 (v3 + 1) M6 Q)) ∧ (¬ (M 3 (6 * 0 + v3.toNatClampNeg) 1 ≤ (v2 - (M 27 0 v3.toNatClampNeg)) ∧ (v2 - (M 27 0 v3.toNatClampNeg)) ≤ M 3 (6 * 0 + v3.toNatClampNeg) 2) → at_X1_perform_M_18 n1 v2 (v3 + 1) M Q)))) :
  at_X1_perform_M_18 n1 v2 v3 M Q := by
  intro p l e s m args below meth c D cA base g C hr htb H locs G ls hl
  refine lv_iload_n C.x C.b dX1_perform_18 rfl (lv_at hl 3 rfl) ?_
  refine lv_aload_n C.x C.b dX1_perform_19 rfl (lv_at hl 0 rfl) ?_
  refine jr_get C G jc1 6 (v := .int (M 1 0 6)) (show 0 < 1 by decide) (by decide) (by decide) rfl wd335 dX1_perform_20 ?_
  refine lv_icmp_gt (tgt := 83) C.x C.b dX1_perform_23 (by decide) (fun hc => ?_) (fun hc => ?_)
  · have h := h.1 hc
    refine lv_iinc (v := v2 + 1) (lv' := [(2, .int (v2 + 1)), (0, .ref (g 1 0)), (1, .ref (g 4 n1)), (3, .int v3)]) C.x C.b dX1_perform_83 hl (k := 2) rfl rfl (by decide) rfl (fun ls hl => ?_)
    refine lv_goto (tgt := 5) C.x C.b dX1_perform_86 (by decide) ?_
    exact h p l e s m args below meth c D cA base g C hr htb _ _ G ls (lv_sub hl [1, 2, 0] rfl)
  · have h := h.2 hc
    refine lv_iload_n C.x C.b dX1_perform_26 rfl (lv_at hl 3 rfl) ?_
    refine lv_bipush (v := 6) C.x C.b dX1_perform_27 (by decide) ?_
    refine lv_icmp_ge (tgt := 83) C.x C.b dX1_perform_29 (by decide) (fun hc => ?_) (fun hc => ?_)
    · have h := h.1 hc
      refine lv_iinc (v := v2 + 1) (lv' := [(2, .int (v2 + 1)), (0, .ref (g 1 0)), (1, .ref (g 4 n1)), (3, .int v3)]) C.x C.b dX1_perform_83 hl (k := 2) rfl rfl (by decide) rfl (fun ls hl => ?_)
      refine lv_goto (tgt := 5) C.x C.b dX1_perform_86 (by decide) ?_
      exact h p l e s m args below meth c D cA base g C hr htb _ _ G ls (lv_sub hl [1, 2, 0] rfl)
    · have h := h.2 hc
      refine lv_aload_n C.x C.b dX1_perform_32 rfl (lv_at hl 0 rfl) ?_
      refine jr_get C G jc1 0 (v := .ref (g 6 0)) (show 0 < 1 by decide) (by decide) (by decide) rfl wd328 dX1_perform_33 ?_
      refine jr_get C G jc6 0 (v := .ref (g 39 0)) (show 0 < 2 by decide) (by decide) (by decide) rfl wd268 dX1_perform_36 ?_
      refine lv_iload_n C.x C.b dX1_perform_39 rfl (lv_at hl 3 rfl) ?_
      obtain ⟨hs, h⟩ := h
      have hj1 := vp_lt hs
      refine jr_aald C G (R := 39) (R' := 3) (i' := 6 * 0 + v3.toNatClampNeg) (show 0 < 2 by decide) (by decide) (by decide) (by decide) rfl rfl hs rfl dX1_perform_40 ?_
      refine lv_astore (lv' := [(4, .ref (g 3 (6 * 0 + v3.toNatClampNeg))), (0, .ref (g 1 0)), (1, .ref (g 4 n1)), (2, .int v2), (3, .int v3)]) C.x C.b dX1_perform_41 hl (by decide) rfl (fun ls hl => ?_)
      refine lv_iload_n C.x C.b dX1_perform_43 rfl (lv_at hl 3 rfl) ?_
      refine lv_aload_n C.x C.b dX1_perform_44 rfl (lv_at hl 1 rfl) ?_
      refine jr_get C G jc1 2 (v := .ref (g 27 0)) (show 0 < 1 by decide) (by decide) (by decide) rfl wd330 dX1_perform_45 ?_
      refine lv_iload_n C.x C.b dX1_perform_48 rfl (lv_at hl 4 rfl) ?_
      obtain ⟨hs, h⟩ := h
      refine jr_ald C G (show 0 < 1 by decide) (by decide) (by decide) (by decide) rfl rfl hs dX1_perform_49 ?_
      refine lv_isub C.x C.b dX1_perform_50 ?_
      refine lv_istore (lv' := [(5, .int (v2 - (M 27 0 v3.toNatClampNeg))), (4, .ref (g 3 (6 * 0 + v3.toNatClampNeg))), (0, .ref (g 1 0)), (1, .ref (g 4 n1)), (2, .int v2), (3, .int v3)]) C.x C.b dX1_perform_51 hl (by decide) rfl (fun ls hl => ?_)
      refine lv_aload C.x C.b dX1_perform_53 (lv_at hl 1 rfl) ?_
      refine lv_iload C.x C.b dX1_perform_55 (lv_at hl 0 rfl) ?_
      refine jr_V (d' := 3) C G jc3 jm_X3_hasIteration wd1051 (sp_X3_hasIteration (show 6 * 0 + v3.toNatClampNeg < 20 by omega) ⟨rfl, rfl⟩ : ok_X3_hasIteration (6 * 0 + v3.toNatClampNeg) (v2 - (M 27 0 v3.toNatClampNeg)) M (fun r _ M' => jb (M 3 (6 * 0 + v3.toNatClampNeg) 1 ≤ (v2 - (M 27 0 v3.toNatClampNeg)) ∧ (v2 - (M 27 0 v3.toNatClampNeg)) ≤ M 3 (6 * 0 + v3.toNatClampNeg) 2) = r ∧ M = M')) rfl (show 6 * 0 + v3.toNatClampNeg < 20 by omega) (by decide) rfl rfl (by omega) (by decide) (by decide) ⟨rfl, rfl⟩ hl.1 (Nat.le_of_ble_eq_true rfl) dX1_perform_57 (fun r2 r2n M3 H locs hq G => ?_)
      obtain ⟨eq1, eq2⟩ := hq
      subst eq1
      subst eq2
      refine lv_if_eq (tgt := 77) C.x C.b dX1_perform_60 (by decide) (fun hc => ?_) (fun hc => ?_)
      · have h := h.2 (jb_0 hc)
        refine lv_iinc (v := v3 + 1) (lv' := [(3, .int (v3 + 1)), (5, .int (v2 - (M 27 0 v3.toNatClampNeg))), (4, .ref (g 3 (6 * 0 + v3.toNatClampNeg))), (0, .ref (g 1 0)), (1, .ref (g 4 n1)), (2, .int v2)]) C.x C.b dX1_perform_77 hl (k := 5) rfl rfl (by decide) rfl (fun ls hl => ?_)
        refine lv_goto (tgt := 18) C.x C.b dX1_perform_80 (by decide) ?_
        exact h p l e s m args below meth c D cA base g C hr htb _ _ G ls (lv_sub hl [3, 4, 5, 0] rfl)
      · have h := h.1 (jb_1 hc)
        refine lv_aload_n C.x C.b dX1_perform_63 rfl (lv_at hl 3 rfl) ?_
        refine lv_iload_n C.x C.b dX1_perform_64 rfl (lv_at hl 4 rfl) ?_
        refine lv_aload C.x C.b dX1_perform_65 (lv_at hl 1 rfl) ?_
        have hb4 : (M 3 (6 * 0 + v3.toNatClampNeg) 0).toNatClampNeg < jnb M := G.1.2.2 _ (by omega)
        refine jr_get C G jc3 0 (v := .ref (g 0 ((M 3 (6 * 0 + v3.toNatClampNeg) 0).toNatClampNeg))) (show 6 * 0 + v3.toNatClampNeg < 20 by omega) (by decide) (by decide) rfl wd207 dX1_perform_67 ?_
        refine lv_iload C.x C.b dX1_perform_70 (lv_at hl 0 rfl) ?_
        refine jr_F (d' := 3) C G jc4 ji_X4_iterate C.st.2.2.2.1.1 wd1053 h rfl (show n1 < 4 by omega) (by decide) rfl rfl (by omega) (by decide) (by decide) ⟨rfl, rfl⟩ hl.1 (Nat.le_of_ble_eq_true rfl) dX1_perform_72 (fun r5 r5n M6 H locs h G => ?_)
        obtain ⟨nM6, h⟩ := h
        refine lv_iinc (v := v3 + 1) (lv' := [(3, .int (v3 + 1)), (5, .int (v2 - (M 27 0 v3.toNatClampNeg))), (4, .ref (g 3 (6 * 0 + v3.toNatClampNeg))), (0, .ref (g 1 0)), (1, .ref (g 4 n1)), (2, .int v2)]) C.x C.b dX1_perform_77 hl (k := 5) rfl rfl (by decide) rfl (fun ls hl => ?_)
        refine lv_goto (tgt := 18) C.x C.b dX1_perform_80 (by decide) ?_
        exact h p l e s m args below meth c D cA base g C hr htb _ _ G ls (lv_sub hl [3, 4, 5, 0] rfl)

theorem en_X1_perform_T  {M : jM} {Q : Int32 → Nat → jM → Prop} (h : at_X1_perform_T_0  M Q) : ok_X1_perform_T  M Q := jr_enter (by decide) (fun g => rfl) (fun g => Nat.le_of_ble_eq_true rfl) h
set_option maxHeartbeats 4000000 in
set_option maxRecDepth 100000 in
theorem bl_X1_perform_T_0  (M : jM) (Q : Int32 → Nat → jM → Prop) 
  (h : at_X1_perform_T_5 (M 1 0 7) M Q) :
  at_X1_perform_T_0  M Q := by
  intro p l e s m args below meth c D cA base g C hr htb H locs G ls hl
  refine lv_aload_n C.x C.b dX1_perform_0 rfl (lv_at hl 0 rfl) ?_
  refine jr_get C G jc1 7 (v := .int (M 1 0 7)) (show 0 < 1 by decide) (by decide) (by decide) rfl wd336 dX1_perform_1 ?_
  refine lv_istore_n (lv' := [(2, .int (M 1 0 7)), (0, .ref (g 1 0)), (1, .ref (g 9 0))]) C.x C.b dX1_perform_4 rfl hl (by decide) rfl (fun ls hl => ?_)
  exact h p l e s m args below meth c D cA base g C hr htb _ _ G ls (lv_sub hl [1, 2, 0] rfl)
set_option maxHeartbeats 4000000 in
set_option maxRecDepth 100000 in
theorem bl_X1_perform_T_5 (v2 : Int32) (M : jM) (Q : Int32 → Nat → jM → Prop) 
  (h : ((M 1 0 8) < v2 → Q 0 0 M) ∧ (¬ ((M 1 0 8) < v2) → at_X1_perform_T_18 v2 (M 1 0 5) M Q)) :
  at_X1_perform_T_5 v2 M Q := by
  intro p l e s m args below meth c D cA base g C hr htb H locs G ls hl
  refine lv_iload_n C.x C.b dX1_perform_5 rfl (lv_at hl 2 rfl) ?_
  refine lv_aload_n C.x C.b dX1_perform_6 rfl (lv_at hl 0 rfl) ?_
  refine jr_get C G jc1 8 (v := .int (M 1 0 8)) (show 0 < 1 by decide) (by decide) (by decide) rfl wd338 dX1_perform_7 ?_
  refine lv_icmp_gt (tgt := 89) C.x C.b dX1_perform_10 (by decide) (fun hc => ?_) (fun hc => ?_)
  · have h := h.1 hc
    exact jr_retV C hr G h (by decide) (by decide) dX1_perform_89
  · have h := h.2 hc
    refine lv_aload_n C.x C.b dX1_perform_13 rfl (lv_at hl 0 rfl) ?_
    refine jr_get C G jc1 5 (v := .int (M 1 0 5)) (show 0 < 1 by decide) (by decide) (by decide) rfl wd334 dX1_perform_14 ?_
    refine lv_istore_n (lv' := [(3, .int (M 1 0 5)), (0, .ref (g 1 0)), (1, .ref (g 9 0)), (2, .int v2)]) C.x C.b dX1_perform_17 rfl hl (by decide) rfl (fun ls hl => ?_)
    exact h p l e s m args below meth c D cA base g C hr htb _ _ G ls (lv_sub hl [1, 2, 3, 0] rfl)
set_option maxHeartbeats 4000000 in
set_option maxRecDepth 100000 in
theorem bl_X1_perform_T_18 (v2 : Int32) (v3 : Int32) (M : jM) (Q : Int32 → Nat → jM → Prop) 
  (h : ((M 1 0 6) < v3 → at_X1_perform_T_5 (v2 + 1) M Q) ∧ (¬ ((M 1 0 6) < v3) → (6 ≤ v3 → at_X1_perform_T_5 (v2 + 1) M Q) ∧ (¬ (6 ≤ v3) → vp_in v3 6 ∧ vp_in v3 6 ∧ ((M 3 (6 * 0 + v3.toNatClampNeg) 1 ≤ (v2 - (M 27 0 v3.toNatClampNeg)) ∧ (v2 - (M 27 0 v3.toNatClampNeg)) ≤ M 3 (6 * 0 + v3.toNatClampNeg) 2) → ok_X9_iterate v2 ((M 3 (6 * 0 + v3.toNatClampNeg) 0).toNatClampNeg) (v2 - (M 27 0 v3.toNatClampNeg)) M (fun _ _ M6 => jnb M6 = jnb M ∧ at_X1_perform_T_18 v2 (v3 + 1) M6 Q)) ∧ (¬ (M 3 (6 * 0 + v3.toNatClampNeg) 1 ≤ (v2 - (M 27 0 v3.toNatClampNeg)) ∧ (v2 - (M 27 0 v3.toNatClampNeg)) ≤ M 3 (6 * 0 + v3.toNatClampNeg) 2) → at_X1_perform_T_18 v2 (v3 + 1) M Q)))) :
  at_X1_perform_T_18 v2 v3 M Q := by
  intro p l e s m args below meth c D cA base g C hr htb H locs G ls hl
  refine lv_iload_n C.x C.b dX1_perform_18 rfl (lv_at hl 3 rfl) ?_
  refine lv_aload_n C.x C.b dX1_perform_19 rfl (lv_at hl 0 rfl) ?_
  refine jr_get C G jc1 6 (v := .int (M 1 0 6)) (show 0 < 1 by decide) (by decide) (by decide) rfl wd335 dX1_perform_20 ?_
  refine lv_icmp_gt (tgt := 83) C.x C.b dX1_perform_23 (by decide) (fun hc => ?_) (fun hc => ?_)
  · have h := h.1 hc
    refine lv_iinc (v := v2 + 1) (lv' := [(2, .int (v2 + 1)), (0, .ref (g 1 0)), (1, .ref (g 9 0)), (3, .int v3)]) C.x C.b dX1_perform_83 hl (k := 2) rfl rfl (by decide) rfl (fun ls hl => ?_)
    refine lv_goto (tgt := 5) C.x C.b dX1_perform_86 (by decide) ?_
    exact h p l e s m args below meth c D cA base g C hr htb _ _ G ls (lv_sub hl [1, 2, 0] rfl)
  · have h := h.2 hc
    refine lv_iload_n C.x C.b dX1_perform_26 rfl (lv_at hl 3 rfl) ?_
    refine lv_bipush (v := 6) C.x C.b dX1_perform_27 (by decide) ?_
    refine lv_icmp_ge (tgt := 83) C.x C.b dX1_perform_29 (by decide) (fun hc => ?_) (fun hc => ?_)
    · have h := h.1 hc
      refine lv_iinc (v := v2 + 1) (lv' := [(2, .int (v2 + 1)), (0, .ref (g 1 0)), (1, .ref (g 9 0)), (3, .int v3)]) C.x C.b dX1_perform_83 hl (k := 2) rfl rfl (by decide) rfl (fun ls hl => ?_)
      refine lv_goto (tgt := 5) C.x C.b dX1_perform_86 (by decide) ?_
      exact h p l e s m args below meth c D cA base g C hr htb _ _ G ls (lv_sub hl [1, 2, 0] rfl)
    · have h := h.2 hc
      refine lv_aload_n C.x C.b dX1_perform_32 rfl (lv_at hl 0 rfl) ?_
      refine jr_get C G jc1 0 (v := .ref (g 6 0)) (show 0 < 1 by decide) (by decide) (by decide) rfl wd328 dX1_perform_33 ?_
      refine jr_get C G jc6 0 (v := .ref (g 39 0)) (show 0 < 2 by decide) (by decide) (by decide) rfl wd268 dX1_perform_36 ?_
      refine lv_iload_n C.x C.b dX1_perform_39 rfl (lv_at hl 3 rfl) ?_
      obtain ⟨hs, h⟩ := h
      have hj1 := vp_lt hs
      refine jr_aald C G (R := 39) (R' := 3) (i' := 6 * 0 + v3.toNatClampNeg) (show 0 < 2 by decide) (by decide) (by decide) (by decide) rfl rfl hs rfl dX1_perform_40 ?_
      refine lv_astore (lv' := [(4, .ref (g 3 (6 * 0 + v3.toNatClampNeg))), (0, .ref (g 1 0)), (1, .ref (g 9 0)), (2, .int v2), (3, .int v3)]) C.x C.b dX1_perform_41 hl (by decide) rfl (fun ls hl => ?_)
      refine lv_iload_n C.x C.b dX1_perform_43 rfl (lv_at hl 3 rfl) ?_
      refine lv_aload_n C.x C.b dX1_perform_44 rfl (lv_at hl 1 rfl) ?_
      refine jr_get C G jc1 2 (v := .ref (g 27 0)) (show 0 < 1 by decide) (by decide) (by decide) rfl wd330 dX1_perform_45 ?_
      refine lv_iload_n C.x C.b dX1_perform_48 rfl (lv_at hl 4 rfl) ?_
      obtain ⟨hs, h⟩ := h
      refine jr_ald C G (show 0 < 1 by decide) (by decide) (by decide) (by decide) rfl rfl hs dX1_perform_49 ?_
      refine lv_isub C.x C.b dX1_perform_50 ?_
      refine lv_istore (lv' := [(5, .int (v2 - (M 27 0 v3.toNatClampNeg))), (4, .ref (g 3 (6 * 0 + v3.toNatClampNeg))), (0, .ref (g 1 0)), (1, .ref (g 9 0)), (2, .int v2), (3, .int v3)]) C.x C.b dX1_perform_51 hl (by decide) rfl (fun ls hl => ?_)
      refine lv_aload C.x C.b dX1_perform_53 (lv_at hl 1 rfl) ?_
      refine lv_iload C.x C.b dX1_perform_55 (lv_at hl 0 rfl) ?_
      refine jr_V (d' := 3) C G jc3 jm_X3_hasIteration wd1051 (sp_X3_hasIteration (show 6 * 0 + v3.toNatClampNeg < 20 by omega) ⟨rfl, rfl⟩ : ok_X3_hasIteration (6 * 0 + v3.toNatClampNeg) (v2 - (M 27 0 v3.toNatClampNeg)) M (fun r _ M' => jb (M 3 (6 * 0 + v3.toNatClampNeg) 1 ≤ (v2 - (M 27 0 v3.toNatClampNeg)) ∧ (v2 - (M 27 0 v3.toNatClampNeg)) ≤ M 3 (6 * 0 + v3.toNatClampNeg) 2) = r ∧ M = M')) rfl (show 6 * 0 + v3.toNatClampNeg < 20 by omega) (by decide) rfl rfl (by omega) (by decide) (by decide) ⟨rfl, rfl⟩ hl.1 (Nat.le_of_ble_eq_true rfl) dX1_perform_57 (fun r2 r2n M3 H locs hq G => ?_)
      obtain ⟨eq1, eq2⟩ := hq
      subst eq1
      subst eq2
      refine lv_if_eq (tgt := 77) C.x C.b dX1_perform_60 (by decide) (fun hc => ?_) (fun hc => ?_)
      · have h := h.2 (jb_0 hc)
        refine lv_iinc (v := v3 + 1) (lv' := [(3, .int (v3 + 1)), (5, .int (v2 - (M 27 0 v3.toNatClampNeg))), (4, .ref (g 3 (6 * 0 + v3.toNatClampNeg))), (0, .ref (g 1 0)), (1, .ref (g 9 0)), (2, .int v2)]) C.x C.b dX1_perform_77 hl (k := 5) rfl rfl (by decide) rfl (fun ls hl => ?_)
        refine lv_goto (tgt := 18) C.x C.b dX1_perform_80 (by decide) ?_
        exact h p l e s m args below meth c D cA base g C hr htb _ _ G ls (lv_sub hl [3, 4, 5, 0] rfl)
      · have h := h.1 (jb_1 hc)
        refine lv_aload_n C.x C.b dX1_perform_63 rfl (lv_at hl 3 rfl) ?_
        refine lv_iload_n C.x C.b dX1_perform_64 rfl (lv_at hl 4 rfl) ?_
        refine lv_aload C.x C.b dX1_perform_65 (lv_at hl 1 rfl) ?_
        have hb4 : (M 3 (6 * 0 + v3.toNatClampNeg) 0).toNatClampNeg < jnb M := G.1.2.2 _ (by omega)
        refine jr_get C G jc3 0 (v := .ref (g 0 ((M 3 (6 * 0 + v3.toNatClampNeg) 0).toNatClampNeg))) (show 6 * 0 + v3.toNatClampNeg < 20 by omega) (by decide) (by decide) rfl wd207 dX1_perform_67 ?_
        refine lv_iload C.x C.b dX1_perform_70 (lv_at hl 0 rfl) ?_
        refine jr_F (d' := 3) C G jc9 ji_X9_iterate C.st.2.2.2.1.2 wd1053 h rfl (show 0 < 1 by decide) (by decide) rfl rfl (by omega) (by decide) (by decide) ⟨rfl, rfl⟩ hl.1 (Nat.le_of_ble_eq_true rfl) dX1_perform_72 (fun r5 r5n M6 H locs h G => ?_)
        obtain ⟨nM6, h⟩ := h
        refine lv_iinc (v := v3 + 1) (lv' := [(3, .int (v3 + 1)), (5, .int (v2 - (M 27 0 v3.toNatClampNeg))), (4, .ref (g 3 (6 * 0 + v3.toNatClampNeg))), (0, .ref (g 1 0)), (1, .ref (g 9 0)), (2, .int v2)]) C.x C.b dX1_perform_77 hl (k := 5) rfl rfl (by decide) rfl (fun ls hl => ?_)
        refine lv_goto (tgt := 18) C.x C.b dX1_perform_80 (by decide) ?_
        exact h p l e s m args below meth c D cA base g C hr htb _ _ G ls (lv_sub hl [3, 4, 5, 0] rfl)

theorem en_X1_carriedDistance  {M : jM} {Q : Int32 → Nat → jM → Prop} (h : at_X1_carriedDistance_0  M Q) : ok_X1_carriedDistance  M Q := jr_enter (by decide) (fun g => rfl) (fun g => Nat.le_of_ble_eq_true rfl) h
set_option maxHeartbeats 4000000 in
set_option maxRecDepth 100000 in
theorem bl_X1_carriedDistance_0  (M : jM) (Q : Int32 → Nat → jM → Prop) 
  (h : at_X1_carriedDistance_7 0 (M 1 0 5) M Q) :
  at_X1_carriedDistance_0  M Q := by
  intro p l e s m args below meth c D cA base g C hr htb H locs G ls hl
  refine lv_iconst (v := 0) C.x C.b dX1_carriedDistance_0 (by decide) ?_
  refine lv_istore_n (lv' := [(1, .int 0), (0, .ref (g 1 0))]) C.x C.b dX1_carriedDistance_1 rfl hl (by decide) rfl (fun ls hl => ?_)
  refine lv_aload_n C.x C.b dX1_carriedDistance_2 rfl (lv_at hl 1 rfl) ?_
  refine jr_get C G jc1 5 (v := .int (M 1 0 5)) (show 0 < 1 by decide) (by decide) (by decide) rfl wd334 dX1_carriedDistance_3 ?_
  refine lv_istore_n (lv' := [(2, .int (M 1 0 5)), (1, .int 0), (0, .ref (g 1 0))]) C.x C.b dX1_carriedDistance_6 rfl hl (by decide) rfl (fun ls hl => ?_)
  exact h p l e s m args below meth c D cA base g C hr htb _ _ G ls (lv_sub hl [2, 1, 0] rfl)
set_option maxHeartbeats 4000000 in
set_option maxRecDepth 100000 in
theorem bl_X1_carriedDistance_7 (v1 : Int32) (v2 : Int32) (M : jM) (Q : Int32 → Nat → jM → Prop) 
  (h : ((M 1 0 6) < v2 → Q v1 0 M) ∧ (¬ ((M 1 0 6) < v2) → (6 ≤ v2 → Q v1 0 M) ∧ (¬ (6 ≤ v2) → at_X1_carriedDistance_26 v1 v2 (M 1 0 5) M Q))) :
  at_X1_carriedDistance_7 v1 v2 M Q := by
  intro p l e s m args below meth c D cA base g C hr htb H locs G ls hl
  refine lv_iload_n C.x C.b dX1_carriedDistance_7 rfl (lv_at hl 2 rfl) ?_
  refine lv_aload_n C.x C.b dX1_carriedDistance_8 rfl (lv_at hl 0 rfl) ?_
  refine jr_get C G jc1 6 (v := .int (M 1 0 6)) (show 0 < 1 by decide) (by decide) (by decide) rfl wd335 dX1_carriedDistance_9 ?_
  refine lv_icmp_gt (tgt := 142) C.x C.b dX1_carriedDistance_12 (by decide) (fun hc => ?_) (fun hc => ?_)
  · have h := h.1 hc
    refine lv_iload_n C.x C.b dX1_carriedDistance_142 rfl (lv_at hl 1 rfl) ?_
    exact jr_retI C hr G h (by decide) (by decide) dX1_carriedDistance_143
  · have h := h.2 hc
    refine lv_iload_n C.x C.b dX1_carriedDistance_15 rfl (lv_at hl 2 rfl) ?_
    refine lv_bipush (v := 6) C.x C.b dX1_carriedDistance_16 (by decide) ?_
    refine lv_icmp_ge (tgt := 142) C.x C.b dX1_carriedDistance_18 (by decide) (fun hc => ?_) (fun hc => ?_)
    · have h := h.1 hc
      refine lv_iload_n C.x C.b dX1_carriedDistance_142 rfl (lv_at hl 1 rfl) ?_
      exact jr_retI C hr G h (by decide) (by decide) dX1_carriedDistance_143
    · have h := h.2 hc
      refine lv_aload_n C.x C.b dX1_carriedDistance_21 rfl (lv_at hl 0 rfl) ?_
      refine jr_get C G jc1 5 (v := .int (M 1 0 5)) (show 0 < 1 by decide) (by decide) (by decide) rfl wd334 dX1_carriedDistance_22 ?_
      refine lv_istore_n (lv' := [(3, .int (M 1 0 5)), (0, .ref (g 1 0)), (1, .int v1), (2, .int v2)]) C.x C.b dX1_carriedDistance_25 rfl hl (by decide) rfl (fun ls hl => ?_)
      exact h p l e s m args below meth c D cA base g C hr htb _ _ G ls (lv_sub hl [1, 2, 3, 0] rfl)
set_option maxHeartbeats 4000000 in
set_option maxRecDepth 100000 in
theorem bl_X1_carriedDistance_26 (v1 : Int32) (v2 : Int32) (v3 : Int32) (M : jM) (Q : Int32 → Nat → jM → Prop) 
  (h : ((M 1 0 6) < v3 → at_X1_carriedDistance_7 v1 (v2 + 1) M Q) ∧ (¬ ((M 1 0 6) < v3) → (6 ≤ v3 → at_X1_carriedDistance_7 v1 (v2 + 1) M Q) ∧ (¬ (6 ≤ v3) → vp_in v2 6 ∧ vp_in v3 6 ∧ ok_X2_collect (6 * 0 + v2.toNatClampNeg) (6 * 0 + v3.toNatClampNeg) M (fun _ _ M4 => jnb M4 = jnb M ∧ at_X1_carriedDistance_68 v1 v2 v3 0 M4 Q)))) :
  at_X1_carriedDistance_26 v1 v2 v3 M Q := by
  intro p l e s m args below meth c D cA base g C hr htb H locs G ls hl
  refine lv_iload_n C.x C.b dX1_carriedDistance_26 rfl (lv_at hl 3 rfl) ?_
  refine lv_aload_n C.x C.b dX1_carriedDistance_27 rfl (lv_at hl 0 rfl) ?_
  refine jr_get C G jc1 6 (v := .int (M 1 0 6)) (show 0 < 1 by decide) (by decide) (by decide) rfl wd335 dX1_carriedDistance_28 ?_
  refine lv_icmp_gt (tgt := 136) C.x C.b dX1_carriedDistance_31 (by decide) (fun hc => ?_) (fun hc => ?_)
  · have h := h.1 hc
    refine lv_iinc (v := v2 + 1) (lv' := [(2, .int (v2 + 1)), (0, .ref (g 1 0)), (1, .int v1), (3, .int v3)]) C.x C.b dX1_carriedDistance_136 hl (k := 2) rfl rfl (by decide) rfl (fun ls hl => ?_)
    refine lv_goto (tgt := 7) C.x C.b dX1_carriedDistance_139 (by decide) ?_
    exact h p l e s m args below meth c D cA base g C hr htb _ _ G ls (lv_sub hl [1, 2, 0] rfl)
  · have h := h.2 hc
    refine lv_iload_n C.x C.b dX1_carriedDistance_34 rfl (lv_at hl 3 rfl) ?_
    refine lv_bipush (v := 6) C.x C.b dX1_carriedDistance_35 (by decide) ?_
    refine lv_icmp_ge (tgt := 136) C.x C.b dX1_carriedDistance_37 (by decide) (fun hc => ?_) (fun hc => ?_)
    · have h := h.1 hc
      refine lv_iinc (v := v2 + 1) (lv' := [(2, .int (v2 + 1)), (0, .ref (g 1 0)), (1, .int v1), (3, .int v3)]) C.x C.b dX1_carriedDistance_136 hl (k := 2) rfl rfl (by decide) rfl (fun ls hl => ?_)
      refine lv_goto (tgt := 7) C.x C.b dX1_carriedDistance_139 (by decide) ?_
      exact h p l e s m args below meth c D cA base g C hr htb _ _ G ls (lv_sub hl [1, 2, 0] rfl)
    · have h := h.2 hc
      refine lv_aload_n C.x C.b dX1_carriedDistance_40 rfl (lv_at hl 0 rfl) ?_
      refine jr_get C G jc1 1 (v := .ref (g 2 0)) (show 0 < 1 by decide) (by decide) (by decide) rfl wd329 dX1_carriedDistance_41 ?_
      refine lv_aload_n C.x C.b dX1_carriedDistance_44 rfl (lv_at hl 0 rfl) ?_
      refine jr_get C G jc1 0 (v := .ref (g 6 0)) (show 0 < 1 by decide) (by decide) (by decide) rfl wd328 dX1_carriedDistance_45 ?_
      refine jr_get C G jc6 0 (v := .ref (g 39 0)) (show 0 < 2 by decide) (by decide) (by decide) rfl wd268 dX1_carriedDistance_48 ?_
      refine lv_iload_n C.x C.b dX1_carriedDistance_51 rfl (lv_at hl 2 rfl) ?_
      obtain ⟨hs, h⟩ := h
      have hj1 := vp_lt hs
      refine jr_aald C G (R := 39) (R' := 3) (i' := 6 * 0 + v2.toNatClampNeg) (show 0 < 2 by decide) (by decide) (by decide) (by decide) rfl rfl hs rfl dX1_carriedDistance_52 ?_
      refine lv_aload_n C.x C.b dX1_carriedDistance_53 rfl (lv_at hl 0 rfl) ?_
      refine jr_get C G jc1 0 (v := .ref (g 6 0)) (show 0 < 1 by decide) (by decide) (by decide) rfl wd328 dX1_carriedDistance_54 ?_
      refine jr_get C G jc6 0 (v := .ref (g 39 0)) (show 0 < 2 by decide) (by decide) (by decide) rfl wd268 dX1_carriedDistance_57 ?_
      refine lv_iload_n C.x C.b dX1_carriedDistance_60 rfl (lv_at hl 3 rfl) ?_
      obtain ⟨hs, h⟩ := h
      have hj2 := vp_lt hs
      refine jr_aald C G (R := 39) (R' := 3) (i' := 6 * 0 + v3.toNatClampNeg) (show 0 < 2 by decide) (by decide) (by decide) (by decide) rfl rfl hs rfl dX1_carriedDistance_61 ?_
      refine jr_V (d' := 3) C G jc2 jm_X2_collect wd1001 h rfl (show 0 < 1 by decide) (by decide) rfl rfl (by omega) (by decide) (by decide) ⟨rfl, rfl⟩ hl.1 (Nat.le_of_ble_eq_true rfl) dX1_carriedDistance_62 (fun r3 r3n M4 H locs h G => ?_)
      obtain ⟨nM4, h⟩ := h
      refine lv_iconst (v := 0) C.x C.b dX1_carriedDistance_65 (by decide) ?_
      refine lv_istore (lv' := [(4, .int 0), (0, .ref (g 1 0)), (1, .int v1), (2, .int v2), (3, .int v3)]) C.x C.b dX1_carriedDistance_66 hl (by decide) rfl (fun ls hl => ?_)
      exact h p l e s m args below meth c D cA base g C hr htb _ _ G ls (lv_sub hl [1, 2, 3, 4, 0] rfl)
set_option maxHeartbeats 4000000 in
set_option maxRecDepth 100000 in
theorem bl_X1_carriedDistance_68 (v1 : Int32) (v2 : Int32) (v3 : Int32) (v4 : Int32) (M : jM) (Q : Int32 → Nat → jM → Prop) 
  (h : ((M 2 0 3) ≤ v4 → at_X1_carriedDistance_26 v1 v2 (v3 + 1) M Q) ∧ (¬ ((M 2 0 3) ≤ v4) → vp_in v3 6 ∧ vp_in v2 6 ∧ vp_in v4 576 ∧ ((((M 27 0 v3.toNatClampNeg) - (M 27 0 v2.toNatClampNeg)) - (M 32 0 v4.toNatClampNeg)) ≤ 0 → at_X1_carriedDistance_68 v1 v2 v3 (v4 + 1) M Q) ∧ (¬ ((((M 27 0 v3.toNatClampNeg) - (M 27 0 v2.toNatClampNeg)) - (M 32 0 v4.toNatClampNeg)) ≤ 0) → (v1 = 0 → at_X1_carriedDistance_68 (((M 27 0 v3.toNatClampNeg) - (M 27 0 v2.toNatClampNeg)) - (M 32 0 v4.toNatClampNeg)) v2 v3 (v4 + 1) M Q) ∧ (¬ (v1 = 0) → (v1 ≤ (((M 27 0 v3.toNatClampNeg) - (M 27 0 v2.toNatClampNeg)) - (M 32 0 v4.toNatClampNeg)) → at_X1_carriedDistance_68 v1 v2 v3 (v4 + 1) M Q) ∧ (¬ (v1 ≤ (((M 27 0 v3.toNatClampNeg) - (M 27 0 v2.toNatClampNeg)) - (M 32 0 v4.toNatClampNeg))) → at_X1_carriedDistance_68 (((M 27 0 v3.toNatClampNeg) - (M 27 0 v2.toNatClampNeg)) - (M 32 0 v4.toNatClampNeg)) v2 v3 (v4 + 1) M Q))))) :
  at_X1_carriedDistance_68 v1 v2 v3 v4 M Q := by
  intro p l e s m args below meth c D cA base g C hr htb H locs G ls hl
  refine lv_iload C.x C.b dX1_carriedDistance_68 (lv_at hl 4 rfl) ?_
  refine lv_aload_n C.x C.b dX1_carriedDistance_70 rfl (lv_at hl 0 rfl) ?_
  refine jr_get C G jc1 1 (v := .ref (g 2 0)) (show 0 < 1 by decide) (by decide) (by decide) rfl wd329 dX1_carriedDistance_71 ?_
  refine jr_get C G jc2 3 (v := .int (M 2 0 3)) (show 0 < 1 by decide) (by decide) (by decide) rfl wd304 dX1_carriedDistance_74 ?_
  refine lv_icmp_ge (tgt := 130) C.x C.b dX1_carriedDistance_77 (by decide) (fun hc => ?_) (fun hc => ?_)
  · have h := h.1 hc
    refine lv_iinc (v := v3 + 1) (lv' := [(3, .int (v3 + 1)), (0, .ref (g 1 0)), (1, .int v1), (2, .int v2), (4, .int v4)]) C.x C.b dX1_carriedDistance_130 hl (k := 3) rfl rfl (by decide) rfl (fun ls hl => ?_)
    refine lv_goto (tgt := 26) C.x C.b dX1_carriedDistance_133 (by decide) ?_
    exact h p l e s m args below meth c D cA base g C hr htb _ _ G ls (lv_sub hl [1, 2, 3, 0] rfl)
  · have h := h.2 hc
    refine lv_aload_n C.x C.b dX1_carriedDistance_80 rfl (lv_at hl 0 rfl) ?_
    refine jr_get C G jc1 2 (v := .ref (g 27 0)) (show 0 < 1 by decide) (by decide) (by decide) rfl wd330 dX1_carriedDistance_81 ?_
    refine lv_iload_n C.x C.b dX1_carriedDistance_84 rfl (lv_at hl 3 rfl) ?_
    obtain ⟨hs, h⟩ := h
    refine jr_ald C G (show 0 < 1 by decide) (by decide) (by decide) (by decide) rfl rfl hs dX1_carriedDistance_85 ?_
    refine lv_aload_n C.x C.b dX1_carriedDistance_86 rfl (lv_at hl 0 rfl) ?_
    refine jr_get C G jc1 2 (v := .ref (g 27 0)) (show 0 < 1 by decide) (by decide) (by decide) rfl wd330 dX1_carriedDistance_87 ?_
    refine lv_iload_n C.x C.b dX1_carriedDistance_90 rfl (lv_at hl 2 rfl) ?_
    obtain ⟨hs, h⟩ := h
    refine jr_ald C G (show 0 < 1 by decide) (by decide) (by decide) (by decide) rfl rfl hs dX1_carriedDistance_91 ?_
    refine lv_isub C.x C.b dX1_carriedDistance_92 ?_
    refine lv_aload_n C.x C.b dX1_carriedDistance_93 rfl (lv_at hl 0 rfl) ?_
    refine jr_get C G jc1 1 (v := .ref (g 2 0)) (show 0 < 1 by decide) (by decide) (by decide) rfl wd329 dX1_carriedDistance_94 ?_
    refine jr_get C G jc2 2 (v := .ref (g 32 0)) (show 0 < 1 by decide) (by decide) (by decide) rfl wd301 dX1_carriedDistance_97 ?_
    refine lv_iload C.x C.b dX1_carriedDistance_100 (lv_at hl 4 rfl) ?_
    obtain ⟨hs, h⟩ := h
    refine jr_ald C G (show 0 < 1 by decide) (by decide) (by decide) (by decide) rfl rfl hs dX1_carriedDistance_102 ?_
    refine lv_isub C.x C.b dX1_carriedDistance_103 ?_
    refine lv_istore (lv' := [(5, .int (((M 27 0 v3.toNatClampNeg) - (M 27 0 v2.toNatClampNeg)) - (M 32 0 v4.toNatClampNeg))), (0, .ref (g 1 0)), (1, .int v1), (2, .int v2), (3, .int v3), (4, .int v4)]) C.x C.b dX1_carriedDistance_104 hl (by decide) rfl (fun ls hl => ?_)
    refine lv_iload C.x C.b dX1_carriedDistance_106 (lv_at hl 0 rfl) ?_
    refine lv_if_le (tgt := 124) C.x C.b dX1_carriedDistance_108 (by decide) (fun hc => ?_) (fun hc => ?_)
    · have h := h.1 hc
      refine lv_iinc (v := v4 + 1) (lv' := [(4, .int (v4 + 1)), (5, .int (((M 27 0 v3.toNatClampNeg) - (M 27 0 v2.toNatClampNeg)) - (M 32 0 v4.toNatClampNeg))), (0, .ref (g 1 0)), (1, .int v1), (2, .int v2), (3, .int v3)]) C.x C.b dX1_carriedDistance_124 hl (k := 5) rfl rfl (by decide) rfl (fun ls hl => ?_)
      refine lv_goto (tgt := 68) C.x C.b dX1_carriedDistance_127 (by decide) ?_
      exact h p l e s m args below meth c D cA base g C hr htb _ _ G ls (lv_sub hl [2, 3, 4, 5, 0] rfl)
    · have h := h.2 hc
      refine lv_iload_n C.x C.b dX1_carriedDistance_111 rfl (lv_at hl 2 rfl) ?_
      refine lv_if_eq (tgt := 121) C.x C.b dX1_carriedDistance_112 (by decide) (fun hc => ?_) (fun hc => ?_)
      · have h := h.1 hc
        refine lv_iload C.x C.b dX1_carriedDistance_121 (lv_at hl 0 rfl) ?_
        refine lv_istore_n (lv' := [(1, .int (((M 27 0 v3.toNatClampNeg) - (M 27 0 v2.toNatClampNeg)) - (M 32 0 v4.toNatClampNeg))), (5, .int (((M 27 0 v3.toNatClampNeg) - (M 27 0 v2.toNatClampNeg)) - (M 32 0 v4.toNatClampNeg))), (0, .ref (g 1 0)), (2, .int v2), (3, .int v3), (4, .int v4)]) C.x C.b dX1_carriedDistance_123 rfl hl (by decide) rfl (fun ls hl => ?_)
        refine lv_iinc (v := v4 + 1) (lv' := [(4, .int (v4 + 1)), (1, .int (((M 27 0 v3.toNatClampNeg) - (M 27 0 v2.toNatClampNeg)) - (M 32 0 v4.toNatClampNeg))), (5, .int (((M 27 0 v3.toNatClampNeg) - (M 27 0 v2.toNatClampNeg)) - (M 32 0 v4.toNatClampNeg))), (0, .ref (g 1 0)), (2, .int v2), (3, .int v3)]) C.x C.b dX1_carriedDistance_124 hl (k := 5) rfl rfl (by decide) rfl (fun ls hl => ?_)
        refine lv_goto (tgt := 68) C.x C.b dX1_carriedDistance_127 (by decide) ?_
        exact h p l e s m args below meth c D cA base g C hr htb _ _ G ls (lv_sub hl [3, 1, 4, 5, 0] rfl)
      · have h := h.2 hc
        refine lv_iload C.x C.b dX1_carriedDistance_115 (lv_at hl 0 rfl) ?_
        refine lv_iload_n C.x C.b dX1_carriedDistance_117 rfl (lv_at hl 2 rfl) ?_
        refine lv_icmp_ge (tgt := 124) C.x C.b dX1_carriedDistance_118 (by decide) (fun hc => ?_) (fun hc => ?_)
        · have h := h.1 hc
          refine lv_iinc (v := v4 + 1) (lv' := [(4, .int (v4 + 1)), (5, .int (((M 27 0 v3.toNatClampNeg) - (M 27 0 v2.toNatClampNeg)) - (M 32 0 v4.toNatClampNeg))), (0, .ref (g 1 0)), (1, .int v1), (2, .int v2), (3, .int v3)]) C.x C.b dX1_carriedDistance_124 hl (k := 5) rfl rfl (by decide) rfl (fun ls hl => ?_)
          refine lv_goto (tgt := 68) C.x C.b dX1_carriedDistance_127 (by decide) ?_
          exact h p l e s m args below meth c D cA base g C hr htb _ _ G ls (lv_sub hl [2, 3, 4, 5, 0] rfl)
        · have h := h.2 hc
          refine lv_iload C.x C.b dX1_carriedDistance_121 (lv_at hl 0 rfl) ?_
          refine lv_istore_n (lv' := [(1, .int (((M 27 0 v3.toNatClampNeg) - (M 27 0 v2.toNatClampNeg)) - (M 32 0 v4.toNatClampNeg))), (5, .int (((M 27 0 v3.toNatClampNeg) - (M 27 0 v2.toNatClampNeg)) - (M 32 0 v4.toNatClampNeg))), (0, .ref (g 1 0)), (2, .int v2), (3, .int v3), (4, .int v4)]) C.x C.b dX1_carriedDistance_123 rfl hl (by decide) rfl (fun ls hl => ?_)
          refine lv_iinc (v := v4 + 1) (lv' := [(4, .int (v4 + 1)), (1, .int (((M 27 0 v3.toNatClampNeg) - (M 27 0 v2.toNatClampNeg)) - (M 32 0 v4.toNatClampNeg))), (5, .int (((M 27 0 v3.toNatClampNeg) - (M 27 0 v2.toNatClampNeg)) - (M 32 0 v4.toNatClampNeg))), (0, .ref (g 1 0)), (2, .int v2), (3, .int v3)]) C.x C.b dX1_carriedDistance_124 hl (k := 5) rfl rfl (by decide) rfl (fun ls hl => ?_)
          refine lv_goto (tgt := 68) C.x C.b dX1_carriedDistance_127 (by decide) ?_
          exact h p l e s m args below meth c D cA base g C hr htb _ _ G ls (lv_sub hl [3, 1, 4, 5, 0] rfl)

theorem en_X5_takeGroup {n0 : Nat} {v1 : Int32} {M : jM} {Q : Int32 → Nat → jM → Prop} (h : at_X5_takeGroup_0 n0 v1 M Q) : ok_X5_takeGroup n0 v1 M Q := jr_enter (by decide) (fun g => rfl) (fun g => Nat.le_of_ble_eq_true rfl) h
set_option maxHeartbeats 4000000 in
set_option maxRecDepth 100000 in
theorem bl_X5_takeGroup_0 (n0 : Nat) (v1 : Int32) (M : jM) (Q : Int32 → Nat → jM → Prop) (ha0 : n0 < 3)
  (h : (v1 < 0 → Q 0 0 M) ∧ (¬ (v1 < 0) → (6 ≤ v1 → Q 0 0 M) ∧ (¬ (6 ≤ v1) → vp_in v1 7 ∧ vp_in (v1 + 1) 7 ∧ ok_X1_take (M 35 n0 v1.toNatClampNeg) ((M 35 n0 (v1 + 1).toNatClampNeg) - 1) M (fun _ _ M2 => jnb M2 = jnb M ∧ Q 0 0 M2)))) :
  at_X5_takeGroup_0 n0 v1 M Q := by
  intro p l e s m args below meth c D cA base g C hr htb H locs G ls hl
  refine lv_iload_n C.x C.b dX5_takeGroup_0 rfl (lv_at hl 1 rfl) ?_
  refine lv_if_lt (tgt := 33) C.x C.b dX5_takeGroup_1 (by decide) (fun hc => ?_) (fun hc => ?_)
  · have h := h.1 hc
    exact jr_retV C hr G h (by decide) (by decide) dX5_takeGroup_33
  · have h := h.2 hc
    refine lv_iload_n C.x C.b dX5_takeGroup_4 rfl (lv_at hl 1 rfl) ?_
    refine lv_bipush (v := 6) C.x C.b dX5_takeGroup_5 (by decide) ?_
    refine lv_icmp_ge (tgt := 33) C.x C.b dX5_takeGroup_7 (by decide) (fun hc => ?_) (fun hc => ?_)
    · have h := h.1 hc
      exact jr_retV C hr G h (by decide) (by decide) dX5_takeGroup_33
    · have h := h.2 hc
      refine lv_aload_n C.x C.b dX5_takeGroup_10 rfl (lv_at hl 0 rfl) ?_
      refine jr_get C G jc5 2 (v := .ref (g 1 0)) (show n0 < 3 by omega) (by decide) (by decide) rfl wd418 dX5_takeGroup_11 ?_
      refine lv_aload_n C.x C.b dX5_takeGroup_14 rfl (lv_at hl 0 rfl) ?_
      refine jr_get C G jc5 5 (v := .ref (g 35 n0)) (show n0 < 3 by omega) (by decide) (by decide) rfl wd422 dX5_takeGroup_15 ?_
      refine lv_iload_n C.x C.b dX5_takeGroup_18 rfl (lv_at hl 1 rfl) ?_
      obtain ⟨hs, h⟩ := h
      refine jr_ald C G (show n0 < 3 by omega) (by decide) (by decide) (by decide) rfl rfl hs dX5_takeGroup_19 ?_
      refine lv_aload_n C.x C.b dX5_takeGroup_20 rfl (lv_at hl 0 rfl) ?_
      refine jr_get C G jc5 5 (v := .ref (g 35 n0)) (show n0 < 3 by omega) (by decide) (by decide) rfl wd422 dX5_takeGroup_21 ?_
      refine lv_iload_n C.x C.b dX5_takeGroup_24 rfl (lv_at hl 1 rfl) ?_
      refine lv_iconst (v := 1) C.x C.b dX5_takeGroup_25 (by decide) ?_
      refine lv_iadd C.x C.b dX5_takeGroup_26 ?_
      obtain ⟨hs, h⟩ := h
      refine jr_ald C G (show n0 < 3 by omega) (by decide) (by decide) (by decide) rfl rfl hs dX5_takeGroup_27 ?_
      refine lv_iconst (v := 1) C.x C.b dX5_takeGroup_28 (by decide) ?_
      refine lv_isub C.x C.b dX5_takeGroup_29 ?_
      refine jr_V (d' := 3) C G jc1 jm_X1_take wd1038 h rfl (show 0 < 1 by decide) (by decide) rfl rfl (by omega) (by decide) (by decide) ⟨rfl, rfl⟩ hl.1 (Nat.le_of_ble_eq_true rfl) dX5_takeGroup_30 (fun r1 r1n M2 H locs h G => ?_)
      obtain ⟨nM2, h⟩ := h
      exact jr_retV C hr G h (by decide) (by decide) dX5_takeGroup_33

theorem en_X5_sizeFrom {n0 : Nat} {v1 : Int32} {M : jM} {Q : Int32 → Nat → jM → Prop} (h : at_X5_sizeFrom_0 n0 v1 M Q) : ok_X5_sizeFrom n0 v1 M Q := jr_enter (by decide) (fun g => rfl) (fun g => Nat.le_of_ble_eq_true rfl) h
set_option maxHeartbeats 4000000 in
set_option maxRecDepth 100000 in
theorem bl_X5_sizeFrom_0 (n0 : Nat) (v1 : Int32) (M : jM) (Q : Int32 → Nat → jM → Prop) (ha0 : n0 < 3)
  (h : (M 5 n0 0 = 0 → Q 1 0 M) ∧ (¬ (M 5 n0 0 = 0) → (M 5 n0 0 = 1 → ok_X1_longest v1 M (fun r1 _ M2 => jnb M2 = jnb M ∧ Q r1 0 M2)) ∧ (¬ (M 5 n0 0 = 1) → vp_in v1 7 ∧ Q (M 38 n0 v1.toNatClampNeg) 0 M))) :
  at_X5_sizeFrom_0 n0 v1 M Q := by
  intro p l e s m args below meth c D cA base g C hr htb H locs G ls hl
  refine lv_aload_n C.x C.b dX5_sizeFrom_0 rfl (lv_at hl 0 rfl) ?_
  refine jr_get C G jc5 0 (v := .int (M 5 n0 0)) (show n0 < 3 by omega) (by decide) (by decide) rfl wd416 dX5_sizeFrom_1 ?_
  refine lv_if_ne (tgt := 9) C.x C.b dX5_sizeFrom_4 (by decide) (fun hc => ?_) (fun hc => ?_)
  · have h := h.2 hc
    refine lv_aload_n C.x C.b dX5_sizeFrom_9 rfl (lv_at hl 0 rfl) ?_
    refine jr_get C G jc5 0 (v := .int (M 5 n0 0)) (show n0 < 3 by omega) (by decide) (by decide) rfl wd416 dX5_sizeFrom_10 ?_
    refine lv_iconst (v := 1) C.x C.b dX5_sizeFrom_13 (by decide) ?_
    refine lv_icmp_ne (tgt := 28) C.x C.b dX5_sizeFrom_14 (by decide) (fun hc => ?_) (fun hc => ?_)
    · have h := h.2 hc
      refine lv_aload_n C.x C.b dX5_sizeFrom_28 rfl (lv_at hl 0 rfl) ?_
      refine jr_get C G jc5 8 (v := .ref (g 38 n0)) (show n0 < 3 by omega) (by decide) (by decide) rfl wd425 dX5_sizeFrom_29 ?_
      refine lv_iload_n C.x C.b dX5_sizeFrom_32 rfl (lv_at hl 1 rfl) ?_
      obtain ⟨hs, h⟩ := h
      refine jr_ald C G (show n0 < 3 by omega) (by decide) (by decide) (by decide) rfl rfl hs dX5_sizeFrom_33 ?_
      exact jr_retI C hr G h (by decide) (by decide) dX5_sizeFrom_34
    · have h := h.1 hc
      refine lv_aload_n C.x C.b dX5_sizeFrom_17 rfl (lv_at hl 0 rfl) ?_
      refine jr_get C G jc5 2 (v := .ref (g 1 0)) (show n0 < 3 by omega) (by decide) (by decide) rfl wd418 dX5_sizeFrom_18 ?_
      refine lv_iload_n C.x C.b dX5_sizeFrom_21 rfl (lv_at hl 1 rfl) ?_
      refine jr_V (d' := 4) C G jc1 jm_X1_longest wd1037 h rfl (show 0 < 1 by decide) (by decide) rfl rfl (by omega) (by decide) (by decide) ⟨rfl, rfl⟩ hl.1 (Nat.le_of_ble_eq_true rfl) dX5_sizeFrom_22 (fun r1 r1n M2 H locs h G => ?_)
      obtain ⟨nM2, h⟩ := h
      refine lv_goto (tgt := 34) C.x C.b dX5_sizeFrom_25 (by decide) ?_
      exact jr_retI C hr G h (by decide) (by decide) dX5_sizeFrom_34
  · have h := h.1 hc
    refine lv_iconst (v := 1) C.x C.b dX5_sizeFrom_7 (by decide) ?_
    exact jr_retI C hr G h (by decide) (by decide) dX5_sizeFrom_8

theorem en_X5_weigh {n0 : Nat} {M : jM} {Q : Int32 → Nat → jM → Prop} (h : at_X5_weigh_0 n0 M Q) : ok_X5_weigh n0 M Q := jr_enter (by decide) (fun g => rfl) (fun g => Nat.le_of_ble_eq_true rfl) h
set_option maxHeartbeats 4000000 in
set_option maxRecDepth 100000 in
theorem bl_X5_weigh_0 (n0 : Nat) (M : jM) (Q : Int32 → Nat → jM → Prop) (ha0 : n0 < 3)
  (h : vp_in (jmin (M 6 0 2) 6) 7 ∧ (∀ M1 : jM, M1 = jup M 36 n0 (jmin (M 6 0 2) 6).toNatClampNeg 0 → vp_in (jmin (M 6 0 2) 6) 7 ∧ (∀ M2 : jM, M2 = jup M1 37 n0 (jmin (M 6 0 2) 6).toNatClampNeg 0 → at_X5_weigh_31 n0 (jmin (M 6 0 2) 6) ((jmin (M 6 0 2) 6) - 1) M2 Q))) :
  at_X5_weigh_0 n0 M Q := by
  intro p l e s m args below meth c D cA base g C hr htb H locs G ls hl
  refine lv_aload_n C.x C.b dX5_weigh_0 rfl (lv_at hl 0 rfl) ?_
  refine jr_get C G jc5 1 (v := .ref (g 6 0)) (show n0 < 3 by omega) (by decide) (by decide) rfl wd417 dX5_weigh_1 ?_
  refine jr_get C G jc6 2 (v := .int (M 6 0 2)) (show 0 < 2 by decide) (by decide) (by decide) rfl wd276 dX5_weigh_4 ?_
  refine lv_bipush (v := 6) C.x C.b dX5_weigh_7 (by decide) ?_
  refine va_mmin C.x C.b (C.ml.trans hl.1.symm) C.ow (C.w _ wd1036) (C.w _ wd890) (C.w _ wd94) (C.w _ wd891) (by decide) (Nat.le_of_ble_eq_true rfl) (by decide) (by decide) dX5_weigh_9 ?_
  rw [show (if 6 < (M 6 0 2) then 6 else M 6 0 2 : Int32) = jmin (M 6 0 2) 6 from rfl]
  refine lv_istore_n (lv' := [(1, .int (jmin (M 6 0 2) 6)), (0, .ref (g 5 n0))]) C.x C.b dX5_weigh_12 rfl hl (by decide) rfl (fun ls hl => ?_)
  refine lv_aload_n C.x C.b dX5_weigh_13 rfl (lv_at hl 1 rfl) ?_
  refine jr_get C G jc5 6 (v := .ref (g 36 n0)) (show n0 < 3 by omega) (by decide) (by decide) rfl wd423 dX5_weigh_14 ?_
  refine lv_iload_n C.x C.b dX5_weigh_17 rfl (lv_at hl 0 rfl) ?_
  refine lv_iconst (v := 0) C.x C.b dX5_weigh_18 (by decide) ?_
  obtain ⟨hs, h⟩ := h
  refine jr_ast C G (show n0 < 3 by omega) (by decide) (by decide) (by decide) rfl rfl hs dX5_weigh_19 (fun H locs G => ?_)
  obtain ⟨M1, eM1⟩ : ∃ z : jM, z = jup M 36 n0 (jmin (M 6 0 2) 6).toNatClampNeg 0 := ⟨_, rfl⟩
  rw [← eM1] at G
  have h := h M1 eM1
  have nM1 : jnb M1 = jnb M := by rw [eM1]; exact jnb_up (by decide)
  refine lv_aload_n C.x C.b dX5_weigh_20 rfl (lv_at hl 1 rfl) ?_
  refine jr_get C G jc5 7 (v := .ref (g 37 n0)) (show n0 < 3 by omega) (by decide) (by decide) rfl wd424 dX5_weigh_21 ?_
  refine lv_iload_n C.x C.b dX5_weigh_24 rfl (lv_at hl 0 rfl) ?_
  refine lv_iconst (v := 0) C.x C.b dX5_weigh_25 (by decide) ?_
  obtain ⟨hs, h⟩ := h
  refine jr_ast C G (show n0 < 3 by omega) (by decide) (by decide) (by decide) rfl rfl hs dX5_weigh_26 (fun H locs G => ?_)
  obtain ⟨M2, eM2⟩ : ∃ z : jM, z = jup M1 37 n0 (jmin (M 6 0 2) 6).toNatClampNeg 0 := ⟨_, rfl⟩
  rw [← eM2] at G
  have h := h M2 eM2
  have nM2 : jnb M2 = jnb M1 := by rw [eM2]; exact jnb_up (by decide)
  refine lv_iload_n C.x C.b dX5_weigh_27 rfl (lv_at hl 0 rfl) ?_
  refine lv_iconst (v := 1) C.x C.b dX5_weigh_28 (by decide) ?_
  refine lv_isub C.x C.b dX5_weigh_29 ?_
  refine lv_istore_n (lv' := [(2, .int ((jmin (M 6 0 2) 6) - 1)), (1, .int (jmin (M 6 0 2) 6)), (0, .ref (g 5 n0))]) C.x C.b dX5_weigh_30 rfl hl (by decide) rfl (fun ls hl => ?_)
  exact h p l e s m args below meth c D cA base g C hr htb _ _ G ls (lv_sub hl [2, 1, 0] rfl)
set_option maxHeartbeats 4000000 in
set_option maxRecDepth 100000 in
theorem bl_X5_weigh_31 (n0 : Nat) (v1 : Int32) (v2 : Int32) (M : jM) (Q : Int32 → Nat → jM → Prop) (ha0 : n0 < 3)
  (h : (v2 < 0 → Q 0 0 M) ∧ (¬ (v2 < 0) → vp_in v2 7 ∧ (∀ M1 : jM, M1 = jup M 38 n0 v2.toNatClampNeg 0 → ok_X1_longest v2 M1 (fun r2 _ M3 => jnb M3 = jnb M1 ∧ at_X5_weigh_57 n0 v1 v2 (jmin r2 (v1 - v2)) M3 Q)))) :
  at_X5_weigh_31 n0 v1 v2 M Q := by
  intro p l e s m args below meth c D cA base g C hr htb H locs G ls hl
  refine lv_iload_n C.x C.b dX5_weigh_31 rfl (lv_at hl 2 rfl) ?_
  refine lv_if_lt (tgt := 209) C.x C.b dX5_weigh_32 (by decide) (fun hc => ?_) (fun hc => ?_)
  · have h := h.1 hc
    exact jr_retV C hr G h (by decide) (by decide) dX5_weigh_209
  · have h := h.2 hc
    refine lv_aload_n C.x C.b dX5_weigh_35 rfl (lv_at hl 0 rfl) ?_
    refine jr_get C G jc5 8 (v := .ref (g 38 n0)) (show n0 < 3 by omega) (by decide) (by decide) rfl wd425 dX5_weigh_36 ?_
    refine lv_iload_n C.x C.b dX5_weigh_39 rfl (lv_at hl 2 rfl) ?_
    refine lv_iconst (v := 0) C.x C.b dX5_weigh_40 (by decide) ?_
    obtain ⟨hs, h⟩ := h
    refine jr_ast C G (show n0 < 3 by omega) (by decide) (by decide) (by decide) rfl rfl hs dX5_weigh_41 (fun H locs G => ?_)
    obtain ⟨M1, eM1⟩ : ∃ z : jM, z = jup M 38 n0 v2.toNatClampNeg 0 := ⟨_, rfl⟩
    rw [← eM1] at G
    have h := h M1 eM1
    have nM1 : jnb M1 = jnb M := by rw [eM1]; exact jnb_up (by decide)
    refine lv_aload_n C.x C.b dX5_weigh_42 rfl (lv_at hl 0 rfl) ?_
    refine jr_get C G jc5 2 (v := .ref (g 1 0)) (show n0 < 3 by omega) (by decide) (by decide) rfl wd418 dX5_weigh_43 ?_
    refine lv_iload_n C.x C.b dX5_weigh_46 rfl (lv_at hl 2 rfl) ?_
    refine jr_V (d' := 4) C G jc1 jm_X1_longest wd1037 h rfl (show 0 < 1 by decide) (by decide) rfl rfl (by omega) (by decide) (by decide) ⟨rfl, rfl⟩ hl.1 (Nat.le_of_ble_eq_true rfl) dX5_weigh_47 (fun r2 r2n M3 H locs h G => ?_)
    obtain ⟨nM3, h⟩ := h
    refine lv_iload_n C.x C.b dX5_weigh_50 rfl (lv_at hl 1 rfl) ?_
    refine lv_iload_n C.x C.b dX5_weigh_51 rfl (lv_at hl 2 rfl) ?_
    refine lv_isub C.x C.b dX5_weigh_52 ?_
    refine va_mmin C.x C.b (C.ml.trans hl.1.symm) C.ow (C.w _ wd1036) (C.w _ wd890) (C.w _ wd94) (C.w _ wd891) (by decide) (Nat.le_of_ble_eq_true rfl) (by decide) (by decide) dX5_weigh_53 ?_
    rw [show (if (v1 - v2) < r2 then v1 - v2 else r2 : Int32) = jmin r2 (v1 - v2) from rfl]
    refine lv_istore_n (lv' := [(3, .int (jmin r2 (v1 - v2))), (0, .ref (g 5 n0)), (1, .int v1), (2, .int v2)]) C.x C.b dX5_weigh_56 rfl hl (by decide) rfl (fun ls hl => ?_)
    exact h p l e s m args below meth c D cA base g C hr htb _ _ G ls (lv_sub hl [1, 2, 3, 0] rfl)
set_option maxHeartbeats 4000000 in
set_option maxRecDepth 100000 in
theorem bl_X5_weigh_57 (n0 : Nat) (v1 : Int32) (v2 : Int32) (v3 : Int32) (M : jM) (Q : Int32 → Nat → jM → Prop) (ha0 : n0 < 3)
  (h : (v3 < 1 → at_X5_weigh_31 n0 v1 (v2 + (-1)) M Q) ∧ (¬ (v3 < 1) → ok_X1_take v2 ((v2 + v3) - 1) M (fun _ _ M2 => jnb M2 = jnb M ∧ ok_X9_begin (M2 40 0 (1 : Int32).toNatClampNeg) M2 (fun _ _ M4 => jnb M4 = jnb M2 ∧ ok_X1_perform_T  M4 (fun _ _ M6 => jnb M6 = jnb M4 ∧ vp_in (v2 + v3) 7 ∧ vp_in (v2 + v3) 7 ∧ vp_in v2 7 ∧ (M6 38 n0 v2.toNatClampNeg = 0 → vp_in v2 7 ∧ (∀ M7 : jM, M7 = jup M6 36 n0 v2.toNatClampNeg ((M6 9 0 3) + (M6 36 n0 (v2 + v3).toNatClampNeg)) → vp_in v2 7 ∧ (∀ M8 : jM, M8 = jup M7 37 n0 v2.toNatClampNeg (1 + (M6 37 n0 (v2 + v3).toNatClampNeg)) → vp_in v2 7 ∧ (∀ M9 : jM, M9 = jup M8 38 n0 v2.toNatClampNeg v3 → at_X5_weigh_57 n0 v1 v2 (v3 + (-1)) M9 Q)))) ∧ (¬ (M6 38 n0 v2.toNatClampNeg = 0) → vp_in v2 7 ∧ ((M6 36 n0 v2.toNatClampNeg) < ((M6 9 0 3) + (M6 36 n0 (v2 + v3).toNatClampNeg)) → vp_in v2 7 ∧ (∀ M10 : jM, M10 = jup M6 36 n0 v2.toNatClampNeg ((M6 9 0 3) + (M6 36 n0 (v2 + v3).toNatClampNeg)) → vp_in v2 7 ∧ (∀ M11 : jM, M11 = jup M10 37 n0 v2.toNatClampNeg (1 + (M6 37 n0 (v2 + v3).toNatClampNeg)) → vp_in v2 7 ∧ (∀ M12 : jM, M12 = jup M11 38 n0 v2.toNatClampNeg v3 → at_X5_weigh_57 n0 v1 v2 (v3 + (-1)) M12 Q)))) ∧ (¬ ((M6 36 n0 v2.toNatClampNeg) < ((M6 9 0 3) + (M6 36 n0 (v2 + v3).toNatClampNeg))) → vp_in v2 7 ∧ ((M6 9 0 3) + (M6 36 n0 (v2 + v3).toNatClampNeg) = (M6 36 n0 v2.toNatClampNeg) → vp_in v2 7 ∧ ((M6 37 n0 v2.toNatClampNeg) ≤ (1 + (M6 37 n0 (v2 + v3).toNatClampNeg)) → at_X5_weigh_57 n0 v1 v2 (v3 + (-1)) M6 Q) ∧ (¬ ((M6 37 n0 v2.toNatClampNeg) ≤ (1 + (M6 37 n0 (v2 + v3).toNatClampNeg))) → vp_in v2 7 ∧ (∀ M13 : jM, M13 = jup M6 36 n0 v2.toNatClampNeg ((M6 9 0 3) + (M6 36 n0 (v2 + v3).toNatClampNeg)) → vp_in v2 7 ∧ (∀ M14 : jM, M14 = jup M13 37 n0 v2.toNatClampNeg (1 + (M6 37 n0 (v2 + v3).toNatClampNeg)) → vp_in v2 7 ∧ (∀ M15 : jM, M15 = jup M14 38 n0 v2.toNatClampNeg v3 → at_X5_weigh_57 n0 v1 v2 (v3 + (-1)) M15 Q))))) ∧ (¬ ((M6 9 0 3) + (M6 36 n0 (v2 + v3).toNatClampNeg) = (M6 36 n0 v2.toNatClampNeg)) → at_X5_weigh_57 n0 v1 v2 (v3 + (-1)) M6 Q)))))))) :
  at_X5_weigh_57 n0 v1 v2 v3 M Q := by
  intro p l e s m args below meth c D cA base g C hr htb H locs G ls hl
  refine lv_iload_n C.x C.b dX5_weigh_57 rfl (lv_at hl 3 rfl) ?_
  refine lv_iconst (v := 1) C.x C.b dX5_weigh_58 (by decide) ?_
  refine lv_icmp_lt (tgt := 203) C.x C.b dX5_weigh_59 (by decide) (fun hc => ?_) (fun hc => ?_)
  · have h := h.1 hc
    refine lv_iinc (v := v2 + (-1)) (lv' := [(2, .int (v2 + (-1))), (0, .ref (g 5 n0)), (1, .int v1), (3, .int v3)]) C.x C.b dX5_weigh_203 hl (k := 2) rfl rfl (by decide) rfl (fun ls hl => ?_)
    refine lv_goto (tgt := 31) C.x C.b dX5_weigh_206 (by decide) ?_
    exact h p l e s m args below meth c D cA base g C hr htb _ _ G ls (lv_sub hl [1, 2, 0] rfl)
  · have h := h.2 hc
    refine lv_aload_n C.x C.b dX5_weigh_62 rfl (lv_at hl 0 rfl) ?_
    refine jr_get C G jc5 2 (v := .ref (g 1 0)) (show n0 < 3 by omega) (by decide) (by decide) rfl wd418 dX5_weigh_63 ?_
    refine lv_iload_n C.x C.b dX5_weigh_66 rfl (lv_at hl 2 rfl) ?_
    refine lv_iload_n C.x C.b dX5_weigh_67 rfl (lv_at hl 2 rfl) ?_
    refine lv_iload_n C.x C.b dX5_weigh_68 rfl (lv_at hl 3 rfl) ?_
    refine lv_iadd C.x C.b dX5_weigh_69 ?_
    refine lv_iconst (v := 1) C.x C.b dX5_weigh_70 (by decide) ?_
    refine lv_isub C.x C.b dX5_weigh_71 ?_
    refine jr_V (d' := 4) C G jc1 jm_X1_take wd1038 h rfl (show 0 < 1 by decide) (by decide) rfl rfl (by omega) (by decide) (by decide) ⟨rfl, rfl⟩ hl.1 (Nat.le_of_ble_eq_true rfl) dX5_weigh_72 (fun r1 r1n M2 H locs h G => ?_)
    obtain ⟨nM2, h⟩ := h
    refine lv_aload_n C.x C.b dX5_weigh_75 rfl (lv_at hl 0 rfl) ?_
    refine jr_get C G jc5 3 (v := .ref (g 9 0)) (show n0 < 3 by omega) (by decide) (by decide) rfl wd419 dX5_weigh_76 ?_
    refine lv_aload_n C.x C.b dX5_weigh_79 rfl (lv_at hl 0 rfl) ?_
    refine jr_get C G jc5 1 (v := .ref (g 6 0)) (show n0 < 3 by omega) (by decide) (by decide) rfl wd417 dX5_weigh_80 ?_
    refine jr_get C G jc6 1 (v := .ref (g 40 0)) (show 0 < 2 by decide) (by decide) (by decide) rfl wd271 dX5_weigh_83 ?_
    refine lv_iconst (v := 1) C.x C.b dX5_weigh_86 (by decide) ?_
    refine jr_ald C G (show 0 < 2 by decide) (by decide) (by decide) (by decide) rfl rfl (by unfold vp_in; decide) dX5_weigh_87 ?_
    refine jr_V (d' := 4) C G jc9 jm_X9_begin wd1039 h rfl (show 0 < 1 by decide) (by decide) rfl rfl (by omega) (by decide) (by decide) ⟨rfl, rfl⟩ hl.1 (Nat.le_of_ble_eq_true rfl) dX5_weigh_88 (fun r3 r3n M4 H locs h G => ?_)
    obtain ⟨nM4, h⟩ := h
    refine lv_aload_n C.x C.b dX5_weigh_91 rfl (lv_at hl 0 rfl) ?_
    refine jr_get C G jc5 2 (v := .ref (g 1 0)) (show n0 < 3 by omega) (by decide) (by decide) rfl wd418 dX5_weigh_92 ?_
    refine lv_aload_n C.x C.b dX5_weigh_95 rfl (lv_at hl 0 rfl) ?_
    refine jr_get C G jc5 3 (v := .ref (g 9 0)) (show n0 < 3 by omega) (by decide) (by decide) rfl wd419 dX5_weigh_96 ?_
    refine jr_V (d' := 4) C G jc1 jm_X1_perform wd1047 h rfl (show 0 < 1 by decide) (by decide) rfl rfl (by omega) (by decide) (by decide) ⟨rfl, rfl⟩ hl.1 (Nat.le_of_ble_eq_true rfl) dX5_weigh_99 (fun r5 r5n M6 H locs h G => ?_)
    obtain ⟨nM6, h⟩ := h
    refine lv_aload_n C.x C.b dX5_weigh_102 rfl (lv_at hl 0 rfl) ?_
    refine jr_get C G jc5 3 (v := .ref (g 9 0)) (show n0 < 3 by omega) (by decide) (by decide) rfl wd419 dX5_weigh_103 ?_
    refine jr_get C G jc9 3 (v := .int (M6 9 0 3)) (show 0 < 1 by decide) (by decide) (by decide) rfl wd378 dX5_weigh_106 ?_
    refine lv_aload_n C.x C.b dX5_weigh_109 rfl (lv_at hl 0 rfl) ?_
    refine jr_get C G jc5 6 (v := .ref (g 36 n0)) (show n0 < 3 by omega) (by decide) (by decide) rfl wd423 dX5_weigh_110 ?_
    refine lv_iload_n C.x C.b dX5_weigh_113 rfl (lv_at hl 2 rfl) ?_
    refine lv_iload_n C.x C.b dX5_weigh_114 rfl (lv_at hl 3 rfl) ?_
    refine lv_iadd C.x C.b dX5_weigh_115 ?_
    obtain ⟨hs, h⟩ := h
    refine jr_ald C G (show n0 < 3 by omega) (by decide) (by decide) (by decide) rfl rfl hs dX5_weigh_116 ?_
    refine lv_iadd C.x C.b dX5_weigh_117 ?_
    refine lv_istore (lv' := [(4, .int ((M6 9 0 3) + (M6 36 n0 (v2 + v3).toNatClampNeg))), (0, .ref (g 5 n0)), (1, .int v1), (2, .int v2), (3, .int v3)]) C.x C.b dX5_weigh_118 hl (by decide) rfl (fun ls hl => ?_)
    refine lv_iconst (v := 1) C.x C.b dX5_weigh_120 (by decide) ?_
    refine lv_aload_n C.x C.b dX5_weigh_121 rfl (lv_at hl 1 rfl) ?_
    refine jr_get C G jc5 7 (v := .ref (g 37 n0)) (show n0 < 3 by omega) (by decide) (by decide) rfl wd424 dX5_weigh_122 ?_
    refine lv_iload_n C.x C.b dX5_weigh_125 rfl (lv_at hl 3 rfl) ?_
    refine lv_iload_n C.x C.b dX5_weigh_126 rfl (lv_at hl 4 rfl) ?_
    refine lv_iadd C.x C.b dX5_weigh_127 ?_
    obtain ⟨hs, h⟩ := h
    refine jr_ald C G (show n0 < 3 by omega) (by decide) (by decide) (by decide) rfl rfl hs dX5_weigh_128 ?_
    refine lv_iadd C.x C.b dX5_weigh_129 ?_
    refine lv_istore (lv' := [(5, .int (1 + (M6 37 n0 (v2 + v3).toNatClampNeg))), (4, .int ((M6 9 0 3) + (M6 36 n0 (v2 + v3).toNatClampNeg))), (0, .ref (g 5 n0)), (1, .int v1), (2, .int v2), (3, .int v3)]) C.x C.b dX5_weigh_130 hl (by decide) rfl (fun ls hl => ?_)
    refine lv_aload_n C.x C.b dX5_weigh_132 rfl (lv_at hl 2 rfl) ?_
    refine jr_get C G jc5 8 (v := .ref (g 38 n0)) (show n0 < 3 by omega) (by decide) (by decide) rfl wd425 dX5_weigh_133 ?_
    refine lv_iload_n C.x C.b dX5_weigh_136 rfl (lv_at hl 4 rfl) ?_
    obtain ⟨hs, h⟩ := h
    refine jr_ald C G (show n0 < 3 by omega) (by decide) (by decide) (by decide) rfl rfl hs dX5_weigh_137 ?_
    refine lv_if_eq (tgt := 174) C.x C.b dX5_weigh_138 (by decide) (fun hc => ?_) (fun hc => ?_)
    · have h := h.1 hc
      refine lv_aload_n C.x C.b dX5_weigh_174 rfl (lv_at hl 2 rfl) ?_
      refine jr_get C G jc5 6 (v := .ref (g 36 n0)) (show n0 < 3 by omega) (by decide) (by decide) rfl wd423 dX5_weigh_175 ?_
      refine lv_iload_n C.x C.b dX5_weigh_178 rfl (lv_at hl 4 rfl) ?_
      refine lv_iload C.x C.b dX5_weigh_179 (lv_at hl 1 rfl) ?_
      obtain ⟨hs, h⟩ := h
      refine jr_ast C G (show n0 < 3 by omega) (by decide) (by decide) (by decide) rfl rfl hs dX5_weigh_181 (fun H locs G => ?_)
      obtain ⟨M7, eM7⟩ : ∃ z : jM, z = jup M6 36 n0 v2.toNatClampNeg ((M6 9 0 3) + (M6 36 n0 (v2 + v3).toNatClampNeg)) := ⟨_, rfl⟩
      rw [← eM7] at G
      have h := h M7 eM7
      have nM7 : jnb M7 = jnb M6 := by rw [eM7]; exact jnb_up (by decide)
      refine lv_aload_n C.x C.b dX5_weigh_182 rfl (lv_at hl 2 rfl) ?_
      refine jr_get C G jc5 7 (v := .ref (g 37 n0)) (show n0 < 3 by omega) (by decide) (by decide) rfl wd424 dX5_weigh_183 ?_
      refine lv_iload_n C.x C.b dX5_weigh_186 rfl (lv_at hl 4 rfl) ?_
      refine lv_iload C.x C.b dX5_weigh_187 (lv_at hl 0 rfl) ?_
      obtain ⟨hs, h⟩ := h
      refine jr_ast C G (show n0 < 3 by omega) (by decide) (by decide) (by decide) rfl rfl hs dX5_weigh_189 (fun H locs G => ?_)
      obtain ⟨M8, eM8⟩ : ∃ z : jM, z = jup M7 37 n0 v2.toNatClampNeg (1 + (M6 37 n0 (v2 + v3).toNatClampNeg)) := ⟨_, rfl⟩
      rw [← eM8] at G
      have h := h M8 eM8
      have nM8 : jnb M8 = jnb M7 := by rw [eM8]; exact jnb_up (by decide)
      refine lv_aload_n C.x C.b dX5_weigh_190 rfl (lv_at hl 2 rfl) ?_
      refine jr_get C G jc5 8 (v := .ref (g 38 n0)) (show n0 < 3 by omega) (by decide) (by decide) rfl wd425 dX5_weigh_191 ?_
      refine lv_iload_n C.x C.b dX5_weigh_194 rfl (lv_at hl 4 rfl) ?_
      refine lv_iload_n C.x C.b dX5_weigh_195 rfl (lv_at hl 5 rfl) ?_
      obtain ⟨hs, h⟩ := h
      refine jr_ast C G (show n0 < 3 by omega) (by decide) (by decide) (by decide) rfl rfl hs dX5_weigh_196 (fun H locs G => ?_)
      obtain ⟨M9, eM9⟩ : ∃ z : jM, z = jup M8 38 n0 v2.toNatClampNeg v3 := ⟨_, rfl⟩
      rw [← eM9] at G
      have h := h M9 eM9
      have nM9 : jnb M9 = jnb M8 := by rw [eM9]; exact jnb_up (by decide)
      refine lv_iinc (v := v3 + (-1)) (lv' := [(3, .int (v3 + (-1))), (5, .int (1 + (M6 37 n0 (v2 + v3).toNatClampNeg))), (4, .int ((M6 9 0 3) + (M6 36 n0 (v2 + v3).toNatClampNeg))), (0, .ref (g 5 n0)), (1, .int v1), (2, .int v2)]) C.x C.b dX5_weigh_197 hl (k := 5) rfl rfl (by decide) rfl (fun ls hl => ?_)
      refine lv_goto (tgt := 57) C.x C.b dX5_weigh_200 (by decide) ?_
      exact h p l e s m args below meth c D cA base g C hr htb _ _ G ls (lv_sub hl [3, 4, 5, 0] rfl)
    · have h := h.2 hc
      refine lv_iload C.x C.b dX5_weigh_141 (lv_at hl 1 rfl) ?_
      refine lv_aload_n C.x C.b dX5_weigh_143 rfl (lv_at hl 2 rfl) ?_
      refine jr_get C G jc5 6 (v := .ref (g 36 n0)) (show n0 < 3 by omega) (by decide) (by decide) rfl wd423 dX5_weigh_144 ?_
      refine lv_iload_n C.x C.b dX5_weigh_147 rfl (lv_at hl 4 rfl) ?_
      obtain ⟨hs, h⟩ := h
      refine jr_ald C G (show n0 < 3 by omega) (by decide) (by decide) (by decide) rfl rfl hs dX5_weigh_148 ?_
      refine lv_icmp_gt (tgt := 174) C.x C.b dX5_weigh_149 (by decide) (fun hc => ?_) (fun hc => ?_)
      · have h := h.1 hc
        refine lv_aload_n C.x C.b dX5_weigh_174 rfl (lv_at hl 2 rfl) ?_
        refine jr_get C G jc5 6 (v := .ref (g 36 n0)) (show n0 < 3 by omega) (by decide) (by decide) rfl wd423 dX5_weigh_175 ?_
        refine lv_iload_n C.x C.b dX5_weigh_178 rfl (lv_at hl 4 rfl) ?_
        refine lv_iload C.x C.b dX5_weigh_179 (lv_at hl 1 rfl) ?_
        obtain ⟨hs, h⟩ := h
        refine jr_ast C G (show n0 < 3 by omega) (by decide) (by decide) (by decide) rfl rfl hs dX5_weigh_181 (fun H locs G => ?_)
        obtain ⟨M10, eM10⟩ : ∃ z : jM, z = jup M6 36 n0 v2.toNatClampNeg ((M6 9 0 3) + (M6 36 n0 (v2 + v3).toNatClampNeg)) := ⟨_, rfl⟩
        rw [← eM10] at G
        have h := h M10 eM10
        have nM10 : jnb M10 = jnb M6 := by rw [eM10]; exact jnb_up (by decide)
        refine lv_aload_n C.x C.b dX5_weigh_182 rfl (lv_at hl 2 rfl) ?_
        refine jr_get C G jc5 7 (v := .ref (g 37 n0)) (show n0 < 3 by omega) (by decide) (by decide) rfl wd424 dX5_weigh_183 ?_
        refine lv_iload_n C.x C.b dX5_weigh_186 rfl (lv_at hl 4 rfl) ?_
        refine lv_iload C.x C.b dX5_weigh_187 (lv_at hl 0 rfl) ?_
        obtain ⟨hs, h⟩ := h
        refine jr_ast C G (show n0 < 3 by omega) (by decide) (by decide) (by decide) rfl rfl hs dX5_weigh_189 (fun H locs G => ?_)
        obtain ⟨M11, eM11⟩ : ∃ z : jM, z = jup M10 37 n0 v2.toNatClampNeg (1 + (M6 37 n0 (v2 + v3).toNatClampNeg)) := ⟨_, rfl⟩
        rw [← eM11] at G
        have h := h M11 eM11
        have nM11 : jnb M11 = jnb M10 := by rw [eM11]; exact jnb_up (by decide)
        refine lv_aload_n C.x C.b dX5_weigh_190 rfl (lv_at hl 2 rfl) ?_
        refine jr_get C G jc5 8 (v := .ref (g 38 n0)) (show n0 < 3 by omega) (by decide) (by decide) rfl wd425 dX5_weigh_191 ?_
        refine lv_iload_n C.x C.b dX5_weigh_194 rfl (lv_at hl 4 rfl) ?_
        refine lv_iload_n C.x C.b dX5_weigh_195 rfl (lv_at hl 5 rfl) ?_
        obtain ⟨hs, h⟩ := h
        refine jr_ast C G (show n0 < 3 by omega) (by decide) (by decide) (by decide) rfl rfl hs dX5_weigh_196 (fun H locs G => ?_)
        obtain ⟨M12, eM12⟩ : ∃ z : jM, z = jup M11 38 n0 v2.toNatClampNeg v3 := ⟨_, rfl⟩
        rw [← eM12] at G
        have h := h M12 eM12
        have nM12 : jnb M12 = jnb M11 := by rw [eM12]; exact jnb_up (by decide)
        refine lv_iinc (v := v3 + (-1)) (lv' := [(3, .int (v3 + (-1))), (5, .int (1 + (M6 37 n0 (v2 + v3).toNatClampNeg))), (4, .int ((M6 9 0 3) + (M6 36 n0 (v2 + v3).toNatClampNeg))), (0, .ref (g 5 n0)), (1, .int v1), (2, .int v2)]) C.x C.b dX5_weigh_197 hl (k := 5) rfl rfl (by decide) rfl (fun ls hl => ?_)
        refine lv_goto (tgt := 57) C.x C.b dX5_weigh_200 (by decide) ?_
        exact h p l e s m args below meth c D cA base g C hr htb _ _ G ls (lv_sub hl [3, 4, 5, 0] rfl)
      · have h := h.2 hc
        refine lv_iload C.x C.b dX5_weigh_152 (lv_at hl 1 rfl) ?_
        refine lv_aload_n C.x C.b dX5_weigh_154 rfl (lv_at hl 2 rfl) ?_
        refine jr_get C G jc5 6 (v := .ref (g 36 n0)) (show n0 < 3 by omega) (by decide) (by decide) rfl wd423 dX5_weigh_155 ?_
        refine lv_iload_n C.x C.b dX5_weigh_158 rfl (lv_at hl 4 rfl) ?_
        obtain ⟨hs, h⟩ := h
        refine jr_ald C G (show n0 < 3 by omega) (by decide) (by decide) (by decide) rfl rfl hs dX5_weigh_159 ?_
        refine lv_icmp_ne (tgt := 197) C.x C.b dX5_weigh_160 (by decide) (fun hc => ?_) (fun hc => ?_)
        · have h := h.2 hc
          refine lv_iinc (v := v3 + (-1)) (lv' := [(3, .int (v3 + (-1))), (5, .int (1 + (M6 37 n0 (v2 + v3).toNatClampNeg))), (4, .int ((M6 9 0 3) + (M6 36 n0 (v2 + v3).toNatClampNeg))), (0, .ref (g 5 n0)), (1, .int v1), (2, .int v2)]) C.x C.b dX5_weigh_197 hl (k := 5) rfl rfl (by decide) rfl (fun ls hl => ?_)
          refine lv_goto (tgt := 57) C.x C.b dX5_weigh_200 (by decide) ?_
          exact h p l e s m args below meth c D cA base g C hr htb _ _ G ls (lv_sub hl [3, 4, 5, 0] rfl)
        · have h := h.1 hc
          refine lv_iload C.x C.b dX5_weigh_163 (lv_at hl 0 rfl) ?_
          refine lv_aload_n C.x C.b dX5_weigh_165 rfl (lv_at hl 2 rfl) ?_
          refine jr_get C G jc5 7 (v := .ref (g 37 n0)) (show n0 < 3 by omega) (by decide) (by decide) rfl wd424 dX5_weigh_166 ?_
          refine lv_iload_n C.x C.b dX5_weigh_169 rfl (lv_at hl 4 rfl) ?_
          obtain ⟨hs, h⟩ := h
          refine jr_ald C G (show n0 < 3 by omega) (by decide) (by decide) (by decide) rfl rfl hs dX5_weigh_170 ?_
          refine lv_icmp_ge (tgt := 197) C.x C.b dX5_weigh_171 (by decide) (fun hc => ?_) (fun hc => ?_)
          · have h := h.1 hc
            refine lv_iinc (v := v3 + (-1)) (lv' := [(3, .int (v3 + (-1))), (5, .int (1 + (M6 37 n0 (v2 + v3).toNatClampNeg))), (4, .int ((M6 9 0 3) + (M6 36 n0 (v2 + v3).toNatClampNeg))), (0, .ref (g 5 n0)), (1, .int v1), (2, .int v2)]) C.x C.b dX5_weigh_197 hl (k := 5) rfl rfl (by decide) rfl (fun ls hl => ?_)
            refine lv_goto (tgt := 57) C.x C.b dX5_weigh_200 (by decide) ?_
            exact h p l e s m args below meth c D cA base g C hr htb _ _ G ls (lv_sub hl [3, 4, 5, 0] rfl)
          · have h := h.2 hc
            refine lv_aload_n C.x C.b dX5_weigh_174 rfl (lv_at hl 2 rfl) ?_
            refine jr_get C G jc5 6 (v := .ref (g 36 n0)) (show n0 < 3 by omega) (by decide) (by decide) rfl wd423 dX5_weigh_175 ?_
            refine lv_iload_n C.x C.b dX5_weigh_178 rfl (lv_at hl 4 rfl) ?_
            refine lv_iload C.x C.b dX5_weigh_179 (lv_at hl 1 rfl) ?_
            obtain ⟨hs, h⟩ := h
            refine jr_ast C G (show n0 < 3 by omega) (by decide) (by decide) (by decide) rfl rfl hs dX5_weigh_181 (fun H locs G => ?_)
            obtain ⟨M13, eM13⟩ : ∃ z : jM, z = jup M6 36 n0 v2.toNatClampNeg ((M6 9 0 3) + (M6 36 n0 (v2 + v3).toNatClampNeg)) := ⟨_, rfl⟩
            rw [← eM13] at G
            have h := h M13 eM13
            have nM13 : jnb M13 = jnb M6 := by rw [eM13]; exact jnb_up (by decide)
            refine lv_aload_n C.x C.b dX5_weigh_182 rfl (lv_at hl 2 rfl) ?_
            refine jr_get C G jc5 7 (v := .ref (g 37 n0)) (show n0 < 3 by omega) (by decide) (by decide) rfl wd424 dX5_weigh_183 ?_
            refine lv_iload_n C.x C.b dX5_weigh_186 rfl (lv_at hl 4 rfl) ?_
            refine lv_iload C.x C.b dX5_weigh_187 (lv_at hl 0 rfl) ?_
            obtain ⟨hs, h⟩ := h
            refine jr_ast C G (show n0 < 3 by omega) (by decide) (by decide) (by decide) rfl rfl hs dX5_weigh_189 (fun H locs G => ?_)
            obtain ⟨M14, eM14⟩ : ∃ z : jM, z = jup M13 37 n0 v2.toNatClampNeg (1 + (M6 37 n0 (v2 + v3).toNatClampNeg)) := ⟨_, rfl⟩
            rw [← eM14] at G
            have h := h M14 eM14
            have nM14 : jnb M14 = jnb M13 := by rw [eM14]; exact jnb_up (by decide)
            refine lv_aload_n C.x C.b dX5_weigh_190 rfl (lv_at hl 2 rfl) ?_
            refine jr_get C G jc5 8 (v := .ref (g 38 n0)) (show n0 < 3 by omega) (by decide) (by decide) rfl wd425 dX5_weigh_191 ?_
            refine lv_iload_n C.x C.b dX5_weigh_194 rfl (lv_at hl 4 rfl) ?_
            refine lv_iload_n C.x C.b dX5_weigh_195 rfl (lv_at hl 5 rfl) ?_
            obtain ⟨hs, h⟩ := h
            refine jr_ast C G (show n0 < 3 by omega) (by decide) (by decide) (by decide) rfl rfl hs dX5_weigh_196 (fun H locs G => ?_)
            obtain ⟨M15, eM15⟩ : ∃ z : jM, z = jup M14 38 n0 v2.toNatClampNeg v3 := ⟨_, rfl⟩
            rw [← eM15] at G
            have h := h M15 eM15
            have nM15 : jnb M15 = jnb M14 := by rw [eM15]; exact jnb_up (by decide)
            refine lv_iinc (v := v3 + (-1)) (lv' := [(3, .int (v3 + (-1))), (5, .int (1 + (M6 37 n0 (v2 + v3).toNatClampNeg))), (4, .int ((M6 9 0 3) + (M6 36 n0 (v2 + v3).toNatClampNeg))), (0, .ref (g 5 n0)), (1, .int v1), (2, .int v2)]) C.x C.b dX5_weigh_197 hl (k := 5) rfl rfl (by decide) rfl (fun ls hl => ?_)
            refine lv_goto (tgt := 57) C.x C.b dX5_weigh_200 (by decide) ?_
            exact h p l e s m args below meth c D cA base g C hr htb _ _ G ls (lv_sub hl [3, 4, 5, 0] rfl)

theorem en_X5_execute {n0 : Nat} {M : jM} {Q : Int32 → Nat → jM → Prop} (h : at_X5_execute_0 n0 M Q) : ok_X5_execute n0 M Q := jr_enter (by decide) (fun g => rfl) (fun g => Nat.le_of_ble_eq_true rfl) h
set_option maxHeartbeats 4000000 in
set_option maxRecDepth 100000 in
theorem bl_X5_execute_0 (n0 : Nat) (M : jM) (Q : Int32 → Nat → jM → Prop) (ha0 : n0 < 3)
  (h : (M 5 n0 11 = (M 6 0 3) → Q 0 0 M) ∧ (¬ (M 5 n0 11 = (M 6 0 3)) → ok_X4_begin (n0 + 1) (M 40 0 (2 : Int32).toNatClampNeg) M (fun _ _ M2 => jnb M2 = jnb M ∧ at_X5_execute_33 n0 0 M2 Q))) :
  at_X5_execute_0 n0 M Q := by
  intro p l e s m args below meth c D cA base g C hr htb H locs G ls hl
  refine lv_aload_n C.x C.b dX5_execute_0 rfl (lv_at hl 0 rfl) ?_
  refine jr_get C G jc5 11 (v := .int (M 5 n0 11)) (show n0 < 3 by omega) (by decide) (by decide) rfl wd429 dX5_execute_1 ?_
  refine lv_aload_n C.x C.b dX5_execute_4 rfl (lv_at hl 0 rfl) ?_
  refine jr_get C G jc5 1 (v := .ref (g 6 0)) (show n0 < 3 by omega) (by decide) (by decide) rfl wd417 dX5_execute_5 ?_
  refine jr_get C G jc6 3 (v := .int (M 6 0 3)) (show 0 < 2 by decide) (by decide) (by decide) rfl wd279 dX5_execute_8 ?_
  refine lv_icmp_ne (tgt := 15) C.x C.b dX5_execute_11 (by decide) (fun hc => ?_) (fun hc => ?_)
  · have h := h.2 hc
    refine lv_aload_n C.x C.b dX5_execute_15 rfl (lv_at hl 0 rfl) ?_
    refine jr_get C G jc5 4 (v := .ref (g 4 (n0 + 1))) (show n0 < 3 by omega) (by decide) (by decide) rfl wd420 dX5_execute_16 ?_
    refine lv_aload_n C.x C.b dX5_execute_19 rfl (lv_at hl 0 rfl) ?_
    refine jr_get C G jc5 1 (v := .ref (g 6 0)) (show n0 < 3 by omega) (by decide) (by decide) rfl wd417 dX5_execute_20 ?_
    refine jr_get C G jc6 1 (v := .ref (g 40 0)) (show 0 < 2 by decide) (by decide) (by decide) rfl wd271 dX5_execute_23 ?_
    refine lv_iconst (v := 2) C.x C.b dX5_execute_26 (by decide) ?_
    refine jr_ald C G (show 0 < 2 by decide) (by decide) (by decide) (by decide) rfl rfl (by unfold vp_in; decide) dX5_execute_27 ?_
    refine jr_V (d' := 4) C G jc4 jm_X4_begin wd1160 h rfl (show (n0 + 1) < 4 by omega) (by decide) rfl rfl (by omega) (by decide) (by decide) ⟨rfl, rfl⟩ hl.1 (Nat.le_of_ble_eq_true rfl) dX5_execute_28 (fun r1 r1n M2 H locs h G => ?_)
    obtain ⟨nM2, h⟩ := h
    refine lv_iconst (v := 0) C.x C.b dX5_execute_31 (by decide) ?_
    refine lv_istore_n (lv' := [(1, .int 0), (0, .ref (g 5 n0))]) C.x C.b dX5_execute_32 rfl hl (by decide) rfl (fun ls hl => ?_)
    exact h p l e s m args below meth c D cA base g C hr htb _ _ G ls (lv_sub hl [1, 0] rfl)
  · have h := h.1 hc
    exact jr_retV C hr G h (by decide) (by decide) dX5_execute_14
set_option maxHeartbeats 4000000 in
set_option maxRecDepth 100000 in
theorem bl_X5_execute_33 (n0 : Nat) (v1 : Int32) (M : jM) (Q : Int32 → Nat → jM → Prop) (ha0 : n0 < 3)
  (h : ((M 5 n0 9) ≤ v1 → (∀ M1 : jM, M1 = jup M 5 n0 11 (M 6 0 3) → Q 0 0 M1)) ∧ (¬ ((M 5 n0 9) ≤ v1) → ok_X5_takeGroup n0 v1 M (fun _ _ M3 => jnb M3 = jnb M ∧ ok_X1_perform_M (n0 + 1) M3 (fun _ _ M5 => jnb M5 = jnb M3 ∧ at_X5_execute_33 n0 (v1 + 1) M5 Q)))) :
  at_X5_execute_33 n0 v1 M Q := by
  intro p l e s m args below meth c D cA base g C hr htb H locs G ls hl
  refine lv_iload_n C.x C.b dX5_execute_33 rfl (lv_at hl 1 rfl) ?_
  refine lv_aload_n C.x C.b dX5_execute_34 rfl (lv_at hl 0 rfl) ?_
  refine jr_get C G jc5 9 (v := .int (M 5 n0 9)) (show n0 < 3 by omega) (by decide) (by decide) rfl wd426 dX5_execute_35 ?_
  refine lv_icmp_ge (tgt := 63) C.x C.b dX5_execute_38 (by decide) (fun hc => ?_) (fun hc => ?_)
  · have h := h.1 hc
    refine lv_aload_n C.x C.b dX5_execute_63 rfl (lv_at hl 0 rfl) ?_
    refine lv_aload_n C.x C.b dX5_execute_64 rfl (lv_at hl 0 rfl) ?_
    refine jr_get C G jc5 1 (v := .ref (g 6 0)) (show n0 < 3 by omega) (by decide) (by decide) rfl wd417 dX5_execute_65 ?_
    refine jr_get C G jc6 3 (v := .int (M 6 0 3)) (show 0 < 2 by decide) (by decide) (by decide) rfl wd279 dX5_execute_68 ?_
    refine jr_put C G jc5 11 (v := M 6 0 3) (show n0 < 3 by omega) (by decide) (by decide) rfl (by decide) wd429 rfl rfl rfl rfl dX5_execute_71 (fun H locs G => ?_)
    obtain ⟨M1, eM1⟩ : ∃ z : jM, z = jup M 5 n0 11 (M 6 0 3) := ⟨_, rfl⟩
    rw [← eM1] at G
    have h := h M1 eM1
    have nM1 : jnb M1 = jnb M := by rw [eM1]; exact jnb_up (by decide)
    exact jr_retV C hr G h (by decide) (by decide) dX5_execute_74
  · have h := h.2 hc
    refine lv_aload_n C.x C.b dX5_execute_41 rfl (lv_at hl 0 rfl) ?_
    refine lv_iload_n C.x C.b dX5_execute_42 rfl (lv_at hl 1 rfl) ?_
    refine jr_V (d' := 4) C G jc5 jm_X5_takeGroup wd1161 h rfl (show n0 < 3 by omega) (by decide) rfl rfl (by omega) (by decide) (by decide) ⟨rfl, rfl⟩ hl.1 (Nat.le_of_ble_eq_true rfl) dX5_execute_43 (fun r2 r2n M3 H locs h G => ?_)
    obtain ⟨nM3, h⟩ := h
    refine lv_aload_n C.x C.b dX5_execute_46 rfl (lv_at hl 0 rfl) ?_
    refine jr_get C G jc5 2 (v := .ref (g 1 0)) (show n0 < 3 by omega) (by decide) (by decide) rfl wd418 dX5_execute_47 ?_
    refine lv_aload_n C.x C.b dX5_execute_50 rfl (lv_at hl 0 rfl) ?_
    refine jr_get C G jc5 4 (v := .ref (g 4 (n0 + 1))) (show n0 < 3 by omega) (by decide) (by decide) rfl wd420 dX5_execute_51 ?_
    refine jr_V (d' := 4) C G jc1 jm_X1_perform wd1047 h rfl (show 0 < 1 by decide) (by decide) rfl rfl (by omega) (by decide) (by decide) ⟨rfl, rfl⟩ hl.1 (Nat.le_of_ble_eq_true rfl) dX5_execute_54 (fun r4 r4n M5 H locs h G => ?_)
    obtain ⟨nM5, h⟩ := h
    refine lv_iinc (v := v1 + 1) (lv' := [(1, .int (v1 + 1)), (0, .ref (g 5 n0))]) C.x C.b dX5_execute_57 hl (k := 1) rfl rfl (by decide) rfl (fun ls hl => ?_)
    refine lv_goto (tgt := 33) C.x C.b dX5_execute_60 (by decide) ?_
    exact h p l e s m args below meth c D cA base g C hr htb _ _ G ls (lv_sub hl [1, 0] rfl)

theorem en_X5_make {n0 : Nat} {M : jM} {Q : Int32 → Nat → jM → Prop} (h : at_X5_make_0 n0 M Q) : ok_X5_make n0 M Q := jr_enter (by decide) (fun g => rfl) (fun g => Nat.le_of_ble_eq_true rfl) h
set_option maxHeartbeats 4000000 in
set_option maxRecDepth 100000 in
theorem bl_X5_make_0 (n0 : Nat) (M : jM) (Q : Int32 → Nat → jM → Prop) (ha0 : n0 < 3)
  (h : (M 5 n0 10 = (M 6 0 3) → Q 0 0 M) ∧ (¬ (M 5 n0 10 = (M 6 0 3)) → (M 5 n0 0 = 0 → (∀ M1 : jM, M1 = jup M 5 n0 9 0 → at_X5_make_43 n0 0 0 M1 Q)) ∧ (¬ (M 5 n0 0 = 0) → (M 5 n0 0 = 1 → (∀ M2 : jM, M2 = jup M 5 n0 9 0 → at_X5_make_43 n0 0 0 M2 Q)) ∧ (¬ (M 5 n0 0 = 1) → ok_X5_weigh n0 M (fun _ _ M4 => jnb M4 = jnb M ∧ (∀ M5 : jM, M5 = jup M4 5 n0 9 0 → at_X5_make_43 n0 0 0 M5 Q)))))) :
  at_X5_make_0 n0 M Q := by
  intro p l e s m args below meth c D cA base g C hr htb H locs G ls hl
  refine lv_aload_n C.x C.b dX5_make_0 rfl (lv_at hl 0 rfl) ?_
  refine jr_get C G jc5 10 (v := .int (M 5 n0 10)) (show n0 < 3 by omega) (by decide) (by decide) rfl wd428 dX5_make_1 ?_
  refine lv_aload_n C.x C.b dX5_make_4 rfl (lv_at hl 0 rfl) ?_
  refine jr_get C G jc5 1 (v := .ref (g 6 0)) (show n0 < 3 by omega) (by decide) (by decide) rfl wd417 dX5_make_5 ?_
  refine jr_get C G jc6 3 (v := .int (M 6 0 3)) (show 0 < 2 by decide) (by decide) (by decide) rfl wd279 dX5_make_8 ?_
  refine lv_icmp_ne (tgt := 15) C.x C.b dX5_make_11 (by decide) (fun hc => ?_) (fun hc => ?_)
  · have h := h.2 hc
    refine lv_aload_n C.x C.b dX5_make_15 rfl (lv_at hl 0 rfl) ?_
    refine jr_get C G jc5 0 (v := .int (M 5 n0 0)) (show n0 < 3 by omega) (by decide) (by decide) rfl wd416 dX5_make_16 ?_
    refine lv_if_eq (tgt := 34) C.x C.b dX5_make_19 (by decide) (fun hc => ?_) (fun hc => ?_)
    · have h := h.1 hc
      refine lv_aload_n C.x C.b dX5_make_34 rfl (lv_at hl 0 rfl) ?_
      refine lv_iconst (v := 0) C.x C.b dX5_make_35 (by decide) ?_
      refine jr_put C G jc5 9 (v := 0) (show n0 < 3 by omega) (by decide) (by decide) rfl (by decide) wd426 rfl rfl rfl rfl dX5_make_36 (fun H locs G => ?_)
      obtain ⟨M1, eM1⟩ : ∃ z : jM, z = jup M 5 n0 9 0 := ⟨_, rfl⟩
      rw [← eM1] at G
      have h := h M1 eM1
      have nM1 : jnb M1 = jnb M := by rw [eM1]; exact jnb_up (by decide)
      refine lv_iconst (v := 0) C.x C.b dX5_make_39 (by decide) ?_
      refine lv_istore_n (lv' := [(1, .int 0), (0, .ref (g 5 n0))]) C.x C.b dX5_make_40 rfl hl (by decide) rfl (fun ls hl => ?_)
      refine lv_iconst (v := 0) C.x C.b dX5_make_41 (by decide) ?_
      refine lv_istore_n (lv' := [(2, .int 0), (1, .int 0), (0, .ref (g 5 n0))]) C.x C.b dX5_make_42 rfl hl (by decide) rfl (fun ls hl => ?_)
      exact h p l e s m args below meth c D cA base g C hr htb _ _ G ls (lv_sub hl [2, 1, 0] rfl)
    · have h := h.2 hc
      refine lv_aload_n C.x C.b dX5_make_22 rfl (lv_at hl 0 rfl) ?_
      refine jr_get C G jc5 0 (v := .int (M 5 n0 0)) (show n0 < 3 by omega) (by decide) (by decide) rfl wd416 dX5_make_23 ?_
      refine lv_iconst (v := 1) C.x C.b dX5_make_26 (by decide) ?_
      refine lv_icmp_eq (tgt := 34) C.x C.b dX5_make_27 (by decide) (fun hc => ?_) (fun hc => ?_)
      · have h := h.1 hc
        refine lv_aload_n C.x C.b dX5_make_34 rfl (lv_at hl 0 rfl) ?_
        refine lv_iconst (v := 0) C.x C.b dX5_make_35 (by decide) ?_
        refine jr_put C G jc5 9 (v := 0) (show n0 < 3 by omega) (by decide) (by decide) rfl (by decide) wd426 rfl rfl rfl rfl dX5_make_36 (fun H locs G => ?_)
        obtain ⟨M2, eM2⟩ : ∃ z : jM, z = jup M 5 n0 9 0 := ⟨_, rfl⟩
        rw [← eM2] at G
        have h := h M2 eM2
        have nM2 : jnb M2 = jnb M := by rw [eM2]; exact jnb_up (by decide)
        refine lv_iconst (v := 0) C.x C.b dX5_make_39 (by decide) ?_
        refine lv_istore_n (lv' := [(1, .int 0), (0, .ref (g 5 n0))]) C.x C.b dX5_make_40 rfl hl (by decide) rfl (fun ls hl => ?_)
        refine lv_iconst (v := 0) C.x C.b dX5_make_41 (by decide) ?_
        refine lv_istore_n (lv' := [(2, .int 0), (1, .int 0), (0, .ref (g 5 n0))]) C.x C.b dX5_make_42 rfl hl (by decide) rfl (fun ls hl => ?_)
        exact h p l e s m args below meth c D cA base g C hr htb _ _ G ls (lv_sub hl [2, 1, 0] rfl)
      · have h := h.2 hc
        refine lv_aload_n C.x C.b dX5_make_30 rfl (lv_at hl 0 rfl) ?_
        refine jr_V (d' := 5) C G jc5 jm_X5_weigh wd1032 h rfl (show n0 < 3 by omega) (by decide) rfl rfl (by omega) (by decide) (by decide) ⟨rfl, rfl⟩ hl.1 (Nat.le_of_ble_eq_true rfl) dX5_make_31 (fun r3 r3n M4 H locs h G => ?_)
        obtain ⟨nM4, h⟩ := h
        refine lv_aload_n C.x C.b dX5_make_34 rfl (lv_at hl 0 rfl) ?_
        refine lv_iconst (v := 0) C.x C.b dX5_make_35 (by decide) ?_
        refine jr_put C G jc5 9 (v := 0) (show n0 < 3 by omega) (by decide) (by decide) rfl (by decide) wd426 rfl rfl rfl rfl dX5_make_36 (fun H locs G => ?_)
        obtain ⟨M5, eM5⟩ : ∃ z : jM, z = jup M4 5 n0 9 0 := ⟨_, rfl⟩
        rw [← eM5] at G
        have h := h M5 eM5
        have nM5 : jnb M5 = jnb M4 := by rw [eM5]; exact jnb_up (by decide)
        refine lv_iconst (v := 0) C.x C.b dX5_make_39 (by decide) ?_
        refine lv_istore_n (lv' := [(1, .int 0), (0, .ref (g 5 n0))]) C.x C.b dX5_make_40 rfl hl (by decide) rfl (fun ls hl => ?_)
        refine lv_iconst (v := 0) C.x C.b dX5_make_41 (by decide) ?_
        refine lv_istore_n (lv' := [(2, .int 0), (1, .int 0), (0, .ref (g 5 n0))]) C.x C.b dX5_make_42 rfl hl (by decide) rfl (fun ls hl => ?_)
        exact h p l e s m args below meth c D cA base g C hr htb _ _ G ls (lv_sub hl [2, 1, 0] rfl)
  · have h := h.1 hc
    exact jr_retV C hr G h (by decide) (by decide) dX5_make_14
set_option maxHeartbeats 4000000 in
set_option maxRecDepth 100000 in
theorem bl_X5_make_43 (n0 : Nat) (v1 : Int32) (v2 : Int32) (M : jM) (Q : Int32 → Nat → jM → Prop) (ha0 : n0 < 3)
  (h : ((M 6 0 2) ≤ v2 → vp_in (M 5 n0 9) 7 ∧ (∀ M1 : jM, M1 = jup M 35 n0 (M 5 n0 9).toNatClampNeg (M 6 0 2) → (∀ M2 : jM, M2 = jup M1 5 n0 10 (M1 6 0 3) → Q 0 0 M2))) ∧ (¬ ((M 6 0 2) ≤ v2) → (6 ≤ v2 → vp_in (M 5 n0 9) 7 ∧ (∀ M3 : jM, M3 = jup M 35 n0 (M 5 n0 9).toNatClampNeg (M 6 0 2) → (∀ M4 : jM, M4 = jup M3 5 n0 10 (M3 6 0 3) → Q 0 0 M4))) ∧ (¬ (6 ≤ v2) → (v2 = v1 → vp_in (M 5 n0 9) 7 ∧ (∀ M5 : jM, M5 = jup M 35 n0 (M 5 n0 9).toNatClampNeg v2 → (∀ M6 : jM, M6 = jup M5 5 n0 9 ((M5 5 n0 9) + 1) → ok_X5_sizeFrom n0 v2 M6 (fun r7 _ M8 => jnb M8 = jnb M6 ∧ at_X5_make_43 n0 (v2 + r7) (v2 + 1) M8 Q)))) ∧ (¬ (v2 = v1) → at_X5_make_43 n0 v1 (v2 + 1) M Q)))) :
  at_X5_make_43 n0 v1 v2 M Q := by
  intro p l e s m args below meth c D cA base g C hr htb H locs G ls hl
  refine lv_iload_n C.x C.b dX5_make_43 rfl (lv_at hl 2 rfl) ?_
  refine lv_aload_n C.x C.b dX5_make_44 rfl (lv_at hl 0 rfl) ?_
  refine jr_get C G jc5 1 (v := .ref (g 6 0)) (show n0 < 3 by omega) (by decide) (by decide) rfl wd417 dX5_make_45 ?_
  refine jr_get C G jc6 2 (v := .int (M 6 0 2)) (show 0 < 2 by decide) (by decide) (by decide) rfl wd276 dX5_make_48 ?_
  refine lv_icmp_ge (tgt := 99) C.x C.b dX5_make_51 (by decide) (fun hc => ?_) (fun hc => ?_)
  · have h := h.1 hc
    refine lv_aload_n C.x C.b dX5_make_99 rfl (lv_at hl 0 rfl) ?_
    refine jr_get C G jc5 5 (v := .ref (g 35 n0)) (show n0 < 3 by omega) (by decide) (by decide) rfl wd422 dX5_make_100 ?_
    refine lv_aload_n C.x C.b dX5_make_103 rfl (lv_at hl 0 rfl) ?_
    refine jr_get C G jc5 9 (v := .int (M 5 n0 9)) (show n0 < 3 by omega) (by decide) (by decide) rfl wd426 dX5_make_104 ?_
    refine lv_aload_n C.x C.b dX5_make_107 rfl (lv_at hl 0 rfl) ?_
    refine jr_get C G jc5 1 (v := .ref (g 6 0)) (show n0 < 3 by omega) (by decide) (by decide) rfl wd417 dX5_make_108 ?_
    refine jr_get C G jc6 2 (v := .int (M 6 0 2)) (show 0 < 2 by decide) (by decide) (by decide) rfl wd276 dX5_make_111 ?_
    obtain ⟨hs, h⟩ := h
    refine jr_ast C G (show n0 < 3 by omega) (by decide) (by decide) (by decide) rfl rfl hs dX5_make_114 (fun H locs G => ?_)
    obtain ⟨M1, eM1⟩ : ∃ z : jM, z = jup M 35 n0 (M 5 n0 9).toNatClampNeg (M 6 0 2) := ⟨_, rfl⟩
    rw [← eM1] at G
    have h := h M1 eM1
    have nM1 : jnb M1 = jnb M := by rw [eM1]; exact jnb_up (by decide)
    refine lv_aload_n C.x C.b dX5_make_115 rfl (lv_at hl 0 rfl) ?_
    refine lv_aload_n C.x C.b dX5_make_116 rfl (lv_at hl 0 rfl) ?_
    refine jr_get C G jc5 1 (v := .ref (g 6 0)) (show n0 < 3 by omega) (by decide) (by decide) rfl wd417 dX5_make_117 ?_
    refine jr_get C G jc6 3 (v := .int (M1 6 0 3)) (show 0 < 2 by decide) (by decide) (by decide) rfl wd279 dX5_make_120 ?_
    refine jr_put C G jc5 10 (v := M1 6 0 3) (show n0 < 3 by omega) (by decide) (by decide) rfl (by decide) wd428 rfl rfl rfl rfl dX5_make_123 (fun H locs G => ?_)
    obtain ⟨M2, eM2⟩ : ∃ z : jM, z = jup M1 5 n0 10 (M1 6 0 3) := ⟨_, rfl⟩
    rw [← eM2] at G
    have h := h M2 eM2
    have nM2 : jnb M2 = jnb M1 := by rw [eM2]; exact jnb_up (by decide)
    exact jr_retV C hr G h (by decide) (by decide) dX5_make_126
  · have h := h.2 hc
    refine lv_iload_n C.x C.b dX5_make_54 rfl (lv_at hl 2 rfl) ?_
    refine lv_bipush (v := 6) C.x C.b dX5_make_55 (by decide) ?_
    refine lv_icmp_ge (tgt := 99) C.x C.b dX5_make_57 (by decide) (fun hc => ?_) (fun hc => ?_)
    · have h := h.1 hc
      refine lv_aload_n C.x C.b dX5_make_99 rfl (lv_at hl 0 rfl) ?_
      refine jr_get C G jc5 5 (v := .ref (g 35 n0)) (show n0 < 3 by omega) (by decide) (by decide) rfl wd422 dX5_make_100 ?_
      refine lv_aload_n C.x C.b dX5_make_103 rfl (lv_at hl 0 rfl) ?_
      refine jr_get C G jc5 9 (v := .int (M 5 n0 9)) (show n0 < 3 by omega) (by decide) (by decide) rfl wd426 dX5_make_104 ?_
      refine lv_aload_n C.x C.b dX5_make_107 rfl (lv_at hl 0 rfl) ?_
      refine jr_get C G jc5 1 (v := .ref (g 6 0)) (show n0 < 3 by omega) (by decide) (by decide) rfl wd417 dX5_make_108 ?_
      refine jr_get C G jc6 2 (v := .int (M 6 0 2)) (show 0 < 2 by decide) (by decide) (by decide) rfl wd276 dX5_make_111 ?_
      obtain ⟨hs, h⟩ := h
      refine jr_ast C G (show n0 < 3 by omega) (by decide) (by decide) (by decide) rfl rfl hs dX5_make_114 (fun H locs G => ?_)
      obtain ⟨M3, eM3⟩ : ∃ z : jM, z = jup M 35 n0 (M 5 n0 9).toNatClampNeg (M 6 0 2) := ⟨_, rfl⟩
      rw [← eM3] at G
      have h := h M3 eM3
      have nM3 : jnb M3 = jnb M := by rw [eM3]; exact jnb_up (by decide)
      refine lv_aload_n C.x C.b dX5_make_115 rfl (lv_at hl 0 rfl) ?_
      refine lv_aload_n C.x C.b dX5_make_116 rfl (lv_at hl 0 rfl) ?_
      refine jr_get C G jc5 1 (v := .ref (g 6 0)) (show n0 < 3 by omega) (by decide) (by decide) rfl wd417 dX5_make_117 ?_
      refine jr_get C G jc6 3 (v := .int (M3 6 0 3)) (show 0 < 2 by decide) (by decide) (by decide) rfl wd279 dX5_make_120 ?_
      refine jr_put C G jc5 10 (v := M3 6 0 3) (show n0 < 3 by omega) (by decide) (by decide) rfl (by decide) wd428 rfl rfl rfl rfl dX5_make_123 (fun H locs G => ?_)
      obtain ⟨M4, eM4⟩ : ∃ z : jM, z = jup M3 5 n0 10 (M3 6 0 3) := ⟨_, rfl⟩
      rw [← eM4] at G
      have h := h M4 eM4
      have nM4 : jnb M4 = jnb M3 := by rw [eM4]; exact jnb_up (by decide)
      exact jr_retV C hr G h (by decide) (by decide) dX5_make_126
    · have h := h.2 hc
      refine lv_iload_n C.x C.b dX5_make_60 rfl (lv_at hl 2 rfl) ?_
      refine lv_iload_n C.x C.b dX5_make_61 rfl (lv_at hl 1 rfl) ?_
      refine lv_icmp_ne (tgt := 93) C.x C.b dX5_make_62 (by decide) (fun hc => ?_) (fun hc => ?_)
      · have h := h.2 hc
        refine lv_iinc (v := v2 + 1) (lv' := [(2, .int (v2 + 1)), (0, .ref (g 5 n0)), (1, .int v1)]) C.x C.b dX5_make_93 hl (k := 2) rfl rfl (by decide) rfl (fun ls hl => ?_)
        refine lv_goto (tgt := 43) C.x C.b dX5_make_96 (by decide) ?_
        exact h p l e s m args below meth c D cA base g C hr htb _ _ G ls (lv_sub hl [1, 2, 0] rfl)
      · have h := h.1 hc
        refine lv_aload_n C.x C.b dX5_make_65 rfl (lv_at hl 0 rfl) ?_
        refine jr_get C G jc5 5 (v := .ref (g 35 n0)) (show n0 < 3 by omega) (by decide) (by decide) rfl wd422 dX5_make_66 ?_
        refine lv_aload_n C.x C.b dX5_make_69 rfl (lv_at hl 0 rfl) ?_
        refine jr_get C G jc5 9 (v := .int (M 5 n0 9)) (show n0 < 3 by omega) (by decide) (by decide) rfl wd426 dX5_make_70 ?_
        refine lv_iload_n C.x C.b dX5_make_73 rfl (lv_at hl 2 rfl) ?_
        obtain ⟨hs, h⟩ := h
        refine jr_ast C G (show n0 < 3 by omega) (by decide) (by decide) (by decide) rfl rfl hs dX5_make_74 (fun H locs G => ?_)
        obtain ⟨M5, eM5⟩ : ∃ z : jM, z = jup M 35 n0 (M 5 n0 9).toNatClampNeg v2 := ⟨_, rfl⟩
        rw [← eM5] at G
        have h := h M5 eM5
        have nM5 : jnb M5 = jnb M := by rw [eM5]; exact jnb_up (by decide)
        refine lv_aload_n C.x C.b dX5_make_75 rfl (lv_at hl 0 rfl) ?_
        refine lv_dup C.x C.b dX5_make_76 rfl ?_
        refine jr_get C G jc5 9 (v := .int (M5 5 n0 9)) (show n0 < 3 by omega) (by decide) (by decide) rfl wd426 dX5_make_77 ?_
        refine lv_iconst (v := 1) C.x C.b dX5_make_80 (by decide) ?_
        refine lv_iadd C.x C.b dX5_make_81 ?_
        refine jr_put C G jc5 9 (v := (M5 5 n0 9) + 1) (show n0 < 3 by omega) (by decide) (by decide) rfl (by decide) wd426 rfl rfl rfl rfl dX5_make_82 (fun H locs G => ?_)
        obtain ⟨M6, eM6⟩ : ∃ z : jM, z = jup M5 5 n0 9 ((M5 5 n0 9) + 1) := ⟨_, rfl⟩
        rw [← eM6] at G
        have h := h M6 eM6
        have nM6 : jnb M6 = jnb M5 := by rw [eM6]; exact jnb_up (by decide)
        refine lv_iload_n C.x C.b dX5_make_85 rfl (lv_at hl 2 rfl) ?_
        refine lv_aload_n C.x C.b dX5_make_86 rfl (lv_at hl 0 rfl) ?_
        refine lv_iload_n C.x C.b dX5_make_87 rfl (lv_at hl 2 rfl) ?_
        refine jr_V (d' := 5) C G jc5 jm_X5_sizeFrom wd1070 h rfl (show n0 < 3 by omega) (by decide) rfl rfl (by omega) (by decide) (by decide) ⟨rfl, rfl⟩ hl.1 (Nat.le_of_ble_eq_true rfl) dX5_make_88 (fun r7 r7n M8 H locs h G => ?_)
        obtain ⟨nM8, h⟩ := h
        refine lv_iadd C.x C.b dX5_make_91 ?_
        refine lv_istore_n (lv' := [(1, .int (v2 + r7)), (0, .ref (g 5 n0)), (2, .int v2)]) C.x C.b dX5_make_92 rfl hl (by decide) rfl (fun ls hl => ?_)
        refine lv_iinc (v := v2 + 1) (lv' := [(2, .int (v2 + 1)), (1, .int (v2 + r7)), (0, .ref (g 5 n0))]) C.x C.b dX5_make_93 hl (k := 2) rfl rfl (by decide) rfl (fun ls hl => ?_)
        refine lv_goto (tgt := 43) C.x C.b dX5_make_96 (by decide) ?_
        exact h p l e s m args below meth c D cA base g C hr htb _ _ G ls (lv_sub hl [2, 1, 0] rfl)

