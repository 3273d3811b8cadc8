theorem en_X12_bad {v1 : Int32} {M : jM} {Q : Int32 → Nat → jM → Prop} (h : at_X12_bad_0 v1 M Q) : ok_X12_bad v1 M Q := jr_enter (by decide) (fun g => rfl) (fun g => Nat.le_of_ble_eq_true rfl) h
set_option maxHeartbeats 4000000 in
set_option maxRecDepth 100000 in
theorem bl_X12_bad_0 (v1 : Int32) (M : jM) (Q : Int32 → Nat → jM → Prop) 
  (h : (M 11 0 13 = 0 → (∀ M1 : jM, M1 = jup M 11 0 13 1 → (∀ M2 : jM, M2 = jup M1 11 0 10 v1 → Q 0 0 M2))) ∧ (¬ (M 11 0 13 = 0) → Q 0 0 M)) :
  at_X12_bad_0 v1 M Q := by
  intro p l e s m args below meth c D cA base g C hr htb H locs G ls hl
  refine lv_aload_n C.x C.b dX12_bad_0 rfl (lv_at hl 0 rfl) ?_
  refine jr_get C G jc11 13 (v := .int (M 11 0 13)) (show 0 < 1 by decide) (by decide) (by decide) rfl wd1204 dX12_bad_1 ?_
  refine lv_if_ne (tgt := 17) C.x C.b dX12_bad_4 (by decide) (fun hc => ?_) (fun hc => ?_)
  · have h := h.2 hc
    exact jr_retV C hr G h (by decide) (by decide) dX12_bad_17
  · have h := h.1 hc
    refine lv_aload_n C.x C.b dX12_bad_7 rfl (lv_at hl 0 rfl) ?_
    refine lv_iconst (v := 1) C.x C.b dX12_bad_8 (by decide) ?_
    refine jr_put C G jc11 13 (v := 1) (show 0 < 1 by decide) (by decide) (by decide) rfl (by decide) wd1204 rfl rfl rfl rfl dX12_bad_9 (fun H locs G => ?_)
    obtain ⟨M1, eM1⟩ : ∃ z : jM, z = jup M 11 0 13 1 := ⟨_, rfl⟩
    rw [← eM1] at G
    have h := h M1 eM1
    have nM1 : jnb M1 = jnb M := by rw [eM1]; exact jnb_up (by decide)
    refine lv_aload_n C.x C.b dX12_bad_12 rfl (lv_at hl 0 rfl) ?_
    refine lv_iload_n C.x C.b dX12_bad_13 rfl (lv_at hl 1 rfl) ?_
    refine jr_put C G jc11 10 (v := v1) (show 0 < 1 by decide) (by decide) (by decide) rfl (by decide) wd1201 rfl rfl rfl rfl dX12_bad_14 (fun H locs G => ?_)
    obtain ⟨M2, eM2⟩ : ∃ z : jM, z = jup M1 11 0 10 v1 := ⟨_, rfl⟩
    rw [← eM2] at G
    have h := h M2 eM2
    have nM2 : jnb M2 = jnb M1 := by rw [eM2]; exact jnb_up (by decide)
    exact jr_retV C hr G h (by decide) (by decide) dX12_bad_17

theorem en_X12_faultPosition  {M : jM} {Q : Int32 → Nat → jM → Prop} (h : at_X12_faultPosition_0  M Q) : ok_X12_faultPosition  M Q := jr_enter (by decide) (fun g => rfl) (fun g => Nat.le_of_ble_eq_true rfl) h
set_option maxHeartbeats 4000000 in
set_option maxRecDepth 100000 in
theorem bl_X12_faultPosition_0  (M : jM) (Q : Int32 → Nat → jM → Prop) 
  (h : (∀ M1 : jM, M1 = jup M 11 0 7 0 → Q (M1 11 0 10) 0 M1)) :
  at_X12_faultPosition_0  M Q := by
  intro p l e s m args below meth c D cA base g C hr htb H locs G ls hl
  refine lv_aload_n C.x C.b dX12_faultPosition_0 rfl (lv_at hl 0 rfl) ?_
  refine lv_iconst (v := 0) C.x C.b dX12_faultPosition_1 (by decide) ?_
  refine jr_put C G jc11 7 (v := 0) (show 0 < 1 by decide) (by decide) (by decide) rfl (by decide) wd1198 rfl rfl rfl rfl dX12_faultPosition_2 (fun H locs G => ?_)
  obtain ⟨M1, eM1⟩ : ∃ z : jM, z = jup M 11 0 7 0 := ⟨_, rfl⟩
  rw [← eM1] at G
  have h := h M1 eM1
  have nM1 : jnb M1 = jnb M := by rw [eM1]; exact jnb_up (by decide)
  refine lv_aload_n C.x C.b dX12_faultPosition_5 rfl (lv_at hl 0 rfl) ?_
  refine jr_get C G jc11 10 (v := .int (M1 11 0 10)) (show 0 < 1 by decide) (by decide) (by decide) rfl wd1201 dX12_faultPosition_6 ?_
  exact jr_retI C hr G h (by decide) (by decide) dX12_faultPosition_9

theorem en_X12_loopCount  {M : jM} {Q : Int32 → Nat → jM → Prop} (h : at_X12_loopCount_0  M Q) : ok_X12_loopCount  M Q := jr_enter (by decide) (fun g => rfl) (fun g => Nat.le_of_ble_eq_true rfl) h
set_option maxHeartbeats 4000000 in
set_option maxRecDepth 100000 in
theorem bl_X12_loopCount_0  (M : jM) (Q : Int32 → Nat → jM → Prop) 
  (h : (∀ M1 : jM, M1 = jup M 11 0 7 0 → Q (M1 11 0 0) 0 M1)) :
  at_X12_loopCount_0  M Q := by
  intro p l e s m args below meth c D cA base g C hr htb H locs G ls hl
  refine lv_aload_n C.x C.b dX12_loopCount_0 rfl (lv_at hl 0 rfl) ?_
  refine lv_iconst (v := 0) C.x C.b dX12_loopCount_1 (by decide) ?_
  refine jr_put C G jc11 7 (v := 0) (show 0 < 1 by decide) (by decide) (by decide) rfl (by decide) wd1198 rfl rfl rfl rfl dX12_loopCount_2 (fun H locs G => ?_)
  obtain ⟨M1, eM1⟩ : ∃ z : jM, z = jup M 11 0 7 0 := ⟨_, rfl⟩
  rw [← eM1] at G
  have h := h M1 eM1
  have nM1 : jnb M1 = jnb M := by rw [eM1]; exact jnb_up (by decide)
  refine lv_aload_n C.x C.b dX12_loopCount_5 rfl (lv_at hl 0 rfl) ?_
  refine jr_get C G jc11 0 (v := .int (M1 11 0 0)) (show 0 < 1 by decide) (by decide) (by decide) rfl wd1191 dX12_loopCount_6 ?_
  exact jr_retI C hr G h (by decide) (by decide) dX12_loopCount_9

theorem en_X12_groupsIn {v0 : Int32} {M : jM} {Q : Int32 → Nat → jM → Prop} (h : at_X12_groupsIn_0 v0 M Q) : ok_X12_groupsIn v0 M Q := jr_enter (by decide) (fun g => rfl) (fun g => Nat.le_of_ble_eq_true rfl) h
set_option maxHeartbeats 4000000 in
set_option maxRecDepth 100000 in
theorem bl_X12_groupsIn_0 (v0 : Int32) (M : jM) (Q : Int32 → Nat → jM → Prop) 
  (h : at_X12_groupsIn_4 1 v0 M Q) :
  at_X12_groupsIn_0 v0 M Q := by
  intro p l e s m args below meth c D cA base g C hr htb H locs G ls hl
  refine lv_iconst (v := 1) C.x C.b dX12_groupsIn_0 (by decide) ?_
  refine lv_istore_n (lv' := [(1, .int 1), (0, .int v0)]) C.x C.b dX12_groupsIn_1 rfl hl (by decide) rfl (fun ls hl => ?_)
  refine lv_iload_n C.x C.b dX12_groupsIn_2 rfl (lv_at hl 1 rfl) ?_
  refine lv_istore_n (lv' := [(2, .int v0), (1, .int 1), (0, .int v0)]) C.x C.b dX12_groupsIn_3 rfl hl (by decide) rfl (fun ls hl => ?_)
  exact h p l e s m args below meth c D cA base g C hr htb _ _ G ls (lv_sub hl [1, 0] rfl)
set_option maxHeartbeats 4000000 in
set_option maxRecDepth 100000 in
theorem bl_X12_groupsIn_4 (v1 : Int32) (v2 : Int32) (M : jM) (Q : Int32 → Nat → jM → Prop) 
  (h : (v2 = 0 → Q v1 0 M) ∧ (¬ (v2 = 0) → at_X12_groupsIn_4 (v1 + 1) (v2 &&& (v2 - 1)) M Q)) :
  at_X12_groupsIn_4 v1 v2 M Q := by
  intro p l e s m args below meth c D cA base g C hr htb H locs G ls hl
  refine lv_iload_n C.x C.b dX12_groupsIn_4 rfl (lv_at hl 1 rfl) ?_
  refine lv_if_eq (tgt := 20) C.x C.b dX12_groupsIn_5 (by decide) (fun hc => ?_) (fun hc => ?_)
  · have h := h.1 hc
    refine lv_iload_n C.x C.b dX12_groupsIn_20 rfl (lv_at hl 0 rfl) ?_
    exact jr_retI C hr G h (by decide) (by decide) dX12_groupsIn_21
  · have h := h.2 hc
    refine lv_iinc (v := v1 + 1) (lv' := [(1, .int (v1 + 1)), (2, .int v2)]) C.x C.b dX12_groupsIn_8 hl (k := 0) rfl rfl (by decide) rfl (fun ls hl => ?_)
    refine lv_iload_n C.x C.b dX12_groupsIn_11 rfl (lv_at hl 1 rfl) ?_
    refine lv_iload_n C.x C.b dX12_groupsIn_12 rfl (lv_at hl 1 rfl) ?_
    refine lv_iconst (v := 1) C.x C.b dX12_groupsIn_13 (by decide) ?_
    refine lv_isub C.x C.b dX12_groupsIn_14 ?_
    refine lv_iand C.x C.b dX12_groupsIn_15 ?_
    refine lv_istore_n (lv' := [(2, .int (v2 &&& (v2 - 1))), (1, .int (v1 + 1))]) C.x C.b dX12_groupsIn_16 rfl hl (by decide) rfl (fun ls hl => ?_)
    refine lv_goto (tgt := 4) C.x C.b dX12_groupsIn_17 (by decide) ?_
    exact h p l e s m args below meth c D cA base g C hr htb _ _ G ls (lv_sub hl [1, 0] rfl)

theorem en_X12_endOf {v1 : Int32} {v2 : Int32} {M : jM} {Q : Int32 → Nat → jM → Prop} (h : at_X12_endOf_0 v1 v2 M Q) : ok_X12_endOf v1 v2 M Q := jr_enter (by decide) (fun g => rfl) (fun g => Nat.le_of_ble_eq_true rfl) h
set_option maxHeartbeats 4000000 in
set_option maxRecDepth 100000 in
theorem bl_X12_endOf_0 (v1 : Int32) (v2 : Int32) (M : jM) (Q : Int32 → Nat → jM → Prop) 
  (h : at_X12_endOf_2 v1 v2 M Q) :
  at_X12_endOf_0 v1 v2 M Q := by
  intro p l e s m args below meth c D cA base g C hr htb H locs G ls hl
  refine lv_iload_n C.x C.b dX12_endOf_0 rfl (lv_at hl 2 rfl) ?_
  refine lv_istore_n (lv' := [(3, .int v2), (0, .ref (g 11 0)), (1, .int v1), (2, .int v2)]) C.x C.b dX12_endOf_1 rfl hl (by decide) rfl (fun ls hl => ?_)
  exact h p l e s m args below meth c D cA base g C hr htb _ _ G ls (lv_sub hl [1, 2, 0] rfl)
set_option maxHeartbeats 4000000 in
set_option maxRecDepth 100000 in
theorem bl_X12_endOf_2 (v1 : Int32) (v3 : Int32) (M : jM) (Q : Int32 → Nat → jM → Prop) 
  (h : ((M 11 0 0) ≤ (v3 + 1) → Q v3 0 M) ∧ (¬ ((M 11 0 0) ≤ (v3 + 1)) → ((v1 >>> (v3 &&& 31)) &&& 1 = 0 → at_X12_endOf_2 v1 (v3 + 1) M Q) ∧ (¬ ((v1 >>> (v3 &&& 31)) &&& 1 = 0) → Q v3 0 M))) :
  at_X12_endOf_2 v1 v3 M Q := by
  intro p l e s m args below meth c D cA base g C hr htb H locs G ls hl
  refine lv_iload_n C.x C.b dX12_endOf_2 rfl (lv_at hl 2 rfl) ?_
  refine lv_iconst (v := 1) C.x C.b dX12_endOf_3 (by decide) ?_
  refine lv_iadd C.x C.b dX12_endOf_4 ?_
  refine lv_aload_n C.x C.b dX12_endOf_5 rfl (lv_at hl 0 rfl) ?_
  refine jr_get C G jc11 0 (v := .int (M 11 0 0)) (show 0 < 1 by decide) (by decide) (by decide) rfl wd1191 dX12_endOf_6 ?_
  refine lv_icmp_ge (tgt := 26) C.x C.b dX12_endOf_9 (by decide) (fun hc => ?_) (fun hc => ?_)
  · have h := h.1 hc
    refine lv_iload_n C.x C.b dX12_endOf_26 rfl (lv_at hl 2 rfl) ?_
    exact jr_retI C hr G h (by decide) (by decide) dX12_endOf_27
  · have h := h.2 hc
    refine lv_iload_n C.x C.b dX12_endOf_12 rfl (lv_at hl 1 rfl) ?_
    refine lv_iload_n C.x C.b dX12_endOf_13 rfl (lv_at hl 2 rfl) ?_
    refine lv_ishr C.x C.b dX12_endOf_14 ?_
    refine lv_iconst (v := 1) C.x C.b dX12_endOf_15 (by decide) ?_
    refine lv_iand C.x C.b dX12_endOf_16 ?_
    refine lv_if_ne (tgt := 26) C.x C.b dX12_endOf_17 (by decide) (fun hc => ?_) (fun hc => ?_)
    · have h := h.2 hc
      refine lv_iload_n C.x C.b dX12_endOf_26 rfl (lv_at hl 2 rfl) ?_
      exact jr_retI C hr G h (by decide) (by decide) dX12_endOf_27
    · have h := h.1 hc
      refine lv_iinc (v := v3 + 1) (lv' := [(3, .int (v3 + 1)), (0, .ref (g 11 0)), (1, .int v1)]) C.x C.b dX12_endOf_20 hl (k := 2) rfl rfl (by decide) rfl (fun ls hl => ?_)
      refine lv_goto (tgt := 2) C.x C.b dX12_endOf_23 (by decide) ?_
      exact h p l e s m args below meth c D cA base g C hr htb _ _ G ls (lv_sub hl [1, 2, 0] rfl)

theorem en_X12_isGreater {v0 : Int32} {v1 : Int32} {M : jM} {Q : Int32 → Nat → jM → Prop} (h : at_X12_isGreater_0 v0 v1 M Q) : ok_X12_isGreater v0 v1 M Q := jr_enter (by decide) (fun g => rfl) (fun g => Nat.le_of_ble_eq_true rfl) h
set_option maxHeartbeats 4000000 in
set_option maxRecDepth 100000 in
theorem bl_X12_isGreater_0 (v0 : Int32) (v1 : Int32) (M : jM) (Q : Int32 → Nat → jM → Prop) 
  (h : (v1 &&& ((v0 ^^^ v1) &&& (-(v0 ^^^ v1))) = 0 → Q 0 0 M) ∧ (¬ (v1 &&& ((v0 ^^^ v1) &&& (-(v0 ^^^ v1))) = 0) → Q 1 0 M)) :
  at_X12_isGreater_0 v0 v1 M Q := by
  intro p l e s m args below meth c D cA base g C hr htb H locs G ls hl
  refine lv_iload_n C.x C.b dX12_isGreater_0 rfl (lv_at hl 0 rfl) ?_
  refine lv_iload_n C.x C.b dX12_isGreater_1 rfl (lv_at hl 1 rfl) ?_
  refine lv_ixor C.x C.b dX12_isGreater_2 ?_
  refine lv_istore_n (lv' := [(2, .int (v0 ^^^ v1)), (0, .int v0), (1, .int v1)]) C.x C.b dX12_isGreater_3 rfl hl (by decide) rfl (fun ls hl => ?_)
  refine lv_iload_n C.x C.b dX12_isGreater_4 rfl (lv_at hl 2 rfl) ?_
  refine lv_iload_n C.x C.b dX12_isGreater_5 rfl (lv_at hl 0 rfl) ?_
  refine lv_iload_n C.x C.b dX12_isGreater_6 rfl (lv_at hl 0 rfl) ?_
  refine lv_ineg C.x C.b dX12_isGreater_7 ?_
  refine lv_iand C.x C.b dX12_isGreater_8 ?_
  refine lv_iand C.x C.b dX12_isGreater_9 ?_
  refine lv_if_eq (tgt := 17) C.x C.b dX12_isGreater_10 (by decide) (fun hc => ?_) (fun hc => ?_)
  · have h := h.1 hc
    refine lv_iconst (v := 0) C.x C.b dX12_isGreater_17 (by decide) ?_
    exact jr_retZ C hr G rfl h (by decide) (by decide) dX12_isGreater_18
  · have h := h.2 hc
    refine lv_iconst (v := 1) C.x C.b dX12_isGreater_13 (by decide) ?_
    refine lv_goto (tgt := 18) C.x C.b dX12_isGreater_14 (by decide) ?_
    exact jr_retZ C hr G rfl h (by decide) (by decide) dX12_isGreater_18

theorem en_X12_save  {M : jM} {Q : Int32 → Nat → jM → Prop} (h : at_X12_save_0  M Q) : ok_X12_save  M Q := jr_enter (by decide) (fun g => rfl) (fun g => Nat.le_of_ble_eq_true rfl) h
set_option maxHeartbeats 4000000 in
set_option maxRecDepth 100000 in
theorem bl_X12_save_0  (M : jM) (Q : Int32 → Nat → jM → Prop) 
  (h : (∀ M1 : jM, M1 = jup M 11 0 7 0 → at_X12_save_7 0 M1 Q)) :
  at_X12_save_0  M Q := by
  intro p l e s m args below meth c D cA base g C hr htb H locs G ls hl
  refine lv_aload_n C.x C.b dX12_save_0 rfl (lv_at hl 0 rfl) ?_
  refine lv_iconst (v := 0) C.x C.b dX12_save_1 (by decide) ?_
  refine jr_put C G jc11 7 (v := 0) (show 0 < 1 by decide) (by decide) (by decide) rfl (by decide) wd1198 rfl rfl rfl rfl dX12_save_2 (fun H locs G => ?_)
  obtain ⟨M1, eM1⟩ : ∃ z : jM, z = jup M 11 0 7 0 := ⟨_, rfl⟩
  rw [← eM1] at G
  have h := h M1 eM1
  have nM1 : jnb M1 = jnb M := by rw [eM1]; exact jnb_up (by decide)
  refine lv_iconst (v := 0) C.x C.b dX12_save_5 (by decide) ?_
  refine lv_istore_n (lv' := [(1, .int 0), (0, .ref (g 11 0))]) C.x C.b dX12_save_6 rfl hl (by decide) rfl (fun ls hl => ?_)
  exact h p l e s m args below meth c D cA base g C hr htb _ _ G ls (lv_sub hl [1, 0] rfl)
set_option maxHeartbeats 4000000 in
set_option maxRecDepth 100000 in
theorem bl_X12_save_7 (v1 : Int32) (M : jM) (Q : Int32 → Nat → jM → Prop) 
  (h : (3510 ≤ v1 → at_X12_save_34 0 M Q) ∧ (¬ (3510 ≤ v1) → vp_in v1 3510 ∧ vp_in v1 3510 ∧ (∀ M1 : jM, M1 = jup M 52 0 v1.toNatClampNeg (M 50 0 v1.toNatClampNeg) → at_X12_save_7 (v1 + 1) M1 Q))) :
  at_X12_save_7 v1 M Q := by
  intro p l e s m args below meth c D cA base g C hr htb H locs G ls hl
  refine lv_iload_n C.x C.b dX12_save_7 rfl (lv_at hl 1 rfl) ?_
  refine lv_sipush (v := 3510) C.x C.b dX12_save_8 (by decide) ?_
  refine lv_icmp_ge (tgt := 32) C.x C.b dX12_save_11 (by decide) (fun hc => ?_) (fun hc => ?_)
  · have h := h.1 hc
    refine lv_iconst (v := 0) C.x C.b dX12_save_32 (by decide) ?_
    refine lv_istore_n (lv' := [(1, .int 0), (0, .ref (g 11 0))]) C.x C.b dX12_save_33 rfl hl (by decide) rfl (fun ls hl => ?_)
    exact h p l e s m args below meth c D cA base g C hr htb _ _ G ls (lv_sub hl [1, 0] rfl)
  · have h := h.2 hc
    refine lv_aload_n C.x C.b dX12_save_14 rfl (lv_at hl 0 rfl) ?_
    refine jr_get C G jc11 4 (v := .ref (g 52 0)) (show 0 < 1 by decide) (by decide) (by decide) rfl wd1195 dX12_save_15 ?_
    refine lv_iload_n C.x C.b dX12_save_18 rfl (lv_at hl 1 rfl) ?_
    refine lv_aload_n C.x C.b dX12_save_19 rfl (lv_at hl 0 rfl) ?_
    refine jr_get C G jc11 1 (v := .ref (g 50 0)) (show 0 < 1 by decide) (by decide) (by decide) rfl wd1192 dX12_save_20 ?_
    refine lv_iload_n C.x C.b dX12_save_23 rfl (lv_at hl 1 rfl) ?_
    obtain ⟨hs, h⟩ := h
    refine jr_ald C G (show 0 < 1 by decide) (by decide) (by decide) (by decide) rfl rfl hs dX12_save_24 ?_
    obtain ⟨hs, h⟩ := h
    refine jr_ast C G (show 0 < 1 by decide) (by decide) (by decide) (by decide) rfl rfl hs dX12_save_25 (fun H locs G => ?_)
    obtain ⟨M1, eM1⟩ : ∃ z : jM, z = jup M 52 0 v1.toNatClampNeg (M 50 0 v1.toNatClampNeg) := ⟨_, rfl⟩
    rw [← eM1] at G
    have h := h M1 eM1
    have nM1 : jnb M1 = jnb M := by rw [eM1]; exact jnb_up (by decide)
    refine lv_iinc (v := v1 + 1) (lv' := [(1, .int (v1 + 1)), (0, .ref (g 11 0))]) C.x C.b dX12_save_26 hl (k := 1) rfl rfl (by decide) rfl (fun ls hl => ?_)
    refine lv_goto (tgt := 7) C.x C.b dX12_save_29 (by decide) ?_
    exact h p l e s m args below meth c D cA base g C hr htb _ _ G ls (lv_sub hl [1, 0] rfl)
set_option maxHeartbeats 4000000 in
set_option maxRecDepth 100000 in
theorem bl_X12_save_34 (v1 : Int32) (M : jM) (Q : Int32 → Nat → jM → Prop) 
  (h : (3 ≤ v1 → (∀ M1 : jM, M1 = jup M 11 0 3 (M 11 0 0) → (∀ M2 : jM, M2 = jup M1 11 0 6 1 → Q 0 0 M2))) ∧ (¬ (3 ≤ v1) → vp_in v1 3 ∧ vp_in v1 3 ∧ (∀ M3 : jM, M3 = jup M 53 0 v1.toNatClampNeg (M 51 0 v1.toNatClampNeg) → at_X12_save_34 (v1 + 1) M3 Q))) :
  at_X12_save_34 v1 M Q := by
  intro p l e s m args below meth c D cA base g C hr htb H locs G ls hl
  refine lv_iload_n C.x C.b dX12_save_34 rfl (lv_at hl 1 rfl) ?_
  refine lv_iconst (v := 3) C.x C.b dX12_save_35 (by decide) ?_
  refine lv_icmp_ge (tgt := 57) C.x C.b dX12_save_36 (by decide) (fun hc => ?_) (fun hc => ?_)
  · have h := h.1 hc
    refine lv_aload_n C.x C.b dX12_save_57 rfl (lv_at hl 0 rfl) ?_
    refine lv_aload_n C.x C.b dX12_save_58 rfl (lv_at hl 0 rfl) ?_
    refine jr_get C G jc11 0 (v := .int (M 11 0 0)) (show 0 < 1 by decide) (by decide) (by decide) rfl wd1191 dX12_save_59 ?_
    refine jr_put C G jc11 3 (v := M 11 0 0) (show 0 < 1 by decide) (by decide) (by decide) rfl (by decide) wd1194 rfl rfl rfl rfl dX12_save_62 (fun H locs G => ?_)
    obtain ⟨M1, eM1⟩ : ∃ z : jM, z = jup M 11 0 3 (M 11 0 0) := ⟨_, rfl⟩
    rw [← eM1] at G
    have h := h M1 eM1
    have nM1 : jnb M1 = jnb M := by rw [eM1]; exact jnb_up (by decide)
    refine lv_aload_n C.x C.b dX12_save_65 rfl (lv_at hl 0 rfl) ?_
    refine lv_iconst (v := 1) C.x C.b dX12_save_66 (by decide) ?_
    refine jr_put C G jc11 6 (v := 1) (show 0 < 1 by decide) (by decide) (by decide) rfl (by decide) wd1197 rfl rfl rfl rfl dX12_save_67 (fun H locs G => ?_)
    obtain ⟨M2, eM2⟩ : ∃ z : jM, z = jup M1 11 0 6 1 := ⟨_, rfl⟩
    rw [← eM2] at G
    have h := h M2 eM2
    have nM2 : jnb M2 = jnb M1 := by rw [eM2]; exact jnb_up (by decide)
    exact jr_retV C hr G h (by decide) (by decide) dX12_save_70
  · have h := h.2 hc
    refine lv_aload_n C.x C.b dX12_save_39 rfl (lv_at hl 0 rfl) ?_
    refine jr_get C G jc11 5 (v := .ref (g 53 0)) (show 0 < 1 by decide) (by decide) (by decide) rfl wd1196 dX12_save_40 ?_
    refine lv_iload_n C.x C.b dX12_save_43 rfl (lv_at hl 1 rfl) ?_
    refine lv_aload_n C.x C.b dX12_save_44 rfl (lv_at hl 0 rfl) ?_
    refine jr_get C G jc11 2 (v := .ref (g 51 0)) (show 0 < 1 by decide) (by decide) (by decide) rfl wd1193 dX12_save_45 ?_
    refine lv_iload_n C.x C.b dX12_save_48 rfl (lv_at hl 1 rfl) ?_
    obtain ⟨hs, h⟩ := h
    refine jr_ald C G (show 0 < 1 by decide) (by decide) (by decide) (by decide) rfl rfl hs dX12_save_49 ?_
    obtain ⟨hs, h⟩ := h
    refine jr_ast C G (show 0 < 1 by decide) (by decide) (by decide) (by decide) rfl rfl hs dX12_save_50 (fun H locs G => ?_)
    obtain ⟨M3, eM3⟩ : ∃ z : jM, z = jup M 53 0 v1.toNatClampNeg (M 51 0 v1.toNatClampNeg) := ⟨_, rfl⟩
    rw [← eM3] at G
    have h := h M3 eM3
    have nM3 : jnb M3 = jnb M := by rw [eM3]; exact jnb_up (by decide)
    refine lv_iinc (v := v1 + 1) (lv' := [(1, .int (v1 + 1)), (0, .ref (g 11 0))]) C.x C.b dX12_save_51 hl (k := 1) rfl rfl (by decide) rfl (fun ls hl => ?_)
    refine lv_goto (tgt := 34) C.x C.b dX12_save_54 (by decide) ?_
    exact h p l e s m args below meth c D cA base g C hr htb _ _ G ls (lv_sub hl [1, 0] rfl)

theorem en_X12_restore  {M : jM} {Q : Int32 → Nat → jM → Prop} (h : at_X12_restore_0  M Q) : ok_X12_restore  M Q := jr_enter (by decide) (fun g => rfl) (fun g => Nat.le_of_ble_eq_true rfl) h
set_option maxHeartbeats 4000000 in
set_option maxRecDepth 100000 in
theorem bl_X12_restore_0  (M : jM) (Q : Int32 → Nat → jM → Prop) 
  (h : (M 11 0 6 = 0 → (∀ M1 : jM, M1 = jup M 11 0 7 1 → at_X12_restore_18 0 M1 Q)) ∧ (¬ (M 11 0 6 = 0) → (∀ M2 : jM, M2 = jup M 11 0 7 0 → at_X12_restore_18 0 M2 Q))) :
  at_X12_restore_0  M Q := by
  intro p l e s m args below meth c D cA base g C hr htb H locs G ls hl
  refine lv_aload_n C.x C.b dX12_restore_0 rfl (lv_at hl 0 rfl) ?_
  refine lv_aload_n C.x C.b dX12_restore_1 rfl (lv_at hl 0 rfl) ?_
  refine jr_get C G jc11 6 (v := .int (M 11 0 6)) (show 0 < 1 by decide) (by decide) (by decide) rfl wd1197 dX12_restore_2 ?_
  refine lv_if_eq (tgt := 12) C.x C.b dX12_restore_5 (by decide) (fun hc => ?_) (fun hc => ?_)
  · have h := h.1 hc
    refine lv_iconst (v := 1) C.x C.b dX12_restore_12 (by decide) ?_
    refine jr_put C G jc11 7 (v := 1) (show 0 < 1 by decide) (by decide) (by decide) rfl (by decide) wd1198 rfl rfl rfl rfl dX12_restore_13 (fun H locs G => ?_)
    obtain ⟨M1, eM1⟩ : ∃ z : jM, z = jup M 11 0 7 1 := ⟨_, rfl⟩
    rw [← eM1] at G
    have h := h M1 eM1
    have nM1 : jnb M1 = jnb M := by rw [eM1]; exact jnb_up (by decide)
    refine lv_iconst (v := 0) C.x C.b dX12_restore_16 (by decide) ?_
    refine lv_istore_n (lv' := [(1, .int 0), (0, .ref (g 11 0))]) C.x C.b dX12_restore_17 rfl hl (by decide) rfl (fun ls hl => ?_)
    exact h p l e s m args below meth c D cA base g C hr htb _ _ G ls (lv_sub hl [1, 0] rfl)
  · have h := h.2 hc
    refine lv_iconst (v := 0) C.x C.b dX12_restore_8 (by decide) ?_
    refine lv_goto (tgt := 13) C.x C.b dX12_restore_9 (by decide) ?_
    refine jr_put C G jc11 7 (v := 0) (show 0 < 1 by decide) (by decide) (by decide) rfl (by decide) wd1198 rfl rfl rfl rfl dX12_restore_13 (fun H locs G => ?_)
    obtain ⟨M2, eM2⟩ : ∃ z : jM, z = jup M 11 0 7 0 := ⟨_, rfl⟩
    rw [← eM2] at G
    have h := h M2 eM2
    have nM2 : jnb M2 = jnb M := by rw [eM2]; exact jnb_up (by decide)
    refine lv_iconst (v := 0) C.x C.b dX12_restore_16 (by decide) ?_
    refine lv_istore_n (lv' := [(1, .int 0), (0, .ref (g 11 0))]) C.x C.b dX12_restore_17 rfl hl (by decide) rfl (fun ls hl => ?_)
    exact h p l e s m args below meth c D cA base g C hr htb _ _ G ls (lv_sub hl [1, 0] rfl)
set_option maxHeartbeats 4000000 in
set_option maxRecDepth 100000 in
theorem bl_X12_restore_18 (v1 : Int32) (M : jM) (Q : Int32 → Nat → jM → Prop) 
  (h : (3510 ≤ v1 → at_X12_restore_52 0 M Q) ∧ (¬ (3510 ≤ v1) → (M 11 0 6 = 0 → at_X12_restore_52 0 M Q) ∧ (¬ (M 11 0 6 = 0) → vp_in v1 3510 ∧ vp_in v1 3510 ∧ (∀ M1 : jM, M1 = jup M 50 0 v1.toNatClampNeg (M 52 0 v1.toNatClampNeg) → at_X12_restore_18 (v1 + 1) M1 Q)))) :
  at_X12_restore_18 v1 M Q := by
  intro p l e s m args below meth c D cA base g C hr htb H locs G ls hl
  refine lv_iload_n C.x C.b dX12_restore_18 rfl (lv_at hl 1 rfl) ?_
  refine lv_sipush (v := 3510) C.x C.b dX12_restore_19 (by decide) ?_
  refine lv_icmp_ge (tgt := 50) C.x C.b dX12_restore_22 (by decide) (fun hc => ?_) (fun hc => ?_)
  · have h := h.1 hc
    refine lv_iconst (v := 0) C.x C.b dX12_restore_50 (by decide) ?_
    refine lv_istore_n (lv' := [(1, .int 0), (0, .ref (g 11 0))]) C.x C.b dX12_restore_51 rfl hl (by decide) rfl (fun ls hl => ?_)
    exact h p l e s m args below meth c D cA base g C hr htb _ _ G ls (lv_sub hl [1, 0] rfl)
  · have h := h.2 hc
    refine lv_aload_n C.x C.b dX12_restore_25 rfl (lv_at hl 0 rfl) ?_
    refine jr_get C G jc11 6 (v := .int (M 11 0 6)) (show 0 < 1 by decide) (by decide) (by decide) rfl wd1197 dX12_restore_26 ?_
    refine lv_if_eq (tgt := 50) C.x C.b dX12_restore_29 (by decide) (fun hc => ?_) (fun hc => ?_)
    · have h := h.1 hc
      refine lv_iconst (v := 0) C.x C.b dX12_restore_50 (by decide) ?_
      refine lv_istore_n (lv' := [(1, .int 0), (0, .ref (g 11 0))]) C.x C.b dX12_restore_51 rfl hl (by decide) rfl (fun ls hl => ?_)
      exact h p l e s m args below meth c D cA base g C hr htb _ _ G ls (lv_sub hl [1, 0] rfl)
    · have h := h.2 hc
      refine lv_aload_n C.x C.b dX12_restore_32 rfl (lv_at hl 0 rfl) ?_
      refine jr_get C G jc11 1 (v := .ref (g 50 0)) (show 0 < 1 by decide) (by decide) (by decide) rfl wd1192 dX12_restore_33 ?_
      refine lv_iload_n C.x C.b dX12_restore_36 rfl (lv_at hl 1 rfl) ?_
      refine lv_aload_n C.x C.b dX12_restore_37 rfl (lv_at hl 0 rfl) ?_
      refine jr_get C G jc11 4 (v := .ref (g 52 0)) (show 0 < 1 by decide) (by decide) (by decide) rfl wd1195 dX12_restore_38 ?_
      refine lv_iload_n C.x C.b dX12_restore_41 rfl (lv_at hl 1 rfl) ?_
      obtain ⟨hs, h⟩ := h
      refine jr_ald C G (show 0 < 1 by decide) (by decide) (by decide) (by decide) rfl rfl hs dX12_restore_42 ?_
      obtain ⟨hs, h⟩ := h
      refine jr_ast C G (show 0 < 1 by decide) (by decide) (by decide) (by decide) rfl rfl hs dX12_restore_43 (fun H locs G => ?_)
      obtain ⟨M1, eM1⟩ : ∃ z : jM, z = jup M 50 0 v1.toNatClampNeg (M 52 0 v1.toNatClampNeg) := ⟨_, rfl⟩
      rw [← eM1] at G
      have h := h M1 eM1
      have nM1 : jnb M1 = jnb M := by rw [eM1]; exact jnb_up (by decide)
      refine lv_iinc (v := v1 + 1) (lv' := [(1, .int (v1 + 1)), (0, .ref (g 11 0))]) C.x C.b dX12_restore_44 hl (k := 1) rfl rfl (by decide) rfl (fun ls hl => ?_)
      refine lv_goto (tgt := 18) C.x C.b dX12_restore_47 (by decide) ?_
      exact h p l e s m args below meth c D cA base g C hr htb _ _ G ls (lv_sub hl [1, 0] rfl)
set_option maxHeartbeats 4000000 in
set_option maxRecDepth 100000 in
theorem bl_X12_restore_52 (v1 : Int32) (M : jM) (Q : Int32 → Nat → jM → Prop) 
  (h : (3 ≤ v1 → (M 11 0 6 = 0 → (∀ M1 : jM, M1 = jup M 11 0 0 (M 11 0 0) → Q 0 0 M1)) ∧ (¬ (M 11 0 6 = 0) → (∀ M2 : jM, M2 = jup M 11 0 0 (M 11 0 3) → Q 0 0 M2))) ∧ (¬ (3 ≤ v1) → (M 11 0 6 = 0 → (M 11 0 6 = 0 → (∀ M3 : jM, M3 = jup M 11 0 0 (M 11 0 0) → Q 0 0 M3)) ∧ (¬ (M 11 0 6 = 0) → (∀ M4 : jM, M4 = jup M 11 0 0 (M 11 0 3) → Q 0 0 M4))) ∧ (¬ (M 11 0 6 = 0) → vp_in v1 3 ∧ vp_in v1 3 ∧ (∀ M5 : jM, M5 = jup M 51 0 v1.toNatClampNeg (M 53 0 v1.toNatClampNeg) → at_X12_restore_52 (v1 + 1) M5 Q)))) :
  at_X12_restore_52 v1 M Q := by
  intro p l e s m args below meth c D cA base g C hr htb H locs G ls hl
  refine lv_iload_n C.x C.b dX12_restore_52 rfl (lv_at hl 1 rfl) ?_
  refine lv_iconst (v := 3) C.x C.b dX12_restore_53 (by decide) ?_
  refine lv_icmp_ge (tgt := 82) C.x C.b dX12_restore_54 (by decide) (fun hc => ?_) (fun hc => ?_)
  · have h := h.1 hc
    refine lv_aload_n C.x C.b dX12_restore_82 rfl (lv_at hl 0 rfl) ?_
    refine lv_aload_n C.x C.b dX12_restore_83 rfl (lv_at hl 0 rfl) ?_
    refine jr_get C G jc11 6 (v := .int (M 11 0 6)) (show 0 < 1 by decide) (by decide) (by decide) rfl wd1197 dX12_restore_84 ?_
    refine lv_if_eq (tgt := 97) C.x C.b dX12_restore_87 (by decide) (fun hc => ?_) (fun hc => ?_)
    · have h := h.1 hc
      refine lv_aload_n C.x C.b dX12_restore_97 rfl (lv_at hl 0 rfl) ?_
      refine jr_get C G jc11 0 (v := .int (M 11 0 0)) (show 0 < 1 by decide) (by decide) (by decide) rfl wd1191 dX12_restore_98 ?_
      refine jr_put C G jc11 0 (v := M 11 0 0) (show 0 < 1 by decide) (by decide) (by decide) rfl (by decide) wd1191 rfl rfl rfl rfl dX12_restore_101 (fun H locs G => ?_)
      obtain ⟨M1, eM1⟩ : ∃ z : jM, z = jup M 11 0 0 (M 11 0 0) := ⟨_, rfl⟩
      rw [← eM1] at G
      have h := h M1 eM1
      have nM1 : jnb M1 = jnb M := by rw [eM1]; exact jnb_up (by decide)
      exact jr_retV C hr G h (by decide) (by decide) dX12_restore_104
    · have h := h.2 hc
      refine lv_aload_n C.x C.b dX12_restore_90 rfl (lv_at hl 0 rfl) ?_
      refine jr_get C G jc11 3 (v := .int (M 11 0 3)) (show 0 < 1 by decide) (by decide) (by decide) rfl wd1194 dX12_restore_91 ?_
      refine lv_goto (tgt := 101) C.x C.b dX12_restore_94 (by decide) ?_
      refine jr_put C G jc11 0 (v := M 11 0 3) (show 0 < 1 by decide) (by decide) (by decide) rfl (by decide) wd1191 rfl rfl rfl rfl dX12_restore_101 (fun H locs G => ?_)
      obtain ⟨M2, eM2⟩ : ∃ z : jM, z = jup M 11 0 0 (M 11 0 3) := ⟨_, rfl⟩
      rw [← eM2] at G
      have h := h M2 eM2
      have nM2 : jnb M2 = jnb M := by rw [eM2]; exact jnb_up (by decide)
      exact jr_retV C hr G h (by decide) (by decide) dX12_restore_104
  · have h := h.2 hc
    refine lv_aload_n C.x C.b dX12_restore_57 rfl (lv_at hl 0 rfl) ?_
    refine jr_get C G jc11 6 (v := .int (M 11 0 6)) (show 0 < 1 by decide) (by decide) (by decide) rfl wd1197 dX12_restore_58 ?_
    refine lv_if_eq (tgt := 82) C.x C.b dX12_restore_61 (by decide) (fun hc => ?_) (fun hc => ?_)
    · have h := h.1 hc
      refine lv_aload_n C.x C.b dX12_restore_82 rfl (lv_at hl 0 rfl) ?_
      refine lv_aload_n C.x C.b dX12_restore_83 rfl (lv_at hl 0 rfl) ?_
      refine jr_get C G jc11 6 (v := .int (M 11 0 6)) (show 0 < 1 by decide) (by decide) (by decide) rfl wd1197 dX12_restore_84 ?_
      refine lv_if_eq (tgt := 97) C.x C.b dX12_restore_87 (by decide) (fun hc => ?_) (fun hc => ?_)
      · have h := h.1 hc
        refine lv_aload_n C.x C.b dX12_restore_97 rfl (lv_at hl 0 rfl) ?_
        refine jr_get C G jc11 0 (v := .int (M 11 0 0)) (show 0 < 1 by decide) (by decide) (by decide) rfl wd1191 dX12_restore_98 ?_
        refine jr_put C G jc11 0 (v := M 11 0 0) (show 0 < 1 by decide) (by decide) (by decide) rfl (by decide) wd1191 rfl rfl rfl rfl dX12_restore_101 (fun H locs G => ?_)
        obtain ⟨M3, eM3⟩ : ∃ z : jM, z = jup M 11 0 0 (M 11 0 0) := ⟨_, rfl⟩
        rw [← eM3] at G
        have h := h M3 eM3
        have nM3 : jnb M3 = jnb M := by rw [eM3]; exact jnb_up (by decide)
        exact jr_retV C hr G h (by decide) (by decide) dX12_restore_104
      · have h := h.2 hc
        refine lv_aload_n C.x C.b dX12_restore_90 rfl (lv_at hl 0 rfl) ?_
        refine jr_get C G jc11 3 (v := .int (M 11 0 3)) (show 0 < 1 by decide) (by decide) (by decide) rfl wd1194 dX12_restore_91 ?_
        refine lv_goto (tgt := 101) C.x C.b dX12_restore_94 (by decide) ?_
        refine jr_put C G jc11 0 (v := M 11 0 3) (show 0 < 1 by decide) (by decide) (by decide) rfl (by decide) wd1191 rfl rfl rfl rfl dX12_restore_101 (fun H locs G => ?_)
        obtain ⟨M4, eM4⟩ : ∃ z : jM, z = jup M 11 0 0 (M 11 0 3) := ⟨_, rfl⟩
        rw [← eM4] at G
        have h := h M4 eM4
        have nM4 : jnb M4 = jnb M := by rw [eM4]; exact jnb_up (by decide)
        exact jr_retV C hr G h (by decide) (by decide) dX12_restore_104
    · have h := h.2 hc
      refine lv_aload_n C.x C.b dX12_restore_64 rfl (lv_at hl 0 rfl) ?_
      refine jr_get C G jc11 2 (v := .ref (g 51 0)) (show 0 < 1 by decide) (by decide) (by decide) rfl wd1193 dX12_restore_65 ?_
      refine lv_iload_n C.x C.b dX12_restore_68 rfl (lv_at hl 1 rfl) ?_
      refine lv_aload_n C.x C.b dX12_restore_69 rfl (lv_at hl 0 rfl) ?_
      refine jr_get C G jc11 5 (v := .ref (g 53 0)) (show 0 < 1 by decide) (by decide) (by decide) rfl wd1196 dX12_restore_70 ?_
      refine lv_iload_n C.x C.b dX12_restore_73 rfl (lv_at hl 1 rfl) ?_
      obtain ⟨hs, h⟩ := h
      refine jr_ald C G (show 0 < 1 by decide) (by decide) (by decide) (by decide) rfl rfl hs dX12_restore_74 ?_
      obtain ⟨hs, h⟩ := h
      refine jr_ast C G (show 0 < 1 by decide) (by decide) (by decide) (by decide) rfl rfl hs dX12_restore_75 (fun H locs G => ?_)
      obtain ⟨M5, eM5⟩ : ∃ z : jM, z = jup M 51 0 v1.toNatClampNeg (M 53 0 v1.toNatClampNeg) := ⟨_, rfl⟩
      rw [← eM5] at G
      have h := h M5 eM5
      have nM5 : jnb M5 = jnb M := by rw [eM5]; exact jnb_up (by decide)
      refine lv_iinc (v := v1 + 1) (lv' := [(1, .int (v1 + 1)), (0, .ref (g 11 0))]) C.x C.b dX12_restore_76 hl (k := 1) rfl rfl (by decide) rfl (fun ls hl => ?_)
      refine lv_goto (tgt := 52) C.x C.b dX12_restore_79 (by decide) ?_
      exact h p l e s m args below meth c D cA base g C hr htb _ _ G ls (lv_sub hl [1, 0] rfl)

theorem en_X12_append {v1 : Int32} {M : jM} {Q : Int32 → Nat → jM → Prop} (h : at_X12_append_0 v1 M Q) : ok_X12_append v1 M Q := jr_enter (by decide) (fun g => rfl) (fun g => Nat.le_of_ble_eq_true rfl) h
set_option maxHeartbeats 4000000 in
set_option maxRecDepth 100000 in
theorem bl_X12_append_0 (v1 : Int32) (M : jM) (Q : Int32 → Nat → jM → Prop) 
  (h : (∀ M1 : jM, M1 = jup M 11 0 7 0 → at_X12_append_10 v1 0 24 M1 Q)) :
  at_X12_append_0 v1 M Q := by
  intro p l e s m args below meth c D cA base g C hr htb H locs G ls hl
  refine lv_aload_n C.x C.b dX12_append_0 rfl (lv_at hl 0 rfl) ?_
  refine lv_iconst (v := 0) C.x C.b dX12_append_1 (by decide) ?_
  refine jr_put C G jc11 7 (v := 0) (show 0 < 1 by decide) (by decide) (by decide) rfl (by decide) wd1198 rfl rfl rfl rfl dX12_append_2 (fun H locs G => ?_)
  obtain ⟨M1, eM1⟩ : ∃ z : jM, z = jup M 11 0 7 0 := ⟨_, rfl⟩
  rw [← eM1] at G
  have h := h M1 eM1
  have nM1 : jnb M1 = jnb M := by rw [eM1]; exact jnb_up (by decide)
  refine lv_iconst (v := 0) C.x C.b dX12_append_5 (by decide) ?_
  refine lv_istore_n (lv' := [(2, .int 0), (0, .ref (g 11 0)), (1, .int v1)]) C.x C.b dX12_append_6 rfl hl (by decide) rfl (fun ls hl => ?_)
  refine lv_bipush (v := 24) C.x C.b dX12_append_7 (by decide) ?_
  refine lv_istore_n (lv' := [(3, .int 24), (2, .int 0), (0, .ref (g 11 0)), (1, .int v1)]) C.x C.b dX12_append_9 rfl hl (by decide) rfl (fun ls hl => ?_)
  exact h p l e s m args below meth c D cA base g C hr htb _ _ G ls (lv_sub hl [2, 3, 1, 0] rfl)
set_option maxHeartbeats 4000000 in
set_option maxRecDepth 100000 in
theorem bl_X12_append_10 (v1 : Int32) (v2 : Int32) (v3 : Int32) (M : jM) (Q : Int32 → Nat → jM → Prop) 
  (h : (v3 < 0 → (((M 11 0 8) + v2) ≤ 120 → at_X12_append_85 v1 24 M Q) ∧ (¬ (((M 11 0 8) + v2) ≤ 120) → (∀ M2 : jM, M2 = jup M 11 0 7 2 → Q 0 0 M2))) ∧ (¬ (v3 < 0) → (((v1.toUInt32 >>> (v3.toUInt32 &&& Int32.toUInt32 31)).toInt32) &&& 255 = 0 → (((v1.toUInt32 >>> (v3.toUInt32 &&& Int32.toUInt32 31)).toInt32) &&& 255 = 0 → at_X12_append_10 v1 (v2 + 0) (v3 + (-8)) M Q) ∧ (¬ (((v1.toUInt32 >>> (v3.toUInt32 &&& Int32.toUInt32 31)).toInt32) &&& 255 = 0) → at_X12_append_10 v1 (v2 + 1) (v3 + (-8)) M Q)) ∧ (¬ (((v1.toUInt32 >>> (v3.toUInt32 &&& Int32.toUInt32 31)).toInt32) &&& 255 = 0) → ((33 ≤ (((v1.toUInt32 >>> (v3.toUInt32 &&& Int32.toUInt32 31)).toInt32) &&& 255) ∧ (((v1.toUInt32 >>> (v3.toUInt32 &&& Int32.toUInt32 31)).toInt32) &&& 255) ≤ 126) → (((v1.toUInt32 >>> (v3.toUInt32 &&& Int32.toUInt32 31)).toInt32) &&& 255 = 0 → at_X12_append_10 v1 (v2 + 0) (v3 + (-8)) M Q) ∧ (¬ (((v1.toUInt32 >>> (v3.toUInt32 &&& Int32.toUInt32 31)).toInt32) &&& 255 = 0) → at_X12_append_10 v1 (v2 + 1) (v3 + (-8)) M Q)) ∧ (¬ (33 ≤ (((v1.toUInt32 >>> (v3.toUInt32 &&& Int32.toUInt32 31)).toInt32) &&& 255) ∧ (((v1.toUInt32 >>> (v3.toUInt32 &&& Int32.toUInt32 31)).toInt32) &&& 255) ≤ 126) → (∀ M6 : jM, M6 = jup M 11 0 7 1 → Q 0 0 M6))))) :
  at_X12_append_10 v1 v2 v3 M Q := by
  intro p l e s m args below meth c D cA base g C hr htb H locs G ls hl
  refine lv_iload_n C.x C.b dX12_append_10 rfl (lv_at hl 3 rfl) ?_
  refine lv_if_lt (tgt := 65) C.x C.b dX12_append_11 (by decide) (fun hc => ?_) (fun hc => ?_)
  · have h := h.1 hc
    refine lv_aload_n C.x C.b dX12_append_65 rfl (lv_at hl 0 rfl) ?_
    refine jr_get C G jc11 8 (v := .int (M 11 0 8)) (show 0 < 1 by decide) (by decide) (by decide) rfl wd1199 dX12_append_66 ?_
    refine lv_iload_n C.x C.b dX12_append_69 rfl (lv_at hl 2 rfl) ?_
    refine lv_iadd C.x C.b dX12_append_70 ?_
    refine lv_bipush (v := 120) C.x C.b dX12_append_71 (by decide) ?_
    refine lv_icmp_le (tgt := 82) C.x C.b dX12_append_73 (by decide) (fun hc => ?_) (fun hc => ?_)
    · have h := h.1 hc
      refine lv_bipush (v := 24) C.x C.b dX12_append_82 (by decide) ?_
      refine lv_istore_n (lv' := [(3, .int 24), (0, .ref (g 11 0)), (1, .int v1), (2, .int v2)]) C.x C.b dX12_append_84 rfl hl (by decide) rfl (fun ls hl => ?_)
      exact h p l e s m args below meth c D cA base g C hr htb _ _ G ls (lv_sub hl [1, 2, 0] rfl)
    · have h := h.2 hc
      refine lv_aload_n C.x C.b dX12_append_76 rfl (lv_at hl 0 rfl) ?_
      refine lv_iconst (v := 2) C.x C.b dX12_append_77 (by decide) ?_
      refine jr_V (d' := 1) C G jc11 jm_X12_refuse wd1296 (sp_X12_refuse ⟨rfl, rfl⟩ : ok_X12_refuse 2 M (fun r _ M' => 0 = r ∧ M' = jup M 11 0 7 2)) rfl (show 0 < 1 by decide) (by decide) rfl rfl (by omega) (by decide) (by decide) ⟨rfl, rfl⟩ hl.1 (Nat.le_of_ble_eq_true rfl) dX12_append_78 (fun r1 r1n M2 H locs hq G => ?_)
      obtain ⟨eq1, eM2⟩ := hq
      subst eq1
      have h := h M2 eM2
      have nM2 : jnb M2 = jnb M := by rw [eM2]; first | exact jnb_up (by decide) | simp [jnb_up]
      exact jr_retI C hr G h (by decide) (by decide) dX12_append_81
  · have h := h.2 hc
    refine lv_iload_n C.x C.b dX12_append_14 rfl (lv_at hl 1 rfl) ?_
    refine lv_iload_n C.x C.b dX12_append_15 rfl (lv_at hl 3 rfl) ?_
    refine lv_iushr (v := (v1.toUInt32 >>> (v3.toUInt32 &&& Int32.toUInt32 31)).toInt32) C.x C.b dX12_append_16 rfl ?_
    refine lv_sipush (v := 255) C.x C.b dX12_append_17 (by decide) ?_
    refine lv_iand C.x C.b dX12_append_20 ?_
    refine lv_istore (lv' := [(4, .int (((v1.toUInt32 >>> (v3.toUInt32 &&& Int32.toUInt32 31)).toInt32) &&& 255)), (0, .ref (g 11 0)), (1, .int v1), (2, .int v2), (3, .int v3)]) C.x C.b dX12_append_21 hl (by decide) rfl (fun ls hl => ?_)
    refine lv_iload C.x C.b dX12_append_23 (lv_at hl 0 rfl) ?_
    refine lv_if_eq (tgt := 46) C.x C.b dX12_append_25 (by decide) (fun hc => ?_) (fun hc => ?_)
    · have h := h.1 hc
      refine lv_iload_n C.x C.b dX12_append_46 rfl (lv_at hl 3 rfl) ?_
      refine lv_iload C.x C.b dX12_append_47 (lv_at hl 0 rfl) ?_
      refine lv_if_ne (tgt := 56) C.x C.b dX12_append_49 (by decide) (fun hc => ?_) (fun hc => ?_)
      · have h := h.2 hc
        refine lv_iconst (v := 1) C.x C.b dX12_append_56 (by decide) ?_
        refine lv_iadd C.x C.b dX12_append_57 ?_
        refine lv_istore_n (lv' := [(2, .int (v2 + 1)), (4, .int (((v1.toUInt32 >>> (v3.toUInt32 &&& Int32.toUInt32 31)).toInt32) &&& 255)), (0, .ref (g 11 0)), (1, .int v1), (3, .int v3)]) C.x C.b dX12_append_58 rfl hl (by decide) rfl (fun ls hl => ?_)
        refine lv_iinc (v := v3 + (-8)) (lv' := [(3, .int (v3 + (-8))), (2, .int (v2 + 1)), (4, .int (((v1.toUInt32 >>> (v3.toUInt32 &&& Int32.toUInt32 31)).toInt32) &&& 255)), (0, .ref (g 11 0)), (1, .int v1)]) C.x C.b dX12_append_59 hl (k := 4) rfl rfl (by decide) rfl (fun ls hl => ?_)
        refine lv_goto (tgt := 10) C.x C.b dX12_append_62 (by decide) ?_
        exact h p l e s m args below meth c D cA base g C hr htb _ _ G ls (lv_sub hl [3, 4, 1, 0] rfl)
      · have h := h.1 hc
        refine lv_iconst (v := 0) C.x C.b dX12_append_52 (by decide) ?_
        refine lv_goto (tgt := 57) C.x C.b dX12_append_53 (by decide) ?_
        refine lv_iadd C.x C.b dX12_append_57 ?_
        refine lv_istore_n (lv' := [(2, .int (v2 + 0)), (4, .int (((v1.toUInt32 >>> (v3.toUInt32 &&& Int32.toUInt32 31)).toInt32) &&& 255)), (0, .ref (g 11 0)), (1, .int v1), (3, .int v3)]) C.x C.b dX12_append_58 rfl hl (by decide) rfl (fun ls hl => ?_)
        refine lv_iinc (v := v3 + (-8)) (lv' := [(3, .int (v3 + (-8))), (2, .int (v2 + 0)), (4, .int (((v1.toUInt32 >>> (v3.toUInt32 &&& Int32.toUInt32 31)).toInt32) &&& 255)), (0, .ref (g 11 0)), (1, .int v1)]) C.x C.b dX12_append_59 hl (k := 4) rfl rfl (by decide) rfl (fun ls hl => ?_)
        refine lv_goto (tgt := 10) C.x C.b dX12_append_62 (by decide) ?_
        exact h p l e s m args below meth c D cA base g C hr htb _ _ G ls (lv_sub hl [3, 4, 1, 0] rfl)
    · have h := h.2 hc
      refine lv_iload C.x C.b dX12_append_28 (lv_at hl 0 rfl) ?_
      refine lv_bipush (v := 33) C.x C.b dX12_append_30 (by decide) ?_
      refine lv_bipush (v := 126) C.x C.b dX12_append_32 (by decide) ?_
      refine jr_S (d' := 1) C G jm_X12_in wd1293 (sp_X12_in ⟨rfl, rfl⟩ : ok_X12_in (((v1.toUInt32 >>> (v3.toUInt32 &&& Int32.toUInt32 31)).toInt32) &&& 255) 33 126 M (fun r _ M' => jb (33 ≤ (((v1.toUInt32 >>> (v3.toUInt32 &&& Int32.toUInt32 31)).toInt32) &&& 255) ∧ (((v1.toUInt32 >>> (v3.toUInt32 &&& Int32.toUInt32 31)).toInt32) &&& 255) ≤ 126) = r ∧ M = M')) rfl rfl rfl (by omega) (by decide) (by decide) ⟨rfl, rfl⟩ hl.1 (Nat.le_of_ble_eq_true rfl) dX12_append_34 (fun r3 r3n M4 H locs hq G => ?_)
      obtain ⟨eq1, eq2⟩ := hq
      subst eq1
      subst eq2
      refine lv_if_ne (tgt := 46) C.x C.b dX12_append_37 (by decide) (fun hc => ?_) (fun hc => ?_)
      · have h := h.1 (jb_1 hc)
        refine lv_iload_n C.x C.b dX12_append_46 rfl (lv_at hl 3 rfl) ?_
        refine lv_iload C.x C.b dX12_append_47 (lv_at hl 0 rfl) ?_
        refine lv_if_ne (tgt := 56) C.x C.b dX12_append_49 (by decide) (fun hc => ?_) (fun hc => ?_)
        · have h := h.2 hc
          refine lv_iconst (v := 1) C.x C.b dX12_append_56 (by decide) ?_
          refine lv_iadd C.x C.b dX12_append_57 ?_
          refine lv_istore_n (lv' := [(2, .int (v2 + 1)), (4, .int (((v1.toUInt32 >>> (v3.toUInt32 &&& Int32.toUInt32 31)).toInt32) &&& 255)), (0, .ref (g 11 0)), (1, .int v1), (3, .int v3)]) C.x C.b dX12_append_58 rfl hl (by decide) rfl (fun ls hl => ?_)
          refine lv_iinc (v := v3 + (-8)) (lv' := [(3, .int (v3 + (-8))), (2, .int (v2 + 1)), (4, .int (((v1.toUInt32 >>> (v3.toUInt32 &&& Int32.toUInt32 31)).toInt32) &&& 255)), (0, .ref (g 11 0)), (1, .int v1)]) C.x C.b dX12_append_59 hl (k := 4) rfl rfl (by decide) rfl (fun ls hl => ?_)
          refine lv_goto (tgt := 10) C.x C.b dX12_append_62 (by decide) ?_
          exact h p l e s m args below meth c D cA base g C hr htb _ _ G ls (lv_sub hl [3, 4, 1, 0] rfl)
        · have h := h.1 hc
          refine lv_iconst (v := 0) C.x C.b dX12_append_52 (by decide) ?_
          refine lv_goto (tgt := 57) C.x C.b dX12_append_53 (by decide) ?_
          refine lv_iadd C.x C.b dX12_append_57 ?_
          refine lv_istore_n (lv' := [(2, .int (v2 + 0)), (4, .int (((v1.toUInt32 >>> (v3.toUInt32 &&& Int32.toUInt32 31)).toInt32) &&& 255)), (0, .ref (g 11 0)), (1, .int v1), (3, .int v3)]) C.x C.b dX12_append_58 rfl hl (by decide) rfl (fun ls hl => ?_)
          refine lv_iinc (v := v3 + (-8)) (lv' := [(3, .int (v3 + (-8))), (2, .int (v2 + 0)), (4, .int (((v1.toUInt32 >>> (v3.toUInt32 &&& Int32.toUInt32 31)).toInt32) &&& 255)), (0, .ref (g 11 0)), (1, .int v1)]) C.x C.b dX12_append_59 hl (k := 4) rfl rfl (by decide) rfl (fun ls hl => ?_)
          refine lv_goto (tgt := 10) C.x C.b dX12_append_62 (by decide) ?_
          exact h p l e s m args below meth c D cA base g C hr htb _ _ G ls (lv_sub hl [3, 4, 1, 0] rfl)
      · have h := h.2 (jb_0 hc)
        refine lv_aload_n C.x C.b dX12_append_40 rfl (lv_at hl 1 rfl) ?_
        refine lv_iconst (v := 1) C.x C.b dX12_append_41 (by decide) ?_
        refine jr_V (d' := 1) C G jc11 jm_X12_refuse wd1296 (sp_X12_refuse ⟨rfl, rfl⟩ : ok_X12_refuse 1 M (fun r _ M' => 0 = r ∧ M' = jup M 11 0 7 1)) rfl (show 0 < 1 by decide) (by decide) rfl rfl (by omega) (by decide) (by decide) ⟨rfl, rfl⟩ hl.1 (Nat.le_of_ble_eq_true rfl) dX12_append_42 (fun r5 r5n M6 H locs hq G => ?_)
        obtain ⟨eq1, eM6⟩ := hq
        subst eq1
        have h := h M6 eM6
        have nM6 : jnb M6 = jnb M := by rw [eM6]; first | exact jnb_up (by decide) | simp [jnb_up]
        exact jr_retI C hr G h (by decide) (by decide) dX12_append_45
set_option maxHeartbeats 4000000 in
set_option maxRecDepth 100000 in
theorem bl_X12_append_85 (v1 : Int32) (v3 : Int32) (M : jM) (Q : Int32 → Nat → jM → Prop) 
  (h : (v3 < 0 → Q (M 11 0 8) 0 M) ∧ (¬ (v3 < 0) → (((v1.toUInt32 >>> (v3.toUInt32 &&& Int32.toUInt32 31)).toInt32) &&& 255 = 0 → at_X12_append_85 v1 (v3 + (-8)) M Q) ∧ (¬ (((v1.toUInt32 >>> (v3.toUInt32 &&& Int32.toUInt32 31)).toInt32) &&& 255 = 0) → vp_in (M 11 0 8) 120 ∧ (∀ M1 : jM, M1 = jup M 54 0 (M 11 0 8).toNatClampNeg (((v1.toUInt32 >>> (v3.toUInt32 &&& Int32.toUInt32 31)).toInt32) &&& 255) → (∀ M2 : jM, M2 = jup M1 11 0 8 ((M1 11 0 8) + 1) → at_X12_append_85 v1 (v3 + (-8)) M2 Q))))) :
  at_X12_append_85 v1 v3 M Q := by
  intro p l e s m args below meth c D cA base g C hr htb H locs G ls hl
  refine lv_iload_n C.x C.b dX12_append_85 rfl (lv_at hl 2 rfl) ?_
  refine lv_if_lt (tgt := 130) C.x C.b dX12_append_86 (by decide) (fun hc => ?_) (fun hc => ?_)
  · have h := h.1 hc
    refine lv_aload_n C.x C.b dX12_append_130 rfl (lv_at hl 0 rfl) ?_
    refine jr_get C G jc11 8 (v := .int (M 11 0 8)) (show 0 < 1 by decide) (by decide) (by decide) rfl wd1199 dX12_append_131 ?_
    exact jr_retI C hr G h (by decide) (by decide) dX12_append_134
  · have h := h.2 hc
    refine lv_iload_n C.x C.b dX12_append_89 rfl (lv_at hl 1 rfl) ?_
    refine lv_iload_n C.x C.b dX12_append_90 rfl (lv_at hl 2 rfl) ?_
    refine lv_iushr (v := (v1.toUInt32 >>> (v3.toUInt32 &&& Int32.toUInt32 31)).toInt32) C.x C.b dX12_append_91 rfl ?_
    refine lv_sipush (v := 255) C.x C.b dX12_append_92 (by decide) ?_
    refine lv_iand C.x C.b dX12_append_95 ?_
    refine lv_istore (lv' := [(4, .int (((v1.toUInt32 >>> (v3.toUInt32 &&& Int32.toUInt32 31)).toInt32) &&& 255)), (0, .ref (g 11 0)), (1, .int v1), (3, .int v3)]) C.x C.b dX12_append_96 hl (by decide) rfl (fun ls hl => ?_)
    refine lv_iload C.x C.b dX12_append_98 (lv_at hl 0 rfl) ?_
    refine lv_if_eq (tgt := 124) C.x C.b dX12_append_100 (by decide) (fun hc => ?_) (fun hc => ?_)
    · have h := h.1 hc
      refine lv_iinc (v := v3 + (-8)) (lv' := [(3, .int (v3 + (-8))), (4, .int (((v1.toUInt32 >>> (v3.toUInt32 &&& Int32.toUInt32 31)).toInt32) &&& 255)), (0, .ref (g 11 0)), (1, .int v1)]) C.x C.b dX12_append_124 hl (k := 3) rfl rfl (by decide) rfl (fun ls hl => ?_)
      refine lv_goto (tgt := 85) C.x C.b dX12_append_127 (by decide) ?_
      exact h p l e s m args below meth c D cA base g C hr htb _ _ G ls (lv_sub hl [2, 3, 0] rfl)
    · have h := h.2 hc
      refine lv_aload_n C.x C.b dX12_append_103 rfl (lv_at hl 1 rfl) ?_
      refine jr_get C G jc11 9 (v := .ref (g 54 0)) (show 0 < 1 by decide) (by decide) (by decide) rfl wd1200 dX12_append_104 ?_
      refine lv_aload_n C.x C.b dX12_append_107 rfl (lv_at hl 1 rfl) ?_
      refine jr_get C G jc11 8 (v := .int (M 11 0 8)) (show 0 < 1 by decide) (by decide) (by decide) rfl wd1199 dX12_append_108 ?_
      refine lv_iload C.x C.b dX12_append_111 (lv_at hl 0 rfl) ?_
      obtain ⟨hs, h⟩ := h
      refine jr_ast C G (show 0 < 1 by decide) (by decide) (by decide) (by decide) rfl rfl hs dX12_append_113 (fun H locs G => ?_)
      obtain ⟨M1, eM1⟩ : ∃ z : jM, z = jup M 54 0 (M 11 0 8).toNatClampNeg (((v1.toUInt32 >>> (v3.toUInt32 &&& Int32.toUInt32 31)).toInt32) &&& 255) := ⟨_, rfl⟩
      rw [← eM1] at G
      have h := h M1 eM1
      have nM1 : jnb M1 = jnb M := by rw [eM1]; exact jnb_up (by decide)
      refine lv_aload_n C.x C.b dX12_append_114 rfl (lv_at hl 1 rfl) ?_
      refine lv_dup C.x C.b dX12_append_115 rfl ?_
      refine jr_get C G jc11 8 (v := .int (M1 11 0 8)) (show 0 < 1 by decide) (by decide) (by decide) rfl wd1199 dX12_append_116 ?_
      refine lv_iconst (v := 1) C.x C.b dX12_append_119 (by decide) ?_
      refine lv_iadd C.x C.b dX12_append_120 ?_
      refine jr_put C G jc11 8 (v := (M1 11 0 8) + 1) (show 0 < 1 by decide) (by decide) (by decide) rfl (by decide) wd1199 rfl rfl rfl rfl dX12_append_121 (fun H locs G => ?_)
      obtain ⟨M2, eM2⟩ : ∃ z : jM, z = jup M1 11 0 8 ((M1 11 0 8) + 1) := ⟨_, rfl⟩
      rw [← eM2] at G
      have h := h M2 eM2
      have nM2 : jnb M2 = jnb M1 := by rw [eM2]; exact jnb_up (by decide)
      refine lv_iinc (v := v3 + (-8)) (lv' := [(3, .int (v3 + (-8))), (4, .int (((v1.toUInt32 >>> (v3.toUInt32 &&& Int32.toUInt32 31)).toInt32) &&& 255)), (0, .ref (g 11 0)), (1, .int v1)]) C.x C.b dX12_append_124 hl (k := 3) rfl rfl (by decide) rfl (fun ls hl => ?_)
      refine lv_goto (tgt := 85) C.x C.b dX12_append_127 (by decide) ?_
      exact h p l e s m args below meth c D cA base g C hr htb _ _ G ls (lv_sub hl [2, 3, 0] rfl)

theorem en_X12_take {v1 : Int32} {M : jM} {Q : Int32 → Nat → jM → Prop} (h : at_X12_take_0 v1 M Q) : ok_X12_take v1 M Q := jr_enter (by decide) (fun g => rfl) (fun g => Nat.le_of_ble_eq_true rfl) h
set_option maxHeartbeats 4000000 in
set_option maxRecDepth 100000 in
theorem bl_X12_take_0 (v1 : Int32) (M : jM) (Q : Int32 → Nat → jM → Prop) 
  (h : (M 11 0 13 = 0 → (M 11 0 12 < M 11 0 11 → vp_in (M 11 0 12) 120) ∧ ((jhr M) = v1 → (∀ M8 : jM, M8 = jup M 11 0 12 ((M 11 0 12) + 1) → Q 0 0 M8)) ∧ (¬ ((jhr M) = v1) → ok_X12_bad (M 11 0 12) M (fun _ _ M7 => jnb M7 = jnb M ∧ Q 0 0 M7))) ∧ (¬ (M 11 0 13 = 0) → ok_X12_bad (M 11 0 12) M (fun _ _ M2 => jnb M2 = jnb M ∧ Q 0 0 M2))) :
  at_X12_take_0 v1 M Q := by
  intro p l e s m args below meth c D cA base g C hr htb H locs G ls hl
  refine lv_aload_n C.x C.b dX12_take_0 rfl (lv_at hl 0 rfl) ?_
  refine jr_get C G jc11 13 (v := .int (M 11 0 13)) (show 0 < 1 by decide) (by decide) (by decide) rfl wd1204 dX12_take_1 ?_
  refine lv_if_ne (tgt := 28) C.x C.b dX12_take_4 (by decide) (fun hc => ?_) (fun hc => ?_)
  · have h := h.2 hc
    refine lv_aload_n C.x C.b dX12_take_28 rfl (lv_at hl 0 rfl) ?_
    refine lv_aload_n C.x C.b dX12_take_29 rfl (lv_at hl 0 rfl) ?_
    refine jr_get C G jc11 12 (v := .int (M 11 0 12)) (show 0 < 1 by decide) (by decide) (by decide) rfl wd1203 dX12_take_30 ?_
    refine jr_V (d' := 1) C G jc11 jm_X12_bad wd1320 h rfl (show 0 < 1 by decide) (by decide) rfl rfl (by omega) (by decide) (by decide) ⟨rfl, rfl⟩ hl.1 (Nat.le_of_ble_eq_true rfl) dX12_take_33 (fun r1 r1n M2 H locs h G => ?_)
    obtain ⟨nM2, h⟩ := h
    exact jr_retV C hr G h (by decide) (by decide) dX12_take_36
  · have h := h.1 hc
    refine lv_aload_n C.x C.b dX12_take_7 rfl (lv_at hl 0 rfl) ?_
    obtain ⟨hp5, h⟩ := h
    refine jr_V (d' := 1) C G jc11 jm_X12_here wd1316 (sp_X12_here hp5 ⟨rfl, rfl⟩ : ok_X12_here  M (fun r _ M' => (jhr M) = r ∧ M = M')) rfl (show 0 < 1 by decide) (by decide) rfl rfl (by omega) (by decide) (by decide) ⟨rfl, rfl⟩ hl.1 (Nat.le_of_ble_eq_true rfl) dX12_take_8 (fun r3 r3n M4 H locs hq G => ?_)
    obtain ⟨eq1, eq2⟩ := hq
    subst eq1
    subst eq2
    refine lv_iload_n C.x C.b dX12_take_11 rfl (lv_at hl 1 rfl) ?_
    refine lv_icmp_ne (tgt := 28) C.x C.b dX12_take_12 (by decide) (fun hc => ?_) (fun hc => ?_)
    · have h := h.2 hc
      refine lv_aload_n C.x C.b dX12_take_28 rfl (lv_at hl 0 rfl) ?_
      refine lv_aload_n C.x C.b dX12_take_29 rfl (lv_at hl 0 rfl) ?_
      refine jr_get C G jc11 12 (v := .int (M 11 0 12)) (show 0 < 1 by decide) (by decide) (by decide) rfl wd1203 dX12_take_30 ?_
      refine jr_V (d' := 1) C G jc11 jm_X12_bad wd1320 h rfl (show 0 < 1 by decide) (by decide) rfl rfl (by omega) (by decide) (by decide) ⟨rfl, rfl⟩ hl.1 (Nat.le_of_ble_eq_true rfl) dX12_take_33 (fun r6 r6n M7 H locs h G => ?_)
      obtain ⟨nM7, h⟩ := h
      exact jr_retV C hr G h (by decide) (by decide) dX12_take_36
    · have h := h.1 hc
      refine lv_aload_n C.x C.b dX12_take_15 rfl (lv_at hl 0 rfl) ?_
      refine lv_dup C.x C.b dX12_take_16 rfl ?_
      refine jr_get C G jc11 12 (v := .int (M 11 0 12)) (show 0 < 1 by decide) (by decide) (by decide) rfl wd1203 dX12_take_17 ?_
      refine lv_iconst (v := 1) C.x C.b dX12_take_20 (by decide) ?_
      refine lv_iadd C.x C.b dX12_take_21 ?_
      refine jr_put C G jc11 12 (v := (M 11 0 12) + 1) (show 0 < 1 by decide) (by decide) (by decide) rfl (by decide) wd1203 rfl rfl rfl rfl dX12_take_22 (fun H locs G => ?_)
      obtain ⟨M8, eM8⟩ : ∃ z : jM, z = jup M 11 0 12 ((M 11 0 12) + 1) := ⟨_, rfl⟩
      rw [← eM8] at G
      have h := h M8 eM8
      have nM8 : jnb M8 = jnb M := by rw [eM8]; exact jnb_up (by decide)
      refine lv_goto (tgt := 36) C.x C.b dX12_take_25 (by decide) ?_
      exact jr_retV C hr G h (by decide) (by decide) dX12_take_36

theorem en_X12_number  {M : jM} {Q : Int32 → Nat → jM → Prop} (h : at_X12_number_0  M Q) : ok_X12_number  M Q := jr_enter (by decide) (fun g => rfl) (fun g => Nat.le_of_ble_eq_true rfl) h
set_option maxHeartbeats 4000000 in
set_option maxRecDepth 100000 in
theorem bl_X12_number_0  (M : jM) (Q : Int32 → Nat → jM → Prop) 
  (h : (M 11 0 13 = 0 → (M 11 0 12 < M 11 0 11 → vp_in (M 11 0 12) 120) ∧ ((48 ≤ (jhr M) ∧ (jhr M) ≤ 57) → (M 11 0 12 < M 11 0 11 → vp_in (M 11 0 12) 120) ∧ (∀ M11 : jM, M11 = jup M 11 0 12 ((M 11 0 12) + 1) → (((jhr M) - 48) ≤ 0 → Q ((jhr M) - 48) 0 M11) ∧ (¬ (((jhr M) - 48) ≤ 0) → (M11 11 0 12 < M11 11 0 11 → vp_in (M11 11 0 12) 120) ∧ ((48 ≤ (jhr M11) ∧ (jhr M11) ≤ 57) → (M11 11 0 12 < M11 11 0 11 → vp_in (M11 11 0 12) 120) ∧ (∀ M20 : jM, M20 = jup M11 11 0 12 ((M11 11 0 12) + 1) → Q (((10 * ((jhr M) - 48)) + (jhr M11)) - 48) 0 M20)) ∧ (¬ (48 ≤ (jhr M11) ∧ (jhr M11) ≤ 57) → Q ((jhr M) - 48) 0 M11)))) ∧ (¬ (48 ≤ (jhr M) ∧ (jhr M) ≤ 57) → ok_X12_bad (M 11 0 12) M (fun _ _ M22 => jnb M22 = jnb M ∧ Q 0 0 M22))) ∧ (¬ (M 11 0 13 = 0) → ok_X12_bad (M 11 0 12) M (fun _ _ M2 => jnb M2 = jnb M ∧ Q 0 0 M2))) :
  at_X12_number_0  M Q := by
  intro p l e s m args below meth c D cA base g C hr htb H locs G ls hl
  refine lv_aload_n C.x C.b dX12_number_0 rfl (lv_at hl 0 rfl) ?_
  refine jr_get C G jc11 13 (v := .int (M 11 0 13)) (show 0 < 1 by decide) (by decide) (by decide) rfl wd1204 dX12_number_1 ?_
  refine lv_if_ne (tgt := 21) C.x C.b dX12_number_4 (by decide) (fun hc => ?_) (fun hc => ?_)
  · have h := h.2 hc
    refine lv_aload_n C.x C.b dX12_number_21 rfl (lv_at hl 0 rfl) ?_
    refine lv_aload_n C.x C.b dX12_number_22 rfl (lv_at hl 0 rfl) ?_
    refine jr_get C G jc11 12 (v := .int (M 11 0 12)) (show 0 < 1 by decide) (by decide) (by decide) rfl wd1203 dX12_number_23 ?_
    refine jr_V (d' := 1) C G jc11 jm_X12_bad wd1320 h rfl (show 0 < 1 by decide) (by decide) rfl rfl (by omega) (by decide) (by decide) ⟨rfl, rfl⟩ hl.1 (Nat.le_of_ble_eq_true rfl) dX12_number_26 (fun r1 r1n M2 H locs h G => ?_)
    obtain ⟨nM2, h⟩ := h
    refine lv_iconst (v := 0) C.x C.b dX12_number_29 (by decide) ?_
    exact jr_retI C hr G h (by decide) (by decide) dX12_number_30
  · have h := h.1 hc
    refine lv_aload_n C.x C.b dX12_number_7 rfl (lv_at hl 0 rfl) ?_
    obtain ⟨hp5, h⟩ := h
    refine jr_V (d' := 1) C G jc11 jm_X12_here wd1316 (sp_X12_here hp5 ⟨rfl, rfl⟩ : ok_X12_here  M (fun r _ M' => (jhr M) = r ∧ M = M')) rfl (show 0 < 1 by decide) (by decide) rfl rfl (by omega) (by decide) (by decide) ⟨rfl, rfl⟩ hl.1 (Nat.le_of_ble_eq_true rfl) dX12_number_8 (fun r3 r3n M4 H locs hq G => ?_)
    obtain ⟨eq1, eq2⟩ := hq
    subst eq1
    subst eq2
    refine lv_bipush (v := 48) C.x C.b dX12_number_11 (by decide) ?_
    refine lv_bipush (v := 57) C.x C.b dX12_number_13 (by decide) ?_
    refine jr_S (d' := 1) C G jm_X12_in wd1293 (sp_X12_in ⟨rfl, rfl⟩ : ok_X12_in (jhr M) 48 57 M (fun r _ M' => jb (48 ≤ (jhr M) ∧ (jhr M) ≤ 57) = r ∧ M = M')) rfl rfl rfl (by omega) (by decide) (by decide) ⟨rfl, rfl⟩ hl.1 (Nat.le_of_ble_eq_true rfl) dX12_number_15 (fun r6 r6n M7 H locs hq G => ?_)
    obtain ⟨eq1, eq2⟩ := hq
    subst eq1
    subst eq2
    refine lv_if_ne (tgt := 31) C.x C.b dX12_number_18 (by decide) (fun hc => ?_) (fun hc => ?_)
    · have h := h.1 (jb_1 hc)
      refine lv_aload_n C.x C.b dX12_number_31 rfl (lv_at hl 0 rfl) ?_
      obtain ⟨hp10, h⟩ := h
      refine jr_V (d' := 1) C G jc11 jm_X12_here wd1316 (sp_X12_here hp10 ⟨rfl, rfl⟩ : ok_X12_here  M (fun r _ M' => (jhr M) = r ∧ M = M')) rfl (show 0 < 1 by decide) (by decide) rfl rfl (by omega) (by decide) (by decide) ⟨rfl, rfl⟩ hl.1 (Nat.le_of_ble_eq_true rfl) dX12_number_32 (fun r8 r8n M9 H locs hq G => ?_)
      obtain ⟨eq1, eq2⟩ := hq
      subst eq1
      subst eq2
      refine lv_bipush (v := 48) C.x C.b dX12_number_35 (by decide) ?_
      refine lv_isub C.x C.b dX12_number_37 ?_
      refine lv_istore_n (lv' := [(1, .int ((jhr M) - 48)), (0, .ref (g 11 0))]) C.x C.b dX12_number_38 rfl hl (by decide) rfl (fun ls hl => ?_)
      refine lv_aload_n C.x C.b dX12_number_39 rfl (lv_at hl 1 rfl) ?_
      refine lv_dup C.x C.b dX12_number_40 rfl ?_
      refine jr_get C G jc11 12 (v := .int (M 11 0 12)) (show 0 < 1 by decide) (by decide) (by decide) rfl wd1203 dX12_number_41 ?_
      refine lv_iconst (v := 1) C.x C.b dX12_number_44 (by decide) ?_
      refine lv_iadd C.x C.b dX12_number_45 ?_
      refine jr_put C G jc11 12 (v := (M 11 0 12) + 1) (show 0 < 1 by decide) (by decide) (by decide) rfl (by decide) wd1203 rfl rfl rfl rfl dX12_number_46 (fun H locs G => ?_)
      obtain ⟨M11, eM11⟩ : ∃ z : jM, z = jup M 11 0 12 ((M 11 0 12) + 1) := ⟨_, rfl⟩
      rw [← eM11] at G
      have h := h M11 eM11
      have nM11 : jnb M11 = jnb M := by rw [eM11]; exact jnb_up (by decide)
      refine lv_iload_n C.x C.b dX12_number_49 rfl (lv_at hl 0 rfl) ?_
      refine lv_if_le (tgt := 90) C.x C.b dX12_number_50 (by decide) (fun hc => ?_) (fun hc => ?_)
      · have h := h.1 hc
        refine lv_iload_n C.x C.b dX12_number_90 rfl (lv_at hl 0 rfl) ?_
        exact jr_retI C hr G h (by decide) (by decide) dX12_number_91
      · have h := h.2 hc
        refine lv_aload_n C.x C.b dX12_number_53 rfl (lv_at hl 1 rfl) ?_
        obtain ⟨hp14, h⟩ := h
        refine jr_V (d' := 1) C G jc11 jm_X12_here wd1316 (sp_X12_here hp14 ⟨rfl, rfl⟩ : ok_X12_here  M11 (fun r _ M' => (jhr M11) = r ∧ M11 = M')) rfl (show 0 < 1 by decide) (by decide) rfl rfl (by omega) (by decide) (by decide) ⟨rfl, rfl⟩ hl.1 (Nat.le_of_ble_eq_true rfl) dX12_number_54 (fun r12 r12n M13 H locs hq G => ?_)
        obtain ⟨eq1, eq2⟩ := hq
        subst eq1
        subst eq2
        refine lv_bipush (v := 48) C.x C.b dX12_number_57 (by decide) ?_
        refine lv_bipush (v := 57) C.x C.b dX12_number_59 (by decide) ?_
        refine jr_S (d' := 1) C G jm_X12_in wd1293 (sp_X12_in ⟨rfl, rfl⟩ : ok_X12_in (jhr M11) 48 57 M11 (fun r _ M' => jb (48 ≤ (jhr M11) ∧ (jhr M11) ≤ 57) = r ∧ M11 = M')) rfl rfl rfl (by omega) (by decide) (by decide) ⟨rfl, rfl⟩ hl.1 (Nat.le_of_ble_eq_true rfl) dX12_number_61 (fun r15 r15n M16 H locs hq G => ?_)
        obtain ⟨eq1, eq2⟩ := hq
        subst eq1
        subst eq2
        refine lv_if_eq (tgt := 90) C.x C.b dX12_number_64 (by decide) (fun hc => ?_) (fun hc => ?_)
        · have h := h.2 (jb_0 hc)
          refine lv_iload_n C.x C.b dX12_number_90 rfl (lv_at hl 0 rfl) ?_
          exact jr_retI C hr G h (by decide) (by decide) dX12_number_91
        · have h := h.1 (jb_1 hc)
          refine lv_bipush (v := 10) C.x C.b dX12_number_67 (by decide) ?_
          refine lv_iload_n C.x C.b dX12_number_69 rfl (lv_at hl 0 rfl) ?_
          refine lv_imul C.x C.b dX12_number_70 ?_
          refine lv_aload_n C.x C.b dX12_number_71 rfl (lv_at hl 1 rfl) ?_
          obtain ⟨hp19, h⟩ := h
          refine jr_V (d' := 1) C G jc11 jm_X12_here wd1316 (sp_X12_here hp19 ⟨rfl, rfl⟩ : ok_X12_here  M11 (fun r _ M' => (jhr M11) = r ∧ M11 = M')) rfl (show 0 < 1 by decide) (by decide) rfl rfl (by omega) (by decide) (by decide) ⟨rfl, rfl⟩ hl.1 (Nat.le_of_ble_eq_true rfl) dX12_number_72 (fun r17 r17n M18 H locs hq G => ?_)
          obtain ⟨eq1, eq2⟩ := hq
          subst eq1
          subst eq2
          refine lv_iadd C.x C.b dX12_number_75 ?_
          refine lv_bipush (v := 48) C.x C.b dX12_number_76 (by decide) ?_
          refine lv_isub C.x C.b dX12_number_78 ?_
          refine lv_istore_n (lv' := [(1, .int (((10 * ((jhr M) - 48)) + (jhr M11)) - 48)), (0, .ref (g 11 0))]) C.x C.b dX12_number_79 rfl hl (by decide) rfl (fun ls hl => ?_)
          refine lv_aload_n C.x C.b dX12_number_80 rfl (lv_at hl 1 rfl) ?_
          refine lv_dup C.x C.b dX12_number_81 rfl ?_
          refine jr_get C G jc11 12 (v := .int (M11 11 0 12)) (show 0 < 1 by decide) (by decide) (by decide) rfl wd1203 dX12_number_82 ?_
          refine lv_iconst (v := 1) C.x C.b dX12_number_85 (by decide) ?_
          refine lv_iadd C.x C.b dX12_number_86 ?_
          refine jr_put C G jc11 12 (v := (M11 11 0 12) + 1) (show 0 < 1 by decide) (by decide) (by decide) rfl (by decide) wd1203 rfl rfl rfl rfl dX12_number_87 (fun H locs G => ?_)
          obtain ⟨M20, eM20⟩ : ∃ z : jM, z = jup M11 11 0 12 ((M11 11 0 12) + 1) := ⟨_, rfl⟩
          rw [← eM20] at G
          have h := h M20 eM20
          have nM20 : jnb M20 = jnb M11 := by rw [eM20]; exact jnb_up (by decide)
          refine lv_iload_n C.x C.b dX12_number_90 rfl (lv_at hl 0 rfl) ?_
          exact jr_retI C hr G h (by decide) (by decide) dX12_number_91
    · have h := h.2 (jb_0 hc)
      refine lv_aload_n C.x C.b dX12_number_21 rfl (lv_at hl 0 rfl) ?_
      refine lv_aload_n C.x C.b dX12_number_22 rfl (lv_at hl 0 rfl) ?_
      refine jr_get C G jc11 12 (v := .int (M 11 0 12)) (show 0 < 1 by decide) (by decide) (by decide) rfl wd1203 dX12_number_23 ?_
      refine jr_V (d' := 1) C G jc11 jm_X12_bad wd1320 h rfl (show 0 < 1 by decide) (by decide) rfl rfl (by omega) (by decide) (by decide) ⟨rfl, rfl⟩ hl.1 (Nat.le_of_ble_eq_true rfl) dX12_number_26 (fun r21 r21n M22 H locs h G => ?_)
      obtain ⟨nM22, h⟩ := h
      refine lv_iconst (v := 0) C.x C.b dX12_number_29 (by decide) ?_
      exact jr_retI C hr G h (by decide) (by decide) dX12_number_30

theorem en_X12_refers {v1 : Int32} {v2 : Int32} {M : jM} {Q : Int32 → Nat → jM → Prop} (h : at_X12_refers_0 v1 v2 M Q) : ok_X12_refers v1 v2 M Q := jr_enter (by decide) (fun g => rfl) (fun g => Nat.le_of_ble_eq_true rfl) h
set_option maxHeartbeats 4000000 in
set_option maxRecDepth 100000 in
theorem bl_X12_refers_0 (v1 : Int32) (v2 : Int32) (M : jM) (Q : Int32 → Nat → jM → Prop) 
  (h : (vp_in (585 * M 11 0 14 + 4) 11700) ∧ (vp_in (585 * M 11 0 14 + (5 + (M 55 0 (585 * M 11 0 14 + 4).toNatClampNeg))) 11700) ∧ (∀ M5 : jM, M5 = jup M 55 0 (585 * M 11 0 14 + (5 + (M 55 0 (585 * M 11 0 14 + 4).toNatClampNeg))).toNatClampNeg (v1 / 20) → (vp_in (585 * M5 11 0 14 + (29 + (M 55 0 (585 * M 11 0 14 + 4).toNatClampNeg))) 11700) ∧ (∀ M8 : jM, M8 = jup M5 55 0 (585 * M5 11 0 14 + (29 + (M 55 0 (585 * M 11 0 14 + 4).toNatClampNeg))).toNatClampNeg ((v1 - v1 / 20 * 20) - 9) → (vp_in (585 * M8 11 0 14 + (53 + (M 55 0 (585 * M 11 0 14 + 4).toNatClampNeg))) 11700) ∧ (∀ M11 : jM, M11 = jup M8 55 0 (585 * M8 11 0 14 + (53 + (M 55 0 (585 * M 11 0 14 + 4).toNatClampNeg))).toNatClampNeg v2 → (vp_in (585 * M11 11 0 14 + 3) 11700) ∧ (vp_in (585 * M11 11 0 14 + (77 + (M 55 0 (585 * M 11 0 14 + 4).toNatClampNeg))) 11700) ∧ (∀ M17 : jM, M17 = jup M11 55 0 (585 * M11 11 0 14 + (77 + (M 55 0 (585 * M 11 0 14 + 4).toNatClampNeg))).toNatClampNeg (M11 55 0 (585 * M11 11 0 14 + 3).toNatClampNeg) → (vp_in (585 * M17 11 0 14 + 4) 11700) ∧ (∀ M20 : jM, M20 = jup M17 55 0 (585 * M17 11 0 14 + 4).toNatClampNeg ((M 55 0 (585 * M 11 0 14 + 4).toNatClampNeg) + 1) → Q 0 0 M20)))))) :
  at_X12_refers_0 v1 v2 M Q := by
  intro p l e s m args below meth c D cA base g C hr htb H locs G ls hl
  refine lv_aload_n C.x C.b dX12_refers_0 rfl (lv_at hl 0 rfl) ?_
  refine lv_iconst (v := 4) C.x C.b dX12_refers_1 (by decide) ?_
  obtain ⟨hp3, h⟩ := h
  refine jr_V (d' := 1) C G jc11 jm_X12_get wd1332 (sp_X12_get hp3 ⟨rfl, rfl⟩ : ok_X12_get 4 M (fun r _ M' => (M 55 0 (585 * M 11 0 14 + 4).toNatClampNeg) = r ∧ M = M')) rfl (show 0 < 1 by decide) (by decide) rfl rfl (by omega) (by decide) (by decide) ⟨rfl, rfl⟩ hl.1 (Nat.le_of_ble_eq_true rfl) dX12_refers_2 (fun r1 r1n M2 H locs hq G => ?_)
  obtain ⟨eq1, eq2⟩ := hq
  subst eq1
  subst eq2
  refine lv_istore_n (lv' := [(3, .int (M 55 0 (585 * M 11 0 14 + 4).toNatClampNeg)), (0, .ref (g 11 0)), (1, .int v1), (2, .int v2)]) C.x C.b dX12_refers_5 rfl hl (by decide) rfl (fun ls hl => ?_)
  refine lv_aload_n C.x C.b dX12_refers_6 rfl (lv_at hl 1 rfl) ?_
  refine lv_iconst (v := 5) C.x C.b dX12_refers_7 (by decide) ?_
  refine lv_iload_n C.x C.b dX12_refers_8 rfl (lv_at hl 0 rfl) ?_
  refine lv_iadd C.x C.b dX12_refers_9 ?_
  refine lv_iload_n C.x C.b dX12_refers_10 rfl (lv_at hl 2 rfl) ?_
  refine lv_bipush (v := 20) C.x C.b dX12_refers_11 (by decide) ?_
  refine lv_idiv C.x C.b dX12_refers_13 (by decide) ?_
  obtain ⟨hp6, h⟩ := h
  refine jr_V (d' := 1) C G jc11 jm_X12_set wd1308 (sp_X12_set hp6 ⟨rfl, rfl⟩ : ok_X12_set (5 + (M 55 0 (585 * M 11 0 14 + 4).toNatClampNeg)) (v1 / 20) M (fun r _ M' => 0 = r ∧ M' = jup M 55 0 (585 * M 11 0 14 + (5 + (M 55 0 (585 * M 11 0 14 + 4).toNatClampNeg))).toNatClampNeg (v1 / 20))) rfl (show 0 < 1 by decide) (by decide) rfl rfl (by omega) (by decide) (by decide) ⟨rfl, rfl⟩ hl.1 (Nat.le_of_ble_eq_true rfl) dX12_refers_14 (fun r4 r4n M5 H locs hq G => ?_)
  obtain ⟨eq1, eM5⟩ := hq
  subst eq1
  have h := h M5 eM5
  have nM5 : jnb M5 = jnb M := by rw [eM5]; first | exact jnb_up (by decide) | simp [jnb_up]
  refine lv_aload_n C.x C.b dX12_refers_17 rfl (lv_at hl 1 rfl) ?_
  refine lv_bipush (v := 29) C.x C.b dX12_refers_18 (by decide) ?_
  refine lv_iload_n C.x C.b dX12_refers_20 rfl (lv_at hl 0 rfl) ?_
  refine lv_iadd C.x C.b dX12_refers_21 ?_
  refine lv_iload_n C.x C.b dX12_refers_22 rfl (lv_at hl 2 rfl) ?_
  refine lv_bipush (v := 20) C.x C.b dX12_refers_23 (by decide) ?_
  refine lv_irem C.x C.b dX12_refers_25 (by decide) ?_
  refine lv_bipush (v := 9) C.x C.b dX12_refers_26 (by decide) ?_
  refine lv_isub C.x C.b dX12_refers_28 ?_
  obtain ⟨hp9, h⟩ := h
  refine jr_V (d' := 1) C G jc11 jm_X12_set wd1308 (sp_X12_set hp9 ⟨rfl, rfl⟩ : ok_X12_set (29 + (M 55 0 (585 * M 11 0 14 + 4).toNatClampNeg)) ((v1 - v1 / 20 * 20) - 9) M5 (fun r _ M' => 0 = r ∧ M' = jup M5 55 0 (585 * M5 11 0 14 + (29 + (M 55 0 (585 * M 11 0 14 + 4).toNatClampNeg))).toNatClampNeg ((v1 - v1 / 20 * 20) - 9))) rfl (show 0 < 1 by decide) (by decide) rfl rfl (by omega) (by decide) (by decide) ⟨rfl, rfl⟩ hl.1 (Nat.le_of_ble_eq_true rfl) dX12_refers_29 (fun r7 r7n M8 H locs hq G => ?_)
  obtain ⟨eq1, eM8⟩ := hq
  subst eq1
  have h := h M8 eM8
  have nM8 : jnb M8 = jnb M5 := by rw [eM8]; first | exact jnb_up (by decide) | simp [jnb_up]
  refine lv_aload_n C.x C.b dX12_refers_32 rfl (lv_at hl 1 rfl) ?_
  refine lv_bipush (v := 53) C.x C.b dX12_refers_33 (by decide) ?_
  refine lv_iload_n C.x C.b dX12_refers_35 rfl (lv_at hl 0 rfl) ?_
  refine lv_iadd C.x C.b dX12_refers_36 ?_
  refine lv_iload_n C.x C.b dX12_refers_37 rfl (lv_at hl 3 rfl) ?_
  obtain ⟨hp12, h⟩ := h
  refine jr_V (d' := 1) C G jc11 jm_X12_set wd1308 (sp_X12_set hp12 ⟨rfl, rfl⟩ : ok_X12_set (53 + (M 55 0 (585 * M 11 0 14 + 4).toNatClampNeg)) v2 M8 (fun r _ M' => 0 = r ∧ M' = jup M8 55 0 (585 * M8 11 0 14 + (53 + (M 55 0 (585 * M 11 0 14 + 4).toNatClampNeg))).toNatClampNeg v2)) rfl (show 0 < 1 by decide) (by decide) rfl rfl (by omega) (by decide) (by decide) ⟨rfl, rfl⟩ hl.1 (Nat.le_of_ble_eq_true rfl) dX12_refers_38 (fun r10 r10n M11 H locs hq G => ?_)
  obtain ⟨eq1, eM11⟩ := hq
  subst eq1
  have h := h M11 eM11
  have nM11 : jnb M11 = jnb M8 := by rw [eM11]; first | exact jnb_up (by decide) | simp [jnb_up]
  refine lv_aload_n C.x C.b dX12_refers_41 rfl (lv_at hl 1 rfl) ?_
  refine lv_bipush (v := 77) C.x C.b dX12_refers_42 (by decide) ?_
  refine lv_iload_n C.x C.b dX12_refers_44 rfl (lv_at hl 0 rfl) ?_
  refine lv_iadd C.x C.b dX12_refers_45 ?_
  refine lv_aload_n C.x C.b dX12_refers_46 rfl (lv_at hl 1 rfl) ?_
  refine lv_iconst (v := 3) C.x C.b dX12_refers_47 (by decide) ?_
  obtain ⟨hp15, h⟩ := h
  refine jr_V (d' := 1) C G jc11 jm_X12_get wd1332 (sp_X12_get hp15 ⟨rfl, rfl⟩ : ok_X12_get 3 M11 (fun r _ M' => (M11 55 0 (585 * M11 11 0 14 + 3).toNatClampNeg) = r ∧ M11 = M')) rfl (show 0 < 1 by decide) (by decide) rfl rfl (by omega) (by decide) (by decide) ⟨rfl, rfl⟩ hl.1 (Nat.le_of_ble_eq_true rfl) dX12_refers_48 (fun r13 r13n M14 H locs hq G => ?_)
  obtain ⟨eq1, eq2⟩ := hq
  subst eq1
  subst eq2
  obtain ⟨hp18, h⟩ := h
  refine jr_V (d' := 1) C G jc11 jm_X12_set wd1308 (sp_X12_set hp18 ⟨rfl, rfl⟩ : ok_X12_set (77 + (M 55 0 (585 * M 11 0 14 + 4).toNatClampNeg)) (M11 55 0 (585 * M11 11 0 14 + 3).toNatClampNeg) M11 (fun r _ M' => 0 = r ∧ M' = jup M11 55 0 (585 * M11 11 0 14 + (77 + (M 55 0 (585 * M 11 0 14 + 4).toNatClampNeg))).toNatClampNeg (M11 55 0 (585 * M11 11 0 14 + 3).toNatClampNeg))) rfl (show 0 < 1 by decide) (by decide) rfl rfl (by omega) (by decide) (by decide) ⟨rfl, rfl⟩ hl.1 (Nat.le_of_ble_eq_true rfl) dX12_refers_51 (fun r16 r16n M17 H locs hq G => ?_)
  obtain ⟨eq1, eM17⟩ := hq
  subst eq1
  have h := h M17 eM17
  have nM17 : jnb M17 = jnb M11 := by rw [eM17]; first | exact jnb_up (by decide) | simp [jnb_up]
  refine lv_aload_n C.x C.b dX12_refers_54 rfl (lv_at hl 1 rfl) ?_
  refine lv_iconst (v := 4) C.x C.b dX12_refers_55 (by decide) ?_
  refine lv_iload_n C.x C.b dX12_refers_56 rfl (lv_at hl 0 rfl) ?_
  refine lv_iconst (v := 1) C.x C.b dX12_refers_57 (by decide) ?_
  refine lv_iadd C.x C.b dX12_refers_58 ?_
  obtain ⟨hp21, h⟩ := h
  refine jr_V (d' := 1) C G jc11 jm_X12_set wd1308 (sp_X12_set hp21 ⟨rfl, rfl⟩ : ok_X12_set 4 ((M 55 0 (585 * M 11 0 14 + 4).toNatClampNeg) + 1) M17 (fun r _ M' => 0 = r ∧ M' = jup M17 55 0 (585 * M17 11 0 14 + 4).toNatClampNeg ((M 55 0 (585 * M 11 0 14 + 4).toNatClampNeg) + 1))) rfl (show 0 < 1 by decide) (by decide) rfl rfl (by omega) (by decide) (by decide) ⟨rfl, rfl⟩ hl.1 (Nat.le_of_ble_eq_true rfl) dX12_refers_59 (fun r19 r19n M20 H locs hq G => ?_)
  obtain ⟨eq1, eM20⟩ := hq
  subst eq1
  have h := h M20 eM20
  have nM20 : jnb M20 = jnb M17 := by rw [eM20]; first | exact jnb_up (by decide) | simp [jnb_up]
  exact jr_retV C hr G h (by decide) (by decide) dX12_refers_62

theorem en_X12_token {v1 : Int32} {M : jM} {Q : Int32 → Nat → jM → Prop} (h : at_X12_token_0 v1 M Q) : ok_X12_token v1 M Q := jr_enter (by decide) (fun g => rfl) (fun g => Nat.le_of_ble_eq_true rfl) h
set_option maxHeartbeats 4000000 in
set_option maxRecDepth 100000 in
theorem bl_X12_token_0 (v1 : Int32) (M : jM) (Q : Int32 → Nat → jM → Prop) 
  (h : (vp_in (585 * M 11 0 14 + 3) 11700) ∧ (vp_in (585 * M 11 0 14 + (101 + (M 55 0 (585 * M 11 0 14 + 3).toNatClampNeg))) 11700) ∧ (vp_in (585 * M 11 0 14 + ((105 + (120 * (M 55 0 (585 * M 11 0 14 + 3).toNatClampNeg))) + (M 55 0 (585 * M 11 0 14 + (101 + (M 55 0 (585 * M 11 0 14 + 3).toNatClampNeg))).toNatClampNeg))) 11700) ∧ (∀ M8 : jM, M8 = jup M 55 0 (585 * M 11 0 14 + ((105 + (120 * (M 55 0 (585 * M 11 0 14 + 3).toNatClampNeg))) + (M 55 0 (585 * M 11 0 14 + (101 + (M 55 0 (585 * M 11 0 14 + 3).toNatClampNeg))).toNatClampNeg))).toNatClampNeg v1 → (vp_in (585 * M8 11 0 14 + (101 + (M 55 0 (585 * M 11 0 14 + 3).toNatClampNeg))) 11700) ∧ (∀ M11 : jM, M11 = jup M8 55 0 (585 * M8 11 0 14 + (101 + (M 55 0 (585 * M 11 0 14 + 3).toNatClampNeg))).toNatClampNeg ((M 55 0 (585 * M 11 0 14 + (101 + (M 55 0 (585 * M 11 0 14 + 3).toNatClampNeg))).toNatClampNeg) + 1) → Q 0 0 M11))) :
  at_X12_token_0 v1 M Q := by
  intro p l e s m args below meth c D cA base g C hr htb H locs G ls hl
  refine lv_aload_n C.x C.b dX12_token_0 rfl (lv_at hl 0 rfl) ?_
  refine lv_iconst (v := 3) C.x C.b dX12_token_1 (by decide) ?_
  obtain ⟨hp3, h⟩ := h
  refine jr_V (d' := 1) C G jc11 jm_X12_get wd1332 (sp_X12_get hp3 ⟨rfl, rfl⟩ : ok_X12_get 3 M (fun r _ M' => (M 55 0 (585 * M 11 0 14 + 3).toNatClampNeg) = r ∧ M = M')) rfl (show 0 < 1 by decide) (by decide) rfl rfl (by omega) (by decide) (by decide) ⟨rfl, rfl⟩ hl.1 (Nat.le_of_ble_eq_true rfl) dX12_token_2 (fun r1 r1n M2 H locs hq G => ?_)
  obtain ⟨eq1, eq2⟩ := hq
  subst eq1
  subst eq2
  refine lv_istore_n (lv' := [(2, .int (M 55 0 (585 * M 11 0 14 + 3).toNatClampNeg)), (0, .ref (g 11 0)), (1, .int v1)]) C.x C.b dX12_token_5 rfl hl (by decide) rfl (fun ls hl => ?_)
  refine lv_aload_n C.x C.b dX12_token_6 rfl (lv_at hl 1 rfl) ?_
  refine lv_bipush (v := 101) C.x C.b dX12_token_7 (by decide) ?_
  refine lv_iload_n C.x C.b dX12_token_9 rfl (lv_at hl 0 rfl) ?_
  refine lv_iadd C.x C.b dX12_token_10 ?_
  obtain ⟨hp6, h⟩ := h
  refine jr_V (d' := 1) C G jc11 jm_X12_get wd1332 (sp_X12_get hp6 ⟨rfl, rfl⟩ : ok_X12_get (101 + (M 55 0 (585 * M 11 0 14 + 3).toNatClampNeg)) M (fun r _ M' => (M 55 0 (585 * M 11 0 14 + (101 + (M 55 0 (585 * M 11 0 14 + 3).toNatClampNeg))).toNatClampNeg) = r ∧ M = M')) rfl (show 0 < 1 by decide) (by decide) rfl rfl (by omega) (by decide) (by decide) ⟨rfl, rfl⟩ hl.1 (Nat.le_of_ble_eq_true rfl) dX12_token_11 (fun r4 r4n M5 H locs hq G => ?_)
  obtain ⟨eq1, eq2⟩ := hq
  subst eq1
  subst eq2
  refine lv_istore_n (lv' := [(3, .int (M 55 0 (585 * M 11 0 14 + (101 + (M 55 0 (585 * M 11 0 14 + 3).toNatClampNeg))).toNatClampNeg)), (2, .int (M 55 0 (585 * M 11 0 14 + 3).toNatClampNeg)), (0, .ref (g 11 0)), (1, .int v1)]) C.x C.b dX12_token_14 rfl hl (by decide) rfl (fun ls hl => ?_)
  refine lv_aload_n C.x C.b dX12_token_15 rfl (lv_at hl 2 rfl) ?_
  refine lv_bipush (v := 105) C.x C.b dX12_token_16 (by decide) ?_
  refine lv_bipush (v := 120) C.x C.b dX12_token_18 (by decide) ?_
  refine lv_iload_n C.x C.b dX12_token_20 rfl (lv_at hl 1 rfl) ?_
  refine lv_imul C.x C.b dX12_token_21 ?_
  refine lv_iadd C.x C.b dX12_token_22 ?_
  refine lv_iload_n C.x C.b dX12_token_23 rfl (lv_at hl 0 rfl) ?_
  refine lv_iadd C.x C.b dX12_token_24 ?_
  refine lv_iload_n C.x C.b dX12_token_25 rfl (lv_at hl 3 rfl) ?_
  obtain ⟨hp9, h⟩ := h
  refine jr_V (d' := 1) C G jc11 jm_X12_set wd1308 (sp_X12_set hp9 ⟨rfl, rfl⟩ : ok_X12_set ((105 + (120 * (M 55 0 (585 * M 11 0 14 + 3).toNatClampNeg))) + (M 55 0 (585 * M 11 0 14 + (101 + (M 55 0 (585 * M 11 0 14 + 3).toNatClampNeg))).toNatClampNeg)) v1 M (fun r _ M' => 0 = r ∧ M' = jup M 55 0 (585 * M 11 0 14 + ((105 + (120 * (M 55 0 (585 * M 11 0 14 + 3).toNatClampNeg))) + (M 55 0 (585 * M 11 0 14 + (101 + (M 55 0 (585 * M 11 0 14 + 3).toNatClampNeg))).toNatClampNeg))).toNatClampNeg v1)) rfl (show 0 < 1 by decide) (by decide) rfl rfl (by omega) (by decide) (by decide) ⟨rfl, rfl⟩ hl.1 (Nat.le_of_ble_eq_true rfl) dX12_token_26 (fun r7 r7n M8 H locs hq G => ?_)
  obtain ⟨eq1, eM8⟩ := hq
  subst eq1
  have h := h M8 eM8
  have nM8 : jnb M8 = jnb M := by rw [eM8]; first | exact jnb_up (by decide) | simp [jnb_up]
  refine lv_aload_n C.x C.b dX12_token_29 rfl (lv_at hl 2 rfl) ?_
  refine lv_bipush (v := 101) C.x C.b dX12_token_30 (by decide) ?_
  refine lv_iload_n C.x C.b dX12_token_32 rfl (lv_at hl 1 rfl) ?_
  refine lv_iadd C.x C.b dX12_token_33 ?_
  refine lv_iload_n C.x C.b dX12_token_34 rfl (lv_at hl 0 rfl) ?_
  refine lv_iconst (v := 1) C.x C.b dX12_token_35 (by decide) ?_
  refine lv_iadd C.x C.b dX12_token_36 ?_
  obtain ⟨hp12, h⟩ := h
  refine jr_V (d' := 1) C G jc11 jm_X12_set wd1308 (sp_X12_set hp12 ⟨rfl, rfl⟩ : ok_X12_set (101 + (M 55 0 (585 * M 11 0 14 + 3).toNatClampNeg)) ((M 55 0 (585 * M 11 0 14 + (101 + (M 55 0 (585 * M 11 0 14 + 3).toNatClampNeg))).toNatClampNeg) + 1) M8 (fun r _ M' => 0 = r ∧ M' = jup M8 55 0 (585 * M8 11 0 14 + (101 + (M 55 0 (585 * M 11 0 14 + 3).toNatClampNeg))).toNatClampNeg ((M 55 0 (585 * M 11 0 14 + (101 + (M 55 0 (585 * M 11 0 14 + 3).toNatClampNeg))).toNatClampNeg) + 1))) rfl (show 0 < 1 by decide) (by decide) rfl rfl (by omega) (by decide) (by decide) ⟨rfl, rfl⟩ hl.1 (Nat.le_of_ble_eq_true rfl) dX12_token_37 (fun r10 r10n M11 H locs hq G => ?_)
  obtain ⟨eq1, eM11⟩ := hq
  subst eq1
  have h := h M11 eM11
  have nM11 : jnb M11 = jnb M8 := by rw [eM11]; first | exact jnb_up (by decide) | simp [jnb_up]
  exact jr_retV C hr G h (by decide) (by decide) dX12_token_40

theorem en_X12_begin  {M : jM} {Q : Int32 → Nat → jM → Prop} (h : at_X12_begin_0  M Q) : ok_X12_begin  M Q := jr_enter (by decide) (fun g => rfl) (fun g => Nat.le_of_ble_eq_true rfl) h
set_option maxHeartbeats 4000000 in
set_option maxRecDepth 100000 in
theorem bl_X12_begin_0  (M : jM) (Q : Int32 → Nat → jM → Prop) 
  (h : at_X12_begin_2 0 M Q) :
  at_X12_begin_0  M Q := by
  intro p l e s m args below meth c D cA base g C hr htb H locs G ls hl
  refine lv_iconst (v := 0) C.x C.b dX12_begin_0 (by decide) ?_
  refine lv_istore_n (lv' := [(1, .int 0), (0, .ref (g 11 0))]) C.x C.b dX12_begin_1 rfl hl (by decide) rfl (fun ls hl => ?_)
  exact h p l e s m args below meth c D cA base g C hr htb _ _ G ls (lv_sub hl [1, 0] rfl)
set_option maxHeartbeats 4000000 in
set_option maxRecDepth 100000 in
theorem bl_X12_begin_2 (v1 : Int32) (M : jM) (Q : Int32 → Nat → jM → Prop) 
  (h : (245 ≤ v1 → Q 0 0 M) ∧ (¬ (245 ≤ v1) → vp_in v1 245 ∧ (∀ M3 : jM, M3 = jup M 58 0 v1.toNatClampNeg (((v1 / 49) + 1) * M 51 0 2 + 7 * ((v1 - v1 / 49 * 49) - 9)) → at_X12_begin_2 (v1 + 1) M3 Q))) :
  at_X12_begin_2 v1 M Q := by
  intro p l e s m args below meth c D cA base g C hr htb H locs G ls hl
  refine lv_iload_n C.x C.b dX12_begin_2 rfl (lv_at hl 1 rfl) ?_
  refine lv_sipush (v := 245) C.x C.b dX12_begin_3 (by decide) ?_
  refine lv_icmp_ge (tgt := 36) C.x C.b dX12_begin_6 (by decide) (fun hc => ?_) (fun hc => ?_)
  · have h := h.1 hc
    exact jr_retV C hr G h (by decide) (by decide) dX12_begin_36
  · have h := h.2 hc
    refine lv_aload_n C.x C.b dX12_begin_9 rfl (lv_at hl 0 rfl) ?_
    refine jr_get C G jc11 21 (v := .ref (g 58 0)) (show 0 < 1 by decide) (by decide) (by decide) rfl wd1212 dX12_begin_10 ?_
    refine lv_iload_n C.x C.b dX12_begin_13 rfl (lv_at hl 1 rfl) ?_
    refine lv_aload_n C.x C.b dX12_begin_14 rfl (lv_at hl 0 rfl) ?_
    refine lv_iload_n C.x C.b dX12_begin_15 rfl (lv_at hl 1 rfl) ?_
    refine lv_bipush (v := 49) C.x C.b dX12_begin_16 (by decide) ?_
    refine lv_idiv C.x C.b dX12_begin_18 (by decide) ?_
    refine lv_iload_n C.x C.b dX12_begin_19 rfl (lv_at hl 1 rfl) ?_
    refine lv_bipush (v := 49) C.x C.b dX12_begin_20 (by decide) ?_
    refine lv_irem C.x C.b dX12_begin_22 (by decide) ?_
    refine lv_bipush (v := 9) C.x C.b dX12_begin_23 (by decide) ?_
    refine lv_isub C.x C.b dX12_begin_25 ?_
    refine jr_V (d' := 1) C G jc11 jm_X12_initial wd1433 (sp_X12_initial ⟨rfl, rfl⟩ : ok_X12_initial (v1 / 49) ((v1 - v1 / 49 * 49) - 9) M (fun r _ M' => (((v1 / 49) + 1) * M 51 0 2 + 7 * ((v1 - v1 / 49 * 49) - 9)) = r ∧ M = M')) rfl (show 0 < 1 by decide) (by decide) rfl rfl (by omega) (by decide) (by decide) ⟨rfl, rfl⟩ hl.1 (Nat.le_of_ble_eq_true rfl) dX12_begin_26 (fun r1 r1n M2 H locs hq G => ?_)
    obtain ⟨eq1, eq2⟩ := hq
    subst eq1
    subst eq2
    obtain ⟨hs, h⟩ := h
    refine jr_ast C G (show 0 < 1 by decide) (by decide) (by decide) (by decide) rfl rfl hs dX12_begin_29 (fun H locs G => ?_)
    obtain ⟨M3, eM3⟩ : ∃ z : jM, z = jup M 58 0 v1.toNatClampNeg (((v1 / 49) + 1) * M 51 0 2 + 7 * ((v1 - v1 / 49 * 49) - 9)) := ⟨_, rfl⟩
    rw [← eM3] at G
    have h := h M3 eM3
    have nM3 : jnb M3 = jnb M := by rw [eM3]; exact jnb_up (by decide)
    refine lv_iinc (v := v1 + 1) (lv' := [(1, .int (v1 + 1)), (0, .ref (g 11 0))]) C.x C.b dX12_begin_30 hl (k := 1) rfl rfl (by decide) rfl (fun ls hl => ?_)
    refine lv_goto (tgt := 2) C.x C.b dX12_begin_33 (by decide) ?_
    exact h p l e s m args below meth c D cA base g C hr htb _ _ G ls (lv_sub hl [1, 0] rfl)

theorem en_X12_setOption {v1 : Int32} {v2 : Int32} {M : jM} {Q : Int32 → Nat → jM → Prop} (h : at_X12_setOption_0 v1 v2 M Q) : ok_X12_setOption v1 v2 M Q := jr_enter (by decide) (fun g => rfl) (fun g => Nat.le_of_ble_eq_true rfl) h
set_option maxHeartbeats 4000000 in
set_option maxRecDepth 100000 in
theorem bl_X12_setOption_0 (v1 : Int32) (v2 : Int32) (M : jM) (Q : Int32 → Nat → jM → Prop) 
  (h : (∀ M1 : jM, M1 = jup M 11 0 7 0 → ((0 ≤ v1 ∧ v1 ≤ 2) → (2 ≤ v1 → vp_in v1 3 ∧ vp_in v1 3 ∧ (∀ M4 : jM, M4 = jup M1 51 0 v1.toNatClampNeg v2 → Q (M1 51 0 v1.toNatClampNeg) 0 M4)) ∧ (¬ (2 ≤ v1) → (v1 = 0 → ((0 ≤ v2 ∧ v2 ≤ 20) → vp_in v1 3 ∧ vp_in v1 3 ∧ (∀ M12 : jM, M12 = jup M1 51 0 v1.toNatClampNeg v2 → Q (M1 51 0 v1.toNatClampNeg) 0 M12)) ∧ (¬ (0 ≤ v2 ∧ v2 ≤ 20) → (∀ M14 : jM, M14 = jup M1 11 0 7 2 → Q 0 0 M14))) ∧ (¬ (v1 = 0) → ((0 ≤ v2 ∧ v2 ≤ 9) → vp_in v1 3 ∧ vp_in v1 3 ∧ (∀ M7 : jM, M7 = jup M1 51 0 v1.toNatClampNeg v2 → Q (M1 51 0 v1.toNatClampNeg) 0 M7)) ∧ (¬ (0 ≤ v2 ∧ v2 ≤ 9) → (∀ M9 : jM, M9 = jup M1 11 0 7 2 → Q 0 0 M9))))) ∧ (¬ (0 ≤ v1 ∧ v1 ≤ 2) → (∀ M16 : jM, M16 = jup M1 11 0 7 1 → Q 0 0 M16)))) :
  at_X12_setOption_0 v1 v2 M Q := by
  intro p l e s m args below meth c D cA base g C hr htb H locs G ls hl
  refine lv_aload_n C.x C.b dX12_setOption_0 rfl (lv_at hl 0 rfl) ?_
  refine lv_iconst (v := 0) C.x C.b dX12_setOption_1 (by decide) ?_
  refine jr_put C G jc11 7 (v := 0) (show 0 < 1 by decide) (by decide) (by decide) rfl (by decide) wd1198 rfl rfl rfl rfl dX12_setOption_2 (fun H locs G => ?_)
  obtain ⟨M1, eM1⟩ : ∃ z : jM, z = jup M 11 0 7 0 := ⟨_, rfl⟩
  rw [← eM1] at G
  have h := h M1 eM1
  have nM1 : jnb M1 = jnb M := by rw [eM1]; exact jnb_up (by decide)
  refine lv_iload_n C.x C.b dX12_setOption_5 rfl (lv_at hl 1 rfl) ?_
  refine lv_iconst (v := 0) C.x C.b dX12_setOption_6 (by decide) ?_
  refine lv_iconst (v := 2) C.x C.b dX12_setOption_7 (by decide) ?_
  refine jr_S (d' := 1) C G jm_X12_in wd1293 (sp_X12_in ⟨rfl, rfl⟩ : ok_X12_in v1 0 2 M1 (fun r _ M' => jb (0 ≤ v1 ∧ v1 ≤ 2) = r ∧ M1 = M')) rfl rfl rfl (by omega) (by decide) (by decide) ⟨rfl, rfl⟩ hl.1 (Nat.le_of_ble_eq_true rfl) dX12_setOption_8 (fun r2 r2n M3 H locs hq G => ?_)
  obtain ⟨eq1, eq2⟩ := hq
  subst eq1
  subst eq2
  refine lv_if_ne (tgt := 20) C.x C.b dX12_setOption_11 (by decide) (fun hc => ?_) (fun hc => ?_)
  · have h := h.1 (jb_1 hc)
    refine lv_iload_n C.x C.b dX12_setOption_20 rfl (lv_at hl 1 rfl) ?_
    refine lv_iconst (v := 2) C.x C.b dX12_setOption_21 (by decide) ?_
    refine lv_icmp_ge (tgt := 50) C.x C.b dX12_setOption_22 (by decide) (fun hc => ?_) (fun hc => ?_)
    · have h := h.1 hc
      refine lv_aload_n C.x C.b dX12_setOption_50 rfl (lv_at hl 0 rfl) ?_
      refine jr_get C G jc11 2 (v := .ref (g 51 0)) (show 0 < 1 by decide) (by decide) (by decide) rfl wd1193 dX12_setOption_51 ?_
      refine lv_iload_n C.x C.b dX12_setOption_54 rfl (lv_at hl 1 rfl) ?_
      obtain ⟨hs, h⟩ := h
      refine jr_ald C G (show 0 < 1 by decide) (by decide) (by decide) (by decide) rfl rfl hs dX12_setOption_55 ?_
      refine lv_istore_n (lv' := [(3, .int (M1 51 0 v1.toNatClampNeg)), (0, .ref (g 11 0)), (1, .int v1), (2, .int v2)]) C.x C.b dX12_setOption_56 rfl hl (by decide) rfl (fun ls hl => ?_)
      refine lv_aload_n C.x C.b dX12_setOption_57 rfl (lv_at hl 1 rfl) ?_
      refine jr_get C G jc11 2 (v := .ref (g 51 0)) (show 0 < 1 by decide) (by decide) (by decide) rfl wd1193 dX12_setOption_58 ?_
      refine lv_iload_n C.x C.b dX12_setOption_61 rfl (lv_at hl 2 rfl) ?_
      refine lv_iload_n C.x C.b dX12_setOption_62 rfl (lv_at hl 3 rfl) ?_
      obtain ⟨hs, h⟩ := h
      refine jr_ast C G (show 0 < 1 by decide) (by decide) (by decide) (by decide) rfl rfl hs dX12_setOption_63 (fun H locs G => ?_)
      obtain ⟨M4, eM4⟩ : ∃ z : jM, z = jup M1 51 0 v1.toNatClampNeg v2 := ⟨_, rfl⟩
      rw [← eM4] at G
      have h := h M4 eM4
      have nM4 : jnb M4 = jnb M1 := by rw [eM4]; exact jnb_up (by decide)
      refine lv_iload_n C.x C.b dX12_setOption_64 rfl (lv_at hl 0 rfl) ?_
      exact jr_retI C hr G h (by decide) (by decide) dX12_setOption_65
    · have h := h.2 hc
      refine lv_iload_n C.x C.b dX12_setOption_25 rfl (lv_at hl 2 rfl) ?_
      refine lv_iconst (v := 0) C.x C.b dX12_setOption_26 (by decide) ?_
      refine lv_iload_n C.x C.b dX12_setOption_27 rfl (lv_at hl 1 rfl) ?_
      refine lv_if_ne (tgt := 36) C.x C.b dX12_setOption_28 (by decide) (fun hc => ?_) (fun hc => ?_)
      · have h := h.2 hc
        refine lv_bipush (v := 9) C.x C.b dX12_setOption_36 (by decide) ?_
        refine jr_S (d' := 1) C G jm_X12_in wd1293 (sp_X12_in ⟨rfl, rfl⟩ : ok_X12_in v2 0 9 M1 (fun r _ M' => jb (0 ≤ v2 ∧ v2 ≤ 9) = r ∧ M1 = M')) rfl rfl rfl (by omega) (by decide) (by decide) ⟨rfl, rfl⟩ hl.1 (Nat.le_of_ble_eq_true rfl) dX12_setOption_38 (fun r5 r5n M6 H locs hq G => ?_)
        obtain ⟨eq1, eq2⟩ := hq
        subst eq1
        subst eq2
        refine lv_if_ne (tgt := 50) C.x C.b dX12_setOption_41 (by decide) (fun hc => ?_) (fun hc => ?_)
        · have h := h.1 (jb_1 hc)
          refine lv_aload_n C.x C.b dX12_setOption_50 rfl (lv_at hl 0 rfl) ?_
          refine jr_get C G jc11 2 (v := .ref (g 51 0)) (show 0 < 1 by decide) (by decide) (by decide) rfl wd1193 dX12_setOption_51 ?_
          refine lv_iload_n C.x C.b dX12_setOption_54 rfl (lv_at hl 1 rfl) ?_
          obtain ⟨hs, h⟩ := h
          refine jr_ald C G (show 0 < 1 by decide) (by decide) (by decide) (by decide) rfl rfl hs dX12_setOption_55 ?_
          refine lv_istore_n (lv' := [(3, .int (M1 51 0 v1.toNatClampNeg)), (0, .ref (g 11 0)), (1, .int v1), (2, .int v2)]) C.x C.b dX12_setOption_56 rfl hl (by decide) rfl (fun ls hl => ?_)
          refine lv_aload_n C.x C.b dX12_setOption_57 rfl (lv_at hl 1 rfl) ?_
          refine jr_get C G jc11 2 (v := .ref (g 51 0)) (show 0 < 1 by decide) (by decide) (by decide) rfl wd1193 dX12_setOption_58 ?_
          refine lv_iload_n C.x C.b dX12_setOption_61 rfl (lv_at hl 2 rfl) ?_
          refine lv_iload_n C.x C.b dX12_setOption_62 rfl (lv_at hl 3 rfl) ?_
          obtain ⟨hs, h⟩ := h
          refine jr_ast C G (show 0 < 1 by decide) (by decide) (by decide) (by decide) rfl rfl hs dX12_setOption_63 (fun H locs G => ?_)
          obtain ⟨M7, eM7⟩ : ∃ z : jM, z = jup M1 51 0 v1.toNatClampNeg v2 := ⟨_, rfl⟩
          rw [← eM7] at G
          have h := h M7 eM7
          have nM7 : jnb M7 = jnb M1 := by rw [eM7]; exact jnb_up (by decide)
          refine lv_iload_n C.x C.b dX12_setOption_64 rfl (lv_at hl 0 rfl) ?_
          exact jr_retI C hr G h (by decide) (by decide) dX12_setOption_65
        · have h := h.2 (jb_0 hc)
          refine lv_aload_n C.x C.b dX12_setOption_44 rfl (lv_at hl 0 rfl) ?_
          refine lv_iconst (v := 2) C.x C.b dX12_setOption_45 (by decide) ?_
          refine jr_V (d' := 1) C G jc11 jm_X12_refuse wd1296 (sp_X12_refuse ⟨rfl, rfl⟩ : ok_X12_refuse 2 M1 (fun r _ M' => 0 = r ∧ M' = jup M1 11 0 7 2)) rfl (show 0 < 1 by decide) (by decide) rfl rfl (by omega) (by decide) (by decide) ⟨rfl, rfl⟩ hl.1 (Nat.le_of_ble_eq_true rfl) dX12_setOption_46 (fun r8 r8n M9 H locs hq G => ?_)
          obtain ⟨eq1, eM9⟩ := hq
          subst eq1
          have h := h M9 eM9
          have nM9 : jnb M9 = jnb M1 := by rw [eM9]; first | exact jnb_up (by decide) | simp [jnb_up]
          exact jr_retI C hr G h (by decide) (by decide) dX12_setOption_49
      · have h := h.1 hc
        refine lv_bipush (v := 20) C.x C.b dX12_setOption_31 (by decide) ?_
        refine lv_goto (tgt := 38) C.x C.b dX12_setOption_33 (by decide) ?_
        refine jr_S (d' := 1) C G jm_X12_in wd1293 (sp_X12_in ⟨rfl, rfl⟩ : ok_X12_in v2 0 20 M1 (fun r _ M' => jb (0 ≤ v2 ∧ v2 ≤ 20) = r ∧ M1 = M')) rfl rfl rfl (by omega) (by decide) (by decide) ⟨rfl, rfl⟩ hl.1 (Nat.le_of_ble_eq_true rfl) dX12_setOption_38 (fun r10 r10n M11 H locs hq G => ?_)
        obtain ⟨eq1, eq2⟩ := hq
        subst eq1
        subst eq2
        refine lv_if_ne (tgt := 50) C.x C.b dX12_setOption_41 (by decide) (fun hc => ?_) (fun hc => ?_)
        · have h := h.1 (jb_1 hc)
          refine lv_aload_n C.x C.b dX12_setOption_50 rfl (lv_at hl 0 rfl) ?_
          refine jr_get C G jc11 2 (v := .ref (g 51 0)) (show 0 < 1 by decide) (by decide) (by decide) rfl wd1193 dX12_setOption_51 ?_
          refine lv_iload_n C.x C.b dX12_setOption_54 rfl (lv_at hl 1 rfl) ?_
          obtain ⟨hs, h⟩ := h
          refine jr_ald C G (show 0 < 1 by decide) (by decide) (by decide) (by decide) rfl rfl hs dX12_setOption_55 ?_
          refine lv_istore_n (lv' := [(3, .int (M1 51 0 v1.toNatClampNeg)), (0, .ref (g 11 0)), (1, .int v1), (2, .int v2)]) C.x C.b dX12_setOption_56 rfl hl (by decide) rfl (fun ls hl => ?_)
          refine lv_aload_n C.x C.b dX12_setOption_57 rfl (lv_at hl 1 rfl) ?_
          refine jr_get C G jc11 2 (v := .ref (g 51 0)) (show 0 < 1 by decide) (by decide) (by decide) rfl wd1193 dX12_setOption_58 ?_
          refine lv_iload_n C.x C.b dX12_setOption_61 rfl (lv_at hl 2 rfl) ?_
          refine lv_iload_n C.x C.b dX12_setOption_62 rfl (lv_at hl 3 rfl) ?_
          obtain ⟨hs, h⟩ := h
          refine jr_ast C G (show 0 < 1 by decide) (by decide) (by decide) (by decide) rfl rfl hs dX12_setOption_63 (fun H locs G => ?_)
          obtain ⟨M12, eM12⟩ : ∃ z : jM, z = jup M1 51 0 v1.toNatClampNeg v2 := ⟨_, rfl⟩
          rw [← eM12] at G
          have h := h M12 eM12
          have nM12 : jnb M12 = jnb M1 := by rw [eM12]; exact jnb_up (by decide)
          refine lv_iload_n C.x C.b dX12_setOption_64 rfl (lv_at hl 0 rfl) ?_
          exact jr_retI C hr G h (by decide) (by decide) dX12_setOption_65
        · have h := h.2 (jb_0 hc)
          refine lv_aload_n C.x C.b dX12_setOption_44 rfl (lv_at hl 0 rfl) ?_
          refine lv_iconst (v := 2) C.x C.b dX12_setOption_45 (by decide) ?_
          refine jr_V (d' := 1) C G jc11 jm_X12_refuse wd1296 (sp_X12_refuse ⟨rfl, rfl⟩ : ok_X12_refuse 2 M1 (fun r _ M' => 0 = r ∧ M' = jup M1 11 0 7 2)) rfl (show 0 < 1 by decide) (by decide) rfl rfl (by omega) (by decide) (by decide) ⟨rfl, rfl⟩ hl.1 (Nat.le_of_ble_eq_true rfl) dX12_setOption_46 (fun r13 r13n M14 H locs hq G => ?_)
          obtain ⟨eq1, eM14⟩ := hq
          subst eq1
          have h := h M14 eM14
          have nM14 : jnb M14 = jnb M1 := by rw [eM14]; first | exact jnb_up (by decide) | simp [jnb_up]
          exact jr_retI C hr G h (by decide) (by decide) dX12_setOption_49
  · have h := h.2 (jb_0 hc)
    refine lv_aload_n C.x C.b dX12_setOption_14 rfl (lv_at hl 0 rfl) ?_
    refine lv_iconst (v := 1) C.x C.b dX12_setOption_15 (by decide) ?_
    refine jr_V (d' := 1) C G jc11 jm_X12_refuse wd1296 (sp_X12_refuse ⟨rfl, rfl⟩ : ok_X12_refuse 1 M1 (fun r _ M' => 0 = r ∧ M' = jup M1 11 0 7 1)) rfl (show 0 < 1 by decide) (by decide) rfl rfl (by omega) (by decide) (by decide) ⟨rfl, rfl⟩ hl.1 (Nat.le_of_ble_eq_true rfl) dX12_setOption_16 (fun r15 r15n M16 H locs hq G => ?_)
    obtain ⟨eq1, eM16⟩ := hq
    subst eq1
    have h := h M16 eM16
    have nM16 : jnb M16 = jnb M1 := by rw [eM16]; first | exact jnb_up (by decide) | simp [jnb_up]
    exact jr_retI C hr G h (by decide) (by decide) dX12_setOption_19

theorem en_X12_stepOf {v1 : Int32} {v2 : Int32} {v3 : Int32} {M : jM} {Q : Int32 → Nat → jM → Prop} (h : at_X12_stepOf_0 v1 v2 v3 M Q) : ok_X12_stepOf v1 v2 v3 M Q := jr_enter (by decide) (fun g => rfl) (fun g => Nat.le_of_ble_eq_true rfl) h
set_option maxHeartbeats 4000000 in
set_option maxRecDepth 100000 in
theorem bl_X12_stepOf_0 (v1 : Int32) (v2 : Int32) (v3 : Int32) (M : jM) (Q : Int32 → Nat → jM → Prop) 
  (h : (v3 = 0 → at_X12_stepOf_18 v2 v3 (-1000) v1 M Q) ∧ (¬ (v3 = 0) → at_X12_stepOf_18 v2 v3 1000 v1 M Q)) :
  at_X12_stepOf_0 v1 v2 v3 M Q := by
  intro p l e s m args below meth c D cA base g C hr htb H locs G ls hl
  refine lv_iload_n C.x C.b dX12_stepOf_0 rfl (lv_at hl 3 rfl) ?_
  refine lv_if_eq (tgt := 10) C.x C.b dX12_stepOf_1 (by decide) (fun hc => ?_) (fun hc => ?_)
  · have h := h.1 hc
    refine lv_sipush (v := (-1000)) C.x C.b dX12_stepOf_10 (by decide) ?_
    refine lv_istore (lv' := [(4, .int (-1000)), (0, .ref (g 11 0)), (1, .int v1), (2, .int v2), (3, .int v3)]) C.x C.b dX12_stepOf_13 hl (by decide) rfl (fun ls hl => ?_)
    refine lv_iload_n C.x C.b dX12_stepOf_15 rfl (lv_at hl 2 rfl) ?_
    refine lv_istore (lv' := [(5, .int v1), (4, .int (-1000)), (0, .ref (g 11 0)), (1, .int v1), (2, .int v2), (3, .int v3)]) C.x C.b dX12_stepOf_16 hl (by decide) rfl (fun ls hl => ?_)
    exact h p l e s m args below meth c D cA base g C hr htb _ _ G ls (lv_sub hl [2, 4, 5, 1, 0] rfl)
  · have h := h.2 hc
    refine lv_sipush (v := 1000) C.x C.b dX12_stepOf_4 (by decide) ?_
    refine lv_goto (tgt := 13) C.x C.b dX12_stepOf_7 (by decide) ?_
    refine lv_istore (lv' := [(4, .int 1000), (0, .ref (g 11 0)), (1, .int v1), (2, .int v2), (3, .int v3)]) C.x C.b dX12_stepOf_13 hl (by decide) rfl (fun ls hl => ?_)
    refine lv_iload_n C.x C.b dX12_stepOf_15 rfl (lv_at hl 2 rfl) ?_
    refine lv_istore (lv' := [(5, .int v1), (4, .int 1000), (0, .ref (g 11 0)), (1, .int v1), (2, .int v2), (3, .int v3)]) C.x C.b dX12_stepOf_16 hl (by decide) rfl (fun ls hl => ?_)
    exact h p l e s m args below meth c D cA base g C hr htb _ _ G ls (lv_sub hl [2, 4, 5, 1, 0] rfl)
set_option maxHeartbeats 4000000 in
set_option maxRecDepth 100000 in
theorem bl_X12_stepOf_18 (v2 : Int32) (v3 : Int32) (v4 : Int32) (v5 : Int32) (M : jM) (Q : Int32 → Nat → jM → Prop) 
  (h : (v2 < v5 → Q v4 0 M) ∧ (¬ (v2 < v5) → vp_in v5 6 ∧ (v3 = 0 → (vp_in (585 * v5 + 1) 3510) ∧ (v3 = 0 → at_X12_stepOf_18 v2 v3 (jmax v4 ((M 59 0 v5.toNatClampNeg) + (M 50 0 (585 * v5 + 1).toNatClampNeg))) (v5 + 1) M Q) ∧ (¬ (v3 = 0) → at_X12_stepOf_18 v2 v3 (jmin v4 ((M 59 0 v5.toNatClampNeg) + (M 50 0 (585 * v5 + 1).toNatClampNeg))) (v5 + 1) M Q)) ∧ (¬ (v3 = 0) → (vp_in (585 * v5 + 0) 3510) ∧ (v3 = 0 → at_X12_stepOf_18 v2 v3 (jmax v4 ((M 59 0 v5.toNatClampNeg) + (M 50 0 (585 * v5 + 0).toNatClampNeg))) (v5 + 1) M Q) ∧ (¬ (v3 = 0) → at_X12_stepOf_18 v2 v3 (jmin v4 ((M 59 0 v5.toNatClampNeg) + (M 50 0 (585 * v5 + 0).toNatClampNeg))) (v5 + 1) M Q)))) :
  at_X12_stepOf_18 v2 v3 v4 v5 M Q := by
  intro p l e s m args below meth c D cA base g C hr htb H locs G ls hl
  refine lv_iload C.x C.b dX12_stepOf_18 (lv_at hl 4 rfl) ?_
  refine lv_iload_n C.x C.b dX12_stepOf_20 rfl (lv_at hl 1 rfl) ?_
  refine lv_icmp_gt (tgt := 78) C.x C.b dX12_stepOf_21 (by decide) (fun hc => ?_) (fun hc => ?_)
  · have h := h.1 hc
    refine lv_iload C.x C.b dX12_stepOf_78 (lv_at hl 3 rfl) ?_
    exact jr_retI C hr G h (by decide) (by decide) dX12_stepOf_80
  · have h := h.2 hc
    refine lv_aload_n C.x C.b dX12_stepOf_24 rfl (lv_at hl 0 rfl) ?_
    refine jr_get C G jc11 25 (v := .ref (g 59 0)) (show 0 < 1 by decide) (by decide) (by decide) rfl wd1216 dX12_stepOf_25 ?_
    refine lv_iload C.x C.b dX12_stepOf_28 (lv_at hl 4 rfl) ?_
    obtain ⟨hs, h⟩ := h
    refine jr_ald C G (show 0 < 1 by decide) (by decide) (by decide) (by decide) rfl rfl hs dX12_stepOf_30 ?_
    refine lv_aload_n C.x C.b dX12_stepOf_31 rfl (lv_at hl 0 rfl) ?_
    refine lv_iload C.x C.b dX12_stepOf_32 (lv_at hl 4 rfl) ?_
    refine lv_iload_n C.x C.b dX12_stepOf_34 rfl (lv_at hl 2 rfl) ?_
    refine lv_if_eq (tgt := 42) C.x C.b dX12_stepOf_35 (by decide) (fun hc => ?_) (fun hc => ?_)
    · have h := h.1 hc
      refine lv_iconst (v := 1) C.x C.b dX12_stepOf_42 (by decide) ?_
      obtain ⟨hp3, h⟩ := h
      refine jr_V (d' := 1) C G jc11 jm_X12_of wd1384 (sp_X12_of hp3 ⟨rfl, rfl⟩ : ok_X12_of v5 1 M (fun r _ M' => (M 50 0 (585 * v5 + 1).toNatClampNeg) = r ∧ M = M')) rfl (show 0 < 1 by decide) (by decide) rfl rfl (by omega) (by decide) (by decide) ⟨rfl, rfl⟩ hl.1 (Nat.le_of_ble_eq_true rfl) dX12_stepOf_43 (fun r1 r1n M2 H locs hq G => ?_)
      obtain ⟨eq1, eq2⟩ := hq
      subst eq1
      subst eq2
      refine lv_iadd C.x C.b dX12_stepOf_46 ?_
      refine lv_istore (lv' := [(6, .int ((M 59 0 v5.toNatClampNeg) + (M 50 0 (585 * v5 + 1).toNatClampNeg))), (0, .ref (g 11 0)), (2, .int v2), (3, .int v3), (4, .int v4), (5, .int v5)]) C.x C.b dX12_stepOf_47 hl (by decide) rfl (fun ls hl => ?_)
      refine lv_iload_n C.x C.b dX12_stepOf_49 rfl (lv_at hl 3 rfl) ?_
      refine lv_if_eq (tgt := 63) C.x C.b dX12_stepOf_50 (by decide) (fun hc => ?_) (fun hc => ?_)
      · have h := h.1 hc
        refine lv_iload C.x C.b dX12_stepOf_63 (lv_at hl 4 rfl) ?_
        refine lv_iload C.x C.b dX12_stepOf_65 (lv_at hl 0 rfl) ?_
        refine va_mmax C.x C.b (C.ml.trans hl.1.symm) C.ow (C.w _ wd1420) (C.w _ wd740) (C.w _ wd94) (C.w _ wd741) (by decide) (Nat.le_of_ble_eq_true rfl) (by decide) (by decide) dX12_stepOf_67 ?_
        rw [show (if v4 < ((M 59 0 v5.toNatClampNeg) + (M 50 0 (585 * v5 + 1).toNatClampNeg)) then (M 59 0 v5.toNatClampNeg) + (M 50 0 (585 * v5 + 1).toNatClampNeg) else v4 : Int32) = jmax v4 ((M 59 0 v5.toNatClampNeg) + (M 50 0 (585 * v5 + 1).toNatClampNeg)) from rfl]
        refine lv_istore (lv' := [(4, .int (jmax v4 ((M 59 0 v5.toNatClampNeg) + (M 50 0 (585 * v5 + 1).toNatClampNeg)))), (6, .int ((M 59 0 v5.toNatClampNeg) + (M 50 0 (585 * v5 + 1).toNatClampNeg))), (0, .ref (g 11 0)), (2, .int v2), (3, .int v3), (5, .int v5)]) C.x C.b dX12_stepOf_70 hl (by decide) rfl (fun ls hl => ?_)
        refine lv_iinc (v := v5 + 1) (lv' := [(5, .int (v5 + 1)), (4, .int (jmax v4 ((M 59 0 v5.toNatClampNeg) + (M 50 0 (585 * v5 + 1).toNatClampNeg)))), (6, .int ((M 59 0 v5.toNatClampNeg) + (M 50 0 (585 * v5 + 1).toNatClampNeg))), (0, .ref (g 11 0)), (2, .int v2), (3, .int v3)]) C.x C.b dX12_stepOf_72 hl (k := 5) rfl rfl (by decide) rfl (fun ls hl => ?_)
        refine lv_goto (tgt := 18) C.x C.b dX12_stepOf_75 (by decide) ?_
        exact h p l e s m args below meth c D cA base g C hr htb _ _ G ls (lv_sub hl [3, 4, 5, 1, 0] rfl)
      · have h := h.2 hc
        refine lv_iload C.x C.b dX12_stepOf_53 (lv_at hl 4 rfl) ?_
        refine lv_iload C.x C.b dX12_stepOf_55 (lv_at hl 0 rfl) ?_
        refine va_mmin C.x C.b (C.ml.trans hl.1.symm) C.ow (C.w _ wd1509) (C.w _ wd890) (C.w _ wd94) (C.w _ wd891) (by decide) (Nat.le_of_ble_eq_true rfl) (by decide) (by decide) dX12_stepOf_57 ?_
        rw [show (if ((M 59 0 v5.toNatClampNeg) + (M 50 0 (585 * v5 + 1).toNatClampNeg)) < v4 then (M 59 0 v5.toNatClampNeg) + (M 50 0 (585 * v5 + 1).toNatClampNeg) else v4 : Int32) = jmin v4 ((M 59 0 v5.toNatClampNeg) + (M 50 0 (585 * v5 + 1).toNatClampNeg)) from rfl]
        refine lv_goto (tgt := 70) C.x C.b dX12_stepOf_60 (by decide) ?_
        refine lv_istore (lv' := [(4, .int (jmin v4 ((M 59 0 v5.toNatClampNeg) + (M 50 0 (585 * v5 + 1).toNatClampNeg)))), (6, .int ((M 59 0 v5.toNatClampNeg) + (M 50 0 (585 * v5 + 1).toNatClampNeg))), (0, .ref (g 11 0)), (2, .int v2), (3, .int v3), (5, .int v5)]) C.x C.b dX12_stepOf_70 hl (by decide) rfl (fun ls hl => ?_)
        refine lv_iinc (v := v5 + 1) (lv' := [(5, .int (v5 + 1)), (4, .int (jmin v4 ((M 59 0 v5.toNatClampNeg) + (M 50 0 (585 * v5 + 1).toNatClampNeg)))), (6, .int ((M 59 0 v5.toNatClampNeg) + (M 50 0 (585 * v5 + 1).toNatClampNeg))), (0, .ref (g 11 0)), (2, .int v2), (3, .int v3)]) C.x C.b dX12_stepOf_72 hl (k := 5) rfl rfl (by decide) rfl (fun ls hl => ?_)
        refine lv_goto (tgt := 18) C.x C.b dX12_stepOf_75 (by decide) ?_
        exact h p l e s m args below meth c D cA base g C hr htb _ _ G ls (lv_sub hl [3, 4, 5, 1, 0] rfl)
    · have h := h.2 hc
      refine lv_iconst (v := 0) C.x C.b dX12_stepOf_38 (by decide) ?_
      refine lv_goto (tgt := 43) C.x C.b dX12_stepOf_39 (by decide) ?_
      obtain ⟨hp6, h⟩ := h
      refine jr_V (d' := 1) C G jc11 jm_X12_of wd1384 (sp_X12_of hp6 ⟨rfl, rfl⟩ : ok_X12_of v5 0 M (fun r _ M' => (M 50 0 (585 * v5 + 0).toNatClampNeg) = r ∧ M = M')) rfl (show 0 < 1 by decide) (by decide) rfl rfl (by omega) (by decide) (by decide) ⟨rfl, rfl⟩ hl.1 (Nat.le_of_ble_eq_true rfl) dX12_stepOf_43 (fun r4 r4n M5 H locs hq G => ?_)
      obtain ⟨eq1, eq2⟩ := hq
      subst eq1
      subst eq2
      refine lv_iadd C.x C.b dX12_stepOf_46 ?_
      refine lv_istore (lv' := [(6, .int ((M 59 0 v5.toNatClampNeg) + (M 50 0 (585 * v5 + 0).toNatClampNeg))), (0, .ref (g 11 0)), (2, .int v2), (3, .int v3), (4, .int v4), (5, .int v5)]) C.x C.b dX12_stepOf_47 hl (by decide) rfl (fun ls hl => ?_)
      refine lv_iload_n C.x C.b dX12_stepOf_49 rfl (lv_at hl 3 rfl) ?_
      refine lv_if_eq (tgt := 63) C.x C.b dX12_stepOf_50 (by decide) (fun hc => ?_) (fun hc => ?_)
      · have h := h.1 hc
        refine lv_iload C.x C.b dX12_stepOf_63 (lv_at hl 4 rfl) ?_
        refine lv_iload C.x C.b dX12_stepOf_65 (lv_at hl 0 rfl) ?_
        refine va_mmax C.x C.b (C.ml.trans hl.1.symm) C.ow (C.w _ wd1420) (C.w _ wd740) (C.w _ wd94) (C.w _ wd741) (by decide) (Nat.le_of_ble_eq_true rfl) (by decide) (by decide) dX12_stepOf_67 ?_
        rw [show (if v4 < ((M 59 0 v5.toNatClampNeg) + (M 50 0 (585 * v5 + 0).toNatClampNeg)) then (M 59 0 v5.toNatClampNeg) + (M 50 0 (585 * v5 + 0).toNatClampNeg) else v4 : Int32) = jmax v4 ((M 59 0 v5.toNatClampNeg) + (M 50 0 (585 * v5 + 0).toNatClampNeg)) from rfl]
        refine lv_istore (lv' := [(4, .int (jmax v4 ((M 59 0 v5.toNatClampNeg) + (M 50 0 (585 * v5 + 0).toNatClampNeg)))), (6, .int ((M 59 0 v5.toNatClampNeg) + (M 50 0 (585 * v5 + 0).toNatClampNeg))), (0, .ref (g 11 0)), (2, .int v2), (3, .int v3), (5, .int v5)]) C.x C.b dX12_stepOf_70 hl (by decide) rfl (fun ls hl => ?_)
        refine lv_iinc (v := v5 + 1) (lv' := [(5, .int (v5 + 1)), (4, .int (jmax v4 ((M 59 0 v5.toNatClampNeg) + (M 50 0 (585 * v5 + 0).toNatClampNeg)))), (6, .int ((M 59 0 v5.toNatClampNeg) + (M 50 0 (585 * v5 + 0).toNatClampNeg))), (0, .ref (g 11 0)), (2, .int v2), (3, .int v3)]) C.x C.b dX12_stepOf_72 hl (k := 5) rfl rfl (by decide) rfl (fun ls hl => ?_)
        refine lv_goto (tgt := 18) C.x C.b dX12_stepOf_75 (by decide) ?_
        exact h p l e s m args below meth c D cA base g C hr htb _ _ G ls (lv_sub hl [3, 4, 5, 1, 0] rfl)
      · have h := h.2 hc
        refine lv_iload C.x C.b dX12_stepOf_53 (lv_at hl 4 rfl) ?_
        refine lv_iload C.x C.b dX12_stepOf_55 (lv_at hl 0 rfl) ?_
        refine va_mmin C.x C.b (C.ml.trans hl.1.symm) C.ow (C.w _ wd1509) (C.w _ wd890) (C.w _ wd94) (C.w _ wd891) (by decide) (Nat.le_of_ble_eq_true rfl) (by decide) (by decide) dX12_stepOf_57 ?_
        rw [show (if ((M 59 0 v5.toNatClampNeg) + (M 50 0 (585 * v5 + 0).toNatClampNeg)) < v4 then (M 59 0 v5.toNatClampNeg) + (M 50 0 (585 * v5 + 0).toNatClampNeg) else v4 : Int32) = jmin v4 ((M 59 0 v5.toNatClampNeg) + (M 50 0 (585 * v5 + 0).toNatClampNeg)) from rfl]
        refine lv_goto (tgt := 70) C.x C.b dX12_stepOf_60 (by decide) ?_
        refine lv_istore (lv' := [(4, .int (jmin v4 ((M 59 0 v5.toNatClampNeg) + (M 50 0 (585 * v5 + 0).toNatClampNeg)))), (6, .int ((M 59 0 v5.toNatClampNeg) + (M 50 0 (585 * v5 + 0).toNatClampNeg))), (0, .ref (g 11 0)), (2, .int v2), (3, .int v3), (5, .int v5)]) C.x C.b dX12_stepOf_70 hl (by decide) rfl (fun ls hl => ?_)
        refine lv_iinc (v := v5 + 1) (lv' := [(5, .int (v5 + 1)), (4, .int (jmin v4 ((M 59 0 v5.toNatClampNeg) + (M 50 0 (585 * v5 + 0).toNatClampNeg)))), (6, .int ((M 59 0 v5.toNatClampNeg) + (M 50 0 (585 * v5 + 0).toNatClampNeg))), (0, .ref (g 11 0)), (2, .int v2), (3, .int v3)]) C.x C.b dX12_stepOf_72 hl (k := 5) rfl rfl (by decide) rfl (fun ls hl => ?_)
        refine lv_goto (tgt := 18) C.x C.b dX12_stepOf_75 (by decide) ?_
        exact h p l e s m args below meth c D cA base g C hr htb _ _ G ls (lv_sub hl [3, 4, 5, 1, 0] rfl)

theorem en_X12_mainFirst  {M : jM} {Q : Int32 → Nat → jM → Prop} (h : at_X12_mainFirst_0  M Q) : ok_X12_mainFirst  M Q := jr_enter (by decide) (fun g => rfl) (fun g => Nat.le_of_ble_eq_true rfl) h
set_option maxHeartbeats 4000000 in
set_option maxRecDepth 100000 in
theorem bl_X12_mainFirst_0  (M : jM) (Q : Int32 → Nat → jM → Prop) 
  (h : at_X12_mainFirst_9 (-1000) (M 11 0 29) M Q) :
  at_X12_mainFirst_0  M Q := by
  intro p l e s m args below meth c D cA base g C hr htb H locs G ls hl
  refine lv_sipush (v := (-1000)) C.x C.b dX12_mainFirst_0 (by decide) ?_
  refine lv_istore_n (lv' := [(1, .int (-1000)), (0, .ref (g 11 0))]) C.x C.b dX12_mainFirst_3 rfl hl (by decide) rfl (fun ls hl => ?_)
  refine lv_aload_n C.x C.b dX12_mainFirst_4 rfl (lv_at hl 1 rfl) ?_
  refine jr_get C G jc11 29 (v := .int (M 11 0 29)) (show 0 < 1 by decide) (by decide) (by decide) rfl wd1220 dX12_mainFirst_5 ?_
  refine lv_istore_n (lv' := [(2, .int (M 11 0 29)), (1, .int (-1000)), (0, .ref (g 11 0))]) C.x C.b dX12_mainFirst_8 rfl hl (by decide) rfl (fun ls hl => ?_)
  exact h p l e s m args below meth c D cA base g C hr htb _ _ G ls (lv_sub hl [2, 1, 0] rfl)
set_option maxHeartbeats 4000000 in
set_option maxRecDepth 100000 in
theorem bl_X12_mainFirst_9 (v1 : Int32) (v2 : Int32) (M : jM) (Q : Int32 → Nat → jM → Prop) 
  (h : ((M 11 0 30) < v2 → Q v1 0 M) ∧ (¬ ((M 11 0 30) < v2) → vp_in v2 6 ∧ (vp_in (585 * v2 + 0) 3510) ∧ at_X12_mainFirst_9 (jmax v1 ((M 59 0 v2.toNatClampNeg) + (M 50 0 (585 * v2 + 0).toNatClampNeg))) (v2 + 1) M Q)) :
  at_X12_mainFirst_9 v1 v2 M Q := by
  intro p l e s m args below meth c D cA base g C hr htb H locs G ls hl
  refine lv_iload_n C.x C.b dX12_mainFirst_9 rfl (lv_at hl 2 rfl) ?_
  refine lv_aload_n C.x C.b dX12_mainFirst_10 rfl (lv_at hl 0 rfl) ?_
  refine jr_get C G jc11 30 (v := .int (M 11 0 30)) (show 0 < 1 by decide) (by decide) (by decide) rfl wd1221 dX12_mainFirst_11 ?_
  refine lv_icmp_gt (tgt := 41) C.x C.b dX12_mainFirst_14 (by decide) (fun hc => ?_) (fun hc => ?_)
  · have h := h.1 hc
    refine lv_iload_n C.x C.b dX12_mainFirst_41 rfl (lv_at hl 1 rfl) ?_
    exact jr_retI C hr G h (by decide) (by decide) dX12_mainFirst_42
  · have h := h.2 hc
    refine lv_iload_n C.x C.b dX12_mainFirst_17 rfl (lv_at hl 1 rfl) ?_
    refine lv_aload_n C.x C.b dX12_mainFirst_18 rfl (lv_at hl 0 rfl) ?_
    refine jr_get C G jc11 25 (v := .ref (g 59 0)) (show 0 < 1 by decide) (by decide) (by decide) rfl wd1216 dX12_mainFirst_19 ?_
    refine lv_iload_n C.x C.b dX12_mainFirst_22 rfl (lv_at hl 2 rfl) ?_
    obtain ⟨hs, h⟩ := h
    refine jr_ald C G (show 0 < 1 by decide) (by decide) (by decide) (by decide) rfl rfl hs dX12_mainFirst_23 ?_
    refine lv_aload_n C.x C.b dX12_mainFirst_24 rfl (lv_at hl 0 rfl) ?_
    refine lv_iload_n C.x C.b dX12_mainFirst_25 rfl (lv_at hl 2 rfl) ?_
    refine lv_iconst (v := 0) C.x C.b dX12_mainFirst_26 (by decide) ?_
    obtain ⟨hp3, h⟩ := h
    refine jr_V (d' := 1) C G jc11 jm_X12_of wd1384 (sp_X12_of hp3 ⟨rfl, rfl⟩ : ok_X12_of v2 0 M (fun r _ M' => (M 50 0 (585 * v2 + 0).toNatClampNeg) = r ∧ M = M')) rfl (show 0 < 1 by decide) (by decide) rfl rfl (by omega) (by decide) (by decide) ⟨rfl, rfl⟩ hl.1 (Nat.le_of_ble_eq_true rfl) dX12_mainFirst_27 (fun r1 r1n M2 H locs hq G => ?_)
    obtain ⟨eq1, eq2⟩ := hq
    subst eq1
    subst eq2
    refine lv_iadd C.x C.b dX12_mainFirst_30 ?_
    refine va_mmax C.x C.b (C.ml.trans hl.1.symm) C.ow (C.w _ wd1420) (C.w _ wd740) (C.w _ wd94) (C.w _ wd741) (by decide) (Nat.le_of_ble_eq_true rfl) (by decide) (by decide) dX12_mainFirst_31 ?_
    rw [show (if v1 < ((M 59 0 v2.toNatClampNeg) + (M 50 0 (585 * v2 + 0).toNatClampNeg)) then (M 59 0 v2.toNatClampNeg) + (M 50 0 (585 * v2 + 0).toNatClampNeg) else v1 : Int32) = jmax v1 ((M 59 0 v2.toNatClampNeg) + (M 50 0 (585 * v2 + 0).toNatClampNeg)) from rfl]
    refine lv_istore_n (lv' := [(1, .int (jmax v1 ((M 59 0 v2.toNatClampNeg) + (M 50 0 (585 * v2 + 0).toNatClampNeg)))), (0, .ref (g 11 0)), (2, .int v2)]) C.x C.b dX12_mainFirst_34 rfl hl (by decide) rfl (fun ls hl => ?_)
    refine lv_iinc (v := v2 + 1) (lv' := [(2, .int (v2 + 1)), (1, .int (jmax v1 ((M 59 0 v2.toNatClampNeg) + (M 50 0 (585 * v2 + 0).toNatClampNeg)))), (0, .ref (g 11 0))]) C.x C.b dX12_mainFirst_35 hl (k := 2) rfl rfl (by decide) rfl (fun ls hl => ?_)
    refine lv_goto (tgt := 9) C.x C.b dX12_mainFirst_38 (by decide) ?_
    exact h p l e s m args below meth c D cA base g C hr htb _ _ G ls (lv_sub hl [2, 1, 0] rfl)

theorem en_X12_mainLast  {M : jM} {Q : Int32 → Nat → jM → Prop} (h : at_X12_mainLast_0  M Q) : ok_X12_mainLast  M Q := jr_enter (by decide) (fun g => rfl) (fun g => Nat.le_of_ble_eq_true rfl) h
set_option maxHeartbeats 4000000 in
set_option maxRecDepth 100000 in
theorem bl_X12_mainLast_0  (M : jM) (Q : Int32 → Nat → jM → Prop) 
  (h : at_X12_mainLast_9 1000 (M 11 0 29) M Q) :
  at_X12_mainLast_0  M Q := by
  intro p l e s m args below meth c D cA base g C hr htb H locs G ls hl
  refine lv_sipush (v := 1000) C.x C.b dX12_mainLast_0 (by decide) ?_
  refine lv_istore_n (lv' := [(1, .int 1000), (0, .ref (g 11 0))]) C.x C.b dX12_mainLast_3 rfl hl (by decide) rfl (fun ls hl => ?_)
  refine lv_aload_n C.x C.b dX12_mainLast_4 rfl (lv_at hl 1 rfl) ?_
  refine jr_get C G jc11 29 (v := .int (M 11 0 29)) (show 0 < 1 by decide) (by decide) (by decide) rfl wd1220 dX12_mainLast_5 ?_
  refine lv_istore_n (lv' := [(2, .int (M 11 0 29)), (1, .int 1000), (0, .ref (g 11 0))]) C.x C.b dX12_mainLast_8 rfl hl (by decide) rfl (fun ls hl => ?_)
  exact h p l e s m args below meth c D cA base g C hr htb _ _ G ls (lv_sub hl [2, 1, 0] rfl)
set_option maxHeartbeats 4000000 in
set_option maxRecDepth 100000 in
theorem bl_X12_mainLast_9 (v1 : Int32) (v2 : Int32) (M : jM) (Q : Int32 → Nat → jM → Prop) 
  (h : ((M 11 0 30) < v2 → Q v1 0 M) ∧ (¬ ((M 11 0 30) < v2) → vp_in v2 6 ∧ (vp_in (585 * v2 + 1) 3510) ∧ at_X12_mainLast_9 (jmin v1 ((M 59 0 v2.toNatClampNeg) + (M 50 0 (585 * v2 + 1).toNatClampNeg))) (v2 + 1) M Q)) :
  at_X12_mainLast_9 v1 v2 M Q := by
  intro p l e s m args below meth c D cA base g C hr htb H locs G ls hl
  refine lv_iload_n C.x C.b dX12_mainLast_9 rfl (lv_at hl 2 rfl) ?_
  refine lv_aload_n C.x C.b dX12_mainLast_10 rfl (lv_at hl 0 rfl) ?_
  refine jr_get C G jc11 30 (v := .int (M 11 0 30)) (show 0 < 1 by decide) (by decide) (by decide) rfl wd1221 dX12_mainLast_11 ?_
  refine lv_icmp_gt (tgt := 41) C.x C.b dX12_mainLast_14 (by decide) (fun hc => ?_) (fun hc => ?_)
  · have h := h.1 hc
    refine lv_iload_n C.x C.b dX12_mainLast_41 rfl (lv_at hl 1 rfl) ?_
    exact jr_retI C hr G h (by decide) (by decide) dX12_mainLast_42
  · have h := h.2 hc
    refine lv_iload_n C.x C.b dX12_mainLast_17 rfl (lv_at hl 1 rfl) ?_
    refine lv_aload_n C.x C.b dX12_mainLast_18 rfl (lv_at hl 0 rfl) ?_
    refine jr_get C G jc11 25 (v := .ref (g 59 0)) (show 0 < 1 by decide) (by decide) (by decide) rfl wd1216 dX12_mainLast_19 ?_
    refine lv_iload_n C.x C.b dX12_mainLast_22 rfl (lv_at hl 2 rfl) ?_
    obtain ⟨hs, h⟩ := h
    refine jr_ald C G (show 0 < 1 by decide) (by decide) (by decide) (by decide) rfl rfl hs dX12_mainLast_23 ?_
    refine lv_aload_n C.x C.b dX12_mainLast_24 rfl (lv_at hl 0 rfl) ?_
    refine lv_iload_n C.x C.b dX12_mainLast_25 rfl (lv_at hl 2 rfl) ?_
    refine lv_iconst (v := 1) C.x C.b dX12_mainLast_26 (by decide) ?_
    obtain ⟨hp3, h⟩ := h
    refine jr_V (d' := 1) C G jc11 jm_X12_of wd1384 (sp_X12_of hp3 ⟨rfl, rfl⟩ : ok_X12_of v2 1 M (fun r _ M' => (M 50 0 (585 * v2 + 1).toNatClampNeg) = r ∧ M = M')) rfl (show 0 < 1 by decide) (by decide) rfl rfl (by omega) (by decide) (by decide) ⟨rfl, rfl⟩ hl.1 (Nat.le_of_ble_eq_true rfl) dX12_mainLast_27 (fun r1 r1n M2 H locs hq G => ?_)
    obtain ⟨eq1, eq2⟩ := hq
    subst eq1
    subst eq2
    refine lv_iadd C.x C.b dX12_mainLast_30 ?_
    refine va_mmin C.x C.b (C.ml.trans hl.1.symm) C.ow (C.w _ wd1509) (C.w _ wd890) (C.w _ wd94) (C.w _ wd891) (by decide) (Nat.le_of_ble_eq_true rfl) (by decide) (by decide) dX12_mainLast_31 ?_
    rw [show (if ((M 59 0 v2.toNatClampNeg) + (M 50 0 (585 * v2 + 1).toNatClampNeg)) < v1 then (M 59 0 v2.toNatClampNeg) + (M 50 0 (585 * v2 + 1).toNatClampNeg) else v1 : Int32) = jmin v1 ((M 59 0 v2.toNatClampNeg) + (M 50 0 (585 * v2 + 1).toNatClampNeg)) from rfl]
    refine lv_istore_n (lv' := [(1, .int (jmin v1 ((M 59 0 v2.toNatClampNeg) + (M 50 0 (585 * v2 + 1).toNatClampNeg)))), (0, .ref (g 11 0)), (2, .int v2)]) C.x C.b dX12_mainLast_34 rfl hl (by decide) rfl (fun ls hl => ?_)
    refine lv_iinc (v := v2 + 1) (lv' := [(2, .int (v2 + 1)), (1, .int (jmin v1 ((M 59 0 v2.toNatClampNeg) + (M 50 0 (585 * v2 + 1).toNatClampNeg)))), (0, .ref (g 11 0))]) C.x C.b dX12_mainLast_35 hl (k := 2) rfl rfl (by decide) rfl (fun ls hl => ?_)
    refine lv_goto (tgt := 9) C.x C.b dX12_mainLast_38 (by decide) ?_
    exact h p l e s m args below meth c D cA base g C hr htb _ _ G ls (lv_sub hl [2, 1, 0] rfl)

theorem en_X12_bounded {v1 : Int32} {M : jM} {Q : Int32 → Nat → jM → Prop} (h : at_X12_bounded_0 v1 M Q) : ok_X12_bounded v1 M Q := jr_enter (by decide) (fun g => rfl) (fun g => Nat.le_of_ble_eq_true rfl) h
set_option maxHeartbeats 4000000 in
set_option maxRecDepth 100000 in
theorem bl_X12_bounded_0 (v1 : Int32) (M : jM) (Q : Int32 → Nat → jM → Prop) 
  (h : ok_X12_number  M (fun r1 _ M2 => jnb M2 = jnb M ∧ ((v1 ≤ r1 ∧ r1 ≤ 30) → Q r1 0 M2) ∧ (¬ (v1 ≤ r1 ∧ r1 ≤ 30) → ok_X12_bad (M 11 0 12) M2 (fun _ _ M6 => jnb M6 = jnb M2 ∧ Q r1 0 M6)))) :
  at_X12_bounded_0 v1 M Q := by
  intro p l e s m args below meth c D cA base g C hr htb H locs G ls hl
  refine lv_aload_n C.x C.b dX12_bounded_0 rfl (lv_at hl 0 rfl) ?_
  refine jr_get C G jc11 12 (v := .int (M 11 0 12)) (show 0 < 1 by decide) (by decide) (by decide) rfl wd1203 dX12_bounded_1 ?_
  refine lv_istore_n (lv' := [(2, .int (M 11 0 12)), (0, .ref (g 11 0)), (1, .int v1)]) C.x C.b dX12_bounded_4 rfl hl (by decide) rfl (fun ls hl => ?_)
  refine lv_aload_n C.x C.b dX12_bounded_5 rfl (lv_at hl 1 rfl) ?_
  refine jr_V (d' := 2) C G jc11 jm_X12_number wd1328 h rfl (show 0 < 1 by decide) (by decide) rfl rfl (by omega) (by decide) (by decide) ⟨rfl, rfl⟩ hl.1 (Nat.le_of_ble_eq_true rfl) dX12_bounded_6 (fun r1 r1n M2 H locs h G => ?_)
  obtain ⟨nM2, h⟩ := h
  refine lv_istore_n (lv' := [(3, .int r1), (2, .int (M 11 0 12)), (0, .ref (g 11 0)), (1, .int v1)]) C.x C.b dX12_bounded_9 rfl hl (by decide) rfl (fun ls hl => ?_)
  refine lv_iload_n C.x C.b dX12_bounded_10 rfl (lv_at hl 0 rfl) ?_
  refine lv_iload_n C.x C.b dX12_bounded_11 rfl (lv_at hl 3 rfl) ?_
  refine lv_bipush (v := 30) C.x C.b dX12_bounded_12 (by decide) ?_
  refine jr_S (d' := 2) C G jm_X12_in wd1293 (sp_X12_in ⟨rfl, rfl⟩ : ok_X12_in r1 v1 30 M2 (fun r _ M' => jb (v1 ≤ r1 ∧ r1 ≤ 30) = r ∧ M2 = M')) rfl rfl rfl (by omega) (by decide) (by decide) ⟨rfl, rfl⟩ hl.1 (Nat.le_of_ble_eq_true rfl) dX12_bounded_14 (fun r3 r3n M4 H locs hq G => ?_)
  obtain ⟨eq1, eq2⟩ := hq
  subst eq1
  subst eq2
  refine lv_if_ne (tgt := 25) C.x C.b dX12_bounded_17 (by decide) (fun hc => ?_) (fun hc => ?_)
  · have h := h.1 (jb_1 hc)
    refine lv_iload_n C.x C.b dX12_bounded_25 rfl (lv_at hl 0 rfl) ?_
    exact jr_retI C hr G h (by decide) (by decide) dX12_bounded_26
  · have h := h.2 (jb_0 hc)
    refine lv_aload_n C.x C.b dX12_bounded_20 rfl (lv_at hl 2 rfl) ?_
    refine lv_iload_n C.x C.b dX12_bounded_21 rfl (lv_at hl 1 rfl) ?_
    refine jr_V (d' := 2) C G jc11 jm_X12_bad wd1320 h rfl (show 0 < 1 by decide) (by decide) rfl rfl (by omega) (by decide) (by decide) ⟨rfl, rfl⟩ hl.1 (Nat.le_of_ble_eq_true rfl) dX12_bounded_22 (fun r5 r5n M6 H locs h G => ?_)
    obtain ⟨nM6, h⟩ := h
    refine lv_iload_n C.x C.b dX12_bounded_25 rfl (lv_at hl 0 rfl) ?_
    exact jr_retI C hr G h (by decide) (by decide) dX12_bounded_26

theorem en_X12_reference  {M : jM} {Q : Int32 → Nat → jM → Prop} (h : at_X12_reference_0  M Q) : ok_X12_reference  M Q := jr_enter (by decide) (fun g => rfl) (fun g => Nat.le_of_ble_eq_true rfl) h
set_option maxHeartbeats 4000000 in
set_option maxRecDepth 100000 in
theorem bl_X12_reference_0  (M : jM) (Q : Int32 → Nat → jM → Prop) 
  (h : (M 11 0 12 < M 11 0 11 → vp_in (M 11 0 12) 120) ∧ (M 11 0 13 = 0 → ((0 ≤ ((jhr M) - 97) ∧ ((jhr M) - 97) ≤ 4) → (∀ M8 : jM, M8 = jup M 11 0 12 ((M 11 0 12) + 1) → ok_X12_take 91 M8 (fun _ _ M10 => jnb M10 = jnb M8 ∧ ok_X12_take 105 M10 (fun _ _ M12 => jnb M12 = jnb M10 ∧ (M12 11 0 12 < M12 11 0 11 → vp_in (M12 11 0 12) 120) ∧ ((jhr M12) = 43 → (M12 11 0 13 = 0 → (∀ M43 : jM, M43 = jup M12 11 0 12 ((M12 11 0 12) + 1) → (M43 11 0 12 < M43 11 0 11 → vp_in (M43 11 0 12) 120) ∧ ((48 ≤ (jhr M43) ∧ (jhr M43) ≤ 57) → (M43 11 0 12 < M43 11 0 11 → vp_in (M43 11 0 12) 120) ∧ (∀ M56 : jM, M56 = jup M43 11 0 12 ((M43 11 0 12) + 1) → ok_X12_take 93 M56 (fun _ _ M58 => jnb M58 = jnb M56 ∧ Q (((20 * ((jhr M) - 97)) + (1 * ((jhr M43) - 48))) + 9) 0 M58))) ∧ (¬ (48 ≤ (jhr M43) ∧ (jhr M43) ≤ 57) → ok_X12_bad (M43 11 0 12) M43 (fun _ _ M50 => jnb M50 = jnb M43 ∧ ok_X12_take 93 M50 (fun _ _ M52 => jnb M52 = jnb M50 ∧ Q (((20 * ((jhr M) - 97)) + 0) + 9) 0 M52))))) ∧ (¬ (M12 11 0 13 = 0) → ok_X12_take 93 M12 (fun _ _ M42 => jnb M42 = jnb M12 ∧ Q (((20 * ((jhr M) - 97)) + 0) + 9) 0 M42))) ∧ (¬ ((jhr M12) = 43) → (M12 11 0 12 < M12 11 0 11 → vp_in (M12 11 0 12) 120) ∧ ((jhr M12) = 45 → (M12 11 0 13 = 0 → (∀ M25 : jM, M25 = jup M12 11 0 12 ((M12 11 0 12) + 1) → (M25 11 0 12 < M25 11 0 11 → vp_in (M25 11 0 12) 120) ∧ ((48 ≤ (jhr M25) ∧ (jhr M25) ≤ 57) → (M25 11 0 12 < M25 11 0 11 → vp_in (M25 11 0 12) 120) ∧ (∀ M38 : jM, M38 = jup M25 11 0 12 ((M25 11 0 12) + 1) → ok_X12_take 93 M38 (fun _ _ M40 => jnb M40 = jnb M38 ∧ Q (((20 * ((jhr M) - 97)) + ((-1) * ((jhr M25) - 48))) + 9) 0 M40))) ∧ (¬ (48 ≤ (jhr M25) ∧ (jhr M25) ≤ 57) → ok_X12_bad (M25 11 0 12) M25 (fun _ _ M32 => jnb M32 = jnb M25 ∧ ok_X12_take 93 M32 (fun _ _ M34 => jnb M34 = jnb M32 ∧ Q (((20 * ((jhr M) - 97)) + 0) + 9) 0 M34))))) ∧ (¬ (M12 11 0 13 = 0) → ok_X12_take 93 M12 (fun _ _ M24 => jnb M24 = jnb M12 ∧ Q (((20 * ((jhr M) - 97)) + 0) + 9) 0 M24))) ∧ (¬ ((jhr M12) = 45) → (M12 11 0 13 = 0 → ok_X12_take 93 M12 (fun _ _ M22 => jnb M22 = jnb M12 ∧ Q (((20 * ((jhr M) - 97)) + 0) + 9) 0 M22)) ∧ (¬ (M12 11 0 13 = 0) → ok_X12_take 93 M12 (fun _ _ M20 => jnb M20 = jnb M12 ∧ Q (((20 * ((jhr M) - 97)) + 0) + 9) 0 M20)))))))) ∧ (¬ (0 ≤ ((jhr M) - 97) ∧ ((jhr M) - 97) ≤ 4) → ok_X12_bad (M 11 0 12) M (fun _ _ M60 => jnb M60 = jnb M ∧ Q (-1) 0 M60))) ∧ (¬ (M 11 0 13 = 0) → ok_X12_bad (M 11 0 12) M (fun _ _ M5 => jnb M5 = jnb M ∧ Q (-1) 0 M5))) :
  at_X12_reference_0  M Q := by
  intro p l e s m args below meth c D cA base g C hr htb H locs G ls hl
  refine lv_aload_n C.x C.b dX12_reference_0 rfl (lv_at hl 0 rfl) ?_
  obtain ⟨hp3, h⟩ := h
  refine jr_V (d' := 2) C G jc11 jm_X12_here wd1316 (sp_X12_here hp3 ⟨rfl, rfl⟩ : ok_X12_here  M (fun r _ M' => (jhr M) = r ∧ M = M')) rfl (show 0 < 1 by decide) (by decide) rfl rfl (by omega) (by decide) (by decide) ⟨rfl, rfl⟩ hl.1 (Nat.le_of_ble_eq_true rfl) dX12_reference_1 (fun r1 r1n M2 H locs hq G => ?_)
  obtain ⟨eq1, eq2⟩ := hq
  subst eq1
  subst eq2
  refine lv_bipush (v := 97) C.x C.b dX12_reference_4 (by decide) ?_
  refine lv_isub C.x C.b dX12_reference_6 ?_
  refine lv_istore_n (lv' := [(1, .int ((jhr M) - 97)), (0, .ref (g 11 0))]) C.x C.b dX12_reference_7 rfl hl (by decide) rfl (fun ls hl => ?_)
  refine lv_aload_n C.x C.b dX12_reference_8 rfl (lv_at hl 1 rfl) ?_
  refine jr_get C G jc11 13 (v := .int (M 11 0 13)) (show 0 < 1 by decide) (by decide) (by decide) rfl wd1204 dX12_reference_9 ?_
  refine lv_if_ne (tgt := 24) C.x C.b dX12_reference_12 (by decide) (fun hc => ?_) (fun hc => ?_)
  · have h := h.2 hc
    refine lv_aload_n C.x C.b dX12_reference_24 rfl (lv_at hl 1 rfl) ?_
    refine lv_aload_n C.x C.b dX12_reference_25 rfl (lv_at hl 1 rfl) ?_
    refine jr_get C G jc11 12 (v := .int (M 11 0 12)) (show 0 < 1 by decide) (by decide) (by decide) rfl wd1203 dX12_reference_26 ?_
    refine jr_V (d' := 2) C G jc11 jm_X12_bad wd1320 h rfl (show 0 < 1 by decide) (by decide) rfl rfl (by omega) (by decide) (by decide) ⟨rfl, rfl⟩ hl.1 (Nat.le_of_ble_eq_true rfl) dX12_reference_29 (fun r4 r4n M5 H locs h G => ?_)
    obtain ⟨nM5, h⟩ := h
    refine lv_iconst (v := (-1)) C.x C.b dX12_reference_32 (by decide) ?_
    exact jr_retI C hr G h (by decide) (by decide) dX12_reference_33
  · have h := h.1 hc
    refine lv_iload_n C.x C.b dX12_reference_15 rfl (lv_at hl 0 rfl) ?_
    refine lv_iconst (v := 0) C.x C.b dX12_reference_16 (by decide) ?_
    refine lv_iconst (v := 4) C.x C.b dX12_reference_17 (by decide) ?_
    refine jr_S (d' := 2) C G jm_X12_in wd1293 (sp_X12_in ⟨rfl, rfl⟩ : ok_X12_in ((jhr M) - 97) 0 4 M (fun r _ M' => jb (0 ≤ ((jhr M) - 97) ∧ ((jhr M) - 97) ≤ 4) = r ∧ M = M')) rfl rfl rfl (by omega) (by decide) (by decide) ⟨rfl, rfl⟩ hl.1 (Nat.le_of_ble_eq_true rfl) dX12_reference_18 (fun r6 r6n M7 H locs hq G => ?_)
    obtain ⟨eq1, eq2⟩ := hq
    subst eq1
    subst eq2
    refine lv_if_ne (tgt := 34) C.x C.b dX12_reference_21 (by decide) (fun hc => ?_) (fun hc => ?_)
    · have h := h.1 (jb_1 hc)
      refine lv_aload_n C.x C.b dX12_reference_34 rfl (lv_at hl 1 rfl) ?_
      refine lv_dup C.x C.b dX12_reference_35 rfl ?_
      refine jr_get C G jc11 12 (v := .int (M 11 0 12)) (show 0 < 1 by decide) (by decide) (by decide) rfl wd1203 dX12_reference_36 ?_
      refine lv_iconst (v := 1) C.x C.b dX12_reference_39 (by decide) ?_
      refine lv_iadd C.x C.b dX12_reference_40 ?_
      refine jr_put C G jc11 12 (v := (M 11 0 12) + 1) (show 0 < 1 by decide) (by decide) (by decide) rfl (by decide) wd1203 rfl rfl rfl rfl dX12_reference_41 (fun H locs G => ?_)
      obtain ⟨M8, eM8⟩ : ∃ z : jM, z = jup M 11 0 12 ((M 11 0 12) + 1) := ⟨_, rfl⟩
      rw [← eM8] at G
      have h := h M8 eM8
      have nM8 : jnb M8 = jnb M := by rw [eM8]; exact jnb_up (by decide)
      refine lv_aload_n C.x C.b dX12_reference_44 rfl (lv_at hl 1 rfl) ?_
      refine lv_bipush (v := 91) C.x C.b dX12_reference_45 (by decide) ?_
      refine jr_V (d' := 2) C G jc11 jm_X12_take wd1312 h rfl (show 0 < 1 by decide) (by decide) rfl rfl (by omega) (by decide) (by decide) ⟨rfl, rfl⟩ hl.1 (Nat.le_of_ble_eq_true rfl) dX12_reference_47 (fun r9 r9n M10 H locs h G => ?_)
      obtain ⟨nM10, h⟩ := h
      refine lv_aload_n C.x C.b dX12_reference_50 rfl (lv_at hl 1 rfl) ?_
      refine lv_bipush (v := 105) C.x C.b dX12_reference_51 (by decide) ?_
      refine jr_V (d' := 2) C G jc11 jm_X12_take wd1312 h rfl (show 0 < 1 by decide) (by decide) rfl rfl (by omega) (by decide) (by decide) ⟨rfl, rfl⟩ hl.1 (Nat.le_of_ble_eq_true rfl) dX12_reference_53 (fun r11 r11n M12 H locs h G => ?_)
      obtain ⟨nM12, h⟩ := h
      refine lv_aload_n C.x C.b dX12_reference_56 rfl (lv_at hl 1 rfl) ?_
      obtain ⟨hp15, h⟩ := h
      refine jr_V (d' := 2) C G jc11 jm_X12_here wd1316 (sp_X12_here hp15 ⟨rfl, rfl⟩ : ok_X12_here  M12 (fun r _ M' => (jhr M12) = r ∧ M12 = M')) rfl (show 0 < 1 by decide) (by decide) rfl rfl (by omega) (by decide) (by decide) ⟨rfl, rfl⟩ hl.1 (Nat.le_of_ble_eq_true rfl) dX12_reference_57 (fun r13 r13n M14 H locs hq G => ?_)
      obtain ⟨eq1, eq2⟩ := hq
      subst eq1
      subst eq2
      refine lv_bipush (v := 43) C.x C.b dX12_reference_60 (by decide) ?_
      refine lv_icmp_ne (tgt := 69) C.x C.b dX12_reference_62 (by decide) (fun hc => ?_) (fun hc => ?_)
      · have h := h.2 hc
        refine lv_aload_n C.x C.b dX12_reference_69 rfl (lv_at hl 1 rfl) ?_
        obtain ⟨hp18, h⟩ := h
        refine jr_V (d' := 2) C G jc11 jm_X12_here wd1316 (sp_X12_here hp18 ⟨rfl, rfl⟩ : ok_X12_here  M12 (fun r _ M' => (jhr M12) = r ∧ M12 = M')) rfl (show 0 < 1 by decide) (by decide) rfl rfl (by omega) (by decide) (by decide) ⟨rfl, rfl⟩ hl.1 (Nat.le_of_ble_eq_true rfl) dX12_reference_70 (fun r16 r16n M17 H locs hq G => ?_)
        obtain ⟨eq1, eq2⟩ := hq
        subst eq1
        subst eq2
        refine lv_bipush (v := 45) C.x C.b dX12_reference_73 (by decide) ?_
        refine lv_icmp_ne (tgt := 82) C.x C.b dX12_reference_75 (by decide) (fun hc => ?_) (fun hc => ?_)
        · have h := h.2 hc
          refine lv_iconst (v := 0) C.x C.b dX12_reference_82 (by decide) ?_
          refine lv_istore_n (lv' := [(2, .int 0), (1, .int ((jhr M) - 97)), (0, .ref (g 11 0))]) C.x C.b dX12_reference_83 rfl hl (by decide) rfl (fun ls hl => ?_)
          refine lv_iconst (v := 0) C.x C.b dX12_reference_84 (by decide) ?_
          refine lv_istore_n (lv' := [(3, .int 0), (2, .int 0), (1, .int ((jhr M) - 97)), (0, .ref (g 11 0))]) C.x C.b dX12_reference_85 rfl hl (by decide) rfl (fun ls hl => ?_)
          refine lv_aload_n C.x C.b dX12_reference_86 rfl (lv_at hl 3 rfl) ?_
          refine jr_get C G jc11 13 (v := .int (M12 11 0 13)) (show 0 < 1 by decide) (by decide) (by decide) rfl wd1204 dX12_reference_87 ?_
          refine lv_if_ne (tgt := 152) C.x C.b dX12_reference_90 (by decide) (fun hc => ?_) (fun hc => ?_)
          · have h := h.2 hc
            refine lv_aload_n C.x C.b dX12_reference_152 rfl (lv_at hl 3 rfl) ?_
            refine lv_bipush (v := 93) C.x C.b dX12_reference_153 (by decide) ?_
            refine jr_V (d' := 2) C G jc11 jm_X12_take wd1312 h rfl (show 0 < 1 by decide) (by decide) rfl rfl (by omega) (by decide) (by decide) ⟨rfl, rfl⟩ hl.1 (Nat.le_of_ble_eq_true rfl) dX12_reference_155 (fun r19 r19n M20 H locs h G => ?_)
            obtain ⟨nM20, h⟩ := h
            refine lv_bipush (v := 20) C.x C.b dX12_reference_158 (by decide) ?_
            refine lv_iload_n C.x C.b dX12_reference_160 rfl (lv_at hl 2 rfl) ?_
            refine lv_imul C.x C.b dX12_reference_161 ?_
            refine lv_iload_n C.x C.b dX12_reference_162 rfl (lv_at hl 0 rfl) ?_
            refine lv_iadd C.x C.b dX12_reference_163 ?_
            refine lv_bipush (v := 9) C.x C.b dX12_reference_164 (by decide) ?_
            refine lv_iadd C.x C.b dX12_reference_166 ?_
            exact jr_retI C hr G h (by decide) (by decide) dX12_reference_167
          · have h := h.1 hc
            refine lv_iload_n C.x C.b dX12_reference_93 rfl (lv_at hl 1 rfl) ?_
            refine lv_if_eq (tgt := 152) C.x C.b dX12_reference_94 (by decide) (fun _ => ?_) (fun hc => absurd hc (by decide))
            refine lv_aload_n C.x C.b dX12_reference_152 rfl (lv_at hl 3 rfl) ?_
            refine lv_bipush (v := 93) C.x C.b dX12_reference_153 (by decide) ?_
            refine jr_V (d' := 2) C G jc11 jm_X12_take wd1312 h rfl (show 0 < 1 by decide) (by decide) rfl rfl (by omega) (by decide) (by decide) ⟨rfl, rfl⟩ hl.1 (Nat.le_of_ble_eq_true rfl) dX12_reference_155 (fun r21 r21n M22 H locs h G => ?_)
            obtain ⟨nM22, h⟩ := h
            refine lv_bipush (v := 20) C.x C.b dX12_reference_158 (by decide) ?_
            refine lv_iload_n C.x C.b dX12_reference_160 rfl (lv_at hl 2 rfl) ?_
            refine lv_imul C.x C.b dX12_reference_161 ?_
            refine lv_iload_n C.x C.b dX12_reference_162 rfl (lv_at hl 0 rfl) ?_
            refine lv_iadd C.x C.b dX12_reference_163 ?_
            refine lv_bipush (v := 9) C.x C.b dX12_reference_164 (by decide) ?_
            refine lv_iadd C.x C.b dX12_reference_166 ?_
            exact jr_retI C hr G h (by decide) (by decide) dX12_reference_167
        · have h := h.1 hc
          refine lv_iconst (v := (-1)) C.x C.b dX12_reference_78 (by decide) ?_
          refine lv_goto (tgt := 83) C.x C.b dX12_reference_79 (by decide) ?_
          refine lv_istore_n (lv' := [(2, .int (-1)), (1, .int ((jhr M) - 97)), (0, .ref (g 11 0))]) C.x C.b dX12_reference_83 rfl hl (by decide) rfl (fun ls hl => ?_)
          refine lv_iconst (v := 0) C.x C.b dX12_reference_84 (by decide) ?_
          refine lv_istore_n (lv' := [(3, .int 0), (2, .int (-1)), (1, .int ((jhr M) - 97)), (0, .ref (g 11 0))]) C.x C.b dX12_reference_85 rfl hl (by decide) rfl (fun ls hl => ?_)
          refine lv_aload_n C.x C.b dX12_reference_86 rfl (lv_at hl 3 rfl) ?_
          refine jr_get C G jc11 13 (v := .int (M12 11 0 13)) (show 0 < 1 by decide) (by decide) (by decide) rfl wd1204 dX12_reference_87 ?_
          refine lv_if_ne (tgt := 152) C.x C.b dX12_reference_90 (by decide) (fun hc => ?_) (fun hc => ?_)
          · have h := h.2 hc
            refine lv_aload_n C.x C.b dX12_reference_152 rfl (lv_at hl 3 rfl) ?_
            refine lv_bipush (v := 93) C.x C.b dX12_reference_153 (by decide) ?_
            refine jr_V (d' := 2) C G jc11 jm_X12_take wd1312 h rfl (show 0 < 1 by decide) (by decide) rfl rfl (by omega) (by decide) (by decide) ⟨rfl, rfl⟩ hl.1 (Nat.le_of_ble_eq_true rfl) dX12_reference_155 (fun r23 r23n M24 H locs h G => ?_)
            obtain ⟨nM24, h⟩ := h
            refine lv_bipush (v := 20) C.x C.b dX12_reference_158 (by decide) ?_
            refine lv_iload_n C.x C.b dX12_reference_160 rfl (lv_at hl 2 rfl) ?_
            refine lv_imul C.x C.b dX12_reference_161 ?_
            refine lv_iload_n C.x C.b dX12_reference_162 rfl (lv_at hl 0 rfl) ?_
            refine lv_iadd C.x C.b dX12_reference_163 ?_
            refine lv_bipush (v := 9) C.x C.b dX12_reference_164 (by decide) ?_
            refine lv_iadd C.x C.b dX12_reference_166 ?_
            exact jr_retI C hr G h (by decide) (by decide) dX12_reference_167
          · have h := h.1 hc
            refine lv_iload_n C.x C.b dX12_reference_93 rfl (lv_at hl 1 rfl) ?_
            refine lv_if_eq (tgt := 152) C.x C.b dX12_reference_94 (by decide) (fun hc => absurd hc (by decide)) (fun _ => ?_)
            refine lv_aload_n C.x C.b dX12_reference_97 rfl (lv_at hl 3 rfl) ?_
            refine lv_dup C.x C.b dX12_reference_98 rfl ?_
            refine jr_get C G jc11 12 (v := .int (M12 11 0 12)) (show 0 < 1 by decide) (by decide) (by decide) rfl wd1203 dX12_reference_99 ?_
            refine lv_iconst (v := 1) C.x C.b dX12_reference_102 (by decide) ?_
            refine lv_iadd C.x C.b dX12_reference_103 ?_
            refine jr_put C G jc11 12 (v := (M12 11 0 12) + 1) (show 0 < 1 by decide) (by decide) (by decide) rfl (by decide) wd1203 rfl rfl rfl rfl dX12_reference_104 (fun H locs G => ?_)
            obtain ⟨M25, eM25⟩ : ∃ z : jM, z = jup M12 11 0 12 ((M12 11 0 12) + 1) := ⟨_, rfl⟩
            rw [← eM25] at G
            have h := h M25 eM25
            have nM25 : jnb M25 = jnb M12 := by rw [eM25]; exact jnb_up (by decide)
            refine lv_aload_n C.x C.b dX12_reference_107 rfl (lv_at hl 3 rfl) ?_
            obtain ⟨hp28, h⟩ := h
            refine jr_V (d' := 2) C G jc11 jm_X12_here wd1316 (sp_X12_here hp28 ⟨rfl, rfl⟩ : ok_X12_here  M25 (fun r _ M' => (jhr M25) = r ∧ M25 = M')) rfl (show 0 < 1 by decide) (by decide) rfl rfl (by omega) (by decide) (by decide) ⟨rfl, rfl⟩ hl.1 (Nat.le_of_ble_eq_true rfl) dX12_reference_108 (fun r26 r26n M27 H locs hq G => ?_)
            obtain ⟨eq1, eq2⟩ := hq
            subst eq1
            subst eq2
            refine lv_bipush (v := 48) C.x C.b dX12_reference_111 (by decide) ?_
            refine lv_bipush (v := 57) C.x C.b dX12_reference_113 (by decide) ?_
            refine jr_S (d' := 2) C G jm_X12_in wd1293 (sp_X12_in ⟨rfl, rfl⟩ : ok_X12_in (jhr M25) 48 57 M25 (fun r _ M' => jb (48 ≤ (jhr M25) ∧ (jhr M25) ≤ 57) = r ∧ M25 = M')) rfl rfl rfl (by omega) (by decide) (by decide) ⟨rfl, rfl⟩ hl.1 (Nat.le_of_ble_eq_true rfl) dX12_reference_115 (fun r29 r29n M30 H locs hq G => ?_)
            obtain ⟨eq1, eq2⟩ := hq
            subst eq1
            subst eq2
            refine lv_if_eq (tgt := 144) C.x C.b dX12_reference_118 (by decide) (fun hc => ?_) (fun hc => ?_)
            · have h := h.2 (jb_0 hc)
              refine lv_aload_n C.x C.b dX12_reference_144 rfl (lv_at hl 3 rfl) ?_
              refine lv_aload_n C.x C.b dX12_reference_145 rfl (lv_at hl 3 rfl) ?_
              refine jr_get C G jc11 12 (v := .int (M25 11 0 12)) (show 0 < 1 by decide) (by decide) (by decide) rfl wd1203 dX12_reference_146 ?_
              refine jr_V (d' := 2) C G jc11 jm_X12_bad wd1320 h rfl (show 0 < 1 by decide) (by decide) rfl rfl (by omega) (by decide) (by decide) ⟨rfl, rfl⟩ hl.1 (Nat.le_of_ble_eq_true rfl) dX12_reference_149 (fun r31 r31n M32 H locs h G => ?_)
              obtain ⟨nM32, h⟩ := h
              refine lv_aload_n C.x C.b dX12_reference_152 rfl (lv_at hl 3 rfl) ?_
              refine lv_bipush (v := 93) C.x C.b dX12_reference_153 (by decide) ?_
              refine jr_V (d' := 2) C G jc11 jm_X12_take wd1312 h rfl (show 0 < 1 by decide) (by decide) rfl rfl (by omega) (by decide) (by decide) ⟨rfl, rfl⟩ hl.1 (Nat.le_of_ble_eq_true rfl) dX12_reference_155 (fun r33 r33n M34 H locs h G => ?_)
              obtain ⟨nM34, h⟩ := h
              refine lv_bipush (v := 20) C.x C.b dX12_reference_158 (by decide) ?_
              refine lv_iload_n C.x C.b dX12_reference_160 rfl (lv_at hl 2 rfl) ?_
              refine lv_imul C.x C.b dX12_reference_161 ?_
              refine lv_iload_n C.x C.b dX12_reference_162 rfl (lv_at hl 0 rfl) ?_
              refine lv_iadd C.x C.b dX12_reference_163 ?_
              refine lv_bipush (v := 9) C.x C.b dX12_reference_164 (by decide) ?_
              refine lv_iadd C.x C.b dX12_reference_166 ?_
              exact jr_retI C hr G h (by decide) (by decide) dX12_reference_167
            · have h := h.1 (jb_1 hc)
              refine lv_iload_n C.x C.b dX12_reference_121 rfl (lv_at hl 1 rfl) ?_
              refine lv_aload_n C.x C.b dX12_reference_122 rfl (lv_at hl 3 rfl) ?_
              obtain ⟨hp37, h⟩ := h
              refine jr_V (d' := 2) C G jc11 jm_X12_here wd1316 (sp_X12_here hp37 ⟨rfl, rfl⟩ : ok_X12_here  M25 (fun r _ M' => (jhr M25) = r ∧ M25 = M')) rfl (show 0 < 1 by decide) (by decide) rfl rfl (by omega) (by decide) (by decide) ⟨rfl, rfl⟩ hl.1 (Nat.le_of_ble_eq_true rfl) dX12_reference_123 (fun r35 r35n M36 H locs hq G => ?_)
              obtain ⟨eq1, eq2⟩ := hq
              subst eq1
              subst eq2
              refine lv_bipush (v := 48) C.x C.b dX12_reference_126 (by decide) ?_
              refine lv_isub C.x C.b dX12_reference_128 ?_
              refine lv_imul C.x C.b dX12_reference_129 ?_
              refine lv_istore_n (lv' := [(3, .int ((-1) * ((jhr M25) - 48))), (2, .int (-1)), (1, .int ((jhr M) - 97)), (0, .ref (g 11 0))]) C.x C.b dX12_reference_130 rfl hl (by decide) rfl (fun ls hl => ?_)
              refine lv_aload_n C.x C.b dX12_reference_131 rfl (lv_at hl 3 rfl) ?_
              refine lv_dup C.x C.b dX12_reference_132 rfl ?_
              refine jr_get C G jc11 12 (v := .int (M25 11 0 12)) (show 0 < 1 by decide) (by decide) (by decide) rfl wd1203 dX12_reference_133 ?_
              refine lv_iconst (v := 1) C.x C.b dX12_reference_136 (by decide) ?_
              refine lv_iadd C.x C.b dX12_reference_137 ?_
              refine jr_put C G jc11 12 (v := (M25 11 0 12) + 1) (show 0 < 1 by decide) (by decide) (by decide) rfl (by decide) wd1203 rfl rfl rfl rfl dX12_reference_138 (fun H locs G => ?_)
              obtain ⟨M38, eM38⟩ : ∃ z : jM, z = jup M25 11 0 12 ((M25 11 0 12) + 1) := ⟨_, rfl⟩
              rw [← eM38] at G
              have h := h M38 eM38
              have nM38 : jnb M38 = jnb M25 := by rw [eM38]; exact jnb_up (by decide)
              refine lv_goto (tgt := 152) C.x C.b dX12_reference_141 (by decide) ?_
              refine lv_aload_n C.x C.b dX12_reference_152 rfl (lv_at hl 3 rfl) ?_
              refine lv_bipush (v := 93) C.x C.b dX12_reference_153 (by decide) ?_
              refine jr_V (d' := 2) C G jc11 jm_X12_take wd1312 h rfl (show 0 < 1 by decide) (by decide) rfl rfl (by omega) (by decide) (by decide) ⟨rfl, rfl⟩ hl.1 (Nat.le_of_ble_eq_true rfl) dX12_reference_155 (fun r39 r39n M40 H locs h G => ?_)
              obtain ⟨nM40, h⟩ := h
              refine lv_bipush (v := 20) C.x C.b dX12_reference_158 (by decide) ?_
              refine lv_iload_n C.x C.b dX12_reference_160 rfl (lv_at hl 2 rfl) ?_
              refine lv_imul C.x C.b dX12_reference_161 ?_
              refine lv_iload_n C.x C.b dX12_reference_162 rfl (lv_at hl 0 rfl) ?_
              refine lv_iadd C.x C.b dX12_reference_163 ?_
              refine lv_bipush (v := 9) C.x C.b dX12_reference_164 (by decide) ?_
              refine lv_iadd C.x C.b dX12_reference_166 ?_
              exact jr_retI C hr G h (by decide) (by decide) dX12_reference_167
      · have h := h.1 hc
        refine lv_iconst (v := 1) C.x C.b dX12_reference_65 (by decide) ?_
        refine lv_goto (tgt := 83) C.x C.b dX12_reference_66 (by decide) ?_
        refine lv_istore_n (lv' := [(2, .int 1), (1, .int ((jhr M) - 97)), (0, .ref (g 11 0))]) C.x C.b dX12_reference_83 rfl hl (by decide) rfl (fun ls hl => ?_)
        refine lv_iconst (v := 0) C.x C.b dX12_reference_84 (by decide) ?_
        refine lv_istore_n (lv' := [(3, .int 0), (2, .int 1), (1, .int ((jhr M) - 97)), (0, .ref (g 11 0))]) C.x C.b dX12_reference_85 rfl hl (by decide) rfl (fun ls hl => ?_)
        refine lv_aload_n C.x C.b dX12_reference_86 rfl (lv_at hl 3 rfl) ?_
        refine jr_get C G jc11 13 (v := .int (M12 11 0 13)) (show 0 < 1 by decide) (by decide) (by decide) rfl wd1204 dX12_reference_87 ?_
        refine lv_if_ne (tgt := 152) C.x C.b dX12_reference_90 (by decide) (fun hc => ?_) (fun hc => ?_)
        · have h := h.2 hc
          refine lv_aload_n C.x C.b dX12_reference_152 rfl (lv_at hl 3 rfl) ?_
          refine lv_bipush (v := 93) C.x C.b dX12_reference_153 (by decide) ?_
          refine jr_V (d' := 2) C G jc11 jm_X12_take wd1312 h rfl (show 0 < 1 by decide) (by decide) rfl rfl (by omega) (by decide) (by decide) ⟨rfl, rfl⟩ hl.1 (Nat.le_of_ble_eq_true rfl) dX12_reference_155 (fun r41 r41n M42 H locs h G => ?_)
          obtain ⟨nM42, h⟩ := h
          refine lv_bipush (v := 20) C.x C.b dX12_reference_158 (by decide) ?_
          refine lv_iload_n C.x C.b dX12_reference_160 rfl (lv_at hl 2 rfl) ?_
          refine lv_imul C.x C.b dX12_reference_161 ?_
          refine lv_iload_n C.x C.b dX12_reference_162 rfl (lv_at hl 0 rfl) ?_
          refine lv_iadd C.x C.b dX12_reference_163 ?_
          refine lv_bipush (v := 9) C.x C.b dX12_reference_164 (by decide) ?_
          refine lv_iadd C.x C.b dX12_reference_166 ?_
          exact jr_retI C hr G h (by decide) (by decide) dX12_reference_167
        · have h := h.1 hc
          refine lv_iload_n C.x C.b dX12_reference_93 rfl (lv_at hl 1 rfl) ?_
          refine lv_if_eq (tgt := 152) C.x C.b dX12_reference_94 (by decide) (fun hc => absurd hc (by decide)) (fun _ => ?_)
          refine lv_aload_n C.x C.b dX12_reference_97 rfl (lv_at hl 3 rfl) ?_
          refine lv_dup C.x C.b dX12_reference_98 rfl ?_
          refine jr_get C G jc11 12 (v := .int (M12 11 0 12)) (show 0 < 1 by decide) (by decide) (by decide) rfl wd1203 dX12_reference_99 ?_
          refine lv_iconst (v := 1) C.x C.b dX12_reference_102 (by decide) ?_
          refine lv_iadd C.x C.b dX12_reference_103 ?_
          refine jr_put C G jc11 12 (v := (M12 11 0 12) + 1) (show 0 < 1 by decide) (by decide) (by decide) rfl (by decide) wd1203 rfl rfl rfl rfl dX12_reference_104 (fun H locs G => ?_)
          obtain ⟨M43, eM43⟩ : ∃ z : jM, z = jup M12 11 0 12 ((M12 11 0 12) + 1) := ⟨_, rfl⟩
          rw [← eM43] at G
          have h := h M43 eM43
          have nM43 : jnb M43 = jnb M12 := by rw [eM43]; exact jnb_up (by decide)
          refine lv_aload_n C.x C.b dX12_reference_107 rfl (lv_at hl 3 rfl) ?_
          obtain ⟨hp46, h⟩ := h
          refine jr_V (d' := 2) C G jc11 jm_X12_here wd1316 (sp_X12_here hp46 ⟨rfl, rfl⟩ : ok_X12_here  M43 (fun r _ M' => (jhr M43) = r ∧ M43 = M')) rfl (show 0 < 1 by decide) (by decide) rfl rfl (by omega) (by decide) (by decide) ⟨rfl, rfl⟩ hl.1 (Nat.le_of_ble_eq_true rfl) dX12_reference_108 (fun r44 r44n M45 H locs hq G => ?_)
          obtain ⟨eq1, eq2⟩ := hq
          subst eq1
          subst eq2
          refine lv_bipush (v := 48) C.x C.b dX12_reference_111 (by decide) ?_
          refine lv_bipush (v := 57) C.x C.b dX12_reference_113 (by decide) ?_
          refine jr_S (d' := 2) C G jm_X12_in wd1293 (sp_X12_in ⟨rfl, rfl⟩ : ok_X12_in (jhr M43) 48 57 M43 (fun r _ M' => jb (48 ≤ (jhr M43) ∧ (jhr M43) ≤ 57) = r ∧ M43 = M')) rfl rfl rfl (by omega) (by decide) (by decide) ⟨rfl, rfl⟩ hl.1 (Nat.le_of_ble_eq_true rfl) dX12_reference_115 (fun r47 r47n M48 H locs hq G => ?_)
          obtain ⟨eq1, eq2⟩ := hq
          subst eq1
          subst eq2
          refine lv_if_eq (tgt := 144) C.x C.b dX12_reference_118 (by decide) (fun hc => ?_) (fun hc => ?_)
          · have h := h.2 (jb_0 hc)
            refine lv_aload_n C.x C.b dX12_reference_144 rfl (lv_at hl 3 rfl) ?_
            refine lv_aload_n C.x C.b dX12_reference_145 rfl (lv_at hl 3 rfl) ?_
            refine jr_get C G jc11 12 (v := .int (M43 11 0 12)) (show 0 < 1 by decide) (by decide) (by decide) rfl wd1203 dX12_reference_146 ?_
            refine jr_V (d' := 2) C G jc11 jm_X12_bad wd1320 h rfl (show 0 < 1 by decide) (by decide) rfl rfl (by omega) (by decide) (by decide) ⟨rfl, rfl⟩ hl.1 (Nat.le_of_ble_eq_true rfl) dX12_reference_149 (fun r49 r49n M50 H locs h G => ?_)
            obtain ⟨nM50, h⟩ := h
            refine lv_aload_n C.x C.b dX12_reference_152 rfl (lv_at hl 3 rfl) ?_
            refine lv_bipush (v := 93) C.x C.b dX12_reference_153 (by decide) ?_
            refine jr_V (d' := 2) C G jc11 jm_X12_take wd1312 h rfl (show 0 < 1 by decide) (by decide) rfl rfl (by omega) (by decide) (by decide) ⟨rfl, rfl⟩ hl.1 (Nat.le_of_ble_eq_true rfl) dX12_reference_155 (fun r51 r51n M52 H locs h G => ?_)
            obtain ⟨nM52, h⟩ := h
            refine lv_bipush (v := 20) C.x C.b dX12_reference_158 (by decide) ?_
            refine lv_iload_n C.x C.b dX12_reference_160 rfl (lv_at hl 2 rfl) ?_
            refine lv_imul C.x C.b dX12_reference_161 ?_
            refine lv_iload_n C.x C.b dX12_reference_162 rfl (lv_at hl 0 rfl) ?_
            refine lv_iadd C.x C.b dX12_reference_163 ?_
            refine lv_bipush (v := 9) C.x C.b dX12_reference_164 (by decide) ?_
            refine lv_iadd C.x C.b dX12_reference_166 ?_
            exact jr_retI C hr G h (by decide) (by decide) dX12_reference_167
          · have h := h.1 (jb_1 hc)
            refine lv_iload_n C.x C.b dX12_reference_121 rfl (lv_at hl 1 rfl) ?_
            refine lv_aload_n C.x C.b dX12_reference_122 rfl (lv_at hl 3 rfl) ?_
            obtain ⟨hp55, h⟩ := h
            refine jr_V (d' := 2) C G jc11 jm_X12_here wd1316 (sp_X12_here hp55 ⟨rfl, rfl⟩ : ok_X12_here  M43 (fun r _ M' => (jhr M43) = r ∧ M43 = M')) rfl (show 0 < 1 by decide) (by decide) rfl rfl (by omega) (by decide) (by decide) ⟨rfl, rfl⟩ hl.1 (Nat.le_of_ble_eq_true rfl) dX12_reference_123 (fun r53 r53n M54 H locs hq G => ?_)
            obtain ⟨eq1, eq2⟩ := hq
            subst eq1
            subst eq2
            refine lv_bipush (v := 48) C.x C.b dX12_reference_126 (by decide) ?_
            refine lv_isub C.x C.b dX12_reference_128 ?_
            refine lv_imul C.x C.b dX12_reference_129 ?_
            refine lv_istore_n (lv' := [(3, .int (1 * ((jhr M43) - 48))), (2, .int 1), (1, .int ((jhr M) - 97)), (0, .ref (g 11 0))]) C.x C.b dX12_reference_130 rfl hl (by decide) rfl (fun ls hl => ?_)
            refine lv_aload_n C.x C.b dX12_reference_131 rfl (lv_at hl 3 rfl) ?_
            refine lv_dup C.x C.b dX12_reference_132 rfl ?_
            refine jr_get C G jc11 12 (v := .int (M43 11 0 12)) (show 0 < 1 by decide) (by decide) (by decide) rfl wd1203 dX12_reference_133 ?_
            refine lv_iconst (v := 1) C.x C.b dX12_reference_136 (by decide) ?_
            refine lv_iadd C.x C.b dX12_reference_137 ?_
            refine jr_put C G jc11 12 (v := (M43 11 0 12) + 1) (show 0 < 1 by decide) (by decide) (by decide) rfl (by decide) wd1203 rfl rfl rfl rfl dX12_reference_138 (fun H locs G => ?_)
            obtain ⟨M56, eM56⟩ : ∃ z : jM, z = jup M43 11 0 12 ((M43 11 0 12) + 1) := ⟨_, rfl⟩
            rw [← eM56] at G
            have h := h M56 eM56
            have nM56 : jnb M56 = jnb M43 := by rw [eM56]; exact jnb_up (by decide)
            refine lv_goto (tgt := 152) C.x C.b dX12_reference_141 (by decide) ?_
            refine lv_aload_n C.x C.b dX12_reference_152 rfl (lv_at hl 3 rfl) ?_
            refine lv_bipush (v := 93) C.x C.b dX12_reference_153 (by decide) ?_
            refine jr_V (d' := 2) C G jc11 jm_X12_take wd1312 h rfl (show 0 < 1 by decide) (by decide) rfl rfl (by omega) (by decide) (by decide) ⟨rfl, rfl⟩ hl.1 (Nat.le_of_ble_eq_true rfl) dX12_reference_155 (fun r57 r57n M58 H locs h G => ?_)
            obtain ⟨nM58, h⟩ := h
            refine lv_bipush (v := 20) C.x C.b dX12_reference_158 (by decide) ?_
            refine lv_iload_n C.x C.b dX12_reference_160 rfl (lv_at hl 2 rfl) ?_
            refine lv_imul C.x C.b dX12_reference_161 ?_
            refine lv_iload_n C.x C.b dX12_reference_162 rfl (lv_at hl 0 rfl) ?_
            refine lv_iadd C.x C.b dX12_reference_163 ?_
            refine lv_bipush (v := 9) C.x C.b dX12_reference_164 (by decide) ?_
            refine lv_iadd C.x C.b dX12_reference_166 ?_
            exact jr_retI C hr G h (by decide) (by decide) dX12_reference_167
    · have h := h.2 (jb_0 hc)
      refine lv_aload_n C.x C.b dX12_reference_24 rfl (lv_at hl 1 rfl) ?_
      refine lv_aload_n C.x C.b dX12_reference_25 rfl (lv_at hl 1 rfl) ?_
      refine jr_get C G jc11 12 (v := .int (M 11 0 12)) (show 0 < 1 by decide) (by decide) (by decide) rfl wd1203 dX12_reference_26 ?_
      refine jr_V (d' := 2) C G jc11 jm_X12_bad wd1320 h rfl (show 0 < 1 by decide) (by decide) rfl rfl (by omega) (by decide) (by decide) ⟨rfl, rfl⟩ hl.1 (Nat.le_of_ble_eq_true rfl) dX12_reference_29 (fun r59 r59n M60 H locs h G => ?_)
      obtain ⟨nM60, h⟩ := h
      refine lv_iconst (v := (-1)) C.x C.b dX12_reference_32 (by decide) ?_
      exact jr_retI C hr G h (by decide) (by decide) dX12_reference_33

theorem en_X12_settle {v1 : Int32} {M : jM} {Q : Int32 → Nat → jM → Prop} (h : at_X12_settle_0 v1 M Q) : ok_X12_settle v1 M Q := jr_enter (by decide) (fun g => rfl) (fun g => Nat.le_of_ble_eq_true rfl) h
set_option maxHeartbeats 4000000 in
set_option maxRecDepth 100000 in
theorem bl_X12_settle_0 (v1 : Int32) (M : jM) (Q : Int32 → Nat → jM → Prop) 
  (h : ((M 11 0 17) ≤ 0 → Q 0 0 M) ∧ (¬ ((M 11 0 17) ≤ 0) → vp_in ((M 11 0 17) - 1) 120 ∧ (M 56 0 ((M 11 0 17) - 1).toNatClampNeg = 0 → Q 0 0 M) ∧ (¬ (M 56 0 ((M 11 0 17) - 1).toNatClampNeg = 0) → (v1 = 0 → (∀ M1 : jM, M1 = jup M 11 0 17 ((M 11 0 17) - 1) → vp_in (M1 11 0 17) 120 ∧ ok_X12_token (M1 56 0 (M1 11 0 17).toNatClampNeg) M1 (fun _ _ M3 => jnb M3 = jnb M1 ∧ at_X12_settle_0 v1 M3 Q))) ∧ (¬ (v1 = 0) → vp_in ((M 11 0 17) - 1) 120 ∧ (M 56 0 ((M 11 0 17) - 1).toNatClampNeg = 103 → (∀ M4 : jM, M4 = jup M 11 0 17 ((M 11 0 17) - 1) → vp_in (M4 11 0 17) 120 ∧ ok_X12_token (M4 56 0 (M4 11 0 17).toNatClampNeg) M4 (fun _ _ M6 => jnb M6 = jnb M4 ∧ at_X12_settle_0 v1 M6 Q))) ∧ (¬ (M 56 0 ((M 11 0 17) - 1).toNatClampNeg = 103) → Q 0 0 M))))) :
  at_X12_settle_0 v1 M Q := by
  intro p l e s m args below meth c D cA base g C hr htb H locs G ls hl
  refine lv_aload_n C.x C.b dX12_settle_0 rfl (lv_at hl 0 rfl) ?_
  refine jr_get C G jc11 17 (v := .int (M 11 0 17)) (show 0 < 1 by decide) (by decide) (by decide) rfl wd1208 dX12_settle_1 ?_
  refine lv_if_le (tgt := 67) C.x C.b dX12_settle_4 (by decide) (fun hc => ?_) (fun hc => ?_)
  · have h := h.1 hc
    exact jr_retV C hr G h (by decide) (by decide) dX12_settle_67
  · have h := h.2 hc
    refine lv_aload_n C.x C.b dX12_settle_7 rfl (lv_at hl 0 rfl) ?_
    refine jr_get C G jc11 16 (v := .ref (g 56 0)) (show 0 < 1 by decide) (by decide) (by decide) rfl wd1207 dX12_settle_8 ?_
    refine lv_aload_n C.x C.b dX12_settle_11 rfl (lv_at hl 0 rfl) ?_
    refine jr_get C G jc11 17 (v := .int (M 11 0 17)) (show 0 < 1 by decide) (by decide) (by decide) rfl wd1208 dX12_settle_12 ?_
    refine lv_iconst (v := 1) C.x C.b dX12_settle_15 (by decide) ?_
    refine lv_isub C.x C.b dX12_settle_16 ?_
    obtain ⟨hs, h⟩ := h
    refine jr_ald C G (show 0 < 1 by decide) (by decide) (by decide) (by decide) rfl rfl hs dX12_settle_17 ?_
    refine lv_if_eq (tgt := 67) C.x C.b dX12_settle_18 (by decide) (fun hc => ?_) (fun hc => ?_)
    · have h := h.1 hc
      exact jr_retV C hr G h (by decide) (by decide) dX12_settle_67
    · have h := h.2 hc
      refine lv_iload_n C.x C.b dX12_settle_21 rfl (lv_at hl 1 rfl) ?_
      refine lv_if_eq (tgt := 41) C.x C.b dX12_settle_22 (by decide) (fun hc => ?_) (fun hc => ?_)
      · have h := h.1 hc
        refine lv_aload_n C.x C.b dX12_settle_41 rfl (lv_at hl 0 rfl) ?_
        refine lv_dup C.x C.b dX12_settle_42 rfl ?_
        refine jr_get C G jc11 17 (v := .int (M 11 0 17)) (show 0 < 1 by decide) (by decide) (by decide) rfl wd1208 dX12_settle_43 ?_
        refine lv_iconst (v := 1) C.x C.b dX12_settle_46 (by decide) ?_
        refine lv_isub C.x C.b dX12_settle_47 ?_
        refine jr_put C G jc11 17 (v := (M 11 0 17) - 1) (show 0 < 1 by decide) (by decide) (by decide) rfl (by decide) wd1208 rfl rfl rfl rfl dX12_settle_48 (fun H locs G => ?_)
        obtain ⟨M1, eM1⟩ : ∃ z : jM, z = jup M 11 0 17 ((M 11 0 17) - 1) := ⟨_, rfl⟩
        rw [← eM1] at G
        have h := h M1 eM1
        have nM1 : jnb M1 = jnb M := by rw [eM1]; exact jnb_up (by decide)
        refine lv_aload_n C.x C.b dX12_settle_51 rfl (lv_at hl 0 rfl) ?_
        refine lv_aload_n C.x C.b dX12_settle_52 rfl (lv_at hl 0 rfl) ?_
        refine jr_get C G jc11 16 (v := .ref (g 56 0)) (show 0 < 1 by decide) (by decide) (by decide) rfl wd1207 dX12_settle_53 ?_
        refine lv_aload_n C.x C.b dX12_settle_56 rfl (lv_at hl 0 rfl) ?_
        refine jr_get C G jc11 17 (v := .int (M1 11 0 17)) (show 0 < 1 by decide) (by decide) (by decide) rfl wd1208 dX12_settle_57 ?_
        obtain ⟨hs, h⟩ := h
        refine jr_ald C G (show 0 < 1 by decide) (by decide) (by decide) (by decide) rfl rfl hs dX12_settle_60 ?_
        refine jr_V (d' := 2) C G jc11 jm_X12_token wd1352 h rfl (show 0 < 1 by decide) (by decide) rfl rfl (by omega) (by decide) (by decide) ⟨rfl, rfl⟩ hl.1 (Nat.le_of_ble_eq_true rfl) dX12_settle_61 (fun r2 r2n M3 H locs h G => ?_)
        obtain ⟨nM3, h⟩ := h
        refine lv_goto (tgt := 0) C.x C.b dX12_settle_64 (by decide) ?_
        exact h p l e s m args below meth c D cA base g C hr htb _ _ G ls (lv_sub hl [0, 1] rfl)
      · have h := h.2 hc
        refine lv_aload_n C.x C.b dX12_settle_25 rfl (lv_at hl 0 rfl) ?_
        refine jr_get C G jc11 16 (v := .ref (g 56 0)) (show 0 < 1 by decide) (by decide) (by decide) rfl wd1207 dX12_settle_26 ?_
        refine lv_aload_n C.x C.b dX12_settle_29 rfl (lv_at hl 0 rfl) ?_
        refine jr_get C G jc11 17 (v := .int (M 11 0 17)) (show 0 < 1 by decide) (by decide) (by decide) rfl wd1208 dX12_settle_30 ?_
        refine lv_iconst (v := 1) C.x C.b dX12_settle_33 (by decide) ?_
        refine lv_isub C.x C.b dX12_settle_34 ?_
        obtain ⟨hs, h⟩ := h
        refine jr_ald C G (show 0 < 1 by decide) (by decide) (by decide) (by decide) rfl rfl hs dX12_settle_35 ?_
        refine lv_bipush (v := 103) C.x C.b dX12_settle_36 (by decide) ?_
        refine lv_icmp_ne (tgt := 67) C.x C.b dX12_settle_38 (by decide) (fun hc => ?_) (fun hc => ?_)
        · have h := h.2 hc
          exact jr_retV C hr G h (by decide) (by decide) dX12_settle_67
        · have h := h.1 hc
          refine lv_aload_n C.x C.b dX12_settle_41 rfl (lv_at hl 0 rfl) ?_
          refine lv_dup C.x C.b dX12_settle_42 rfl ?_
          refine jr_get C G jc11 17 (v := .int (M 11 0 17)) (show 0 < 1 by decide) (by decide) (by decide) rfl wd1208 dX12_settle_43 ?_
          refine lv_iconst (v := 1) C.x C.b dX12_settle_46 (by decide) ?_
          refine lv_isub C.x C.b dX12_settle_47 ?_
          refine jr_put C G jc11 17 (v := (M 11 0 17) - 1) (show 0 < 1 by decide) (by decide) (by decide) rfl (by decide) wd1208 rfl rfl rfl rfl dX12_settle_48 (fun H locs G => ?_)
          obtain ⟨M4, eM4⟩ : ∃ z : jM, z = jup M 11 0 17 ((M 11 0 17) - 1) := ⟨_, rfl⟩
          rw [← eM4] at G
          have h := h M4 eM4
          have nM4 : jnb M4 = jnb M := by rw [eM4]; exact jnb_up (by decide)
          refine lv_aload_n C.x C.b dX12_settle_51 rfl (lv_at hl 0 rfl) ?_
          refine lv_aload_n C.x C.b dX12_settle_52 rfl (lv_at hl 0 rfl) ?_
          refine jr_get C G jc11 16 (v := .ref (g 56 0)) (show 0 < 1 by decide) (by decide) (by decide) rfl wd1207 dX12_settle_53 ?_
          refine lv_aload_n C.x C.b dX12_settle_56 rfl (lv_at hl 0 rfl) ?_
          refine jr_get C G jc11 17 (v := .int (M4 11 0 17)) (show 0 < 1 by decide) (by decide) (by decide) rfl wd1208 dX12_settle_57 ?_
          obtain ⟨hs, h⟩ := h
          refine jr_ald C G (show 0 < 1 by decide) (by decide) (by decide) (by decide) rfl rfl hs dX12_settle_60 ?_
          refine jr_V (d' := 2) C G jc11 jm_X12_token wd1352 h rfl (show 0 < 1 by decide) (by decide) rfl rfl (by omega) (by decide) (by decide) ⟨rfl, rfl⟩ hl.1 (Nat.le_of_ble_eq_true rfl) dX12_settle_61 (fun r5 r5n M6 H locs h G => ?_)
          obtain ⟨nM6, h⟩ := h
          refine lv_goto (tgt := 0) C.x C.b dX12_settle_64 (by decide) ?_
          exact h p l e s m args below meth c D cA base g C hr htb _ _ G ls (lv_sub hl [0, 1] rfl)

theorem en_X12_removeLoop {v1 : Int32} {M : jM} {Q : Int32 → Nat → jM → Prop} (h : at_X12_removeLoop_0 v1 M Q) : ok_X12_removeLoop v1 M Q := jr_enter (by decide) (fun g => rfl) (fun g => Nat.le_of_ble_eq_true rfl) h
set_option maxHeartbeats 4000000 in
set_option maxRecDepth 100000 in
theorem bl_X12_removeLoop_0 (v1 : Int32) (M : jM) (Q : Int32 → Nat → jM → Prop) 
  (h : (∀ M1 : jM, M1 = jup M 11 0 7 0 → ((0 ≤ v1 ∧ v1 ≤ M1 11 0 0 - 1) → (∀ M4 : jM, M4 = jup M1 11 0 0 ((M1 11 0 0) - 1) → at_X12_removeLoop_35 (585 * v1) M4 Q)) ∧ (¬ (0 ≤ v1 ∧ v1 ≤ M1 11 0 0 - 1) → (∀ M6 : jM, M6 = jup M1 11 0 7 1 → Q 0 0 M6)))) :
  at_X12_removeLoop_0 v1 M Q := by
  intro p l e s m args below meth c D cA base g C hr htb H locs G ls hl
  refine lv_aload_n C.x C.b dX12_removeLoop_0 rfl (lv_at hl 0 rfl) ?_
  refine lv_iconst (v := 0) C.x C.b dX12_removeLoop_1 (by decide) ?_
  refine jr_put C G jc11 7 (v := 0) (show 0 < 1 by decide) (by decide) (by decide) rfl (by decide) wd1198 rfl rfl rfl rfl dX12_removeLoop_2 (fun H locs G => ?_)
  obtain ⟨M1, eM1⟩ : ∃ z : jM, z = jup M 11 0 7 0 := ⟨_, rfl⟩
  rw [← eM1] at G
  have h := h M1 eM1
  have nM1 : jnb M1 = jnb M := by rw [eM1]; exact jnb_up (by decide)
  refine lv_aload_n C.x C.b dX12_removeLoop_5 rfl (lv_at hl 0 rfl) ?_
  refine lv_iload_n C.x C.b dX12_removeLoop_6 rfl (lv_at hl 1 rfl) ?_
  refine jr_V (d' := 2) C G jc11 jm_X12_isLoop wd1372 (sp_X12_isLoop ⟨rfl, rfl⟩ : ok_X12_isLoop v1 M1 (fun r _ M' => jb (0 ≤ v1 ∧ v1 ≤ M1 11 0 0 - 1) = r ∧ M1 = M')) rfl (show 0 < 1 by decide) (by decide) rfl rfl (by omega) (by decide) (by decide) ⟨rfl, rfl⟩ hl.1 (Nat.le_of_ble_eq_true rfl) dX12_removeLoop_7 (fun r2 r2n M3 H locs hq G => ?_)
  obtain ⟨eq1, eq2⟩ := hq
  subst eq1
  subst eq2
  refine lv_if_ne (tgt := 19) C.x C.b dX12_removeLoop_10 (by decide) (fun hc => ?_) (fun hc => ?_)
  · have h := h.1 (jb_1 hc)
    refine lv_aload_n C.x C.b dX12_removeLoop_19 rfl (lv_at hl 0 rfl) ?_
    refine lv_dup C.x C.b dX12_removeLoop_20 rfl ?_
    refine jr_get C G jc11 0 (v := .int (M1 11 0 0)) (show 0 < 1 by decide) (by decide) (by decide) rfl wd1191 dX12_removeLoop_21 ?_
    refine lv_iconst (v := 1) C.x C.b dX12_removeLoop_24 (by decide) ?_
    refine lv_isub C.x C.b dX12_removeLoop_25 ?_
    refine jr_put C G jc11 0 (v := (M1 11 0 0) - 1) (show 0 < 1 by decide) (by decide) (by decide) rfl (by decide) wd1191 rfl rfl rfl rfl dX12_removeLoop_26 (fun H locs G => ?_)
    obtain ⟨M4, eM4⟩ : ∃ z : jM, z = jup M1 11 0 0 ((M1 11 0 0) - 1) := ⟨_, rfl⟩
    rw [← eM4] at G
    have h := h M4 eM4
    have nM4 : jnb M4 = jnb M1 := by rw [eM4]; exact jnb_up (by decide)
    refine lv_sipush (v := 585) C.x C.b dX12_removeLoop_29 (by decide) ?_
    refine lv_iload_n C.x C.b dX12_removeLoop_32 rfl (lv_at hl 1 rfl) ?_
    refine lv_imul C.x C.b dX12_removeLoop_33 ?_
    refine lv_istore_n (lv' := [(2, .int (585 * v1)), (0, .ref (g 11 0)), (1, .int v1)]) C.x C.b dX12_removeLoop_34 rfl hl (by decide) rfl (fun ls hl => ?_)
    exact h p l e s m args below meth c D cA base g C hr htb _ _ G ls (lv_sub hl [1, 0] rfl)
  · have h := h.2 (jb_0 hc)
    refine lv_aload_n C.x C.b dX12_removeLoop_13 rfl (lv_at hl 0 rfl) ?_
    refine lv_iconst (v := 1) C.x C.b dX12_removeLoop_14 (by decide) ?_
    refine jr_V (d' := 2) C G jc11 jm_X12_refuse wd1296 (sp_X12_refuse ⟨rfl, rfl⟩ : ok_X12_refuse 1 M1 (fun r _ M' => 0 = r ∧ M' = jup M1 11 0 7 1)) rfl (show 0 < 1 by decide) (by decide) rfl rfl (by omega) (by decide) (by decide) ⟨rfl, rfl⟩ hl.1 (Nat.le_of_ble_eq_true rfl) dX12_removeLoop_15 (fun r5 r5n M6 H locs hq G => ?_)
    obtain ⟨eq1, eM6⟩ := hq
    subst eq1
    have h := h M6 eM6
    have nM6 : jnb M6 = jnb M1 := by rw [eM6]; first | exact jnb_up (by decide) | simp [jnb_up]
    exact jr_retI C hr G h (by decide) (by decide) dX12_removeLoop_18
set_option maxHeartbeats 4000000 in
set_option maxRecDepth 100000 in
theorem bl_X12_removeLoop_35 (v2 : Int32) (M : jM) (Q : Int32 → Nat → jM → Prop) 
  (h : ((585 * (M 11 0 0)) ≤ v2 → Q (M 11 0 0) 0 M) ∧ (¬ ((585 * (M 11 0 0)) ≤ v2) → vp_in (v2 + 585) 3510 ∧ vp_in v2 3510 ∧ (∀ M1 : jM, M1 = jup M 50 0 v2.toNatClampNeg (M 50 0 (v2 + 585).toNatClampNeg) → at_X12_removeLoop_35 (v2 + 1) M1 Q))) :
  at_X12_removeLoop_35 v2 M Q := by
  intro p l e s m args below meth c D cA base g C hr htb H locs G ls hl
  refine lv_iload_n C.x C.b dX12_removeLoop_35 rfl (lv_at hl 1 rfl) ?_
  refine lv_sipush (v := 585) C.x C.b dX12_removeLoop_36 (by decide) ?_
  refine lv_aload_n C.x C.b dX12_removeLoop_39 rfl (lv_at hl 0 rfl) ?_
  refine jr_get C G jc11 0 (v := .int (M 11 0 0)) (show 0 < 1 by decide) (by decide) (by decide) rfl wd1191 dX12_removeLoop_40 ?_
  refine lv_imul C.x C.b dX12_removeLoop_43 ?_
  refine lv_icmp_ge (tgt := 69) C.x C.b dX12_removeLoop_44 (by decide) (fun hc => ?_) (fun hc => ?_)
  · have h := h.1 hc
    refine lv_aload_n C.x C.b dX12_removeLoop_69 rfl (lv_at hl 0 rfl) ?_
    refine jr_get C G jc11 0 (v := .int (M 11 0 0)) (show 0 < 1 by decide) (by decide) (by decide) rfl wd1191 dX12_removeLoop_70 ?_
    exact jr_retI C hr G h (by decide) (by decide) dX12_removeLoop_73
  · have h := h.2 hc
    refine lv_aload_n C.x C.b dX12_removeLoop_47 rfl (lv_at hl 0 rfl) ?_
    refine jr_get C G jc11 1 (v := .ref (g 50 0)) (show 0 < 1 by decide) (by decide) (by decide) rfl wd1192 dX12_removeLoop_48 ?_
    refine lv_iload_n C.x C.b dX12_removeLoop_51 rfl (lv_at hl 1 rfl) ?_
    refine lv_aload_n C.x C.b dX12_removeLoop_52 rfl (lv_at hl 0 rfl) ?_
    refine jr_get C G jc11 1 (v := .ref (g 50 0)) (show 0 < 1 by decide) (by decide) (by decide) rfl wd1192 dX12_removeLoop_53 ?_
    refine lv_iload_n C.x C.b dX12_removeLoop_56 rfl (lv_at hl 1 rfl) ?_
    refine lv_sipush (v := 585) C.x C.b dX12_removeLoop_57 (by decide) ?_
    refine lv_iadd C.x C.b dX12_removeLoop_60 ?_
    obtain ⟨hs, h⟩ := h
    refine jr_ald C G (show 0 < 1 by decide) (by decide) (by decide) (by decide) rfl rfl hs dX12_removeLoop_61 ?_
    obtain ⟨hs, h⟩ := h
    refine jr_ast C G (show 0 < 1 by decide) (by decide) (by decide) (by decide) rfl rfl hs dX12_removeLoop_62 (fun H locs G => ?_)
    obtain ⟨M1, eM1⟩ : ∃ z : jM, z = jup M 50 0 v2.toNatClampNeg (M 50 0 (v2 + 585).toNatClampNeg) := ⟨_, rfl⟩
    rw [← eM1] at G
    have h := h M1 eM1
    have nM1 : jnb M1 = jnb M := by rw [eM1]; exact jnb_up (by decide)
    refine lv_iinc (v := v2 + 1) (lv' := [(2, .int (v2 + 1)), (0, .ref (g 11 0))]) C.x C.b dX12_removeLoop_63 hl (k := 1) rfl rfl (by decide) rfl (fun ls hl => ?_)
    refine lv_goto (tgt := 35) C.x C.b dX12_removeLoop_66 (by decide) ?_
    exact h p l e s m args below meth c D cA base g C hr htb _ _ G ls (lv_sub hl [1, 0] rfl)

theorem en_X12_bound {v1 : Int32} {v2 : Int32} {M : jM} {Q : Int32 → Nat → jM → Prop} (h : at_X12_bound_0 v1 v2 M Q) : ok_X12_bound v1 v2 M Q := jr_enter (by decide) (fun g => rfl) (fun g => Nat.le_of_ble_eq_true rfl) h
set_option maxHeartbeats 4000000 in
set_option maxRecDepth 100000 in
theorem bl_X12_bound_0 (v1 : Int32) (v2 : Int32) (M : jM) (Q : Int32 → Nat → jM → Prop) 
  (h : (∀ M1 : jM, M1 = jup M 11 0 7 0 → ((0 ≤ v1 ∧ v1 ≤ M1 11 0 0 - 1) → ((0 ≤ v2 ∧ v2 ≤ 1) → (vp_in (585 * v1 + v2) 3510) ∧ Q (M1 50 0 (585 * v1 + v2).toNatClampNeg) 0 M1) ∧ (¬ (0 ≤ v2 ∧ v2 ≤ 1) → (∀ M7 : jM, M7 = jup M1 11 0 7 2 → Q 0 0 M7))) ∧ (¬ (0 ≤ v1 ∧ v1 ≤ M1 11 0 0 - 1) → (∀ M12 : jM, M12 = jup M1 11 0 7 1 → Q 0 0 M12)))) :
  at_X12_bound_0 v1 v2 M Q := by
  intro p l e s m args below meth c D cA base g C hr htb H locs G ls hl
  refine lv_aload_n C.x C.b dX12_bound_0 rfl (lv_at hl 0 rfl) ?_
  refine lv_iconst (v := 0) C.x C.b dX12_bound_1 (by decide) ?_
  refine jr_put C G jc11 7 (v := 0) (show 0 < 1 by decide) (by decide) (by decide) rfl (by decide) wd1198 rfl rfl rfl rfl dX12_bound_2 (fun H locs G => ?_)
  obtain ⟨M1, eM1⟩ : ∃ z : jM, z = jup M 11 0 7 0 := ⟨_, rfl⟩
  rw [← eM1] at G
  have h := h M1 eM1
  have nM1 : jnb M1 = jnb M := by rw [eM1]; exact jnb_up (by decide)
  refine lv_aload_n C.x C.b dX12_bound_5 rfl (lv_at hl 0 rfl) ?_
  refine lv_iload_n C.x C.b dX12_bound_6 rfl (lv_at hl 1 rfl) ?_
  refine jr_V (d' := 2) C G jc11 jm_X12_isLoop wd1372 (sp_X12_isLoop ⟨rfl, rfl⟩ : ok_X12_isLoop v1 M1 (fun r _ M' => jb (0 ≤ v1 ∧ v1 ≤ M1 11 0 0 - 1) = r ∧ M1 = M')) rfl (show 0 < 1 by decide) (by decide) rfl rfl (by omega) (by decide) (by decide) ⟨rfl, rfl⟩ hl.1 (Nat.le_of_ble_eq_true rfl) dX12_bound_7 (fun r2 r2n M3 H locs hq G => ?_)
  obtain ⟨eq1, eq2⟩ := hq
  subst eq1
  subst eq2
  refine lv_if_ne (tgt := 19) C.x C.b dX12_bound_10 (by decide) (fun hc => ?_) (fun hc => ?_)
  · have h := h.1 (jb_1 hc)
    refine lv_iload_n C.x C.b dX12_bound_19 rfl (lv_at hl 2 rfl) ?_
    refine lv_iconst (v := 0) C.x C.b dX12_bound_20 (by decide) ?_
    refine lv_iconst (v := 1) C.x C.b dX12_bound_21 (by decide) ?_
    refine jr_S (d' := 2) C G jm_X12_in wd1293 (sp_X12_in ⟨rfl, rfl⟩ : ok_X12_in v2 0 1 M1 (fun r _ M' => jb (0 ≤ v2 ∧ v2 ≤ 1) = r ∧ M1 = M')) rfl rfl rfl (by omega) (by decide) (by decide) ⟨rfl, rfl⟩ hl.1 (Nat.le_of_ble_eq_true rfl) dX12_bound_22 (fun r4 r4n M5 H locs hq G => ?_)
    obtain ⟨eq1, eq2⟩ := hq
    subst eq1
    subst eq2
    refine lv_if_eq (tgt := 37) C.x C.b dX12_bound_25 (by decide) (fun hc => ?_) (fun hc => ?_)
    · have h := h.2 (jb_0 hc)
      refine lv_aload_n C.x C.b dX12_bound_37 rfl (lv_at hl 0 rfl) ?_
      refine lv_iconst (v := 2) C.x C.b dX12_bound_38 (by decide) ?_
      refine jr_V (d' := 2) C G jc11 jm_X12_refuse wd1296 (sp_X12_refuse ⟨rfl, rfl⟩ : ok_X12_refuse 2 M1 (fun r _ M' => 0 = r ∧ M' = jup M1 11 0 7 2)) rfl (show 0 < 1 by decide) (by decide) rfl rfl (by omega) (by decide) (by decide) ⟨rfl, rfl⟩ hl.1 (Nat.le_of_ble_eq_true rfl) dX12_bound_39 (fun r6 r6n M7 H locs hq G => ?_)
      obtain ⟨eq1, eM7⟩ := hq
      subst eq1
      have h := h M7 eM7
      have nM7 : jnb M7 = jnb M1 := by rw [eM7]; first | exact jnb_up (by decide) | simp [jnb_up]
      exact jr_retI C hr G h (by decide) (by decide) dX12_bound_42
    · have h := h.1 (jb_1 hc)
      refine lv_aload_n C.x C.b dX12_bound_28 rfl (lv_at hl 0 rfl) ?_
      refine lv_iload_n C.x C.b dX12_bound_29 rfl (lv_at hl 1 rfl) ?_
      refine lv_iload_n C.x C.b dX12_bound_30 rfl (lv_at hl 2 rfl) ?_
      obtain ⟨hp10, h⟩ := h
      refine jr_V (d' := 2) C G jc11 jm_X12_of wd1384 (sp_X12_of hp10 ⟨rfl, rfl⟩ : ok_X12_of v1 v2 M1 (fun r _ M' => (M1 50 0 (585 * v1 + v2).toNatClampNeg) = r ∧ M1 = M')) rfl (show 0 < 1 by decide) (by decide) rfl rfl (by omega) (by decide) (by decide) ⟨rfl, rfl⟩ hl.1 (Nat.le_of_ble_eq_true rfl) dX12_bound_31 (fun r8 r8n M9 H locs hq G => ?_)
      obtain ⟨eq1, eq2⟩ := hq
      subst eq1
      subst eq2
      refine lv_goto (tgt := 42) C.x C.b dX12_bound_34 (by decide) ?_
      exact jr_retI C hr G h (by decide) (by decide) dX12_bound_42
  · have h := h.2 (jb_0 hc)
    refine lv_aload_n C.x C.b dX12_bound_13 rfl (lv_at hl 0 rfl) ?_
    refine lv_iconst (v := 1) C.x C.b dX12_bound_14 (by decide) ?_
    refine jr_V (d' := 2) C G jc11 jm_X12_refuse wd1296 (sp_X12_refuse ⟨rfl, rfl⟩ : ok_X12_refuse 1 M1 (fun r _ M' => 0 = r ∧ M' = jup M1 11 0 7 1)) rfl (show 0 < 1 by decide) (by decide) rfl rfl (by omega) (by decide) (by decide) ⟨rfl, rfl⟩ hl.1 (Nat.le_of_ble_eq_true rfl) dX12_bound_15 (fun r11 r11n M12 H locs hq G => ?_)
    obtain ⟨eq1, eM12⟩ := hq
    subst eq1
    have h := h M12 eM12
    have nM12 : jnb M12 = jnb M1 := by rw [eM12]; first | exact jnb_up (by decide) | simp [jnb_up]
    exact jr_retI C hr G h (by decide) (by decide) dX12_bound_18

theorem en_X12_setBound {v1 : Int32} {v2 : Int32} {v3 : Int32} {M : jM} {Q : Int32 → Nat → jM → Prop} (h : at_X12_setBound_0 v1 v2 v3 M Q) : ok_X12_setBound v1 v2 v3 M Q := jr_enter (by decide) (fun g => rfl) (fun g => Nat.le_of_ble_eq_true rfl) h
set_option maxHeartbeats 4000000 in
set_option maxRecDepth 100000 in
theorem bl_X12_setBound_0 (v1 : Int32) (v2 : Int32) (v3 : Int32) (M : jM) (Q : Int32 → Nat → jM → Prop) 
  (h : (∀ M1 : jM, M1 = jup M 11 0 7 0 → ((0 ≤ v1 ∧ v1 ≤ M1 11 0 0 - 1) → (v2 = 0 → (vp_in (585 * v1 + 1) 3510) ∧ ((0 ≤ v3 ∧ v3 ≤ (M1 50 0 (585 * v1 + 1).toNatClampNeg)) → (vp_in (585 * v1 + v2) 3510) ∧ vp_in ((585 * v1) + v2) 3510 ∧ (∀ M25 : jM, M25 = jup M1 50 0 ((585 * v1) + v2).toNatClampNeg v3 → Q (M1 50 0 (585 * v1 + v2).toNatClampNeg) 0 M25)) ∧ (¬ (0 ≤ v3 ∧ v3 ≤ (M1 50 0 (585 * v1 + 1).toNatClampNeg)) → (∀ M27 : jM, M27 = jup M1 11 0 7 2 → Q 0 0 M27))) ∧ (¬ (v2 = 0) → (v2 = 1 → (vp_in (585 * v1 + 0) 3510) ∧ (((M1 50 0 (585 * v1 + 0).toNatClampNeg) ≤ v3 ∧ v3 ≤ 30) → (vp_in (585 * v1 + v2) 3510) ∧ vp_in ((585 * v1) + v2) 3510 ∧ (∀ M16 : jM, M16 = jup M1 50 0 ((585 * v1) + v2).toNatClampNeg v3 → Q (M1 50 0 (585 * v1 + v2).toNatClampNeg) 0 M16)) ∧ (¬ ((M1 50 0 (585 * v1 + 0).toNatClampNeg) ≤ v3 ∧ v3 ≤ 30) → (∀ M12 : jM, M12 = jup M1 11 0 7 2 → Q 0 0 M12))) ∧ (¬ (v2 = 1) → (∀ M5 : jM, M5 = jup M1 11 0 7 2 → Q 0 0 M5)))) ∧ (¬ (0 ≤ v1 ∧ v1 ≤ M1 11 0 0 - 1) → (∀ M29 : jM, M29 = jup M1 11 0 7 1 → Q 0 0 M29)))) :
  at_X12_setBound_0 v1 v2 v3 M Q := by
  intro p l e s m args below meth c D cA base g C hr htb H locs G ls hl
  refine lv_aload_n C.x C.b dX12_setBound_0 rfl (lv_at hl 0 rfl) ?_
  refine lv_iconst (v := 0) C.x C.b dX12_setBound_1 (by decide) ?_
  refine jr_put C G jc11 7 (v := 0) (show 0 < 1 by decide) (by decide) (by decide) rfl (by decide) wd1198 rfl rfl rfl rfl dX12_setBound_2 (fun H locs G => ?_)
  obtain ⟨M1, eM1⟩ : ∃ z : jM, z = jup M 11 0 7 0 := ⟨_, rfl⟩
  rw [← eM1] at G
  have h := h M1 eM1
  have nM1 : jnb M1 = jnb M := by rw [eM1]; exact jnb_up (by decide)
  refine lv_aload_n C.x C.b dX12_setBound_5 rfl (lv_at hl 0 rfl) ?_
  refine lv_iload_n C.x C.b dX12_setBound_6 rfl (lv_at hl 1 rfl) ?_
  refine jr_V (d' := 2) C G jc11 jm_X12_isLoop wd1372 (sp_X12_isLoop ⟨rfl, rfl⟩ : ok_X12_isLoop v1 M1 (fun r _ M' => jb (0 ≤ v1 ∧ v1 ≤ M1 11 0 0 - 1) = r ∧ M1 = M')) rfl (show 0 < 1 by decide) (by decide) rfl rfl (by omega) (by decide) (by decide) ⟨rfl, rfl⟩ hl.1 (Nat.le_of_ble_eq_true rfl) dX12_setBound_7 (fun r2 r2n M3 H locs hq G => ?_)
  obtain ⟨eq1, eq2⟩ := hq
  subst eq1
  subst eq2
  refine lv_if_ne (tgt := 19) C.x C.b dX12_setBound_10 (by decide) (fun hc => ?_) (fun hc => ?_)
  · have h := h.1 (jb_1 hc)
    refine lv_iload_n C.x C.b dX12_setBound_19 rfl (lv_at hl 2 rfl) ?_
    refine lv_if_ne (tgt := 37) C.x C.b dX12_setBound_20 (by decide) (fun hc => ?_) (fun hc => ?_)
    · have h := h.2 hc
      refine lv_iload_n C.x C.b dX12_setBound_37 rfl (lv_at hl 2 rfl) ?_
      refine lv_iconst (v := 1) C.x C.b dX12_setBound_38 (by decide) ?_
      refine lv_icmp_ne (tgt := 61) C.x C.b dX12_setBound_39 (by decide) (fun hc => ?_) (fun hc => ?_)
      · have h := h.2 hc
        refine lv_iconst (v := 0) C.x C.b dX12_setBound_61 (by decide) ?_
        refine lv_istore (lv' := [(4, .int 0), (0, .ref (g 11 0)), (1, .int v1), (2, .int v2), (3, .int v3)]) C.x C.b dX12_setBound_62 hl (by decide) rfl (fun ls hl => ?_)
        refine lv_iload C.x C.b dX12_setBound_64 (lv_at hl 0 rfl) ?_
        refine lv_if_ne (tgt := 75) C.x C.b dX12_setBound_66 (by decide) (fun hc => absurd hc (by decide)) (fun _ => ?_)
        refine lv_aload_n C.x C.b dX12_setBound_69 rfl (lv_at hl 1 rfl) ?_
        refine lv_iconst (v := 2) C.x C.b dX12_setBound_70 (by decide) ?_
        refine jr_V (d' := 2) C G jc11 jm_X12_refuse wd1296 (sp_X12_refuse ⟨rfl, rfl⟩ : ok_X12_refuse 2 M1 (fun r _ M' => 0 = r ∧ M' = jup M1 11 0 7 2)) rfl (show 0 < 1 by decide) (by decide) rfl rfl (by omega) (by decide) (by decide) ⟨rfl, rfl⟩ hl.1 (Nat.le_of_ble_eq_true rfl) dX12_setBound_71 (fun r4 r4n M5 H locs hq G => ?_)
        obtain ⟨eq1, eM5⟩ := hq
        subst eq1
        have h := h M5 eM5
        have nM5 : jnb M5 = jnb M1 := by rw [eM5]; first | exact jnb_up (by decide) | simp [jnb_up]
        exact jr_retI C hr G h (by decide) (by decide) dX12_setBound_74
      · have h := h.1 hc
        refine lv_iload_n C.x C.b dX12_setBound_42 rfl (lv_at hl 3 rfl) ?_
        refine lv_aload_n C.x C.b dX12_setBound_43 rfl (lv_at hl 0 rfl) ?_
        refine lv_iload_n C.x C.b dX12_setBound_44 rfl (lv_at hl 1 rfl) ?_
        refine lv_iconst (v := 0) C.x C.b dX12_setBound_45 (by decide) ?_
        obtain ⟨hp8, h⟩ := h
        refine jr_V (d' := 2) C G jc11 jm_X12_of wd1384 (sp_X12_of hp8 ⟨rfl, rfl⟩ : ok_X12_of v1 0 M1 (fun r _ M' => (M1 50 0 (585 * v1 + 0).toNatClampNeg) = r ∧ M1 = M')) rfl (show 0 < 1 by decide) (by decide) rfl rfl (by omega) (by decide) (by decide) ⟨rfl, rfl⟩ hl.1 (Nat.le_of_ble_eq_true rfl) dX12_setBound_46 (fun r6 r6n M7 H locs hq G => ?_)
        obtain ⟨eq1, eq2⟩ := hq
        subst eq1
        subst eq2
        refine lv_bipush (v := 30) C.x C.b dX12_setBound_49 (by decide) ?_
        refine jr_S (d' := 2) C G jm_X12_in wd1293 (sp_X12_in ⟨rfl, rfl⟩ : ok_X12_in v3 (M1 50 0 (585 * v1 + 0).toNatClampNeg) 30 M1 (fun r _ M' => jb ((M1 50 0 (585 * v1 + 0).toNatClampNeg) ≤ v3 ∧ v3 ≤ 30) = r ∧ M1 = M')) rfl rfl rfl (by omega) (by decide) (by decide) ⟨rfl, rfl⟩ hl.1 (Nat.le_of_ble_eq_true rfl) dX12_setBound_51 (fun r9 r9n M10 H locs hq G => ?_)
        obtain ⟨eq1, eq2⟩ := hq
        subst eq1
        subst eq2
        refine lv_if_eq (tgt := 61) C.x C.b dX12_setBound_54 (by decide) (fun hc => ?_) (fun hc => ?_)
        · have h := h.2 (jb_0 hc)
          refine lv_iconst (v := 0) C.x C.b dX12_setBound_61 (by decide) ?_
          refine lv_istore (lv' := [(4, .int 0), (0, .ref (g 11 0)), (1, .int v1), (2, .int v2), (3, .int v3)]) C.x C.b dX12_setBound_62 hl (by decide) rfl (fun ls hl => ?_)
          refine lv_iload C.x C.b dX12_setBound_64 (lv_at hl 0 rfl) ?_
          refine lv_if_ne (tgt := 75) C.x C.b dX12_setBound_66 (by decide) (fun hc => absurd hc (by decide)) (fun _ => ?_)
          refine lv_aload_n C.x C.b dX12_setBound_69 rfl (lv_at hl 1 rfl) ?_
          refine lv_iconst (v := 2) C.x C.b dX12_setBound_70 (by decide) ?_
          refine jr_V (d' := 2) C G jc11 jm_X12_refuse wd1296 (sp_X12_refuse ⟨rfl, rfl⟩ : ok_X12_refuse 2 M1 (fun r _ M' => 0 = r ∧ M' = jup M1 11 0 7 2)) rfl (show 0 < 1 by decide) (by decide) rfl rfl (by omega) (by decide) (by decide) ⟨rfl, rfl⟩ hl.1 (Nat.le_of_ble_eq_true rfl) dX12_setBound_71 (fun r11 r11n M12 H locs hq G => ?_)
          obtain ⟨eq1, eM12⟩ := hq
          subst eq1
          have h := h M12 eM12
          have nM12 : jnb M12 = jnb M1 := by rw [eM12]; first | exact jnb_up (by decide) | simp [jnb_up]
          exact jr_retI C hr G h (by decide) (by decide) dX12_setBound_74
        · have h := h.1 (jb_1 hc)
          refine lv_iconst (v := 1) C.x C.b dX12_setBound_57 (by decide) ?_
          refine lv_goto (tgt := 62) C.x C.b dX12_setBound_58 (by decide) ?_
          refine lv_istore (lv' := [(4, .int 1), (0, .ref (g 11 0)), (1, .int v1), (2, .int v2), (3, .int v3)]) C.x C.b dX12_setBound_62 hl (by decide) rfl (fun ls hl => ?_)
          refine lv_iload C.x C.b dX12_setBound_64 (lv_at hl 0 rfl) ?_
          refine lv_if_ne (tgt := 75) C.x C.b dX12_setBound_66 (by decide) (fun _ => ?_) (fun hc => absurd hc (by decide))
          refine lv_aload_n C.x C.b dX12_setBound_75 rfl (lv_at hl 1 rfl) ?_
          refine lv_iload_n C.x C.b dX12_setBound_76 rfl (lv_at hl 2 rfl) ?_
          refine lv_iload_n C.x C.b dX12_setBound_77 rfl (lv_at hl 3 rfl) ?_
          obtain ⟨hp15, h⟩ := h
          refine jr_V (d' := 2) C G jc11 jm_X12_of wd1384 (sp_X12_of hp15 ⟨rfl, rfl⟩ : ok_X12_of v1 v2 M1 (fun r _ M' => (M1 50 0 (585 * v1 + v2).toNatClampNeg) = r ∧ M1 = M')) rfl (show 0 < 1 by decide) (by decide) rfl rfl (by omega) (by decide) (by decide) ⟨rfl, rfl⟩ hl.1 (Nat.le_of_ble_eq_true rfl) dX12_setBound_78 (fun r13 r13n M14 H locs hq G => ?_)
          obtain ⟨eq1, eq2⟩ := hq
          subst eq1
          subst eq2
          refine lv_istore (lv' := [(5, .int (M1 50 0 (585 * v1 + v2).toNatClampNeg)), (4, .int 1), (0, .ref (g 11 0)), (1, .int v1), (2, .int v2), (3, .int v3)]) C.x C.b dX12_setBound_81 hl (by decide) rfl (fun ls hl => ?_)
          refine lv_aload_n C.x C.b dX12_setBound_83 rfl (lv_at hl 2 rfl) ?_
          refine jr_get C G jc11 1 (v := .ref (g 50 0)) (show 0 < 1 by decide) (by decide) (by decide) rfl wd1192 dX12_setBound_84 ?_
          refine lv_sipush (v := 585) C.x C.b dX12_setBound_87 (by decide) ?_
          refine lv_iload_n C.x C.b dX12_setBound_90 rfl (lv_at hl 3 rfl) ?_
          refine lv_imul C.x C.b dX12_setBound_91 ?_
          refine lv_iload_n C.x C.b dX12_setBound_92 rfl (lv_at hl 4 rfl) ?_
          refine lv_iadd C.x C.b dX12_setBound_93 ?_
          refine lv_iload_n C.x C.b dX12_setBound_94 rfl (lv_at hl 5 rfl) ?_
          obtain ⟨hs, h⟩ := h
          refine jr_ast C G (show 0 < 1 by decide) (by decide) (by decide) (by decide) rfl rfl hs dX12_setBound_95 (fun H locs G => ?_)
          obtain ⟨M16, eM16⟩ : ∃ z : jM, z = jup M1 50 0 ((585 * v1) + v2).toNatClampNeg v3 := ⟨_, rfl⟩
          rw [← eM16] at G
          have h := h M16 eM16
          have nM16 : jnb M16 = jnb M1 := by rw [eM16]; exact jnb_up (by decide)
          refine lv_iload C.x C.b dX12_setBound_96 (lv_at hl 0 rfl) ?_
          exact jr_retI C hr G h (by decide) (by decide) dX12_setBound_98
    · have h := h.1 hc
      refine lv_iload_n C.x C.b dX12_setBound_23 rfl (lv_at hl 3 rfl) ?_
      refine lv_iconst (v := 0) C.x C.b dX12_setBound_24 (by decide) ?_
      refine lv_aload_n C.x C.b dX12_setBound_25 rfl (lv_at hl 0 rfl) ?_
      refine lv_iload_n C.x C.b dX12_setBound_26 rfl (lv_at hl 1 rfl) ?_
      refine lv_iconst (v := 1) C.x C.b dX12_setBound_27 (by decide) ?_
      obtain ⟨hp19, h⟩ := h
      refine jr_V (d' := 2) C G jc11 jm_X12_of wd1384 (sp_X12_of hp19 ⟨rfl, rfl⟩ : ok_X12_of v1 1 M1 (fun r _ M' => (M1 50 0 (585 * v1 + 1).toNatClampNeg) = r ∧ M1 = M')) rfl (show 0 < 1 by decide) (by decide) rfl rfl (by omega) (by decide) (by decide) ⟨rfl, rfl⟩ hl.1 (Nat.le_of_ble_eq_true rfl) dX12_setBound_28 (fun r17 r17n M18 H locs hq G => ?_)
      obtain ⟨eq1, eq2⟩ := hq
      subst eq1
      subst eq2
      refine jr_S (d' := 2) C G jm_X12_in wd1293 (sp_X12_in ⟨rfl, rfl⟩ : ok_X12_in v3 0 (M1 50 0 (585 * v1 + 1).toNatClampNeg) M1 (fun r _ M' => jb (0 ≤ v3 ∧ v3 ≤ (M1 50 0 (585 * v1 + 1).toNatClampNeg)) = r ∧ M1 = M')) rfl rfl rfl (by omega) (by decide) (by decide) ⟨rfl, rfl⟩ hl.1 (Nat.le_of_ble_eq_true rfl) dX12_setBound_31 (fun r20 r20n M21 H locs hq G => ?_)
      obtain ⟨eq1, eq2⟩ := hq
      subst eq1
      subst eq2
      refine lv_goto (tgt := 62) C.x C.b dX12_setBound_34 (by decide) ?_
      refine lv_istore (lv' := [(4, .int (jb (0 ≤ v3 ∧ v3 ≤ (M1 50 0 (585 * v1 + 1).toNatClampNeg)))), (0, .ref (g 11 0)), (1, .int v1), (2, .int v2), (3, .int v3)]) C.x C.b dX12_setBound_62 hl (by decide) rfl (fun ls hl => ?_)
      refine lv_iload C.x C.b dX12_setBound_64 (lv_at hl 0 rfl) ?_
      refine lv_if_ne (tgt := 75) C.x C.b dX12_setBound_66 (by decide) (fun hc => ?_) (fun hc => ?_)
      · have h := h.1 (jb_1 hc)
        refine lv_aload_n C.x C.b dX12_setBound_75 rfl (lv_at hl 1 rfl) ?_
        refine lv_iload_n C.x C.b dX12_setBound_76 rfl (lv_at hl 2 rfl) ?_
        refine lv_iload_n C.x C.b dX12_setBound_77 rfl (lv_at hl 3 rfl) ?_
        obtain ⟨hp24, h⟩ := h
        refine jr_V (d' := 2) C G jc11 jm_X12_of wd1384 (sp_X12_of hp24 ⟨rfl, rfl⟩ : ok_X12_of v1 v2 M1 (fun r _ M' => (M1 50 0 (585 * v1 + v2).toNatClampNeg) = r ∧ M1 = M')) rfl (show 0 < 1 by decide) (by decide) rfl rfl (by omega) (by decide) (by decide) ⟨rfl, rfl⟩ hl.1 (Nat.le_of_ble_eq_true rfl) dX12_setBound_78 (fun r22 r22n M23 H locs hq G => ?_)
        obtain ⟨eq1, eq2⟩ := hq
        subst eq1
        subst eq2
        refine lv_istore (lv' := [(5, .int (M1 50 0 (585 * v1 + v2).toNatClampNeg)), (4, .int (jb (0 ≤ v3 ∧ v3 ≤ (M1 50 0 (585 * v1 + 1).toNatClampNeg)))), (0, .ref (g 11 0)), (1, .int v1), (2, .int v2), (3, .int v3)]) C.x C.b dX12_setBound_81 hl (by decide) rfl (fun ls hl => ?_)
        refine lv_aload_n C.x C.b dX12_setBound_83 rfl (lv_at hl 2 rfl) ?_
        refine jr_get C G jc11 1 (v := .ref (g 50 0)) (show 0 < 1 by decide) (by decide) (by decide) rfl wd1192 dX12_setBound_84 ?_
        refine lv_sipush (v := 585) C.x C.b dX12_setBound_87 (by decide) ?_
        refine lv_iload_n C.x C.b dX12_setBound_90 rfl (lv_at hl 3 rfl) ?_
        refine lv_imul C.x C.b dX12_setBound_91 ?_
        refine lv_iload_n C.x C.b dX12_setBound_92 rfl (lv_at hl 4 rfl) ?_
        refine lv_iadd C.x C.b dX12_setBound_93 ?_
        refine lv_iload_n C.x C.b dX12_setBound_94 rfl (lv_at hl 5 rfl) ?_
        obtain ⟨hs, h⟩ := h
        refine jr_ast C G (show 0 < 1 by decide) (by decide) (by decide) (by decide) rfl rfl hs dX12_setBound_95 (fun H locs G => ?_)
        obtain ⟨M25, eM25⟩ : ∃ z : jM, z = jup M1 50 0 ((585 * v1) + v2).toNatClampNeg v3 := ⟨_, rfl⟩
        rw [← eM25] at G
        have h := h M25 eM25
        have nM25 : jnb M25 = jnb M1 := by rw [eM25]; exact jnb_up (by decide)
        refine lv_iload C.x C.b dX12_setBound_96 (lv_at hl 0 rfl) ?_
        exact jr_retI C hr G h (by decide) (by decide) dX12_setBound_98
      · have h := h.2 (jb_0 hc)
        refine lv_aload_n C.x C.b dX12_setBound_69 rfl (lv_at hl 1 rfl) ?_
        refine lv_iconst (v := 2) C.x C.b dX12_setBound_70 (by decide) ?_
        refine jr_V (d' := 2) C G jc11 jm_X12_refuse wd1296 (sp_X12_refuse ⟨rfl, rfl⟩ : ok_X12_refuse 2 M1 (fun r _ M' => 0 = r ∧ M' = jup M1 11 0 7 2)) rfl (show 0 < 1 by decide) (by decide) rfl rfl (by omega) (by decide) (by decide) ⟨rfl, rfl⟩ hl.1 (Nat.le_of_ble_eq_true rfl) dX12_setBound_71 (fun r26 r26n M27 H locs hq G => ?_)
        obtain ⟨eq1, eM27⟩ := hq
        subst eq1
        have h := h M27 eM27
        have nM27 : jnb M27 = jnb M1 := by rw [eM27]; first | exact jnb_up (by decide) | simp [jnb_up]
        exact jr_retI C hr G h (by decide) (by decide) dX12_setBound_74
  · have h := h.2 (jb_0 hc)
    refine lv_aload_n C.x C.b dX12_setBound_13 rfl (lv_at hl 0 rfl) ?_
    refine lv_iconst (v := 1) C.x C.b dX12_setBound_14 (by decide) ?_
    refine jr_V (d' := 2) C G jc11 jm_X12_refuse wd1296 (sp_X12_refuse ⟨rfl, rfl⟩ : ok_X12_refuse 1 M1 (fun r _ M' => 0 = r ∧ M' = jup M1 11 0 7 1)) rfl (show 0 < 1 by decide) (by decide) rfl rfl (by omega) (by decide) (by decide) ⟨rfl, rfl⟩ hl.1 (Nat.le_of_ble_eq_true rfl) dX12_setBound_15 (fun r28 r28n M29 H locs hq G => ?_)
    obtain ⟨eq1, eM29⟩ := hq
    subst eq1
    have h := h M29 eM29
    have nM29 : jnb M29 = jnb M1 := by rw [eM29]; first | exact jnb_up (by decide) | simp [jnb_up]
    exact jr_retI C hr G h (by decide) (by decide) dX12_setBound_18

theorem en_X12_statementCount {v1 : Int32} {M : jM} {Q : Int32 → Nat → jM → Prop} (h : at_X12_statementCount_0 v1 M Q) : ok_X12_statementCount v1 M Q := jr_enter (by decide) (fun g => rfl) (fun g => Nat.le_of_ble_eq_true rfl) h
set_option maxHeartbeats 4000000 in
set_option maxRecDepth 100000 in
theorem bl_X12_statementCount_0 (v1 : Int32) (M : jM) (Q : Int32 → Nat → jM → Prop) 
  (h : (∀ M1 : jM, M1 = jup M 11 0 7 0 → ((0 ≤ v1 ∧ v1 ≤ M1 11 0 0 - 1) → (vp_in (585 * v1 + 3) 3510) ∧ Q (M1 50 0 (585 * v1 + 3).toNatClampNeg) 0 M1) ∧ (¬ (0 ≤ v1 ∧ v1 ≤ M1 11 0 0 - 1) → (∀ M5 : jM, M5 = jup M1 11 0 7 1 → Q 0 0 M5)))) :
  at_X12_statementCount_0 v1 M Q := by
  intro p l e s m args below meth c D cA base g C hr htb H locs G ls hl
  refine lv_aload_n C.x C.b dX12_statementCount_0 rfl (lv_at hl 0 rfl) ?_
  refine lv_iconst (v := 0) C.x C.b dX12_statementCount_1 (by decide) ?_
  refine jr_put C G jc11 7 (v := 0) (show 0 < 1 by decide) (by decide) (by decide) rfl (by decide) wd1198 rfl rfl rfl rfl dX12_statementCount_2 (fun H locs G => ?_)
  obtain ⟨M1, eM1⟩ : ∃ z : jM, z = jup M 11 0 7 0 := ⟨_, rfl⟩
  rw [← eM1] at G
  have h := h M1 eM1
  have nM1 : jnb M1 = jnb M := by rw [eM1]; exact jnb_up (by decide)
  refine lv_aload_n C.x C.b dX12_statementCount_5 rfl (lv_at hl 0 rfl) ?_
  refine lv_iload_n C.x C.b dX12_statementCount_6 rfl (lv_at hl 1 rfl) ?_
  refine jr_V (d' := 2) C G jc11 jm_X12_isLoop wd1372 (sp_X12_isLoop ⟨rfl, rfl⟩ : ok_X12_isLoop v1 M1 (fun r _ M' => jb (0 ≤ v1 ∧ v1 ≤ M1 11 0 0 - 1) = r ∧ M1 = M')) rfl (show 0 < 1 by decide) (by decide) rfl rfl (by omega) (by decide) (by decide) ⟨rfl, rfl⟩ hl.1 (Nat.le_of_ble_eq_true rfl) dX12_statementCount_7 (fun r2 r2n M3 H locs hq G => ?_)
  obtain ⟨eq1, eq2⟩ := hq
  subst eq1
  subst eq2
  refine lv_if_eq (tgt := 22) C.x C.b dX12_statementCount_10 (by decide) (fun hc => ?_) (fun hc => ?_)
  · have h := h.2 (jb_0 hc)
    refine lv_aload_n C.x C.b dX12_statementCount_22 rfl (lv_at hl 0 rfl) ?_
    refine lv_iconst (v := 1) C.x C.b dX12_statementCount_23 (by decide) ?_
    refine jr_V (d' := 2) C G jc11 jm_X12_refuse wd1296 (sp_X12_refuse ⟨rfl, rfl⟩ : ok_X12_refuse 1 M1 (fun r _ M' => 0 = r ∧ M' = jup M1 11 0 7 1)) rfl (show 0 < 1 by decide) (by decide) rfl rfl (by omega) (by decide) (by decide) ⟨rfl, rfl⟩ hl.1 (Nat.le_of_ble_eq_true rfl) dX12_statementCount_24 (fun r4 r4n M5 H locs hq G => ?_)
    obtain ⟨eq1, eM5⟩ := hq
    subst eq1
    have h := h M5 eM5
    have nM5 : jnb M5 = jnb M1 := by rw [eM5]; first | exact jnb_up (by decide) | simp [jnb_up]
    exact jr_retI C hr G h (by decide) (by decide) dX12_statementCount_27
  · have h := h.1 (jb_1 hc)
    refine lv_aload_n C.x C.b dX12_statementCount_13 rfl (lv_at hl 0 rfl) ?_
    refine lv_iload_n C.x C.b dX12_statementCount_14 rfl (lv_at hl 1 rfl) ?_
    refine lv_iconst (v := 3) C.x C.b dX12_statementCount_15 (by decide) ?_
    obtain ⟨hp8, h⟩ := h
    refine jr_V (d' := 2) C G jc11 jm_X12_of wd1384 (sp_X12_of hp8 ⟨rfl, rfl⟩ : ok_X12_of v1 3 M1 (fun r _ M' => (M1 50 0 (585 * v1 + 3).toNatClampNeg) = r ∧ M1 = M')) rfl (show 0 < 1 by decide) (by decide) rfl rfl (by omega) (by decide) (by decide) ⟨rfl, rfl⟩ hl.1 (Nat.le_of_ble_eq_true rfl) dX12_statementCount_16 (fun r6 r6n M7 H locs hq G => ?_)
    obtain ⟨eq1, eq2⟩ := hq
    subst eq1
    subst eq2
    refine lv_goto (tgt := 27) C.x C.b dX12_statementCount_19 (by decide) ?_
    exact jr_retI C hr G h (by decide) (by decide) dX12_statementCount_27

theorem en_X12_referenceCount {v1 : Int32} {M : jM} {Q : Int32 → Nat → jM → Prop} (h : at_X12_referenceCount_0 v1 M Q) : ok_X12_referenceCount v1 M Q := jr_enter (by decide) (fun g => rfl) (fun g => Nat.le_of_ble_eq_true rfl) h
set_option maxHeartbeats 4000000 in
set_option maxRecDepth 100000 in
theorem bl_X12_referenceCount_0 (v1 : Int32) (M : jM) (Q : Int32 → Nat → jM → Prop) 
  (h : (∀ M1 : jM, M1 = jup M 11 0 7 0 → ((0 ≤ v1 ∧ v1 ≤ M1 11 0 0 - 1) → (vp_in (585 * v1 + 4) 3510) ∧ Q (M1 50 0 (585 * v1 + 4).toNatClampNeg) 0 M1) ∧ (¬ (0 ≤ v1 ∧ v1 ≤ M1 11 0 0 - 1) → (∀ M5 : jM, M5 = jup M1 11 0 7 1 → Q 0 0 M5)))) :
  at_X12_referenceCount_0 v1 M Q := by
  intro p l e s m args below meth c D cA base g C hr htb H locs G ls hl
  refine lv_aload_n C.x C.b dX12_referenceCount_0 rfl (lv_at hl 0 rfl) ?_
  refine lv_iconst (v := 0) C.x C.b dX12_referenceCount_1 (by decide) ?_
  refine jr_put C G jc11 7 (v := 0) (show 0 < 1 by decide) (by decide) (by decide) rfl (by decide) wd1198 rfl rfl rfl rfl dX12_referenceCount_2 (fun H locs G => ?_)
  obtain ⟨M1, eM1⟩ : ∃ z : jM, z = jup M 11 0 7 0 := ⟨_, rfl⟩
  rw [← eM1] at G
  have h := h M1 eM1
  have nM1 : jnb M1 = jnb M := by rw [eM1]; exact jnb_up (by decide)
  refine lv_aload_n C.x C.b dX12_referenceCount_5 rfl (lv_at hl 0 rfl) ?_
  refine lv_iload_n C.x C.b dX12_referenceCount_6 rfl (lv_at hl 1 rfl) ?_
  refine jr_V (d' := 2) C G jc11 jm_X12_isLoop wd1372 (sp_X12_isLoop ⟨rfl, rfl⟩ : ok_X12_isLoop v1 M1 (fun r _ M' => jb (0 ≤ v1 ∧ v1 ≤ M1 11 0 0 - 1) = r ∧ M1 = M')) rfl (show 0 < 1 by decide) (by decide) rfl rfl (by omega) (by decide) (by decide) ⟨rfl, rfl⟩ hl.1 (Nat.le_of_ble_eq_true rfl) dX12_referenceCount_7 (fun r2 r2n M3 H locs hq G => ?_)
  obtain ⟨eq1, eq2⟩ := hq
  subst eq1
  subst eq2
  refine lv_if_eq (tgt := 22) C.x C.b dX12_referenceCount_10 (by decide) (fun hc => ?_) (fun hc => ?_)
  · have h := h.2 (jb_0 hc)
    refine lv_aload_n C.x C.b dX12_referenceCount_22 rfl (lv_at hl 0 rfl) ?_
    refine lv_iconst (v := 1) C.x C.b dX12_referenceCount_23 (by decide) ?_
    refine jr_V (d' := 2) C G jc11 jm_X12_refuse wd1296 (sp_X12_refuse ⟨rfl, rfl⟩ : ok_X12_refuse 1 M1 (fun r _ M' => 0 = r ∧ M' = jup M1 11 0 7 1)) rfl (show 0 < 1 by decide) (by decide) rfl rfl (by omega) (by decide) (by decide) ⟨rfl, rfl⟩ hl.1 (Nat.le_of_ble_eq_true rfl) dX12_referenceCount_24 (fun r4 r4n M5 H locs hq G => ?_)
    obtain ⟨eq1, eM5⟩ := hq
    subst eq1
    have h := h M5 eM5
    have nM5 : jnb M5 = jnb M1 := by rw [eM5]; first | exact jnb_up (by decide) | simp [jnb_up]
    exact jr_retI C hr G h (by decide) (by decide) dX12_referenceCount_27
  · have h := h.1 (jb_1 hc)
    refine lv_aload_n C.x C.b dX12_referenceCount_13 rfl (lv_at hl 0 rfl) ?_
    refine lv_iload_n C.x C.b dX12_referenceCount_14 rfl (lv_at hl 1 rfl) ?_
    refine lv_iconst (v := 4) C.x C.b dX12_referenceCount_15 (by decide) ?_
    obtain ⟨hp8, h⟩ := h
    refine jr_V (d' := 2) C G jc11 jm_X12_of wd1384 (sp_X12_of hp8 ⟨rfl, rfl⟩ : ok_X12_of v1 4 M1 (fun r _ M' => (M1 50 0 (585 * v1 + 4).toNatClampNeg) = r ∧ M1 = M')) rfl (show 0 < 1 by decide) (by decide) rfl rfl (by omega) (by decide) (by decide) ⟨rfl, rfl⟩ hl.1 (Nat.le_of_ble_eq_true rfl) dX12_referenceCount_16 (fun r6 r6n M7 H locs hq G => ?_)
    obtain ⟨eq1, eq2⟩ := hq
    subst eq1
    subst eq2
    refine lv_goto (tgt := 27) C.x C.b dX12_referenceCount_19 (by decide) ?_
    exact jr_retI C hr G h (by decide) (by decide) dX12_referenceCount_27

theorem en_X12_reference_ {v1 : Int32} {v2 : Int32} {v3 : Int32} {M : jM} {Q : Int32 → Nat → jM → Prop} (h : at_X12_reference__0 v1 v2 v3 M Q) : ok_X12_reference_ v1 v2 v3 M Q := jr_enter (by decide) (fun g => rfl) (fun g => Nat.le_of_ble_eq_true rfl) h
set_option maxHeartbeats 4000000 in
set_option maxRecDepth 100000 in
theorem bl_X12_reference__0 (v1 : Int32) (v2 : Int32) (v3 : Int32) (M : jM) (Q : Int32 → Nat → jM → Prop) 
  (h : (∀ M1 : jM, M1 = jup M 11 0 7 0 → ((0 ≤ v1 ∧ v1 ≤ M1 11 0 0 - 1) → (vp_in (585 * v1 + 4) 3510) ∧ ((0 ≤ v2 ∧ v2 ≤ ((M1 50 0 (585 * v1 + 4).toNatClampNeg) - 1)) → ((0 ≤ v3 ∧ v3 ≤ 3) → (vp_in (585 * v1 + ((5 + (24 * v3)) + v2)) 3510) ∧ Q (M1 50 0 (585 * v1 + ((5 + (24 * v3)) + v2)).toNatClampNeg) 0 M1) ∧ (¬ (0 ≤ v3 ∧ v3 ≤ 3) → (∀ M14 : jM, M14 = jup M1 11 0 7 2 → Q 0 0 M14))) ∧ (¬ (0 ≤ v2 ∧ v2 ≤ ((M1 50 0 (585 * v1 + 4).toNatClampNeg) - 1)) → (∀ M19 : jM, M19 = jup M1 11 0 7 1 → Q 0 0 M19))) ∧ (¬ (0 ≤ v1 ∧ v1 ≤ M1 11 0 0 - 1) → (∀ M5 : jM, M5 = jup M1 11 0 7 1 → Q 0 0 M5)))) :
  at_X12_reference__0 v1 v2 v3 M Q := by
  intro p l e s m args below meth c D cA base g C hr htb H locs G ls hl
  refine lv_aload_n C.x C.b dX12_reference__0 rfl (lv_at hl 0 rfl) ?_
  refine lv_iconst (v := 0) C.x C.b dX12_reference__1 (by decide) ?_
  refine jr_put C G jc11 7 (v := 0) (show 0 < 1 by decide) (by decide) (by decide) rfl (by decide) wd1198 rfl rfl rfl rfl dX12_reference__2 (fun H locs G => ?_)
  obtain ⟨M1, eM1⟩ : ∃ z : jM, z = jup M 11 0 7 0 := ⟨_, rfl⟩
  rw [← eM1] at G
  have h := h M1 eM1
  have nM1 : jnb M1 = jnb M := by rw [eM1]; exact jnb_up (by decide)
  refine lv_aload_n C.x C.b dX12_reference__5 rfl (lv_at hl 0 rfl) ?_
  refine lv_iload_n C.x C.b dX12_reference__6 rfl (lv_at hl 1 rfl) ?_
  refine jr_V (d' := 2) C G jc11 jm_X12_isLoop wd1372 (sp_X12_isLoop ⟨rfl, rfl⟩ : ok_X12_isLoop v1 M1 (fun r _ M' => jb (0 ≤ v1 ∧ v1 ≤ M1 11 0 0 - 1) = r ∧ M1 = M')) rfl (show 0 < 1 by decide) (by decide) rfl rfl (by omega) (by decide) (by decide) ⟨rfl, rfl⟩ hl.1 (Nat.le_of_ble_eq_true rfl) dX12_reference__7 (fun r2 r2n M3 H locs hq G => ?_)
  obtain ⟨eq1, eq2⟩ := hq
  subst eq1
  subst eq2
  refine lv_if_eq (tgt := 29) C.x C.b dX12_reference__10 (by decide) (fun hc => ?_) (fun hc => ?_)
  · have h := h.2 (jb_0 hc)
    refine lv_aload_n C.x C.b dX12_reference__29 rfl (lv_at hl 0 rfl) ?_
    refine lv_iconst (v := 1) C.x C.b dX12_reference__30 (by decide) ?_
    refine jr_V (d' := 2) C G jc11 jm_X12_refuse wd1296 (sp_X12_refuse ⟨rfl, rfl⟩ : ok_X12_refuse 1 M1 (fun r _ M' => 0 = r ∧ M' = jup M1 11 0 7 1)) rfl (show 0 < 1 by decide) (by decide) rfl rfl (by omega) (by decide) (by decide) ⟨rfl, rfl⟩ hl.1 (Nat.le_of_ble_eq_true rfl) dX12_reference__31 (fun r4 r4n M5 H locs hq G => ?_)
    obtain ⟨eq1, eM5⟩ := hq
    subst eq1
    have h := h M5 eM5
    have nM5 : jnb M5 = jnb M1 := by rw [eM5]; first | exact jnb_up (by decide) | simp [jnb_up]
    exact jr_retI C hr G h (by decide) (by decide) dX12_reference__34
  · have h := h.1 (jb_1 hc)
    refine lv_iload_n C.x C.b dX12_reference__13 rfl (lv_at hl 2 rfl) ?_
    refine lv_iconst (v := 0) C.x C.b dX12_reference__14 (by decide) ?_
    refine lv_aload_n C.x C.b dX12_reference__15 rfl (lv_at hl 0 rfl) ?_
    refine lv_iload_n C.x C.b dX12_reference__16 rfl (lv_at hl 1 rfl) ?_
    refine lv_iconst (v := 4) C.x C.b dX12_reference__17 (by decide) ?_
    obtain ⟨hp8, h⟩ := h
    refine jr_V (d' := 2) C G jc11 jm_X12_of wd1384 (sp_X12_of hp8 ⟨rfl, rfl⟩ : ok_X12_of v1 4 M1 (fun r _ M' => (M1 50 0 (585 * v1 + 4).toNatClampNeg) = r ∧ M1 = M')) rfl (show 0 < 1 by decide) (by decide) rfl rfl (by omega) (by decide) (by decide) ⟨rfl, rfl⟩ hl.1 (Nat.le_of_ble_eq_true rfl) dX12_reference__18 (fun r6 r6n M7 H locs hq G => ?_)
    obtain ⟨eq1, eq2⟩ := hq
    subst eq1
    subst eq2
    refine lv_iconst (v := 1) C.x C.b dX12_reference__21 (by decide) ?_
    refine lv_isub C.x C.b dX12_reference__22 ?_
    refine jr_S (d' := 2) C G jm_X12_in wd1293 (sp_X12_in ⟨rfl, rfl⟩ : ok_X12_in v2 0 ((M1 50 0 (585 * v1 + 4).toNatClampNeg) - 1) M1 (fun r _ M' => jb (0 ≤ v2 ∧ v2 ≤ ((M1 50 0 (585 * v1 + 4).toNatClampNeg) - 1)) = r ∧ M1 = M')) rfl rfl rfl (by omega) (by decide) (by decide) ⟨rfl, rfl⟩ hl.1 (Nat.le_of_ble_eq_true rfl) dX12_reference__23 (fun r9 r9n M10 H locs hq G => ?_)
    obtain ⟨eq1, eq2⟩ := hq
    subst eq1
    subst eq2
    refine lv_if_ne (tgt := 35) C.x C.b dX12_reference__26 (by decide) (fun hc => ?_) (fun hc => ?_)
    · have h := h.1 (jb_1 hc)
      refine lv_iload_n C.x C.b dX12_reference__35 rfl (lv_at hl 3 rfl) ?_
      refine lv_iconst (v := 0) C.x C.b dX12_reference__36 (by decide) ?_
      refine lv_iconst (v := 3) C.x C.b dX12_reference__37 (by decide) ?_
      refine jr_S (d' := 2) C G jm_X12_in wd1293 (sp_X12_in ⟨rfl, rfl⟩ : ok_X12_in v3 0 3 M1 (fun r _ M' => jb (0 ≤ v3 ∧ v3 ≤ 3) = r ∧ M1 = M')) rfl rfl rfl (by omega) (by decide) (by decide) ⟨rfl, rfl⟩ hl.1 (Nat.le_of_ble_eq_true rfl) dX12_reference__38 (fun r11 r11n M12 H locs hq G => ?_)
      obtain ⟨eq1, eq2⟩ := hq
      subst eq1
      subst eq2
      refine lv_if_eq (tgt := 60) C.x C.b dX12_reference__41 (by decide) (fun hc => ?_) (fun hc => ?_)
      · have h := h.2 (jb_0 hc)
        refine lv_aload_n C.x C.b dX12_reference__60 rfl (lv_at hl 0 rfl) ?_
        refine lv_iconst (v := 2) C.x C.b dX12_reference__61 (by decide) ?_
        refine jr_V (d' := 2) C G jc11 jm_X12_refuse wd1296 (sp_X12_refuse ⟨rfl, rfl⟩ : ok_X12_refuse 2 M1 (fun r _ M' => 0 = r ∧ M' = jup M1 11 0 7 2)) rfl (show 0 < 1 by decide) (by decide) rfl rfl (by omega) (by decide) (by decide) ⟨rfl, rfl⟩ hl.1 (Nat.le_of_ble_eq_true rfl) dX12_reference__62 (fun r13 r13n M14 H locs hq G => ?_)
        obtain ⟨eq1, eM14⟩ := hq
        subst eq1
        have h := h M14 eM14
        have nM14 : jnb M14 = jnb M1 := by rw [eM14]; first | exact jnb_up (by decide) | simp [jnb_up]
        exact jr_retI C hr G h (by decide) (by decide) dX12_reference__65
      · have h := h.1 (jb_1 hc)
        refine lv_aload_n C.x C.b dX12_reference__44 rfl (lv_at hl 0 rfl) ?_
        refine lv_iload_n C.x C.b dX12_reference__45 rfl (lv_at hl 1 rfl) ?_
        refine lv_iconst (v := 5) C.x C.b dX12_reference__46 (by decide) ?_
        refine lv_bipush (v := 24) C.x C.b dX12_reference__47 (by decide) ?_
        refine lv_iload_n C.x C.b dX12_reference__49 rfl (lv_at hl 3 rfl) ?_
        refine lv_imul C.x C.b dX12_reference__50 ?_
        refine lv_iadd C.x C.b dX12_reference__51 ?_
        refine lv_iload_n C.x C.b dX12_reference__52 rfl (lv_at hl 2 rfl) ?_
        refine lv_iadd C.x C.b dX12_reference__53 ?_
        obtain ⟨hp17, h⟩ := h
        refine jr_V (d' := 2) C G jc11 jm_X12_of wd1384 (sp_X12_of hp17 ⟨rfl, rfl⟩ : ok_X12_of v1 ((5 + (24 * v3)) + v2) M1 (fun r _ M' => (M1 50 0 (585 * v1 + ((5 + (24 * v3)) + v2)).toNatClampNeg) = r ∧ M1 = M')) rfl (show 0 < 1 by decide) (by decide) rfl rfl (by omega) (by decide) (by decide) ⟨rfl, rfl⟩ hl.1 (Nat.le_of_ble_eq_true rfl) dX12_reference__54 (fun r15 r15n M16 H locs hq G => ?_)
        obtain ⟨eq1, eq2⟩ := hq
        subst eq1
        subst eq2
        refine lv_goto (tgt := 65) C.x C.b dX12_reference__57 (by decide) ?_
        exact jr_retI C hr G h (by decide) (by decide) dX12_reference__65
    · have h := h.2 (jb_0 hc)
      refine lv_aload_n C.x C.b dX12_reference__29 rfl (lv_at hl 0 rfl) ?_
      refine lv_iconst (v := 1) C.x C.b dX12_reference__30 (by decide) ?_
      refine jr_V (d' := 2) C G jc11 jm_X12_refuse wd1296 (sp_X12_refuse ⟨rfl, rfl⟩ : ok_X12_refuse 1 M1 (fun r _ M' => 0 = r ∧ M' = jup M1 11 0 7 1)) rfl (show 0 < 1 by decide) (by decide) rfl rfl (by omega) (by decide) (by decide) ⟨rfl, rfl⟩ hl.1 (Nat.le_of_ble_eq_true rfl) dX12_reference__31 (fun r18 r18n M19 H locs hq G => ?_)
      obtain ⟨eq1, eM19⟩ := hq
      subst eq1
      have h := h M19 eM19
      have nM19 : jnb M19 = jnb M1 := by rw [eM19]; first | exact jnb_up (by decide) | simp [jnb_up]
      exact jr_retI C hr G h (by decide) (by decide) dX12_reference__34

theorem en_X12_setBarrier {v1 : Int32} {v2 : Int32} {M : jM} {Q : Int32 → Nat → jM → Prop} (h : at_X12_setBarrier_0 v1 v2 M Q) : ok_X12_setBarrier v1 v2 M Q := jr_enter (by decide) (fun g => rfl) (fun g => Nat.le_of_ble_eq_true rfl) h
set_option maxHeartbeats 4000000 in
set_option maxRecDepth 100000 in
theorem bl_X12_setBarrier_0 (v1 : Int32) (v2 : Int32) (M : jM) (Q : Int32 → Nat → jM → Prop) 
  (h : (∀ M1 : jM, M1 = jup M 11 0 7 0 → ((0 ≤ v1 ∧ v1 ≤ M1 11 0 0 - 1) → (vp_in (585 * v1 + 2) 3510) ∧ ((M1 50 0 (585 * v1 + 2).toNatClampNeg) = 1 → (v2 = 0 → vp_in ((585 * v1) + 2) 3510 ∧ (∀ M9 : jM, M9 = jup M1 50 0 ((585 * v1) + 2).toNatClampNeg 0 → Q 1 0 M9)) ∧ (¬ (v2 = 0) → vp_in ((585 * v1) + 2) 3510 ∧ (∀ M10 : jM, M10 = jup M1 50 0 ((585 * v1) + 2).toNatClampNeg 1 → Q 1 0 M10))) ∧ (¬ ((M1 50 0 (585 * v1 + 2).toNatClampNeg) = 1) → (v2 = 0 → vp_in ((585 * v1) + 2) 3510 ∧ (∀ M7 : jM, M7 = jup M1 50 0 ((585 * v1) + 2).toNatClampNeg 0 → Q 0 0 M7)) ∧ (¬ (v2 = 0) → vp_in ((585 * v1) + 2) 3510 ∧ (∀ M8 : jM, M8 = jup M1 50 0 ((585 * v1) + 2).toNatClampNeg 1 → Q 0 0 M8)))) ∧ (¬ (0 ≤ v1 ∧ v1 ≤ M1 11 0 0 - 1) → (∀ M12 : jM, M12 = jup M1 11 0 7 1 → Q 0 0 M12)))) :
  at_X12_setBarrier_0 v1 v2 M Q := by
  intro p l e s m args below meth c D cA base g C hr htb H locs G ls hl
  refine lv_aload_n C.x C.b dX12_setBarrier_0 rfl (lv_at hl 0 rfl) ?_
  refine lv_iconst (v := 0) C.x C.b dX12_setBarrier_1 (by decide) ?_
  refine jr_put C G jc11 7 (v := 0) (show 0 < 1 by decide) (by decide) (by decide) rfl (by decide) wd1198 rfl rfl rfl rfl dX12_setBarrier_2 (fun H locs G => ?_)
  obtain ⟨M1, eM1⟩ : ∃ z : jM, z = jup M 11 0 7 0 := ⟨_, rfl⟩
  rw [← eM1] at G
  have h := h M1 eM1
  have nM1 : jnb M1 = jnb M := by rw [eM1]; exact jnb_up (by decide)
  refine lv_aload_n C.x C.b dX12_setBarrier_5 rfl (lv_at hl 0 rfl) ?_
  refine lv_iload_n C.x C.b dX12_setBarrier_6 rfl (lv_at hl 1 rfl) ?_
  refine jr_V (d' := 2) C G jc11 jm_X12_isLoop wd1372 (sp_X12_isLoop ⟨rfl, rfl⟩ : ok_X12_isLoop v1 M1 (fun r _ M' => jb (0 ≤ v1 ∧ v1 ≤ M1 11 0 0 - 1) = r ∧ M1 = M')) rfl (show 0 < 1 by decide) (by decide) rfl rfl (by omega) (by decide) (by decide) ⟨rfl, rfl⟩ hl.1 (Nat.le_of_ble_eq_true rfl) dX12_setBarrier_7 (fun r2 r2n M3 H locs hq G => ?_)
  obtain ⟨eq1, eq2⟩ := hq
  subst eq1
  subst eq2
  refine lv_if_ne (tgt := 27) C.x C.b dX12_setBarrier_10 (by decide) (fun hc => ?_) (fun hc => ?_)
  · have h := h.1 (jb_1 hc)
    refine lv_aload_n C.x C.b dX12_setBarrier_27 rfl (lv_at hl 0 rfl) ?_
    refine lv_iload_n C.x C.b dX12_setBarrier_28 rfl (lv_at hl 1 rfl) ?_
    refine lv_iconst (v := 2) C.x C.b dX12_setBarrier_29 (by decide) ?_
    obtain ⟨hp6, h⟩ := h
    refine jr_V (d' := 2) C G jc11 jm_X12_of wd1384 (sp_X12_of hp6 ⟨rfl, rfl⟩ : ok_X12_of v1 2 M1 (fun r _ M' => (M1 50 0 (585 * v1 + 2).toNatClampNeg) = r ∧ M1 = M')) rfl (show 0 < 1 by decide) (by decide) rfl rfl (by omega) (by decide) (by decide) ⟨rfl, rfl⟩ hl.1 (Nat.le_of_ble_eq_true rfl) dX12_setBarrier_30 (fun r4 r4n M5 H locs hq G => ?_)
    obtain ⟨eq1, eq2⟩ := hq
    subst eq1
    subst eq2
    refine lv_iconst (v := 1) C.x C.b dX12_setBarrier_33 (by decide) ?_
    refine lv_icmp_ne (tgt := 41) C.x C.b dX12_setBarrier_34 (by decide) (fun hc => ?_) (fun hc => ?_)
    · have h := h.2 hc
      refine lv_iconst (v := 0) C.x C.b dX12_setBarrier_41 (by decide) ?_
      refine lv_istore_n (lv' := [(3, .int 0), (0, .ref (g 11 0)), (1, .int v1), (2, .int v2)]) C.x C.b dX12_setBarrier_42 rfl hl (by decide) rfl (fun ls hl => ?_)
      refine lv_aload_n C.x C.b dX12_setBarrier_43 rfl (lv_at hl 1 rfl) ?_
      refine jr_get C G jc11 1 (v := .ref (g 50 0)) (show 0 < 1 by decide) (by decide) (by decide) rfl wd1192 dX12_setBarrier_44 ?_
      refine lv_sipush (v := 585) C.x C.b dX12_setBarrier_47 (by decide) ?_
      refine lv_iload_n C.x C.b dX12_setBarrier_50 rfl (lv_at hl 2 rfl) ?_
      refine lv_imul C.x C.b dX12_setBarrier_51 ?_
      refine lv_iconst (v := 2) C.x C.b dX12_setBarrier_52 (by decide) ?_
      refine lv_iadd C.x C.b dX12_setBarrier_53 ?_
      refine lv_iload_n C.x C.b dX12_setBarrier_54 rfl (lv_at hl 3 rfl) ?_
      refine lv_if_eq (tgt := 62) C.x C.b dX12_setBarrier_55 (by decide) (fun hc => ?_) (fun hc => ?_)
      · have h := h.1 hc
        refine lv_iconst (v := 0) C.x C.b dX12_setBarrier_62 (by decide) ?_
        obtain ⟨hs, h⟩ := h
        refine jr_ast C G (show 0 < 1 by decide) (by decide) (by decide) (by decide) rfl rfl hs dX12_setBarrier_63 (fun H locs G => ?_)
        obtain ⟨M7, eM7⟩ : ∃ z : jM, z = jup M1 50 0 ((585 * v1) + 2).toNatClampNeg 0 := ⟨_, rfl⟩
        rw [← eM7] at G
        have h := h M7 eM7
        have nM7 : jnb M7 = jnb M1 := by rw [eM7]; exact jnb_up (by decide)
        refine lv_iload_n C.x C.b dX12_setBarrier_64 rfl (lv_at hl 0 rfl) ?_
        exact jr_retZ C hr G rfl h (by decide) (by decide) dX12_setBarrier_65
      · have h := h.2 hc
        refine lv_iconst (v := 1) C.x C.b dX12_setBarrier_58 (by decide) ?_
        refine lv_goto (tgt := 63) C.x C.b dX12_setBarrier_59 (by decide) ?_
        obtain ⟨hs, h⟩ := h
        refine jr_ast C G (show 0 < 1 by decide) (by decide) (by decide) (by decide) rfl rfl hs dX12_setBarrier_63 (fun H locs G => ?_)
        obtain ⟨M8, eM8⟩ : ∃ z : jM, z = jup M1 50 0 ((585 * v1) + 2).toNatClampNeg 1 := ⟨_, rfl⟩
        rw [← eM8] at G
        have h := h M8 eM8
        have nM8 : jnb M8 = jnb M1 := by rw [eM8]; exact jnb_up (by decide)
        refine lv_iload_n C.x C.b dX12_setBarrier_64 rfl (lv_at hl 0 rfl) ?_
        exact jr_retZ C hr G rfl h (by decide) (by decide) dX12_setBarrier_65
    · have h := h.1 hc
      refine lv_iconst (v := 1) C.x C.b dX12_setBarrier_37 (by decide) ?_
      refine lv_goto (tgt := 42) C.x C.b dX12_setBarrier_38 (by decide) ?_
      refine lv_istore_n (lv' := [(3, .int 1), (0, .ref (g 11 0)), (1, .int v1), (2, .int v2)]) C.x C.b dX12_setBarrier_42 rfl hl (by decide) rfl (fun ls hl => ?_)
      refine lv_aload_n C.x C.b dX12_setBarrier_43 rfl (lv_at hl 1 rfl) ?_
      refine jr_get C G jc11 1 (v := .ref (g 50 0)) (show 0 < 1 by decide) (by decide) (by decide) rfl wd1192 dX12_setBarrier_44 ?_
      refine lv_sipush (v := 585) C.x C.b dX12_setBarrier_47 (by decide) ?_
      refine lv_iload_n C.x C.b dX12_setBarrier_50 rfl (lv_at hl 2 rfl) ?_
      refine lv_imul C.x C.b dX12_setBarrier_51 ?_
      refine lv_iconst (v := 2) C.x C.b dX12_setBarrier_52 (by decide) ?_
      refine lv_iadd C.x C.b dX12_setBarrier_53 ?_
      refine lv_iload_n C.x C.b dX12_setBarrier_54 rfl (lv_at hl 3 rfl) ?_
      refine lv_if_eq (tgt := 62) C.x C.b dX12_setBarrier_55 (by decide) (fun hc => ?_) (fun hc => ?_)
      · have h := h.1 hc
        refine lv_iconst (v := 0) C.x C.b dX12_setBarrier_62 (by decide) ?_
        obtain ⟨hs, h⟩ := h
        refine jr_ast C G (show 0 < 1 by decide) (by decide) (by decide) (by decide) rfl rfl hs dX12_setBarrier_63 (fun H locs G => ?_)
        obtain ⟨M9, eM9⟩ : ∃ z : jM, z = jup M1 50 0 ((585 * v1) + 2).toNatClampNeg 0 := ⟨_, rfl⟩
        rw [← eM9] at G
        have h := h M9 eM9
        have nM9 : jnb M9 = jnb M1 := by rw [eM9]; exact jnb_up (by decide)
        refine lv_iload_n C.x C.b dX12_setBarrier_64 rfl (lv_at hl 0 rfl) ?_
        exact jr_retZ C hr G rfl h (by decide) (by decide) dX12_setBarrier_65
      · have h := h.2 hc
        refine lv_iconst (v := 1) C.x C.b dX12_setBarrier_58 (by decide) ?_
        refine lv_goto (tgt := 63) C.x C.b dX12_setBarrier_59 (by decide) ?_
        obtain ⟨hs, h⟩ := h
        refine jr_ast C G (show 0 < 1 by decide) (by decide) (by decide) (by decide) rfl rfl hs dX12_setBarrier_63 (fun H locs G => ?_)
        obtain ⟨M10, eM10⟩ : ∃ z : jM, z = jup M1 50 0 ((585 * v1) + 2).toNatClampNeg 1 := ⟨_, rfl⟩
        rw [← eM10] at G
        have h := h M10 eM10
        have nM10 : jnb M10 = jnb M1 := by rw [eM10]; exact jnb_up (by decide)
        refine lv_iload_n C.x C.b dX12_setBarrier_64 rfl (lv_at hl 0 rfl) ?_
        exact jr_retZ C hr G rfl h (by decide) (by decide) dX12_setBarrier_65
  · have h := h.2 (jb_0 hc)
    refine lv_aload_n C.x C.b dX12_setBarrier_13 rfl (lv_at hl 0 rfl) ?_
    refine lv_iconst (v := 1) C.x C.b dX12_setBarrier_14 (by decide) ?_
    refine jr_V (d' := 2) C G jc11 jm_X12_refuse wd1296 (sp_X12_refuse ⟨rfl, rfl⟩ : ok_X12_refuse 1 M1 (fun r _ M' => 0 = r ∧ M' = jup M1 11 0 7 1)) rfl (show 0 < 1 by decide) (by decide) rfl rfl (by omega) (by decide) (by decide) ⟨rfl, rfl⟩ hl.1 (Nat.le_of_ble_eq_true rfl) dX12_setBarrier_15 (fun r11 r11n M12 H locs hq G => ?_)
    obtain ⟨eq1, eM12⟩ := hq
    subst eq1
    have h := h M12 eM12
    have nM12 : jnb M12 = jnb M1 := by rw [eM12]; first | exact jnb_up (by decide) | simp [jnb_up]
    refine lv_if_eq (tgt := 25) C.x C.b dX12_setBarrier_18 (by decide) (fun _ => ?_) (fun hc => absurd hc (by decide))
    refine lv_iconst (v := 0) C.x C.b dX12_setBarrier_25 (by decide) ?_
    exact jr_retZ C hr G rfl h (by decide) (by decide) dX12_setBarrier_26

theorem en_X12_isDependence {v1 : Int32} {v2 : Int32} {v3 : Int32} {v4 : Int32} {M : jM} {Q : Int32 → Nat → jM → Prop} (h : at_X12_isDependence_0 v1 v2 v3 v4 M Q) : ok_X12_isDependence v1 v2 v3 v4 M Q := jr_enter (by decide) (fun g => rfl) (fun g => Nat.le_of_ble_eq_true rfl) h
set_option maxHeartbeats 4000000 in
set_option maxRecDepth 100000 in
theorem bl_X12_isDependence_0 (v1 : Int32) (v2 : Int32) (v3 : Int32) (v4 : Int32) (M : jM) (Q : Int32 → Nat → jM → Prop) 
  (h : (vp_in (585 * v1 + (5 + v2)) 3510) ∧ (vp_in (585 * v3 + (5 + v4)) 3510) ∧ ((M 50 0 (585 * v1 + (5 + v2)).toNatClampNeg) = (M 50 0 (585 * v3 + (5 + v4)).toNatClampNeg) → (vp_in (585 * v1 + (53 + v2)) 3510) ∧ ((M 50 0 (585 * v1 + (53 + v2)).toNatClampNeg = 1) → (vp_in (585 * v1 + (29 + v2)) 3510) ∧ (vp_in (585 * v3 + (29 + v4)) 3510) ∧ (vp_in (585 * v1 + 0) 3510) ∧ (vp_in (585 * v3 + 1) 3510) ∧ ((M 50 0 (585 * v3 + 1).toNatClampNeg) < ((M 50 0 (585 * v1 + 0).toNatClampNeg) + ((M 50 0 (585 * v1 + (29 + v2)).toNatClampNeg) - (M 50 0 (585 * v3 + (29 + v4)).toNatClampNeg))) → Q 0 0 M) ∧ (¬ ((M 50 0 (585 * v3 + 1).toNatClampNeg) < ((M 50 0 (585 * v1 + 0).toNatClampNeg) + ((M 50 0 (585 * v1 + (29 + v2)).toNatClampNeg) - (M 50 0 (585 * v3 + (29 + v4)).toNatClampNeg)))) → (vp_in (585 * v3 + 0) 3510) ∧ (vp_in (585 * v1 + 1) 3510) ∧ (((M 50 0 (585 * v1 + 1).toNatClampNeg) + ((M 50 0 (585 * v1 + (29 + v2)).toNatClampNeg) - (M 50 0 (585 * v3 + (29 + v4)).toNatClampNeg))) < (M 50 0 (585 * v3 + 0).toNatClampNeg) → Q 0 0 M) ∧ (¬ (((M 50 0 (585 * v1 + 1).toNatClampNeg) + ((M 50 0 (585 * v1 + (29 + v2)).toNatClampNeg) - (M 50 0 (585 * v3 + (29 + v4)).toNatClampNeg))) < (M 50 0 (585 * v3 + 0).toNatClampNeg)) → Q 1 0 M))) ∧ (¬ (M 50 0 (585 * v1 + (53 + v2)).toNatClampNeg = 1) → (vp_in (585 * v3 + (53 + v4)) 3510) ∧ ((M 50 0 (585 * v3 + (53 + v4)).toNatClampNeg = 1) → (vp_in (585 * v1 + (29 + v2)) 3510) ∧ (vp_in (585 * v3 + (29 + v4)) 3510) ∧ (vp_in (585 * v1 + 0) 3510) ∧ (vp_in (585 * v3 + 1) 3510) ∧ ((M 50 0 (585 * v3 + 1).toNatClampNeg) < ((M 50 0 (585 * v1 + 0).toNatClampNeg) + ((M 50 0 (585 * v1 + (29 + v2)).toNatClampNeg) - (M 50 0 (585 * v3 + (29 + v4)).toNatClampNeg))) → Q 0 0 M) ∧ (¬ ((M 50 0 (585 * v3 + 1).toNatClampNeg) < ((M 50 0 (585 * v1 + 0).toNatClampNeg) + ((M 50 0 (585 * v1 + (29 + v2)).toNatClampNeg) - (M 50 0 (585 * v3 + (29 + v4)).toNatClampNeg)))) → (vp_in (585 * v3 + 0) 3510) ∧ (vp_in (585 * v1 + 1) 3510) ∧ (((M 50 0 (585 * v1 + 1).toNatClampNeg) + ((M 50 0 (585 * v1 + (29 + v2)).toNatClampNeg) - (M 50 0 (585 * v3 + (29 + v4)).toNatClampNeg))) < (M 50 0 (585 * v3 + 0).toNatClampNeg) → Q 0 0 M) ∧ (¬ (((M 50 0 (585 * v1 + 1).toNatClampNeg) + ((M 50 0 (585 * v1 + (29 + v2)).toNatClampNeg) - (M 50 0 (585 * v3 + (29 + v4)).toNatClampNeg))) < (M 50 0 (585 * v3 + 0).toNatClampNeg)) → Q 1 0 M))) ∧ (¬ (M 50 0 (585 * v3 + (53 + v4)).toNatClampNeg = 1) → (vp_in (585 * v1 + (29 + v2)) 3510) ∧ (vp_in (585 * v3 + (29 + v4)) 3510) ∧ Q 0 0 M))) ∧ (¬ ((M 50 0 (585 * v1 + (5 + v2)).toNatClampNeg) = (M 50 0 (585 * v3 + (5 + v4)).toNatClampNeg)) → (vp_in (585 * v1 + (29 + v2)) 3510) ∧ (vp_in (585 * v3 + (29 + v4)) 3510) ∧ Q 0 0 M)) :
  at_X12_isDependence_0 v1 v2 v3 v4 M Q := by
  intro p l e s m args below meth c D cA base g C hr htb H locs G ls hl
  refine lv_aload_n C.x C.b dX12_isDependence_0 rfl (lv_at hl 0 rfl) ?_
  refine lv_iload_n C.x C.b dX12_isDependence_1 rfl (lv_at hl 1 rfl) ?_
  refine lv_iload_n C.x C.b dX12_isDependence_2 rfl (lv_at hl 2 rfl) ?_
  obtain ⟨hp3, h⟩ := h
  refine jr_V (d' := 2) C G jc11 jm_X12_arrayOf wd1445 (sp_X12_arrayOf hp3 ⟨rfl, rfl⟩ : ok_X12_arrayOf v1 v2 M (fun r _ M' => (M 50 0 (585 * v1 + (5 + v2)).toNatClampNeg) = r ∧ M = M')) rfl (show 0 < 1 by decide) (by decide) rfl rfl (by omega) (by decide) (by decide) ⟨rfl, rfl⟩ hl.1 (Nat.le_of_ble_eq_true rfl) dX12_isDependence_3 (fun r1 r1n M2 H locs hq G => ?_)
  obtain ⟨eq1, eq2⟩ := hq
  subst eq1
  subst eq2
  refine lv_aload_n C.x C.b dX12_isDependence_6 rfl (lv_at hl 0 rfl) ?_
  refine lv_iload_n C.x C.b dX12_isDependence_7 rfl (lv_at hl 3 rfl) ?_
  refine lv_iload C.x C.b dX12_isDependence_8 (lv_at hl 4 rfl) ?_
  obtain ⟨hp6, h⟩ := h
  refine jr_V (d' := 2) C G jc11 jm_X12_arrayOf wd1445 (sp_X12_arrayOf hp6 ⟨rfl, rfl⟩ : ok_X12_arrayOf v3 v4 M (fun r _ M' => (M 50 0 (585 * v3 + (5 + v4)).toNatClampNeg) = r ∧ M = M')) rfl (show 0 < 1 by decide) (by decide) rfl rfl (by omega) (by decide) (by decide) ⟨rfl, rfl⟩ hl.1 (Nat.le_of_ble_eq_true rfl) dX12_isDependence_10 (fun r4 r4n M5 H locs hq G => ?_)
  obtain ⟨eq1, eq2⟩ := hq
  subst eq1
  subst eq2
  refine lv_icmp_ne (tgt := 39) C.x C.b dX12_isDependence_13 (by decide) (fun hc => ?_) (fun hc => ?_)
  · have h := h.2 hc
    refine lv_iconst (v := 0) C.x C.b dX12_isDependence_39 (by decide) ?_
    refine lv_istore (lv' := [(5, .int 0), (0, .ref (g 11 0)), (1, .int v1), (2, .int v2), (3, .int v3), (4, .int v4)]) C.x C.b dX12_isDependence_40 hl (by decide) rfl (fun ls hl => ?_)
    refine lv_aload_n C.x C.b dX12_isDependence_42 rfl (lv_at hl 1 rfl) ?_
    refine lv_iload_n C.x C.b dX12_isDependence_43 rfl (lv_at hl 2 rfl) ?_
    refine lv_iload_n C.x C.b dX12_isDependence_44 rfl (lv_at hl 3 rfl) ?_
    obtain ⟨hp9, h⟩ := h
    refine jr_V (d' := 2) C G jc11 jm_X12_offsetOf wd1449 (sp_X12_offsetOf hp9 ⟨rfl, rfl⟩ : ok_X12_offsetOf v1 v2 M (fun r _ M' => (M 50 0 (585 * v1 + (29 + v2)).toNatClampNeg) = r ∧ M = M')) rfl (show 0 < 1 by decide) (by decide) rfl rfl (by omega) (by decide) (by decide) ⟨rfl, rfl⟩ hl.1 (Nat.le_of_ble_eq_true rfl) dX12_isDependence_45 (fun r7 r7n M8 H locs hq G => ?_)
    obtain ⟨eq1, eq2⟩ := hq
    subst eq1
    subst eq2
    refine lv_aload_n C.x C.b dX12_isDependence_48 rfl (lv_at hl 1 rfl) ?_
    refine lv_iload_n C.x C.b dX12_isDependence_49 rfl (lv_at hl 4 rfl) ?_
    refine lv_iload C.x C.b dX12_isDependence_50 (lv_at hl 5 rfl) ?_
    obtain ⟨hp12, h⟩ := h
    refine jr_V (d' := 2) C G jc11 jm_X12_offsetOf wd1449 (sp_X12_offsetOf hp12 ⟨rfl, rfl⟩ : ok_X12_offsetOf v3 v4 M (fun r _ M' => (M 50 0 (585 * v3 + (29 + v4)).toNatClampNeg) = r ∧ M = M')) rfl (show 0 < 1 by decide) (by decide) rfl rfl (by omega) (by decide) (by decide) ⟨rfl, rfl⟩ hl.1 (Nat.le_of_ble_eq_true rfl) dX12_isDependence_52 (fun r10 r10n M11 H locs hq G => ?_)
    obtain ⟨eq1, eq2⟩ := hq
    subst eq1
    subst eq2
    refine lv_isub C.x C.b dX12_isDependence_55 ?_
    refine lv_istore (lv' := [(6, .int ((M 50 0 (585 * v1 + (29 + v2)).toNatClampNeg) - (M 50 0 (585 * v3 + (29 + v4)).toNatClampNeg))), (5, .int 0), (0, .ref (g 11 0)), (1, .int v1), (2, .int v2), (3, .int v3), (4, .int v4)]) C.x C.b dX12_isDependence_56 hl (by decide) rfl (fun ls hl => ?_)
    refine lv_iload C.x C.b dX12_isDependence_58 (lv_at hl 1 rfl) ?_
    refine lv_if_eq (tgt := 103) C.x C.b dX12_isDependence_60 (by decide) (fun _ => ?_) (fun hc => absurd hc (by decide))
    refine lv_iconst (v := 0) C.x C.b dX12_isDependence_103 (by decide) ?_
    exact jr_retZ C hr G rfl h (by decide) (by decide) dX12_isDependence_104
  · have h := h.1 hc
    refine lv_aload_n C.x C.b dX12_isDependence_16 rfl (lv_at hl 0 rfl) ?_
    refine lv_iload_n C.x C.b dX12_isDependence_17 rfl (lv_at hl 1 rfl) ?_
    refine lv_iload_n C.x C.b dX12_isDependence_18 rfl (lv_at hl 2 rfl) ?_
    obtain ⟨hp15, h⟩ := h
    refine jr_V (d' := 2) C G jc11 jm_X12_isWrite wd1477 (sp_X12_isWrite hp15 ⟨rfl, rfl⟩ : ok_X12_isWrite v1 v2 M (fun r _ M' => jb (M 50 0 (585 * v1 + (53 + v2)).toNatClampNeg = 1) = r ∧ M = M')) rfl (show 0 < 1 by decide) (by decide) rfl rfl (by omega) (by decide) (by decide) ⟨rfl, rfl⟩ hl.1 (Nat.le_of_ble_eq_true rfl) dX12_isDependence_19 (fun r13 r13n M14 H locs hq G => ?_)
    obtain ⟨eq1, eq2⟩ := hq
    subst eq1
    subst eq2
    refine lv_if_ne (tgt := 35) C.x C.b dX12_isDependence_22 (by decide) (fun hc => ?_) (fun hc => ?_)
    · have h := h.1 (jb_1 hc)
      refine lv_iconst (v := 1) C.x C.b dX12_isDependence_35 (by decide) ?_
      refine lv_goto (tgt := 40) C.x C.b dX12_isDependence_36 (by decide) ?_
      refine lv_istore (lv' := [(5, .int 1), (0, .ref (g 11 0)), (1, .int v1), (2, .int v2), (3, .int v3), (4, .int v4)]) C.x C.b dX12_isDependence_40 hl (by decide) rfl (fun ls hl => ?_)
      refine lv_aload_n C.x C.b dX12_isDependence_42 rfl (lv_at hl 1 rfl) ?_
      refine lv_iload_n C.x C.b dX12_isDependence_43 rfl (lv_at hl 2 rfl) ?_
      refine lv_iload_n C.x C.b dX12_isDependence_44 rfl (lv_at hl 3 rfl) ?_
      obtain ⟨hp18, h⟩ := h
      refine jr_V (d' := 2) C G jc11 jm_X12_offsetOf wd1449 (sp_X12_offsetOf hp18 ⟨rfl, rfl⟩ : ok_X12_offsetOf v1 v2 M (fun r _ M' => (M 50 0 (585 * v1 + (29 + v2)).toNatClampNeg) = r ∧ M = M')) rfl (show 0 < 1 by decide) (by decide) rfl rfl (by omega) (by decide) (by decide) ⟨rfl, rfl⟩ hl.1 (Nat.le_of_ble_eq_true rfl) dX12_isDependence_45 (fun r16 r16n M17 H locs hq G => ?_)
      obtain ⟨eq1, eq2⟩ := hq
      subst eq1
      subst eq2
      refine lv_aload_n C.x C.b dX12_isDependence_48 rfl (lv_at hl 1 rfl) ?_
      refine lv_iload_n C.x C.b dX12_isDependence_49 rfl (lv_at hl 4 rfl) ?_
      refine lv_iload C.x C.b dX12_isDependence_50 (lv_at hl 5 rfl) ?_
      obtain ⟨hp21, h⟩ := h
      refine jr_V (d' := 2) C G jc11 jm_X12_offsetOf wd1449 (sp_X12_offsetOf hp21 ⟨rfl, rfl⟩ : ok_X12_offsetOf v3 v4 M (fun r _ M' => (M 50 0 (585 * v3 + (29 + v4)).toNatClampNeg) = r ∧ M = M')) rfl (show 0 < 1 by decide) (by decide) rfl rfl (by omega) (by decide) (by decide) ⟨rfl, rfl⟩ hl.1 (Nat.le_of_ble_eq_true rfl) dX12_isDependence_52 (fun r19 r19n M20 H locs hq G => ?_)
      obtain ⟨eq1, eq2⟩ := hq
      subst eq1
      subst eq2
      refine lv_isub C.x C.b dX12_isDependence_55 ?_
      refine lv_istore (lv' := [(6, .int ((M 50 0 (585 * v1 + (29 + v2)).toNatClampNeg) - (M 50 0 (585 * v3 + (29 + v4)).toNatClampNeg))), (5, .int 1), (0, .ref (g 11 0)), (1, .int v1), (2, .int v2), (3, .int v3), (4, .int v4)]) C.x C.b dX12_isDependence_56 hl (by decide) rfl (fun ls hl => ?_)
      refine lv_iload C.x C.b dX12_isDependence_58 (lv_at hl 1 rfl) ?_
      refine lv_if_eq (tgt := 103) C.x C.b dX12_isDependence_60 (by decide) (fun hc => absurd hc (by decide)) (fun _ => ?_)
      refine lv_aload_n C.x C.b dX12_isDependence_63 rfl (lv_at hl 2 rfl) ?_
      refine lv_iload_n C.x C.b dX12_isDependence_64 rfl (lv_at hl 3 rfl) ?_
      refine lv_iconst (v := 0) C.x C.b dX12_isDependence_65 (by decide) ?_
      obtain ⟨hp24, h⟩ := h
      refine jr_V (d' := 2) C G jc11 jm_X12_of wd1384 (sp_X12_of hp24 ⟨rfl, rfl⟩ : ok_X12_of v1 0 M (fun r _ M' => (M 50 0 (585 * v1 + 0).toNatClampNeg) = r ∧ M = M')) rfl (show 0 < 1 by decide) (by decide) rfl rfl (by omega) (by decide) (by decide) ⟨rfl, rfl⟩ hl.1 (Nat.le_of_ble_eq_true rfl) dX12_isDependence_66 (fun r22 r22n M23 H locs hq G => ?_)
      obtain ⟨eq1, eq2⟩ := hq
      subst eq1
      subst eq2
      refine lv_iload C.x C.b dX12_isDependence_69 (lv_at hl 0 rfl) ?_
      refine lv_iadd C.x C.b dX12_isDependence_71 ?_
      refine lv_aload_n C.x C.b dX12_isDependence_72 rfl (lv_at hl 2 rfl) ?_
      refine lv_iload_n C.x C.b dX12_isDependence_73 rfl (lv_at hl 5 rfl) ?_
      refine lv_iconst (v := 1) C.x C.b dX12_isDependence_74 (by decide) ?_
      obtain ⟨hp27, h⟩ := h
      refine jr_V (d' := 2) C G jc11 jm_X12_of wd1384 (sp_X12_of hp27 ⟨rfl, rfl⟩ : ok_X12_of v3 1 M (fun r _ M' => (M 50 0 (585 * v3 + 1).toNatClampNeg) = r ∧ M = M')) rfl (show 0 < 1 by decide) (by decide) rfl rfl (by omega) (by decide) (by decide) ⟨rfl, rfl⟩ hl.1 (Nat.le_of_ble_eq_true rfl) dX12_isDependence_75 (fun r25 r25n M26 H locs hq G => ?_)
      obtain ⟨eq1, eq2⟩ := hq
      subst eq1
      subst eq2
      refine lv_icmp_gt (tgt := 103) C.x C.b dX12_isDependence_78 (by decide) (fun hc => ?_) (fun hc => ?_)
      · have h := h.1 hc
        refine lv_iconst (v := 0) C.x C.b dX12_isDependence_103 (by decide) ?_
        exact jr_retZ C hr G rfl h (by decide) (by decide) dX12_isDependence_104
      · have h := h.2 hc
        refine lv_aload_n C.x C.b dX12_isDependence_81 rfl (lv_at hl 2 rfl) ?_
        refine lv_iload_n C.x C.b dX12_isDependence_82 rfl (lv_at hl 5 rfl) ?_
        refine lv_iconst (v := 0) C.x C.b dX12_isDependence_83 (by decide) ?_
        obtain ⟨hp30, h⟩ := h
        refine jr_V (d' := 2) C G jc11 jm_X12_of wd1384 (sp_X12_of hp30 ⟨rfl, rfl⟩ : ok_X12_of v3 0 M (fun r _ M' => (M 50 0 (585 * v3 + 0).toNatClampNeg) = r ∧ M = M')) rfl (show 0 < 1 by decide) (by decide) rfl rfl (by omega) (by decide) (by decide) ⟨rfl, rfl⟩ hl.1 (Nat.le_of_ble_eq_true rfl) dX12_isDependence_84 (fun r28 r28n M29 H locs hq G => ?_)
        obtain ⟨eq1, eq2⟩ := hq
        subst eq1
        subst eq2
        refine lv_aload_n C.x C.b dX12_isDependence_87 rfl (lv_at hl 2 rfl) ?_
        refine lv_iload_n C.x C.b dX12_isDependence_88 rfl (lv_at hl 3 rfl) ?_
        refine lv_iconst (v := 1) C.x C.b dX12_isDependence_89 (by decide) ?_
        obtain ⟨hp33, h⟩ := h
        refine jr_V (d' := 2) C G jc11 jm_X12_of wd1384 (sp_X12_of hp33 ⟨rfl, rfl⟩ : ok_X12_of v1 1 M (fun r _ M' => (M 50 0 (585 * v1 + 1).toNatClampNeg) = r ∧ M = M')) rfl (show 0 < 1 by decide) (by decide) rfl rfl (by omega) (by decide) (by decide) ⟨rfl, rfl⟩ hl.1 (Nat.le_of_ble_eq_true rfl) dX12_isDependence_90 (fun r31 r31n M32 H locs hq G => ?_)
        obtain ⟨eq1, eq2⟩ := hq
        subst eq1
        subst eq2
        refine lv_iload C.x C.b dX12_isDependence_93 (lv_at hl 0 rfl) ?_
        refine lv_iadd C.x C.b dX12_isDependence_95 ?_
        refine lv_icmp_gt (tgt := 103) C.x C.b dX12_isDependence_96 (by decide) (fun hc => ?_) (fun hc => ?_)
        · have h := h.1 hc
          refine lv_iconst (v := 0) C.x C.b dX12_isDependence_103 (by decide) ?_
          exact jr_retZ C hr G rfl h (by decide) (by decide) dX12_isDependence_104
        · have h := h.2 hc
          refine lv_iconst (v := 1) C.x C.b dX12_isDependence_99 (by decide) ?_
          refine lv_goto (tgt := 104) C.x C.b dX12_isDependence_100 (by decide) ?_
          exact jr_retZ C hr G rfl h (by decide) (by decide) dX12_isDependence_104
    · have h := h.2 (jb_0 hc)
      refine lv_aload_n C.x C.b dX12_isDependence_25 rfl (lv_at hl 0 rfl) ?_
      refine lv_iload_n C.x C.b dX12_isDependence_26 rfl (lv_at hl 3 rfl) ?_
      refine lv_iload C.x C.b dX12_isDependence_27 (lv_at hl 4 rfl) ?_
      obtain ⟨hp36, h⟩ := h
      refine jr_V (d' := 2) C G jc11 jm_X12_isWrite wd1477 (sp_X12_isWrite hp36 ⟨rfl, rfl⟩ : ok_X12_isWrite v3 v4 M (fun r _ M' => jb (M 50 0 (585 * v3 + (53 + v4)).toNatClampNeg = 1) = r ∧ M = M')) rfl (show 0 < 1 by decide) (by decide) rfl rfl (by omega) (by decide) (by decide) ⟨rfl, rfl⟩ hl.1 (Nat.le_of_ble_eq_true rfl) dX12_isDependence_29 (fun r34 r34n M35 H locs hq G => ?_)
      obtain ⟨eq1, eq2⟩ := hq
      subst eq1
      subst eq2
      refine lv_if_eq (tgt := 39) C.x C.b dX12_isDependence_32 (by decide) (fun hc => ?_) (fun hc => ?_)
      · have h := h.2 (jb_0 hc)
        refine lv_iconst (v := 0) C.x C.b dX12_isDependence_39 (by decide) ?_
        refine lv_istore (lv' := [(5, .int 0), (0, .ref (g 11 0)), (1, .int v1), (2, .int v2), (3, .int v3), (4, .int v4)]) C.x C.b dX12_isDependence_40 hl (by decide) rfl (fun ls hl => ?_)
        refine lv_aload_n C.x C.b dX12_isDependence_42 rfl (lv_at hl 1 rfl) ?_
        refine lv_iload_n C.x C.b dX12_isDependence_43 rfl (lv_at hl 2 rfl) ?_
        refine lv_iload_n C.x C.b dX12_isDependence_44 rfl (lv_at hl 3 rfl) ?_
        obtain ⟨hp39, h⟩ := h
        refine jr_V (d' := 2) C G jc11 jm_X12_offsetOf wd1449 (sp_X12_offsetOf hp39 ⟨rfl, rfl⟩ : ok_X12_offsetOf v1 v2 M (fun r _ M' => (M 50 0 (585 * v1 + (29 + v2)).toNatClampNeg) = r ∧ M = M')) rfl (show 0 < 1 by decide) (by decide) rfl rfl (by omega) (by decide) (by decide) ⟨rfl, rfl⟩ hl.1 (Nat.le_of_ble_eq_true rfl) dX12_isDependence_45 (fun r37 r37n M38 H locs hq G => ?_)
        obtain ⟨eq1, eq2⟩ := hq
        subst eq1
        subst eq2
        refine lv_aload_n C.x C.b dX12_isDependence_48 rfl (lv_at hl 1 rfl) ?_
        refine lv_iload_n C.x C.b dX12_isDependence_49 rfl (lv_at hl 4 rfl) ?_
        refine lv_iload C.x C.b dX12_isDependence_50 (lv_at hl 5 rfl) ?_
        obtain ⟨hp42, h⟩ := h
        refine jr_V (d' := 2) C G jc11 jm_X12_offsetOf wd1449 (sp_X12_offsetOf hp42 ⟨rfl, rfl⟩ : ok_X12_offsetOf v3 v4 M (fun r _ M' => (M 50 0 (585 * v3 + (29 + v4)).toNatClampNeg) = r ∧ M = M')) rfl (show 0 < 1 by decide) (by decide) rfl rfl (by omega) (by decide) (by decide) ⟨rfl, rfl⟩ hl.1 (Nat.le_of_ble_eq_true rfl) dX12_isDependence_52 (fun r40 r40n M41 H locs hq G => ?_)
        obtain ⟨eq1, eq2⟩ := hq
        subst eq1
        subst eq2
        refine lv_isub C.x C.b dX12_isDependence_55 ?_
        refine lv_istore (lv' := [(6, .int ((M 50 0 (585 * v1 + (29 + v2)).toNatClampNeg) - (M 50 0 (585 * v3 + (29 + v4)).toNatClampNeg))), (5, .int 0), (0, .ref (g 11 0)), (1, .int v1), (2, .int v2), (3, .int v3), (4, .int v4)]) C.x C.b dX12_isDependence_56 hl (by decide) rfl (fun ls hl => ?_)
        refine lv_iload C.x C.b dX12_isDependence_58 (lv_at hl 1 rfl) ?_
        refine lv_if_eq (tgt := 103) C.x C.b dX12_isDependence_60 (by decide) (fun _ => ?_) (fun hc => absurd hc (by decide))
        refine lv_iconst (v := 0) C.x C.b dX12_isDependence_103 (by decide) ?_
        exact jr_retZ C hr G rfl h (by decide) (by decide) dX12_isDependence_104
      · have h := h.1 (jb_1 hc)
        refine lv_iconst (v := 1) C.x C.b dX12_isDependence_35 (by decide) ?_
        refine lv_goto (tgt := 40) C.x C.b dX12_isDependence_36 (by decide) ?_
        refine lv_istore (lv' := [(5, .int 1), (0, .ref (g 11 0)), (1, .int v1), (2, .int v2), (3, .int v3), (4, .int v4)]) C.x C.b dX12_isDependence_40 hl (by decide) rfl (fun ls hl => ?_)
        refine lv_aload_n C.x C.b dX12_isDependence_42 rfl (lv_at hl 1 rfl) ?_
        refine lv_iload_n C.x C.b dX12_isDependence_43 rfl (lv_at hl 2 rfl) ?_
        refine lv_iload_n C.x C.b dX12_isDependence_44 rfl (lv_at hl 3 rfl) ?_
        obtain ⟨hp45, h⟩ := h
        refine jr_V (d' := 2) C G jc11 jm_X12_offsetOf wd1449 (sp_X12_offsetOf hp45 ⟨rfl, rfl⟩ : ok_X12_offsetOf v1 v2 M (fun r _ M' => (M 50 0 (585 * v1 + (29 + v2)).toNatClampNeg) = r ∧ M = M')) rfl (show 0 < 1 by decide) (by decide) rfl rfl (by omega) (by decide) (by decide) ⟨rfl, rfl⟩ hl.1 (Nat.le_of_ble_eq_true rfl) dX12_isDependence_45 (fun r43 r43n M44 H locs hq G => ?_)
        obtain ⟨eq1, eq2⟩ := hq
        subst eq1
        subst eq2
        refine lv_aload_n C.x C.b dX12_isDependence_48 rfl (lv_at hl 1 rfl) ?_
        refine lv_iload_n C.x C.b dX12_isDependence_49 rfl (lv_at hl 4 rfl) ?_
        refine lv_iload C.x C.b dX12_isDependence_50 (lv_at hl 5 rfl) ?_
        obtain ⟨hp48, h⟩ := h
        refine jr_V (d' := 2) C G jc11 jm_X12_offsetOf wd1449 (sp_X12_offsetOf hp48 ⟨rfl, rfl⟩ : ok_X12_offsetOf v3 v4 M (fun r _ M' => (M 50 0 (585 * v3 + (29 + v4)).toNatClampNeg) = r ∧ M = M')) rfl (show 0 < 1 by decide) (by decide) rfl rfl (by omega) (by decide) (by decide) ⟨rfl, rfl⟩ hl.1 (Nat.le_of_ble_eq_true rfl) dX12_isDependence_52 (fun r46 r46n M47 H locs hq G => ?_)
        obtain ⟨eq1, eq2⟩ := hq
        subst eq1
        subst eq2
        refine lv_isub C.x C.b dX12_isDependence_55 ?_
        refine lv_istore (lv' := [(6, .int ((M 50 0 (585 * v1 + (29 + v2)).toNatClampNeg) - (M 50 0 (585 * v3 + (29 + v4)).toNatClampNeg))), (5, .int 1), (0, .ref (g 11 0)), (1, .int v1), (2, .int v2), (3, .int v3), (4, .int v4)]) C.x C.b dX12_isDependence_56 hl (by decide) rfl (fun ls hl => ?_)
        refine lv_iload C.x C.b dX12_isDependence_58 (lv_at hl 1 rfl) ?_
        refine lv_if_eq (tgt := 103) C.x C.b dX12_isDependence_60 (by decide) (fun hc => absurd hc (by decide)) (fun _ => ?_)
        refine lv_aload_n C.x C.b dX12_isDependence_63 rfl (lv_at hl 2 rfl) ?_
        refine lv_iload_n C.x C.b dX12_isDependence_64 rfl (lv_at hl 3 rfl) ?_
        refine lv_iconst (v := 0) C.x C.b dX12_isDependence_65 (by decide) ?_
        obtain ⟨hp51, h⟩ := h
        refine jr_V (d' := 2) C G jc11 jm_X12_of wd1384 (sp_X12_of hp51 ⟨rfl, rfl⟩ : ok_X12_of v1 0 M (fun r _ M' => (M 50 0 (585 * v1 + 0).toNatClampNeg) = r ∧ M = M')) rfl (show 0 < 1 by decide) (by decide) rfl rfl (by omega) (by decide) (by decide) ⟨rfl, rfl⟩ hl.1 (Nat.le_of_ble_eq_true rfl) dX12_isDependence_66 (fun r49 r49n M50 H locs hq G => ?_)
        obtain ⟨eq1, eq2⟩ := hq
        subst eq1
        subst eq2
        refine lv_iload C.x C.b dX12_isDependence_69 (lv_at hl 0 rfl) ?_
        refine lv_iadd C.x C.b dX12_isDependence_71 ?_
        refine lv_aload_n C.x C.b dX12_isDependence_72 rfl (lv_at hl 2 rfl) ?_
        refine lv_iload_n C.x C.b dX12_isDependence_73 rfl (lv_at hl 5 rfl) ?_
        refine lv_iconst (v := 1) C.x C.b dX12_isDependence_74 (by decide) ?_
        obtain ⟨hp54, h⟩ := h
        refine jr_V (d' := 2) C G jc11 jm_X12_of wd1384 (sp_X12_of hp54 ⟨rfl, rfl⟩ : ok_X12_of v3 1 M (fun r _ M' => (M 50 0 (585 * v3 + 1).toNatClampNeg) = r ∧ M = M')) rfl (show 0 < 1 by decide) (by decide) rfl rfl (by omega) (by decide) (by decide) ⟨rfl, rfl⟩ hl.1 (Nat.le_of_ble_eq_true rfl) dX12_isDependence_75 (fun r52 r52n M53 H locs hq G => ?_)
        obtain ⟨eq1, eq2⟩ := hq
        subst eq1
        subst eq2
        refine lv_icmp_gt (tgt := 103) C.x C.b dX12_isDependence_78 (by decide) (fun hc => ?_) (fun hc => ?_)
        · have h := h.1 hc
          refine lv_iconst (v := 0) C.x C.b dX12_isDependence_103 (by decide) ?_
          exact jr_retZ C hr G rfl h (by decide) (by decide) dX12_isDependence_104
        · have h := h.2 hc
          refine lv_aload_n C.x C.b dX12_isDependence_81 rfl (lv_at hl 2 rfl) ?_
          refine lv_iload_n C.x C.b dX12_isDependence_82 rfl (lv_at hl 5 rfl) ?_
          refine lv_iconst (v := 0) C.x C.b dX12_isDependence_83 (by decide) ?_
          obtain ⟨hp57, h⟩ := h
          refine jr_V (d' := 2) C G jc11 jm_X12_of wd1384 (sp_X12_of hp57 ⟨rfl, rfl⟩ : ok_X12_of v3 0 M (fun r _ M' => (M 50 0 (585 * v3 + 0).toNatClampNeg) = r ∧ M = M')) rfl (show 0 < 1 by decide) (by decide) rfl rfl (by omega) (by decide) (by decide) ⟨rfl, rfl⟩ hl.1 (Nat.le_of_ble_eq_true rfl) dX12_isDependence_84 (fun r55 r55n M56 H locs hq G => ?_)
          obtain ⟨eq1, eq2⟩ := hq
          subst eq1
          subst eq2
          refine lv_aload_n C.x C.b dX12_isDependence_87 rfl (lv_at hl 2 rfl) ?_
          refine lv_iload_n C.x C.b dX12_isDependence_88 rfl (lv_at hl 3 rfl) ?_
          refine lv_iconst (v := 1) C.x C.b dX12_isDependence_89 (by decide) ?_
          obtain ⟨hp60, h⟩ := h
          refine jr_V (d' := 2) C G jc11 jm_X12_of wd1384 (sp_X12_of hp60 ⟨rfl, rfl⟩ : ok_X12_of v1 1 M (fun r _ M' => (M 50 0 (585 * v1 + 1).toNatClampNeg) = r ∧ M = M')) rfl (show 0 < 1 by decide) (by decide) rfl rfl (by omega) (by decide) (by decide) ⟨rfl, rfl⟩ hl.1 (Nat.le_of_ble_eq_true rfl) dX12_isDependence_90 (fun r58 r58n M59 H locs hq G => ?_)
          obtain ⟨eq1, eq2⟩ := hq
          subst eq1
          subst eq2
          refine lv_iload C.x C.b dX12_isDependence_93 (lv_at hl 0 rfl) ?_
          refine lv_iadd C.x C.b dX12_isDependence_95 ?_
          refine lv_icmp_gt (tgt := 103) C.x C.b dX12_isDependence_96 (by decide) (fun hc => ?_) (fun hc => ?_)
          · have h := h.1 hc
            refine lv_iconst (v := 0) C.x C.b dX12_isDependence_103 (by decide) ?_
            exact jr_retZ C hr G rfl h (by decide) (by decide) dX12_isDependence_104
          · have h := h.2 hc
            refine lv_iconst (v := 1) C.x C.b dX12_isDependence_99 (by decide) ?_
            refine lv_goto (tgt := 104) C.x C.b dX12_isDependence_100 (by decide) ?_
            exact jr_retZ C hr G rfl h (by decide) (by decide) dX12_isDependence_104

theorem en_X12_isAsked {v1 : Int32} {v2 : Int32} {M : jM} {Q : Int32 → Nat → jM → Prop} (h : at_X12_isAsked_0 v1 v2 M Q) : ok_X12_isAsked v1 v2 M Q := jr_enter (by decide) (fun g => rfl) (fun g => Nat.le_of_ble_eq_true rfl) h
set_option maxHeartbeats 4000000 in
set_option maxRecDepth 100000 in
theorem bl_X12_isAsked_0 (v1 : Int32) (v2 : Int32) (M : jM) (Q : Int32 → Nat → jM → Prop) 
  (h : ((0 ≤ v1 ∧ v1 ≤ 2) → ((0 ≤ v2 ∧ v2 ≤ M 11 0 0 - 1) → (∀ M5 : jM, M5 = jup M 11 0 7 0 → (M5 11 0 7 = 0 → Q 1 0 M5) ∧ (¬ (M5 11 0 7 = 0) → Q 0 0 M5))) ∧ (¬ (0 ≤ v2 ∧ v2 ≤ M 11 0 0 - 1) → (∀ M6 : jM, M6 = jup M 11 0 7 2 → (M6 11 0 7 = 0 → Q 1 0 M6) ∧ (¬ (M6 11 0 7 = 0) → Q 0 0 M6)))) ∧ (¬ (0 ≤ v1 ∧ v1 ≤ 2) → (∀ M7 : jM, M7 = jup M 11 0 7 1 → (M7 11 0 7 = 0 → Q 1 0 M7) ∧ (¬ (M7 11 0 7 = 0) → Q 0 0 M7)))) :
  at_X12_isAsked_0 v1 v2 M Q := by
  intro p l e s m args below meth c D cA base g C hr htb H locs G ls hl
  refine lv_aload_n C.x C.b dX12_isAsked_0 rfl (lv_at hl 0 rfl) ?_
  refine lv_iload_n C.x C.b dX12_isAsked_1 rfl (lv_at hl 1 rfl) ?_
  refine lv_iconst (v := 0) C.x C.b dX12_isAsked_2 (by decide) ?_
  refine lv_iconst (v := 2) C.x C.b dX12_isAsked_3 (by decide) ?_
  refine jr_S (d' := 2) C G jm_X12_in wd1293 (sp_X12_in ⟨rfl, rfl⟩ : ok_X12_in v1 0 2 M (fun r _ M' => jb (0 ≤ v1 ∧ v1 ≤ 2) = r ∧ M = M')) rfl rfl rfl (by omega) (by decide) (by decide) ⟨rfl, rfl⟩ hl.1 (Nat.le_of_ble_eq_true rfl) dX12_isAsked_4 (fun r1 r1n M2 H locs hq G => ?_)
  obtain ⟨eq1, eq2⟩ := hq
  subst eq1
  subst eq2
  refine lv_if_ne (tgt := 14) C.x C.b dX12_isAsked_7 (by decide) (fun hc => ?_) (fun hc => ?_)
  · have h := h.1 (jb_1 hc)
    refine lv_aload_n C.x C.b dX12_isAsked_14 rfl (lv_at hl 0 rfl) ?_
    refine lv_iload_n C.x C.b dX12_isAsked_15 rfl (lv_at hl 2 rfl) ?_
    refine jr_V (d' := 2) C G jc11 jm_X12_isLoop wd1372 (sp_X12_isLoop ⟨rfl, rfl⟩ : ok_X12_isLoop v2 M (fun r _ M' => jb (0 ≤ v2 ∧ v2 ≤ M 11 0 0 - 1) = r ∧ M = M')) rfl (show 0 < 1 by decide) (by decide) rfl rfl (by omega) (by decide) (by decide) ⟨rfl, rfl⟩ hl.1 (Nat.le_of_ble_eq_true rfl) dX12_isAsked_16 (fun r3 r3n M4 H locs hq G => ?_)
    obtain ⟨eq1, eq2⟩ := hq
    subst eq1
    subst eq2
    refine lv_if_ne (tgt := 26) C.x C.b dX12_isAsked_19 (by decide) (fun hc => ?_) (fun hc => ?_)
    · have h := h.1 (jb_1 hc)
      refine lv_iconst (v := 0) C.x C.b dX12_isAsked_26 (by decide) ?_
      refine jr_put C G jc11 7 (v := 0) (show 0 < 1 by decide) (by decide) (by decide) rfl (by decide) wd1198 rfl rfl rfl rfl dX12_isAsked_27 (fun H locs G => ?_)
      obtain ⟨M5, eM5⟩ : ∃ z : jM, z = jup M 11 0 7 0 := ⟨_, rfl⟩
      rw [← eM5] at G
      have h := h M5 eM5
      have nM5 : jnb M5 = jnb M := by rw [eM5]; exact jnb_up (by decide)
      refine lv_aload_n C.x C.b dX12_isAsked_30 rfl (lv_at hl 0 rfl) ?_
      refine jr_get C G jc11 7 (v := .int (M5 11 0 7)) (show 0 < 1 by decide) (by decide) (by decide) rfl wd1198 dX12_isAsked_31 ?_
      refine lv_if_ne (tgt := 41) C.x C.b dX12_isAsked_34 (by decide) (fun hc => ?_) (fun hc => ?_)
      · have h := h.2 hc
        refine lv_iconst (v := 0) C.x C.b dX12_isAsked_41 (by decide) ?_
        exact jr_retZ C hr G rfl h (by decide) (by decide) dX12_isAsked_42
      · have h := h.1 hc
        refine lv_iconst (v := 1) C.x C.b dX12_isAsked_37 (by decide) ?_
        refine lv_goto (tgt := 42) C.x C.b dX12_isAsked_38 (by decide) ?_
        exact jr_retZ C hr G rfl h (by decide) (by decide) dX12_isAsked_42
    · have h := h.2 (jb_0 hc)
      refine lv_iconst (v := 2) C.x C.b dX12_isAsked_22 (by decide) ?_
      refine lv_goto (tgt := 27) C.x C.b dX12_isAsked_23 (by decide) ?_
      refine jr_put C G jc11 7 (v := 2) (show 0 < 1 by decide) (by decide) (by decide) rfl (by decide) wd1198 rfl rfl rfl rfl dX12_isAsked_27 (fun H locs G => ?_)
      obtain ⟨M6, eM6⟩ : ∃ z : jM, z = jup M 11 0 7 2 := ⟨_, rfl⟩
      rw [← eM6] at G
      have h := h M6 eM6
      have nM6 : jnb M6 = jnb M := by rw [eM6]; exact jnb_up (by decide)
      refine lv_aload_n C.x C.b dX12_isAsked_30 rfl (lv_at hl 0 rfl) ?_
      refine jr_get C G jc11 7 (v := .int (M6 11 0 7)) (show 0 < 1 by decide) (by decide) (by decide) rfl wd1198 dX12_isAsked_31 ?_
      refine lv_if_ne (tgt := 41) C.x C.b dX12_isAsked_34 (by decide) (fun hc => ?_) (fun hc => ?_)
      · have h := h.2 hc
        refine lv_iconst (v := 0) C.x C.b dX12_isAsked_41 (by decide) ?_
        exact jr_retZ C hr G rfl h (by decide) (by decide) dX12_isAsked_42
      · have h := h.1 hc
        refine lv_iconst (v := 1) C.x C.b dX12_isAsked_37 (by decide) ?_
        refine lv_goto (tgt := 42) C.x C.b dX12_isAsked_38 (by decide) ?_
        exact jr_retZ C hr G rfl h (by decide) (by decide) dX12_isAsked_42
  · have h := h.2 (jb_0 hc)
    refine lv_iconst (v := 1) C.x C.b dX12_isAsked_10 (by decide) ?_
    refine lv_goto (tgt := 27) C.x C.b dX12_isAsked_11 (by decide) ?_
    refine jr_put C G jc11 7 (v := 1) (show 0 < 1 by decide) (by decide) (by decide) rfl (by decide) wd1198 rfl rfl rfl rfl dX12_isAsked_27 (fun H locs G => ?_)
    obtain ⟨M7, eM7⟩ : ∃ z : jM, z = jup M 11 0 7 1 := ⟨_, rfl⟩
    rw [← eM7] at G
    have h := h M7 eM7
    have nM7 : jnb M7 = jnb M := by rw [eM7]; exact jnb_up (by decide)
    refine lv_aload_n C.x C.b dX12_isAsked_30 rfl (lv_at hl 0 rfl) ?_
    refine jr_get C G jc11 7 (v := .int (M7 11 0 7)) (show 0 < 1 by decide) (by decide) (by decide) rfl wd1198 dX12_isAsked_31 ?_
    refine lv_if_ne (tgt := 41) C.x C.b dX12_isAsked_34 (by decide) (fun hc => ?_) (fun hc => ?_)
    · have h := h.2 hc
      refine lv_iconst (v := 0) C.x C.b dX12_isAsked_41 (by decide) ?_
      exact jr_retZ C hr G rfl h (by decide) (by decide) dX12_isAsked_42
    · have h := h.1 hc
      refine lv_iconst (v := 1) C.x C.b dX12_isAsked_37 (by decide) ?_
      refine lv_goto (tgt := 42) C.x C.b dX12_isAsked_38 (by decide) ?_
      exact jr_retZ C hr G rfl h (by decide) (by decide) dX12_isAsked_42

theorem en_X12_factor  {M : jM} {Q : Int32 → Nat → jM → Prop} (h : at_X12_factor_0  M Q) : ok_X12_factor  M Q := jr_enter (by decide) (fun g => rfl) (fun g => Nat.le_of_ble_eq_true rfl) h
set_option maxHeartbeats 4000000 in
set_option maxRecDepth 100000 in
theorem bl_X12_factor_0  (M : jM) (Q : Int32 → Nat → jM → Prop) 
  (h : (M 11 0 12 < M 11 0 11 → vp_in (M 11 0 12) 120) ∧ ((48 ≤ (jhr M) ∧ (jhr M) ≤ 57) → ok_X12_number  M (fun r25 _ M26 => jnb M26 = jnb M ∧ ok_X12_token r25 M26 (fun _ _ M28 => jnb M28 = jnb M26 ∧ Q 0 0 M28))) ∧ (¬ (48 ≤ (jhr M) ∧ (jhr M) ≤ 57) → ((jhr M) = 105 → (∀ M22 : jM, M22 = jup M 11 0 12 ((M 11 0 12) + 1) → ok_X12_token 100 M22 (fun _ _ M24 => jnb M24 = jnb M22 ∧ Q 0 0 M24))) ∧ (¬ ((jhr M) = 105) → ((97 ≤ (jhr M) ∧ (jhr M) ≤ 101) → (5 ≤ (M 11 0 19) → ok_X12_bad (M 11 0 12) M (fun _ _ M11 => jnb M11 = jnb M ∧ Q 0 0 M11)) ∧ (¬ (5 ≤ (M 11 0 19)) → (vp_in (585 * M 11 0 14 + 4) 11700) ∧ ok_X12_reference  M (fun r15 _ M16 => jnb M16 = jnb M ∧ (M16 11 0 13 = 0 → ok_X12_refers r15 0 M16 (fun _ _ M18 => jnb M18 = jnb M16 ∧ ok_X12_token (200 + (M 55 0 (585 * M 11 0 14 + 4).toNatClampNeg)) M18 (fun _ _ M20 => jnb M20 = jnb M18 ∧ (∀ M21 : jM, M21 = jup M20 11 0 19 ((M20 11 0 19) + 1) → Q 0 0 M21)))) ∧ (¬ (M16 11 0 13 = 0) → Q 0 0 M16)))) ∧ (¬ (97 ≤ (jhr M) ∧ (jhr M) ≤ 101) → ok_X12_bad (M 11 0 12) M (fun _ _ M9 => jnb M9 = jnb M ∧ Q 0 0 M9))))) :
  at_X12_factor_0  M Q := by
  intro p l e s m args below meth c D cA base g C hr htb H locs G ls hl
  refine lv_aload_n C.x C.b dX12_factor_0 rfl (lv_at hl 0 rfl) ?_
  obtain ⟨hp3, h⟩ := h
  refine jr_V (d' := 3) C G jc11 jm_X12_here wd1316 (sp_X12_here hp3 ⟨rfl, rfl⟩ : ok_X12_here  M (fun r _ M' => (jhr M) = r ∧ M = M')) rfl (show 0 < 1 by decide) (by decide) rfl rfl (by omega) (by decide) (by decide) ⟨rfl, rfl⟩ hl.1 (Nat.le_of_ble_eq_true rfl) dX12_factor_1 (fun r1 r1n M2 H locs hq G => ?_)
  obtain ⟨eq1, eq2⟩ := hq
  subst eq1
  subst eq2
  refine lv_istore_n (lv' := [(1, .int (jhr M)), (0, .ref (g 11 0))]) C.x C.b dX12_factor_4 rfl hl (by decide) rfl (fun ls hl => ?_)
  refine lv_iload_n C.x C.b dX12_factor_5 rfl (lv_at hl 0 rfl) ?_
  refine lv_bipush (v := 48) C.x C.b dX12_factor_6 (by decide) ?_
  refine lv_bipush (v := 57) C.x C.b dX12_factor_8 (by decide) ?_
  refine jr_S (d' := 3) C G jm_X12_in wd1293 (sp_X12_in ⟨rfl, rfl⟩ : ok_X12_in (jhr M) 48 57 M (fun r _ M' => jb (48 ≤ (jhr M) ∧ (jhr M) ≤ 57) = r ∧ M = M')) rfl rfl rfl (by omega) (by decide) (by decide) ⟨rfl, rfl⟩ hl.1 (Nat.le_of_ble_eq_true rfl) dX12_factor_10 (fun r4 r4n M5 H locs hq G => ?_)
  obtain ⟨eq1, eq2⟩ := hq
  subst eq1
  subst eq2
  refine lv_if_eq (tgt := 27) C.x C.b dX12_factor_13 (by decide) (fun hc => ?_) (fun hc => ?_)
  · have h := h.2 (jb_0 hc)
    refine lv_iload_n C.x C.b dX12_factor_27 rfl (lv_at hl 0 rfl) ?_
    refine lv_bipush (v := 105) C.x C.b dX12_factor_28 (by decide) ?_
    refine lv_icmp_ne (tgt := 52) C.x C.b dX12_factor_30 (by decide) (fun hc => ?_) (fun hc => ?_)
    · have h := h.2 hc
      refine lv_iload_n C.x C.b dX12_factor_52 rfl (lv_at hl 0 rfl) ?_
      refine lv_bipush (v := 97) C.x C.b dX12_factor_53 (by decide) ?_
      refine lv_bipush (v := 101) C.x C.b dX12_factor_55 (by decide) ?_
      refine jr_S (d' := 3) C G jm_X12_in wd1293 (sp_X12_in ⟨rfl, rfl⟩ : ok_X12_in (jhr M) 97 101 M (fun r _ M' => jb (97 ≤ (jhr M) ∧ (jhr M) ≤ 101) = r ∧ M = M')) rfl rfl rfl (by omega) (by decide) (by decide) ⟨rfl, rfl⟩ hl.1 (Nat.le_of_ble_eq_true rfl) dX12_factor_57 (fun r6 r6n M7 H locs hq G => ?_)
      obtain ⟨eq1, eq2⟩ := hq
      subst eq1
      subst eq2
      refine lv_if_eq (tgt := 117) C.x C.b dX12_factor_60 (by decide) (fun hc => ?_) (fun hc => ?_)
      · have h := h.2 (jb_0 hc)
        refine lv_aload_n C.x C.b dX12_factor_117 rfl (lv_at hl 1 rfl) ?_
        refine lv_aload_n C.x C.b dX12_factor_118 rfl (lv_at hl 1 rfl) ?_
        refine jr_get C G jc11 12 (v := .int (M 11 0 12)) (show 0 < 1 by decide) (by decide) (by decide) rfl wd1203 dX12_factor_119 ?_
        refine jr_V (d' := 3) C G jc11 jm_X12_bad wd1320 h rfl (show 0 < 1 by decide) (by decide) rfl rfl (by omega) (by decide) (by decide) ⟨rfl, rfl⟩ hl.1 (Nat.le_of_ble_eq_true rfl) dX12_factor_122 (fun r8 r8n M9 H locs h G => ?_)
        obtain ⟨nM9, h⟩ := h
        exact jr_retV C hr G h (by decide) (by decide) dX12_factor_125
      · have h := h.1 (jb_1 hc)
        refine lv_aload_n C.x C.b dX12_factor_63 rfl (lv_at hl 1 rfl) ?_
        refine jr_get C G jc11 19 (v := .int (M 11 0 19)) (show 0 < 1 by decide) (by decide) (by decide) rfl wd1210 dX12_factor_64 ?_
        refine lv_iconst (v := 5) C.x C.b dX12_factor_67 (by decide) ?_
        refine lv_icmp_ge (tgt := 117) C.x C.b dX12_factor_68 (by decide) (fun hc => ?_) (fun hc => ?_)
        · have h := h.1 hc
          refine lv_aload_n C.x C.b dX12_factor_117 rfl (lv_at hl 1 rfl) ?_
          refine lv_aload_n C.x C.b dX12_factor_118 rfl (lv_at hl 1 rfl) ?_
          refine jr_get C G jc11 12 (v := .int (M 11 0 12)) (show 0 < 1 by decide) (by decide) (by decide) rfl wd1203 dX12_factor_119 ?_
          refine jr_V (d' := 3) C G jc11 jm_X12_bad wd1320 h rfl (show 0 < 1 by decide) (by decide) rfl rfl (by omega) (by decide) (by decide) ⟨rfl, rfl⟩ hl.1 (Nat.le_of_ble_eq_true rfl) dX12_factor_122 (fun r10 r10n M11 H locs h G => ?_)
          obtain ⟨nM11, h⟩ := h
          exact jr_retV C hr G h (by decide) (by decide) dX12_factor_125
        · have h := h.2 hc
          refine lv_aload_n C.x C.b dX12_factor_71 rfl (lv_at hl 1 rfl) ?_
          refine lv_iconst (v := 4) C.x C.b dX12_factor_72 (by decide) ?_
          obtain ⟨hp14, h⟩ := h
          refine jr_V (d' := 3) C G jc11 jm_X12_get wd1332 (sp_X12_get hp14 ⟨rfl, rfl⟩ : ok_X12_get 4 M (fun r _ M' => (M 55 0 (585 * M 11 0 14 + 4).toNatClampNeg) = r ∧ M = M')) rfl (show 0 < 1 by decide) (by decide) rfl rfl (by omega) (by decide) (by decide) ⟨rfl, rfl⟩ hl.1 (Nat.le_of_ble_eq_true rfl) dX12_factor_73 (fun r12 r12n M13 H locs hq G => ?_)
          obtain ⟨eq1, eq2⟩ := hq
          subst eq1
          subst eq2
          refine lv_istore_n (lv' := [(2, .int (M 55 0 (585 * M 11 0 14 + 4).toNatClampNeg)), (1, .int (jhr M)), (0, .ref (g 11 0))]) C.x C.b dX12_factor_76 rfl hl (by decide) rfl (fun ls hl => ?_)
          refine lv_aload_n C.x C.b dX12_factor_77 rfl (lv_at hl 2 rfl) ?_
          refine jr_V (d' := 3) C G jc11 jm_X12_reference wd1340 h rfl (show 0 < 1 by decide) (by decide) rfl rfl (by omega) (by decide) (by decide) ⟨rfl, rfl⟩ hl.1 (Nat.le_of_ble_eq_true rfl) dX12_factor_78 (fun r15 r15n M16 H locs h G => ?_)
          obtain ⟨nM16, h⟩ := h
          refine lv_istore_n (lv' := [(3, .int r15), (2, .int (M 55 0 (585 * M 11 0 14 + 4).toNatClampNeg)), (1, .int (jhr M)), (0, .ref (g 11 0))]) C.x C.b dX12_factor_81 rfl hl (by decide) rfl (fun ls hl => ?_)
          refine lv_aload_n C.x C.b dX12_factor_82 rfl (lv_at hl 3 rfl) ?_
          refine jr_get C G jc11 13 (v := .int (M16 11 0 13)) (show 0 < 1 by decide) (by decide) (by decide) rfl wd1204 dX12_factor_83 ?_
          refine lv_if_ne (tgt := 114) C.x C.b dX12_factor_86 (by decide) (fun hc => ?_) (fun hc => ?_)
          · have h := h.2 hc
            refine lv_goto (tgt := 125) C.x C.b dX12_factor_114 (by decide) ?_
            exact jr_retV C hr G h (by decide) (by decide) dX12_factor_125
          · have h := h.1 hc
            refine lv_aload_n C.x C.b dX12_factor_89 rfl (lv_at hl 3 rfl) ?_
            refine lv_iload_n C.x C.b dX12_factor_90 rfl (lv_at hl 0 rfl) ?_
            refine lv_iconst (v := 0) C.x C.b dX12_factor_91 (by decide) ?_
            refine jr_V (d' := 3) C G jc11 jm_X12_refers wd1356 h rfl (show 0 < 1 by decide) (by decide) rfl rfl (by omega) (by decide) (by decide) ⟨rfl, rfl⟩ hl.1 (Nat.le_of_ble_eq_true rfl) dX12_factor_92 (fun r17 r17n M18 H locs h G => ?_)
            obtain ⟨nM18, h⟩ := h
            refine lv_aload_n C.x C.b dX12_factor_95 rfl (lv_at hl 3 rfl) ?_
            refine lv_sipush (v := 200) C.x C.b dX12_factor_96 (by decide) ?_
            refine lv_iload_n C.x C.b dX12_factor_99 rfl (lv_at hl 1 rfl) ?_
            refine lv_iadd C.x C.b dX12_factor_100 ?_
            refine jr_V (d' := 3) C G jc11 jm_X12_token wd1352 h rfl (show 0 < 1 by decide) (by decide) rfl rfl (by omega) (by decide) (by decide) ⟨rfl, rfl⟩ hl.1 (Nat.le_of_ble_eq_true rfl) dX12_factor_101 (fun r19 r19n M20 H locs h G => ?_)
            obtain ⟨nM20, h⟩ := h
            refine lv_aload_n C.x C.b dX12_factor_104 rfl (lv_at hl 3 rfl) ?_
            refine lv_dup C.x C.b dX12_factor_105 rfl ?_
            refine jr_get C G jc11 19 (v := .int (M20 11 0 19)) (show 0 < 1 by decide) (by decide) (by decide) rfl wd1210 dX12_factor_106 ?_
            refine lv_iconst (v := 1) C.x C.b dX12_factor_109 (by decide) ?_
            refine lv_iadd C.x C.b dX12_factor_110 ?_
            refine jr_put C G jc11 19 (v := (M20 11 0 19) + 1) (show 0 < 1 by decide) (by decide) (by decide) rfl (by decide) wd1210 rfl rfl rfl rfl dX12_factor_111 (fun H locs G => ?_)
            obtain ⟨M21, eM21⟩ : ∃ z : jM, z = jup M20 11 0 19 ((M20 11 0 19) + 1) := ⟨_, rfl⟩
            rw [← eM21] at G
            have h := h M21 eM21
            have nM21 : jnb M21 = jnb M20 := by rw [eM21]; exact jnb_up (by decide)
            refine lv_goto (tgt := 125) C.x C.b dX12_factor_114 (by decide) ?_
            exact jr_retV C hr G h (by decide) (by decide) dX12_factor_125
    · have h := h.1 hc
      refine lv_aload_n C.x C.b dX12_factor_33 rfl (lv_at hl 1 rfl) ?_
      refine lv_dup C.x C.b dX12_factor_34 rfl ?_
      refine jr_get C G jc11 12 (v := .int (M 11 0 12)) (show 0 < 1 by decide) (by decide) (by decide) rfl wd1203 dX12_factor_35 ?_
      refine lv_iconst (v := 1) C.x C.b dX12_factor_38 (by decide) ?_
      refine lv_iadd C.x C.b dX12_factor_39 ?_
      refine jr_put C G jc11 12 (v := (M 11 0 12) + 1) (show 0 < 1 by decide) (by decide) (by decide) rfl (by decide) wd1203 rfl rfl rfl rfl dX12_factor_40 (fun H locs G => ?_)
      obtain ⟨M22, eM22⟩ : ∃ z : jM, z = jup M 11 0 12 ((M 11 0 12) + 1) := ⟨_, rfl⟩
      rw [← eM22] at G
      have h := h M22 eM22
      have nM22 : jnb M22 = jnb M := by rw [eM22]; exact jnb_up (by decide)
      refine lv_aload_n C.x C.b dX12_factor_43 rfl (lv_at hl 1 rfl) ?_
      refine lv_bipush (v := 100) C.x C.b dX12_factor_44 (by decide) ?_
      refine jr_V (d' := 3) C G jc11 jm_X12_token wd1352 h rfl (show 0 < 1 by decide) (by decide) rfl rfl (by omega) (by decide) (by decide) ⟨rfl, rfl⟩ hl.1 (Nat.le_of_ble_eq_true rfl) dX12_factor_46 (fun r23 r23n M24 H locs h G => ?_)
      obtain ⟨nM24, h⟩ := h
      refine lv_goto (tgt := 125) C.x C.b dX12_factor_49 (by decide) ?_
      exact jr_retV C hr G h (by decide) (by decide) dX12_factor_125
  · have h := h.1 (jb_1 hc)
    refine lv_aload_n C.x C.b dX12_factor_16 rfl (lv_at hl 1 rfl) ?_
    refine lv_aload_n C.x C.b dX12_factor_17 rfl (lv_at hl 1 rfl) ?_
    refine jr_V (d' := 3) C G jc11 jm_X12_number wd1328 h rfl (show 0 < 1 by decide) (by decide) rfl rfl (by omega) (by decide) (by decide) ⟨rfl, rfl⟩ hl.1 (Nat.le_of_ble_eq_true rfl) dX12_factor_18 (fun r25 r25n M26 H locs h G => ?_)
    obtain ⟨nM26, h⟩ := h
    refine jr_V (d' := 3) C G jc11 jm_X12_token wd1352 h rfl (show 0 < 1 by decide) (by decide) rfl rfl (by omega) (by decide) (by decide) ⟨rfl, rfl⟩ hl.1 (Nat.le_of_ble_eq_true rfl) dX12_factor_21 (fun r27 r27n M28 H locs h G => ?_)
    obtain ⟨nM28, h⟩ := h
    refine lv_goto (tgt := 125) C.x C.b dX12_factor_24 (by decide) ?_
    exact jr_retV C hr G h (by decide) (by decide) dX12_factor_125

theorem en_X12_operators {v1 : Int32} {v2 : Int32} {v3 : Int32} {M : jM} {Q : Int32 → Nat → jM → Prop} (h : at_X12_operators_0 v1 v2 v3 M Q) : ok_X12_operators v1 v2 v3 M Q := jr_enter (by decide) (fun g => rfl) (fun g => Nat.le_of_ble_eq_true rfl) h
set_option maxHeartbeats 4000000 in
set_option maxRecDepth 100000 in
theorem bl_X12_operators_0 (v1 : Int32) (v2 : Int32) (v3 : Int32) (M : jM) (Q : Int32 → Nat → jM → Prop) 
  (h : (∀ M1 : jM, M1 = jup M 11 0 7 0 → ((0 ≤ v1 ∧ v1 ≤ M1 11 0 0 - 1) → vp_in (585 * v1 + 3) 3510) ∧ (((0 ≤ v1 ∧ v1 ≤ M1 11 0 0 - 1) ∧ (0 ≤ v2 ∧ v2 ≤ M1 50 0 (585 * v1 + 3).toNatClampNeg - 1)) → ((0 ≤ v3 ∧ v3 ≤ 2) → at_X12_operators_41 v1 v2 v3 0 0 M1 Q) ∧ (¬ (0 ≤ v3 ∧ v3 ≤ 2) → (∀ M8 : jM, M8 = jup M1 11 0 7 2 → Q 0 0 M8))) ∧ (¬ ((0 ≤ v1 ∧ v1 ≤ M1 11 0 0 - 1) ∧ (0 ≤ v2 ∧ v2 ≤ M1 50 0 (585 * v1 + 3).toNatClampNeg - 1)) → (∀ M10 : jM, M10 = jup M1 11 0 7 1 → Q 0 0 M10)))) :
  at_X12_operators_0 v1 v2 v3 M Q := by
  intro p l e s m args below meth c D cA base g C hr htb H locs G ls hl
  refine lv_aload_n C.x C.b dX12_operators_0 rfl (lv_at hl 0 rfl) ?_
  refine lv_iconst (v := 0) C.x C.b dX12_operators_1 (by decide) ?_
  refine jr_put C G jc11 7 (v := 0) (show 0 < 1 by decide) (by decide) (by decide) rfl (by decide) wd1198 rfl rfl rfl rfl dX12_operators_2 (fun H locs G => ?_)
  obtain ⟨M1, eM1⟩ : ∃ z : jM, z = jup M 11 0 7 0 := ⟨_, rfl⟩
  rw [← eM1] at G
  have h := h M1 eM1
  have nM1 : jnb M1 = jnb M := by rw [eM1]; exact jnb_up (by decide)
  refine lv_aload_n C.x C.b dX12_operators_5 rfl (lv_at hl 0 rfl) ?_
  refine lv_iload_n C.x C.b dX12_operators_6 rfl (lv_at hl 1 rfl) ?_
  refine lv_iload_n C.x C.b dX12_operators_7 rfl (lv_at hl 2 rfl) ?_
  obtain ⟨hp4, h⟩ := h
  refine jr_V (d' := 3) C G jc11 jm_X12_isStatement wd1408 (sp_X12_isStatement hp4 ⟨rfl, rfl⟩ : ok_X12_isStatement v1 v2 M1 (fun r _ M' => jb ((0 ≤ v1 ∧ v1 ≤ M1 11 0 0 - 1) ∧ (0 ≤ v2 ∧ v2 ≤ M1 50 0 (585 * v1 + 3).toNatClampNeg - 1)) = r ∧ M1 = M')) rfl (show 0 < 1 by decide) (by decide) rfl rfl (by omega) (by decide) (by decide) ⟨rfl, rfl⟩ hl.1 (Nat.le_of_ble_eq_true rfl) dX12_operators_8 (fun r2 r2n M3 H locs hq G => ?_)
  obtain ⟨eq1, eq2⟩ := hq
  subst eq1
  subst eq2
  refine lv_if_ne (tgt := 20) C.x C.b dX12_operators_11 (by decide) (fun hc => ?_) (fun hc => ?_)
  · have h := h.1 (jb_1 hc)
    refine lv_iload_n C.x C.b dX12_operators_20 rfl (lv_at hl 3 rfl) ?_
    refine lv_iconst (v := 0) C.x C.b dX12_operators_21 (by decide) ?_
    refine lv_iconst (v := 2) C.x C.b dX12_operators_22 (by decide) ?_
    refine jr_S (d' := 3) C G jm_X12_in wd1293 (sp_X12_in ⟨rfl, rfl⟩ : ok_X12_in v3 0 2 M1 (fun r _ M' => jb (0 ≤ v3 ∧ v3 ≤ 2) = r ∧ M1 = M')) rfl rfl rfl (by omega) (by decide) (by decide) ⟨rfl, rfl⟩ hl.1 (Nat.le_of_ble_eq_true rfl) dX12_operators_23 (fun r5 r5n M6 H locs hq G => ?_)
    obtain ⟨eq1, eq2⟩ := hq
    subst eq1
    subst eq2
    refine lv_if_ne (tgt := 35) C.x C.b dX12_operators_26 (by decide) (fun hc => ?_) (fun hc => ?_)
    · have h := h.1 (jb_1 hc)
      refine lv_iconst (v := 0) C.x C.b dX12_operators_35 (by decide) ?_
      refine lv_istore (lv' := [(4, .int 0), (0, .ref (g 11 0)), (1, .int v1), (2, .int v2), (3, .int v3)]) C.x C.b dX12_operators_36 hl (by decide) rfl (fun ls hl => ?_)
      refine lv_iconst (v := 0) C.x C.b dX12_operators_38 (by decide) ?_
      refine lv_istore (lv' := [(5, .int 0), (4, .int 0), (0, .ref (g 11 0)), (1, .int v1), (2, .int v2), (3, .int v3)]) C.x C.b dX12_operators_39 hl (by decide) rfl (fun ls hl => ?_)
      exact h p l e s m args below meth c D cA base g C hr htb _ _ G ls (lv_sub hl [2, 3, 4, 5, 1, 0] rfl)
    · have h := h.2 (jb_0 hc)
      refine lv_aload_n C.x C.b dX12_operators_29 rfl (lv_at hl 0 rfl) ?_
      refine lv_iconst (v := 2) C.x C.b dX12_operators_30 (by decide) ?_
      refine jr_V (d' := 3) C G jc11 jm_X12_refuse wd1296 (sp_X12_refuse ⟨rfl, rfl⟩ : ok_X12_refuse 2 M1 (fun r _ M' => 0 = r ∧ M' = jup M1 11 0 7 2)) rfl (show 0 < 1 by decide) (by decide) rfl rfl (by omega) (by decide) (by decide) ⟨rfl, rfl⟩ hl.1 (Nat.le_of_ble_eq_true rfl) dX12_operators_31 (fun r7 r7n M8 H locs hq G => ?_)
      obtain ⟨eq1, eM8⟩ := hq
      subst eq1
      have h := h M8 eM8
      have nM8 : jnb M8 = jnb M1 := by rw [eM8]; first | exact jnb_up (by decide) | simp [jnb_up]
      exact jr_retI C hr G h (by decide) (by decide) dX12_operators_34
  · have h := h.2 (jb_0 hc)
    refine lv_aload_n C.x C.b dX12_operators_14 rfl (lv_at hl 0 rfl) ?_
    refine lv_iconst (v := 1) C.x C.b dX12_operators_15 (by decide) ?_
    refine jr_V (d' := 3) C G jc11 jm_X12_refuse wd1296 (sp_X12_refuse ⟨rfl, rfl⟩ : ok_X12_refuse 1 M1 (fun r _ M' => 0 = r ∧ M' = jup M1 11 0 7 1)) rfl (show 0 < 1 by decide) (by decide) rfl rfl (by omega) (by decide) (by decide) ⟨rfl, rfl⟩ hl.1 (Nat.le_of_ble_eq_true rfl) dX12_operators_16 (fun r9 r9n M10 H locs hq G => ?_)
    obtain ⟨eq1, eM10⟩ := hq
    subst eq1
    have h := h M10 eM10
    have nM10 : jnb M10 = jnb M1 := by rw [eM10]; first | exact jnb_up (by decide) | simp [jnb_up]
    exact jr_retI C hr G h (by decide) (by decide) dX12_operators_19
set_option maxHeartbeats 4000000 in
set_option maxRecDepth 100000 in
theorem bl_X12_operators_41 (v1 : Int32) (v2 : Int32) (v3 : Int32) (v4 : Int32) (v5 : Int32) (M : jM) (Q : Int32 → Nat → jM → Prop) 
  (h : (vp_in (585 * v1 + (101 + v2)) 3510) ∧ ((M 50 0 (585 * v1 + (101 + v2)).toNatClampNeg) ≤ v5 → Q v4 0 M) ∧ (¬ ((M 50 0 (585 * v1 + (101 + v2)).toNatClampNeg) ≤ v5) → (vp_in (585 * v1 + ((105 + 120 * v2) + v5)) 3510) ∧ ((M 50 0 (585 * v1 + ((105 + 120 * v2) + v5)).toNatClampNeg) = (101 + v3) → at_X12_operators_41 v1 v2 v3 (v4 + 1) (v5 + 1) M Q) ∧ (¬ ((M 50 0 (585 * v1 + ((105 + 120 * v2) + v5)).toNatClampNeg) = (101 + v3)) → at_X12_operators_41 v1 v2 v3 (v4 + 0) (v5 + 1) M Q))) :
  at_X12_operators_41 v1 v2 v3 v4 v5 M Q := by
  intro p l e s m args below meth c D cA base g C hr htb H locs G ls hl
  refine lv_iload C.x C.b dX12_operators_41 (lv_at hl 5 rfl) ?_
  refine lv_aload_n C.x C.b dX12_operators_43 rfl (lv_at hl 0 rfl) ?_
  refine lv_iload_n C.x C.b dX12_operators_44 rfl (lv_at hl 1 rfl) ?_
  refine lv_bipush (v := 101) C.x C.b dX12_operators_45 (by decide) ?_
  refine lv_iload_n C.x C.b dX12_operators_47 rfl (lv_at hl 2 rfl) ?_
  refine lv_iadd C.x C.b dX12_operators_48 ?_
  obtain ⟨hp3, h⟩ := h
  refine jr_V (d' := 3) C G jc11 jm_X12_of wd1384 (sp_X12_of hp3 ⟨rfl, rfl⟩ : ok_X12_of v1 (101 + v2) M (fun r _ M' => (M 50 0 (585 * v1 + (101 + v2)).toNatClampNeg) = r ∧ M = M')) rfl (show 0 < 1 by decide) (by decide) rfl rfl (by omega) (by decide) (by decide) ⟨rfl, rfl⟩ hl.1 (Nat.le_of_ble_eq_true rfl) dX12_operators_49 (fun r1 r1n M2 H locs hq G => ?_)
  obtain ⟨eq1, eq2⟩ := hq
  subst eq1
  subst eq2
  refine lv_icmp_ge (tgt := 86) C.x C.b dX12_operators_52 (by decide) (fun hc => ?_) (fun hc => ?_)
  · have h := h.1 hc
    refine lv_iload C.x C.b dX12_operators_86 (lv_at hl 4 rfl) ?_
    exact jr_retI C hr G h (by decide) (by decide) dX12_operators_88
  · have h := h.2 hc
    refine lv_iload C.x C.b dX12_operators_55 (lv_at hl 4 rfl) ?_
    refine lv_aload_n C.x C.b dX12_operators_57 rfl (lv_at hl 0 rfl) ?_
    refine lv_iload_n C.x C.b dX12_operators_58 rfl (lv_at hl 1 rfl) ?_
    refine lv_iload_n C.x C.b dX12_operators_59 rfl (lv_at hl 2 rfl) ?_
    refine lv_iload C.x C.b dX12_operators_60 (lv_at hl 5 rfl) ?_
    obtain ⟨hp6, h⟩ := h
    refine jr_V (d' := 3) C G jc11 jm_X12_tokenOf wd1412 (sp_X12_tokenOf hp6 ⟨rfl, rfl⟩ : ok_X12_tokenOf v1 v2 v5 M (fun r _ M' => (M 50 0 (585 * v1 + ((105 + 120 * v2) + v5)).toNatClampNeg) = r ∧ M = M')) rfl (show 0 < 1 by decide) (by decide) rfl rfl (by omega) (by decide) (by decide) ⟨rfl, rfl⟩ hl.1 (Nat.le_of_ble_eq_true rfl) dX12_operators_62 (fun r4 r4n M5 H locs hq G => ?_)
    obtain ⟨eq1, eq2⟩ := hq
    subst eq1
    subst eq2
    refine lv_bipush (v := 101) C.x C.b dX12_operators_65 (by decide) ?_
    refine lv_iload_n C.x C.b dX12_operators_67 rfl (lv_at hl 3 rfl) ?_
    refine lv_iadd C.x C.b dX12_operators_68 ?_
    refine lv_icmp_ne (tgt := 76) C.x C.b dX12_operators_69 (by decide) (fun hc => ?_) (fun hc => ?_)
    · have h := h.2 hc
      refine lv_iconst (v := 0) C.x C.b dX12_operators_76 (by decide) ?_
      refine lv_iadd C.x C.b dX12_operators_77 ?_
      refine lv_istore (lv' := [(4, .int (v4 + 0)), (0, .ref (g 11 0)), (1, .int v1), (2, .int v2), (3, .int v3), (5, .int v5)]) C.x C.b dX12_operators_78 hl (by decide) rfl (fun ls hl => ?_)
      refine lv_iinc (v := v5 + 1) (lv' := [(5, .int (v5 + 1)), (4, .int (v4 + 0)), (0, .ref (g 11 0)), (1, .int v1), (2, .int v2), (3, .int v3)]) C.x C.b dX12_operators_80 hl (k := 5) rfl rfl (by decide) rfl (fun ls hl => ?_)
      refine lv_goto (tgt := 41) C.x C.b dX12_operators_83 (by decide) ?_
      exact h p l e s m args below meth c D cA base g C hr htb _ _ G ls (lv_sub hl [2, 3, 4, 5, 1, 0] rfl)
    · have h := h.1 hc
      refine lv_iconst (v := 1) C.x C.b dX12_operators_72 (by decide) ?_
      refine lv_goto (tgt := 77) C.x C.b dX12_operators_73 (by decide) ?_
      refine lv_iadd C.x C.b dX12_operators_77 ?_
      refine lv_istore (lv' := [(4, .int (v4 + 1)), (0, .ref (g 11 0)), (1, .int v1), (2, .int v2), (3, .int v3), (5, .int v5)]) C.x C.b dX12_operators_78 hl (by decide) rfl (fun ls hl => ?_)
      refine lv_iinc (v := v5 + 1) (lv' := [(5, .int (v5 + 1)), (4, .int (v4 + 1)), (0, .ref (g 11 0)), (1, .int v1), (2, .int v2), (3, .int v3)]) C.x C.b dX12_operators_80 hl (k := 5) rfl rfl (by decide) rfl (fun ls hl => ?_)
      refine lv_goto (tgt := 41) C.x C.b dX12_operators_83 (by decide) ?_
      exact h p l e s m args below meth c D cA base g C hr htb _ _ G ls (lv_sub hl [2, 3, 4, 5, 1, 0] rfl)

theorem en_X12_height {v1 : Int32} {v2 : Int32} {M : jM} {Q : Int32 → Nat → jM → Prop} (h : at_X12_height_0 v1 v2 M Q) : ok_X12_height v1 v2 M Q := jr_enter (by decide) (fun g => rfl) (fun g => Nat.le_of_ble_eq_true rfl) h
set_option maxHeartbeats 4000000 in
set_option maxRecDepth 100000 in
theorem bl_X12_height_0 (v1 : Int32) (v2 : Int32) (M : jM) (Q : Int32 → Nat → jM → Prop) 
  (h : (∀ M1 : jM, M1 = jup M 11 0 7 0 → ((0 ≤ v1 ∧ v1 ≤ M1 11 0 0 - 1) → vp_in (585 * v1 + 3) 3510) ∧ (((0 ≤ v1 ∧ v1 ≤ M1 11 0 0 - 1) ∧ (0 ≤ v2 ∧ v2 ≤ M1 50 0 (585 * v1 + 3).toNatClampNeg - 1)) → at_X12_height_25 v1 v2 0 0 M1 Q) ∧ (¬ ((0 ≤ v1 ∧ v1 ≤ M1 11 0 0 - 1) ∧ (0 ≤ v2 ∧ v2 ≤ M1 50 0 (585 * v1 + 3).toNatClampNeg - 1)) → (∀ M6 : jM, M6 = jup M1 11 0 7 1 → Q 0 0 M6)))) :
  at_X12_height_0 v1 v2 M Q := by
  intro p l e s m args below meth c D cA base g C hr htb H locs G ls hl
  refine lv_aload_n C.x C.b dX12_height_0 rfl (lv_at hl 0 rfl) ?_
  refine lv_iconst (v := 0) C.x C.b dX12_height_1 (by decide) ?_
  refine jr_put C G jc11 7 (v := 0) (show 0 < 1 by decide) (by decide) (by decide) rfl (by decide) wd1198 rfl rfl rfl rfl dX12_height_2 (fun H locs G => ?_)
  obtain ⟨M1, eM1⟩ : ∃ z : jM, z = jup M 11 0 7 0 := ⟨_, rfl⟩
  rw [← eM1] at G
  have h := h M1 eM1
  have nM1 : jnb M1 = jnb M := by rw [eM1]; exact jnb_up (by decide)
  refine lv_aload_n C.x C.b dX12_height_5 rfl (lv_at hl 0 rfl) ?_
  refine lv_iload_n C.x C.b dX12_height_6 rfl (lv_at hl 1 rfl) ?_
  refine lv_iload_n C.x C.b dX12_height_7 rfl (lv_at hl 2 rfl) ?_
  obtain ⟨hp4, h⟩ := h
  refine jr_V (d' := 3) C G jc11 jm_X12_isStatement wd1408 (sp_X12_isStatement hp4 ⟨rfl, rfl⟩ : ok_X12_isStatement v1 v2 M1 (fun r _ M' => jb ((0 ≤ v1 ∧ v1 ≤ M1 11 0 0 - 1) ∧ (0 ≤ v2 ∧ v2 ≤ M1 50 0 (585 * v1 + 3).toNatClampNeg - 1)) = r ∧ M1 = M')) rfl (show 0 < 1 by decide) (by decide) rfl rfl (by omega) (by decide) (by decide) ⟨rfl, rfl⟩ hl.1 (Nat.le_of_ble_eq_true rfl) dX12_height_8 (fun r2 r2n M3 H locs hq G => ?_)
  obtain ⟨eq1, eq2⟩ := hq
  subst eq1
  subst eq2
  refine lv_if_ne (tgt := 20) C.x C.b dX12_height_11 (by decide) (fun hc => ?_) (fun hc => ?_)
  · have h := h.1 (jb_1 hc)
    refine lv_iconst (v := 0) C.x C.b dX12_height_20 (by decide) ?_
    refine lv_istore_n (lv' := [(3, .int 0), (0, .ref (g 11 0)), (1, .int v1), (2, .int v2)]) C.x C.b dX12_height_21 rfl hl (by decide) rfl (fun ls hl => ?_)
    refine lv_iconst (v := 0) C.x C.b dX12_height_22 (by decide) ?_
    refine lv_istore (lv' := [(4, .int 0), (3, .int 0), (0, .ref (g 11 0)), (1, .int v1), (2, .int v2)]) C.x C.b dX12_height_23 hl (by decide) rfl (fun ls hl => ?_)
    exact h p l e s m args below meth c D cA base g C hr htb _ _ G ls (lv_sub hl [2, 3, 4, 1, 0] rfl)
  · have h := h.2 (jb_0 hc)
    refine lv_aload_n C.x C.b dX12_height_14 rfl (lv_at hl 0 rfl) ?_
    refine lv_iconst (v := 1) C.x C.b dX12_height_15 (by decide) ?_
    refine jr_V (d' := 3) C G jc11 jm_X12_refuse wd1296 (sp_X12_refuse ⟨rfl, rfl⟩ : ok_X12_refuse 1 M1 (fun r _ M' => 0 = r ∧ M' = jup M1 11 0 7 1)) rfl (show 0 < 1 by decide) (by decide) rfl rfl (by omega) (by decide) (by decide) ⟨rfl, rfl⟩ hl.1 (Nat.le_of_ble_eq_true rfl) dX12_height_16 (fun r5 r5n M6 H locs hq G => ?_)
    obtain ⟨eq1, eM6⟩ := hq
    subst eq1
    have h := h M6 eM6
    have nM6 : jnb M6 = jnb M1 := by rw [eM6]; first | exact jnb_up (by decide) | simp [jnb_up]
    exact jr_retI C hr G h (by decide) (by decide) dX12_height_19
set_option maxHeartbeats 4000000 in
set_option maxRecDepth 100000 in
theorem bl_X12_height_25 (v1 : Int32) (v2 : Int32) (v3 : Int32) (v4 : Int32) (M : jM) (Q : Int32 → Nat → jM → Prop) 
  (h : (vp_in (585 * v1 + (101 + v2)) 3510) ∧ ((M 50 0 (585 * v1 + (101 + v2)).toNatClampNeg) ≤ v4 → Q (M 57 0 (0 : Int32).toNatClampNeg) 0 M) ∧ (¬ ((M 50 0 (585 * v1 + (101 + v2)).toNatClampNeg) ≤ v4) → (vp_in (585 * v1 + ((105 + 120 * v2) + v4)) 3510) ∧ ((101 ≤ (M 50 0 (585 * v1 + ((105 + 120 * v2) + v4)).toNatClampNeg) ∧ (M 50 0 (585 * v1 + ((105 + 120 * v2) + v4)).toNatClampNeg) ≤ 103) → vp_in ((v3 + (-1)) - 1) 120 ∧ vp_in (v3 + (-1)) 120 ∧ vp_in ((v3 + (-1)) - 1) 120 ∧ (∀ M10 : jM, M10 = jup M 57 0 ((v3 + (-1)) - 1).toNatClampNeg (1 + (jmax (M 57 0 ((v3 + (-1)) - 1).toNatClampNeg) (M 57 0 (v3 + (-1)).toNatClampNeg))) → at_X12_height_25 v1 v2 (v3 + (-1)) (v4 + 1) M10 Q)) ∧ (¬ (101 ≤ (M 50 0 (585 * v1 + ((105 + 120 * v2) + v4)).toNatClampNeg) ∧ (M 50 0 (585 * v1 + ((105 + 120 * v2) + v4)).toNatClampNeg) ≤ 103) → vp_in v3 120 ∧ (∀ M9 : jM, M9 = jup M 57 0 v3.toNatClampNeg 1 → at_X12_height_25 v1 v2 (v3 + 1) (v4 + 1) M9 Q)))) :
  at_X12_height_25 v1 v2 v3 v4 M Q := by
  intro p l e s m args below meth c D cA base g C hr htb H locs G ls hl
  refine lv_iload C.x C.b dX12_height_25 (lv_at hl 4 rfl) ?_
  refine lv_aload_n C.x C.b dX12_height_27 rfl (lv_at hl 0 rfl) ?_
  refine lv_iload_n C.x C.b dX12_height_28 rfl (lv_at hl 1 rfl) ?_
  refine lv_bipush (v := 101) C.x C.b dX12_height_29 (by decide) ?_
  refine lv_iload_n C.x C.b dX12_height_31 rfl (lv_at hl 2 rfl) ?_
  refine lv_iadd C.x C.b dX12_height_32 ?_
  obtain ⟨hp3, h⟩ := h
  refine jr_V (d' := 3) C G jc11 jm_X12_of wd1384 (sp_X12_of hp3 ⟨rfl, rfl⟩ : ok_X12_of v1 (101 + v2) M (fun r _ M' => (M 50 0 (585 * v1 + (101 + v2)).toNatClampNeg) = r ∧ M = M')) rfl (show 0 < 1 by decide) (by decide) rfl rfl (by omega) (by decide) (by decide) ⟨rfl, rfl⟩ hl.1 (Nat.le_of_ble_eq_true rfl) dX12_height_33 (fun r1 r1n M2 H locs hq G => ?_)
  obtain ⟨eq1, eq2⟩ := hq
  subst eq1
  subst eq2
  refine lv_icmp_ge (tgt := 110) C.x C.b dX12_height_36 (by decide) (fun hc => ?_) (fun hc => ?_)
  · have h := h.1 hc
    refine lv_aload_n C.x C.b dX12_height_110 rfl (lv_at hl 0 rfl) ?_
    refine jr_get C G jc11 20 (v := .ref (g 57 0)) (show 0 < 1 by decide) (by decide) (by decide) rfl wd1211 dX12_height_111 ?_
    refine lv_iconst (v := 0) C.x C.b dX12_height_114 (by decide) ?_
    refine jr_ald C G (show 0 < 1 by decide) (by decide) (by decide) (by decide) rfl rfl (by unfold vp_in; decide) dX12_height_115 ?_
    exact jr_retI C hr G h (by decide) (by decide) dX12_height_116
  · have h := h.2 hc
    refine lv_aload_n C.x C.b dX12_height_39 rfl (lv_at hl 0 rfl) ?_
    refine lv_iload_n C.x C.b dX12_height_40 rfl (lv_at hl 1 rfl) ?_
    refine lv_iload_n C.x C.b dX12_height_41 rfl (lv_at hl 2 rfl) ?_
    refine lv_iload C.x C.b dX12_height_42 (lv_at hl 4 rfl) ?_
    obtain ⟨hp6, h⟩ := h
    refine jr_V (d' := 3) C G jc11 jm_X12_tokenOf wd1412 (sp_X12_tokenOf hp6 ⟨rfl, rfl⟩ : ok_X12_tokenOf v1 v2 v4 M (fun r _ M' => (M 50 0 (585 * v1 + ((105 + 120 * v2) + v4)).toNatClampNeg) = r ∧ M = M')) rfl (show 0 < 1 by decide) (by decide) rfl rfl (by omega) (by decide) (by decide) ⟨rfl, rfl⟩ hl.1 (Nat.le_of_ble_eq_true rfl) dX12_height_44 (fun r4 r4n M5 H locs hq G => ?_)
    obtain ⟨eq1, eq2⟩ := hq
    subst eq1
    subst eq2
    refine lv_istore (lv' := [(5, .int (M 50 0 (585 * v1 + ((105 + 120 * v2) + v4)).toNatClampNeg)), (0, .ref (g 11 0)), (1, .int v1), (2, .int v2), (3, .int v3), (4, .int v4)]) C.x C.b dX12_height_47 hl (by decide) rfl (fun ls hl => ?_)
    refine lv_iload C.x C.b dX12_height_49 (lv_at hl 0 rfl) ?_
    refine lv_bipush (v := 101) C.x C.b dX12_height_51 (by decide) ?_
    refine lv_bipush (v := 103) C.x C.b dX12_height_53 (by decide) ?_
    refine jr_S (d' := 3) C G jm_X12_in wd1293 (sp_X12_in ⟨rfl, rfl⟩ : ok_X12_in (M 50 0 (585 * v1 + ((105 + 120 * v2) + v4)).toNatClampNeg) 101 103 M (fun r _ M' => jb (101 ≤ (M 50 0 (585 * v1 + ((105 + 120 * v2) + v4)).toNatClampNeg) ∧ (M 50 0 (585 * v1 + ((105 + 120 * v2) + v4)).toNatClampNeg) ≤ 103) = r ∧ M = M')) rfl rfl rfl (by omega) (by decide) (by decide) ⟨rfl, rfl⟩ hl.1 (Nat.le_of_ble_eq_true rfl) dX12_height_55 (fun r7 r7n M8 H locs hq G => ?_)
    obtain ⟨eq1, eq2⟩ := hq
    subst eq1
    subst eq2
    refine lv_if_eq (tgt := 94) C.x C.b dX12_height_58 (by decide) (fun hc => ?_) (fun hc => ?_)
    · have h := h.2 (jb_0 hc)
      refine lv_aload_n C.x C.b dX12_height_94 rfl (lv_at hl 1 rfl) ?_
      refine jr_get C G jc11 20 (v := .ref (g 57 0)) (show 0 < 1 by decide) (by decide) (by decide) rfl wd1211 dX12_height_95 ?_
      refine lv_iload_n C.x C.b dX12_height_98 rfl (lv_at hl 4 rfl) ?_
      refine lv_iconst (v := 1) C.x C.b dX12_height_99 (by decide) ?_
      obtain ⟨hs, h⟩ := h
      refine jr_ast C G (show 0 < 1 by decide) (by decide) (by decide) (by decide) rfl rfl hs dX12_height_100 (fun H locs G => ?_)
      obtain ⟨M9, eM9⟩ : ∃ z : jM, z = jup M 57 0 v3.toNatClampNeg 1 := ⟨_, rfl⟩
      rw [← eM9] at G
      have h := h M9 eM9
      have nM9 : jnb M9 = jnb M := by rw [eM9]; exact jnb_up (by decide)
      refine lv_iinc (v := v3 + 1) (lv' := [(3, .int (v3 + 1)), (5, .int (M 50 0 (585 * v1 + ((105 + 120 * v2) + v4)).toNatClampNeg)), (0, .ref (g 11 0)), (1, .int v1), (2, .int v2), (4, .int v4)]) C.x C.b dX12_height_101 hl (k := 4) rfl rfl (by decide) rfl (fun ls hl => ?_)
      refine lv_iinc (v := v4 + 1) (lv' := [(4, .int (v4 + 1)), (3, .int (v3 + 1)), (5, .int (M 50 0 (585 * v1 + ((105 + 120 * v2) + v4)).toNatClampNeg)), (0, .ref (g 11 0)), (1, .int v1), (2, .int v2)]) C.x C.b dX12_height_104 hl (k := 5) rfl rfl (by decide) rfl (fun ls hl => ?_)
      refine lv_goto (tgt := 25) C.x C.b dX12_height_107 (by decide) ?_
      exact h p l e s m args below meth c D cA base g C hr htb _ _ G ls (lv_sub hl [3, 4, 5, 1, 0] rfl)
    · have h := h.1 (jb_1 hc)
      refine lv_iinc (v := v3 + (-1)) (lv' := [(3, .int (v3 + (-1))), (5, .int (M 50 0 (585 * v1 + ((105 + 120 * v2) + v4)).toNatClampNeg)), (0, .ref (g 11 0)), (1, .int v1), (2, .int v2), (4, .int v4)]) C.x C.b dX12_height_61 hl (k := 4) rfl rfl (by decide) rfl (fun ls hl => ?_)
      refine lv_aload_n C.x C.b dX12_height_64 rfl (lv_at hl 2 rfl) ?_
      refine jr_get C G jc11 20 (v := .ref (g 57 0)) (show 0 < 1 by decide) (by decide) (by decide) rfl wd1211 dX12_height_65 ?_
      refine lv_iload_n C.x C.b dX12_height_68 rfl (lv_at hl 0 rfl) ?_
      refine lv_iconst (v := 1) C.x C.b dX12_height_69 (by decide) ?_
      refine lv_isub C.x C.b dX12_height_70 ?_
      refine lv_iconst (v := 1) C.x C.b dX12_height_71 (by decide) ?_
      refine lv_aload_n C.x C.b dX12_height_72 rfl (lv_at hl 2 rfl) ?_
      refine jr_get C G jc11 20 (v := .ref (g 57 0)) (show 0 < 1 by decide) (by decide) (by decide) rfl wd1211 dX12_height_73 ?_
      refine lv_iload_n C.x C.b dX12_height_76 rfl (lv_at hl 0 rfl) ?_
      refine lv_iconst (v := 1) C.x C.b dX12_height_77 (by decide) ?_
      refine lv_isub C.x C.b dX12_height_78 ?_
      obtain ⟨hs, h⟩ := h
      refine jr_ald C G (show 0 < 1 by decide) (by decide) (by decide) (by decide) rfl rfl hs dX12_height_79 ?_
      refine lv_aload_n C.x C.b dX12_height_80 rfl (lv_at hl 2 rfl) ?_
      refine jr_get C G jc11 20 (v := .ref (g 57 0)) (show 0 < 1 by decide) (by decide) (by decide) rfl wd1211 dX12_height_81 ?_
      refine lv_iload_n C.x C.b dX12_height_84 rfl (lv_at hl 0 rfl) ?_
      obtain ⟨hs, h⟩ := h
      refine jr_ald C G (show 0 < 1 by decide) (by decide) (by decide) (by decide) rfl rfl hs dX12_height_85 ?_
      refine va_mmax C.x C.b (C.ml.trans hl.1.symm) C.ow (C.w _ wd1420) (C.w _ wd740) (C.w _ wd94) (C.w _ wd741) (by decide) (Nat.le_of_ble_eq_true rfl) (by decide) (by decide) dX12_height_86 ?_
      rw [show (if (M 57 0 ((v3 + (-1)) - 1).toNatClampNeg) < (M 57 0 (v3 + (-1)).toNatClampNeg) then M 57 0 (v3 + (-1)).toNatClampNeg else M 57 0 ((v3 + (-1)) - 1).toNatClampNeg : Int32) = jmax (M 57 0 ((v3 + (-1)) - 1).toNatClampNeg) (M 57 0 (v3 + (-1)).toNatClampNeg) from rfl]
      refine lv_iadd C.x C.b dX12_height_89 ?_
      obtain ⟨hs, h⟩ := h
      refine jr_ast C G (show 0 < 1 by decide) (by decide) (by decide) (by decide) rfl rfl hs dX12_height_90 (fun H locs G => ?_)
      obtain ⟨M10, eM10⟩ : ∃ z : jM, z = jup M 57 0 ((v3 + (-1)) - 1).toNatClampNeg (1 + (jmax (M 57 0 ((v3 + (-1)) - 1).toNatClampNeg) (M 57 0 (v3 + (-1)).toNatClampNeg))) := ⟨_, rfl⟩
      rw [← eM10] at G
      have h := h M10 eM10
      have nM10 : jnb M10 = jnb M := by rw [eM10]; exact jnb_up (by decide)
      refine lv_goto (tgt := 104) C.x C.b dX12_height_91 (by decide) ?_
      refine lv_iinc (v := v4 + 1) (lv' := [(4, .int (v4 + 1)), (3, .int (v3 + (-1))), (5, .int (M 50 0 (585 * v1 + ((105 + 120 * v2) + v4)).toNatClampNeg)), (0, .ref (g 11 0)), (1, .int v1), (2, .int v2)]) C.x C.b dX12_height_104 hl (k := 5) rfl rfl (by decide) rfl (fun ls hl => ?_)
      refine lv_goto (tgt := 25) C.x C.b dX12_height_107 (by decide) ?_
      exact h p l e s m args below meth c D cA base g C hr htb _ _ G ls (lv_sub hl [3, 4, 5, 1, 0] rfl)

theorem en_X12_valueOf {v1 : Int32} {v2 : Int32} {v3 : Int32} {M : jM} {Q : Int32 → Nat → jM → Prop} (h : at_X12_valueOf_0 v1 v2 v3 M Q) : ok_X12_valueOf v1 v2 v3 M Q := jr_enter (by decide) (fun g => rfl) (fun g => Nat.le_of_ble_eq_true rfl) h
set_option maxHeartbeats 4000000 in
set_option maxRecDepth 100000 in
theorem bl_X12_valueOf_0 (v1 : Int32) (v2 : Int32) (v3 : Int32) (M : jM) (Q : Int32 → Nat → jM → Prop) 
  (h : at_X12_valueOf_6 v1 v2 v3 0 0 M Q) :
  at_X12_valueOf_0 v1 v2 v3 M Q := by
  intro p l e s m args below meth c D cA base g C hr htb H locs G ls hl
  refine lv_iconst (v := 0) C.x C.b dX12_valueOf_0 (by decide) ?_
  refine lv_istore (lv' := [(4, .int 0), (0, .ref (g 11 0)), (1, .int v1), (2, .int v2), (3, .int v3)]) C.x C.b dX12_valueOf_1 hl (by decide) rfl (fun ls hl => ?_)
  refine lv_iconst (v := 0) C.x C.b dX12_valueOf_3 (by decide) ?_
  refine lv_istore (lv' := [(5, .int 0), (4, .int 0), (0, .ref (g 11 0)), (1, .int v1), (2, .int v2), (3, .int v3)]) C.x C.b dX12_valueOf_4 hl (by decide) rfl (fun ls hl => ?_)
  exact h p l e s m args below meth c D cA base g C hr htb _ _ G ls (lv_sub hl [2, 3, 4, 5, 1, 0] rfl)
set_option maxHeartbeats 4000000 in
set_option maxRecDepth 100000 in
theorem bl_X12_valueOf_6 (v1 : Int32) (v2 : Int32) (v3 : Int32) (v4 : Int32) (v5 : Int32) (M : jM) (Q : Int32 → Nat → jM → Prop) 
  (h : (vp_in (585 * v1 + (101 + v2)) 3510) ∧ ((M 50 0 (585 * v1 + (101 + v2)).toNatClampNeg) ≤ v5 → Q (M 57 0 (0 : Int32).toNatClampNeg) 0 M) ∧ (¬ ((M 50 0 (585 * v1 + (101 + v2)).toNatClampNeg) ≤ v5) → (vp_in (585 * v1 + ((105 + 120 * v2) + v5)) 3510) ∧ ((101 ≤ (M 50 0 (585 * v1 + ((105 + 120 * v2) + v5)).toNatClampNeg) ∧ (M 50 0 (585 * v1 + ((105 + 120 * v2) + v5)).toNatClampNeg) ≤ 103) → vp_in ((v4 + (-1)) - 1) 120 ∧ vp_in (v4 + (-1)) 120 ∧ ((M 50 0 (585 * v1 + ((105 + 120 * v2) + v5)).toNatClampNeg) = 101 → vp_in ((v4 + (-1)) - 1) 120 ∧ (∀ M18 : jM, M18 = jup M 57 0 ((v4 + (-1)) - 1).toNatClampNeg ((M 57 0 ((v4 + (-1)) - 1).toNatClampNeg) + (M 57 0 (v4 + (-1)).toNatClampNeg)) → at_X12_valueOf_6 v1 v2 v3 (v4 + (-1)) (v5 + 1) M18 Q)) ∧ (¬ ((M 50 0 (585 * v1 + ((105 + 120 * v2) + v5)).toNatClampNeg) = 101) → ((M 50 0 (585 * v1 + ((105 + 120 * v2) + v5)).toNatClampNeg) = 102 → vp_in ((v4 + (-1)) - 1) 120 ∧ (∀ M17 : jM, M17 = jup M 57 0 ((v4 + (-1)) - 1).toNatClampNeg ((M 57 0 ((v4 + (-1)) - 1).toNatClampNeg) - (M 57 0 (v4 + (-1)).toNatClampNeg)) → at_X12_valueOf_6 v1 v2 v3 (v4 + (-1)) (v5 + 1) M17 Q)) ∧ (¬ ((M 50 0 (585 * v1 + ((105 + 120 * v2) + v5)).toNatClampNeg) = 102) → vp_in ((v4 + (-1)) - 1) 120 ∧ (∀ M16 : jM, M16 = jup M 57 0 ((v4 + (-1)) - 1).toNatClampNeg ((M 57 0 ((v4 + (-1)) - 1).toNatClampNeg) * (M 57 0 (v4 + (-1)).toNatClampNeg)) → at_X12_valueOf_6 v1 v2 v3 (v4 + (-1)) (v5 + 1) M16 Q)))) ∧ (¬ (101 ≤ (M 50 0 (585 * v1 + ((105 + 120 * v2) + v5)).toNatClampNeg) ∧ (M 50 0 (585 * v1 + ((105 + 120 * v2) + v5)).toNatClampNeg) ≤ 103) → (100 ≤ (M 50 0 (585 * v1 + ((105 + 120 * v2) + v5)).toNatClampNeg) → ((M 50 0 (585 * v1 + ((105 + 120 * v2) + v5)).toNatClampNeg) = 100 → vp_in v4 120 ∧ (∀ M14 : jM, M14 = jup M 57 0 v4.toNatClampNeg v3 → at_X12_valueOf_6 v1 v2 v3 (v4 + 1) (v5 + 1) M14 Q)) ∧ (¬ ((M 50 0 (585 * v1 + ((105 + 120 * v2) + v5)).toNatClampNeg) = 100) → (vp_in (585 * v1 + (5 + ((M 50 0 (585 * v1 + ((105 + 120 * v2) + v5)).toNatClampNeg) - 200))) 3510) ∧ (vp_in (585 * v1 + (29 + ((M 50 0 (585 * v1 + ((105 + 120 * v2) + v5)).toNatClampNeg) - 200))) 3510) ∧ vp_in (((49 * M 50 0 (585 * v1 + (5 + ((M 50 0 (585 * v1 + ((105 + 120 * v2) + v5)).toNatClampNeg) - 200))).toNatClampNeg + v3) + M 50 0 (585 * v1 + (29 + ((M 50 0 (585 * v1 + ((105 + 120 * v2) + v5)).toNatClampNeg) - 200))).toNatClampNeg) + 9) 245 ∧ vp_in v4 120 ∧ (∀ M13 : jM, M13 = jup M 57 0 v4.toNatClampNeg (M 58 0 (((49 * M 50 0 (585 * v1 + (5 + ((M 50 0 (585 * v1 + ((105 + 120 * v2) + v5)).toNatClampNeg) - 200))).toNatClampNeg + v3) + M 50 0 (585 * v1 + (29 + ((M 50 0 (585 * v1 + ((105 + 120 * v2) + v5)).toNatClampNeg) - 200))).toNatClampNeg) + 9).toNatClampNeg) → at_X12_valueOf_6 v1 v2 v3 (v4 + 1) (v5 + 1) M13 Q))) ∧ (¬ (100 ≤ (M 50 0 (585 * v1 + ((105 + 120 * v2) + v5)).toNatClampNeg)) → vp_in v4 120 ∧ (∀ M15 : jM, M15 = jup M 57 0 v4.toNatClampNeg (M 50 0 (585 * v1 + ((105 + 120 * v2) + v5)).toNatClampNeg) → at_X12_valueOf_6 v1 v2 v3 (v4 + 1) (v5 + 1) M15 Q))))) :
  at_X12_valueOf_6 v1 v2 v3 v4 v5 M Q := by
  intro p l e s m args below meth c D cA base g C hr htb H locs G ls hl
  refine lv_iload C.x C.b dX12_valueOf_6 (lv_at hl 5 rfl) ?_
  refine lv_aload_n C.x C.b dX12_valueOf_8 rfl (lv_at hl 0 rfl) ?_
  refine lv_iload_n C.x C.b dX12_valueOf_9 rfl (lv_at hl 1 rfl) ?_
  refine lv_bipush (v := 101) C.x C.b dX12_valueOf_10 (by decide) ?_
  refine lv_iload_n C.x C.b dX12_valueOf_12 rfl (lv_at hl 2 rfl) ?_
  refine lv_iadd C.x C.b dX12_valueOf_13 ?_
  obtain ⟨hp3, h⟩ := h
  refine jr_V (d' := 3) C G jc11 jm_X12_of wd1384 (sp_X12_of hp3 ⟨rfl, rfl⟩ : ok_X12_of v1 (101 + v2) M (fun r _ M' => (M 50 0 (585 * v1 + (101 + v2)).toNatClampNeg) = r ∧ M = M')) rfl (show 0 < 1 by decide) (by decide) rfl rfl (by omega) (by decide) (by decide) ⟨rfl, rfl⟩ hl.1 (Nat.le_of_ble_eq_true rfl) dX12_valueOf_14 (fun r1 r1n M2 H locs hq G => ?_)
  obtain ⟨eq1, eq2⟩ := hq
  subst eq1
  subst eq2
  refine lv_icmp_ge (tgt := 168) C.x C.b dX12_valueOf_17 (by decide) (fun hc => ?_) (fun hc => ?_)
  · have h := h.1 hc
    refine lv_aload_n C.x C.b dX12_valueOf_168 rfl (lv_at hl 0 rfl) ?_
    refine jr_get C G jc11 20 (v := .ref (g 57 0)) (show 0 < 1 by decide) (by decide) (by decide) rfl wd1211 dX12_valueOf_169 ?_
    refine lv_iconst (v := 0) C.x C.b dX12_valueOf_172 (by decide) ?_
    refine jr_ald C G (show 0 < 1 by decide) (by decide) (by decide) (by decide) rfl rfl (by unfold vp_in; decide) dX12_valueOf_173 ?_
    exact jr_retI C hr G h (by decide) (by decide) dX12_valueOf_174
  · have h := h.2 hc
    refine lv_aload_n C.x C.b dX12_valueOf_20 rfl (lv_at hl 0 rfl) ?_
    refine lv_iload_n C.x C.b dX12_valueOf_21 rfl (lv_at hl 1 rfl) ?_
    refine lv_iload_n C.x C.b dX12_valueOf_22 rfl (lv_at hl 2 rfl) ?_
    refine lv_iload C.x C.b dX12_valueOf_23 (lv_at hl 5 rfl) ?_
    obtain ⟨hp6, h⟩ := h
    refine jr_V (d' := 3) C G jc11 jm_X12_tokenOf wd1412 (sp_X12_tokenOf hp6 ⟨rfl, rfl⟩ : ok_X12_tokenOf v1 v2 v5 M (fun r _ M' => (M 50 0 (585 * v1 + ((105 + 120 * v2) + v5)).toNatClampNeg) = r ∧ M = M')) rfl (show 0 < 1 by decide) (by decide) rfl rfl (by omega) (by decide) (by decide) ⟨rfl, rfl⟩ hl.1 (Nat.le_of_ble_eq_true rfl) dX12_valueOf_25 (fun r4 r4n M5 H locs hq G => ?_)
    obtain ⟨eq1, eq2⟩ := hq
    subst eq1
    subst eq2
    refine lv_istore (lv' := [(6, .int (M 50 0 (585 * v1 + ((105 + 120 * v2) + v5)).toNatClampNeg)), (0, .ref (g 11 0)), (1, .int v1), (2, .int v2), (3, .int v3), (4, .int v4), (5, .int v5)]) C.x C.b dX12_valueOf_28 hl (by decide) rfl (fun ls hl => ?_)
    refine lv_iload C.x C.b dX12_valueOf_30 (lv_at hl 0 rfl) ?_
    refine lv_bipush (v := 101) C.x C.b dX12_valueOf_32 (by decide) ?_
    refine lv_bipush (v := 103) C.x C.b dX12_valueOf_34 (by decide) ?_
    refine jr_S (d' := 3) C G jm_X12_in wd1293 (sp_X12_in ⟨rfl, rfl⟩ : ok_X12_in (M 50 0 (585 * v1 + ((105 + 120 * v2) + v5)).toNatClampNeg) 101 103 M (fun r _ M' => jb (101 ≤ (M 50 0 (585 * v1 + ((105 + 120 * v2) + v5)).toNatClampNeg) ∧ (M 50 0 (585 * v1 + ((105 + 120 * v2) + v5)).toNatClampNeg) ≤ 103) = r ∧ M = M')) rfl rfl rfl (by omega) (by decide) (by decide) ⟨rfl, rfl⟩ hl.1 (Nat.le_of_ble_eq_true rfl) dX12_valueOf_36 (fun r7 r7n M8 H locs hq G => ?_)
    obtain ⟨eq1, eq2⟩ := hq
    subst eq1
    subst eq2
    refine lv_if_eq (tgt := 112) C.x C.b dX12_valueOf_39 (by decide) (fun hc => ?_) (fun hc => ?_)
    · have h := h.2 (jb_0 hc)
      refine lv_aload_n C.x C.b dX12_valueOf_112 rfl (lv_at hl 1 rfl) ?_
      refine jr_get C G jc11 20 (v := .ref (g 57 0)) (show 0 < 1 by decide) (by decide) (by decide) rfl wd1211 dX12_valueOf_113 ?_
      refine lv_iload C.x C.b dX12_valueOf_116 (lv_at hl 5 rfl) ?_
      refine lv_iload C.x C.b dX12_valueOf_118 (lv_at hl 0 rfl) ?_
      refine lv_bipush (v := 100) C.x C.b dX12_valueOf_120 (by decide) ?_
      refine lv_icmp_ge (tgt := 130) C.x C.b dX12_valueOf_122 (by decide) (fun hc => ?_) (fun hc => ?_)
      · have h := h.1 hc
        refine lv_iload C.x C.b dX12_valueOf_130 (lv_at hl 0 rfl) ?_
        refine lv_bipush (v := 100) C.x C.b dX12_valueOf_132 (by decide) ?_
        refine lv_icmp_ne (tgt := 141) C.x C.b dX12_valueOf_134 (by decide) (fun hc => ?_) (fun hc => ?_)
        · have h := h.2 hc
          refine lv_aload_n C.x C.b dX12_valueOf_141 rfl (lv_at hl 1 rfl) ?_
          refine jr_get C G jc11 21 (v := .ref (g 58 0)) (show 0 < 1 by decide) (by decide) (by decide) rfl wd1212 dX12_valueOf_142 ?_
          refine lv_aload_n C.x C.b dX12_valueOf_145 rfl (lv_at hl 1 rfl) ?_
          refine lv_iload_n C.x C.b dX12_valueOf_146 rfl (lv_at hl 2 rfl) ?_
          refine lv_iload C.x C.b dX12_valueOf_147 (lv_at hl 0 rfl) ?_
          refine lv_sipush (v := 200) C.x C.b dX12_valueOf_149 (by decide) ?_
          refine lv_isub C.x C.b dX12_valueOf_152 ?_
          refine lv_iload_n C.x C.b dX12_valueOf_153 rfl (lv_at hl 4 rfl) ?_
          obtain ⟨hp11, h⟩ := h
          obtain ⟨hp12, h⟩ := h
          refine jr_V (d' := 3) C G jc11 jm_X12_place wd1441 (sp_X12_place hp11 hp12 ⟨rfl, rfl⟩ : ok_X12_place v1 ((M 50 0 (585 * v1 + ((105 + 120 * v2) + v5)).toNatClampNeg) - 200) v3 M (fun r _ M' => (((49 * M 50 0 (585 * v1 + (5 + ((M 50 0 (585 * v1 + ((105 + 120 * v2) + v5)).toNatClampNeg) - 200))).toNatClampNeg + v3) + M 50 0 (585 * v1 + (29 + ((M 50 0 (585 * v1 + ((105 + 120 * v2) + v5)).toNatClampNeg) - 200))).toNatClampNeg) + 9) = r ∧ M = M')) rfl (show 0 < 1 by decide) (by decide) rfl rfl (by omega) (by decide) (by decide) ⟨rfl, rfl⟩ hl.1 (Nat.le_of_ble_eq_true rfl) dX12_valueOf_154 (fun r9 r9n M10 H locs hq G => ?_)
          obtain ⟨eq1, eq2⟩ := hq
          subst eq1
          subst eq2
          obtain ⟨hs, h⟩ := h
          refine jr_ald C G (show 0 < 1 by decide) (by decide) (by decide) (by decide) rfl rfl hs dX12_valueOf_157 ?_
          obtain ⟨hs, h⟩ := h
          refine jr_ast C G (show 0 < 1 by decide) (by decide) (by decide) (by decide) rfl rfl hs dX12_valueOf_158 (fun H locs G => ?_)
          obtain ⟨M13, eM13⟩ : ∃ z : jM, z = jup M 57 0 v4.toNatClampNeg (M 58 0 (((49 * M 50 0 (585 * v1 + (5 + ((M 50 0 (585 * v1 + ((105 + 120 * v2) + v5)).toNatClampNeg) - 200))).toNatClampNeg + v3) + M 50 0 (585 * v1 + (29 + ((M 50 0 (585 * v1 + ((105 + 120 * v2) + v5)).toNatClampNeg) - 200))).toNatClampNeg) + 9).toNatClampNeg) := ⟨_, rfl⟩
          rw [← eM13] at G
          have h := h M13 eM13
          have nM13 : jnb M13 = jnb M := by rw [eM13]; exact jnb_up (by decide)
          refine lv_iinc (v := v4 + 1) (lv' := [(4, .int (v4 + 1)), (6, .int (M 50 0 (585 * v1 + ((105 + 120 * v2) + v5)).toNatClampNeg)), (0, .ref (g 11 0)), (1, .int v1), (2, .int v2), (3, .int v3), (5, .int v5)]) C.x C.b dX12_valueOf_159 hl (k := 5) rfl rfl (by decide) rfl (fun ls hl => ?_)
          refine lv_iinc (v := v5 + 1) (lv' := [(5, .int (v5 + 1)), (4, .int (v4 + 1)), (6, .int (M 50 0 (585 * v1 + ((105 + 120 * v2) + v5)).toNatClampNeg)), (0, .ref (g 11 0)), (1, .int v1), (2, .int v2), (3, .int v3)]) C.x C.b dX12_valueOf_162 hl (k := 6) rfl rfl (by decide) rfl (fun ls hl => ?_)
          refine lv_goto (tgt := 6) C.x C.b dX12_valueOf_165 (by decide) ?_
          exact h p l e s m args below meth c D cA base g C hr htb _ _ G ls (lv_sub hl [3, 4, 5, 6, 1, 0] rfl)
        · have h := h.1 hc
          refine lv_iload_n C.x C.b dX12_valueOf_137 rfl (lv_at hl 4 rfl) ?_
          refine lv_goto (tgt := 158) C.x C.b dX12_valueOf_138 (by decide) ?_
          obtain ⟨hs, h⟩ := h
          refine jr_ast C G (show 0 < 1 by decide) (by decide) (by decide) (by decide) rfl rfl hs dX12_valueOf_158 (fun H locs G => ?_)
          obtain ⟨M14, eM14⟩ : ∃ z : jM, z = jup M 57 0 v4.toNatClampNeg v3 := ⟨_, rfl⟩
          rw [← eM14] at G
          have h := h M14 eM14
          have nM14 : jnb M14 = jnb M := by rw [eM14]; exact jnb_up (by decide)
          refine lv_iinc (v := v4 + 1) (lv' := [(4, .int (v4 + 1)), (6, .int (M 50 0 (585 * v1 + ((105 + 120 * v2) + v5)).toNatClampNeg)), (0, .ref (g 11 0)), (1, .int v1), (2, .int v2), (3, .int v3), (5, .int v5)]) C.x C.b dX12_valueOf_159 hl (k := 5) rfl rfl (by decide) rfl (fun ls hl => ?_)
          refine lv_iinc (v := v5 + 1) (lv' := [(5, .int (v5 + 1)), (4, .int (v4 + 1)), (6, .int (M 50 0 (585 * v1 + ((105 + 120 * v2) + v5)).toNatClampNeg)), (0, .ref (g 11 0)), (1, .int v1), (2, .int v2), (3, .int v3)]) C.x C.b dX12_valueOf_162 hl (k := 6) rfl rfl (by decide) rfl (fun ls hl => ?_)
          refine lv_goto (tgt := 6) C.x C.b dX12_valueOf_165 (by decide) ?_
          exact h p l e s m args below meth c D cA base g C hr htb _ _ G ls (lv_sub hl [3, 4, 5, 6, 1, 0] rfl)
      · have h := h.2 hc
        refine lv_iload C.x C.b dX12_valueOf_125 (lv_at hl 0 rfl) ?_
        refine lv_goto (tgt := 158) C.x C.b dX12_valueOf_127 (by decide) ?_
        obtain ⟨hs, h⟩ := h
        refine jr_ast C G (show 0 < 1 by decide) (by decide) (by decide) (by decide) rfl rfl hs dX12_valueOf_158 (fun H locs G => ?_)
        obtain ⟨M15, eM15⟩ : ∃ z : jM, z = jup M 57 0 v4.toNatClampNeg (M 50 0 (585 * v1 + ((105 + 120 * v2) + v5)).toNatClampNeg) := ⟨_, rfl⟩
        rw [← eM15] at G
        have h := h M15 eM15
        have nM15 : jnb M15 = jnb M := by rw [eM15]; exact jnb_up (by decide)
        refine lv_iinc (v := v4 + 1) (lv' := [(4, .int (v4 + 1)), (6, .int (M 50 0 (585 * v1 + ((105 + 120 * v2) + v5)).toNatClampNeg)), (0, .ref (g 11 0)), (1, .int v1), (2, .int v2), (3, .int v3), (5, .int v5)]) C.x C.b dX12_valueOf_159 hl (k := 5) rfl rfl (by decide) rfl (fun ls hl => ?_)
        refine lv_iinc (v := v5 + 1) (lv' := [(5, .int (v5 + 1)), (4, .int (v4 + 1)), (6, .int (M 50 0 (585 * v1 + ((105 + 120 * v2) + v5)).toNatClampNeg)), (0, .ref (g 11 0)), (1, .int v1), (2, .int v2), (3, .int v3)]) C.x C.b dX12_valueOf_162 hl (k := 6) rfl rfl (by decide) rfl (fun ls hl => ?_)
        refine lv_goto (tgt := 6) C.x C.b dX12_valueOf_165 (by decide) ?_
        exact h p l e s m args below meth c D cA base g C hr htb _ _ G ls (lv_sub hl [3, 4, 5, 6, 1, 0] rfl)
    · have h := h.1 (jb_1 hc)
      refine lv_iinc (v := v4 + (-1)) (lv' := [(4, .int (v4 + (-1))), (6, .int (M 50 0 (585 * v1 + ((105 + 120 * v2) + v5)).toNatClampNeg)), (0, .ref (g 11 0)), (1, .int v1), (2, .int v2), (3, .int v3), (5, .int v5)]) C.x C.b dX12_valueOf_42 hl (k := 5) rfl rfl (by decide) rfl (fun ls hl => ?_)
      refine lv_aload_n C.x C.b dX12_valueOf_45 rfl (lv_at hl 2 rfl) ?_
      refine jr_get C G jc11 20 (v := .ref (g 57 0)) (show 0 < 1 by decide) (by decide) (by decide) rfl wd1211 dX12_valueOf_46 ?_
      refine lv_iload C.x C.b dX12_valueOf_49 (lv_at hl 0 rfl) ?_
      refine lv_iconst (v := 1) C.x C.b dX12_valueOf_51 (by decide) ?_
      refine lv_isub C.x C.b dX12_valueOf_52 ?_
      obtain ⟨hs, h⟩ := h
      refine jr_ald C G (show 0 < 1 by decide) (by decide) (by decide) (by decide) rfl rfl hs dX12_valueOf_53 ?_
      refine lv_istore (lv' := [(7, .int (M 57 0 ((v4 + (-1)) - 1).toNatClampNeg)), (4, .int (v4 + (-1))), (6, .int (M 50 0 (585 * v1 + ((105 + 120 * v2) + v5)).toNatClampNeg)), (0, .ref (g 11 0)), (1, .int v1), (2, .int v2), (3, .int v3), (5, .int v5)]) C.x C.b dX12_valueOf_54 hl (by decide) rfl (fun ls hl => ?_)
      refine lv_aload_n C.x C.b dX12_valueOf_56 rfl (lv_at hl 3 rfl) ?_
      refine jr_get C G jc11 20 (v := .ref (g 57 0)) (show 0 < 1 by decide) (by decide) (by decide) rfl wd1211 dX12_valueOf_57 ?_
      refine lv_iload C.x C.b dX12_valueOf_60 (lv_at hl 1 rfl) ?_
      obtain ⟨hs, h⟩ := h
      refine jr_ald C G (show 0 < 1 by decide) (by decide) (by decide) (by decide) rfl rfl hs dX12_valueOf_62 ?_
      refine lv_istore (lv' := [(8, .int (M 57 0 (v4 + (-1)).toNatClampNeg)), (7, .int (M 57 0 ((v4 + (-1)) - 1).toNatClampNeg)), (4, .int (v4 + (-1))), (6, .int (M 50 0 (585 * v1 + ((105 + 120 * v2) + v5)).toNatClampNeg)), (0, .ref (g 11 0)), (1, .int v1), (2, .int v2), (3, .int v3), (5, .int v5)]) C.x C.b dX12_valueOf_63 hl (by decide) rfl (fun ls hl => ?_)
      refine lv_aload_n C.x C.b dX12_valueOf_65 rfl (lv_at hl 4 rfl) ?_
      refine jr_get C G jc11 20 (v := .ref (g 57 0)) (show 0 < 1 by decide) (by decide) (by decide) rfl wd1211 dX12_valueOf_66 ?_
      refine lv_iload C.x C.b dX12_valueOf_69 (lv_at hl 2 rfl) ?_
      refine lv_iconst (v := 1) C.x C.b dX12_valueOf_71 (by decide) ?_
      refine lv_isub C.x C.b dX12_valueOf_72 ?_
      refine lv_iload C.x C.b dX12_valueOf_73 (lv_at hl 3 rfl) ?_
      refine lv_bipush (v := 101) C.x C.b dX12_valueOf_75 (by decide) ?_
      refine lv_icmp_ne (tgt := 88) C.x C.b dX12_valueOf_77 (by decide) (fun hc => ?_) (fun hc => ?_)
      · have h := h.2 hc
        refine lv_iload C.x C.b dX12_valueOf_88 (lv_at hl 3 rfl) ?_
        refine lv_bipush (v := 102) C.x C.b dX12_valueOf_90 (by decide) ?_
        refine lv_icmp_ne (tgt := 103) C.x C.b dX12_valueOf_92 (by decide) (fun hc => ?_) (fun hc => ?_)
        · have h := h.2 hc
          refine lv_iload C.x C.b dX12_valueOf_103 (lv_at hl 1 rfl) ?_
          refine lv_iload C.x C.b dX12_valueOf_105 (lv_at hl 0 rfl) ?_
          refine lv_imul C.x C.b dX12_valueOf_107 ?_
          obtain ⟨hs, h⟩ := h
          refine jr_ast C G (show 0 < 1 by decide) (by decide) (by decide) (by decide) rfl rfl hs dX12_valueOf_108 (fun H locs G => ?_)
          obtain ⟨M16, eM16⟩ : ∃ z : jM, z = jup M 57 0 ((v4 + (-1)) - 1).toNatClampNeg ((M 57 0 ((v4 + (-1)) - 1).toNatClampNeg) * (M 57 0 (v4 + (-1)).toNatClampNeg)) := ⟨_, rfl⟩
          rw [← eM16] at G
          have h := h M16 eM16
          have nM16 : jnb M16 = jnb M := by rw [eM16]; exact jnb_up (by decide)
          refine lv_goto (tgt := 162) C.x C.b dX12_valueOf_109 (by decide) ?_
          refine lv_iinc (v := v5 + 1) (lv' := [(5, .int (v5 + 1)), (8, .int (M 57 0 (v4 + (-1)).toNatClampNeg)), (7, .int (M 57 0 ((v4 + (-1)) - 1).toNatClampNeg)), (4, .int (v4 + (-1))), (6, .int (M 50 0 (585 * v1 + ((105 + 120 * v2) + v5)).toNatClampNeg)), (0, .ref (g 11 0)), (1, .int v1), (2, .int v2), (3, .int v3)]) C.x C.b dX12_valueOf_162 hl (k := 8) rfl rfl (by decide) rfl (fun ls hl => ?_)
          refine lv_goto (tgt := 6) C.x C.b dX12_valueOf_165 (by decide) ?_
          exact h p l e s m args below meth c D cA base g C hr htb _ _ G ls (lv_sub hl [5, 6, 7, 8, 3, 0] rfl)
        · have h := h.1 hc
          refine lv_iload C.x C.b dX12_valueOf_95 (lv_at hl 1 rfl) ?_
          refine lv_iload C.x C.b dX12_valueOf_97 (lv_at hl 0 rfl) ?_
          refine lv_isub C.x C.b dX12_valueOf_99 ?_
          refine lv_goto (tgt := 108) C.x C.b dX12_valueOf_100 (by decide) ?_
          obtain ⟨hs, h⟩ := h
          refine jr_ast C G (show 0 < 1 by decide) (by decide) (by decide) (by decide) rfl rfl hs dX12_valueOf_108 (fun H locs G => ?_)
          obtain ⟨M17, eM17⟩ : ∃ z : jM, z = jup M 57 0 ((v4 + (-1)) - 1).toNatClampNeg ((M 57 0 ((v4 + (-1)) - 1).toNatClampNeg) - (M 57 0 (v4 + (-1)).toNatClampNeg)) := ⟨_, rfl⟩
          rw [← eM17] at G
          have h := h M17 eM17
          have nM17 : jnb M17 = jnb M := by rw [eM17]; exact jnb_up (by decide)
          refine lv_goto (tgt := 162) C.x C.b dX12_valueOf_109 (by decide) ?_
          refine lv_iinc (v := v5 + 1) (lv' := [(5, .int (v5 + 1)), (8, .int (M 57 0 (v4 + (-1)).toNatClampNeg)), (7, .int (M 57 0 ((v4 + (-1)) - 1).toNatClampNeg)), (4, .int (v4 + (-1))), (6, .int (M 50 0 (585 * v1 + ((105 + 120 * v2) + v5)).toNatClampNeg)), (0, .ref (g 11 0)), (1, .int v1), (2, .int v2), (3, .int v3)]) C.x C.b dX12_valueOf_162 hl (k := 8) rfl rfl (by decide) rfl (fun ls hl => ?_)
          refine lv_goto (tgt := 6) C.x C.b dX12_valueOf_165 (by decide) ?_
          exact h p l e s m args below meth c D cA base g C hr htb _ _ G ls (lv_sub hl [5, 6, 7, 8, 3, 0] rfl)
      · have h := h.1 hc
        refine lv_iload C.x C.b dX12_valueOf_80 (lv_at hl 1 rfl) ?_
        refine lv_iload C.x C.b dX12_valueOf_82 (lv_at hl 0 rfl) ?_
        refine lv_iadd C.x C.b dX12_valueOf_84 ?_
        refine lv_goto (tgt := 108) C.x C.b dX12_valueOf_85 (by decide) ?_
        obtain ⟨hs, h⟩ := h
        refine jr_ast C G (show 0 < 1 by decide) (by decide) (by decide) (by decide) rfl rfl hs dX12_valueOf_108 (fun H locs G => ?_)
        obtain ⟨M18, eM18⟩ : ∃ z : jM, z = jup M 57 0 ((v4 + (-1)) - 1).toNatClampNeg ((M 57 0 ((v4 + (-1)) - 1).toNatClampNeg) + (M 57 0 (v4 + (-1)).toNatClampNeg)) := ⟨_, rfl⟩
        rw [← eM18] at G
        have h := h M18 eM18
        have nM18 : jnb M18 = jnb M := by rw [eM18]; exact jnb_up (by decide)
        refine lv_goto (tgt := 162) C.x C.b dX12_valueOf_109 (by decide) ?_
        refine lv_iinc (v := v5 + 1) (lv' := [(5, .int (v5 + 1)), (8, .int (M 57 0 (v4 + (-1)).toNatClampNeg)), (7, .int (M 57 0 ((v4 + (-1)) - 1).toNatClampNeg)), (4, .int (v4 + (-1))), (6, .int (M 50 0 (585 * v1 + ((105 + 120 * v2) + v5)).toNatClampNeg)), (0, .ref (g 11 0)), (1, .int v1), (2, .int v2), (3, .int v3)]) C.x C.b dX12_valueOf_162 hl (k := 8) rfl rfl (by decide) rfl (fun ls hl => ?_)
        refine lv_goto (tgt := 6) C.x C.b dX12_valueOf_165 (by decide) ?_
        exact h p l e s m args below meth c D cA base g C hr htb _ _ G ls (lv_sub hl [5, 6, 7, 8, 3, 0] rfl)

theorem en_X12_dependences {v1 : Int32} {v2 : Int32} {v3 : Int32} {M : jM} {Q : Int32 → Nat → jM → Prop} (h : at_X12_dependences_0 v1 v2 v3 M Q) : ok_X12_dependences v1 v2 v3 M Q := jr_enter (by decide) (fun g => rfl) (fun g => Nat.le_of_ble_eq_true rfl) h
set_option maxHeartbeats 4000000 in
set_option maxRecDepth 100000 in
theorem bl_X12_dependences_0 (v1 : Int32) (v2 : Int32) (v3 : Int32) (M : jM) (Q : Int32 → Nat → jM → Prop) 
  (h : (∀ M1 : jM, M1 = jup M 11 0 24 (-100) → at_X12_dependences_12 v1 v2 v3 0 0 M1 Q)) :
  at_X12_dependences_0 v1 v2 v3 M Q := by
  intro p l e s m args below meth c D cA base g C hr htb H locs G ls hl
  refine lv_iconst (v := 0) C.x C.b dX12_dependences_0 (by decide) ?_
  refine lv_istore (lv' := [(4, .int 0), (0, .ref (g 11 0)), (1, .int v1), (2, .int v2), (3, .int v3)]) C.x C.b dX12_dependences_1 hl (by decide) rfl (fun ls hl => ?_)
  refine lv_aload_n C.x C.b dX12_dependences_3 rfl (lv_at hl 1 rfl) ?_
  refine lv_bipush (v := (-100)) C.x C.b dX12_dependences_4 (by decide) ?_
  refine jr_put C G jc11 24 (v := (-100)) (show 0 < 1 by decide) (by decide) (by decide) rfl (by decide) wd1215 rfl rfl rfl rfl dX12_dependences_6 (fun H locs G => ?_)
  obtain ⟨M1, eM1⟩ : ∃ z : jM, z = jup M 11 0 24 (-100) := ⟨_, rfl⟩
  rw [← eM1] at G
  have h := h M1 eM1
  have nM1 : jnb M1 = jnb M := by rw [eM1]; exact jnb_up (by decide)
  refine lv_iconst (v := 0) C.x C.b dX12_dependences_9 (by decide) ?_
  refine lv_istore (lv' := [(5, .int 0), (4, .int 0), (0, .ref (g 11 0)), (1, .int v1), (2, .int v2), (3, .int v3)]) C.x C.b dX12_dependences_10 hl (by decide) rfl (fun ls hl => ?_)
  exact h p l e s m args below meth c D cA base g C hr htb _ _ G ls (lv_sub hl [2, 3, 4, 5, 1, 0] rfl)
set_option maxHeartbeats 4000000 in
set_option maxRecDepth 100000 in
theorem bl_X12_dependences_12 (v1 : Int32) (v2 : Int32) (v3 : Int32) (v4 : Int32) (v5 : Int32) (M : jM) (Q : Int32 → Nat → jM → Prop) 
  (h : (vp_in (585 * v1 + 4) 3510) ∧ ((M 50 0 (585 * v1 + 4).toNatClampNeg) ≤ v5 → Q v4 0 M) ∧ (¬ ((M 50 0 (585 * v1 + 4).toNatClampNeg) ≤ v5) → at_X12_dependences_26 v1 v2 v3 v4 v5 0 M Q)) :
  at_X12_dependences_12 v1 v2 v3 v4 v5 M Q := by
  intro p l e s m args below meth c D cA base g C hr htb H locs G ls hl
  refine lv_iload C.x C.b dX12_dependences_12 (lv_at hl 5 rfl) ?_
  refine lv_aload_n C.x C.b dX12_dependences_14 rfl (lv_at hl 0 rfl) ?_
  refine lv_iload_n C.x C.b dX12_dependences_15 rfl (lv_at hl 1 rfl) ?_
  refine lv_iconst (v := 4) C.x C.b dX12_dependences_16 (by decide) ?_
  obtain ⟨hp3, h⟩ := h
  refine jr_V (d' := 3) C G jc11 jm_X12_of wd1384 (sp_X12_of hp3 ⟨rfl, rfl⟩ : ok_X12_of v1 4 M (fun r _ M' => (M 50 0 (585 * v1 + 4).toNatClampNeg) = r ∧ M = M')) rfl (show 0 < 1 by decide) (by decide) rfl rfl (by omega) (by decide) (by decide) ⟨rfl, rfl⟩ hl.1 (Nat.le_of_ble_eq_true rfl) dX12_dependences_17 (fun r1 r1n M2 H locs hq G => ?_)
  obtain ⟨eq1, eq2⟩ := hq
  subst eq1
  subst eq2
  refine lv_icmp_ge (tgt := 129) C.x C.b dX12_dependences_20 (by decide) (fun hc => ?_) (fun hc => ?_)
  · have h := h.1 hc
    refine lv_iload C.x C.b dX12_dependences_129 (lv_at hl 4 rfl) ?_
    exact jr_retI C hr G h (by decide) (by decide) dX12_dependences_131
  · have h := h.2 hc
    refine lv_iconst (v := 0) C.x C.b dX12_dependences_23 (by decide) ?_
    refine lv_istore (lv' := [(6, .int 0), (0, .ref (g 11 0)), (1, .int v1), (2, .int v2), (3, .int v3), (4, .int v4), (5, .int v5)]) C.x C.b dX12_dependences_24 hl (by decide) rfl (fun ls hl => ?_)
    exact h p l e s m args below meth c D cA base g C hr htb _ _ G ls (lv_sub hl [1, 2, 3, 4, 5, 6, 0] rfl)
set_option maxHeartbeats 4000000 in
set_option maxRecDepth 100000 in
theorem bl_X12_dependences_26 (v1 : Int32) (v2 : Int32) (v3 : Int32) (v4 : Int32) (v5 : Int32) (v6 : Int32) (M : jM) (Q : Int32 → Nat → jM → Prop) 
  (h : (vp_in (585 * v2 + 4) 3510) ∧ ((M 50 0 (585 * v2 + 4).toNatClampNeg) ≤ v6 → at_X12_dependences_12 v1 v2 v3 v4 (v5 + 1) M Q) ∧ (¬ ((M 50 0 (585 * v2 + 4).toNatClampNeg) ≤ v6) → ok_X12_isDependence v1 v5 v2 v6 M (fun r4 _ M5 => jnb M5 = jnb M ∧ (r4 = 0 → at_X12_dependences_26 v1 v2 v3 v4 v5 (v6 + 1) M5 Q) ∧ (¬ (r4 = 0) → (v4 = v3 → (∀ M23 : jM, M23 = jup M5 11 0 22 v5 → (v4 = v3 → (∀ M32 : jM, M32 = jup M23 11 0 23 v6 → (vp_in (585 * v2 + (29 + v6)) 3510) ∧ (vp_in (585 * v1 + (29 + v5)) 3510) ∧ (∀ M39 : jM, M39 = jup M32 11 0 24 (jmax (M32 11 0 24) ((M32 50 0 (585 * v2 + (29 + v6)).toNatClampNeg) - (M32 50 0 (585 * v1 + (29 + v5)).toNatClampNeg))) → at_X12_dependences_26 v1 v2 v3 (v4 + 1) v5 (v6 + 1) M39 Q))) ∧ (¬ (v4 = v3) → (∀ M24 : jM, M24 = jup M23 11 0 23 (M23 11 0 23) → (vp_in (585 * v2 + (29 + v6)) 3510) ∧ (vp_in (585 * v1 + (29 + v5)) 3510) ∧ (∀ M31 : jM, M31 = jup M24 11 0 24 (jmax (M24 11 0 24) ((M24 50 0 (585 * v2 + (29 + v6)).toNatClampNeg) - (M24 50 0 (585 * v1 + (29 + v5)).toNatClampNeg))) → at_X12_dependences_26 v1 v2 v3 (v4 + 1) v5 (v6 + 1) M31 Q))))) ∧ (¬ (v4 = v3) → (∀ M6 : jM, M6 = jup M5 11 0 22 (M5 11 0 22) → (v4 = v3 → (∀ M15 : jM, M15 = jup M6 11 0 23 v6 → (vp_in (585 * v2 + (29 + v6)) 3510) ∧ (vp_in (585 * v1 + (29 + v5)) 3510) ∧ (∀ M22 : jM, M22 = jup M15 11 0 24 (jmax (M15 11 0 24) ((M15 50 0 (585 * v2 + (29 + v6)).toNatClampNeg) - (M15 50 0 (585 * v1 + (29 + v5)).toNatClampNeg))) → at_X12_dependences_26 v1 v2 v3 (v4 + 1) v5 (v6 + 1) M22 Q))) ∧ (¬ (v4 = v3) → (∀ M7 : jM, M7 = jup M6 11 0 23 (M6 11 0 23) → (vp_in (585 * v2 + (29 + v6)) 3510) ∧ (vp_in (585 * v1 + (29 + v5)) 3510) ∧ (∀ M14 : jM, M14 = jup M7 11 0 24 (jmax (M7 11 0 24) ((M7 50 0 (585 * v2 + (29 + v6)).toNatClampNeg) - (M7 50 0 (585 * v1 + (29 + v5)).toNatClampNeg))) → at_X12_dependences_26 v1 v2 v3 (v4 + 1) v5 (v6 + 1) M14 Q))))))))) :
  at_X12_dependences_26 v1 v2 v3 v4 v5 v6 M Q := by
  intro p l e s m args below meth c D cA base g C hr htb H locs G ls hl
  refine lv_iload C.x C.b dX12_dependences_26 (lv_at hl 6 rfl) ?_
  refine lv_aload_n C.x C.b dX12_dependences_28 rfl (lv_at hl 0 rfl) ?_
  refine lv_iload_n C.x C.b dX12_dependences_29 rfl (lv_at hl 2 rfl) ?_
  refine lv_iconst (v := 4) C.x C.b dX12_dependences_30 (by decide) ?_
  obtain ⟨hp3, h⟩ := h
  refine jr_V (d' := 3) C G jc11 jm_X12_of wd1384 (sp_X12_of hp3 ⟨rfl, rfl⟩ : ok_X12_of v2 4 M (fun r _ M' => (M 50 0 (585 * v2 + 4).toNatClampNeg) = r ∧ M = M')) rfl (show 0 < 1 by decide) (by decide) rfl rfl (by omega) (by decide) (by decide) ⟨rfl, rfl⟩ hl.1 (Nat.le_of_ble_eq_true rfl) dX12_dependences_31 (fun r1 r1n M2 H locs hq G => ?_)
  obtain ⟨eq1, eq2⟩ := hq
  subst eq1
  subst eq2
  refine lv_icmp_ge (tgt := 123) C.x C.b dX12_dependences_34 (by decide) (fun hc => ?_) (fun hc => ?_)
  · have h := h.1 hc
    refine lv_iinc (v := v5 + 1) (lv' := [(5, .int (v5 + 1)), (0, .ref (g 11 0)), (1, .int v1), (2, .int v2), (3, .int v3), (4, .int v4), (6, .int v6)]) C.x C.b dX12_dependences_123 hl (k := 5) rfl rfl (by decide) rfl (fun ls hl => ?_)
    refine lv_goto (tgt := 12) C.x C.b dX12_dependences_126 (by decide) ?_
    exact h p l e s m args below meth c D cA base g C hr htb _ _ G ls (lv_sub hl [1, 2, 3, 4, 5, 0] rfl)
  · have h := h.2 hc
    refine lv_aload_n C.x C.b dX12_dependences_37 rfl (lv_at hl 0 rfl) ?_
    refine lv_iload_n C.x C.b dX12_dependences_38 rfl (lv_at hl 1 rfl) ?_
    refine lv_iload C.x C.b dX12_dependences_39 (lv_at hl 5 rfl) ?_
    refine lv_iload_n C.x C.b dX12_dependences_41 rfl (lv_at hl 2 rfl) ?_
    refine lv_iload C.x C.b dX12_dependences_42 (lv_at hl 6 rfl) ?_
    refine jr_V (d' := 3) C G jc11 jm_X12_isDependence wd1473 h rfl (show 0 < 1 by decide) (by decide) rfl rfl (by omega) (by decide) (by decide) ⟨rfl, rfl⟩ hl.1 (Nat.le_of_ble_eq_true rfl) dX12_dependences_44 (fun r4 r4n M5 H locs h G => ?_)
    obtain ⟨nM5, h⟩ := h
    refine lv_if_eq (tgt := 117) C.x C.b dX12_dependences_47 (by decide) (fun hc => ?_) (fun hc => ?_)
    · have h := h.1 hc
      refine lv_iinc (v := v6 + 1) (lv' := [(6, .int (v6 + 1)), (0, .ref (g 11 0)), (1, .int v1), (2, .int v2), (3, .int v3), (4, .int v4), (5, .int v5)]) C.x C.b dX12_dependences_117 hl (k := 6) rfl rfl (by decide) rfl (fun ls hl => ?_)
      refine lv_goto (tgt := 26) C.x C.b dX12_dependences_120 (by decide) ?_
      exact h p l e s m args below meth c D cA base g C hr htb _ _ G ls (lv_sub hl [1, 2, 3, 4, 5, 6, 0] rfl)
    · have h := h.2 hc
      refine lv_aload_n C.x C.b dX12_dependences_50 rfl (lv_at hl 0 rfl) ?_
      refine lv_iload C.x C.b dX12_dependences_51 (lv_at hl 4 rfl) ?_
      refine lv_iload_n C.x C.b dX12_dependences_53 rfl (lv_at hl 3 rfl) ?_
      refine lv_icmp_ne (tgt := 62) C.x C.b dX12_dependences_54 (by decide) (fun hc => ?_) (fun hc => ?_)
      · have h := h.2 hc
        refine lv_aload_n C.x C.b dX12_dependences_62 rfl (lv_at hl 0 rfl) ?_
        refine jr_get C G jc11 22 (v := .int (M5 11 0 22)) (show 0 < 1 by decide) (by decide) (by decide) rfl wd1213 dX12_dependences_63 ?_
        refine jr_put C G jc11 22 (v := M5 11 0 22) (show 0 < 1 by decide) (by decide) (by decide) rfl (by decide) wd1213 rfl rfl rfl rfl dX12_dependences_66 (fun H locs G => ?_)
        obtain ⟨M6, eM6⟩ : ∃ z : jM, z = jup M5 11 0 22 (M5 11 0 22) := ⟨_, rfl⟩
        rw [← eM6] at G
        have h := h M6 eM6
        have nM6 : jnb M6 = jnb M5 := by rw [eM6]; exact jnb_up (by decide)
        refine lv_aload_n C.x C.b dX12_dependences_69 rfl (lv_at hl 0 rfl) ?_
        refine lv_iload C.x C.b dX12_dependences_70 (lv_at hl 4 rfl) ?_
        refine lv_iload_n C.x C.b dX12_dependences_72 rfl (lv_at hl 3 rfl) ?_
        refine lv_icmp_ne (tgt := 81) C.x C.b dX12_dependences_73 (by decide) (fun hc => ?_) (fun hc => ?_)
        · have h := h.2 hc
          refine lv_aload_n C.x C.b dX12_dependences_81 rfl (lv_at hl 0 rfl) ?_
          refine jr_get C G jc11 23 (v := .int (M6 11 0 23)) (show 0 < 1 by decide) (by decide) (by decide) rfl wd1214 dX12_dependences_82 ?_
          refine jr_put C G jc11 23 (v := M6 11 0 23) (show 0 < 1 by decide) (by decide) (by decide) rfl (by decide) wd1214 rfl rfl rfl rfl dX12_dependences_85 (fun H locs G => ?_)
          obtain ⟨M7, eM7⟩ : ∃ z : jM, z = jup M6 11 0 23 (M6 11 0 23) := ⟨_, rfl⟩
          rw [← eM7] at G
          have h := h M7 eM7
          have nM7 : jnb M7 = jnb M6 := by rw [eM7]; exact jnb_up (by decide)
          refine lv_aload_n C.x C.b dX12_dependences_88 rfl (lv_at hl 0 rfl) ?_
          refine lv_aload_n C.x C.b dX12_dependences_89 rfl (lv_at hl 0 rfl) ?_
          refine jr_get C G jc11 24 (v := .int (M7 11 0 24)) (show 0 < 1 by decide) (by decide) (by decide) rfl wd1215 dX12_dependences_90 ?_
          refine lv_aload_n C.x C.b dX12_dependences_93 rfl (lv_at hl 0 rfl) ?_
          refine lv_iload_n C.x C.b dX12_dependences_94 rfl (lv_at hl 2 rfl) ?_
          refine lv_iload C.x C.b dX12_dependences_95 (lv_at hl 6 rfl) ?_
          obtain ⟨hp10, h⟩ := h
          refine jr_V (d' := 3) C G jc11 jm_X12_offsetOf wd1449 (sp_X12_offsetOf hp10 ⟨rfl, rfl⟩ : ok_X12_offsetOf v2 v6 M7 (fun r _ M' => (M7 50 0 (585 * v2 + (29 + v6)).toNatClampNeg) = r ∧ M7 = M')) rfl (show 0 < 1 by decide) (by decide) rfl rfl (by omega) (by decide) (by decide) ⟨rfl, rfl⟩ hl.1 (Nat.le_of_ble_eq_true rfl) dX12_dependences_97 (fun r8 r8n M9 H locs hq G => ?_)
          obtain ⟨eq1, eq2⟩ := hq
          subst eq1
          subst eq2
          refine lv_aload_n C.x C.b dX12_dependences_100 rfl (lv_at hl 0 rfl) ?_
          refine lv_iload_n C.x C.b dX12_dependences_101 rfl (lv_at hl 1 rfl) ?_
          refine lv_iload C.x C.b dX12_dependences_102 (lv_at hl 5 rfl) ?_
          obtain ⟨hp13, h⟩ := h
          refine jr_V (d' := 3) C G jc11 jm_X12_offsetOf wd1449 (sp_X12_offsetOf hp13 ⟨rfl, rfl⟩ : ok_X12_offsetOf v1 v5 M7 (fun r _ M' => (M7 50 0 (585 * v1 + (29 + v5)).toNatClampNeg) = r ∧ M7 = M')) rfl (show 0 < 1 by decide) (by decide) rfl rfl (by omega) (by decide) (by decide) ⟨rfl, rfl⟩ hl.1 (Nat.le_of_ble_eq_true rfl) dX12_dependences_104 (fun r11 r11n M12 H locs hq G => ?_)
          obtain ⟨eq1, eq2⟩ := hq
          subst eq1
          subst eq2
          refine lv_isub C.x C.b dX12_dependences_107 ?_
          refine va_mmax C.x C.b (C.ml.trans hl.1.symm) C.ow (C.w _ wd1420) (C.w _ wd740) (C.w _ wd94) (C.w _ wd741) (by decide) (Nat.le_of_ble_eq_true rfl) (by decide) (by decide) dX12_dependences_108 ?_
          rw [show (if (M7 11 0 24) < ((M7 50 0 (585 * v2 + (29 + v6)).toNatClampNeg) - (M7 50 0 (585 * v1 + (29 + v5)).toNatClampNeg)) then (M7 50 0 (585 * v2 + (29 + v6)).toNatClampNeg) - (M7 50 0 (585 * v1 + (29 + v5)).toNatClampNeg) else M7 11 0 24 : Int32) = jmax (M7 11 0 24) ((M7 50 0 (585 * v2 + (29 + v6)).toNatClampNeg) - (M7 50 0 (585 * v1 + (29 + v5)).toNatClampNeg)) from rfl]
          refine jr_put C G jc11 24 (v := jmax (M7 11 0 24) ((M7 50 0 (585 * v2 + (29 + v6)).toNatClampNeg) - (M7 50 0 (585 * v1 + (29 + v5)).toNatClampNeg))) (show 0 < 1 by decide) (by decide) (by decide) rfl (by decide) wd1215 rfl rfl rfl rfl dX12_dependences_111 (fun H locs G => ?_)
          obtain ⟨M14, eM14⟩ : ∃ z : jM, z = jup M7 11 0 24 (jmax (M7 11 0 24) ((M7 50 0 (585 * v2 + (29 + v6)).toNatClampNeg) - (M7 50 0 (585 * v1 + (29 + v5)).toNatClampNeg))) := ⟨_, rfl⟩
          rw [← eM14] at G
          have h := h M14 eM14
          have nM14 : jnb M14 = jnb M7 := by rw [eM14]; exact jnb_up (by decide)
          refine lv_iinc (v := v4 + 1) (lv' := [(4, .int (v4 + 1)), (0, .ref (g 11 0)), (1, .int v1), (2, .int v2), (3, .int v3), (5, .int v5), (6, .int v6)]) C.x C.b dX12_dependences_114 hl (k := 4) rfl rfl (by decide) rfl (fun ls hl => ?_)
          refine lv_iinc (v := v6 + 1) (lv' := [(6, .int (v6 + 1)), (4, .int (v4 + 1)), (0, .ref (g 11 0)), (1, .int v1), (2, .int v2), (3, .int v3), (5, .int v5)]) C.x C.b dX12_dependences_117 hl (k := 6) rfl rfl (by decide) rfl (fun ls hl => ?_)
          refine lv_goto (tgt := 26) C.x C.b dX12_dependences_120 (by decide) ?_
          exact h p l e s m args below meth c D cA base g C hr htb _ _ G ls (lv_sub hl [2, 3, 4, 5, 1, 6, 0] rfl)
        · have h := h.1 hc
          refine lv_iload C.x C.b dX12_dependences_76 (lv_at hl 6 rfl) ?_
          refine lv_goto (tgt := 85) C.x C.b dX12_dependences_78 (by decide) ?_
          refine jr_put C G jc11 23 (v := v6) (show 0 < 1 by decide) (by decide) (by decide) rfl (by decide) wd1214 rfl rfl rfl rfl dX12_dependences_85 (fun H locs G => ?_)
          obtain ⟨M15, eM15⟩ : ∃ z : jM, z = jup M6 11 0 23 v6 := ⟨_, rfl⟩
          rw [← eM15] at G
          have h := h M15 eM15
          have nM15 : jnb M15 = jnb M6 := by rw [eM15]; exact jnb_up (by decide)
          refine lv_aload_n C.x C.b dX12_dependences_88 rfl (lv_at hl 0 rfl) ?_
          refine lv_aload_n C.x C.b dX12_dependences_89 rfl (lv_at hl 0 rfl) ?_
          refine jr_get C G jc11 24 (v := .int (M15 11 0 24)) (show 0 < 1 by decide) (by decide) (by decide) rfl wd1215 dX12_dependences_90 ?_
          refine lv_aload_n C.x C.b dX12_dependences_93 rfl (lv_at hl 0 rfl) ?_
          refine lv_iload_n C.x C.b dX12_dependences_94 rfl (lv_at hl 2 rfl) ?_
          refine lv_iload C.x C.b dX12_dependences_95 (lv_at hl 6 rfl) ?_
          obtain ⟨hp18, h⟩ := h
          refine jr_V (d' := 3) C G jc11 jm_X12_offsetOf wd1449 (sp_X12_offsetOf hp18 ⟨rfl, rfl⟩ : ok_X12_offsetOf v2 v6 M15 (fun r _ M' => (M15 50 0 (585 * v2 + (29 + v6)).toNatClampNeg) = r ∧ M15 = M')) rfl (show 0 < 1 by decide) (by decide) rfl rfl (by omega) (by decide) (by decide) ⟨rfl, rfl⟩ hl.1 (Nat.le_of_ble_eq_true rfl) dX12_dependences_97 (fun r16 r16n M17 H locs hq G => ?_)
          obtain ⟨eq1, eq2⟩ := hq
          subst eq1
          subst eq2
          refine lv_aload_n C.x C.b dX12_dependences_100 rfl (lv_at hl 0 rfl) ?_
          refine lv_iload_n C.x C.b dX12_dependences_101 rfl (lv_at hl 1 rfl) ?_
          refine lv_iload C.x C.b dX12_dependences_102 (lv_at hl 5 rfl) ?_
          obtain ⟨hp21, h⟩ := h
          refine jr_V (d' := 3) C G jc11 jm_X12_offsetOf wd1449 (sp_X12_offsetOf hp21 ⟨rfl, rfl⟩ : ok_X12_offsetOf v1 v5 M15 (fun r _ M' => (M15 50 0 (585 * v1 + (29 + v5)).toNatClampNeg) = r ∧ M15 = M')) rfl (show 0 < 1 by decide) (by decide) rfl rfl (by omega) (by decide) (by decide) ⟨rfl, rfl⟩ hl.1 (Nat.le_of_ble_eq_true rfl) dX12_dependences_104 (fun r19 r19n M20 H locs hq G => ?_)
          obtain ⟨eq1, eq2⟩ := hq
          subst eq1
          subst eq2
          refine lv_isub C.x C.b dX12_dependences_107 ?_
          refine va_mmax C.x C.b (C.ml.trans hl.1.symm) C.ow (C.w _ wd1420) (C.w _ wd740) (C.w _ wd94) (C.w _ wd741) (by decide) (Nat.le_of_ble_eq_true rfl) (by decide) (by decide) dX12_dependences_108 ?_
          rw [show (if (M15 11 0 24) < ((M15 50 0 (585 * v2 + (29 + v6)).toNatClampNeg) - (M15 50 0 (585 * v1 + (29 + v5)).toNatClampNeg)) then (M15 50 0 (585 * v2 + (29 + v6)).toNatClampNeg) - (M15 50 0 (585 * v1 + (29 + v5)).toNatClampNeg) else M15 11 0 24 : Int32) = jmax (M15 11 0 24) ((M15 50 0 (585 * v2 + (29 + v6)).toNatClampNeg) - (M15 50 0 (585 * v1 + (29 + v5)).toNatClampNeg)) from rfl]
          refine jr_put C G jc11 24 (v := jmax (M15 11 0 24) ((M15 50 0 (585 * v2 + (29 + v6)).toNatClampNeg) - (M15 50 0 (585 * v1 + (29 + v5)).toNatClampNeg))) (show 0 < 1 by decide) (by decide) (by decide) rfl (by decide) wd1215 rfl rfl rfl rfl dX12_dependences_111 (fun H locs G => ?_)
          obtain ⟨M22, eM22⟩ : ∃ z : jM, z = jup M15 11 0 24 (jmax (M15 11 0 24) ((M15 50 0 (585 * v2 + (29 + v6)).toNatClampNeg) - (M15 50 0 (585 * v1 + (29 + v5)).toNatClampNeg))) := ⟨_, rfl⟩
          rw [← eM22] at G
          have h := h M22 eM22
          have nM22 : jnb M22 = jnb M15 := by rw [eM22]; exact jnb_up (by decide)
          refine lv_iinc (v := v4 + 1) (lv' := [(4, .int (v4 + 1)), (0, .ref (g 11 0)), (1, .int v1), (2, .int v2), (3, .int v3), (5, .int v5), (6, .int v6)]) C.x C.b dX12_dependences_114 hl (k := 4) rfl rfl (by decide) rfl (fun ls hl => ?_)
          refine lv_iinc (v := v6 + 1) (lv' := [(6, .int (v6 + 1)), (4, .int (v4 + 1)), (0, .ref (g 11 0)), (1, .int v1), (2, .int v2), (3, .int v3), (5, .int v5)]) C.x C.b dX12_dependences_117 hl (k := 6) rfl rfl (by decide) rfl (fun ls hl => ?_)
          refine lv_goto (tgt := 26) C.x C.b dX12_dependences_120 (by decide) ?_
          exact h p l e s m args below meth c D cA base g C hr htb _ _ G ls (lv_sub hl [2, 3, 4, 5, 1, 6, 0] rfl)
      · have h := h.1 hc
        refine lv_iload C.x C.b dX12_dependences_57 (lv_at hl 5 rfl) ?_
        refine lv_goto (tgt := 66) C.x C.b dX12_dependences_59 (by decide) ?_
        refine jr_put C G jc11 22 (v := v5) (show 0 < 1 by decide) (by decide) (by decide) rfl (by decide) wd1213 rfl rfl rfl rfl dX12_dependences_66 (fun H locs G => ?_)
        obtain ⟨M23, eM23⟩ : ∃ z : jM, z = jup M5 11 0 22 v5 := ⟨_, rfl⟩
        rw [← eM23] at G
        have h := h M23 eM23
        have nM23 : jnb M23 = jnb M5 := by rw [eM23]; exact jnb_up (by decide)
        refine lv_aload_n C.x C.b dX12_dependences_69 rfl (lv_at hl 0 rfl) ?_
        refine lv_iload C.x C.b dX12_dependences_70 (lv_at hl 4 rfl) ?_
        refine lv_iload_n C.x C.b dX12_dependences_72 rfl (lv_at hl 3 rfl) ?_
        refine lv_icmp_ne (tgt := 81) C.x C.b dX12_dependences_73 (by decide) (fun hc => ?_) (fun hc => ?_)
        · have h := h.2 hc
          refine lv_aload_n C.x C.b dX12_dependences_81 rfl (lv_at hl 0 rfl) ?_
          refine jr_get C G jc11 23 (v := .int (M23 11 0 23)) (show 0 < 1 by decide) (by decide) (by decide) rfl wd1214 dX12_dependences_82 ?_
          refine jr_put C G jc11 23 (v := M23 11 0 23) (show 0 < 1 by decide) (by decide) (by decide) rfl (by decide) wd1214 rfl rfl rfl rfl dX12_dependences_85 (fun H locs G => ?_)
          obtain ⟨M24, eM24⟩ : ∃ z : jM, z = jup M23 11 0 23 (M23 11 0 23) := ⟨_, rfl⟩
          rw [← eM24] at G
          have h := h M24 eM24
          have nM24 : jnb M24 = jnb M23 := by rw [eM24]; exact jnb_up (by decide)
          refine lv_aload_n C.x C.b dX12_dependences_88 rfl (lv_at hl 0 rfl) ?_
          refine lv_aload_n C.x C.b dX12_dependences_89 rfl (lv_at hl 0 rfl) ?_
          refine jr_get C G jc11 24 (v := .int (M24 11 0 24)) (show 0 < 1 by decide) (by decide) (by decide) rfl wd1215 dX12_dependences_90 ?_
          refine lv_aload_n C.x C.b dX12_dependences_93 rfl (lv_at hl 0 rfl) ?_
          refine lv_iload_n C.x C.b dX12_dependences_94 rfl (lv_at hl 2 rfl) ?_
          refine lv_iload C.x C.b dX12_dependences_95 (lv_at hl 6 rfl) ?_
          obtain ⟨hp27, h⟩ := h
          refine jr_V (d' := 3) C G jc11 jm_X12_offsetOf wd1449 (sp_X12_offsetOf hp27 ⟨rfl, rfl⟩ : ok_X12_offsetOf v2 v6 M24 (fun r _ M' => (M24 50 0 (585 * v2 + (29 + v6)).toNatClampNeg) = r ∧ M24 = M')) rfl (show 0 < 1 by decide) (by decide) rfl rfl (by omega) (by decide) (by decide) ⟨rfl, rfl⟩ hl.1 (Nat.le_of_ble_eq_true rfl) dX12_dependences_97 (fun r25 r25n M26 H locs hq G => ?_)
          obtain ⟨eq1, eq2⟩ := hq
          subst eq1
          subst eq2
          refine lv_aload_n C.x C.b dX12_dependences_100 rfl (lv_at hl 0 rfl) ?_
          refine lv_iload_n C.x C.b dX12_dependences_101 rfl (lv_at hl 1 rfl) ?_
          refine lv_iload C.x C.b dX12_dependences_102 (lv_at hl 5 rfl) ?_
          obtain ⟨hp30, h⟩ := h
          refine jr_V (d' := 3) C G jc11 jm_X12_offsetOf wd1449 (sp_X12_offsetOf hp30 ⟨rfl, rfl⟩ : ok_X12_offsetOf v1 v5 M24 (fun r _ M' => (M24 50 0 (585 * v1 + (29 + v5)).toNatClampNeg) = r ∧ M24 = M')) rfl (show 0 < 1 by decide) (by decide) rfl rfl (by omega) (by decide) (by decide) ⟨rfl, rfl⟩ hl.1 (Nat.le_of_ble_eq_true rfl) dX12_dependences_104 (fun r28 r28n M29 H locs hq G => ?_)
          obtain ⟨eq1, eq2⟩ := hq
          subst eq1
          subst eq2
          refine lv_isub C.x C.b dX12_dependences_107 ?_
          refine va_mmax C.x C.b (C.ml.trans hl.1.symm) C.ow (C.w _ wd1420) (C.w _ wd740) (C.w _ wd94) (C.w _ wd741) (by decide) (Nat.le_of_ble_eq_true rfl) (by decide) (by decide) dX12_dependences_108 ?_
          rw [show (if (M24 11 0 24) < ((M24 50 0 (585 * v2 + (29 + v6)).toNatClampNeg) - (M24 50 0 (585 * v1 + (29 + v5)).toNatClampNeg)) then (M24 50 0 (585 * v2 + (29 + v6)).toNatClampNeg) - (M24 50 0 (585 * v1 + (29 + v5)).toNatClampNeg) else M24 11 0 24 : Int32) = jmax (M24 11 0 24) ((M24 50 0 (585 * v2 + (29 + v6)).toNatClampNeg) - (M24 50 0 (585 * v1 + (29 + v5)).toNatClampNeg)) from rfl]
          refine jr_put C G jc11 24 (v := jmax (M24 11 0 24) ((M24 50 0 (585 * v2 + (29 + v6)).toNatClampNeg) - (M24 50 0 (585 * v1 + (29 + v5)).toNatClampNeg))) (show 0 < 1 by decide) (by decide) (by decide) rfl (by decide) wd1215 rfl rfl rfl rfl dX12_dependences_111 (fun H locs G => ?_)
          obtain ⟨M31, eM31⟩ : ∃ z : jM, z = jup M24 11 0 24 (jmax (M24 11 0 24) ((M24 50 0 (585 * v2 + (29 + v6)).toNatClampNeg) - (M24 50 0 (585 * v1 + (29 + v5)).toNatClampNeg))) := ⟨_, rfl⟩
          rw [← eM31] at G
          have h := h M31 eM31
          have nM31 : jnb M31 = jnb M24 := by rw [eM31]; exact jnb_up (by decide)
          refine lv_iinc (v := v4 + 1) (lv' := [(4, .int (v4 + 1)), (0, .ref (g 11 0)), (1, .int v1), (2, .int v2), (3, .int v3), (5, .int v5), (6, .int v6)]) C.x C.b dX12_dependences_114 hl (k := 4) rfl rfl (by decide) rfl (fun ls hl => ?_)
          refine lv_iinc (v := v6 + 1) (lv' := [(6, .int (v6 + 1)), (4, .int (v4 + 1)), (0, .ref (g 11 0)), (1, .int v1), (2, .int v2), (3, .int v3), (5, .int v5)]) C.x C.b dX12_dependences_117 hl (k := 6) rfl rfl (by decide) rfl (fun ls hl => ?_)
          refine lv_goto (tgt := 26) C.x C.b dX12_dependences_120 (by decide) ?_
          exact h p l e s m args below meth c D cA base g C hr htb _ _ G ls (lv_sub hl [2, 3, 4, 5, 1, 6, 0] rfl)
        · have h := h.1 hc
          refine lv_iload C.x C.b dX12_dependences_76 (lv_at hl 6 rfl) ?_
          refine lv_goto (tgt := 85) C.x C.b dX12_dependences_78 (by decide) ?_
          refine jr_put C G jc11 23 (v := v6) (show 0 < 1 by decide) (by decide) (by decide) rfl (by decide) wd1214 rfl rfl rfl rfl dX12_dependences_85 (fun H locs G => ?_)
          obtain ⟨M32, eM32⟩ : ∃ z : jM, z = jup M23 11 0 23 v6 := ⟨_, rfl⟩
          rw [← eM32] at G
          have h := h M32 eM32
          have nM32 : jnb M32 = jnb M23 := by rw [eM32]; exact jnb_up (by decide)
          refine lv_aload_n C.x C.b dX12_dependences_88 rfl (lv_at hl 0 rfl) ?_
          refine lv_aload_n C.x C.b dX12_dependences_89 rfl (lv_at hl 0 rfl) ?_
          refine jr_get C G jc11 24 (v := .int (M32 11 0 24)) (show 0 < 1 by decide) (by decide) (by decide) rfl wd1215 dX12_dependences_90 ?_
          refine lv_aload_n C.x C.b dX12_dependences_93 rfl (lv_at hl 0 rfl) ?_
          refine lv_iload_n C.x C.b dX12_dependences_94 rfl (lv_at hl 2 rfl) ?_
          refine lv_iload C.x C.b dX12_dependences_95 (lv_at hl 6 rfl) ?_
          obtain ⟨hp35, h⟩ := h
          refine jr_V (d' := 3) C G jc11 jm_X12_offsetOf wd1449 (sp_X12_offsetOf hp35 ⟨rfl, rfl⟩ : ok_X12_offsetOf v2 v6 M32 (fun r _ M' => (M32 50 0 (585 * v2 + (29 + v6)).toNatClampNeg) = r ∧ M32 = M')) rfl (show 0 < 1 by decide) (by decide) rfl rfl (by omega) (by decide) (by decide) ⟨rfl, rfl⟩ hl.1 (Nat.le_of_ble_eq_true rfl) dX12_dependences_97 (fun r33 r33n M34 H locs hq G => ?_)
          obtain ⟨eq1, eq2⟩ := hq
          subst eq1
          subst eq2
          refine lv_aload_n C.x C.b dX12_dependences_100 rfl (lv_at hl 0 rfl) ?_
          refine lv_iload_n C.x C.b dX12_dependences_101 rfl (lv_at hl 1 rfl) ?_
          refine lv_iload C.x C.b dX12_dependences_102 (lv_at hl 5 rfl) ?_
          obtain ⟨hp38, h⟩ := h
          refine jr_V (d' := 3) C G jc11 jm_X12_offsetOf wd1449 (sp_X12_offsetOf hp38 ⟨rfl, rfl⟩ : ok_X12_offsetOf v1 v5 M32 (fun r _ M' => (M32 50 0 (585 * v1 + (29 + v5)).toNatClampNeg) = r ∧ M32 = M')) rfl (show 0 < 1 by decide) (by decide) rfl rfl (by omega) (by decide) (by decide) ⟨rfl, rfl⟩ hl.1 (Nat.le_of_ble_eq_true rfl) dX12_dependences_104 (fun r36 r36n M37 H locs hq G => ?_)
          obtain ⟨eq1, eq2⟩ := hq
          subst eq1
          subst eq2
          refine lv_isub C.x C.b dX12_dependences_107 ?_
          refine va_mmax C.x C.b (C.ml.trans hl.1.symm) C.ow (C.w _ wd1420) (C.w _ wd740) (C.w _ wd94) (C.w _ wd741) (by decide) (Nat.le_of_ble_eq_true rfl) (by decide) (by decide) dX12_dependences_108 ?_
          rw [show (if (M32 11 0 24) < ((M32 50 0 (585 * v2 + (29 + v6)).toNatClampNeg) - (M32 50 0 (585 * v1 + (29 + v5)).toNatClampNeg)) then (M32 50 0 (585 * v2 + (29 + v6)).toNatClampNeg) - (M32 50 0 (585 * v1 + (29 + v5)).toNatClampNeg) else M32 11 0 24 : Int32) = jmax (M32 11 0 24) ((M32 50 0 (585 * v2 + (29 + v6)).toNatClampNeg) - (M32 50 0 (585 * v1 + (29 + v5)).toNatClampNeg)) from rfl]
          refine jr_put C G jc11 24 (v := jmax (M32 11 0 24) ((M32 50 0 (585 * v2 + (29 + v6)).toNatClampNeg) - (M32 50 0 (585 * v1 + (29 + v5)).toNatClampNeg))) (show 0 < 1 by decide) (by decide) (by decide) rfl (by decide) wd1215 rfl rfl rfl rfl dX12_dependences_111 (fun H locs G => ?_)
          obtain ⟨M39, eM39⟩ : ∃ z : jM, z = jup M32 11 0 24 (jmax (M32 11 0 24) ((M32 50 0 (585 * v2 + (29 + v6)).toNatClampNeg) - (M32 50 0 (585 * v1 + (29 + v5)).toNatClampNeg))) := ⟨_, rfl⟩
          rw [← eM39] at G
          have h := h M39 eM39
          have nM39 : jnb M39 = jnb M32 := by rw [eM39]; exact jnb_up (by decide)
          refine lv_iinc (v := v4 + 1) (lv' := [(4, .int (v4 + 1)), (0, .ref (g 11 0)), (1, .int v1), (2, .int v2), (3, .int v3), (5, .int v5), (6, .int v6)]) C.x C.b dX12_dependences_114 hl (k := 4) rfl rfl (by decide) rfl (fun ls hl => ?_)
          refine lv_iinc (v := v6 + 1) (lv' := [(6, .int (v6 + 1)), (4, .int (v4 + 1)), (0, .ref (g 11 0)), (1, .int v1), (2, .int v2), (3, .int v3), (5, .int v5)]) C.x C.b dX12_dependences_117 hl (k := 6) rfl rfl (by decide) rfl (fun ls hl => ?_)
          refine lv_goto (tgt := 26) C.x C.b dX12_dependences_120 (by decide) ?_
          exact h p l e s m args below meth c D cA base g C hr htb _ _ G ls (lv_sub hl [2, 3, 4, 5, 1, 6, 0] rfl)

theorem en_X12_gapOf {v1 : Int32} {v2 : Int32} {v3 : Int32} {v4 : Int32} {M : jM} {Q : Int32 → Nat → jM → Prop} (h : at_X12_gapOf_0 v1 v2 v3 v4 M Q) : ok_X12_gapOf v1 v2 v3 v4 M Q := jr_enter (by decide) (fun g => rfl) (fun g => Nat.le_of_ble_eq_true rfl) h
set_option maxHeartbeats 4000000 in
set_option maxRecDepth 100000 in
theorem bl_X12_gapOf_0 (v1 : Int32) (v2 : Int32) (v3 : Int32) (v4 : Int32) (M : jM) (Q : Int32 → Nat → jM → Prop) 
  (h : ok_X12_isDependence v1 v2 v3 v4 M (fun r1 _ M2 => jnb M2 = jnb M ∧ (r1 = 0 → Q 0 0 M2) ∧ (¬ (r1 = 0) → (vp_in (585 * v1 + (29 + v2)) 3510) ∧ (vp_in (585 * v3 + (29 + v4)) 3510) ∧ vp_in v3 6 ∧ vp_in v1 6 ∧ Q ((((M2 50 0 (585 * v1 + (29 + v2)).toNatClampNeg) - (M2 50 0 (585 * v3 + (29 + v4)).toNatClampNeg)) + (M2 59 0 v3.toNatClampNeg)) - (M2 59 0 v1.toNatClampNeg)) 0 M2))) :
  at_X12_gapOf_0 v1 v2 v3 v4 M Q := by
  intro p l e s m args below meth c D cA base g C hr htb H locs G ls hl
  refine lv_aload_n C.x C.b dX12_gapOf_0 rfl (lv_at hl 0 rfl) ?_
  refine lv_iload_n C.x C.b dX12_gapOf_1 rfl (lv_at hl 1 rfl) ?_
  refine lv_iload_n C.x C.b dX12_gapOf_2 rfl (lv_at hl 2 rfl) ?_
  refine lv_iload_n C.x C.b dX12_gapOf_3 rfl (lv_at hl 3 rfl) ?_
  refine lv_iload C.x C.b dX12_gapOf_4 (lv_at hl 4 rfl) ?_
  refine jr_V (d' := 3) C G jc11 jm_X12_isDependence wd1473 h rfl (show 0 < 1 by decide) (by decide) rfl rfl (by omega) (by decide) (by decide) ⟨rfl, rfl⟩ hl.1 (Nat.le_of_ble_eq_true rfl) dX12_gapOf_6 (fun r1 r1n M2 H locs h G => ?_)
  obtain ⟨nM2, h⟩ := h
  refine lv_istore (lv' := [(5, .int r1), (0, .ref (g 11 0)), (1, .int v1), (2, .int v2), (3, .int v3), (4, .int v4)]) C.x C.b dX12_gapOf_9 hl (by decide) rfl (fun ls hl => ?_)
  refine lv_iload C.x C.b dX12_gapOf_11 (lv_at hl 0 rfl) ?_
  refine lv_if_eq (tgt := 47) C.x C.b dX12_gapOf_13 (by decide) (fun hc => ?_) (fun hc => ?_)
  · have h := h.1 hc
    refine lv_iconst (v := 0) C.x C.b dX12_gapOf_47 (by decide) ?_
    exact jr_retI C hr G h (by decide) (by decide) dX12_gapOf_48
  · have h := h.2 hc
    refine lv_aload_n C.x C.b dX12_gapOf_16 rfl (lv_at hl 1 rfl) ?_
    refine lv_iload_n C.x C.b dX12_gapOf_17 rfl (lv_at hl 2 rfl) ?_
    refine lv_iload_n C.x C.b dX12_gapOf_18 rfl (lv_at hl 3 rfl) ?_
    obtain ⟨hp5, h⟩ := h
    refine jr_V (d' := 3) C G jc11 jm_X12_offsetOf wd1449 (sp_X12_offsetOf hp5 ⟨rfl, rfl⟩ : ok_X12_offsetOf v1 v2 M2 (fun r _ M' => (M2 50 0 (585 * v1 + (29 + v2)).toNatClampNeg) = r ∧ M2 = M')) rfl (show 0 < 1 by decide) (by decide) rfl rfl (by omega) (by decide) (by decide) ⟨rfl, rfl⟩ hl.1 (Nat.le_of_ble_eq_true rfl) dX12_gapOf_19 (fun r3 r3n M4 H locs hq G => ?_)
    obtain ⟨eq1, eq2⟩ := hq
    subst eq1
    subst eq2
    refine lv_aload_n C.x C.b dX12_gapOf_22 rfl (lv_at hl 1 rfl) ?_
    refine lv_iload_n C.x C.b dX12_gapOf_23 rfl (lv_at hl 4 rfl) ?_
    refine lv_iload C.x C.b dX12_gapOf_24 (lv_at hl 5 rfl) ?_
    obtain ⟨hp8, h⟩ := h
    refine jr_V (d' := 3) C G jc11 jm_X12_offsetOf wd1449 (sp_X12_offsetOf hp8 ⟨rfl, rfl⟩ : ok_X12_offsetOf v3 v4 M2 (fun r _ M' => (M2 50 0 (585 * v3 + (29 + v4)).toNatClampNeg) = r ∧ M2 = M')) rfl (show 0 < 1 by decide) (by decide) rfl rfl (by omega) (by decide) (by decide) ⟨rfl, rfl⟩ hl.1 (Nat.le_of_ble_eq_true rfl) dX12_gapOf_26 (fun r6 r6n M7 H locs hq G => ?_)
    obtain ⟨eq1, eq2⟩ := hq
    subst eq1
    subst eq2
    refine lv_isub C.x C.b dX12_gapOf_29 ?_
    refine lv_aload_n C.x C.b dX12_gapOf_30 rfl (lv_at hl 1 rfl) ?_
    refine jr_get C G jc11 25 (v := .ref (g 59 0)) (show 0 < 1 by decide) (by decide) (by decide) rfl wd1216 dX12_gapOf_31 ?_
    refine lv_iload_n C.x C.b dX12_gapOf_34 rfl (lv_at hl 4 rfl) ?_
    obtain ⟨hs, h⟩ := h
    refine jr_ald C G (show 0 < 1 by decide) (by decide) (by decide) (by decide) rfl rfl hs dX12_gapOf_35 ?_
    refine lv_iadd C.x C.b dX12_gapOf_36 ?_
    refine lv_aload_n C.x C.b dX12_gapOf_37 rfl (lv_at hl 1 rfl) ?_
    refine jr_get C G jc11 25 (v := .ref (g 59 0)) (show 0 < 1 by decide) (by decide) (by decide) rfl wd1216 dX12_gapOf_38 ?_
    refine lv_iload_n C.x C.b dX12_gapOf_41 rfl (lv_at hl 2 rfl) ?_
    obtain ⟨hs, h⟩ := h
    refine jr_ald C G (show 0 < 1 by decide) (by decide) (by decide) (by decide) rfl rfl hs dX12_gapOf_42 ?_
    refine lv_isub C.x C.b dX12_gapOf_43 ?_
    refine lv_goto (tgt := 48) C.x C.b dX12_gapOf_44 (by decide) ?_
    exact jr_retI C hr G h (by decide) (by decide) dX12_gapOf_48

theorem en_X12_sum  {M : jM} {Q : Int32 → Nat → jM → Prop} (h : at_X12_sum_0  M Q) : ok_X12_sum  M Q := jr_enter (by decide) (fun g => rfl) (fun g => Nat.le_of_ble_eq_true rfl) h
set_option maxHeartbeats 4000000 in
set_option maxRecDepth 100000 in
theorem bl_X12_sum_0  (M : jM) (Q : Int32 → Nat → jM → Prop) 
  (h : (∀ M1 : jM, M1 = jup M 11 0 17 0 → (∀ M2 : jM, M2 = jup M1 11 0 18 0 → (∀ M3 : jM, M3 = jup M2 11 0 19 0 → at_X12_sum_19 1 1 M3 Q)))) :
  at_X12_sum_0  M Q := by
  intro p l e s m args below meth c D cA base g C hr htb H locs G ls hl
  refine lv_aload_n C.x C.b dX12_sum_0 rfl (lv_at hl 0 rfl) ?_
  refine lv_iconst (v := 0) C.x C.b dX12_sum_1 (by decide) ?_
  refine jr_put C G jc11 17 (v := 0) (show 0 < 1 by decide) (by decide) (by decide) rfl (by decide) wd1208 rfl rfl rfl rfl dX12_sum_2 (fun H locs G => ?_)
  obtain ⟨M1, eM1⟩ : ∃ z : jM, z = jup M 11 0 17 0 := ⟨_, rfl⟩
  rw [← eM1] at G
  have h := h M1 eM1
  have nM1 : jnb M1 = jnb M := by rw [eM1]; exact jnb_up (by decide)
  refine lv_aload_n C.x C.b dX12_sum_5 rfl (lv_at hl 0 rfl) ?_
  refine lv_iconst (v := 0) C.x C.b dX12_sum_6 (by decide) ?_
  refine jr_put C G jc11 18 (v := 0) (show 0 < 1 by decide) (by decide) (by decide) rfl (by decide) wd1209 rfl rfl rfl rfl dX12_sum_7 (fun H locs G => ?_)
  obtain ⟨M2, eM2⟩ : ∃ z : jM, z = jup M1 11 0 18 0 := ⟨_, rfl⟩
  rw [← eM2] at G
  have h := h M2 eM2
  have nM2 : jnb M2 = jnb M1 := by rw [eM2]; exact jnb_up (by decide)
  refine lv_aload_n C.x C.b dX12_sum_10 rfl (lv_at hl 0 rfl) ?_
  refine lv_iconst (v := 0) C.x C.b dX12_sum_11 (by decide) ?_
  refine jr_put C G jc11 19 (v := 0) (show 0 < 1 by decide) (by decide) (by decide) rfl (by decide) wd1210 rfl rfl rfl rfl dX12_sum_12 (fun H locs G => ?_)
  obtain ⟨M3, eM3⟩ : ∃ z : jM, z = jup M2 11 0 19 0 := ⟨_, rfl⟩
  rw [← eM3] at G
  have h := h M3 eM3
  have nM3 : jnb M3 = jnb M2 := by rw [eM3]; exact jnb_up (by decide)
  refine lv_iconst (v := 1) C.x C.b dX12_sum_15 (by decide) ?_
  refine lv_istore_n (lv' := [(1, .int 1), (0, .ref (g 11 0))]) C.x C.b dX12_sum_16 rfl hl (by decide) rfl (fun ls hl => ?_)
  refine lv_iconst (v := 1) C.x C.b dX12_sum_17 (by decide) ?_
  refine lv_istore_n (lv' := [(2, .int 1), (1, .int 1), (0, .ref (g 11 0))]) C.x C.b dX12_sum_18 rfl hl (by decide) rfl (fun ls hl => ?_)
  exact h p l e s m args below meth c D cA base g C hr htb _ _ G ls (lv_sub hl [2, 1, 0] rfl)
set_option maxHeartbeats 4000000 in
set_option maxRecDepth 100000 in
theorem bl_X12_sum_19 (v1 : Int32) (v2 : Int32) (M : jM) (Q : Int32 → Nat → jM → Prop) 
  (h : (v2 = 0 → ok_X12_settle 0 M (fun _ _ M2 => jnb M2 = jnb M ∧ ((M2 11 0 18) ≤ 0 → Q 0 0 M2) ∧ (¬ ((M2 11 0 18) ≤ 0) → ok_X12_bad (M2 11 0 12) M2 (fun _ _ M4 => jnb M4 = jnb M2 ∧ Q 0 0 M4)))) ∧ (¬ (v2 = 0) → (M 11 0 13 = 0 → (M 11 0 12 < M 11 0 11 → vp_in (M 11 0 12) 120) ∧ (v1 = 0 → (v1 = 0 → ((jhr M) = 43 → at_X12_sum_127 v2 (jhr M) M Q) ∧ (¬ ((jhr M) = 43) → ((jhr M) = 45 → at_X12_sum_127 v2 (jhr M) M Q) ∧ (¬ ((jhr M) = 45) → ((jhr M) = 42 → at_X12_sum_127 v2 (jhr M) M Q) ∧ (¬ ((jhr M) = 42) → ((jhr M) = 41 → ((M 11 0 18) ≤ 0 → at_X12_sum_19 v1 0 M Q) ∧ (¬ ((M 11 0 18) ≤ 0) → ok_X12_settle 0 M (fun _ _ M13 => jnb M13 = jnb M ∧ (∀ M14 : jM, M14 = jup M13 11 0 17 ((M13 11 0 17) - 1) → (∀ M15 : jM, M15 = jup M14 11 0 18 ((M14 11 0 18) - 1) → (∀ M16 : jM, M16 = jup M15 11 0 12 ((M15 11 0 12) + 1) → at_X12_sum_19 v1 v2 M16 Q)))))) ∧ (¬ ((jhr M) = 41) → at_X12_sum_19 v1 0 M Q))))) ∧ (¬ (v1 = 0) → ok_X12_factor  M (fun _ _ M18 => jnb M18 = jnb M ∧ at_X12_sum_19 0 v2 M18 Q))) ∧ (¬ (v1 = 0) → ((jhr M) = 40 → (3 ≤ (M 11 0 18) → (v1 = 0 → ((jhr M) = 43 → at_X12_sum_127 v2 (jhr M) M Q) ∧ (¬ ((jhr M) = 43) → ((jhr M) = 45 → at_X12_sum_127 v2 (jhr M) M Q) ∧ (¬ ((jhr M) = 45) → ((jhr M) = 42 → at_X12_sum_127 v2 (jhr M) M Q) ∧ (¬ ((jhr M) = 42) → ((jhr M) = 41 → ((M 11 0 18) ≤ 0 → at_X12_sum_19 v1 0 M Q) ∧ (¬ ((M 11 0 18) ≤ 0) → ok_X12_settle 0 M (fun _ _ M27 => jnb M27 = jnb M ∧ (∀ M28 : jM, M28 = jup M27 11 0 17 ((M27 11 0 17) - 1) → (∀ M29 : jM, M29 = jup M28 11 0 18 ((M28 11 0 18) - 1) → (∀ M30 : jM, M30 = jup M29 11 0 12 ((M29 11 0 12) + 1) → at_X12_sum_19 v1 v2 M30 Q)))))) ∧ (¬ ((jhr M) = 41) → at_X12_sum_19 v1 0 M Q))))) ∧ (¬ (v1 = 0) → ok_X12_factor  M (fun _ _ M32 => jnb M32 = jnb M ∧ at_X12_sum_19 0 v2 M32 Q))) ∧ (¬ (3 ≤ (M 11 0 18)) → vp_in (M 11 0 17) 120 ∧ (∀ M33 : jM, M33 = jup M 56 0 (M 11 0 17).toNatClampNeg 0 → (∀ M34 : jM, M34 = jup M33 11 0 17 ((M33 11 0 17) + 1) → (∀ M35 : jM, M35 = jup M34 11 0 18 ((M34 11 0 18) + 1) → (∀ M36 : jM, M36 = jup M35 11 0 12 ((M35 11 0 12) + 1) → at_X12_sum_19 v1 v2 M36 Q)))))) ∧ (¬ ((jhr M) = 40) → (v1 = 0 → ((jhr M) = 43 → at_X12_sum_127 v2 (jhr M) M Q) ∧ (¬ ((jhr M) = 43) → ((jhr M) = 45 → at_X12_sum_127 v2 (jhr M) M Q) ∧ (¬ ((jhr M) = 45) → ((jhr M) = 42 → at_X12_sum_127 v2 (jhr M) M Q) ∧ (¬ ((jhr M) = 42) → ((jhr M) = 41 → ((M 11 0 18) ≤ 0 → at_X12_sum_19 v1 0 M Q) ∧ (¬ ((M 11 0 18) ≤ 0) → ok_X12_settle 0 M (fun _ _ M20 => jnb M20 = jnb M ∧ (∀ M21 : jM, M21 = jup M20 11 0 17 ((M20 11 0 17) - 1) → (∀ M22 : jM, M22 = jup M21 11 0 18 ((M21 11 0 18) - 1) → (∀ M23 : jM, M23 = jup M22 11 0 12 ((M22 11 0 12) + 1) → at_X12_sum_19 v1 v2 M23 Q)))))) ∧ (¬ ((jhr M) = 41) → at_X12_sum_19 v1 0 M Q))))) ∧ (¬ (v1 = 0) → ok_X12_factor  M (fun _ _ M25 => jnb M25 = jnb M ∧ at_X12_sum_19 0 v2 M25 Q))))) ∧ (¬ (M 11 0 13 = 0) → ok_X12_settle 0 M (fun _ _ M6 => jnb M6 = jnb M ∧ ((M6 11 0 18) ≤ 0 → Q 0 0 M6) ∧ (¬ ((M6 11 0 18) ≤ 0) → ok_X12_bad (M6 11 0 12) M6 (fun _ _ M8 => jnb M8 = jnb M6 ∧ Q 0 0 M8)))))) :
  at_X12_sum_19 v1 v2 M Q := by
  intro p l e s m args below meth c D cA base g C hr htb H locs G ls hl
  refine lv_iload_n C.x C.b dX12_sum_19 rfl (lv_at hl 2 rfl) ?_
  refine lv_if_eq (tgt := 256) C.x C.b dX12_sum_20 (by decide) (fun hc => ?_) (fun hc => ?_)
  · have h := h.1 hc
    refine lv_aload_n C.x C.b dX12_sum_256 rfl (lv_at hl 0 rfl) ?_
    refine lv_iconst (v := 0) C.x C.b dX12_sum_257 (by decide) ?_
    refine jr_V (d' := 4) C G jc11 jm_X12_settle wd1360 h rfl (show 0 < 1 by decide) (by decide) rfl rfl (by omega) (by decide) (by decide) ⟨rfl, rfl⟩ hl.1 (Nat.le_of_ble_eq_true rfl) dX12_sum_258 (fun r1 r1n M2 H locs h G => ?_)
    obtain ⟨nM2, h⟩ := h
    refine lv_aload_n C.x C.b dX12_sum_261 rfl (lv_at hl 0 rfl) ?_
    refine jr_get C G jc11 18 (v := .int (M2 11 0 18)) (show 0 < 1 by decide) (by decide) (by decide) rfl wd1209 dX12_sum_262 ?_
    refine lv_if_le (tgt := 276) C.x C.b dX12_sum_265 (by decide) (fun hc => ?_) (fun hc => ?_)
    · have h := h.1 hc
      exact jr_retV C hr G h (by decide) (by decide) dX12_sum_276
    · have h := h.2 hc
      refine lv_aload_n C.x C.b dX12_sum_268 rfl (lv_at hl 0 rfl) ?_
      refine lv_aload_n C.x C.b dX12_sum_269 rfl (lv_at hl 0 rfl) ?_
      refine jr_get C G jc11 12 (v := .int (M2 11 0 12)) (show 0 < 1 by decide) (by decide) (by decide) rfl wd1203 dX12_sum_270 ?_
      refine jr_V (d' := 4) C G jc11 jm_X12_bad wd1320 h rfl (show 0 < 1 by decide) (by decide) rfl rfl (by omega) (by decide) (by decide) ⟨rfl, rfl⟩ hl.1 (Nat.le_of_ble_eq_true rfl) dX12_sum_273 (fun r3 r3n M4 H locs h G => ?_)
      obtain ⟨nM4, h⟩ := h
      exact jr_retV C hr G h (by decide) (by decide) dX12_sum_276
  · have h := h.2 hc
    refine lv_aload_n C.x C.b dX12_sum_23 rfl (lv_at hl 0 rfl) ?_
    refine jr_get C G jc11 13 (v := .int (M 11 0 13)) (show 0 < 1 by decide) (by decide) (by decide) rfl wd1204 dX12_sum_24 ?_
    refine lv_if_ne (tgt := 256) C.x C.b dX12_sum_27 (by decide) (fun hc => ?_) (fun hc => ?_)
    · have h := h.2 hc
      refine lv_aload_n C.x C.b dX12_sum_256 rfl (lv_at hl 0 rfl) ?_
      refine lv_iconst (v := 0) C.x C.b dX12_sum_257 (by decide) ?_
      refine jr_V (d' := 4) C G jc11 jm_X12_settle wd1360 h rfl (show 0 < 1 by decide) (by decide) rfl rfl (by omega) (by decide) (by decide) ⟨rfl, rfl⟩ hl.1 (Nat.le_of_ble_eq_true rfl) dX12_sum_258 (fun r5 r5n M6 H locs h G => ?_)
      obtain ⟨nM6, h⟩ := h
      refine lv_aload_n C.x C.b dX12_sum_261 rfl (lv_at hl 0 rfl) ?_
      refine jr_get C G jc11 18 (v := .int (M6 11 0 18)) (show 0 < 1 by decide) (by decide) (by decide) rfl wd1209 dX12_sum_262 ?_
      refine lv_if_le (tgt := 276) C.x C.b dX12_sum_265 (by decide) (fun hc => ?_) (fun hc => ?_)
      · have h := h.1 hc
        exact jr_retV C hr G h (by decide) (by decide) dX12_sum_276
      · have h := h.2 hc
        refine lv_aload_n C.x C.b dX12_sum_268 rfl (lv_at hl 0 rfl) ?_
        refine lv_aload_n C.x C.b dX12_sum_269 rfl (lv_at hl 0 rfl) ?_
        refine jr_get C G jc11 12 (v := .int (M6 11 0 12)) (show 0 < 1 by decide) (by decide) (by decide) rfl wd1203 dX12_sum_270 ?_
        refine jr_V (d' := 4) C G jc11 jm_X12_bad wd1320 h rfl (show 0 < 1 by decide) (by decide) rfl rfl (by omega) (by decide) (by decide) ⟨rfl, rfl⟩ hl.1 (Nat.le_of_ble_eq_true rfl) dX12_sum_273 (fun r7 r7n M8 H locs h G => ?_)
        obtain ⟨nM8, h⟩ := h
        exact jr_retV C hr G h (by decide) (by decide) dX12_sum_276
    · have h := h.1 hc
      refine lv_aload_n C.x C.b dX12_sum_30 rfl (lv_at hl 0 rfl) ?_
      obtain ⟨hp11, h⟩ := h
      refine jr_V (d' := 4) C G jc11 jm_X12_here wd1316 (sp_X12_here hp11 ⟨rfl, rfl⟩ : ok_X12_here  M (fun r _ M' => (jhr M) = r ∧ M = M')) rfl (show 0 < 1 by decide) (by decide) rfl rfl (by omega) (by decide) (by decide) ⟨rfl, rfl⟩ hl.1 (Nat.le_of_ble_eq_true rfl) dX12_sum_31 (fun r9 r9n M10 H locs hq G => ?_)
      obtain ⟨eq1, eq2⟩ := hq
      subst eq1
      subst eq2
      refine lv_istore_n (lv' := [(3, .int (jhr M)), (0, .ref (g 11 0)), (1, .int v1), (2, .int v2)]) C.x C.b dX12_sum_34 rfl hl (by decide) rfl (fun ls hl => ?_)
      refine lv_iload_n C.x C.b dX12_sum_35 rfl (lv_at hl 2 rfl) ?_
      refine lv_if_eq (tgt := 96) C.x C.b dX12_sum_36 (by decide) (fun hc => ?_) (fun hc => ?_)
      · have h := h.1 hc
        refine lv_iload_n C.x C.b dX12_sum_96 rfl (lv_at hl 2 rfl) ?_
        refine lv_if_eq (tgt := 109) C.x C.b dX12_sum_97 (by decide) (fun hc => ?_) (fun hc => ?_)
        · have h := h.1 hc
          refine lv_iload_n C.x C.b dX12_sum_109 rfl (lv_at hl 0 rfl) ?_
          refine lv_bipush (v := 43) C.x C.b dX12_sum_110 (by decide) ?_
          refine lv_icmp_eq (tgt := 127) C.x C.b dX12_sum_112 (by decide) (fun hc => ?_) (fun hc => ?_)
          · have h := h.1 hc
            exact h p l e s m args below meth c D cA base g C hr htb _ _ G ls (lv_sub hl [1, 3, 0] rfl)
          · have h := h.2 hc
            refine lv_iload_n C.x C.b dX12_sum_115 rfl (lv_at hl 0 rfl) ?_
            refine lv_bipush (v := 45) C.x C.b dX12_sum_116 (by decide) ?_
            refine lv_icmp_eq (tgt := 127) C.x C.b dX12_sum_118 (by decide) (fun hc => ?_) (fun hc => ?_)
            · have h := h.1 hc
              exact h p l e s m args below meth c D cA base g C hr htb _ _ G ls (lv_sub hl [1, 3, 0] rfl)
            · have h := h.2 hc
              refine lv_iload_n C.x C.b dX12_sum_121 rfl (lv_at hl 0 rfl) ?_
              refine lv_bipush (v := 42) C.x C.b dX12_sum_122 (by decide) ?_
              refine lv_icmp_ne (tgt := 200) C.x C.b dX12_sum_124 (by decide) (fun hc => ?_) (fun hc => ?_)
              · have h := h.2 hc
                refine lv_iload_n C.x C.b dX12_sum_200 rfl (lv_at hl 0 rfl) ?_
                refine lv_bipush (v := 41) C.x C.b dX12_sum_201 (by decide) ?_
                refine lv_icmp_ne (tgt := 251) C.x C.b dX12_sum_203 (by decide) (fun hc => ?_) (fun hc => ?_)
                · have h := h.2 hc
                  refine lv_iconst (v := 0) C.x C.b dX12_sum_251 (by decide) ?_
                  refine lv_istore_n (lv' := [(2, .int 0), (3, .int (jhr M)), (0, .ref (g 11 0)), (1, .int v1)]) C.x C.b dX12_sum_252 rfl hl (by decide) rfl (fun ls hl => ?_)
                  refine lv_goto (tgt := 19) C.x C.b dX12_sum_253 (by decide) ?_
                  exact h p l e s m args below meth c D cA base g C hr htb _ _ G ls (lv_sub hl [2, 3, 0] rfl)
                · have h := h.1 hc
                  refine lv_aload_n C.x C.b dX12_sum_206 rfl (lv_at hl 1 rfl) ?_
                  refine jr_get C G jc11 18 (v := .int (M 11 0 18)) (show 0 < 1 by decide) (by decide) (by decide) rfl wd1209 dX12_sum_207 ?_
                  refine lv_if_le (tgt := 251) C.x C.b dX12_sum_210 (by decide) (fun hc => ?_) (fun hc => ?_)
                  · have h := h.1 hc
                    refine lv_iconst (v := 0) C.x C.b dX12_sum_251 (by decide) ?_
                    refine lv_istore_n (lv' := [(2, .int 0), (3, .int (jhr M)), (0, .ref (g 11 0)), (1, .int v1)]) C.x C.b dX12_sum_252 rfl hl (by decide) rfl (fun ls hl => ?_)
                    refine lv_goto (tgt := 19) C.x C.b dX12_sum_253 (by decide) ?_
                    exact h p l e s m args below meth c D cA base g C hr htb _ _ G ls (lv_sub hl [2, 3, 0] rfl)
                  · have h := h.2 hc
                    refine lv_aload_n C.x C.b dX12_sum_213 rfl (lv_at hl 1 rfl) ?_
                    refine lv_iconst (v := 0) C.x C.b dX12_sum_214 (by decide) ?_
                    refine jr_V (d' := 4) C G jc11 jm_X12_settle wd1360 h rfl (show 0 < 1 by decide) (by decide) rfl rfl (by omega) (by decide) (by decide) ⟨rfl, rfl⟩ hl.1 (Nat.le_of_ble_eq_true rfl) dX12_sum_215 (fun r12 r12n M13 H locs h G => ?_)
                    obtain ⟨nM13, h⟩ := h
                    refine lv_aload_n C.x C.b dX12_sum_218 rfl (lv_at hl 1 rfl) ?_
                    refine lv_dup C.x C.b dX12_sum_219 rfl ?_
                    refine jr_get C G jc11 17 (v := .int (M13 11 0 17)) (show 0 < 1 by decide) (by decide) (by decide) rfl wd1208 dX12_sum_220 ?_
                    refine lv_iconst (v := 1) C.x C.b dX12_sum_223 (by decide) ?_
                    refine lv_isub C.x C.b dX12_sum_224 ?_
                    refine jr_put C G jc11 17 (v := (M13 11 0 17) - 1) (show 0 < 1 by decide) (by decide) (by decide) rfl (by decide) wd1208 rfl rfl rfl rfl dX12_sum_225 (fun H locs G => ?_)
                    obtain ⟨M14, eM14⟩ : ∃ z : jM, z = jup M13 11 0 17 ((M13 11 0 17) - 1) := ⟨_, rfl⟩
                    rw [← eM14] at G
                    have h := h M14 eM14
                    have nM14 : jnb M14 = jnb M13 := by rw [eM14]; exact jnb_up (by decide)
                    refine lv_aload_n C.x C.b dX12_sum_228 rfl (lv_at hl 1 rfl) ?_
                    refine lv_dup C.x C.b dX12_sum_229 rfl ?_
                    refine jr_get C G jc11 18 (v := .int (M14 11 0 18)) (show 0 < 1 by decide) (by decide) (by decide) rfl wd1209 dX12_sum_230 ?_
                    refine lv_iconst (v := 1) C.x C.b dX12_sum_233 (by decide) ?_
                    refine lv_isub C.x C.b dX12_sum_234 ?_
                    refine jr_put C G jc11 18 (v := (M14 11 0 18) - 1) (show 0 < 1 by decide) (by decide) (by decide) rfl (by decide) wd1209 rfl rfl rfl rfl dX12_sum_235 (fun H locs G => ?_)
                    obtain ⟨M15, eM15⟩ : ∃ z : jM, z = jup M14 11 0 18 ((M14 11 0 18) - 1) := ⟨_, rfl⟩
                    rw [← eM15] at G
                    have h := h M15 eM15
                    have nM15 : jnb M15 = jnb M14 := by rw [eM15]; exact jnb_up (by decide)
                    refine lv_aload_n C.x C.b dX12_sum_238 rfl (lv_at hl 1 rfl) ?_
                    refine lv_dup C.x C.b dX12_sum_239 rfl ?_
                    refine jr_get C G jc11 12 (v := .int (M15 11 0 12)) (show 0 < 1 by decide) (by decide) (by decide) rfl wd1203 dX12_sum_240 ?_
                    refine lv_iconst (v := 1) C.x C.b dX12_sum_243 (by decide) ?_
                    refine lv_iadd C.x C.b dX12_sum_244 ?_
                    refine jr_put C G jc11 12 (v := (M15 11 0 12) + 1) (show 0 < 1 by decide) (by decide) (by decide) rfl (by decide) wd1203 rfl rfl rfl rfl dX12_sum_245 (fun H locs G => ?_)
                    obtain ⟨M16, eM16⟩ : ∃ z : jM, z = jup M15 11 0 12 ((M15 11 0 12) + 1) := ⟨_, rfl⟩
                    rw [← eM16] at G
                    have h := h M16 eM16
                    have nM16 : jnb M16 = jnb M15 := by rw [eM16]; exact jnb_up (by decide)
                    refine lv_goto (tgt := 253) C.x C.b dX12_sum_248 (by decide) ?_
                    refine lv_goto (tgt := 19) C.x C.b dX12_sum_253 (by decide) ?_
                    exact h p l e s m args below meth c D cA base g C hr htb _ _ G ls (lv_sub hl [1, 2, 3] rfl)
              · have h := h.1 hc
                exact h p l e s m args below meth c D cA base g C hr htb _ _ G ls (lv_sub hl [1, 3, 0] rfl)
        · have h := h.2 hc
          refine lv_aload_n C.x C.b dX12_sum_100 rfl (lv_at hl 1 rfl) ?_
          refine jr_V (d' := 4) C G jc11 jm_X12_factor wd1348 h rfl (show 0 < 1 by decide) (by decide) rfl rfl (by omega) (by decide) (by decide) ⟨rfl, rfl⟩ hl.1 (Nat.le_of_ble_eq_true rfl) dX12_sum_101 (fun r17 r17n M18 H locs h G => ?_)
          obtain ⟨nM18, h⟩ := h
          refine lv_iconst (v := 0) C.x C.b dX12_sum_104 (by decide) ?_
          refine lv_istore_n (lv' := [(1, .int 0), (3, .int (jhr M)), (0, .ref (g 11 0)), (2, .int v2)]) C.x C.b dX12_sum_105 rfl hl (by decide) rfl (fun ls hl => ?_)
          refine lv_goto (tgt := 253) C.x C.b dX12_sum_106 (by decide) ?_
          refine lv_goto (tgt := 19) C.x C.b dX12_sum_253 (by decide) ?_
          exact h p l e s m args below meth c D cA base g C hr htb _ _ G ls (lv_sub hl [2, 0, 3] rfl)
      · have h := h.2 hc
        refine lv_iload_n C.x C.b dX12_sum_39 rfl (lv_at hl 0 rfl) ?_
        refine lv_bipush (v := 40) C.x C.b dX12_sum_40 (by decide) ?_
        refine lv_icmp_ne (tgt := 96) C.x C.b dX12_sum_42 (by decide) (fun hc => ?_) (fun hc => ?_)
        · have h := h.2 hc
          refine lv_iload_n C.x C.b dX12_sum_96 rfl (lv_at hl 2 rfl) ?_
          refine lv_if_eq (tgt := 109) C.x C.b dX12_sum_97 (by decide) (fun hc => ?_) (fun hc => ?_)
          · have h := h.1 hc
            refine lv_iload_n C.x C.b dX12_sum_109 rfl (lv_at hl 0 rfl) ?_
            refine lv_bipush (v := 43) C.x C.b dX12_sum_110 (by decide) ?_
            refine lv_icmp_eq (tgt := 127) C.x C.b dX12_sum_112 (by decide) (fun hc => ?_) (fun hc => ?_)
            · have h := h.1 hc
              exact h p l e s m args below meth c D cA base g C hr htb _ _ G ls (lv_sub hl [1, 3, 0] rfl)
            · have h := h.2 hc
              refine lv_iload_n C.x C.b dX12_sum_115 rfl (lv_at hl 0 rfl) ?_
              refine lv_bipush (v := 45) C.x C.b dX12_sum_116 (by decide) ?_
              refine lv_icmp_eq (tgt := 127) C.x C.b dX12_sum_118 (by decide) (fun hc => ?_) (fun hc => ?_)
              · have h := h.1 hc
                exact h p l e s m args below meth c D cA base g C hr htb _ _ G ls (lv_sub hl [1, 3, 0] rfl)
              · have h := h.2 hc
                refine lv_iload_n C.x C.b dX12_sum_121 rfl (lv_at hl 0 rfl) ?_
                refine lv_bipush (v := 42) C.x C.b dX12_sum_122 (by decide) ?_
                refine lv_icmp_ne (tgt := 200) C.x C.b dX12_sum_124 (by decide) (fun hc => ?_) (fun hc => ?_)
                · have h := h.2 hc
                  refine lv_iload_n C.x C.b dX12_sum_200 rfl (lv_at hl 0 rfl) ?_
                  refine lv_bipush (v := 41) C.x C.b dX12_sum_201 (by decide) ?_
                  refine lv_icmp_ne (tgt := 251) C.x C.b dX12_sum_203 (by decide) (fun hc => ?_) (fun hc => ?_)
                  · have h := h.2 hc
                    refine lv_iconst (v := 0) C.x C.b dX12_sum_251 (by decide) ?_
                    refine lv_istore_n (lv' := [(2, .int 0), (3, .int (jhr M)), (0, .ref (g 11 0)), (1, .int v1)]) C.x C.b dX12_sum_252 rfl hl (by decide) rfl (fun ls hl => ?_)
                    refine lv_goto (tgt := 19) C.x C.b dX12_sum_253 (by decide) ?_
                    exact h p l e s m args below meth c D cA base g C hr htb _ _ G ls (lv_sub hl [2, 3, 0] rfl)
                  · have h := h.1 hc
                    refine lv_aload_n C.x C.b dX12_sum_206 rfl (lv_at hl 1 rfl) ?_
                    refine jr_get C G jc11 18 (v := .int (M 11 0 18)) (show 0 < 1 by decide) (by decide) (by decide) rfl wd1209 dX12_sum_207 ?_
                    refine lv_if_le (tgt := 251) C.x C.b dX12_sum_210 (by decide) (fun hc => ?_) (fun hc => ?_)
                    · have h := h.1 hc
                      refine lv_iconst (v := 0) C.x C.b dX12_sum_251 (by decide) ?_
                      refine lv_istore_n (lv' := [(2, .int 0), (3, .int (jhr M)), (0, .ref (g 11 0)), (1, .int v1)]) C.x C.b dX12_sum_252 rfl hl (by decide) rfl (fun ls hl => ?_)
                      refine lv_goto (tgt := 19) C.x C.b dX12_sum_253 (by decide) ?_
                      exact h p l e s m args below meth c D cA base g C hr htb _ _ G ls (lv_sub hl [2, 3, 0] rfl)
                    · have h := h.2 hc
                      refine lv_aload_n C.x C.b dX12_sum_213 rfl (lv_at hl 1 rfl) ?_
                      refine lv_iconst (v := 0) C.x C.b dX12_sum_214 (by decide) ?_
                      refine jr_V (d' := 4) C G jc11 jm_X12_settle wd1360 h rfl (show 0 < 1 by decide) (by decide) rfl rfl (by omega) (by decide) (by decide) ⟨rfl, rfl⟩ hl.1 (Nat.le_of_ble_eq_true rfl) dX12_sum_215 (fun r19 r19n M20 H locs h G => ?_)
                      obtain ⟨nM20, h⟩ := h
                      refine lv_aload_n C.x C.b dX12_sum_218 rfl (lv_at hl 1 rfl) ?_
                      refine lv_dup C.x C.b dX12_sum_219 rfl ?_
                      refine jr_get C G jc11 17 (v := .int (M20 11 0 17)) (show 0 < 1 by decide) (by decide) (by decide) rfl wd1208 dX12_sum_220 ?_
                      refine lv_iconst (v := 1) C.x C.b dX12_sum_223 (by decide) ?_
                      refine lv_isub C.x C.b dX12_sum_224 ?_
                      refine jr_put C G jc11 17 (v := (M20 11 0 17) - 1) (show 0 < 1 by decide) (by decide) (by decide) rfl (by decide) wd1208 rfl rfl rfl rfl dX12_sum_225 (fun H locs G => ?_)
                      obtain ⟨M21, eM21⟩ : ∃ z : jM, z = jup M20 11 0 17 ((M20 11 0 17) - 1) := ⟨_, rfl⟩
                      rw [← eM21] at G
                      have h := h M21 eM21
                      have nM21 : jnb M21 = jnb M20 := by rw [eM21]; exact jnb_up (by decide)
                      refine lv_aload_n C.x C.b dX12_sum_228 rfl (lv_at hl 1 rfl) ?_
                      refine lv_dup C.x C.b dX12_sum_229 rfl ?_
                      refine jr_get C G jc11 18 (v := .int (M21 11 0 18)) (show 0 < 1 by decide) (by decide) (by decide) rfl wd1209 dX12_sum_230 ?_
                      refine lv_iconst (v := 1) C.x C.b dX12_sum_233 (by decide) ?_
                      refine lv_isub C.x C.b dX12_sum_234 ?_
                      refine jr_put C G jc11 18 (v := (M21 11 0 18) - 1) (show 0 < 1 by decide) (by decide) (by decide) rfl (by decide) wd1209 rfl rfl rfl rfl dX12_sum_235 (fun H locs G => ?_)
                      obtain ⟨M22, eM22⟩ : ∃ z : jM, z = jup M21 11 0 18 ((M21 11 0 18) - 1) := ⟨_, rfl⟩
                      rw [← eM22] at G
                      have h := h M22 eM22
                      have nM22 : jnb M22 = jnb M21 := by rw [eM22]; exact jnb_up (by decide)
                      refine lv_aload_n C.x C.b dX12_sum_238 rfl (lv_at hl 1 rfl) ?_
                      refine lv_dup C.x C.b dX12_sum_239 rfl ?_
                      refine jr_get C G jc11 12 (v := .int (M22 11 0 12)) (show 0 < 1 by decide) (by decide) (by decide) rfl wd1203 dX12_sum_240 ?_
                      refine lv_iconst (v := 1) C.x C.b dX12_sum_243 (by decide) ?_
                      refine lv_iadd C.x C.b dX12_sum_244 ?_
                      refine jr_put C G jc11 12 (v := (M22 11 0 12) + 1) (show 0 < 1 by decide) (by decide) (by decide) rfl (by decide) wd1203 rfl rfl rfl rfl dX12_sum_245 (fun H locs G => ?_)
                      obtain ⟨M23, eM23⟩ : ∃ z : jM, z = jup M22 11 0 12 ((M22 11 0 12) + 1) := ⟨_, rfl⟩
                      rw [← eM23] at G
                      have h := h M23 eM23
                      have nM23 : jnb M23 = jnb M22 := by rw [eM23]; exact jnb_up (by decide)
                      refine lv_goto (tgt := 253) C.x C.b dX12_sum_248 (by decide) ?_
                      refine lv_goto (tgt := 19) C.x C.b dX12_sum_253 (by decide) ?_
                      exact h p l e s m args below meth c D cA base g C hr htb _ _ G ls (lv_sub hl [1, 2, 3] rfl)
                · have h := h.1 hc
                  exact h p l e s m args below meth c D cA base g C hr htb _ _ G ls (lv_sub hl [1, 3, 0] rfl)
          · have h := h.2 hc
            refine lv_aload_n C.x C.b dX12_sum_100 rfl (lv_at hl 1 rfl) ?_
            refine jr_V (d' := 4) C G jc11 jm_X12_factor wd1348 h rfl (show 0 < 1 by decide) (by decide) rfl rfl (by omega) (by decide) (by decide) ⟨rfl, rfl⟩ hl.1 (Nat.le_of_ble_eq_true rfl) dX12_sum_101 (fun r24 r24n M25 H locs h G => ?_)
            obtain ⟨nM25, h⟩ := h
            refine lv_iconst (v := 0) C.x C.b dX12_sum_104 (by decide) ?_
            refine lv_istore_n (lv' := [(1, .int 0), (3, .int (jhr M)), (0, .ref (g 11 0)), (2, .int v2)]) C.x C.b dX12_sum_105 rfl hl (by decide) rfl (fun ls hl => ?_)
            refine lv_goto (tgt := 253) C.x C.b dX12_sum_106 (by decide) ?_
            refine lv_goto (tgt := 19) C.x C.b dX12_sum_253 (by decide) ?_
            exact h p l e s m args below meth c D cA base g C hr htb _ _ G ls (lv_sub hl [2, 0, 3] rfl)
        · have h := h.1 hc
          refine lv_aload_n C.x C.b dX12_sum_45 rfl (lv_at hl 1 rfl) ?_
          refine jr_get C G jc11 18 (v := .int (M 11 0 18)) (show 0 < 1 by decide) (by decide) (by decide) rfl wd1209 dX12_sum_46 ?_
          refine lv_iconst (v := 3) C.x C.b dX12_sum_49 (by decide) ?_
          refine lv_icmp_ge (tgt := 96) C.x C.b dX12_sum_50 (by decide) (fun hc => ?_) (fun hc => ?_)
          · have h := h.1 hc
            refine lv_iload_n C.x C.b dX12_sum_96 rfl (lv_at hl 2 rfl) ?_
            refine lv_if_eq (tgt := 109) C.x C.b dX12_sum_97 (by decide) (fun hc => ?_) (fun hc => ?_)
            · have h := h.1 hc
              refine lv_iload_n C.x C.b dX12_sum_109 rfl (lv_at hl 0 rfl) ?_
              refine lv_bipush (v := 43) C.x C.b dX12_sum_110 (by decide) ?_
              refine lv_icmp_eq (tgt := 127) C.x C.b dX12_sum_112 (by decide) (fun hc => ?_) (fun hc => ?_)
              · have h := h.1 hc
                exact h p l e s m args below meth c D cA base g C hr htb _ _ G ls (lv_sub hl [1, 3, 0] rfl)
              · have h := h.2 hc
                refine lv_iload_n C.x C.b dX12_sum_115 rfl (lv_at hl 0 rfl) ?_
                refine lv_bipush (v := 45) C.x C.b dX12_sum_116 (by decide) ?_
                refine lv_icmp_eq (tgt := 127) C.x C.b dX12_sum_118 (by decide) (fun hc => ?_) (fun hc => ?_)
                · have h := h.1 hc
                  exact h p l e s m args below meth c D cA base g C hr htb _ _ G ls (lv_sub hl [1, 3, 0] rfl)
                · have h := h.2 hc
                  refine lv_iload_n C.x C.b dX12_sum_121 rfl (lv_at hl 0 rfl) ?_
                  refine lv_bipush (v := 42) C.x C.b dX12_sum_122 (by decide) ?_
                  refine lv_icmp_ne (tgt := 200) C.x C.b dX12_sum_124 (by decide) (fun hc => ?_) (fun hc => ?_)
                  · have h := h.2 hc
                    refine lv_iload_n C.x C.b dX12_sum_200 rfl (lv_at hl 0 rfl) ?_
                    refine lv_bipush (v := 41) C.x C.b dX12_sum_201 (by decide) ?_
                    refine lv_icmp_ne (tgt := 251) C.x C.b dX12_sum_203 (by decide) (fun hc => ?_) (fun hc => ?_)
                    · have h := h.2 hc
                      refine lv_iconst (v := 0) C.x C.b dX12_sum_251 (by decide) ?_
                      refine lv_istore_n (lv' := [(2, .int 0), (3, .int (jhr M)), (0, .ref (g 11 0)), (1, .int v1)]) C.x C.b dX12_sum_252 rfl hl (by decide) rfl (fun ls hl => ?_)
                      refine lv_goto (tgt := 19) C.x C.b dX12_sum_253 (by decide) ?_
                      exact h p l e s m args below meth c D cA base g C hr htb _ _ G ls (lv_sub hl [2, 3, 0] rfl)
                    · have h := h.1 hc
                      refine lv_aload_n C.x C.b dX12_sum_206 rfl (lv_at hl 1 rfl) ?_
                      refine jr_get C G jc11 18 (v := .int (M 11 0 18)) (show 0 < 1 by decide) (by decide) (by decide) rfl wd1209 dX12_sum_207 ?_
                      refine lv_if_le (tgt := 251) C.x C.b dX12_sum_210 (by decide) (fun hc => ?_) (fun hc => ?_)
                      · have h := h.1 hc
                        refine lv_iconst (v := 0) C.x C.b dX12_sum_251 (by decide) ?_
                        refine lv_istore_n (lv' := [(2, .int 0), (3, .int (jhr M)), (0, .ref (g 11 0)), (1, .int v1)]) C.x C.b dX12_sum_252 rfl hl (by decide) rfl (fun ls hl => ?_)
                        refine lv_goto (tgt := 19) C.x C.b dX12_sum_253 (by decide) ?_
                        exact h p l e s m args below meth c D cA base g C hr htb _ _ G ls (lv_sub hl [2, 3, 0] rfl)
                      · have h := h.2 hc
                        refine lv_aload_n C.x C.b dX12_sum_213 rfl (lv_at hl 1 rfl) ?_
                        refine lv_iconst (v := 0) C.x C.b dX12_sum_214 (by decide) ?_
                        refine jr_V (d' := 4) C G jc11 jm_X12_settle wd1360 h rfl (show 0 < 1 by decide) (by decide) rfl rfl (by omega) (by decide) (by decide) ⟨rfl, rfl⟩ hl.1 (Nat.le_of_ble_eq_true rfl) dX12_sum_215 (fun r26 r26n M27 H locs h G => ?_)
                        obtain ⟨nM27, h⟩ := h
                        refine lv_aload_n C.x C.b dX12_sum_218 rfl (lv_at hl 1 rfl) ?_
                        refine lv_dup C.x C.b dX12_sum_219 rfl ?_
                        refine jr_get C G jc11 17 (v := .int (M27 11 0 17)) (show 0 < 1 by decide) (by decide) (by decide) rfl wd1208 dX12_sum_220 ?_
                        refine lv_iconst (v := 1) C.x C.b dX12_sum_223 (by decide) ?_
                        refine lv_isub C.x C.b dX12_sum_224 ?_
                        refine jr_put C G jc11 17 (v := (M27 11 0 17) - 1) (show 0 < 1 by decide) (by decide) (by decide) rfl (by decide) wd1208 rfl rfl rfl rfl dX12_sum_225 (fun H locs G => ?_)
                        obtain ⟨M28, eM28⟩ : ∃ z : jM, z = jup M27 11 0 17 ((M27 11 0 17) - 1) := ⟨_, rfl⟩
                        rw [← eM28] at G
                        have h := h M28 eM28
                        have nM28 : jnb M28 = jnb M27 := by rw [eM28]; exact jnb_up (by decide)
                        refine lv_aload_n C.x C.b dX12_sum_228 rfl (lv_at hl 1 rfl) ?_
                        refine lv_dup C.x C.b dX12_sum_229 rfl ?_
                        refine jr_get C G jc11 18 (v := .int (M28 11 0 18)) (show 0 < 1 by decide) (by decide) (by decide) rfl wd1209 dX12_sum_230 ?_
                        refine lv_iconst (v := 1) C.x C.b dX12_sum_233 (by decide) ?_
                        refine lv_isub C.x C.b dX12_sum_234 ?_
                        refine jr_put C G jc11 18 (v := (M28 11 0 18) - 1) (show 0 < 1 by decide) (by decide) (by decide) rfl (by decide) wd1209 rfl rfl rfl rfl dX12_sum_235 (fun H locs G => ?_)
                        obtain ⟨M29, eM29⟩ : ∃ z : jM, z = jup M28 11 0 18 ((M28 11 0 18) - 1) := ⟨_, rfl⟩
                        rw [← eM29] at G
                        have h := h M29 eM29
                        have nM29 : jnb M29 = jnb M28 := by rw [eM29]; exact jnb_up (by decide)
                        refine lv_aload_n C.x C.b dX12_sum_238 rfl (lv_at hl 1 rfl) ?_
                        refine lv_dup C.x C.b dX12_sum_239 rfl ?_
                        refine jr_get C G jc11 12 (v := .int (M29 11 0 12)) (show 0 < 1 by decide) (by decide) (by decide) rfl wd1203 dX12_sum_240 ?_
                        refine lv_iconst (v := 1) C.x C.b dX12_sum_243 (by decide) ?_
                        refine lv_iadd C.x C.b dX12_sum_244 ?_
                        refine jr_put C G jc11 12 (v := (M29 11 0 12) + 1) (show 0 < 1 by decide) (by decide) (by decide) rfl (by decide) wd1203 rfl rfl rfl rfl dX12_sum_245 (fun H locs G => ?_)
                        obtain ⟨M30, eM30⟩ : ∃ z : jM, z = jup M29 11 0 12 ((M29 11 0 12) + 1) := ⟨_, rfl⟩
                        rw [← eM30] at G
                        have h := h M30 eM30
                        have nM30 : jnb M30 = jnb M29 := by rw [eM30]; exact jnb_up (by decide)
                        refine lv_goto (tgt := 253) C.x C.b dX12_sum_248 (by decide) ?_
                        refine lv_goto (tgt := 19) C.x C.b dX12_sum_253 (by decide) ?_
                        exact h p l e s m args below meth c D cA base g C hr htb _ _ G ls (lv_sub hl [1, 2, 3] rfl)
                  · have h := h.1 hc
                    exact h p l e s m args below meth c D cA base g C hr htb _ _ G ls (lv_sub hl [1, 3, 0] rfl)
            · have h := h.2 hc
              refine lv_aload_n C.x C.b dX12_sum_100 rfl (lv_at hl 1 rfl) ?_
              refine jr_V (d' := 4) C G jc11 jm_X12_factor wd1348 h rfl (show 0 < 1 by decide) (by decide) rfl rfl (by omega) (by decide) (by decide) ⟨rfl, rfl⟩ hl.1 (Nat.le_of_ble_eq_true rfl) dX12_sum_101 (fun r31 r31n M32 H locs h G => ?_)
              obtain ⟨nM32, h⟩ := h
              refine lv_iconst (v := 0) C.x C.b dX12_sum_104 (by decide) ?_
              refine lv_istore_n (lv' := [(1, .int 0), (3, .int (jhr M)), (0, .ref (g 11 0)), (2, .int v2)]) C.x C.b dX12_sum_105 rfl hl (by decide) rfl (fun ls hl => ?_)
              refine lv_goto (tgt := 253) C.x C.b dX12_sum_106 (by decide) ?_
              refine lv_goto (tgt := 19) C.x C.b dX12_sum_253 (by decide) ?_
              exact h p l e s m args below meth c D cA base g C hr htb _ _ G ls (lv_sub hl [2, 0, 3] rfl)
          · have h := h.2 hc
            refine lv_aload_n C.x C.b dX12_sum_53 rfl (lv_at hl 1 rfl) ?_
            refine jr_get C G jc11 16 (v := .ref (g 56 0)) (show 0 < 1 by decide) (by decide) (by decide) rfl wd1207 dX12_sum_54 ?_
            refine lv_aload_n C.x C.b dX12_sum_57 rfl (lv_at hl 1 rfl) ?_
            refine jr_get C G jc11 17 (v := .int (M 11 0 17)) (show 0 < 1 by decide) (by decide) (by decide) rfl wd1208 dX12_sum_58 ?_
            refine lv_iconst (v := 0) C.x C.b dX12_sum_61 (by decide) ?_
            obtain ⟨hs, h⟩ := h
            refine jr_ast C G (show 0 < 1 by decide) (by decide) (by decide) (by decide) rfl rfl hs dX12_sum_62 (fun H locs G => ?_)
            obtain ⟨M33, eM33⟩ : ∃ z : jM, z = jup M 56 0 (M 11 0 17).toNatClampNeg 0 := ⟨_, rfl⟩
            rw [← eM33] at G
            have h := h M33 eM33
            have nM33 : jnb M33 = jnb M := by rw [eM33]; exact jnb_up (by decide)
            refine lv_aload_n C.x C.b dX12_sum_63 rfl (lv_at hl 1 rfl) ?_
            refine lv_dup C.x C.b dX12_sum_64 rfl ?_
            refine jr_get C G jc11 17 (v := .int (M33 11 0 17)) (show 0 < 1 by decide) (by decide) (by decide) rfl wd1208 dX12_sum_65 ?_
            refine lv_iconst (v := 1) C.x C.b dX12_sum_68 (by decide) ?_
            refine lv_iadd C.x C.b dX12_sum_69 ?_
            refine jr_put C G jc11 17 (v := (M33 11 0 17) + 1) (show 0 < 1 by decide) (by decide) (by decide) rfl (by decide) wd1208 rfl rfl rfl rfl dX12_sum_70 (fun H locs G => ?_)
            obtain ⟨M34, eM34⟩ : ∃ z : jM, z = jup M33 11 0 17 ((M33 11 0 17) + 1) := ⟨_, rfl⟩
            rw [← eM34] at G
            have h := h M34 eM34
            have nM34 : jnb M34 = jnb M33 := by rw [eM34]; exact jnb_up (by decide)
            refine lv_aload_n C.x C.b dX12_sum_73 rfl (lv_at hl 1 rfl) ?_
            refine lv_dup C.x C.b dX12_sum_74 rfl ?_
            refine jr_get C G jc11 18 (v := .int (M34 11 0 18)) (show 0 < 1 by decide) (by decide) (by decide) rfl wd1209 dX12_sum_75 ?_
            refine lv_iconst (v := 1) C.x C.b dX12_sum_78 (by decide) ?_
            refine lv_iadd C.x C.b dX12_sum_79 ?_
            refine jr_put C G jc11 18 (v := (M34 11 0 18) + 1) (show 0 < 1 by decide) (by decide) (by decide) rfl (by decide) wd1209 rfl rfl rfl rfl dX12_sum_80 (fun H locs G => ?_)
            obtain ⟨M35, eM35⟩ : ∃ z : jM, z = jup M34 11 0 18 ((M34 11 0 18) + 1) := ⟨_, rfl⟩
            rw [← eM35] at G
            have h := h M35 eM35
            have nM35 : jnb M35 = jnb M34 := by rw [eM35]; exact jnb_up (by decide)
            refine lv_aload_n C.x C.b dX12_sum_83 rfl (lv_at hl 1 rfl) ?_
            refine lv_dup C.x C.b dX12_sum_84 rfl ?_
            refine jr_get C G jc11 12 (v := .int (M35 11 0 12)) (show 0 < 1 by decide) (by decide) (by decide) rfl wd1203 dX12_sum_85 ?_
            refine lv_iconst (v := 1) C.x C.b dX12_sum_88 (by decide) ?_
            refine lv_iadd C.x C.b dX12_sum_89 ?_
            refine jr_put C G jc11 12 (v := (M35 11 0 12) + 1) (show 0 < 1 by decide) (by decide) (by decide) rfl (by decide) wd1203 rfl rfl rfl rfl dX12_sum_90 (fun H locs G => ?_)
            obtain ⟨M36, eM36⟩ : ∃ z : jM, z = jup M35 11 0 12 ((M35 11 0 12) + 1) := ⟨_, rfl⟩
            rw [← eM36] at G
            have h := h M36 eM36
            have nM36 : jnb M36 = jnb M35 := by rw [eM36]; exact jnb_up (by decide)
            refine lv_goto (tgt := 253) C.x C.b dX12_sum_93 (by decide) ?_
            refine lv_goto (tgt := 19) C.x C.b dX12_sum_253 (by decide) ?_
            exact h p l e s m args below meth c D cA base g C hr htb _ _ G ls (lv_sub hl [1, 2, 3] rfl)
set_option maxHeartbeats 4000000 in
set_option maxRecDepth 100000 in
theorem bl_X12_sum_127 (v2 : Int32) (v3 : Int32) (M : jM) (Q : Int32 → Nat → jM → Prop) 
  (h : (v3 = 42 → ok_X12_settle 1 M (fun _ _ M13 => jnb M13 = jnb M ∧ (v3 = 43 → vp_in (M13 11 0 17) 120 ∧ (∀ M20 : jM, M20 = jup M13 56 0 (M13 11 0 17).toNatClampNeg 101 → (∀ M21 : jM, M21 = jup M20 11 0 17 ((M20 11 0 17) + 1) → (∀ M22 : jM, M22 = jup M21 11 0 12 ((M21 11 0 12) + 1) → at_X12_sum_19 1 v2 M22 Q)))) ∧ (¬ (v3 = 43) → (v3 = 45 → vp_in (M13 11 0 17) 120 ∧ (∀ M17 : jM, M17 = jup M13 56 0 (M13 11 0 17).toNatClampNeg 102 → (∀ M18 : jM, M18 = jup M17 11 0 17 ((M17 11 0 17) + 1) → (∀ M19 : jM, M19 = jup M18 11 0 12 ((M18 11 0 12) + 1) → at_X12_sum_19 1 v2 M19 Q)))) ∧ (¬ (v3 = 45) → vp_in (M13 11 0 17) 120 ∧ (∀ M14 : jM, M14 = jup M13 56 0 (M13 11 0 17).toNatClampNeg 103 → (∀ M15 : jM, M15 = jup M14 11 0 17 ((M14 11 0 17) + 1) → (∀ M16 : jM, M16 = jup M15 11 0 12 ((M15 11 0 12) + 1) → at_X12_sum_19 1 v2 M16 Q))))))) ∧ (¬ (v3 = 42) → ok_X12_settle 0 M (fun _ _ M2 => jnb M2 = jnb M ∧ (v3 = 43 → vp_in (M2 11 0 17) 120 ∧ (∀ M9 : jM, M9 = jup M2 56 0 (M2 11 0 17).toNatClampNeg 101 → (∀ M10 : jM, M10 = jup M9 11 0 17 ((M9 11 0 17) + 1) → (∀ M11 : jM, M11 = jup M10 11 0 12 ((M10 11 0 12) + 1) → at_X12_sum_19 1 v2 M11 Q)))) ∧ (¬ (v3 = 43) → (v3 = 45 → vp_in (M2 11 0 17) 120 ∧ (∀ M6 : jM, M6 = jup M2 56 0 (M2 11 0 17).toNatClampNeg 102 → (∀ M7 : jM, M7 = jup M6 11 0 17 ((M6 11 0 17) + 1) → (∀ M8 : jM, M8 = jup M7 11 0 12 ((M7 11 0 12) + 1) → at_X12_sum_19 1 v2 M8 Q)))) ∧ (¬ (v3 = 45) → vp_in (M2 11 0 17) 120 ∧ (∀ M3 : jM, M3 = jup M2 56 0 (M2 11 0 17).toNatClampNeg 103 → (∀ M4 : jM, M4 = jup M3 11 0 17 ((M3 11 0 17) + 1) → (∀ M5 : jM, M5 = jup M4 11 0 12 ((M4 11 0 12) + 1) → at_X12_sum_19 1 v2 M5 Q)))))))) :
  at_X12_sum_127 v2 v3 M Q := by
  intro p l e s m args below meth c D cA base g C hr htb H locs G ls hl
  refine lv_aload_n C.x C.b dX12_sum_127 rfl (lv_at hl 0 rfl) ?_
  refine lv_iload_n C.x C.b dX12_sum_128 rfl (lv_at hl 2 rfl) ?_
  refine lv_bipush (v := 42) C.x C.b dX12_sum_129 (by decide) ?_
  refine lv_icmp_ne (tgt := 138) C.x C.b dX12_sum_131 (by decide) (fun hc => ?_) (fun hc => ?_)
  · have h := h.2 hc
    refine lv_iconst (v := 0) C.x C.b dX12_sum_138 (by decide) ?_
    refine jr_V (d' := 4) C G jc11 jm_X12_settle wd1360 h rfl (show 0 < 1 by decide) (by decide) rfl rfl (by omega) (by decide) (by decide) ⟨rfl, rfl⟩ hl.1 (Nat.le_of_ble_eq_true rfl) dX12_sum_139 (fun r1 r1n M2 H locs h G => ?_)
    obtain ⟨nM2, h⟩ := h
    refine lv_aload_n C.x C.b dX12_sum_142 rfl (lv_at hl 0 rfl) ?_
    refine jr_get C G jc11 16 (v := .ref (g 56 0)) (show 0 < 1 by decide) (by decide) (by decide) rfl wd1207 dX12_sum_143 ?_
    refine lv_aload_n C.x C.b dX12_sum_146 rfl (lv_at hl 0 rfl) ?_
    refine jr_get C G jc11 17 (v := .int (M2 11 0 17)) (show 0 < 1 by decide) (by decide) (by decide) rfl wd1208 dX12_sum_147 ?_
    refine lv_iload_n C.x C.b dX12_sum_150 rfl (lv_at hl 2 rfl) ?_
    refine lv_bipush (v := 43) C.x C.b dX12_sum_151 (by decide) ?_
    refine lv_icmp_ne (tgt := 161) C.x C.b dX12_sum_153 (by decide) (fun hc => ?_) (fun hc => ?_)
    · have h := h.2 hc
      refine lv_iload_n C.x C.b dX12_sum_161 rfl (lv_at hl 2 rfl) ?_
      refine lv_bipush (v := 45) C.x C.b dX12_sum_162 (by decide) ?_
      refine lv_icmp_ne (tgt := 172) C.x C.b dX12_sum_164 (by decide) (fun hc => ?_) (fun hc => ?_)
      · have h := h.2 hc
        refine lv_bipush (v := 103) C.x C.b dX12_sum_172 (by decide) ?_
        obtain ⟨hs, h⟩ := h
        refine jr_ast C G (show 0 < 1 by decide) (by decide) (by decide) (by decide) rfl rfl hs dX12_sum_174 (fun H locs G => ?_)
        obtain ⟨M3, eM3⟩ : ∃ z : jM, z = jup M2 56 0 (M2 11 0 17).toNatClampNeg 103 := ⟨_, rfl⟩
        rw [← eM3] at G
        have h := h M3 eM3
        have nM3 : jnb M3 = jnb M2 := by rw [eM3]; exact jnb_up (by decide)
        refine lv_aload_n C.x C.b dX12_sum_175 rfl (lv_at hl 0 rfl) ?_
        refine lv_dup C.x C.b dX12_sum_176 rfl ?_
        refine jr_get C G jc11 17 (v := .int (M3 11 0 17)) (show 0 < 1 by decide) (by decide) (by decide) rfl wd1208 dX12_sum_177 ?_
        refine lv_iconst (v := 1) C.x C.b dX12_sum_180 (by decide) ?_
        refine lv_iadd C.x C.b dX12_sum_181 ?_
        refine jr_put C G jc11 17 (v := (M3 11 0 17) + 1) (show 0 < 1 by decide) (by decide) (by decide) rfl (by decide) wd1208 rfl rfl rfl rfl dX12_sum_182 (fun H locs G => ?_)
        obtain ⟨M4, eM4⟩ : ∃ z : jM, z = jup M3 11 0 17 ((M3 11 0 17) + 1) := ⟨_, rfl⟩
        rw [← eM4] at G
        have h := h M4 eM4
        have nM4 : jnb M4 = jnb M3 := by rw [eM4]; exact jnb_up (by decide)
        refine lv_aload_n C.x C.b dX12_sum_185 rfl (lv_at hl 0 rfl) ?_
        refine lv_dup C.x C.b dX12_sum_186 rfl ?_
        refine jr_get C G jc11 12 (v := .int (M4 11 0 12)) (show 0 < 1 by decide) (by decide) (by decide) rfl wd1203 dX12_sum_187 ?_
        refine lv_iconst (v := 1) C.x C.b dX12_sum_190 (by decide) ?_
        refine lv_iadd C.x C.b dX12_sum_191 ?_
        refine jr_put C G jc11 12 (v := (M4 11 0 12) + 1) (show 0 < 1 by decide) (by decide) (by decide) rfl (by decide) wd1203 rfl rfl rfl rfl dX12_sum_192 (fun H locs G => ?_)
        obtain ⟨M5, eM5⟩ : ∃ z : jM, z = jup M4 11 0 12 ((M4 11 0 12) + 1) := ⟨_, rfl⟩
        rw [← eM5] at G
        have h := h M5 eM5
        have nM5 : jnb M5 = jnb M4 := by rw [eM5]; exact jnb_up (by decide)
        refine lv_iconst (v := 1) C.x C.b dX12_sum_195 (by decide) ?_
        refine lv_istore_n (lv' := [(1, .int 1), (0, .ref (g 11 0)), (2, .int v2), (3, .int v3)]) C.x C.b dX12_sum_196 rfl hl (by decide) rfl (fun ls hl => ?_)
        refine lv_goto (tgt := 253) C.x C.b dX12_sum_197 (by decide) ?_
        refine lv_goto (tgt := 19) C.x C.b dX12_sum_253 (by decide) ?_
        exact h p l e s m args below meth c D cA base g C hr htb _ _ G ls (lv_sub hl [1, 0, 2] rfl)
      · have h := h.1 hc
        refine lv_bipush (v := 102) C.x C.b dX12_sum_167 (by decide) ?_
        refine lv_goto (tgt := 174) C.x C.b dX12_sum_169 (by decide) ?_
        obtain ⟨hs, h⟩ := h
        refine jr_ast C G (show 0 < 1 by decide) (by decide) (by decide) (by decide) rfl rfl hs dX12_sum_174 (fun H locs G => ?_)
        obtain ⟨M6, eM6⟩ : ∃ z : jM, z = jup M2 56 0 (M2 11 0 17).toNatClampNeg 102 := ⟨_, rfl⟩
        rw [← eM6] at G
        have h := h M6 eM6
        have nM6 : jnb M6 = jnb M2 := by rw [eM6]; exact jnb_up (by decide)
        refine lv_aload_n C.x C.b dX12_sum_175 rfl (lv_at hl 0 rfl) ?_
        refine lv_dup C.x C.b dX12_sum_176 rfl ?_
        refine jr_get C G jc11 17 (v := .int (M6 11 0 17)) (show 0 < 1 by decide) (by decide) (by decide) rfl wd1208 dX12_sum_177 ?_
        refine lv_iconst (v := 1) C.x C.b dX12_sum_180 (by decide) ?_
        refine lv_iadd C.x C.b dX12_sum_181 ?_
        refine jr_put C G jc11 17 (v := (M6 11 0 17) + 1) (show 0 < 1 by decide) (by decide) (by decide) rfl (by decide) wd1208 rfl rfl rfl rfl dX12_sum_182 (fun H locs G => ?_)
        obtain ⟨M7, eM7⟩ : ∃ z : jM, z = jup M6 11 0 17 ((M6 11 0 17) + 1) := ⟨_, rfl⟩
        rw [← eM7] at G
        have h := h M7 eM7
        have nM7 : jnb M7 = jnb M6 := by rw [eM7]; exact jnb_up (by decide)
        refine lv_aload_n C.x C.b dX12_sum_185 rfl (lv_at hl 0 rfl) ?_
        refine lv_dup C.x C.b dX12_sum_186 rfl ?_
        refine jr_get C G jc11 12 (v := .int (M7 11 0 12)) (show 0 < 1 by decide) (by decide) (by decide) rfl wd1203 dX12_sum_187 ?_
        refine lv_iconst (v := 1) C.x C.b dX12_sum_190 (by decide) ?_
        refine lv_iadd C.x C.b dX12_sum_191 ?_
        refine jr_put C G jc11 12 (v := (M7 11 0 12) + 1) (show 0 < 1 by decide) (by decide) (by decide) rfl (by decide) wd1203 rfl rfl rfl rfl dX12_sum_192 (fun H locs G => ?_)
        obtain ⟨M8, eM8⟩ : ∃ z : jM, z = jup M7 11 0 12 ((M7 11 0 12) + 1) := ⟨_, rfl⟩
        rw [← eM8] at G
        have h := h M8 eM8
        have nM8 : jnb M8 = jnb M7 := by rw [eM8]; exact jnb_up (by decide)
        refine lv_iconst (v := 1) C.x C.b dX12_sum_195 (by decide) ?_
        refine lv_istore_n (lv' := [(1, .int 1), (0, .ref (g 11 0)), (2, .int v2), (3, .int v3)]) C.x C.b dX12_sum_196 rfl hl (by decide) rfl (fun ls hl => ?_)
        refine lv_goto (tgt := 253) C.x C.b dX12_sum_197 (by decide) ?_
        refine lv_goto (tgt := 19) C.x C.b dX12_sum_253 (by decide) ?_
        exact h p l e s m args below meth c D cA base g C hr htb _ _ G ls (lv_sub hl [1, 0, 2] rfl)
    · have h := h.1 hc
      refine lv_bipush (v := 101) C.x C.b dX12_sum_156 (by decide) ?_
      refine lv_goto (tgt := 174) C.x C.b dX12_sum_158 (by decide) ?_
      obtain ⟨hs, h⟩ := h
      refine jr_ast C G (show 0 < 1 by decide) (by decide) (by decide) (by decide) rfl rfl hs dX12_sum_174 (fun H locs G => ?_)
      obtain ⟨M9, eM9⟩ : ∃ z : jM, z = jup M2 56 0 (M2 11 0 17).toNatClampNeg 101 := ⟨_, rfl⟩
      rw [← eM9] at G
      have h := h M9 eM9
      have nM9 : jnb M9 = jnb M2 := by rw [eM9]; exact jnb_up (by decide)
      refine lv_aload_n C.x C.b dX12_sum_175 rfl (lv_at hl 0 rfl) ?_
      refine lv_dup C.x C.b dX12_sum_176 rfl ?_
      refine jr_get C G jc11 17 (v := .int (M9 11 0 17)) (show 0 < 1 by decide) (by decide) (by decide) rfl wd1208 dX12_sum_177 ?_
      refine lv_iconst (v := 1) C.x C.b dX12_sum_180 (by decide) ?_
      refine lv_iadd C.x C.b dX12_sum_181 ?_
      refine jr_put C G jc11 17 (v := (M9 11 0 17) + 1) (show 0 < 1 by decide) (by decide) (by decide) rfl (by decide) wd1208 rfl rfl rfl rfl dX12_sum_182 (fun H locs G => ?_)
      obtain ⟨M10, eM10⟩ : ∃ z : jM, z = jup M9 11 0 17 ((M9 11 0 17) + 1) := ⟨_, rfl⟩
      rw [← eM10] at G
      have h := h M10 eM10
      have nM10 : jnb M10 = jnb M9 := by rw [eM10]; exact jnb_up (by decide)
      refine lv_aload_n C.x C.b dX12_sum_185 rfl (lv_at hl 0 rfl) ?_
      refine lv_dup C.x C.b dX12_sum_186 rfl ?_
      refine jr_get C G jc11 12 (v := .int (M10 11 0 12)) (show 0 < 1 by decide) (by decide) (by decide) rfl wd1203 dX12_sum_187 ?_
      refine lv_iconst (v := 1) C.x C.b dX12_sum_190 (by decide) ?_
      refine lv_iadd C.x C.b dX12_sum_191 ?_
      refine jr_put C G jc11 12 (v := (M10 11 0 12) + 1) (show 0 < 1 by decide) (by decide) (by decide) rfl (by decide) wd1203 rfl rfl rfl rfl dX12_sum_192 (fun H locs G => ?_)
      obtain ⟨M11, eM11⟩ : ∃ z : jM, z = jup M10 11 0 12 ((M10 11 0 12) + 1) := ⟨_, rfl⟩
      rw [← eM11] at G
      have h := h M11 eM11
      have nM11 : jnb M11 = jnb M10 := by rw [eM11]; exact jnb_up (by decide)
      refine lv_iconst (v := 1) C.x C.b dX12_sum_195 (by decide) ?_
      refine lv_istore_n (lv' := [(1, .int 1), (0, .ref (g 11 0)), (2, .int v2), (3, .int v3)]) C.x C.b dX12_sum_196 rfl hl (by decide) rfl (fun ls hl => ?_)
      refine lv_goto (tgt := 253) C.x C.b dX12_sum_197 (by decide) ?_
      refine lv_goto (tgt := 19) C.x C.b dX12_sum_253 (by decide) ?_
      exact h p l e s m args below meth c D cA base g C hr htb _ _ G ls (lv_sub hl [1, 0, 2] rfl)
  · have h := h.1 hc
    refine lv_iconst (v := 1) C.x C.b dX12_sum_134 (by decide) ?_
    refine lv_goto (tgt := 139) C.x C.b dX12_sum_135 (by decide) ?_
    refine jr_V (d' := 4) C G jc11 jm_X12_settle wd1360 h rfl (show 0 < 1 by decide) (by decide) rfl rfl (by omega) (by decide) (by decide) ⟨rfl, rfl⟩ hl.1 (Nat.le_of_ble_eq_true rfl) dX12_sum_139 (fun r12 r12n M13 H locs h G => ?_)
    obtain ⟨nM13, h⟩ := h
    refine lv_aload_n C.x C.b dX12_sum_142 rfl (lv_at hl 0 rfl) ?_
    refine jr_get C G jc11 16 (v := .ref (g 56 0)) (show 0 < 1 by decide) (by decide) (by decide) rfl wd1207 dX12_sum_143 ?_
    refine lv_aload_n C.x C.b dX12_sum_146 rfl (lv_at hl 0 rfl) ?_
    refine jr_get C G jc11 17 (v := .int (M13 11 0 17)) (show 0 < 1 by decide) (by decide) (by decide) rfl wd1208 dX12_sum_147 ?_
    refine lv_iload_n C.x C.b dX12_sum_150 rfl (lv_at hl 2 rfl) ?_
    refine lv_bipush (v := 43) C.x C.b dX12_sum_151 (by decide) ?_
    refine lv_icmp_ne (tgt := 161) C.x C.b dX12_sum_153 (by decide) (fun hc => ?_) (fun hc => ?_)
    · have h := h.2 hc
      refine lv_iload_n C.x C.b dX12_sum_161 rfl (lv_at hl 2 rfl) ?_
      refine lv_bipush (v := 45) C.x C.b dX12_sum_162 (by decide) ?_
      refine lv_icmp_ne (tgt := 172) C.x C.b dX12_sum_164 (by decide) (fun hc => ?_) (fun hc => ?_)
      · have h := h.2 hc
        refine lv_bipush (v := 103) C.x C.b dX12_sum_172 (by decide) ?_
        obtain ⟨hs, h⟩ := h
        refine jr_ast C G (show 0 < 1 by decide) (by decide) (by decide) (by decide) rfl rfl hs dX12_sum_174 (fun H locs G => ?_)
        obtain ⟨M14, eM14⟩ : ∃ z : jM, z = jup M13 56 0 (M13 11 0 17).toNatClampNeg 103 := ⟨_, rfl⟩
        rw [← eM14] at G
        have h := h M14 eM14
        have nM14 : jnb M14 = jnb M13 := by rw [eM14]; exact jnb_up (by decide)
        refine lv_aload_n C.x C.b dX12_sum_175 rfl (lv_at hl 0 rfl) ?_
        refine lv_dup C.x C.b dX12_sum_176 rfl ?_
        refine jr_get C G jc11 17 (v := .int (M14 11 0 17)) (show 0 < 1 by decide) (by decide) (by decide) rfl wd1208 dX12_sum_177 ?_
        refine lv_iconst (v := 1) C.x C.b dX12_sum_180 (by decide) ?_
        refine lv_iadd C.x C.b dX12_sum_181 ?_
        refine jr_put C G jc11 17 (v := (M14 11 0 17) + 1) (show 0 < 1 by decide) (by decide) (by decide) rfl (by decide) wd1208 rfl rfl rfl rfl dX12_sum_182 (fun H locs G => ?_)
        obtain ⟨M15, eM15⟩ : ∃ z : jM, z = jup M14 11 0 17 ((M14 11 0 17) + 1) := ⟨_, rfl⟩
        rw [← eM15] at G
        have h := h M15 eM15
        have nM15 : jnb M15 = jnb M14 := by rw [eM15]; exact jnb_up (by decide)
        refine lv_aload_n C.x C.b dX12_sum_185 rfl (lv_at hl 0 rfl) ?_
        refine lv_dup C.x C.b dX12_sum_186 rfl ?_
        refine jr_get C G jc11 12 (v := .int (M15 11 0 12)) (show 0 < 1 by decide) (by decide) (by decide) rfl wd1203 dX12_sum_187 ?_
        refine lv_iconst (v := 1) C.x C.b dX12_sum_190 (by decide) ?_
        refine lv_iadd C.x C.b dX12_sum_191 ?_
        refine jr_put C G jc11 12 (v := (M15 11 0 12) + 1) (show 0 < 1 by decide) (by decide) (by decide) rfl (by decide) wd1203 rfl rfl rfl rfl dX12_sum_192 (fun H locs G => ?_)
        obtain ⟨M16, eM16⟩ : ∃ z : jM, z = jup M15 11 0 12 ((M15 11 0 12) + 1) := ⟨_, rfl⟩
        rw [← eM16] at G
        have h := h M16 eM16
        have nM16 : jnb M16 = jnb M15 := by rw [eM16]; exact jnb_up (by decide)
        refine lv_iconst (v := 1) C.x C.b dX12_sum_195 (by decide) ?_
        refine lv_istore_n (lv' := [(1, .int 1), (0, .ref (g 11 0)), (2, .int v2), (3, .int v3)]) C.x C.b dX12_sum_196 rfl hl (by decide) rfl (fun ls hl => ?_)
        refine lv_goto (tgt := 253) C.x C.b dX12_sum_197 (by decide) ?_
        refine lv_goto (tgt := 19) C.x C.b dX12_sum_253 (by decide) ?_
        exact h p l e s m args below meth c D cA base g C hr htb _ _ G ls (lv_sub hl [1, 0, 2] rfl)
      · have h := h.1 hc
        refine lv_bipush (v := 102) C.x C.b dX12_sum_167 (by decide) ?_
        refine lv_goto (tgt := 174) C.x C.b dX12_sum_169 (by decide) ?_
        obtain ⟨hs, h⟩ := h
        refine jr_ast C G (show 0 < 1 by decide) (by decide) (by decide) (by decide) rfl rfl hs dX12_sum_174 (fun H locs G => ?_)
        obtain ⟨M17, eM17⟩ : ∃ z : jM, z = jup M13 56 0 (M13 11 0 17).toNatClampNeg 102 := ⟨_, rfl⟩
        rw [← eM17] at G
        have h := h M17 eM17
        have nM17 : jnb M17 = jnb M13 := by rw [eM17]; exact jnb_up (by decide)
        refine lv_aload_n C.x C.b dX12_sum_175 rfl (lv_at hl 0 rfl) ?_
        refine lv_dup C.x C.b dX12_sum_176 rfl ?_
        refine jr_get C G jc11 17 (v := .int (M17 11 0 17)) (show 0 < 1 by decide) (by decide) (by decide) rfl wd1208 dX12_sum_177 ?_
        refine lv_iconst (v := 1) C.x C.b dX12_sum_180 (by decide) ?_
        refine lv_iadd C.x C.b dX12_sum_181 ?_
        refine jr_put C G jc11 17 (v := (M17 11 0 17) + 1) (show 0 < 1 by decide) (by decide) (by decide) rfl (by decide) wd1208 rfl rfl rfl rfl dX12_sum_182 (fun H locs G => ?_)
        obtain ⟨M18, eM18⟩ : ∃ z : jM, z = jup M17 11 0 17 ((M17 11 0 17) + 1) := ⟨_, rfl⟩
        rw [← eM18] at G
        have h := h M18 eM18
        have nM18 : jnb M18 = jnb M17 := by rw [eM18]; exact jnb_up (by decide)
        refine lv_aload_n C.x C.b dX12_sum_185 rfl (lv_at hl 0 rfl) ?_
        refine lv_dup C.x C.b dX12_sum_186 rfl ?_
        refine jr_get C G jc11 12 (v := .int (M18 11 0 12)) (show 0 < 1 by decide) (by decide) (by decide) rfl wd1203 dX12_sum_187 ?_
        refine lv_iconst (v := 1) C.x C.b dX12_sum_190 (by decide) ?_
        refine lv_iadd C.x C.b dX12_sum_191 ?_
        refine jr_put C G jc11 12 (v := (M18 11 0 12) + 1) (show 0 < 1 by decide) (by decide) (by decide) rfl (by decide) wd1203 rfl rfl rfl rfl dX12_sum_192 (fun H locs G => ?_)
        obtain ⟨M19, eM19⟩ : ∃ z : jM, z = jup M18 11 0 12 ((M18 11 0 12) + 1) := ⟨_, rfl⟩
        rw [← eM19] at G
        have h := h M19 eM19
        have nM19 : jnb M19 = jnb M18 := by rw [eM19]; exact jnb_up (by decide)
        refine lv_iconst (v := 1) C.x C.b dX12_sum_195 (by decide) ?_
        refine lv_istore_n (lv' := [(1, .int 1), (0, .ref (g 11 0)), (2, .int v2), (3, .int v3)]) C.x C.b dX12_sum_196 rfl hl (by decide) rfl (fun ls hl => ?_)
        refine lv_goto (tgt := 253) C.x C.b dX12_sum_197 (by decide) ?_
        refine lv_goto (tgt := 19) C.x C.b dX12_sum_253 (by decide) ?_
        exact h p l e s m args below meth c D cA base g C hr htb _ _ G ls (lv_sub hl [1, 0, 2] rfl)
    · have h := h.1 hc
      refine lv_bipush (v := 101) C.x C.b dX12_sum_156 (by decide) ?_
      refine lv_goto (tgt := 174) C.x C.b dX12_sum_158 (by decide) ?_
      obtain ⟨hs, h⟩ := h
      refine jr_ast C G (show 0 < 1 by decide) (by decide) (by decide) (by decide) rfl rfl hs dX12_sum_174 (fun H locs G => ?_)
      obtain ⟨M20, eM20⟩ : ∃ z : jM, z = jup M13 56 0 (M13 11 0 17).toNatClampNeg 101 := ⟨_, rfl⟩
      rw [← eM20] at G
      have h := h M20 eM20
      have nM20 : jnb M20 = jnb M13 := by rw [eM20]; exact jnb_up (by decide)
      refine lv_aload_n C.x C.b dX12_sum_175 rfl (lv_at hl 0 rfl) ?_
      refine lv_dup C.x C.b dX12_sum_176 rfl ?_
      refine jr_get C G jc11 17 (v := .int (M20 11 0 17)) (show 0 < 1 by decide) (by decide) (by decide) rfl wd1208 dX12_sum_177 ?_
      refine lv_iconst (v := 1) C.x C.b dX12_sum_180 (by decide) ?_
      refine lv_iadd C.x C.b dX12_sum_181 ?_
      refine jr_put C G jc11 17 (v := (M20 11 0 17) + 1) (show 0 < 1 by decide) (by decide) (by decide) rfl (by decide) wd1208 rfl rfl rfl rfl dX12_sum_182 (fun H locs G => ?_)
      obtain ⟨M21, eM21⟩ : ∃ z : jM, z = jup M20 11 0 17 ((M20 11 0 17) + 1) := ⟨_, rfl⟩
      rw [← eM21] at G
      have h := h M21 eM21
      have nM21 : jnb M21 = jnb M20 := by rw [eM21]; exact jnb_up (by decide)
      refine lv_aload_n C.x C.b dX12_sum_185 rfl (lv_at hl 0 rfl) ?_
      refine lv_dup C.x C.b dX12_sum_186 rfl ?_
      refine jr_get C G jc11 12 (v := .int (M21 11 0 12)) (show 0 < 1 by decide) (by decide) (by decide) rfl wd1203 dX12_sum_187 ?_
      refine lv_iconst (v := 1) C.x C.b dX12_sum_190 (by decide) ?_
      refine lv_iadd C.x C.b dX12_sum_191 ?_
      refine jr_put C G jc11 12 (v := (M21 11 0 12) + 1) (show 0 < 1 by decide) (by decide) (by decide) rfl (by decide) wd1203 rfl rfl rfl rfl dX12_sum_192 (fun H locs G => ?_)
      obtain ⟨M22, eM22⟩ : ∃ z : jM, z = jup M21 11 0 12 ((M21 11 0 12) + 1) := ⟨_, rfl⟩
      rw [← eM22] at G
      have h := h M22 eM22
      have nM22 : jnb M22 = jnb M21 := by rw [eM22]; exact jnb_up (by decide)
      refine lv_iconst (v := 1) C.x C.b dX12_sum_195 (by decide) ?_
      refine lv_istore_n (lv' := [(1, .int 1), (0, .ref (g 11 0)), (2, .int v2), (3, .int v3)]) C.x C.b dX12_sum_196 rfl hl (by decide) rfl (fun ls hl => ?_)
      refine lv_goto (tgt := 253) C.x C.b dX12_sum_197 (by decide) ?_
      refine lv_goto (tgt := 19) C.x C.b dX12_sum_253 (by decide) ?_
      exact h p l e s m args below meth c D cA base g C hr htb _ _ G ls (lv_sub hl [1, 0, 2] rfl)

theorem en_X12_value {v1 : Int32} {v2 : Int32} {v3 : Int32} {M : jM} {Q : Int32 → Nat → jM → Prop} (h : at_X12_value_0 v1 v2 v3 M Q) : ok_X12_value v1 v2 v3 M Q := jr_enter (by decide) (fun g => rfl) (fun g => Nat.le_of_ble_eq_true rfl) h
set_option maxHeartbeats 4000000 in
set_option maxRecDepth 100000 in
theorem bl_X12_value_0 (v1 : Int32) (v2 : Int32) (v3 : Int32) (M : jM) (Q : Int32 → Nat → jM → Prop) 
  (h : (∀ M1 : jM, M1 = jup M 11 0 7 0 → ((0 ≤ v1 ∧ v1 ≤ M1 11 0 0 - 1) → vp_in (585 * v1 + 3) 3510) ∧ (((0 ≤ v1 ∧ v1 ≤ M1 11 0 0 - 1) ∧ (0 ≤ v2 ∧ v2 ≤ M1 50 0 (585 * v1 + 3).toNatClampNeg - 1)) → (vp_in (585 * v1 + 0) 3510) ∧ (vp_in (585 * v1 + 1) 3510) ∧ ((M1 50 0 (585 * v1 + 0).toNatClampNeg ≤ v3 ∧ v3 ≤ M1 50 0 (585 * v1 + 1).toNatClampNeg) → ok_X12_begin  M1 (fun _ _ M10 => jnb M10 = jnb M1 ∧ ok_X12_valueOf v1 v2 v3 M10 (fun r11 _ M12 => jnb M12 = jnb M10 ∧ Q r11 0 M12))) ∧ (¬ (M1 50 0 (585 * v1 + 0).toNatClampNeg ≤ v3 ∧ v3 ≤ M1 50 0 (585 * v1 + 1).toNatClampNeg) → (∀ M14 : jM, M14 = jup M1 11 0 7 2 → Q 0 0 M14))) ∧ (¬ ((0 ≤ v1 ∧ v1 ≤ M1 11 0 0 - 1) ∧ (0 ≤ v2 ∧ v2 ≤ M1 50 0 (585 * v1 + 3).toNatClampNeg - 1)) → (∀ M16 : jM, M16 = jup M1 11 0 7 1 → Q 0 0 M16)))) :
  at_X12_value_0 v1 v2 v3 M Q := by
  intro p l e s m args below meth c D cA base g C hr htb H locs G ls hl
  refine lv_aload_n C.x C.b dX12_value_0 rfl (lv_at hl 0 rfl) ?_
  refine lv_iconst (v := 0) C.x C.b dX12_value_1 (by decide) ?_
  refine jr_put C G jc11 7 (v := 0) (show 0 < 1 by decide) (by decide) (by decide) rfl (by decide) wd1198 rfl rfl rfl rfl dX12_value_2 (fun H locs G => ?_)
  obtain ⟨M1, eM1⟩ : ∃ z : jM, z = jup M 11 0 7 0 := ⟨_, rfl⟩
  rw [← eM1] at G
  have h := h M1 eM1
  have nM1 : jnb M1 = jnb M := by rw [eM1]; exact jnb_up (by decide)
  refine lv_aload_n C.x C.b dX12_value_5 rfl (lv_at hl 0 rfl) ?_
  refine lv_iload_n C.x C.b dX12_value_6 rfl (lv_at hl 1 rfl) ?_
  refine lv_iload_n C.x C.b dX12_value_7 rfl (lv_at hl 2 rfl) ?_
  obtain ⟨hp4, h⟩ := h
  refine jr_V (d' := 4) C G jc11 jm_X12_isStatement wd1408 (sp_X12_isStatement hp4 ⟨rfl, rfl⟩ : ok_X12_isStatement v1 v2 M1 (fun r _ M' => jb ((0 ≤ v1 ∧ v1 ≤ M1 11 0 0 - 1) ∧ (0 ≤ v2 ∧ v2 ≤ M1 50 0 (585 * v1 + 3).toNatClampNeg - 1)) = r ∧ M1 = M')) rfl (show 0 < 1 by decide) (by decide) rfl rfl (by omega) (by decide) (by decide) ⟨rfl, rfl⟩ hl.1 (Nat.le_of_ble_eq_true rfl) dX12_value_8 (fun r2 r2n M3 H locs hq G => ?_)
  obtain ⟨eq1, eq2⟩ := hq
  subst eq1
  subst eq2
  refine lv_if_ne (tgt := 20) C.x C.b dX12_value_11 (by decide) (fun hc => ?_) (fun hc => ?_)
  · have h := h.1 (jb_1 hc)
    refine lv_aload_n C.x C.b dX12_value_20 rfl (lv_at hl 0 rfl) ?_
    refine lv_iload_n C.x C.b dX12_value_21 rfl (lv_at hl 1 rfl) ?_
    refine lv_iload_n C.x C.b dX12_value_22 rfl (lv_at hl 3 rfl) ?_
    obtain ⟨hp7, h⟩ := h
    obtain ⟨hp8, h⟩ := h
    refine jr_V (d' := 4) C G jc11 jm_X12_isIteration wd1425 (sp_X12_isIteration hp7 hp8 ⟨rfl, rfl⟩ : ok_X12_isIteration v1 v3 M1 (fun r _ M' => jb (M1 50 0 (585 * v1 + 0).toNatClampNeg ≤ v3 ∧ v3 ≤ M1 50 0 (585 * v1 + 1).toNatClampNeg) = r ∧ M1 = M')) rfl (show 0 < 1 by decide) (by decide) rfl rfl (by omega) (by decide) (by decide) ⟨rfl, rfl⟩ hl.1 (Nat.le_of_ble_eq_true rfl) dX12_value_23 (fun r5 r5n M6 H locs hq G => ?_)
    obtain ⟨eq1, eq2⟩ := hq
    subst eq1
    subst eq2
    refine lv_if_ne (tgt := 35) C.x C.b dX12_value_26 (by decide) (fun hc => ?_) (fun hc => ?_)
    · have h := h.1 (jb_1 hc)
      refine lv_aload_n C.x C.b dX12_value_35 rfl (lv_at hl 0 rfl) ?_
      refine jr_V (d' := 4) C G jc11 jm_X12_begin wd1429 h rfl (show 0 < 1 by decide) (by decide) rfl rfl (by omega) (by decide) (by decide) ⟨rfl, rfl⟩ hl.1 (Nat.le_of_ble_eq_true rfl) dX12_value_36 (fun r9 r9n M10 H locs h G => ?_)
      obtain ⟨nM10, h⟩ := h
      refine lv_aload_n C.x C.b dX12_value_39 rfl (lv_at hl 0 rfl) ?_
      refine lv_iload_n C.x C.b dX12_value_40 rfl (lv_at hl 1 rfl) ?_
      refine lv_iload_n C.x C.b dX12_value_41 rfl (lv_at hl 2 rfl) ?_
      refine lv_iload_n C.x C.b dX12_value_42 rfl (lv_at hl 3 rfl) ?_
      refine jr_V (d' := 4) C G jc11 jm_X12_valueOf wd1437 h rfl (show 0 < 1 by decide) (by decide) rfl rfl (by omega) (by decide) (by decide) ⟨rfl, rfl⟩ hl.1 (Nat.le_of_ble_eq_true rfl) dX12_value_43 (fun r11 r11n M12 H locs h G => ?_)
      obtain ⟨nM12, h⟩ := h
      exact jr_retI C hr G h (by decide) (by decide) dX12_value_46
    · have h := h.2 (jb_0 hc)
      refine lv_aload_n C.x C.b dX12_value_29 rfl (lv_at hl 0 rfl) ?_
      refine lv_iconst (v := 2) C.x C.b dX12_value_30 (by decide) ?_
      refine jr_V (d' := 4) C G jc11 jm_X12_refuse wd1296 (sp_X12_refuse ⟨rfl, rfl⟩ : ok_X12_refuse 2 M1 (fun r _ M' => 0 = r ∧ M' = jup M1 11 0 7 2)) rfl (show 0 < 1 by decide) (by decide) rfl rfl (by omega) (by decide) (by decide) ⟨rfl, rfl⟩ hl.1 (Nat.le_of_ble_eq_true rfl) dX12_value_31 (fun r13 r13n M14 H locs hq G => ?_)
      obtain ⟨eq1, eM14⟩ := hq
      subst eq1
      have h := h M14 eM14
      have nM14 : jnb M14 = jnb M1 := by rw [eM14]; first | exact jnb_up (by decide) | simp [jnb_up]
      exact jr_retI C hr G h (by decide) (by decide) dX12_value_34
  · have h := h.2 (jb_0 hc)
    refine lv_aload_n C.x C.b dX12_value_14 rfl (lv_at hl 0 rfl) ?_
    refine lv_iconst (v := 1) C.x C.b dX12_value_15 (by decide) ?_
    refine jr_V (d' := 4) C G jc11 jm_X12_refuse wd1296 (sp_X12_refuse ⟨rfl, rfl⟩ : ok_X12_refuse 1 M1 (fun r _ M' => 0 = r ∧ M' = jup M1 11 0 7 1)) rfl (show 0 < 1 by decide) (by decide) rfl rfl (by omega) (by decide) (by decide) ⟨rfl, rfl⟩ hl.1 (Nat.le_of_ble_eq_true rfl) dX12_value_16 (fun r15 r15n M16 H locs hq G => ?_)
    obtain ⟨eq1, eM16⟩ := hq
    subst eq1
    have h := h M16 eM16
    have nM16 : jnb M16 = jnb M1 := by rw [eM16]; first | exact jnb_up (by decide) | simp [jnb_up]
    exact jr_retI C hr G h (by decide) (by decide) dX12_value_19

theorem en_X12_dependenceCount {v1 : Int32} {v2 : Int32} {M : jM} {Q : Int32 → Nat → jM → Prop} (h : at_X12_dependenceCount_0 v1 v2 M Q) : ok_X12_dependenceCount v1 v2 M Q := jr_enter (by decide) (fun g => rfl) (fun g => Nat.le_of_ble_eq_true rfl) h
set_option maxHeartbeats 4000000 in
set_option maxRecDepth 100000 in
theorem bl_X12_dependenceCount_0 (v1 : Int32) (v2 : Int32) (M : jM) (Q : Int32 → Nat → jM → Prop) 
  (h : (∀ M3 : jM, M3 = jup M 11 0 7 (if ¬ (0 ≤ v1 ∧ v1 ≤ M 11 0 0 - 1) ∨ ¬ (0 ≤ v2 ∧ v2 ≤ M 11 0 0 - 1) then 1 else if v2 ≤ v1 then 2 else 0) → ((M3 11 0 7) ≤ 0 → ok_X12_dependences v1 v2 (-1) M3 (fun r4 _ M5 => jnb M5 = jnb M3 ∧ Q r4 0 M5)) ∧ (¬ ((M3 11 0 7) ≤ 0) → Q 0 0 M3))) :
  at_X12_dependenceCount_0 v1 v2 M Q := by
  intro p l e s m args below meth c D cA base g C hr htb H locs G ls hl
  refine lv_aload_n C.x C.b dX12_dependenceCount_0 rfl (lv_at hl 0 rfl) ?_
  refine lv_aload_n C.x C.b dX12_dependenceCount_1 rfl (lv_at hl 0 rfl) ?_
  refine lv_iload_n C.x C.b dX12_dependenceCount_2 rfl (lv_at hl 1 rfl) ?_
  refine lv_iload_n C.x C.b dX12_dependenceCount_3 rfl (lv_at hl 2 rfl) ?_
  refine jr_V (d' := 4) C G jc11 jm_X12_wrong wd1465 (sp_X12_wrong ⟨rfl, rfl⟩ : ok_X12_wrong v1 v2 M (fun r _ M' => (if ¬ (0 ≤ v1 ∧ v1 ≤ M 11 0 0 - 1) ∨ ¬ (0 ≤ v2 ∧ v2 ≤ M 11 0 0 - 1) then 1 else if v2 ≤ v1 then 2 else 0) = r ∧ M = M')) rfl (show 0 < 1 by decide) (by decide) rfl rfl (by omega) (by decide) (by decide) ⟨rfl, rfl⟩ hl.1 (Nat.le_of_ble_eq_true rfl) dX12_dependenceCount_4 (fun r1 r1n M2 H locs hq G => ?_)
  obtain ⟨eq1, eq2⟩ := hq
  subst eq1
  subst eq2
  refine jr_put C G jc11 7 (v := (if ¬ (0 ≤ v1 ∧ v1 ≤ M 11 0 0 - 1) ∨ ¬ (0 ≤ v2 ∧ v2 ≤ M 11 0 0 - 1) then 1 else if v2 ≤ v1 then 2 else 0)) (show 0 < 1 by decide) (by decide) (by decide) rfl (by decide) wd1198 rfl rfl rfl rfl dX12_dependenceCount_7 (fun H locs G => ?_)
  obtain ⟨M3, eM3⟩ : ∃ z : jM, z = jup M 11 0 7 (if ¬ (0 ≤ v1 ∧ v1 ≤ M 11 0 0 - 1) ∨ ¬ (0 ≤ v2 ∧ v2 ≤ M 11 0 0 - 1) then 1 else if v2 ≤ v1 then 2 else 0) := ⟨_, rfl⟩
  rw [← eM3] at G
  have h := h M3 eM3
  have nM3 : jnb M3 = jnb M := by rw [eM3]; exact jnb_up (by decide)
  refine lv_aload_n C.x C.b dX12_dependenceCount_10 rfl (lv_at hl 0 rfl) ?_
  refine jr_get C G jc11 7 (v := .int (M3 11 0 7)) (show 0 < 1 by decide) (by decide) (by decide) rfl wd1198 dX12_dependenceCount_11 ?_
  refine lv_if_le (tgt := 21) C.x C.b dX12_dependenceCount_14 (by decide) (fun hc => ?_) (fun hc => ?_)
  · have h := h.1 hc
    refine lv_aload_n C.x C.b dX12_dependenceCount_21 rfl (lv_at hl 0 rfl) ?_
    refine lv_iload_n C.x C.b dX12_dependenceCount_22 rfl (lv_at hl 1 rfl) ?_
    refine lv_iload_n C.x C.b dX12_dependenceCount_23 rfl (lv_at hl 2 rfl) ?_
    refine lv_iconst (v := (-1)) C.x C.b dX12_dependenceCount_24 (by decide) ?_
    refine jr_V (d' := 4) C G jc11 jm_X12_dependences wd1469 h rfl (show 0 < 1 by decide) (by decide) rfl rfl (by omega) (by decide) (by decide) ⟨rfl, rfl⟩ hl.1 (Nat.le_of_ble_eq_true rfl) dX12_dependenceCount_25 (fun r4 r4n M5 H locs h G => ?_)
    obtain ⟨nM5, h⟩ := h
    exact jr_retI C hr G h (by decide) (by decide) dX12_dependenceCount_28
  · have h := h.2 hc
    refine lv_iconst (v := 0) C.x C.b dX12_dependenceCount_17 (by decide) ?_
    refine lv_goto (tgt := 28) C.x C.b dX12_dependenceCount_18 (by decide) ?_
    exact jr_retI C hr G h (by decide) (by decide) dX12_dependenceCount_28

theorem en_X12_dependence {v1 : Int32} {v2 : Int32} {v3 : Int32} {v4 : Int32} {M : jM} {Q : Int32 → Nat → jM → Prop} (h : at_X12_dependence_0 v1 v2 v3 v4 M Q) : ok_X12_dependence v1 v2 v3 v4 M Q := jr_enter (by decide) (fun g => rfl) (fun g => Nat.le_of_ble_eq_true rfl) h
set_option maxHeartbeats 4000000 in
set_option maxRecDepth 100000 in
theorem bl_X12_dependence_0 (v1 : Int32) (v2 : Int32) (v3 : Int32) (v4 : Int32) (M : jM) (Q : Int32 → Nat → jM → Prop) 
  (h : ((0 ≤ v1 ∧ v1 ≤ M 11 0 0 - 1) → ((0 ≤ v2 ∧ v2 ≤ M 11 0 0 - 1) → ((0 ≤ v4 ∧ v4 ≤ 2) → (∀ M89 : jM, M89 = jup M 11 0 7 (if ¬ (0 ≤ v1 ∧ v1 ≤ M 11 0 0 - 1) ∨ ¬ (0 ≤ v2 ∧ v2 ≤ M 11 0 0 - 1) then 1 else if v2 ≤ v1 then 2 else 0) → ((M89 11 0 7) ≤ 0 → ok_X12_dependences v1 v2 v3 M89 (fun r90 _ M91 => jnb M91 = jnb M89 ∧ ((0 ≤ v3 ∧ v3 ≤ (r90 - 1)) → (vp_in (585 * v1 + (53 + (M91 11 0 22))) 3510) ∧ ((M91 50 0 (585 * v1 + (53 + (M91 11 0 22))).toNatClampNeg = 1) → (vp_in (585 * v2 + (53 + (M91 11 0 23))) 3510) ∧ ((M91 50 0 (585 * v2 + (53 + (M91 11 0 23))).toNatClampNeg = 1) → (v4 = 0 → (vp_in (585 * v1 + (5 + (M91 11 0 22))) 3510) ∧ Q (M91 50 0 (585 * v1 + (5 + (M91 11 0 22))).toNatClampNeg) 0 M91) ∧ (¬ (v4 = 0) → (v4 = 1 → Q 2 0 M91) ∧ (¬ (v4 = 1) → (vp_in (585 * v2 + (29 + (M91 11 0 23))) 3510) ∧ (vp_in (585 * v1 + (29 + (M91 11 0 22))) 3510) ∧ Q ((M91 50 0 (585 * v2 + (29 + (M91 11 0 23))).toNatClampNeg) - (M91 50 0 (585 * v1 + (29 + (M91 11 0 22))).toNatClampNeg)) 0 M91))) ∧ (¬ (M91 50 0 (585 * v2 + (53 + (M91 11 0 23))).toNatClampNeg = 1) → (v4 = 0 → (vp_in (585 * v1 + (5 + (M91 11 0 22))) 3510) ∧ Q (M91 50 0 (585 * v1 + (5 + (M91 11 0 22))).toNatClampNeg) 0 M91) ∧ (¬ (v4 = 0) → (v4 = 1 → Q 0 0 M91) ∧ (¬ (v4 = 1) → (vp_in (585 * v2 + (29 + (M91 11 0 23))) 3510) ∧ (vp_in (585 * v1 + (29 + (M91 11 0 22))) 3510) ∧ Q ((M91 50 0 (585 * v2 + (29 + (M91 11 0 23))).toNatClampNeg) - (M91 50 0 (585 * v1 + (29 + (M91 11 0 22))).toNatClampNeg)) 0 M91)))) ∧ (¬ (M91 50 0 (585 * v1 + (53 + (M91 11 0 22))).toNatClampNeg = 1) → (v4 = 0 → (vp_in (585 * v1 + (5 + (M91 11 0 22))) 3510) ∧ Q (M91 50 0 (585 * v1 + (5 + (M91 11 0 22))).toNatClampNeg) 0 M91) ∧ (¬ (v4 = 0) → (v4 = 1 → Q 1 0 M91) ∧ (¬ (v4 = 1) → (vp_in (585 * v2 + (29 + (M91 11 0 23))) 3510) ∧ (vp_in (585 * v1 + (29 + (M91 11 0 22))) 3510) ∧ Q ((M91 50 0 (585 * v2 + (29 + (M91 11 0 23))).toNatClampNeg) - (M91 50 0 (585 * v1 + (29 + (M91 11 0 22))).toNatClampNeg)) 0 M91)))) ∧ (¬ (0 ≤ v3 ∧ v3 ≤ (r90 - 1)) → (∀ M128 : jM, M128 = jup M91 11 0 7 3 → Q 0 0 M128)))) ∧ (¬ ((M89 11 0 7) ≤ 0) → Q 0 0 M89))) ∧ (¬ (0 ≤ v4 ∧ v4 ≤ 2) → (∀ M129 : jM, M129 = jup M 11 0 7 1 → ((M129 11 0 7) ≤ 0 → ok_X12_dependences v1 v2 v3 M129 (fun r130 _ M131 => jnb M131 = jnb M129 ∧ ((0 ≤ v3 ∧ v3 ≤ (r130 - 1)) → (vp_in (585 * v1 + (53 + (M131 11 0 22))) 3510) ∧ ((M131 50 0 (585 * v1 + (53 + (M131 11 0 22))).toNatClampNeg = 1) → (vp_in (585 * v2 + (53 + (M131 11 0 23))) 3510) ∧ ((M131 50 0 (585 * v2 + (53 + (M131 11 0 23))).toNatClampNeg = 1) → (v4 = 0 → (vp_in (585 * v1 + (5 + (M131 11 0 22))) 3510) ∧ Q (M131 50 0 (585 * v1 + (5 + (M131 11 0 22))).toNatClampNeg) 0 M131) ∧ (¬ (v4 = 0) → (v4 = 1 → Q 2 0 M131) ∧ (¬ (v4 = 1) → (vp_in (585 * v2 + (29 + (M131 11 0 23))) 3510) ∧ (vp_in (585 * v1 + (29 + (M131 11 0 22))) 3510) ∧ Q ((M131 50 0 (585 * v2 + (29 + (M131 11 0 23))).toNatClampNeg) - (M131 50 0 (585 * v1 + (29 + (M131 11 0 22))).toNatClampNeg)) 0 M131))) ∧ (¬ (M131 50 0 (585 * v2 + (53 + (M131 11 0 23))).toNatClampNeg = 1) → (v4 = 0 → (vp_in (585 * v1 + (5 + (M131 11 0 22))) 3510) ∧ Q (M131 50 0 (585 * v1 + (5 + (M131 11 0 22))).toNatClampNeg) 0 M131) ∧ (¬ (v4 = 0) → (v4 = 1 → Q 0 0 M131) ∧ (¬ (v4 = 1) → (vp_in (585 * v2 + (29 + (M131 11 0 23))) 3510) ∧ (vp_in (585 * v1 + (29 + (M131 11 0 22))) 3510) ∧ Q ((M131 50 0 (585 * v2 + (29 + (M131 11 0 23))).toNatClampNeg) - (M131 50 0 (585 * v1 + (29 + (M131 11 0 22))).toNatClampNeg)) 0 M131)))) ∧ (¬ (M131 50 0 (585 * v1 + (53 + (M131 11 0 22))).toNatClampNeg = 1) → (v4 = 0 → (vp_in (585 * v1 + (5 + (M131 11 0 22))) 3510) ∧ Q (M131 50 0 (585 * v1 + (5 + (M131 11 0 22))).toNatClampNeg) 0 M131) ∧ (¬ (v4 = 0) → (v4 = 1 → Q 1 0 M131) ∧ (¬ (v4 = 1) → (vp_in (585 * v2 + (29 + (M131 11 0 23))) 3510) ∧ (vp_in (585 * v1 + (29 + (M131 11 0 22))) 3510) ∧ Q ((M131 50 0 (585 * v2 + (29 + (M131 11 0 23))).toNatClampNeg) - (M131 50 0 (585 * v1 + (29 + (M131 11 0 22))).toNatClampNeg)) 0 M131)))) ∧ (¬ (0 ≤ v3 ∧ v3 ≤ (r130 - 1)) → (∀ M168 : jM, M168 = jup M131 11 0 7 3 → Q 0 0 M168)))) ∧ (¬ ((M129 11 0 7) ≤ 0) → Q 0 0 M129)))) ∧ (¬ (0 ≤ v2 ∧ v2 ≤ M 11 0 0 - 1) → (∀ M45 : jM, M45 = jup M 11 0 7 1 → ((M45 11 0 7) ≤ 0 → ok_X12_dependences v1 v2 v3 M45 (fun r46 _ M47 => jnb M47 = jnb M45 ∧ ((0 ≤ v3 ∧ v3 ≤ (r46 - 1)) → (vp_in (585 * v1 + (53 + (M47 11 0 22))) 3510) ∧ ((M47 50 0 (585 * v1 + (53 + (M47 11 0 22))).toNatClampNeg = 1) → (vp_in (585 * v2 + (53 + (M47 11 0 23))) 3510) ∧ ((M47 50 0 (585 * v2 + (53 + (M47 11 0 23))).toNatClampNeg = 1) → (v4 = 0 → (vp_in (585 * v1 + (5 + (M47 11 0 22))) 3510) ∧ Q (M47 50 0 (585 * v1 + (5 + (M47 11 0 22))).toNatClampNeg) 0 M47) ∧ (¬ (v4 = 0) → (v4 = 1 → Q 2 0 M47) ∧ (¬ (v4 = 1) → (vp_in (585 * v2 + (29 + (M47 11 0 23))) 3510) ∧ (vp_in (585 * v1 + (29 + (M47 11 0 22))) 3510) ∧ Q ((M47 50 0 (585 * v2 + (29 + (M47 11 0 23))).toNatClampNeg) - (M47 50 0 (585 * v1 + (29 + (M47 11 0 22))).toNatClampNeg)) 0 M47))) ∧ (¬ (M47 50 0 (585 * v2 + (53 + (M47 11 0 23))).toNatClampNeg = 1) → (v4 = 0 → (vp_in (585 * v1 + (5 + (M47 11 0 22))) 3510) ∧ Q (M47 50 0 (585 * v1 + (5 + (M47 11 0 22))).toNatClampNeg) 0 M47) ∧ (¬ (v4 = 0) → (v4 = 1 → Q 0 0 M47) ∧ (¬ (v4 = 1) → (vp_in (585 * v2 + (29 + (M47 11 0 23))) 3510) ∧ (vp_in (585 * v1 + (29 + (M47 11 0 22))) 3510) ∧ Q ((M47 50 0 (585 * v2 + (29 + (M47 11 0 23))).toNatClampNeg) - (M47 50 0 (585 * v1 + (29 + (M47 11 0 22))).toNatClampNeg)) 0 M47)))) ∧ (¬ (M47 50 0 (585 * v1 + (53 + (M47 11 0 22))).toNatClampNeg = 1) → (v4 = 0 → (vp_in (585 * v1 + (5 + (M47 11 0 22))) 3510) ∧ Q (M47 50 0 (585 * v1 + (5 + (M47 11 0 22))).toNatClampNeg) 0 M47) ∧ (¬ (v4 = 0) → (v4 = 1 → Q 1 0 M47) ∧ (¬ (v4 = 1) → (vp_in (585 * v2 + (29 + (M47 11 0 23))) 3510) ∧ (vp_in (585 * v1 + (29 + (M47 11 0 22))) 3510) ∧ Q ((M47 50 0 (585 * v2 + (29 + (M47 11 0 23))).toNatClampNeg) - (M47 50 0 (585 * v1 + (29 + (M47 11 0 22))).toNatClampNeg)) 0 M47)))) ∧ (¬ (0 ≤ v3 ∧ v3 ≤ (r46 - 1)) → (∀ M84 : jM, M84 = jup M47 11 0 7 3 → Q 0 0 M84)))) ∧ (¬ ((M45 11 0 7) ≤ 0) → Q 0 0 M45)))) ∧ (¬ (0 ≤ v1 ∧ v1 ≤ M 11 0 0 - 1) → (∀ M3 : jM, M3 = jup M 11 0 7 1 → ((M3 11 0 7) ≤ 0 → ok_X12_dependences v1 v2 v3 M3 (fun r4 _ M5 => jnb M5 = jnb M3 ∧ ((0 ≤ v3 ∧ v3 ≤ (r4 - 1)) → (vp_in (585 * v1 + (53 + (M5 11 0 22))) 3510) ∧ ((M5 50 0 (585 * v1 + (53 + (M5 11 0 22))).toNatClampNeg = 1) → (vp_in (585 * v2 + (53 + (M5 11 0 23))) 3510) ∧ ((M5 50 0 (585 * v2 + (53 + (M5 11 0 23))).toNatClampNeg = 1) → (v4 = 0 → (vp_in (585 * v1 + (5 + (M5 11 0 22))) 3510) ∧ Q (M5 50 0 (585 * v1 + (5 + (M5 11 0 22))).toNatClampNeg) 0 M5) ∧ (¬ (v4 = 0) → (v4 = 1 → Q 2 0 M5) ∧ (¬ (v4 = 1) → (vp_in (585 * v2 + (29 + (M5 11 0 23))) 3510) ∧ (vp_in (585 * v1 + (29 + (M5 11 0 22))) 3510) ∧ Q ((M5 50 0 (585 * v2 + (29 + (M5 11 0 23))).toNatClampNeg) - (M5 50 0 (585 * v1 + (29 + (M5 11 0 22))).toNatClampNeg)) 0 M5))) ∧ (¬ (M5 50 0 (585 * v2 + (53 + (M5 11 0 23))).toNatClampNeg = 1) → (v4 = 0 → (vp_in (585 * v1 + (5 + (M5 11 0 22))) 3510) ∧ Q (M5 50 0 (585 * v1 + (5 + (M5 11 0 22))).toNatClampNeg) 0 M5) ∧ (¬ (v4 = 0) → (v4 = 1 → Q 0 0 M5) ∧ (¬ (v4 = 1) → (vp_in (585 * v2 + (29 + (M5 11 0 23))) 3510) ∧ (vp_in (585 * v1 + (29 + (M5 11 0 22))) 3510) ∧ Q ((M5 50 0 (585 * v2 + (29 + (M5 11 0 23))).toNatClampNeg) - (M5 50 0 (585 * v1 + (29 + (M5 11 0 22))).toNatClampNeg)) 0 M5)))) ∧ (¬ (M5 50 0 (585 * v1 + (53 + (M5 11 0 22))).toNatClampNeg = 1) → (v4 = 0 → (vp_in (585 * v1 + (5 + (M5 11 0 22))) 3510) ∧ Q (M5 50 0 (585 * v1 + (5 + (M5 11 0 22))).toNatClampNeg) 0 M5) ∧ (¬ (v4 = 0) → (v4 = 1 → Q 1 0 M5) ∧ (¬ (v4 = 1) → (vp_in (585 * v2 + (29 + (M5 11 0 23))) 3510) ∧ (vp_in (585 * v1 + (29 + (M5 11 0 22))) 3510) ∧ Q ((M5 50 0 (585 * v2 + (29 + (M5 11 0 23))).toNatClampNeg) - (M5 50 0 (585 * v1 + (29 + (M5 11 0 22))).toNatClampNeg)) 0 M5)))) ∧ (¬ (0 ≤ v3 ∧ v3 ≤ (r4 - 1)) → (∀ M42 : jM, M42 = jup M5 11 0 7 3 → Q 0 0 M42)))) ∧ (¬ ((M3 11 0 7) ≤ 0) → Q 0 0 M3)))) :
  at_X12_dependence_0 v1 v2 v3 v4 M Q := by
  intro p l e s m args below meth c D cA base g C hr htb H locs G ls hl
  refine lv_aload_n C.x C.b dX12_dependence_0 rfl (lv_at hl 0 rfl) ?_
  refine lv_aload_n C.x C.b dX12_dependence_1 rfl (lv_at hl 0 rfl) ?_
  refine lv_iload_n C.x C.b dX12_dependence_2 rfl (lv_at hl 1 rfl) ?_
  refine jr_V (d' := 4) C G jc11 jm_X12_isLoop wd1372 (sp_X12_isLoop ⟨rfl, rfl⟩ : ok_X12_isLoop v1 M (fun r _ M' => jb (0 ≤ v1 ∧ v1 ≤ M 11 0 0 - 1) = r ∧ M = M')) rfl (show 0 < 1 by decide) (by decide) rfl rfl (by omega) (by decide) (by decide) ⟨rfl, rfl⟩ hl.1 (Nat.le_of_ble_eq_true rfl) dX12_dependence_3 (fun r1 r1n M2 H locs hq G => ?_)
  obtain ⟨eq1, eq2⟩ := hq
  subst eq1
  subst eq2
  refine lv_if_eq (tgt := 27) C.x C.b dX12_dependence_6 (by decide) (fun hc => ?_) (fun hc => ?_)
  · have h := h.2 (jb_0 hc)
    refine lv_iconst (v := 1) C.x C.b dX12_dependence_27 (by decide) ?_
    refine lv_goto (tgt := 37) C.x C.b dX12_dependence_28 (by decide) ?_
    refine jr_put C G jc11 7 (v := 1) (show 0 < 1 by decide) (by decide) (by decide) rfl (by decide) wd1198 rfl rfl rfl rfl dX12_dependence_37 (fun H locs G => ?_)
    obtain ⟨M3, eM3⟩ : ∃ z : jM, z = jup M 11 0 7 1 := ⟨_, rfl⟩
    rw [← eM3] at G
    have h := h M3 eM3
    have nM3 : jnb M3 = jnb M := by rw [eM3]; exact jnb_up (by decide)
    refine lv_aload_n C.x C.b dX12_dependence_40 rfl (lv_at hl 0 rfl) ?_
    refine jr_get C G jc11 7 (v := .int (M3 11 0 7)) (show 0 < 1 by decide) (by decide) (by decide) rfl wd1198 dX12_dependence_41 ?_
    refine lv_if_le (tgt := 49) C.x C.b dX12_dependence_44 (by decide) (fun hc => ?_) (fun hc => ?_)
    · have h := h.1 hc
      refine lv_iload_n C.x C.b dX12_dependence_49 rfl (lv_at hl 3 rfl) ?_
      refine lv_iconst (v := 0) C.x C.b dX12_dependence_50 (by decide) ?_
      refine lv_aload_n C.x C.b dX12_dependence_51 rfl (lv_at hl 0 rfl) ?_
      refine lv_iload_n C.x C.b dX12_dependence_52 rfl (lv_at hl 1 rfl) ?_
      refine lv_iload_n C.x C.b dX12_dependence_53 rfl (lv_at hl 2 rfl) ?_
      refine lv_iload_n C.x C.b dX12_dependence_54 rfl (lv_at hl 3 rfl) ?_
      refine jr_V (d' := 4) C G jc11 jm_X12_dependences wd1469 h rfl (show 0 < 1 by decide) (by decide) rfl rfl (by omega) (by decide) (by decide) ⟨rfl, rfl⟩ hl.1 (Nat.le_of_ble_eq_true rfl) dX12_dependence_55 (fun r4 r4n M5 H locs h G => ?_)
      obtain ⟨nM5, h⟩ := h
      refine lv_iconst (v := 1) C.x C.b dX12_dependence_58 (by decide) ?_
      refine lv_isub C.x C.b dX12_dependence_59 ?_
      refine jr_S (d' := 4) C G jm_X12_in wd1293 (sp_X12_in ⟨rfl, rfl⟩ : ok_X12_in v3 0 (r4 - 1) M5 (fun r _ M' => jb (0 ≤ v3 ∧ v3 ≤ (r4 - 1)) = r ∧ M5 = M')) rfl rfl rfl (by omega) (by decide) (by decide) ⟨rfl, rfl⟩ hl.1 (Nat.le_of_ble_eq_true rfl) dX12_dependence_60 (fun r6 r6n M7 H locs hq G => ?_)
      obtain ⟨eq1, eq2⟩ := hq
      subst eq1
      subst eq2
      refine lv_if_ne (tgt := 72) C.x C.b dX12_dependence_63 (by decide) (fun hc => ?_) (fun hc => ?_)
      · have h := h.1 (jb_1 hc)
        refine lv_aload_n C.x C.b dX12_dependence_72 rfl (lv_at hl 0 rfl) ?_
        refine lv_iload_n C.x C.b dX12_dependence_73 rfl (lv_at hl 1 rfl) ?_
        refine lv_aload_n C.x C.b dX12_dependence_74 rfl (lv_at hl 0 rfl) ?_
        refine jr_get C G jc11 22 (v := .int (M5 11 0 22)) (show 0 < 1 by decide) (by decide) (by decide) rfl wd1213 dX12_dependence_75 ?_
        obtain ⟨hp10, h⟩ := h
        refine jr_V (d' := 4) C G jc11 jm_X12_isWrite wd1477 (sp_X12_isWrite hp10 ⟨rfl, rfl⟩ : ok_X12_isWrite v1 (M5 11 0 22) M5 (fun r _ M' => jb (M5 50 0 (585 * v1 + (53 + (M5 11 0 22))).toNatClampNeg = 1) = r ∧ M5 = M')) rfl (show 0 < 1 by decide) (by decide) rfl rfl (by omega) (by decide) (by decide) ⟨rfl, rfl⟩ hl.1 (Nat.le_of_ble_eq_true rfl) dX12_dependence_78 (fun r8 r8n M9 H locs hq G => ?_)
        obtain ⟨eq1, eq2⟩ := hq
        subst eq1
        subst eq2
        refine lv_if_ne (tgt := 88) C.x C.b dX12_dependence_81 (by decide) (fun hc => ?_) (fun hc => ?_)
        · have h := h.1 (jb_1 hc)
          refine lv_aload_n C.x C.b dX12_dependence_88 rfl (lv_at hl 0 rfl) ?_
          refine lv_iload_n C.x C.b dX12_dependence_89 rfl (lv_at hl 2 rfl) ?_
          refine lv_aload_n C.x C.b dX12_dependence_90 rfl (lv_at hl 0 rfl) ?_
          refine jr_get C G jc11 23 (v := .int (M5 11 0 23)) (show 0 < 1 by decide) (by decide) (by decide) rfl wd1214 dX12_dependence_91 ?_
          obtain ⟨hp13, h⟩ := h
          refine jr_V (d' := 4) C G jc11 jm_X12_isWrite wd1477 (sp_X12_isWrite hp13 ⟨rfl, rfl⟩ : ok_X12_isWrite v2 (M5 11 0 23) M5 (fun r _ M' => jb (M5 50 0 (585 * v2 + (53 + (M5 11 0 23))).toNatClampNeg = 1) = r ∧ M5 = M')) rfl (show 0 < 1 by decide) (by decide) rfl rfl (by omega) (by decide) (by decide) ⟨rfl, rfl⟩ hl.1 (Nat.le_of_ble_eq_true rfl) dX12_dependence_94 (fun r11 r11n M12 H locs hq G => ?_)
          obtain ⟨eq1, eq2⟩ := hq
          subst eq1
          subst eq2
          refine lv_if_eq (tgt := 104) C.x C.b dX12_dependence_97 (by decide) (fun hc => ?_) (fun hc => ?_)
          · have h := h.2 (jb_0 hc)
            refine lv_iconst (v := 0) C.x C.b dX12_dependence_104 (by decide) ?_
            refine lv_istore (lv' := [(5, .int 0), (0, .ref (g 11 0)), (1, .int v1), (2, .int v2), (3, .int v3), (4, .int v4)]) C.x C.b dX12_dependence_105 hl (by decide) rfl (fun ls hl => ?_)
            refine lv_iload C.x C.b dX12_dependence_107 (lv_at hl 5 rfl) ?_
            refine lv_if_ne (tgt := 124) C.x C.b dX12_dependence_109 (by decide) (fun hc => ?_) (fun hc => ?_)
            · have h := h.2 hc
              refine lv_iload C.x C.b dX12_dependence_124 (lv_at hl 5 rfl) ?_
              refine lv_iconst (v := 1) C.x C.b dX12_dependence_126 (by decide) ?_
              refine lv_icmp_ne (tgt := 135) C.x C.b dX12_dependence_127 (by decide) (fun hc => ?_) (fun hc => ?_)
              · have h := h.2 hc
                refine lv_aload_n C.x C.b dX12_dependence_135 rfl (lv_at hl 1 rfl) ?_
                refine lv_iload_n C.x C.b dX12_dependence_136 rfl (lv_at hl 3 rfl) ?_
                refine lv_aload_n C.x C.b dX12_dependence_137 rfl (lv_at hl 1 rfl) ?_
                refine jr_get C G jc11 23 (v := .int (M5 11 0 23)) (show 0 < 1 by decide) (by decide) (by decide) rfl wd1214 dX12_dependence_138 ?_
                obtain ⟨hp16, h⟩ := h
                refine jr_V (d' := 4) C G jc11 jm_X12_offsetOf wd1449 (sp_X12_offsetOf hp16 ⟨rfl, rfl⟩ : ok_X12_offsetOf v2 (M5 11 0 23) M5 (fun r _ M' => (M5 50 0 (585 * v2 + (29 + (M5 11 0 23))).toNatClampNeg) = r ∧ M5 = M')) rfl (show 0 < 1 by decide) (by decide) rfl rfl (by omega) (by decide) (by decide) ⟨rfl, rfl⟩ hl.1 (Nat.le_of_ble_eq_true rfl) dX12_dependence_141 (fun r14 r14n M15 H locs hq G => ?_)
                obtain ⟨eq1, eq2⟩ := hq
                subst eq1
                subst eq2
                refine lv_aload_n C.x C.b dX12_dependence_144 rfl (lv_at hl 1 rfl) ?_
                refine lv_iload_n C.x C.b dX12_dependence_145 rfl (lv_at hl 2 rfl) ?_
                refine lv_aload_n C.x C.b dX12_dependence_146 rfl (lv_at hl 1 rfl) ?_
                refine jr_get C G jc11 22 (v := .int (M5 11 0 22)) (show 0 < 1 by decide) (by decide) (by decide) rfl wd1213 dX12_dependence_147 ?_
                obtain ⟨hp19, h⟩ := h
                refine jr_V (d' := 4) C G jc11 jm_X12_offsetOf wd1449 (sp_X12_offsetOf hp19 ⟨rfl, rfl⟩ : ok_X12_offsetOf v1 (M5 11 0 22) M5 (fun r _ M' => (M5 50 0 (585 * v1 + (29 + (M5 11 0 22))).toNatClampNeg) = r ∧ M5 = M')) rfl (show 0 < 1 by decide) (by decide) rfl rfl (by omega) (by decide) (by decide) ⟨rfl, rfl⟩ hl.1 (Nat.le_of_ble_eq_true rfl) dX12_dependence_150 (fun r17 r17n M18 H locs hq G => ?_)
                obtain ⟨eq1, eq2⟩ := hq
                subst eq1
                subst eq2
                refine lv_isub C.x C.b dX12_dependence_153 ?_
                exact jr_retI C hr G h (by decide) (by decide) dX12_dependence_154
              · have h := h.1 hc
                refine lv_iload C.x C.b dX12_dependence_130 (lv_at hl 0 rfl) ?_
                refine lv_goto (tgt := 154) C.x C.b dX12_dependence_132 (by decide) ?_
                exact jr_retI C hr G h (by decide) (by decide) dX12_dependence_154
            · have h := h.1 hc
              refine lv_aload_n C.x C.b dX12_dependence_112 rfl (lv_at hl 1 rfl) ?_
              refine lv_iload_n C.x C.b dX12_dependence_113 rfl (lv_at hl 2 rfl) ?_
              refine lv_aload_n C.x C.b dX12_dependence_114 rfl (lv_at hl 1 rfl) ?_
              refine jr_get C G jc11 22 (v := .int (M5 11 0 22)) (show 0 < 1 by decide) (by decide) (by decide) rfl wd1213 dX12_dependence_115 ?_
              obtain ⟨hp22, h⟩ := h
              refine jr_V (d' := 4) C G jc11 jm_X12_arrayOf wd1445 (sp_X12_arrayOf hp22 ⟨rfl, rfl⟩ : ok_X12_arrayOf v1 (M5 11 0 22) M5 (fun r _ M' => (M5 50 0 (585 * v1 + (5 + (M5 11 0 22))).toNatClampNeg) = r ∧ M5 = M')) rfl (show 0 < 1 by decide) (by decide) rfl rfl (by omega) (by decide) (by decide) ⟨rfl, rfl⟩ hl.1 (Nat.le_of_ble_eq_true rfl) dX12_dependence_118 (fun r20 r20n M21 H locs hq G => ?_)
              obtain ⟨eq1, eq2⟩ := hq
              subst eq1
              subst eq2
              refine lv_goto (tgt := 154) C.x C.b dX12_dependence_121 (by decide) ?_
              exact jr_retI C hr G h (by decide) (by decide) dX12_dependence_154
          · have h := h.1 (jb_1 hc)
            refine lv_iconst (v := 2) C.x C.b dX12_dependence_100 (by decide) ?_
            refine lv_goto (tgt := 105) C.x C.b dX12_dependence_101 (by decide) ?_
            refine lv_istore (lv' := [(5, .int 2), (0, .ref (g 11 0)), (1, .int v1), (2, .int v2), (3, .int v3), (4, .int v4)]) C.x C.b dX12_dependence_105 hl (by decide) rfl (fun ls hl => ?_)
            refine lv_iload C.x C.b dX12_dependence_107 (lv_at hl 5 rfl) ?_
            refine lv_if_ne (tgt := 124) C.x C.b dX12_dependence_109 (by decide) (fun hc => ?_) (fun hc => ?_)
            · have h := h.2 hc
              refine lv_iload C.x C.b dX12_dependence_124 (lv_at hl 5 rfl) ?_
              refine lv_iconst (v := 1) C.x C.b dX12_dependence_126 (by decide) ?_
              refine lv_icmp_ne (tgt := 135) C.x C.b dX12_dependence_127 (by decide) (fun hc => ?_) (fun hc => ?_)
              · have h := h.2 hc
                refine lv_aload_n C.x C.b dX12_dependence_135 rfl (lv_at hl 1 rfl) ?_
                refine lv_iload_n C.x C.b dX12_dependence_136 rfl (lv_at hl 3 rfl) ?_
                refine lv_aload_n C.x C.b dX12_dependence_137 rfl (lv_at hl 1 rfl) ?_
                refine jr_get C G jc11 23 (v := .int (M5 11 0 23)) (show 0 < 1 by decide) (by decide) (by decide) rfl wd1214 dX12_dependence_138 ?_
                obtain ⟨hp25, h⟩ := h
                refine jr_V (d' := 4) C G jc11 jm_X12_offsetOf wd1449 (sp_X12_offsetOf hp25 ⟨rfl, rfl⟩ : ok_X12_offsetOf v2 (M5 11 0 23) M5 (fun r _ M' => (M5 50 0 (585 * v2 + (29 + (M5 11 0 23))).toNatClampNeg) = r ∧ M5 = M')) rfl (show 0 < 1 by decide) (by decide) rfl rfl (by omega) (by decide) (by decide) ⟨rfl, rfl⟩ hl.1 (Nat.le_of_ble_eq_true rfl) dX12_dependence_141 (fun r23 r23n M24 H locs hq G => ?_)
                obtain ⟨eq1, eq2⟩ := hq
                subst eq1
                subst eq2
                refine lv_aload_n C.x C.b dX12_dependence_144 rfl (lv_at hl 1 rfl) ?_
                refine lv_iload_n C.x C.b dX12_dependence_145 rfl (lv_at hl 2 rfl) ?_
                refine lv_aload_n C.x C.b dX12_dependence_146 rfl (lv_at hl 1 rfl) ?_
                refine jr_get C G jc11 22 (v := .int (M5 11 0 22)) (show 0 < 1 by decide) (by decide) (by decide) rfl wd1213 dX12_dependence_147 ?_
                obtain ⟨hp28, h⟩ := h
                refine jr_V (d' := 4) C G jc11 jm_X12_offsetOf wd1449 (sp_X12_offsetOf hp28 ⟨rfl, rfl⟩ : ok_X12_offsetOf v1 (M5 11 0 22) M5 (fun r _ M' => (M5 50 0 (585 * v1 + (29 + (M5 11 0 22))).toNatClampNeg) = r ∧ M5 = M')) rfl (show 0 < 1 by decide) (by decide) rfl rfl (by omega) (by decide) (by decide) ⟨rfl, rfl⟩ hl.1 (Nat.le_of_ble_eq_true rfl) dX12_dependence_150 (fun r26 r26n M27 H locs hq G => ?_)
                obtain ⟨eq1, eq2⟩ := hq
                subst eq1
                subst eq2
                refine lv_isub C.x C.b dX12_dependence_153 ?_
                exact jr_retI C hr G h (by decide) (by decide) dX12_dependence_154
              · have h := h.1 hc
                refine lv_iload C.x C.b dX12_dependence_130 (lv_at hl 0 rfl) ?_
                refine lv_goto (tgt := 154) C.x C.b dX12_dependence_132 (by decide) ?_
                exact jr_retI C hr G h (by decide) (by decide) dX12_dependence_154
            · have h := h.1 hc
              refine lv_aload_n C.x C.b dX12_dependence_112 rfl (lv_at hl 1 rfl) ?_
              refine lv_iload_n C.x C.b dX12_dependence_113 rfl (lv_at hl 2 rfl) ?_
              refine lv_aload_n C.x C.b dX12_dependence_114 rfl (lv_at hl 1 rfl) ?_
              refine jr_get C G jc11 22 (v := .int (M5 11 0 22)) (show 0 < 1 by decide) (by decide) (by decide) rfl wd1213 dX12_dependence_115 ?_
              obtain ⟨hp31, h⟩ := h
              refine jr_V (d' := 4) C G jc11 jm_X12_arrayOf wd1445 (sp_X12_arrayOf hp31 ⟨rfl, rfl⟩ : ok_X12_arrayOf v1 (M5 11 0 22) M5 (fun r _ M' => (M5 50 0 (585 * v1 + (5 + (M5 11 0 22))).toNatClampNeg) = r ∧ M5 = M')) rfl (show 0 < 1 by decide) (by decide) rfl rfl (by omega) (by decide) (by decide) ⟨rfl, rfl⟩ hl.1 (Nat.le_of_ble_eq_true rfl) dX12_dependence_118 (fun r29 r29n M30 H locs hq G => ?_)
              obtain ⟨eq1, eq2⟩ := hq
              subst eq1
              subst eq2
              refine lv_goto (tgt := 154) C.x C.b dX12_dependence_121 (by decide) ?_
              exact jr_retI C hr G h (by decide) (by decide) dX12_dependence_154
        · have h := h.2 (jb_0 hc)
          refine lv_iconst (v := 1) C.x C.b dX12_dependence_84 (by decide) ?_
          refine lv_goto (tgt := 105) C.x C.b dX12_dependence_85 (by decide) ?_
          refine lv_istore (lv' := [(5, .int 1), (0, .ref (g 11 0)), (1, .int v1), (2, .int v2), (3, .int v3), (4, .int v4)]) C.x C.b dX12_dependence_105 hl (by decide) rfl (fun ls hl => ?_)
          refine lv_iload C.x C.b dX12_dependence_107 (lv_at hl 5 rfl) ?_
          refine lv_if_ne (tgt := 124) C.x C.b dX12_dependence_109 (by decide) (fun hc => ?_) (fun hc => ?_)
          · have h := h.2 hc
            refine lv_iload C.x C.b dX12_dependence_124 (lv_at hl 5 rfl) ?_
            refine lv_iconst (v := 1) C.x C.b dX12_dependence_126 (by decide) ?_
            refine lv_icmp_ne (tgt := 135) C.x C.b dX12_dependence_127 (by decide) (fun hc => ?_) (fun hc => ?_)
            · have h := h.2 hc
              refine lv_aload_n C.x C.b dX12_dependence_135 rfl (lv_at hl 1 rfl) ?_
              refine lv_iload_n C.x C.b dX12_dependence_136 rfl (lv_at hl 3 rfl) ?_
              refine lv_aload_n C.x C.b dX12_dependence_137 rfl (lv_at hl 1 rfl) ?_
              refine jr_get C G jc11 23 (v := .int (M5 11 0 23)) (show 0 < 1 by decide) (by decide) (by decide) rfl wd1214 dX12_dependence_138 ?_
              obtain ⟨hp34, h⟩ := h
              refine jr_V (d' := 4) C G jc11 jm_X12_offsetOf wd1449 (sp_X12_offsetOf hp34 ⟨rfl, rfl⟩ : ok_X12_offsetOf v2 (M5 11 0 23) M5 (fun r _ M' => (M5 50 0 (585 * v2 + (29 + (M5 11 0 23))).toNatClampNeg) = r ∧ M5 = M')) rfl (show 0 < 1 by decide) (by decide) rfl rfl (by omega) (by decide) (by decide) ⟨rfl, rfl⟩ hl.1 (Nat.le_of_ble_eq_true rfl) dX12_dependence_141 (fun r32 r32n M33 H locs hq G => ?_)
              obtain ⟨eq1, eq2⟩ := hq
              subst eq1
              subst eq2
              refine lv_aload_n C.x C.b dX12_dependence_144 rfl (lv_at hl 1 rfl) ?_
              refine lv_iload_n C.x C.b dX12_dependence_145 rfl (lv_at hl 2 rfl) ?_
              refine lv_aload_n C.x C.b dX12_dependence_146 rfl (lv_at hl 1 rfl) ?_
              refine jr_get C G jc11 22 (v := .int (M5 11 0 22)) (show 0 < 1 by decide) (by decide) (by decide) rfl wd1213 dX12_dependence_147 ?_
              obtain ⟨hp37, h⟩ := h
              refine jr_V (d' := 4) C G jc11 jm_X12_offsetOf wd1449 (sp_X12_offsetOf hp37 ⟨rfl, rfl⟩ : ok_X12_offsetOf v1 (M5 11 0 22) M5 (fun r _ M' => (M5 50 0 (585 * v1 + (29 + (M5 11 0 22))).toNatClampNeg) = r ∧ M5 = M')) rfl (show 0 < 1 by decide) (by decide) rfl rfl (by omega) (by decide) (by decide) ⟨rfl, rfl⟩ hl.1 (Nat.le_of_ble_eq_true rfl) dX12_dependence_150 (fun r35 r35n M36 H locs hq G => ?_)
              obtain ⟨eq1, eq2⟩ := hq
              subst eq1
              subst eq2
              refine lv_isub C.x C.b dX12_dependence_153 ?_
              exact jr_retI C hr G h (by decide) (by decide) dX12_dependence_154
            · have h := h.1 hc
              refine lv_iload C.x C.b dX12_dependence_130 (lv_at hl 0 rfl) ?_
              refine lv_goto (tgt := 154) C.x C.b dX12_dependence_132 (by decide) ?_
              exact jr_retI C hr G h (by decide) (by decide) dX12_dependence_154
          · have h := h.1 hc
            refine lv_aload_n C.x C.b dX12_dependence_112 rfl (lv_at hl 1 rfl) ?_
            refine lv_iload_n C.x C.b dX12_dependence_113 rfl (lv_at hl 2 rfl) ?_
            refine lv_aload_n C.x C.b dX12_dependence_114 rfl (lv_at hl 1 rfl) ?_
            refine jr_get C G jc11 22 (v := .int (M5 11 0 22)) (show 0 < 1 by decide) (by decide) (by decide) rfl wd1213 dX12_dependence_115 ?_
            obtain ⟨hp40, h⟩ := h
            refine jr_V (d' := 4) C G jc11 jm_X12_arrayOf wd1445 (sp_X12_arrayOf hp40 ⟨rfl, rfl⟩ : ok_X12_arrayOf v1 (M5 11 0 22) M5 (fun r _ M' => (M5 50 0 (585 * v1 + (5 + (M5 11 0 22))).toNatClampNeg) = r ∧ M5 = M')) rfl (show 0 < 1 by decide) (by decide) rfl rfl (by omega) (by decide) (by decide) ⟨rfl, rfl⟩ hl.1 (Nat.le_of_ble_eq_true rfl) dX12_dependence_118 (fun r38 r38n M39 H locs hq G => ?_)
            obtain ⟨eq1, eq2⟩ := hq
            subst eq1
            subst eq2
            refine lv_goto (tgt := 154) C.x C.b dX12_dependence_121 (by decide) ?_
            exact jr_retI C hr G h (by decide) (by decide) dX12_dependence_154
      · have h := h.2 (jb_0 hc)
        refine lv_aload_n C.x C.b dX12_dependence_66 rfl (lv_at hl 0 rfl) ?_
        refine lv_iconst (v := 3) C.x C.b dX12_dependence_67 (by decide) ?_
        refine jr_V (d' := 4) C G jc11 jm_X12_refuse wd1296 (sp_X12_refuse ⟨rfl, rfl⟩ : ok_X12_refuse 3 M5 (fun r _ M' => 0 = r ∧ M' = jup M5 11 0 7 3)) rfl (show 0 < 1 by decide) (by decide) rfl rfl (by omega) (by decide) (by decide) ⟨rfl, rfl⟩ hl.1 (Nat.le_of_ble_eq_true rfl) dX12_dependence_68 (fun r41 r41n M42 H locs hq G => ?_)
        obtain ⟨eq1, eM42⟩ := hq
        subst eq1
        have h := h M42 eM42
        have nM42 : jnb M42 = jnb M5 := by rw [eM42]; first | exact jnb_up (by decide) | simp [jnb_up]
        exact jr_retI C hr G h (by decide) (by decide) dX12_dependence_71
    · have h := h.2 hc
      refine lv_iconst (v := 0) C.x C.b dX12_dependence_47 (by decide) ?_
      exact jr_retI C hr G h (by decide) (by decide) dX12_dependence_48
  · have h := h.1 (jb_1 hc)
    refine lv_aload_n C.x C.b dX12_dependence_9 rfl (lv_at hl 0 rfl) ?_
    refine lv_iload_n C.x C.b dX12_dependence_10 rfl (lv_at hl 2 rfl) ?_
    refine jr_V (d' := 4) C G jc11 jm_X12_isLoop wd1372 (sp_X12_isLoop ⟨rfl, rfl⟩ : ok_X12_isLoop v2 M (fun r _ M' => jb (0 ≤ v2 ∧ v2 ≤ M 11 0 0 - 1) = r ∧ M = M')) rfl (show 0 < 1 by decide) (by decide) rfl rfl (by omega) (by decide) (by decide) ⟨rfl, rfl⟩ hl.1 (Nat.le_of_ble_eq_true rfl) dX12_dependence_11 (fun r43 r43n M44 H locs hq G => ?_)
    obtain ⟨eq1, eq2⟩ := hq
    subst eq1
    subst eq2
    refine lv_if_eq (tgt := 27) C.x C.b dX12_dependence_14 (by decide) (fun hc => ?_) (fun hc => ?_)
    · have h := h.2 (jb_0 hc)
      refine lv_iconst (v := 1) C.x C.b dX12_dependence_27 (by decide) ?_
      refine lv_goto (tgt := 37) C.x C.b dX12_dependence_28 (by decide) ?_
      refine jr_put C G jc11 7 (v := 1) (show 0 < 1 by decide) (by decide) (by decide) rfl (by decide) wd1198 rfl rfl rfl rfl dX12_dependence_37 (fun H locs G => ?_)
      obtain ⟨M45, eM45⟩ : ∃ z : jM, z = jup M 11 0 7 1 := ⟨_, rfl⟩
      rw [← eM45] at G
      have h := h M45 eM45
      have nM45 : jnb M45 = jnb M := by rw [eM45]; exact jnb_up (by decide)
      refine lv_aload_n C.x C.b dX12_dependence_40 rfl (lv_at hl 0 rfl) ?_
      refine jr_get C G jc11 7 (v := .int (M45 11 0 7)) (show 0 < 1 by decide) (by decide) (by decide) rfl wd1198 dX12_dependence_41 ?_
      refine lv_if_le (tgt := 49) C.x C.b dX12_dependence_44 (by decide) (fun hc => ?_) (fun hc => ?_)
      · have h := h.1 hc
        refine lv_iload_n C.x C.b dX12_dependence_49 rfl (lv_at hl 3 rfl) ?_
        refine lv_iconst (v := 0) C.x C.b dX12_dependence_50 (by decide) ?_
        refine lv_aload_n C.x C.b dX12_dependence_51 rfl (lv_at hl 0 rfl) ?_
        refine lv_iload_n C.x C.b dX12_dependence_52 rfl (lv_at hl 1 rfl) ?_
        refine lv_iload_n C.x C.b dX12_dependence_53 rfl (lv_at hl 2 rfl) ?_
        refine lv_iload_n C.x C.b dX12_dependence_54 rfl (lv_at hl 3 rfl) ?_
        refine jr_V (d' := 4) C G jc11 jm_X12_dependences wd1469 h rfl (show 0 < 1 by decide) (by decide) rfl rfl (by omega) (by decide) (by decide) ⟨rfl, rfl⟩ hl.1 (Nat.le_of_ble_eq_true rfl) dX12_dependence_55 (fun r46 r46n M47 H locs h G => ?_)
        obtain ⟨nM47, h⟩ := h
        refine lv_iconst (v := 1) C.x C.b dX12_dependence_58 (by decide) ?_
        refine lv_isub C.x C.b dX12_dependence_59 ?_
        refine jr_S (d' := 4) C G jm_X12_in wd1293 (sp_X12_in ⟨rfl, rfl⟩ : ok_X12_in v3 0 (r46 - 1) M47 (fun r _ M' => jb (0 ≤ v3 ∧ v3 ≤ (r46 - 1)) = r ∧ M47 = M')) rfl rfl rfl (by omega) (by decide) (by decide) ⟨rfl, rfl⟩ hl.1 (Nat.le_of_ble_eq_true rfl) dX12_dependence_60 (fun r48 r48n M49 H locs hq G => ?_)
        obtain ⟨eq1, eq2⟩ := hq
        subst eq1
        subst eq2
        refine lv_if_ne (tgt := 72) C.x C.b dX12_dependence_63 (by decide) (fun hc => ?_) (fun hc => ?_)
        · have h := h.1 (jb_1 hc)
          refine lv_aload_n C.x C.b dX12_dependence_72 rfl (lv_at hl 0 rfl) ?_
          refine lv_iload_n C.x C.b dX12_dependence_73 rfl (lv_at hl 1 rfl) ?_
          refine lv_aload_n C.x C.b dX12_dependence_74 rfl (lv_at hl 0 rfl) ?_
          refine jr_get C G jc11 22 (v := .int (M47 11 0 22)) (show 0 < 1 by decide) (by decide) (by decide) rfl wd1213 dX12_dependence_75 ?_
          obtain ⟨hp52, h⟩ := h
          refine jr_V (d' := 4) C G jc11 jm_X12_isWrite wd1477 (sp_X12_isWrite hp52 ⟨rfl, rfl⟩ : ok_X12_isWrite v1 (M47 11 0 22) M47 (fun r _ M' => jb (M47 50 0 (585 * v1 + (53 + (M47 11 0 22))).toNatClampNeg = 1) = r ∧ M47 = M')) rfl (show 0 < 1 by decide) (by decide) rfl rfl (by omega) (by decide) (by decide) ⟨rfl, rfl⟩ hl.1 (Nat.le_of_ble_eq_true rfl) dX12_dependence_78 (fun r50 r50n M51 H locs hq G => ?_)
          obtain ⟨eq1, eq2⟩ := hq
          subst eq1
          subst eq2
          refine lv_if_ne (tgt := 88) C.x C.b dX12_dependence_81 (by decide) (fun hc => ?_) (fun hc => ?_)
          · have h := h.1 (jb_1 hc)
            refine lv_aload_n C.x C.b dX12_dependence_88 rfl (lv_at hl 0 rfl) ?_
            refine lv_iload_n C.x C.b dX12_dependence_89 rfl (lv_at hl 2 rfl) ?_
            refine lv_aload_n C.x C.b dX12_dependence_90 rfl (lv_at hl 0 rfl) ?_
            refine jr_get C G jc11 23 (v := .int (M47 11 0 23)) (show 0 < 1 by decide) (by decide) (by decide) rfl wd1214 dX12_dependence_91 ?_
            obtain ⟨hp55, h⟩ := h
            refine jr_V (d' := 4) C G jc11 jm_X12_isWrite wd1477 (sp_X12_isWrite hp55 ⟨rfl, rfl⟩ : ok_X12_isWrite v2 (M47 11 0 23) M47 (fun r _ M' => jb (M47 50 0 (585 * v2 + (53 + (M47 11 0 23))).toNatClampNeg = 1) = r ∧ M47 = M')) rfl (show 0 < 1 by decide) (by decide) rfl rfl (by omega) (by decide) (by decide) ⟨rfl, rfl⟩ hl.1 (Nat.le_of_ble_eq_true rfl) dX12_dependence_94 (fun r53 r53n M54 H locs hq G => ?_)
            obtain ⟨eq1, eq2⟩ := hq
            subst eq1
            subst eq2
            refine lv_if_eq (tgt := 104) C.x C.b dX12_dependence_97 (by decide) (fun hc => ?_) (fun hc => ?_)
            · have h := h.2 (jb_0 hc)
              refine lv_iconst (v := 0) C.x C.b dX12_dependence_104 (by decide) ?_
              refine lv_istore (lv' := [(5, .int 0), (0, .ref (g 11 0)), (1, .int v1), (2, .int v2), (3, .int v3), (4, .int v4)]) C.x C.b dX12_dependence_105 hl (by decide) rfl (fun ls hl => ?_)
              refine lv_iload C.x C.b dX12_dependence_107 (lv_at hl 5 rfl) ?_
              refine lv_if_ne (tgt := 124) C.x C.b dX12_dependence_109 (by decide) (fun hc => ?_) (fun hc => ?_)
              · have h := h.2 hc
                refine lv_iload C.x C.b dX12_dependence_124 (lv_at hl 5 rfl) ?_
                refine lv_iconst (v := 1) C.x C.b dX12_dependence_126 (by decide) ?_
                refine lv_icmp_ne (tgt := 135) C.x C.b dX12_dependence_127 (by decide) (fun hc => ?_) (fun hc => ?_)
                · have h := h.2 hc
                  refine lv_aload_n C.x C.b dX12_dependence_135 rfl (lv_at hl 1 rfl) ?_
                  refine lv_iload_n C.x C.b dX12_dependence_136 rfl (lv_at hl 3 rfl) ?_
                  refine lv_aload_n C.x C.b dX12_dependence_137 rfl (lv_at hl 1 rfl) ?_
                  refine jr_get C G jc11 23 (v := .int (M47 11 0 23)) (show 0 < 1 by decide) (by decide) (by decide) rfl wd1214 dX12_dependence_138 ?_
                  obtain ⟨hp58, h⟩ := h
                  refine jr_V (d' := 4) C G jc11 jm_X12_offsetOf wd1449 (sp_X12_offsetOf hp58 ⟨rfl, rfl⟩ : ok_X12_offsetOf v2 (M47 11 0 23) M47 (fun r _ M' => (M47 50 0 (585 * v2 + (29 + (M47 11 0 23))).toNatClampNeg) = r ∧ M47 = M')) rfl (show 0 < 1 by decide) (by decide) rfl rfl (by omega) (by decide) (by decide) ⟨rfl, rfl⟩ hl.1 (Nat.le_of_ble_eq_true rfl) dX12_dependence_141 (fun r56 r56n M57 H locs hq G => ?_)
                  obtain ⟨eq1, eq2⟩ := hq
                  subst eq1
                  subst eq2
                  refine lv_aload_n C.x C.b dX12_dependence_144 rfl (lv_at hl 1 rfl) ?_
                  refine lv_iload_n C.x C.b dX12_dependence_145 rfl (lv_at hl 2 rfl) ?_
                  refine lv_aload_n C.x C.b dX12_dependence_146 rfl (lv_at hl 1 rfl) ?_
                  refine jr_get C G jc11 22 (v := .int (M47 11 0 22)) (show 0 < 1 by decide) (by decide) (by decide) rfl wd1213 dX12_dependence_147 ?_
                  obtain ⟨hp61, h⟩ := h
                  refine jr_V (d' := 4) C G jc11 jm_X12_offsetOf wd1449 (sp_X12_offsetOf hp61 ⟨rfl, rfl⟩ : ok_X12_offsetOf v1 (M47 11 0 22) M47 (fun r _ M' => (M47 50 0 (585 * v1 + (29 + (M47 11 0 22))).toNatClampNeg) = r ∧ M47 = M')) rfl (show 0 < 1 by decide) (by decide) rfl rfl (by omega) (by decide) (by decide) ⟨rfl, rfl⟩ hl.1 (Nat.le_of_ble_eq_true rfl) dX12_dependence_150 (fun r59 r59n M60 H locs hq G => ?_)
                  obtain ⟨eq1, eq2⟩ := hq
                  subst eq1
                  subst eq2
                  refine lv_isub C.x C.b dX12_dependence_153 ?_
                  exact jr_retI C hr G h (by decide) (by decide) dX12_dependence_154
                · have h := h.1 hc
                  refine lv_iload C.x C.b dX12_dependence_130 (lv_at hl 0 rfl) ?_
                  refine lv_goto (tgt := 154) C.x C.b dX12_dependence_132 (by decide) ?_
                  exact jr_retI C hr G h (by decide) (by decide) dX12_dependence_154
              · have h := h.1 hc
                refine lv_aload_n C.x C.b dX12_dependence_112 rfl (lv_at hl 1 rfl) ?_
                refine lv_iload_n C.x C.b dX12_dependence_113 rfl (lv_at hl 2 rfl) ?_
                refine lv_aload_n C.x C.b dX12_dependence_114 rfl (lv_at hl 1 rfl) ?_
                refine jr_get C G jc11 22 (v := .int (M47 11 0 22)) (show 0 < 1 by decide) (by decide) (by decide) rfl wd1213 dX12_dependence_115 ?_
                obtain ⟨hp64, h⟩ := h
                refine jr_V (d' := 4) C G jc11 jm_X12_arrayOf wd1445 (sp_X12_arrayOf hp64 ⟨rfl, rfl⟩ : ok_X12_arrayOf v1 (M47 11 0 22) M47 (fun r _ M' => (M47 50 0 (585 * v1 + (5 + (M47 11 0 22))).toNatClampNeg) = r ∧ M47 = M')) rfl (show 0 < 1 by decide) (by decide) rfl rfl (by omega) (by decide) (by decide) ⟨rfl, rfl⟩ hl.1 (Nat.le_of_ble_eq_true rfl) dX12_dependence_118 (fun r62 r62n M63 H locs hq G => ?_)
                obtain ⟨eq1, eq2⟩ := hq
                subst eq1
                subst eq2
                refine lv_goto (tgt := 154) C.x C.b dX12_dependence_121 (by decide) ?_
                exact jr_retI C hr G h (by decide) (by decide) dX12_dependence_154
            · have h := h.1 (jb_1 hc)
              refine lv_iconst (v := 2) C.x C.b dX12_dependence_100 (by decide) ?_
              refine lv_goto (tgt := 105) C.x C.b dX12_dependence_101 (by decide) ?_
              refine lv_istore (lv' := [(5, .int 2), (0, .ref (g 11 0)), (1, .int v1), (2, .int v2), (3, .int v3), (4, .int v4)]) C.x C.b dX12_dependence_105 hl (by decide) rfl (fun ls hl => ?_)
              refine lv_iload C.x C.b dX12_dependence_107 (lv_at hl 5 rfl) ?_
              refine lv_if_ne (tgt := 124) C.x C.b dX12_dependence_109 (by decide) (fun hc => ?_) (fun hc => ?_)
              · have h := h.2 hc
                refine lv_iload C.x C.b dX12_dependence_124 (lv_at hl 5 rfl) ?_
                refine lv_iconst (v := 1) C.x C.b dX12_dependence_126 (by decide) ?_
                refine lv_icmp_ne (tgt := 135) C.x C.b dX12_dependence_127 (by decide) (fun hc => ?_) (fun hc => ?_)
                · have h := h.2 hc
                  refine lv_aload_n C.x C.b dX12_dependence_135 rfl (lv_at hl 1 rfl) ?_
                  refine lv_iload_n C.x C.b dX12_dependence_136 rfl (lv_at hl 3 rfl) ?_
                  refine lv_aload_n C.x C.b dX12_dependence_137 rfl (lv_at hl 1 rfl) ?_
                  refine jr_get C G jc11 23 (v := .int (M47 11 0 23)) (show 0 < 1 by decide) (by decide) (by decide) rfl wd1214 dX12_dependence_138 ?_
                  obtain ⟨hp67, h⟩ := h
                  refine jr_V (d' := 4) C G jc11 jm_X12_offsetOf wd1449 (sp_X12_offsetOf hp67 ⟨rfl, rfl⟩ : ok_X12_offsetOf v2 (M47 11 0 23) M47 (fun r _ M' => (M47 50 0 (585 * v2 + (29 + (M47 11 0 23))).toNatClampNeg) = r ∧ M47 = M')) rfl (show 0 < 1 by decide) (by decide) rfl rfl (by omega) (by decide) (by decide) ⟨rfl, rfl⟩ hl.1 (Nat.le_of_ble_eq_true rfl) dX12_dependence_141 (fun r65 r65n M66 H locs hq G => ?_)
                  obtain ⟨eq1, eq2⟩ := hq
                  subst eq1
                  subst eq2
                  refine lv_aload_n C.x C.b dX12_dependence_144 rfl (lv_at hl 1 rfl) ?_
                  refine lv_iload_n C.x C.b dX12_dependence_145 rfl (lv_at hl 2 rfl) ?_
                  refine lv_aload_n C.x C.b dX12_dependence_146 rfl (lv_at hl 1 rfl) ?_
                  refine jr_get C G jc11 22 (v := .int (M47 11 0 22)) (show 0 < 1 by decide) (by decide) (by decide) rfl wd1213 dX12_dependence_147 ?_
                  obtain ⟨hp70, h⟩ := h
                  refine jr_V (d' := 4) C G jc11 jm_X12_offsetOf wd1449 (sp_X12_offsetOf hp70 ⟨rfl, rfl⟩ : ok_X12_offsetOf v1 (M47 11 0 22) M47 (fun r _ M' => (M47 50 0 (585 * v1 + (29 + (M47 11 0 22))).toNatClampNeg) = r ∧ M47 = M')) rfl (show 0 < 1 by decide) (by decide) rfl rfl (by omega) (by decide) (by decide) ⟨rfl, rfl⟩ hl.1 (Nat.le_of_ble_eq_true rfl) dX12_dependence_150 (fun r68 r68n M69 H locs hq G => ?_)
                  obtain ⟨eq1, eq2⟩ := hq
                  subst eq1
                  subst eq2
                  refine lv_isub C.x C.b dX12_dependence_153 ?_
                  exact jr_retI C hr G h (by decide) (by decide) dX12_dependence_154
                · have h := h.1 hc
                  refine lv_iload C.x C.b dX12_dependence_130 (lv_at hl 0 rfl) ?_
                  refine lv_goto (tgt := 154) C.x C.b dX12_dependence_132 (by decide) ?_
                  exact jr_retI C hr G h (by decide) (by decide) dX12_dependence_154
              · have h := h.1 hc
                refine lv_aload_n C.x C.b dX12_dependence_112 rfl (lv_at hl 1 rfl) ?_
                refine lv_iload_n C.x C.b dX12_dependence_113 rfl (lv_at hl 2 rfl) ?_
                refine lv_aload_n C.x C.b dX12_dependence_114 rfl (lv_at hl 1 rfl) ?_
                refine jr_get C G jc11 22 (v := .int (M47 11 0 22)) (show 0 < 1 by decide) (by decide) (by decide) rfl wd1213 dX12_dependence_115 ?_
                obtain ⟨hp73, h⟩ := h
                refine jr_V (d' := 4) C G jc11 jm_X12_arrayOf wd1445 (sp_X12_arrayOf hp73 ⟨rfl, rfl⟩ : ok_X12_arrayOf v1 (M47 11 0 22) M47 (fun r _ M' => (M47 50 0 (585 * v1 + (5 + (M47 11 0 22))).toNatClampNeg) = r ∧ M47 = M')) rfl (show 0 < 1 by decide) (by decide) rfl rfl (by omega) (by decide) (by decide) ⟨rfl, rfl⟩ hl.1 (Nat.le_of_ble_eq_true rfl) dX12_dependence_118 (fun r71 r71n M72 H locs hq G => ?_)
                obtain ⟨eq1, eq2⟩ := hq
                subst eq1
                subst eq2
                refine lv_goto (tgt := 154) C.x C.b dX12_dependence_121 (by decide) ?_
                exact jr_retI C hr G h (by decide) (by decide) dX12_dependence_154
          · have h := h.2 (jb_0 hc)
            refine lv_iconst (v := 1) C.x C.b dX12_dependence_84 (by decide) ?_
            refine lv_goto (tgt := 105) C.x C.b dX12_dependence_85 (by decide) ?_
            refine lv_istore (lv' := [(5, .int 1), (0, .ref (g 11 0)), (1, .int v1), (2, .int v2), (3, .int v3), (4, .int v4)]) C.x C.b dX12_dependence_105 hl (by decide) rfl (fun ls hl => ?_)
            refine lv_iload C.x C.b dX12_dependence_107 (lv_at hl 5 rfl) ?_
            refine lv_if_ne (tgt := 124) C.x C.b dX12_dependence_109 (by decide) (fun hc => ?_) (fun hc => ?_)
            · have h := h.2 hc
              refine lv_iload C.x C.b dX12_dependence_124 (lv_at hl 5 rfl) ?_
              refine lv_iconst (v := 1) C.x C.b dX12_dependence_126 (by decide) ?_
              refine lv_icmp_ne (tgt := 135) C.x C.b dX12_dependence_127 (by decide) (fun hc => ?_) (fun hc => ?_)
              · have h := h.2 hc
                refine lv_aload_n C.x C.b dX12_dependence_135 rfl (lv_at hl 1 rfl) ?_
                refine lv_iload_n C.x C.b dX12_dependence_136 rfl (lv_at hl 3 rfl) ?_
                refine lv_aload_n C.x C.b dX12_dependence_137 rfl (lv_at hl 1 rfl) ?_
                refine jr_get C G jc11 23 (v := .int (M47 11 0 23)) (show 0 < 1 by decide) (by decide) (by decide) rfl wd1214 dX12_dependence_138 ?_
                obtain ⟨hp76, h⟩ := h
                refine jr_V (d' := 4) C G jc11 jm_X12_offsetOf wd1449 (sp_X12_offsetOf hp76 ⟨rfl, rfl⟩ : ok_X12_offsetOf v2 (M47 11 0 23) M47 (fun r _ M' => (M47 50 0 (585 * v2 + (29 + (M47 11 0 23))).toNatClampNeg) = r ∧ M47 = M')) rfl (show 0 < 1 by decide) (by decide) rfl rfl (by omega) (by decide) (by decide) ⟨rfl, rfl⟩ hl.1 (Nat.le_of_ble_eq_true rfl) dX12_dependence_141 (fun r74 r74n M75 H locs hq G => ?_)
                obtain ⟨eq1, eq2⟩ := hq
                subst eq1
                subst eq2
                refine lv_aload_n C.x C.b dX12_dependence_144 rfl (lv_at hl 1 rfl) ?_
                refine lv_iload_n C.x C.b dX12_dependence_145 rfl (lv_at hl 2 rfl) ?_
                refine lv_aload_n C.x C.b dX12_dependence_146 rfl (lv_at hl 1 rfl) ?_
                refine jr_get C G jc11 22 (v := .int (M47 11 0 22)) (show 0 < 1 by decide) (by decide) (by decide) rfl wd1213 dX12_dependence_147 ?_
                obtain ⟨hp79, h⟩ := h
                refine jr_V (d' := 4) C G jc11 jm_X12_offsetOf wd1449 (sp_X12_offsetOf hp79 ⟨rfl, rfl⟩ : ok_X12_offsetOf v1 (M47 11 0 22) M47 (fun r _ M' => (M47 50 0 (585 * v1 + (29 + (M47 11 0 22))).toNatClampNeg) = r ∧ M47 = M')) rfl (show 0 < 1 by decide) (by decide) rfl rfl (by omega) (by decide) (by decide) ⟨rfl, rfl⟩ hl.1 (Nat.le_of_ble_eq_true rfl) dX12_dependence_150 (fun r77 r77n M78 H locs hq G => ?_)
                obtain ⟨eq1, eq2⟩ := hq
                subst eq1
                subst eq2
                refine lv_isub C.x C.b dX12_dependence_153 ?_
                exact jr_retI C hr G h (by decide) (by decide) dX12_dependence_154
              · have h := h.1 hc
                refine lv_iload C.x C.b dX12_dependence_130 (lv_at hl 0 rfl) ?_
                refine lv_goto (tgt := 154) C.x C.b dX12_dependence_132 (by decide) ?_
                exact jr_retI C hr G h (by decide) (by decide) dX12_dependence_154
            · have h := h.1 hc
              refine lv_aload_n C.x C.b dX12_dependence_112 rfl (lv_at hl 1 rfl) ?_
              refine lv_iload_n C.x C.b dX12_dependence_113 rfl (lv_at hl 2 rfl) ?_
              refine lv_aload_n C.x C.b dX12_dependence_114 rfl (lv_at hl 1 rfl) ?_
              refine jr_get C G jc11 22 (v := .int (M47 11 0 22)) (show 0 < 1 by decide) (by decide) (by decide) rfl wd1213 dX12_dependence_115 ?_
              obtain ⟨hp82, h⟩ := h
              refine jr_V (d' := 4) C G jc11 jm_X12_arrayOf wd1445 (sp_X12_arrayOf hp82 ⟨rfl, rfl⟩ : ok_X12_arrayOf v1 (M47 11 0 22) M47 (fun r _ M' => (M47 50 0 (585 * v1 + (5 + (M47 11 0 22))).toNatClampNeg) = r ∧ M47 = M')) rfl (show 0 < 1 by decide) (by decide) rfl rfl (by omega) (by decide) (by decide) ⟨rfl, rfl⟩ hl.1 (Nat.le_of_ble_eq_true rfl) dX12_dependence_118 (fun r80 r80n M81 H locs hq G => ?_)
              obtain ⟨eq1, eq2⟩ := hq
              subst eq1
              subst eq2
              refine lv_goto (tgt := 154) C.x C.b dX12_dependence_121 (by decide) ?_
              exact jr_retI C hr G h (by decide) (by decide) dX12_dependence_154
        · have h := h.2 (jb_0 hc)
          refine lv_aload_n C.x C.b dX12_dependence_66 rfl (lv_at hl 0 rfl) ?_
          refine lv_iconst (v := 3) C.x C.b dX12_dependence_67 (by decide) ?_
          refine jr_V (d' := 4) C G jc11 jm_X12_refuse wd1296 (sp_X12_refuse ⟨rfl, rfl⟩ : ok_X12_refuse 3 M47 (fun r _ M' => 0 = r ∧ M' = jup M47 11 0 7 3)) rfl (show 0 < 1 by decide) (by decide) rfl rfl (by omega) (by decide) (by decide) ⟨rfl, rfl⟩ hl.1 (Nat.le_of_ble_eq_true rfl) dX12_dependence_68 (fun r83 r83n M84 H locs hq G => ?_)
          obtain ⟨eq1, eM84⟩ := hq
          subst eq1
          have h := h M84 eM84
          have nM84 : jnb M84 = jnb M47 := by rw [eM84]; first | exact jnb_up (by decide) | simp [jnb_up]
          exact jr_retI C hr G h (by decide) (by decide) dX12_dependence_71
      · have h := h.2 hc
        refine lv_iconst (v := 0) C.x C.b dX12_dependence_47 (by decide) ?_
        exact jr_retI C hr G h (by decide) (by decide) dX12_dependence_48
    · have h := h.1 (jb_1 hc)
      refine lv_iload C.x C.b dX12_dependence_17 (lv_at hl 4 rfl) ?_
      refine lv_iconst (v := 0) C.x C.b dX12_dependence_19 (by decide) ?_
      refine lv_iconst (v := 2) C.x C.b dX12_dependence_20 (by decide) ?_
      refine jr_S (d' := 4) C G jm_X12_in wd1293 (sp_X12_in ⟨rfl, rfl⟩ : ok_X12_in v4 0 2 M (fun r _ M' => jb (0 ≤ v4 ∧ v4 ≤ 2) = r ∧ M = M')) rfl rfl rfl (by omega) (by decide) (by decide) ⟨rfl, rfl⟩ hl.1 (Nat.le_of_ble_eq_true rfl) dX12_dependence_21 (fun r85 r85n M86 H locs hq G => ?_)
      obtain ⟨eq1, eq2⟩ := hq
      subst eq1
      subst eq2
      refine lv_if_ne (tgt := 31) C.x C.b dX12_dependence_24 (by decide) (fun hc => ?_) (fun hc => ?_)
      · have h := h.1 (jb_1 hc)
        refine lv_aload_n C.x C.b dX12_dependence_31 rfl (lv_at hl 0 rfl) ?_
        refine lv_iload_n C.x C.b dX12_dependence_32 rfl (lv_at hl 1 rfl) ?_
        refine lv_iload_n C.x C.b dX12_dependence_33 rfl (lv_at hl 2 rfl) ?_
        refine jr_V (d' := 4) C G jc11 jm_X12_wrong wd1465 (sp_X12_wrong ⟨rfl, rfl⟩ : ok_X12_wrong v1 v2 M (fun r _ M' => (if ¬ (0 ≤ v1 ∧ v1 ≤ M 11 0 0 - 1) ∨ ¬ (0 ≤ v2 ∧ v2 ≤ M 11 0 0 - 1) then 1 else if v2 ≤ v1 then 2 else 0) = r ∧ M = M')) rfl (show 0 < 1 by decide) (by decide) rfl rfl (by omega) (by decide) (by decide) ⟨rfl, rfl⟩ hl.1 (Nat.le_of_ble_eq_true rfl) dX12_dependence_34 (fun r87 r87n M88 H locs hq G => ?_)
        obtain ⟨eq1, eq2⟩ := hq
        subst eq1
        subst eq2
        refine jr_put C G jc11 7 (v := (if ¬ (0 ≤ v1 ∧ v1 ≤ M 11 0 0 - 1) ∨ ¬ (0 ≤ v2 ∧ v2 ≤ M 11 0 0 - 1) then 1 else if v2 ≤ v1 then 2 else 0)) (show 0 < 1 by decide) (by decide) (by decide) rfl (by decide) wd1198 rfl rfl rfl rfl dX12_dependence_37 (fun H locs G => ?_)
        obtain ⟨M89, eM89⟩ : ∃ z : jM, z = jup M 11 0 7 (if ¬ (0 ≤ v1 ∧ v1 ≤ M 11 0 0 - 1) ∨ ¬ (0 ≤ v2 ∧ v2 ≤ M 11 0 0 - 1) then 1 else if v2 ≤ v1 then 2 else 0) := ⟨_, rfl⟩
        rw [← eM89] at G
        have h := h M89 eM89
        have nM89 : jnb M89 = jnb M := by rw [eM89]; exact jnb_up (by decide)
        refine lv_aload_n C.x C.b dX12_dependence_40 rfl (lv_at hl 0 rfl) ?_
        refine jr_get C G jc11 7 (v := .int (M89 11 0 7)) (show 0 < 1 by decide) (by decide) (by decide) rfl wd1198 dX12_dependence_41 ?_
        refine lv_if_le (tgt := 49) C.x C.b dX12_dependence_44 (by decide) (fun hc => ?_) (fun hc => ?_)
        · have h := h.1 hc
          refine lv_iload_n C.x C.b dX12_dependence_49 rfl (lv_at hl 3 rfl) ?_
          refine lv_iconst (v := 0) C.x C.b dX12_dependence_50 (by decide) ?_
          refine lv_aload_n C.x C.b dX12_dependence_51 rfl (lv_at hl 0 rfl) ?_
          refine lv_iload_n C.x C.b dX12_dependence_52 rfl (lv_at hl 1 rfl) ?_
          refine lv_iload_n C.x C.b dX12_dependence_53 rfl (lv_at hl 2 rfl) ?_
          refine lv_iload_n C.x C.b dX12_dependence_54 rfl (lv_at hl 3 rfl) ?_
          refine jr_V (d' := 4) C G jc11 jm_X12_dependences wd1469 h rfl (show 0 < 1 by decide) (by decide) rfl rfl (by omega) (by decide) (by decide) ⟨rfl, rfl⟩ hl.1 (Nat.le_of_ble_eq_true rfl) dX12_dependence_55 (fun r90 r90n M91 H locs h G => ?_)
          obtain ⟨nM91, h⟩ := h
          refine lv_iconst (v := 1) C.x C.b dX12_dependence_58 (by decide) ?_
          refine lv_isub C.x C.b dX12_dependence_59 ?_
          refine jr_S (d' := 4) C G jm_X12_in wd1293 (sp_X12_in ⟨rfl, rfl⟩ : ok_X12_in v3 0 (r90 - 1) M91 (fun r _ M' => jb (0 ≤ v3 ∧ v3 ≤ (r90 - 1)) = r ∧ M91 = M')) rfl rfl rfl (by omega) (by decide) (by decide) ⟨rfl, rfl⟩ hl.1 (Nat.le_of_ble_eq_true rfl) dX12_dependence_60 (fun r92 r92n M93 H locs hq G => ?_)
          obtain ⟨eq1, eq2⟩ := hq
          subst eq1
          subst eq2
          refine lv_if_ne (tgt := 72) C.x C.b dX12_dependence_63 (by decide) (fun hc => ?_) (fun hc => ?_)
          · have h := h.1 (jb_1 hc)
            refine lv_aload_n C.x C.b dX12_dependence_72 rfl (lv_at hl 0 rfl) ?_
            refine lv_iload_n C.x C.b dX12_dependence_73 rfl (lv_at hl 1 rfl) ?_
            refine lv_aload_n C.x C.b dX12_dependence_74 rfl (lv_at hl 0 rfl) ?_
            refine jr_get C G jc11 22 (v := .int (M91 11 0 22)) (show 0 < 1 by decide) (by decide) (by decide) rfl wd1213 dX12_dependence_75 ?_
            obtain ⟨hp96, h⟩ := h
            refine jr_V (d' := 4) C G jc11 jm_X12_isWrite wd1477 (sp_X12_isWrite hp96 ⟨rfl, rfl⟩ : ok_X12_isWrite v1 (M91 11 0 22) M91 (fun r _ M' => jb (M91 50 0 (585 * v1 + (53 + (M91 11 0 22))).toNatClampNeg = 1) = r ∧ M91 = M')) rfl (show 0 < 1 by decide) (by decide) rfl rfl (by omega) (by decide) (by decide) ⟨rfl, rfl⟩ hl.1 (Nat.le_of_ble_eq_true rfl) dX12_dependence_78 (fun r94 r94n M95 H locs hq G => ?_)
            obtain ⟨eq1, eq2⟩ := hq
            subst eq1
            subst eq2
            refine lv_if_ne (tgt := 88) C.x C.b dX12_dependence_81 (by decide) (fun hc => ?_) (fun hc => ?_)
            · have h := h.1 (jb_1 hc)
              refine lv_aload_n C.x C.b dX12_dependence_88 rfl (lv_at hl 0 rfl) ?_
              refine lv_iload_n C.x C.b dX12_dependence_89 rfl (lv_at hl 2 rfl) ?_
              refine lv_aload_n C.x C.b dX12_dependence_90 rfl (lv_at hl 0 rfl) ?_
              refine jr_get C G jc11 23 (v := .int (M91 11 0 23)) (show 0 < 1 by decide) (by decide) (by decide) rfl wd1214 dX12_dependence_91 ?_
              obtain ⟨hp99, h⟩ := h
              refine jr_V (d' := 4) C G jc11 jm_X12_isWrite wd1477 (sp_X12_isWrite hp99 ⟨rfl, rfl⟩ : ok_X12_isWrite v2 (M91 11 0 23) M91 (fun r _ M' => jb (M91 50 0 (585 * v2 + (53 + (M91 11 0 23))).toNatClampNeg = 1) = r ∧ M91 = M')) rfl (show 0 < 1 by decide) (by decide) rfl rfl (by omega) (by decide) (by decide) ⟨rfl, rfl⟩ hl.1 (Nat.le_of_ble_eq_true rfl) dX12_dependence_94 (fun r97 r97n M98 H locs hq G => ?_)
              obtain ⟨eq1, eq2⟩ := hq
              subst eq1
              subst eq2
              refine lv_if_eq (tgt := 104) C.x C.b dX12_dependence_97 (by decide) (fun hc => ?_) (fun hc => ?_)
              · have h := h.2 (jb_0 hc)
                refine lv_iconst (v := 0) C.x C.b dX12_dependence_104 (by decide) ?_
                refine lv_istore (lv' := [(5, .int 0), (0, .ref (g 11 0)), (1, .int v1), (2, .int v2), (3, .int v3), (4, .int v4)]) C.x C.b dX12_dependence_105 hl (by decide) rfl (fun ls hl => ?_)
                refine lv_iload C.x C.b dX12_dependence_107 (lv_at hl 5 rfl) ?_
                refine lv_if_ne (tgt := 124) C.x C.b dX12_dependence_109 (by decide) (fun hc => ?_) (fun hc => ?_)
                · have h := h.2 hc
                  refine lv_iload C.x C.b dX12_dependence_124 (lv_at hl 5 rfl) ?_
                  refine lv_iconst (v := 1) C.x C.b dX12_dependence_126 (by decide) ?_
                  refine lv_icmp_ne (tgt := 135) C.x C.b dX12_dependence_127 (by decide) (fun hc => ?_) (fun hc => ?_)
                  · have h := h.2 hc
                    refine lv_aload_n C.x C.b dX12_dependence_135 rfl (lv_at hl 1 rfl) ?_
                    refine lv_iload_n C.x C.b dX12_dependence_136 rfl (lv_at hl 3 rfl) ?_
                    refine lv_aload_n C.x C.b dX12_dependence_137 rfl (lv_at hl 1 rfl) ?_
                    refine jr_get C G jc11 23 (v := .int (M91 11 0 23)) (show 0 < 1 by decide) (by decide) (by decide) rfl wd1214 dX12_dependence_138 ?_
                    obtain ⟨hp102, h⟩ := h
                    refine jr_V (d' := 4) C G jc11 jm_X12_offsetOf wd1449 (sp_X12_offsetOf hp102 ⟨rfl, rfl⟩ : ok_X12_offsetOf v2 (M91 11 0 23) M91 (fun r _ M' => (M91 50 0 (585 * v2 + (29 + (M91 11 0 23))).toNatClampNeg) = r ∧ M91 = M')) rfl (show 0 < 1 by decide) (by decide) rfl rfl (by omega) (by decide) (by decide) ⟨rfl, rfl⟩ hl.1 (Nat.le_of_ble_eq_true rfl) dX12_dependence_141 (fun r100 r100n M101 H locs hq G => ?_)
                    obtain ⟨eq1, eq2⟩ := hq
                    subst eq1
                    subst eq2
                    refine lv_aload_n C.x C.b dX12_dependence_144 rfl (lv_at hl 1 rfl) ?_
                    refine lv_iload_n C.x C.b dX12_dependence_145 rfl (lv_at hl 2 rfl) ?_
                    refine lv_aload_n C.x C.b dX12_dependence_146 rfl (lv_at hl 1 rfl) ?_
                    refine jr_get C G jc11 22 (v := .int (M91 11 0 22)) (show 0 < 1 by decide) (by decide) (by decide) rfl wd1213 dX12_dependence_147 ?_
                    obtain ⟨hp105, h⟩ := h
                    refine jr_V (d' := 4) C G jc11 jm_X12_offsetOf wd1449 (sp_X12_offsetOf hp105 ⟨rfl, rfl⟩ : ok_X12_offsetOf v1 (M91 11 0 22) M91 (fun r _ M' => (M91 50 0 (585 * v1 + (29 + (M91 11 0 22))).toNatClampNeg) = r ∧ M91 = M')) rfl (show 0 < 1 by decide) (by decide) rfl rfl (by omega) (by decide) (by decide) ⟨rfl, rfl⟩ hl.1 (Nat.le_of_ble_eq_true rfl) dX12_dependence_150 (fun r103 r103n M104 H locs hq G => ?_)
                    obtain ⟨eq1, eq2⟩ := hq
                    subst eq1
                    subst eq2
                    refine lv_isub C.x C.b dX12_dependence_153 ?_
                    exact jr_retI C hr G h (by decide) (by decide) dX12_dependence_154
                  · have h := h.1 hc
                    refine lv_iload C.x C.b dX12_dependence_130 (lv_at hl 0 rfl) ?_
                    refine lv_goto (tgt := 154) C.x C.b dX12_dependence_132 (by decide) ?_
                    exact jr_retI C hr G h (by decide) (by decide) dX12_dependence_154
                · have h := h.1 hc
                  refine lv_aload_n C.x C.b dX12_dependence_112 rfl (lv_at hl 1 rfl) ?_
                  refine lv_iload_n C.x C.b dX12_dependence_113 rfl (lv_at hl 2 rfl) ?_
                  refine lv_aload_n C.x C.b dX12_dependence_114 rfl (lv_at hl 1 rfl) ?_
                  refine jr_get C G jc11 22 (v := .int (M91 11 0 22)) (show 0 < 1 by decide) (by decide) (by decide) rfl wd1213 dX12_dependence_115 ?_
                  obtain ⟨hp108, h⟩ := h
                  refine jr_V (d' := 4) C G jc11 jm_X12_arrayOf wd1445 (sp_X12_arrayOf hp108 ⟨rfl, rfl⟩ : ok_X12_arrayOf v1 (M91 11 0 22) M91 (fun r _ M' => (M91 50 0 (585 * v1 + (5 + (M91 11 0 22))).toNatClampNeg) = r ∧ M91 = M')) rfl (show 0 < 1 by decide) (by decide) rfl rfl (by omega) (by decide) (by decide) ⟨rfl, rfl⟩ hl.1 (Nat.le_of_ble_eq_true rfl) dX12_dependence_118 (fun r106 r106n M107 H locs hq G => ?_)
                  obtain ⟨eq1, eq2⟩ := hq
                  subst eq1
                  subst eq2
                  refine lv_goto (tgt := 154) C.x C.b dX12_dependence_121 (by decide) ?_
                  exact jr_retI C hr G h (by decide) (by decide) dX12_dependence_154
              · have h := h.1 (jb_1 hc)
                refine lv_iconst (v := 2) C.x C.b dX12_dependence_100 (by decide) ?_
                refine lv_goto (tgt := 105) C.x C.b dX12_dependence_101 (by decide) ?_
                refine lv_istore (lv' := [(5, .int 2), (0, .ref (g 11 0)), (1, .int v1), (2, .int v2), (3, .int v3), (4, .int v4)]) C.x C.b dX12_dependence_105 hl (by decide) rfl (fun ls hl => ?_)
                refine lv_iload C.x C.b dX12_dependence_107 (lv_at hl 5 rfl) ?_
                refine lv_if_ne (tgt := 124) C.x C.b dX12_dependence_109 (by decide) (fun hc => ?_) (fun hc => ?_)
                · have h := h.2 hc
                  refine lv_iload C.x C.b dX12_dependence_124 (lv_at hl 5 rfl) ?_
                  refine lv_iconst (v := 1) C.x C.b dX12_dependence_126 (by decide) ?_
                  refine lv_icmp_ne (tgt := 135) C.x C.b dX12_dependence_127 (by decide) (fun hc => ?_) (fun hc => ?_)
                  · have h := h.2 hc
                    refine lv_aload_n C.x C.b dX12_dependence_135 rfl (lv_at hl 1 rfl) ?_
                    refine lv_iload_n C.x C.b dX12_dependence_136 rfl (lv_at hl 3 rfl) ?_
                    refine lv_aload_n C.x C.b dX12_dependence_137 rfl (lv_at hl 1 rfl) ?_
                    refine jr_get C G jc11 23 (v := .int (M91 11 0 23)) (show 0 < 1 by decide) (by decide) (by decide) rfl wd1214 dX12_dependence_138 ?_
                    obtain ⟨hp111, h⟩ := h
                    refine jr_V (d' := 4) C G jc11 jm_X12_offsetOf wd1449 (sp_X12_offsetOf hp111 ⟨rfl, rfl⟩ : ok_X12_offsetOf v2 (M91 11 0 23) M91 (fun r _ M' => (M91 50 0 (585 * v2 + (29 + (M91 11 0 23))).toNatClampNeg) = r ∧ M91 = M')) rfl (show 0 < 1 by decide) (by decide) rfl rfl (by omega) (by decide) (by decide) ⟨rfl, rfl⟩ hl.1 (Nat.le_of_ble_eq_true rfl) dX12_dependence_141 (fun r109 r109n M110 H locs hq G => ?_)
                    obtain ⟨eq1, eq2⟩ := hq
                    subst eq1
                    subst eq2
                    refine lv_aload_n C.x C.b dX12_dependence_144 rfl (lv_at hl 1 rfl) ?_
                    refine lv_iload_n C.x C.b dX12_dependence_145 rfl (lv_at hl 2 rfl) ?_
                    refine lv_aload_n C.x C.b dX12_dependence_146 rfl (lv_at hl 1 rfl) ?_
                    refine jr_get C G jc11 22 (v := .int (M91 11 0 22)) (show 0 < 1 by decide) (by decide) (by decide) rfl wd1213 dX12_dependence_147 ?_
                    obtain ⟨hp114, h⟩ := h
                    refine jr_V (d' := 4) C G jc11 jm_X12_offsetOf wd1449 (sp_X12_offsetOf hp114 ⟨rfl, rfl⟩ : ok_X12_offsetOf v1 (M91 11 0 22) M91 (fun r _ M' => (M91 50 0 (585 * v1 + (29 + (M91 11 0 22))).toNatClampNeg) = r ∧ M91 = M')) rfl (show 0 < 1 by decide) (by decide) rfl rfl (by omega) (by decide) (by decide) ⟨rfl, rfl⟩ hl.1 (Nat.le_of_ble_eq_true rfl) dX12_dependence_150 (fun r112 r112n M113 H locs hq G => ?_)
                    obtain ⟨eq1, eq2⟩ := hq
                    subst eq1
                    subst eq2
                    refine lv_isub C.x C.b dX12_dependence_153 ?_
                    exact jr_retI C hr G h (by decide) (by decide) dX12_dependence_154
                  · have h := h.1 hc
                    refine lv_iload C.x C.b dX12_dependence_130 (lv_at hl 0 rfl) ?_
                    refine lv_goto (tgt := 154) C.x C.b dX12_dependence_132 (by decide) ?_
                    exact jr_retI C hr G h (by decide) (by decide) dX12_dependence_154
                · have h := h.1 hc
                  refine lv_aload_n C.x C.b dX12_dependence_112 rfl (lv_at hl 1 rfl) ?_
                  refine lv_iload_n C.x C.b dX12_dependence_113 rfl (lv_at hl 2 rfl) ?_
                  refine lv_aload_n C.x C.b dX12_dependence_114 rfl (lv_at hl 1 rfl) ?_
                  refine jr_get C G jc11 22 (v := .int (M91 11 0 22)) (show 0 < 1 by decide) (by decide) (by decide) rfl wd1213 dX12_dependence_115 ?_
                  obtain ⟨hp117, h⟩ := h
                  refine jr_V (d' := 4) C G jc11 jm_X12_arrayOf wd1445 (sp_X12_arrayOf hp117 ⟨rfl, rfl⟩ : ok_X12_arrayOf v1 (M91 11 0 22) M91 (fun r _ M' => (M91 50 0 (585 * v1 + (5 + (M91 11 0 22))).toNatClampNeg) = r ∧ M91 = M')) rfl (show 0 < 1 by decide) (by decide) rfl rfl (by omega) (by decide) (by decide) ⟨rfl, rfl⟩ hl.1 (Nat.le_of_ble_eq_true rfl) dX12_dependence_118 (fun r115 r115n M116 H locs hq G => ?_)
                  obtain ⟨eq1, eq2⟩ := hq
                  subst eq1
                  subst eq2
                  refine lv_goto (tgt := 154) C.x C.b dX12_dependence_121 (by decide) ?_
                  exact jr_retI C hr G h (by decide) (by decide) dX12_dependence_154
            · have h := h.2 (jb_0 hc)
              refine lv_iconst (v := 1) C.x C.b dX12_dependence_84 (by decide) ?_
              refine lv_goto (tgt := 105) C.x C.b dX12_dependence_85 (by decide) ?_
              refine lv_istore (lv' := [(5, .int 1), (0, .ref (g 11 0)), (1, .int v1), (2, .int v2), (3, .int v3), (4, .int v4)]) C.x C.b dX12_dependence_105 hl (by decide) rfl (fun ls hl => ?_)
              refine lv_iload C.x C.b dX12_dependence_107 (lv_at hl 5 rfl) ?_
              refine lv_if_ne (tgt := 124) C.x C.b dX12_dependence_109 (by decide) (fun hc => ?_) (fun hc => ?_)
              · have h := h.2 hc
                refine lv_iload C.x C.b dX12_dependence_124 (lv_at hl 5 rfl) ?_
                refine lv_iconst (v := 1) C.x C.b dX12_dependence_126 (by decide) ?_
                refine lv_icmp_ne (tgt := 135) C.x C.b dX12_dependence_127 (by decide) (fun hc => ?_) (fun hc => ?_)
                · have h := h.2 hc
                  refine lv_aload_n C.x C.b dX12_dependence_135 rfl (lv_at hl 1 rfl) ?_
                  refine lv_iload_n C.x C.b dX12_dependence_136 rfl (lv_at hl 3 rfl) ?_
                  refine lv_aload_n C.x C.b dX12_dependence_137 rfl (lv_at hl 1 rfl) ?_
                  refine jr_get C G jc11 23 (v := .int (M91 11 0 23)) (show 0 < 1 by decide) (by decide) (by decide) rfl wd1214 dX12_dependence_138 ?_
                  obtain ⟨hp120, h⟩ := h
                  refine jr_V (d' := 4) C G jc11 jm_X12_offsetOf wd1449 (sp_X12_offsetOf hp120 ⟨rfl, rfl⟩ : ok_X12_offsetOf v2 (M91 11 0 23) M91 (fun r _ M' => (M91 50 0 (585 * v2 + (29 + (M91 11 0 23))).toNatClampNeg) = r ∧ M91 = M')) rfl (show 0 < 1 by decide) (by decide) rfl rfl (by omega) (by decide) (by decide) ⟨rfl, rfl⟩ hl.1 (Nat.le_of_ble_eq_true rfl) dX12_dependence_141 (fun r118 r118n M119 H locs hq G => ?_)
                  obtain ⟨eq1, eq2⟩ := hq
                  subst eq1
                  subst eq2
                  refine lv_aload_n C.x C.b dX12_dependence_144 rfl (lv_at hl 1 rfl) ?_
                  refine lv_iload_n C.x C.b dX12_dependence_145 rfl (lv_at hl 2 rfl) ?_
                  refine lv_aload_n C.x C.b dX12_dependence_146 rfl (lv_at hl 1 rfl) ?_
                  refine jr_get C G jc11 22 (v := .int (M91 11 0 22)) (show 0 < 1 by decide) (by decide) (by decide) rfl wd1213 dX12_dependence_147 ?_
                  obtain ⟨hp123, h⟩ := h
                  refine jr_V (d' := 4) C G jc11 jm_X12_offsetOf wd1449 (sp_X12_offsetOf hp123 ⟨rfl, rfl⟩ : ok_X12_offsetOf v1 (M91 11 0 22) M91 (fun r _ M' => (M91 50 0 (585 * v1 + (29 + (M91 11 0 22))).toNatClampNeg) = r ∧ M91 = M')) rfl (show 0 < 1 by decide) (by decide) rfl rfl (by omega) (by decide) (by decide) ⟨rfl, rfl⟩ hl.1 (Nat.le_of_ble_eq_true rfl) dX12_dependence_150 (fun r121 r121n M122 H locs hq G => ?_)
                  obtain ⟨eq1, eq2⟩ := hq
                  subst eq1
                  subst eq2
                  refine lv_isub C.x C.b dX12_dependence_153 ?_
                  exact jr_retI C hr G h (by decide) (by decide) dX12_dependence_154
                · have h := h.1 hc
                  refine lv_iload C.x C.b dX12_dependence_130 (lv_at hl 0 rfl) ?_
                  refine lv_goto (tgt := 154) C.x C.b dX12_dependence_132 (by decide) ?_
                  exact jr_retI C hr G h (by decide) (by decide) dX12_dependence_154
              · have h := h.1 hc
                refine lv_aload_n C.x C.b dX12_dependence_112 rfl (lv_at hl 1 rfl) ?_
                refine lv_iload_n C.x C.b dX12_dependence_113 rfl (lv_at hl 2 rfl) ?_
                refine lv_aload_n C.x C.b dX12_dependence_114 rfl (lv_at hl 1 rfl) ?_
                refine jr_get C G jc11 22 (v := .int (M91 11 0 22)) (show 0 < 1 by decide) (by decide) (by decide) rfl wd1213 dX12_dependence_115 ?_
                obtain ⟨hp126, h⟩ := h
                refine jr_V (d' := 4) C G jc11 jm_X12_arrayOf wd1445 (sp_X12_arrayOf hp126 ⟨rfl, rfl⟩ : ok_X12_arrayOf v1 (M91 11 0 22) M91 (fun r _ M' => (M91 50 0 (585 * v1 + (5 + (M91 11 0 22))).toNatClampNeg) = r ∧ M91 = M')) rfl (show 0 < 1 by decide) (by decide) rfl rfl (by omega) (by decide) (by decide) ⟨rfl, rfl⟩ hl.1 (Nat.le_of_ble_eq_true rfl) dX12_dependence_118 (fun r124 r124n M125 H locs hq G => ?_)
                obtain ⟨eq1, eq2⟩ := hq
                subst eq1
                subst eq2
                refine lv_goto (tgt := 154) C.x C.b dX12_dependence_121 (by decide) ?_
                exact jr_retI C hr G h (by decide) (by decide) dX12_dependence_154
          · have h := h.2 (jb_0 hc)
            refine lv_aload_n C.x C.b dX12_dependence_66 rfl (lv_at hl 0 rfl) ?_
            refine lv_iconst (v := 3) C.x C.b dX12_dependence_67 (by decide) ?_
            refine jr_V (d' := 4) C G jc11 jm_X12_refuse wd1296 (sp_X12_refuse ⟨rfl, rfl⟩ : ok_X12_refuse 3 M91 (fun r _ M' => 0 = r ∧ M' = jup M91 11 0 7 3)) rfl (show 0 < 1 by decide) (by decide) rfl rfl (by omega) (by decide) (by decide) ⟨rfl, rfl⟩ hl.1 (Nat.le_of_ble_eq_true rfl) dX12_dependence_68 (fun r127 r127n M128 H locs hq G => ?_)
            obtain ⟨eq1, eM128⟩ := hq
            subst eq1
            have h := h M128 eM128
            have nM128 : jnb M128 = jnb M91 := by rw [eM128]; first | exact jnb_up (by decide) | simp [jnb_up]
            exact jr_retI C hr G h (by decide) (by decide) dX12_dependence_71
        · have h := h.2 hc
          refine lv_iconst (v := 0) C.x C.b dX12_dependence_47 (by decide) ?_
          exact jr_retI C hr G h (by decide) (by decide) dX12_dependence_48
      · have h := h.2 (jb_0 hc)
        refine lv_iconst (v := 1) C.x C.b dX12_dependence_27 (by decide) ?_
        refine lv_goto (tgt := 37) C.x C.b dX12_dependence_28 (by decide) ?_
        refine jr_put C G jc11 7 (v := 1) (show 0 < 1 by decide) (by decide) (by decide) rfl (by decide) wd1198 rfl rfl rfl rfl dX12_dependence_37 (fun H locs G => ?_)
        obtain ⟨M129, eM129⟩ : ∃ z : jM, z = jup M 11 0 7 1 := ⟨_, rfl⟩
        rw [← eM129] at G
        have h := h M129 eM129
        have nM129 : jnb M129 = jnb M := by rw [eM129]; exact jnb_up (by decide)
        refine lv_aload_n C.x C.b dX12_dependence_40 rfl (lv_at hl 0 rfl) ?_
        refine jr_get C G jc11 7 (v := .int (M129 11 0 7)) (show 0 < 1 by decide) (by decide) (by decide) rfl wd1198 dX12_dependence_41 ?_
        refine lv_if_le (tgt := 49) C.x C.b dX12_dependence_44 (by decide) (fun hc => ?_) (fun hc => ?_)
        · have h := h.1 hc
          refine lv_iload_n C.x C.b dX12_dependence_49 rfl (lv_at hl 3 rfl) ?_
          refine lv_iconst (v := 0) C.x C.b dX12_dependence_50 (by decide) ?_
          refine lv_aload_n C.x C.b dX12_dependence_51 rfl (lv_at hl 0 rfl) ?_
          refine lv_iload_n C.x C.b dX12_dependence_52 rfl (lv_at hl 1 rfl) ?_
          refine lv_iload_n C.x C.b dX12_dependence_53 rfl (lv_at hl 2 rfl) ?_
          refine lv_iload_n C.x C.b dX12_dependence_54 rfl (lv_at hl 3 rfl) ?_
          refine jr_V (d' := 4) C G jc11 jm_X12_dependences wd1469 h rfl (show 0 < 1 by decide) (by decide) rfl rfl (by omega) (by decide) (by decide) ⟨rfl, rfl⟩ hl.1 (Nat.le_of_ble_eq_true rfl) dX12_dependence_55 (fun r130 r130n M131 H locs h G => ?_)
          obtain ⟨nM131, h⟩ := h
          refine lv_iconst (v := 1) C.x C.b dX12_dependence_58 (by decide) ?_
          refine lv_isub C.x C.b dX12_dependence_59 ?_
          refine jr_S (d' := 4) C G jm_X12_in wd1293 (sp_X12_in ⟨rfl, rfl⟩ : ok_X12_in v3 0 (r130 - 1) M131 (fun r _ M' => jb (0 ≤ v3 ∧ v3 ≤ (r130 - 1)) = r ∧ M131 = M')) rfl rfl rfl (by omega) (by decide) (by decide) ⟨rfl, rfl⟩ hl.1 (Nat.le_of_ble_eq_true rfl) dX12_dependence_60 (fun r132 r132n M133 H locs hq G => ?_)
          obtain ⟨eq1, eq2⟩ := hq
          subst eq1
          subst eq2
          refine lv_if_ne (tgt := 72) C.x C.b dX12_dependence_63 (by decide) (fun hc => ?_) (fun hc => ?_)
          · have h := h.1 (jb_1 hc)
            refine lv_aload_n C.x C.b dX12_dependence_72 rfl (lv_at hl 0 rfl) ?_
            refine lv_iload_n C.x C.b dX12_dependence_73 rfl (lv_at hl 1 rfl) ?_
            refine lv_aload_n C.x C.b dX12_dependence_74 rfl (lv_at hl 0 rfl) ?_
            refine jr_get C G jc11 22 (v := .int (M131 11 0 22)) (show 0 < 1 by decide) (by decide) (by decide) rfl wd1213 dX12_dependence_75 ?_
            obtain ⟨hp136, h⟩ := h
            refine jr_V (d' := 4) C G jc11 jm_X12_isWrite wd1477 (sp_X12_isWrite hp136 ⟨rfl, rfl⟩ : ok_X12_isWrite v1 (M131 11 0 22) M131 (fun r _ M' => jb (M131 50 0 (585 * v1 + (53 + (M131 11 0 22))).toNatClampNeg = 1) = r ∧ M131 = M')) rfl (show 0 < 1 by decide) (by decide) rfl rfl (by omega) (by decide) (by decide) ⟨rfl, rfl⟩ hl.1 (Nat.le_of_ble_eq_true rfl) dX12_dependence_78 (fun r134 r134n M135 H locs hq G => ?_)
            obtain ⟨eq1, eq2⟩ := hq
            subst eq1
            subst eq2
            refine lv_if_ne (tgt := 88) C.x C.b dX12_dependence_81 (by decide) (fun hc => ?_) (fun hc => ?_)
            · have h := h.1 (jb_1 hc)
              refine lv_aload_n C.x C.b dX12_dependence_88 rfl (lv_at hl 0 rfl) ?_
              refine lv_iload_n C.x C.b dX12_dependence_89 rfl (lv_at hl 2 rfl) ?_
              refine lv_aload_n C.x C.b dX12_dependence_90 rfl (lv_at hl 0 rfl) ?_
              refine jr_get C G jc11 23 (v := .int (M131 11 0 23)) (show 0 < 1 by decide) (by decide) (by decide) rfl wd1214 dX12_dependence_91 ?_
              obtain ⟨hp139, h⟩ := h
              refine jr_V (d' := 4) C G jc11 jm_X12_isWrite wd1477 (sp_X12_isWrite hp139 ⟨rfl, rfl⟩ : ok_X12_isWrite v2 (M131 11 0 23) M131 (fun r _ M' => jb (M131 50 0 (585 * v2 + (53 + (M131 11 0 23))).toNatClampNeg = 1) = r ∧ M131 = M')) rfl (show 0 < 1 by decide) (by decide) rfl rfl (by omega) (by decide) (by decide) ⟨rfl, rfl⟩ hl.1 (Nat.le_of_ble_eq_true rfl) dX12_dependence_94 (fun r137 r137n M138 H locs hq G => ?_)
              obtain ⟨eq1, eq2⟩ := hq
              subst eq1
              subst eq2
              refine lv_if_eq (tgt := 104) C.x C.b dX12_dependence_97 (by decide) (fun hc => ?_) (fun hc => ?_)
              · have h := h.2 (jb_0 hc)
                refine lv_iconst (v := 0) C.x C.b dX12_dependence_104 (by decide) ?_
                refine lv_istore (lv' := [(5, .int 0), (0, .ref (g 11 0)), (1, .int v1), (2, .int v2), (3, .int v3), (4, .int v4)]) C.x C.b dX12_dependence_105 hl (by decide) rfl (fun ls hl => ?_)
                refine lv_iload C.x C.b dX12_dependence_107 (lv_at hl 5 rfl) ?_
                refine lv_if_ne (tgt := 124) C.x C.b dX12_dependence_109 (by decide) (fun hc => ?_) (fun hc => ?_)
                · have h := h.2 hc
                  refine lv_iload C.x C.b dX12_dependence_124 (lv_at hl 5 rfl) ?_
                  refine lv_iconst (v := 1) C.x C.b dX12_dependence_126 (by decide) ?_
                  refine lv_icmp_ne (tgt := 135) C.x C.b dX12_dependence_127 (by decide) (fun hc => ?_) (fun hc => ?_)
                  · have h := h.2 hc
                    refine lv_aload_n C.x C.b dX12_dependence_135 rfl (lv_at hl 1 rfl) ?_
                    refine lv_iload_n C.x C.b dX12_dependence_136 rfl (lv_at hl 3 rfl) ?_
                    refine lv_aload_n C.x C.b dX12_dependence_137 rfl (lv_at hl 1 rfl) ?_
                    refine jr_get C G jc11 23 (v := .int (M131 11 0 23)) (show 0 < 1 by decide) (by decide) (by decide) rfl wd1214 dX12_dependence_138 ?_
                    obtain ⟨hp142, h⟩ := h
                    refine jr_V (d' := 4) C G jc11 jm_X12_offsetOf wd1449 (sp_X12_offsetOf hp142 ⟨rfl, rfl⟩ : ok_X12_offsetOf v2 (M131 11 0 23) M131 (fun r _ M' => (M131 50 0 (585 * v2 + (29 + (M131 11 0 23))).toNatClampNeg) = r ∧ M131 = M')) rfl (show 0 < 1 by decide) (by decide) rfl rfl (by omega) (by decide) (by decide) ⟨rfl, rfl⟩ hl.1 (Nat.le_of_ble_eq_true rfl) dX12_dependence_141 (fun r140 r140n M141 H locs hq G => ?_)
                    obtain ⟨eq1, eq2⟩ := hq
                    subst eq1
                    subst eq2
                    refine lv_aload_n C.x C.b dX12_dependence_144 rfl (lv_at hl 1 rfl) ?_
                    refine lv_iload_n C.x C.b dX12_dependence_145 rfl (lv_at hl 2 rfl) ?_
                    refine lv_aload_n C.x C.b dX12_dependence_146 rfl (lv_at hl 1 rfl) ?_
                    refine jr_get C G jc11 22 (v := .int (M131 11 0 22)) (show 0 < 1 by decide) (by decide) (by decide) rfl wd1213 dX12_dependence_147 ?_
                    obtain ⟨hp145, h⟩ := h
                    refine jr_V (d' := 4) C G jc11 jm_X12_offsetOf wd1449 (sp_X12_offsetOf hp145 ⟨rfl, rfl⟩ : ok_X12_offsetOf v1 (M131 11 0 22) M131 (fun r _ M' => (M131 50 0 (585 * v1 + (29 + (M131 11 0 22))).toNatClampNeg) = r ∧ M131 = M')) rfl (show 0 < 1 by decide) (by decide) rfl rfl (by omega) (by decide) (by decide) ⟨rfl, rfl⟩ hl.1 (Nat.le_of_ble_eq_true rfl) dX12_dependence_150 (fun r143 r143n M144 H locs hq G => ?_)
                    obtain ⟨eq1, eq2⟩ := hq
                    subst eq1
                    subst eq2
                    refine lv_isub C.x C.b dX12_dependence_153 ?_
                    exact jr_retI C hr G h (by decide) (by decide) dX12_dependence_154
                  · have h := h.1 hc
                    refine lv_iload C.x C.b dX12_dependence_130 (lv_at hl 0 rfl) ?_
                    refine lv_goto (tgt := 154) C.x C.b dX12_dependence_132 (by decide) ?_
                    exact jr_retI C hr G h (by decide) (by decide) dX12_dependence_154
                · have h := h.1 hc
                  refine lv_aload_n C.x C.b dX12_dependence_112 rfl (lv_at hl 1 rfl) ?_
                  refine lv_iload_n C.x C.b dX12_dependence_113 rfl (lv_at hl 2 rfl) ?_
                  refine lv_aload_n C.x C.b dX12_dependence_114 rfl (lv_at hl 1 rfl) ?_
                  refine jr_get C G jc11 22 (v := .int (M131 11 0 22)) (show 0 < 1 by decide) (by decide) (by decide) rfl wd1213 dX12_dependence_115 ?_
                  obtain ⟨hp148, h⟩ := h
                  refine jr_V (d' := 4) C G jc11 jm_X12_arrayOf wd1445 (sp_X12_arrayOf hp148 ⟨rfl, rfl⟩ : ok_X12_arrayOf v1 (M131 11 0 22) M131 (fun r _ M' => (M131 50 0 (585 * v1 + (5 + (M131 11 0 22))).toNatClampNeg) = r ∧ M131 = M')) rfl (show 0 < 1 by decide) (by decide) rfl rfl (by omega) (by decide) (by decide) ⟨rfl, rfl⟩ hl.1 (Nat.le_of_ble_eq_true rfl) dX12_dependence_118 (fun r146 r146n M147 H locs hq G => ?_)
                  obtain ⟨eq1, eq2⟩ := hq
                  subst eq1
                  subst eq2
                  refine lv_goto (tgt := 154) C.x C.b dX12_dependence_121 (by decide) ?_
                  exact jr_retI C hr G h (by decide) (by decide) dX12_dependence_154
              · have h := h.1 (jb_1 hc)
                refine lv_iconst (v := 2) C.x C.b dX12_dependence_100 (by decide) ?_
                refine lv_goto (tgt := 105) C.x C.b dX12_dependence_101 (by decide) ?_
                refine lv_istore (lv' := [(5, .int 2), (0, .ref (g 11 0)), (1, .int v1), (2, .int v2), (3, .int v3), (4, .int v4)]) C.x C.b dX12_dependence_105 hl (by decide) rfl (fun ls hl => ?_)
                refine lv_iload C.x C.b dX12_dependence_107 (lv_at hl 5 rfl) ?_
                refine lv_if_ne (tgt := 124) C.x C.b dX12_dependence_109 (by decide) (fun hc => ?_) (fun hc => ?_)
                · have h := h.2 hc
                  refine lv_iload C.x C.b dX12_dependence_124 (lv_at hl 5 rfl) ?_
                  refine lv_iconst (v := 1) C.x C.b dX12_dependence_126 (by decide) ?_
                  refine lv_icmp_ne (tgt := 135) C.x C.b dX12_dependence_127 (by decide) (fun hc => ?_) (fun hc => ?_)
                  · have h := h.2 hc
                    refine lv_aload_n C.x C.b dX12_dependence_135 rfl (lv_at hl 1 rfl) ?_
                    refine lv_iload_n C.x C.b dX12_dependence_136 rfl (lv_at hl 3 rfl) ?_
                    refine lv_aload_n C.x C.b dX12_dependence_137 rfl (lv_at hl 1 rfl) ?_
                    refine jr_get C G jc11 23 (v := .int (M131 11 0 23)) (show 0 < 1 by decide) (by decide) (by decide) rfl wd1214 dX12_dependence_138 ?_
                    obtain ⟨hp151, h⟩ := h
                    refine jr_V (d' := 4) C G jc11 jm_X12_offsetOf wd1449 (sp_X12_offsetOf hp151 ⟨rfl, rfl⟩ : ok_X12_offsetOf v2 (M131 11 0 23) M131 (fun r _ M' => (M131 50 0 (585 * v2 + (29 + (M131 11 0 23))).toNatClampNeg) = r ∧ M131 = M')) rfl (show 0 < 1 by decide) (by decide) rfl rfl (by omega) (by decide) (by decide) ⟨rfl, rfl⟩ hl.1 (Nat.le_of_ble_eq_true rfl) dX12_dependence_141 (fun r149 r149n M150 H locs hq G => ?_)
                    obtain ⟨eq1, eq2⟩ := hq
                    subst eq1
                    subst eq2
                    refine lv_aload_n C.x C.b dX12_dependence_144 rfl (lv_at hl 1 rfl) ?_
                    refine lv_iload_n C.x C.b dX12_dependence_145 rfl (lv_at hl 2 rfl) ?_
                    refine lv_aload_n C.x C.b dX12_dependence_146 rfl (lv_at hl 1 rfl) ?_
                    refine jr_get C G jc11 22 (v := .int (M131 11 0 22)) (show 0 < 1 by decide) (by decide) (by decide) rfl wd1213 dX12_dependence_147 ?_
                    obtain ⟨hp154, h⟩ := h
                    refine jr_V (d' := 4) C G jc11 jm_X12_offsetOf wd1449 (sp_X12_offsetOf hp154 ⟨rfl, rfl⟩ : ok_X12_offsetOf v1 (M131 11 0 22) M131 (fun r _ M' => (M131 50 0 (585 * v1 + (29 + (M131 11 0 22))).toNatClampNeg) = r ∧ M131 = M')) rfl (show 0 < 1 by decide) (by decide) rfl rfl (by omega) (by decide) (by decide) ⟨rfl, rfl⟩ hl.1 (Nat.le_of_ble_eq_true rfl) dX12_dependence_150 (fun r152 r152n M153 H locs hq G => ?_)
                    obtain ⟨eq1, eq2⟩ := hq
                    subst eq1
                    subst eq2
                    refine lv_isub C.x C.b dX12_dependence_153 ?_
                    exact jr_retI C hr G h (by decide) (by decide) dX12_dependence_154
                  · have h := h.1 hc
                    refine lv_iload C.x C.b dX12_dependence_130 (lv_at hl 0 rfl) ?_
                    refine lv_goto (tgt := 154) C.x C.b dX12_dependence_132 (by decide) ?_
                    exact jr_retI C hr G h (by decide) (by decide) dX12_dependence_154
                · have h := h.1 hc
                  refine lv_aload_n C.x C.b dX12_dependence_112 rfl (lv_at hl 1 rfl) ?_
                  refine lv_iload_n C.x C.b dX12_dependence_113 rfl (lv_at hl 2 rfl) ?_
                  refine lv_aload_n C.x C.b dX12_dependence_114 rfl (lv_at hl 1 rfl) ?_
                  refine jr_get C G jc11 22 (v := .int (M131 11 0 22)) (show 0 < 1 by decide) (by decide) (by decide) rfl wd1213 dX12_dependence_115 ?_
                  obtain ⟨hp157, h⟩ := h
                  refine jr_V (d' := 4) C G jc11 jm_X12_arrayOf wd1445 (sp_X12_arrayOf hp157 ⟨rfl, rfl⟩ : ok_X12_arrayOf v1 (M131 11 0 22) M131 (fun r _ M' => (M131 50 0 (585 * v1 + (5 + (M131 11 0 22))).toNatClampNeg) = r ∧ M131 = M')) rfl (show 0 < 1 by decide) (by decide) rfl rfl (by omega) (by decide) (by decide) ⟨rfl, rfl⟩ hl.1 (Nat.le_of_ble_eq_true rfl) dX12_dependence_118 (fun r155 r155n M156 H locs hq G => ?_)
                  obtain ⟨eq1, eq2⟩ := hq
                  subst eq1
                  subst eq2
                  refine lv_goto (tgt := 154) C.x C.b dX12_dependence_121 (by decide) ?_
                  exact jr_retI C hr G h (by decide) (by decide) dX12_dependence_154
            · have h := h.2 (jb_0 hc)
              refine lv_iconst (v := 1) C.x C.b dX12_dependence_84 (by decide) ?_
              refine lv_goto (tgt := 105) C.x C.b dX12_dependence_85 (by decide) ?_
              refine lv_istore (lv' := [(5, .int 1), (0, .ref (g 11 0)), (1, .int v1), (2, .int v2), (3, .int v3), (4, .int v4)]) C.x C.b dX12_dependence_105 hl (by decide) rfl (fun ls hl => ?_)
              refine lv_iload C.x C.b dX12_dependence_107 (lv_at hl 5 rfl) ?_
              refine lv_if_ne (tgt := 124) C.x C.b dX12_dependence_109 (by decide) (fun hc => ?_) (fun hc => ?_)
              · have h := h.2 hc
                refine lv_iload C.x C.b dX12_dependence_124 (lv_at hl 5 rfl) ?_
                refine lv_iconst (v := 1) C.x C.b dX12_dependence_126 (by decide) ?_
                refine lv_icmp_ne (tgt := 135) C.x C.b dX12_dependence_127 (by decide) (fun hc => ?_) (fun hc => ?_)
                · have h := h.2 hc
                  refine lv_aload_n C.x C.b dX12_dependence_135 rfl (lv_at hl 1 rfl) ?_
                  refine lv_iload_n C.x C.b dX12_dependence_136 rfl (lv_at hl 3 rfl) ?_
                  refine lv_aload_n C.x C.b dX12_dependence_137 rfl (lv_at hl 1 rfl) ?_
                  refine jr_get C G jc11 23 (v := .int (M131 11 0 23)) (show 0 < 1 by decide) (by decide) (by decide) rfl wd1214 dX12_dependence_138 ?_
                  obtain ⟨hp160, h⟩ := h
                  refine jr_V (d' := 4) C G jc11 jm_X12_offsetOf wd1449 (sp_X12_offsetOf hp160 ⟨rfl, rfl⟩ : ok_X12_offsetOf v2 (M131 11 0 23) M131 (fun r _ M' => (M131 50 0 (585 * v2 + (29 + (M131 11 0 23))).toNatClampNeg) = r ∧ M131 = M')) rfl (show 0 < 1 by decide) (by decide) rfl rfl (by omega) (by decide) (by decide) ⟨rfl, rfl⟩ hl.1 (Nat.le_of_ble_eq_true rfl) dX12_dependence_141 (fun r158 r158n M159 H locs hq G => ?_)
                  obtain ⟨eq1, eq2⟩ := hq
                  subst eq1
                  subst eq2
                  refine lv_aload_n C.x C.b dX12_dependence_144 rfl (lv_at hl 1 rfl) ?_
                  refine lv_iload_n C.x C.b dX12_dependence_145 rfl (lv_at hl 2 rfl) ?_
                  refine lv_aload_n C.x C.b dX12_dependence_146 rfl (lv_at hl 1 rfl) ?_
                  refine jr_get C G jc11 22 (v := .int (M131 11 0 22)) (show 0 < 1 by decide) (by decide) (by decide) rfl wd1213 dX12_dependence_147 ?_
                  obtain ⟨hp163, h⟩ := h
                  refine jr_V (d' := 4) C G jc11 jm_X12_offsetOf wd1449 (sp_X12_offsetOf hp163 ⟨rfl, rfl⟩ : ok_X12_offsetOf v1 (M131 11 0 22) M131 (fun r _ M' => (M131 50 0 (585 * v1 + (29 + (M131 11 0 22))).toNatClampNeg) = r ∧ M131 = M')) rfl (show 0 < 1 by decide) (by decide) rfl rfl (by omega) (by decide) (by decide) ⟨rfl, rfl⟩ hl.1 (Nat.le_of_ble_eq_true rfl) dX12_dependence_150 (fun r161 r161n M162 H locs hq G => ?_)
                  obtain ⟨eq1, eq2⟩ := hq
                  subst eq1
                  subst eq2
                  refine lv_isub C.x C.b dX12_dependence_153 ?_
                  exact jr_retI C hr G h (by decide) (by decide) dX12_dependence_154
                · have h := h.1 hc
                  refine lv_iload C.x C.b dX12_dependence_130 (lv_at hl 0 rfl) ?_
                  refine lv_goto (tgt := 154) C.x C.b dX12_dependence_132 (by decide) ?_
                  exact jr_retI C hr G h (by decide) (by decide) dX12_dependence_154
              · have h := h.1 hc
                refine lv_aload_n C.x C.b dX12_dependence_112 rfl (lv_at hl 1 rfl) ?_
                refine lv_iload_n C.x C.b dX12_dependence_113 rfl (lv_at hl 2 rfl) ?_
                refine lv_aload_n C.x C.b dX12_dependence_114 rfl (lv_at hl 1 rfl) ?_
                refine jr_get C G jc11 22 (v := .int (M131 11 0 22)) (show 0 < 1 by decide) (by decide) (by decide) rfl wd1213 dX12_dependence_115 ?_
                obtain ⟨hp166, h⟩ := h
                refine jr_V (d' := 4) C G jc11 jm_X12_arrayOf wd1445 (sp_X12_arrayOf hp166 ⟨rfl, rfl⟩ : ok_X12_arrayOf v1 (M131 11 0 22) M131 (fun r _ M' => (M131 50 0 (585 * v1 + (5 + (M131 11 0 22))).toNatClampNeg) = r ∧ M131 = M')) rfl (show 0 < 1 by decide) (by decide) rfl rfl (by omega) (by decide) (by decide) ⟨rfl, rfl⟩ hl.1 (Nat.le_of_ble_eq_true rfl) dX12_dependence_118 (fun r164 r164n M165 H locs hq G => ?_)
                obtain ⟨eq1, eq2⟩ := hq
                subst eq1
                subst eq2
                refine lv_goto (tgt := 154) C.x C.b dX12_dependence_121 (by decide) ?_
                exact jr_retI C hr G h (by decide) (by decide) dX12_dependence_154
          · have h := h.2 (jb_0 hc)
            refine lv_aload_n C.x C.b dX12_dependence_66 rfl (lv_at hl 0 rfl) ?_
            refine lv_iconst (v := 3) C.x C.b dX12_dependence_67 (by decide) ?_
            refine jr_V (d' := 4) C G jc11 jm_X12_refuse wd1296 (sp_X12_refuse ⟨rfl, rfl⟩ : ok_X12_refuse 3 M131 (fun r _ M' => 0 = r ∧ M' = jup M131 11 0 7 3)) rfl (show 0 < 1 by decide) (by decide) rfl rfl (by omega) (by decide) (by decide) ⟨rfl, rfl⟩ hl.1 (Nat.le_of_ble_eq_true rfl) dX12_dependence_68 (fun r167 r167n M168 H locs hq G => ?_)
            obtain ⟨eq1, eM168⟩ := hq
            subst eq1
            have h := h M168 eM168
            have nM168 : jnb M168 = jnb M131 := by rw [eM168]; first | exact jnb_up (by decide) | simp [jnb_up]
            exact jr_retI C hr G h (by decide) (by decide) dX12_dependence_71
        · have h := h.2 hc
          refine lv_iconst (v := 0) C.x C.b dX12_dependence_47 (by decide) ?_
          exact jr_retI C hr G h (by decide) (by decide) dX12_dependence_48

theorem en_X12_required {v1 : Int32} {v2 : Int32} {M : jM} {Q : Int32 → Nat → jM → Prop} (h : at_X12_required_0 v1 v2 M Q) : ok_X12_required v1 v2 M Q := jr_enter (by decide) (fun g => rfl) (fun g => Nat.le_of_ble_eq_true rfl) h
set_option maxHeartbeats 4000000 in
set_option maxRecDepth 100000 in
theorem bl_X12_required_0 (v1 : Int32) (v2 : Int32) (M : jM) (Q : Int32 → Nat → jM → Prop) 
  (h : (∀ M3 : jM, M3 = jup M 11 0 7 (if ¬ (0 ≤ v1 ∧ v1 ≤ M 11 0 0 - 1) ∨ ¬ (0 ≤ v2 ∧ v2 ≤ M 11 0 0 - 1) then 1 else if v2 ≤ v1 then 2 else 0) → ((M3 11 0 7) ≤ 0 → ok_X12_dependences v1 v2 (-1) M3 (fun r4 _ M5 => jnb M5 = jnb M3 ∧ (r4 = 0 → (∀ M7 : jM, M7 = jup M5 11 0 7 3 → Q 0 0 M7)) ∧ (¬ (r4 = 0) → Q (M5 11 0 24) 0 M5))) ∧ (¬ ((M3 11 0 7) ≤ 0) → Q 0 0 M3))) :
  at_X12_required_0 v1 v2 M Q := by
  intro p l e s m args below meth c D cA base g C hr htb H locs G ls hl
  refine lv_aload_n C.x C.b dX12_required_0 rfl (lv_at hl 0 rfl) ?_
  refine lv_aload_n C.x C.b dX12_required_1 rfl (lv_at hl 0 rfl) ?_
  refine lv_iload_n C.x C.b dX12_required_2 rfl (lv_at hl 1 rfl) ?_
  refine lv_iload_n C.x C.b dX12_required_3 rfl (lv_at hl 2 rfl) ?_
  refine jr_V (d' := 4) C G jc11 jm_X12_wrong wd1465 (sp_X12_wrong ⟨rfl, rfl⟩ : ok_X12_wrong v1 v2 M (fun r _ M' => (if ¬ (0 ≤ v1 ∧ v1 ≤ M 11 0 0 - 1) ∨ ¬ (0 ≤ v2 ∧ v2 ≤ M 11 0 0 - 1) then 1 else if v2 ≤ v1 then 2 else 0) = r ∧ M = M')) rfl (show 0 < 1 by decide) (by decide) rfl rfl (by omega) (by decide) (by decide) ⟨rfl, rfl⟩ hl.1 (Nat.le_of_ble_eq_true rfl) dX12_required_4 (fun r1 r1n M2 H locs hq G => ?_)
  obtain ⟨eq1, eq2⟩ := hq
  subst eq1
  subst eq2
  refine jr_put C G jc11 7 (v := (if ¬ (0 ≤ v1 ∧ v1 ≤ M 11 0 0 - 1) ∨ ¬ (0 ≤ v2 ∧ v2 ≤ M 11 0 0 - 1) then 1 else if v2 ≤ v1 then 2 else 0)) (show 0 < 1 by decide) (by decide) (by decide) rfl (by decide) wd1198 rfl rfl rfl rfl dX12_required_7 (fun H locs G => ?_)
  obtain ⟨M3, eM3⟩ : ∃ z : jM, z = jup M 11 0 7 (if ¬ (0 ≤ v1 ∧ v1 ≤ M 11 0 0 - 1) ∨ ¬ (0 ≤ v2 ∧ v2 ≤ M 11 0 0 - 1) then 1 else if v2 ≤ v1 then 2 else 0) := ⟨_, rfl⟩
  rw [← eM3] at G
  have h := h M3 eM3
  have nM3 : jnb M3 = jnb M := by rw [eM3]; exact jnb_up (by decide)
  refine lv_aload_n C.x C.b dX12_required_10 rfl (lv_at hl 0 rfl) ?_
  refine jr_get C G jc11 7 (v := .int (M3 11 0 7)) (show 0 < 1 by decide) (by decide) (by decide) rfl wd1198 dX12_required_11 ?_
  refine lv_if_le (tgt := 19) C.x C.b dX12_required_14 (by decide) (fun hc => ?_) (fun hc => ?_)
  · have h := h.1 hc
    refine lv_aload_n C.x C.b dX12_required_19 rfl (lv_at hl 0 rfl) ?_
    refine lv_iload_n C.x C.b dX12_required_20 rfl (lv_at hl 1 rfl) ?_
    refine lv_iload_n C.x C.b dX12_required_21 rfl (lv_at hl 2 rfl) ?_
    refine lv_iconst (v := (-1)) C.x C.b dX12_required_22 (by decide) ?_
    refine jr_V (d' := 4) C G jc11 jm_X12_dependences wd1469 h rfl (show 0 < 1 by decide) (by decide) rfl rfl (by omega) (by decide) (by decide) ⟨rfl, rfl⟩ hl.1 (Nat.le_of_ble_eq_true rfl) dX12_required_23 (fun r4 r4n M5 H locs h G => ?_)
    obtain ⟨nM5, h⟩ := h
    refine lv_if_ne (tgt := 37) C.x C.b dX12_required_26 (by decide) (fun hc => ?_) (fun hc => ?_)
    · have h := h.2 hc
      refine lv_aload_n C.x C.b dX12_required_37 rfl (lv_at hl 0 rfl) ?_
      refine jr_get C G jc11 24 (v := .int (M5 11 0 24)) (show 0 < 1 by decide) (by decide) (by decide) rfl wd1215 dX12_required_38 ?_
      exact jr_retI C hr G h (by decide) (by decide) dX12_required_41
    · have h := h.1 hc
      refine lv_aload_n C.x C.b dX12_required_29 rfl (lv_at hl 0 rfl) ?_
      refine lv_iconst (v := 3) C.x C.b dX12_required_30 (by decide) ?_
      refine jr_V (d' := 4) C G jc11 jm_X12_refuse wd1296 (sp_X12_refuse ⟨rfl, rfl⟩ : ok_X12_refuse 3 M5 (fun r _ M' => 0 = r ∧ M' = jup M5 11 0 7 3)) rfl (show 0 < 1 by decide) (by decide) rfl rfl (by omega) (by decide) (by decide) ⟨rfl, rfl⟩ hl.1 (Nat.le_of_ble_eq_true rfl) dX12_required_31 (fun r6 r6n M7 H locs hq G => ?_)
      obtain ⟨eq1, eM7⟩ := hq
      subst eq1
      have h := h M7 eM7
      have nM7 : jnb M7 = jnb M5 := by rw [eM7]; first | exact jnb_up (by decide) | simp [jnb_up]
      refine lv_goto (tgt := 41) C.x C.b dX12_required_34 (by decide) ?_
      exact jr_retI C hr G h (by decide) (by decide) dX12_required_41
  · have h := h.2 hc
    refine lv_iconst (v := 0) C.x C.b dX12_required_17 (by decide) ?_
    exact jr_retI C hr G h (by decide) (by decide) dX12_required_18

theorem en_X12_layShifts {v1 : Int32} {v2 : Int32} {M : jM} {Q : Int32 → Nat → jM → Prop} (h : at_X12_layShifts_0 v1 v2 M Q) : ok_X12_layShifts v1 v2 M Q := jr_enter (by decide) (fun g => rfl) (fun g => Nat.le_of_ble_eq_true rfl) h
set_option maxHeartbeats 4000000 in
set_option maxRecDepth 100000 in
theorem bl_X12_layShifts_0 (v1 : Int32) (v2 : Int32) (M : jM) (Q : Int32 → Nat → jM → Prop) 
  (h : at_X12_layShifts_5 v1 v2 1 v1 M Q) :
  at_X12_layShifts_0 v1 v2 M Q := by
  intro p l e s m args below meth c D cA base g C hr htb H locs G ls hl
  refine lv_iconst (v := 1) C.x C.b dX12_layShifts_0 (by decide) ?_
  refine lv_istore_n (lv' := [(3, .int 1), (0, .ref (g 11 0)), (1, .int v1), (2, .int v2)]) C.x C.b dX12_layShifts_1 rfl hl (by decide) rfl (fun ls hl => ?_)
  refine lv_iload_n C.x C.b dX12_layShifts_2 rfl (lv_at hl 2 rfl) ?_
  refine lv_istore (lv' := [(4, .int v1), (3, .int 1), (0, .ref (g 11 0)), (1, .int v1), (2, .int v2)]) C.x C.b dX12_layShifts_3 hl (by decide) rfl (fun ls hl => ?_)
  exact h p l e s m args below meth c D cA base g C hr htb _ _ G ls (lv_sub hl [2, 3, 4, 1, 0] rfl)
set_option maxHeartbeats 4000000 in
set_option maxRecDepth 100000 in
theorem bl_X12_layShifts_5 (v1 : Int32) (v2 : Int32) (v3 : Int32) (v4 : Int32) (M : jM) (Q : Int32 → Nat → jM → Prop) 
  (h : (v2 < v4 → (v3 = 0 → (v1 = v2 → Q 1 0 M) ∧ (¬ (v1 = v2) → Q 0 0 M)) ∧ (¬ (v3 = 0) → Q 1 0 M)) ∧ (¬ (v2 < v4) → vp_in v4 6 ∧ (∀ M1 : jM, M1 = jup M 59 0 v4.toNatClampNeg 0 → at_X12_layShifts_22 v1 v2 v3 v4 v1 M1 Q))) :
  at_X12_layShifts_5 v1 v2 v3 v4 M Q := by
  intro p l e s m args below meth c D cA base g C hr htb H locs G ls hl
  refine lv_iload C.x C.b dX12_layShifts_5 (lv_at hl 4 rfl) ?_
  refine lv_iload_n C.x C.b dX12_layShifts_7 rfl (lv_at hl 2 rfl) ?_
  refine lv_icmp_gt (tgt := 122) C.x C.b dX12_layShifts_8 (by decide) (fun hc => ?_) (fun hc => ?_)
  · have h := h.1 hc
    refine lv_iload_n C.x C.b dX12_layShifts_122 rfl (lv_at hl 3 rfl) ?_
    refine lv_if_ne (tgt := 131) C.x C.b dX12_layShifts_123 (by decide) (fun hc => ?_) (fun hc => ?_)
    · have h := h.2 hc
      refine lv_iconst (v := 1) C.x C.b dX12_layShifts_131 (by decide) ?_
      refine lv_goto (tgt := 136) C.x C.b dX12_layShifts_132 (by decide) ?_
      exact jr_retZ C hr G rfl h (by decide) (by decide) dX12_layShifts_136
    · have h := h.1 hc
      refine lv_iload_n C.x C.b dX12_layShifts_126 rfl (lv_at hl 1 rfl) ?_
      refine lv_iload_n C.x C.b dX12_layShifts_127 rfl (lv_at hl 2 rfl) ?_
      refine lv_icmp_ne (tgt := 135) C.x C.b dX12_layShifts_128 (by decide) (fun hc => ?_) (fun hc => ?_)
      · have h := h.2 hc
        refine lv_iconst (v := 0) C.x C.b dX12_layShifts_135 (by decide) ?_
        exact jr_retZ C hr G rfl h (by decide) (by decide) dX12_layShifts_136
      · have h := h.1 hc
        refine lv_iconst (v := 1) C.x C.b dX12_layShifts_131 (by decide) ?_
        refine lv_goto (tgt := 136) C.x C.b dX12_layShifts_132 (by decide) ?_
        exact jr_retZ C hr G rfl h (by decide) (by decide) dX12_layShifts_136
  · have h := h.2 hc
    refine lv_aload_n C.x C.b dX12_layShifts_11 rfl (lv_at hl 0 rfl) ?_
    refine jr_get C G jc11 25 (v := .ref (g 59 0)) (show 0 < 1 by decide) (by decide) (by decide) rfl wd1216 dX12_layShifts_12 ?_
    refine lv_iload C.x C.b dX12_layShifts_15 (lv_at hl 4 rfl) ?_
    refine lv_iconst (v := 0) C.x C.b dX12_layShifts_17 (by decide) ?_
    obtain ⟨hs, h⟩ := h
    refine jr_ast C G (show 0 < 1 by decide) (by decide) (by decide) (by decide) rfl rfl hs dX12_layShifts_18 (fun H locs G => ?_)
    obtain ⟨M1, eM1⟩ : ∃ z : jM, z = jup M 59 0 v4.toNatClampNeg 0 := ⟨_, rfl⟩
    rw [← eM1] at G
    have h := h M1 eM1
    have nM1 : jnb M1 = jnb M := by rw [eM1]; exact jnb_up (by decide)
    refine lv_iload_n C.x C.b dX12_layShifts_19 rfl (lv_at hl 1 rfl) ?_
    refine lv_istore (lv' := [(5, .int v1), (0, .ref (g 11 0)), (1, .int v1), (2, .int v2), (3, .int v3), (4, .int v4)]) C.x C.b dX12_layShifts_20 hl (by decide) rfl (fun ls hl => ?_)
    exact h p l e s m args below meth c D cA base g C hr htb _ _ G ls (lv_sub hl [1, 2, 3, 4, 5, 0] rfl)
set_option maxHeartbeats 4000000 in
set_option maxRecDepth 100000 in
theorem bl_X12_layShifts_22 (v1 : Int32) (v2 : Int32) (v3 : Int32) (v4 : Int32) (v5 : Int32) (M : jM) (Q : Int32 → Nat → jM → Prop) 
  (h : (v4 ≤ v5 → vp_in v4 6 ∧ ((M 51 0 (0 : Int32).toNatClampNeg) < (M 59 0 v4.toNatClampNeg) → at_X12_layShifts_5 v1 v2 (v3 &&& 0) (v4 + 1) M Q) ∧ (¬ ((M 51 0 (0 : Int32).toNatClampNeg) < (M 59 0 v4.toNatClampNeg)) → (v4 = v1 → at_X12_layShifts_5 v1 v2 (v3 &&& 1) (v4 + 1) M Q) ∧ (¬ (v4 = v1) → (vp_in (585 * v4 + 2) 3510) ∧ ((M 50 0 (585 * v4 + 2).toNatClampNeg) = 0 → at_X12_layShifts_5 v1 v2 (v3 &&& 1) (v4 + 1) M Q) ∧ (¬ ((M 50 0 (585 * v4 + 2).toNatClampNeg) = 0) → at_X12_layShifts_5 v1 v2 (v3 &&& 0) (v4 + 1) M Q)))) ∧ (¬ (v4 ≤ v5) → ok_X12_dependences v5 v4 (-1) M (fun r4 _ M5 => jnb M5 = jnb M ∧ (r4 ≤ 0 → at_X12_layShifts_22 v1 v2 v3 v4 (v5 + 1) M5 Q) ∧ (¬ (r4 ≤ 0) → vp_in v4 6 ∧ vp_in v5 6 ∧ vp_in v4 6 ∧ (∀ M6 : jM, M6 = jup M5 59 0 v4.toNatClampNeg (jmax (M5 59 0 v4.toNatClampNeg) ((M5 59 0 v5.toNatClampNeg) + (M5 11 0 24))) → at_X12_layShifts_22 v1 v2 v3 v4 (v5 + 1) M6 Q))))) :
  at_X12_layShifts_22 v1 v2 v3 v4 v5 M Q := by
  intro p l e s m args below meth c D cA base g C hr htb H locs G ls hl
  refine lv_iload C.x C.b dX12_layShifts_22 (lv_at hl 5 rfl) ?_
  refine lv_iload C.x C.b dX12_layShifts_24 (lv_at hl 4 rfl) ?_
  refine lv_icmp_ge (tgt := 76) C.x C.b dX12_layShifts_26 (by decide) (fun hc => ?_) (fun hc => ?_)
  · have h := h.1 hc
    refine lv_iload_n C.x C.b dX12_layShifts_76 rfl (lv_at hl 3 rfl) ?_
    refine lv_aload_n C.x C.b dX12_layShifts_77 rfl (lv_at hl 0 rfl) ?_
    refine jr_get C G jc11 25 (v := .ref (g 59 0)) (show 0 < 1 by decide) (by decide) (by decide) rfl wd1216 dX12_layShifts_78 ?_
    refine lv_iload C.x C.b dX12_layShifts_81 (lv_at hl 4 rfl) ?_
    obtain ⟨hs, h⟩ := h
    refine jr_ald C G (show 0 < 1 by decide) (by decide) (by decide) (by decide) rfl rfl hs dX12_layShifts_83 ?_
    refine lv_aload_n C.x C.b dX12_layShifts_84 rfl (lv_at hl 0 rfl) ?_
    refine jr_get C G jc11 2 (v := .ref (g 51 0)) (show 0 < 1 by decide) (by decide) (by decide) rfl wd1193 dX12_layShifts_85 ?_
    refine lv_iconst (v := 0) C.x C.b dX12_layShifts_88 (by decide) ?_
    refine jr_ald C G (show 0 < 1 by decide) (by decide) (by decide) (by decide) rfl rfl (by unfold vp_in; decide) dX12_layShifts_89 ?_
    refine lv_icmp_gt (tgt := 113) C.x C.b dX12_layShifts_90 (by decide) (fun hc => ?_) (fun hc => ?_)
    · have h := h.1 hc
      refine lv_iconst (v := 0) C.x C.b dX12_layShifts_113 (by decide) ?_
      refine lv_iand C.x C.b dX12_layShifts_114 ?_
      refine lv_istore_n (lv' := [(3, .int (v3 &&& 0)), (0, .ref (g 11 0)), (1, .int v1), (2, .int v2), (4, .int v4), (5, .int v5)]) C.x C.b dX12_layShifts_115 rfl hl (by decide) rfl (fun ls hl => ?_)
      refine lv_iinc (v := v4 + 1) (lv' := [(4, .int (v4 + 1)), (3, .int (v3 &&& 0)), (0, .ref (g 11 0)), (1, .int v1), (2, .int v2), (5, .int v5)]) C.x C.b dX12_layShifts_116 hl (k := 4) rfl rfl (by decide) rfl (fun ls hl => ?_)
      refine lv_goto (tgt := 5) C.x C.b dX12_layShifts_119 (by decide) ?_
      exact h p l e s m args below meth c D cA base g C hr htb _ _ G ls (lv_sub hl [2, 3, 4, 1, 0] rfl)
    · have h := h.2 hc
      refine lv_iload C.x C.b dX12_layShifts_93 (lv_at hl 4 rfl) ?_
      refine lv_iload_n C.x C.b dX12_layShifts_95 rfl (lv_at hl 1 rfl) ?_
      refine lv_icmp_eq (tgt := 109) C.x C.b dX12_layShifts_96 (by decide) (fun hc => ?_) (fun hc => ?_)
      · have h := h.1 hc
        refine lv_iconst (v := 1) C.x C.b dX12_layShifts_109 (by decide) ?_
        refine lv_goto (tgt := 114) C.x C.b dX12_layShifts_110 (by decide) ?_
        refine lv_iand C.x C.b dX12_layShifts_114 ?_
        refine lv_istore_n (lv' := [(3, .int (v3 &&& 1)), (0, .ref (g 11 0)), (1, .int v1), (2, .int v2), (4, .int v4), (5, .int v5)]) C.x C.b dX12_layShifts_115 rfl hl (by decide) rfl (fun ls hl => ?_)
        refine lv_iinc (v := v4 + 1) (lv' := [(4, .int (v4 + 1)), (3, .int (v3 &&& 1)), (0, .ref (g 11 0)), (1, .int v1), (2, .int v2), (5, .int v5)]) C.x C.b dX12_layShifts_116 hl (k := 4) rfl rfl (by decide) rfl (fun ls hl => ?_)
        refine lv_goto (tgt := 5) C.x C.b dX12_layShifts_119 (by decide) ?_
        exact h p l e s m args below meth c D cA base g C hr htb _ _ G ls (lv_sub hl [2, 3, 4, 1, 0] rfl)
      · have h := h.2 hc
        refine lv_aload_n C.x C.b dX12_layShifts_99 rfl (lv_at hl 0 rfl) ?_
        refine lv_iload C.x C.b dX12_layShifts_100 (lv_at hl 4 rfl) ?_
        refine lv_iconst (v := 2) C.x C.b dX12_layShifts_102 (by decide) ?_
        obtain ⟨hp3, h⟩ := h
        refine jr_V (d' := 4) C G jc11 jm_X12_of wd1384 (sp_X12_of hp3 ⟨rfl, rfl⟩ : ok_X12_of v4 2 M (fun r _ M' => (M 50 0 (585 * v4 + 2).toNatClampNeg) = r ∧ M = M')) rfl (show 0 < 1 by decide) (by decide) rfl rfl (by omega) (by decide) (by decide) ⟨rfl, rfl⟩ hl.1 (Nat.le_of_ble_eq_true rfl) dX12_layShifts_103 (fun r1 r1n M2 H locs hq G => ?_)
        obtain ⟨eq1, eq2⟩ := hq
        subst eq1
        subst eq2
        refine lv_if_ne (tgt := 113) C.x C.b dX12_layShifts_106 (by decide) (fun hc => ?_) (fun hc => ?_)
        · have h := h.2 hc
          refine lv_iconst (v := 0) C.x C.b dX12_layShifts_113 (by decide) ?_
          refine lv_iand C.x C.b dX12_layShifts_114 ?_
          refine lv_istore_n (lv' := [(3, .int (v3 &&& 0)), (0, .ref (g 11 0)), (1, .int v1), (2, .int v2), (4, .int v4), (5, .int v5)]) C.x C.b dX12_layShifts_115 rfl hl (by decide) rfl (fun ls hl => ?_)
          refine lv_iinc (v := v4 + 1) (lv' := [(4, .int (v4 + 1)), (3, .int (v3 &&& 0)), (0, .ref (g 11 0)), (1, .int v1), (2, .int v2), (5, .int v5)]) C.x C.b dX12_layShifts_116 hl (k := 4) rfl rfl (by decide) rfl (fun ls hl => ?_)
          refine lv_goto (tgt := 5) C.x C.b dX12_layShifts_119 (by decide) ?_
          exact h p l e s m args below meth c D cA base g C hr htb _ _ G ls (lv_sub hl [2, 3, 4, 1, 0] rfl)
        · have h := h.1 hc
          refine lv_iconst (v := 1) C.x C.b dX12_layShifts_109 (by decide) ?_
          refine lv_goto (tgt := 114) C.x C.b dX12_layShifts_110 (by decide) ?_
          refine lv_iand C.x C.b dX12_layShifts_114 ?_
          refine lv_istore_n (lv' := [(3, .int (v3 &&& 1)), (0, .ref (g 11 0)), (1, .int v1), (2, .int v2), (4, .int v4), (5, .int v5)]) C.x C.b dX12_layShifts_115 rfl hl (by decide) rfl (fun ls hl => ?_)
          refine lv_iinc (v := v4 + 1) (lv' := [(4, .int (v4 + 1)), (3, .int (v3 &&& 1)), (0, .ref (g 11 0)), (1, .int v1), (2, .int v2), (5, .int v5)]) C.x C.b dX12_layShifts_116 hl (k := 4) rfl rfl (by decide) rfl (fun ls hl => ?_)
          refine lv_goto (tgt := 5) C.x C.b dX12_layShifts_119 (by decide) ?_
          exact h p l e s m args below meth c D cA base g C hr htb _ _ G ls (lv_sub hl [2, 3, 4, 1, 0] rfl)
  · have h := h.2 hc
    refine lv_aload_n C.x C.b dX12_layShifts_29 rfl (lv_at hl 0 rfl) ?_
    refine lv_iload C.x C.b dX12_layShifts_30 (lv_at hl 5 rfl) ?_
    refine lv_iload C.x C.b dX12_layShifts_32 (lv_at hl 4 rfl) ?_
    refine lv_iconst (v := (-1)) C.x C.b dX12_layShifts_34 (by decide) ?_
    refine jr_V (d' := 4) C G jc11 jm_X12_dependences wd1469 h rfl (show 0 < 1 by decide) (by decide) rfl rfl (by omega) (by decide) (by decide) ⟨rfl, rfl⟩ hl.1 (Nat.le_of_ble_eq_true rfl) dX12_layShifts_35 (fun r4 r4n M5 H locs h G => ?_)
    obtain ⟨nM5, h⟩ := h
    refine lv_if_le (tgt := 70) C.x C.b dX12_layShifts_38 (by decide) (fun hc => ?_) (fun hc => ?_)
    · have h := h.1 hc
      refine lv_iinc (v := v5 + 1) (lv' := [(5, .int (v5 + 1)), (0, .ref (g 11 0)), (1, .int v1), (2, .int v2), (3, .int v3), (4, .int v4)]) C.x C.b dX12_layShifts_70 hl (k := 5) rfl rfl (by decide) rfl (fun ls hl => ?_)
      refine lv_goto (tgt := 22) C.x C.b dX12_layShifts_73 (by decide) ?_
      exact h p l e s m args below meth c D cA base g C hr htb _ _ G ls (lv_sub hl [1, 2, 3, 4, 5, 0] rfl)
    · have h := h.2 hc
      refine lv_aload_n C.x C.b dX12_layShifts_41 rfl (lv_at hl 0 rfl) ?_
      refine jr_get C G jc11 25 (v := .ref (g 59 0)) (show 0 < 1 by decide) (by decide) (by decide) rfl wd1216 dX12_layShifts_42 ?_
      refine lv_iload C.x C.b dX12_layShifts_45 (lv_at hl 4 rfl) ?_
      refine lv_aload_n C.x C.b dX12_layShifts_47 rfl (lv_at hl 0 rfl) ?_
      refine jr_get C G jc11 25 (v := .ref (g 59 0)) (show 0 < 1 by decide) (by decide) (by decide) rfl wd1216 dX12_layShifts_48 ?_
      refine lv_iload C.x C.b dX12_layShifts_51 (lv_at hl 4 rfl) ?_
      obtain ⟨hs, h⟩ := h
      refine jr_ald C G (show 0 < 1 by decide) (by decide) (by decide) (by decide) rfl rfl hs dX12_layShifts_53 ?_
      refine lv_aload_n C.x C.b dX12_layShifts_54 rfl (lv_at hl 0 rfl) ?_
      refine jr_get C G jc11 25 (v := .ref (g 59 0)) (show 0 < 1 by decide) (by decide) (by decide) rfl wd1216 dX12_layShifts_55 ?_
      refine lv_iload C.x C.b dX12_layShifts_58 (lv_at hl 5 rfl) ?_
      obtain ⟨hs, h⟩ := h
      refine jr_ald C G (show 0 < 1 by decide) (by decide) (by decide) (by decide) rfl rfl hs dX12_layShifts_60 ?_
      refine lv_aload_n C.x C.b dX12_layShifts_61 rfl (lv_at hl 0 rfl) ?_
      refine jr_get C G jc11 24 (v := .int (M5 11 0 24)) (show 0 < 1 by decide) (by decide) (by decide) rfl wd1215 dX12_layShifts_62 ?_
      refine lv_iadd C.x C.b dX12_layShifts_65 ?_
      refine va_mmax C.x C.b (C.ml.trans hl.1.symm) C.ow (C.w _ wd1420) (C.w _ wd740) (C.w _ wd94) (C.w _ wd741) (by decide) (Nat.le_of_ble_eq_true rfl) (by decide) (by decide) dX12_layShifts_66 ?_
      rw [show (if (M5 59 0 v4.toNatClampNeg) < ((M5 59 0 v5.toNatClampNeg) + (M5 11 0 24)) then (M5 59 0 v5.toNatClampNeg) + (M5 11 0 24) else M5 59 0 v4.toNatClampNeg : Int32) = jmax (M5 59 0 v4.toNatClampNeg) ((M5 59 0 v5.toNatClampNeg) + (M5 11 0 24)) from rfl]
      obtain ⟨hs, h⟩ := h
      refine jr_ast C G (show 0 < 1 by decide) (by decide) (by decide) (by decide) rfl rfl hs dX12_layShifts_69 (fun H locs G => ?_)
      obtain ⟨M6, eM6⟩ : ∃ z : jM, z = jup M5 59 0 v4.toNatClampNeg (jmax (M5 59 0 v4.toNatClampNeg) ((M5 59 0 v5.toNatClampNeg) + (M5 11 0 24))) := ⟨_, rfl⟩
      rw [← eM6] at G
      have h := h M6 eM6
      have nM6 : jnb M6 = jnb M5 := by rw [eM6]; exact jnb_up (by decide)
      refine lv_iinc (v := v5 + 1) (lv' := [(5, .int (v5 + 1)), (0, .ref (g 11 0)), (1, .int v1), (2, .int v2), (3, .int v3), (4, .int v4)]) C.x C.b dX12_layShifts_70 hl (k := 5) rfl rfl (by decide) rfl (fun ls hl => ?_)
      refine lv_goto (tgt := 22) C.x C.b dX12_layShifts_73 (by decide) ?_
      exact h p l e s m args below meth c D cA base g C hr htb _ _ G ls (lv_sub hl [1, 2, 3, 4, 5, 0] rfl)

theorem en_X12_iterates {v1 : Int32} {v2 : Int32} {M : jM} {Q : Int32 → Nat → jM → Prop} (h : at_X12_iterates_0 v1 v2 M Q) : ok_X12_iterates v1 v2 M Q := jr_enter (by decide) (fun g => rfl) (fun g => Nat.le_of_ble_eq_true rfl) h
set_option maxHeartbeats 4000000 in
set_option maxRecDepth 100000 in
theorem bl_X12_iterates_0 (v1 : Int32) (v2 : Int32) (M : jM) (Q : Int32 → Nat → jM → Prop) 
  (h : at_X12_iterates_5 v1 v2 0 0 M Q) :
  at_X12_iterates_0 v1 v2 M Q := by
  intro p l e s m args below meth c D cA base g C hr htb H locs G ls hl
  refine lv_iconst (v := 0) C.x C.b dX12_iterates_0 (by decide) ?_
  refine lv_istore_n (lv' := [(3, .int 0), (0, .ref (g 11 0)), (1, .int v1), (2, .int v2)]) C.x C.b dX12_iterates_1 rfl hl (by decide) rfl (fun ls hl => ?_)
  refine lv_iconst (v := 0) C.x C.b dX12_iterates_2 (by decide) ?_
  refine lv_istore (lv' := [(4, .int 0), (3, .int 0), (0, .ref (g 11 0)), (1, .int v1), (2, .int v2)]) C.x C.b dX12_iterates_3 hl (by decide) rfl (fun ls hl => ?_)
  exact h p l e s m args below meth c D cA base g C hr htb _ _ G ls (lv_sub hl [2, 3, 4, 1, 0] rfl)
set_option maxHeartbeats 4000000 in
set_option maxRecDepth 100000 in
theorem bl_X12_iterates_5 (v1 : Int32) (v2 : Int32) (v3 : Int32) (v4 : Int32) (M : jM) (Q : Int32 → Nat → jM → Prop) 
  (h : (vp_in (585 * v1 + 3) 3510) ∧ ((M 50 0 (585 * v1 + 3).toNatClampNeg) ≤ v4 → Q 0 0 M) ∧ (¬ ((M 50 0 (585 * v1 + 3).toNatClampNeg) ≤ v4) → at_X12_iterates_16 v1 v2 v3 v4 M Q)) :
  at_X12_iterates_5 v1 v2 v3 v4 M Q := by
  intro p l e s m args below meth c D cA base g C hr htb H locs G ls hl
  refine lv_iload C.x C.b dX12_iterates_5 (lv_at hl 4 rfl) ?_
  refine lv_aload_n C.x C.b dX12_iterates_7 rfl (lv_at hl 0 rfl) ?_
  refine lv_iload_n C.x C.b dX12_iterates_8 rfl (lv_at hl 1 rfl) ?_
  refine lv_iconst (v := 3) C.x C.b dX12_iterates_9 (by decide) ?_
  obtain ⟨hp3, h⟩ := h
  refine jr_V (d' := 4) C G jc11 jm_X12_of wd1384 (sp_X12_of hp3 ⟨rfl, rfl⟩ : ok_X12_of v1 3 M (fun r _ M' => (M 50 0 (585 * v1 + 3).toNatClampNeg) = r ∧ M = M')) rfl (show 0 < 1 by decide) (by decide) rfl rfl (by omega) (by decide) (by decide) ⟨rfl, rfl⟩ hl.1 (Nat.le_of_ble_eq_true rfl) dX12_iterates_10 (fun r1 r1n M2 H locs hq G => ?_)
  obtain ⟨eq1, eq2⟩ := hq
  subst eq1
  subst eq2
  refine lv_icmp_ge (tgt := 71) C.x C.b dX12_iterates_13 (by decide) (fun hc => ?_) (fun hc => ?_)
  · have h := h.1 hc
    exact jr_retV C hr G h (by decide) (by decide) dX12_iterates_71
  · have h := h.2 hc
    exact h p l e s m args below meth c D cA base g C hr htb _ _ G ls (lv_sub hl [0, 1, 2, 3, 4] rfl)
set_option maxHeartbeats 4000000 in
set_option maxRecDepth 100000 in
theorem bl_X12_iterates_16 (v1 : Int32) (v2 : Int32) (v3 : Int32) (v4 : Int32) (M : jM) (Q : Int32 → Nat → jM → Prop) 
  (h : (vp_in (585 * v1 + (53 + v3)) 3510) ∧ ((M 50 0 (585 * v1 + (53 + v3)).toNatClampNeg = 1) → (vp_in (585 * v1 + (77 + v3)) 3510) ∧ ((M 50 0 (585 * v1 + (77 + v3)).toNatClampNeg) = v4 → (vp_in (585 * v1 + (5 + v3)) 3510) ∧ (vp_in (585 * v1 + (29 + v3)) 3510) ∧ ok_X12_valueOf v1 v4 v2 M (fun r11 _ M12 => jnb M12 = jnb M ∧ vp_in (((49 * M 50 0 (585 * v1 + (5 + v3)).toNatClampNeg + v2) + M 50 0 (585 * v1 + (29 + v3)).toNatClampNeg) + 9) 245 ∧ (∀ M13 : jM, M13 = jup M12 58 0 (((49 * M 50 0 (585 * v1 + (5 + v3)).toNatClampNeg + v2) + M 50 0 (585 * v1 + (29 + v3)).toNatClampNeg) + 9).toNatClampNeg r11 → at_X12_iterates_5 v1 v2 v3 (v4 + 1) M13 Q))) ∧ (¬ ((M 50 0 (585 * v1 + (77 + v3)).toNatClampNeg) = v4) → at_X12_iterates_16 v1 v2 (v3 + 1) v4 M Q)) ∧ (¬ (M 50 0 (585 * v1 + (53 + v3)).toNatClampNeg = 1) → at_X12_iterates_16 v1 v2 (v3 + 1) v4 M Q)) :
  at_X12_iterates_16 v1 v2 v3 v4 M Q := by
  intro p l e s m args below meth c D cA base g C hr htb H locs G ls hl
  refine lv_aload_n C.x C.b dX12_iterates_16 rfl (lv_at hl 0 rfl) ?_
  refine lv_iload_n C.x C.b dX12_iterates_17 rfl (lv_at hl 1 rfl) ?_
  refine lv_iload_n C.x C.b dX12_iterates_18 rfl (lv_at hl 3 rfl) ?_
  obtain ⟨hp3, h⟩ := h
  refine jr_V (d' := 4) C G jc11 jm_X12_isWrite wd1477 (sp_X12_isWrite hp3 ⟨rfl, rfl⟩ : ok_X12_isWrite v1 v3 M (fun r _ M' => jb (M 50 0 (585 * v1 + (53 + v3)).toNatClampNeg = 1) = r ∧ M = M')) rfl (show 0 < 1 by decide) (by decide) rfl rfl (by omega) (by decide) (by decide) ⟨rfl, rfl⟩ hl.1 (Nat.le_of_ble_eq_true rfl) dX12_iterates_19 (fun r1 r1n M2 H locs hq G => ?_)
  obtain ⟨eq1, eq2⟩ := hq
  subst eq1
  subst eq2
  refine lv_if_eq (tgt := 39) C.x C.b dX12_iterates_22 (by decide) (fun hc => ?_) (fun hc => ?_)
  · have h := h.2 (jb_0 hc)
    refine lv_iinc (v := v3 + 1) (lv' := [(3, .int (v3 + 1)), (0, .ref (g 11 0)), (1, .int v1), (2, .int v2), (4, .int v4)]) C.x C.b dX12_iterates_39 hl (k := 3) rfl rfl (by decide) rfl (fun ls hl => ?_)
    refine lv_goto (tgt := 16) C.x C.b dX12_iterates_42 (by decide) ?_
    exact h p l e s m args below meth c D cA base g C hr htb _ _ G ls (lv_sub hl [1, 2, 3, 0, 4] rfl)
  · have h := h.1 (jb_1 hc)
    refine lv_aload_n C.x C.b dX12_iterates_25 rfl (lv_at hl 0 rfl) ?_
    refine lv_iload_n C.x C.b dX12_iterates_26 rfl (lv_at hl 1 rfl) ?_
    refine lv_bipush (v := 77) C.x C.b dX12_iterates_27 (by decide) ?_
    refine lv_iload_n C.x C.b dX12_iterates_29 rfl (lv_at hl 3 rfl) ?_
    refine lv_iadd C.x C.b dX12_iterates_30 ?_
    obtain ⟨hp6, h⟩ := h
    refine jr_V (d' := 4) C G jc11 jm_X12_of wd1384 (sp_X12_of hp6 ⟨rfl, rfl⟩ : ok_X12_of v1 (77 + v3) M (fun r _ M' => (M 50 0 (585 * v1 + (77 + v3)).toNatClampNeg) = r ∧ M = M')) rfl (show 0 < 1 by decide) (by decide) rfl rfl (by omega) (by decide) (by decide) ⟨rfl, rfl⟩ hl.1 (Nat.le_of_ble_eq_true rfl) dX12_iterates_31 (fun r4 r4n M5 H locs hq G => ?_)
    obtain ⟨eq1, eq2⟩ := hq
    subst eq1
    subst eq2
    refine lv_iload C.x C.b dX12_iterates_34 (lv_at hl 4 rfl) ?_
    refine lv_icmp_eq (tgt := 45) C.x C.b dX12_iterates_36 (by decide) (fun hc => ?_) (fun hc => ?_)
    · have h := h.1 hc
      refine lv_aload_n C.x C.b dX12_iterates_45 rfl (lv_at hl 0 rfl) ?_
      refine jr_get C G jc11 21 (v := .ref (g 58 0)) (show 0 < 1 by decide) (by decide) (by decide) rfl wd1212 dX12_iterates_46 ?_
      refine lv_aload_n C.x C.b dX12_iterates_49 rfl (lv_at hl 0 rfl) ?_
      refine lv_iload_n C.x C.b dX12_iterates_50 rfl (lv_at hl 1 rfl) ?_
      refine lv_iload_n C.x C.b dX12_iterates_51 rfl (lv_at hl 3 rfl) ?_
      refine lv_iload_n C.x C.b dX12_iterates_52 rfl (lv_at hl 2 rfl) ?_
      obtain ⟨hp9, h⟩ := h
      obtain ⟨hp10, h⟩ := h
      refine jr_V (d' := 4) C G jc11 jm_X12_place wd1441 (sp_X12_place hp9 hp10 ⟨rfl, rfl⟩ : ok_X12_place v1 v3 v2 M (fun r _ M' => (((49 * M 50 0 (585 * v1 + (5 + v3)).toNatClampNeg + v2) + M 50 0 (585 * v1 + (29 + v3)).toNatClampNeg) + 9) = r ∧ M = M')) rfl (show 0 < 1 by decide) (by decide) rfl rfl (by omega) (by decide) (by decide) ⟨rfl, rfl⟩ hl.1 (Nat.le_of_ble_eq_true rfl) dX12_iterates_53 (fun r7 r7n M8 H locs hq G => ?_)
      obtain ⟨eq1, eq2⟩ := hq
      subst eq1
      subst eq2
      refine lv_aload_n C.x C.b dX12_iterates_56 rfl (lv_at hl 0 rfl) ?_
      refine lv_iload_n C.x C.b dX12_iterates_57 rfl (lv_at hl 1 rfl) ?_
      refine lv_iload C.x C.b dX12_iterates_58 (lv_at hl 4 rfl) ?_
      refine lv_iload_n C.x C.b dX12_iterates_60 rfl (lv_at hl 2 rfl) ?_
      refine jr_V (d' := 4) C G jc11 jm_X12_valueOf wd1437 h rfl (show 0 < 1 by decide) (by decide) rfl rfl (by omega) (by decide) (by decide) ⟨rfl, rfl⟩ hl.1 (Nat.le_of_ble_eq_true rfl) dX12_iterates_61 (fun r11 r11n M12 H locs h G => ?_)
      obtain ⟨nM12, h⟩ := h
      obtain ⟨hs, h⟩ := h
      refine jr_ast C G (show 0 < 1 by decide) (by decide) (by decide) (by decide) rfl rfl hs dX12_iterates_64 (fun H locs G => ?_)
      obtain ⟨M13, eM13⟩ : ∃ z : jM, z = jup M12 58 0 (((49 * M 50 0 (585 * v1 + (5 + v3)).toNatClampNeg + v2) + M 50 0 (585 * v1 + (29 + v3)).toNatClampNeg) + 9).toNatClampNeg r11 := ⟨_, rfl⟩
      rw [← eM13] at G
      have h := h M13 eM13
      have nM13 : jnb M13 = jnb M12 := by rw [eM13]; exact jnb_up (by decide)
      refine lv_iinc (v := v4 + 1) (lv' := [(4, .int (v4 + 1)), (0, .ref (g 11 0)), (1, .int v1), (2, .int v2), (3, .int v3)]) C.x C.b dX12_iterates_65 hl (k := 4) rfl rfl (by decide) rfl (fun ls hl => ?_)
      refine lv_goto (tgt := 5) C.x C.b dX12_iterates_68 (by decide) ?_
      exact h p l e s m args below meth c D cA base g C hr htb _ _ G ls (lv_sub hl [1, 2, 3, 4, 0] rfl)
    · have h := h.2 hc
      refine lv_iinc (v := v3 + 1) (lv' := [(3, .int (v3 + 1)), (0, .ref (g 11 0)), (1, .int v1), (2, .int v2), (4, .int v4)]) C.x C.b dX12_iterates_39 hl (k := 3) rfl rfl (by decide) rfl (fun ls hl => ?_)
      refine lv_goto (tgt := 16) C.x C.b dX12_iterates_42 (by decide) ?_
      exact h p l e s m args below meth c D cA base g C hr htb _ _ G ls (lv_sub hl [1, 2, 3, 0, 4] rfl)

theorem en_X12_statement  {M : jM} {Q : Int32 → Nat → jM → Prop} (h : at_X12_statement_0  M Q) : ok_X12_statement  M Q := jr_enter (by decide) (fun g => rfl) (fun g => Nat.le_of_ble_eq_true rfl) h
set_option maxHeartbeats 4000000 in
set_option maxRecDepth 100000 in
theorem bl_X12_statement_0  (M : jM) (Q : Int32 → Nat → jM → Prop) 
  (h : ok_X12_reference  M (fun r1 _ M2 => jnb M2 = jnb M ∧ ok_X12_take 61 M2 (fun _ _ M4 => jnb M4 = jnb M2 ∧ (M4 11 0 13 = 0 → ok_X12_sum  M4 (fun _ _ M6 => jnb M6 = jnb M4 ∧ (M6 11 0 13 = 0 → ok_X12_refers r1 1 M6 (fun _ _ M8 => jnb M8 = jnb M6 ∧ (vp_in (585 * M8 11 0 14 + 3) 11700) ∧ (vp_in (585 * M8 11 0 14 + 3) 11700) ∧ (∀ M13 : jM, M13 = jup M8 55 0 (585 * M8 11 0 14 + 3).toNatClampNeg ((M8 55 0 (585 * M8 11 0 14 + 3).toNatClampNeg) + 1) → Q 0 0 M13))) ∧ (¬ (M6 11 0 13 = 0) → Q 0 0 M6))) ∧ (¬ (M4 11 0 13 = 0) → Q 0 0 M4)))) :
  at_X12_statement_0  M Q := by
  intro p l e s m args below meth c D cA base g C hr htb H locs G ls hl
  refine lv_aload_n C.x C.b dX12_statement_0 rfl (lv_at hl 0 rfl) ?_
  refine jr_V (d' := 5) C G jc11 jm_X12_reference wd1340 h rfl (show 0 < 1 by decide) (by decide) rfl rfl (by omega) (by decide) (by decide) ⟨rfl, rfl⟩ hl.1 (Nat.le_of_ble_eq_true rfl) dX12_statement_1 (fun r1 r1n M2 H locs h G => ?_)
  obtain ⟨nM2, h⟩ := h
  refine lv_istore_n (lv' := [(1, .int r1), (0, .ref (g 11 0))]) C.x C.b dX12_statement_4 rfl hl (by decide) rfl (fun ls hl => ?_)
  refine lv_aload_n C.x C.b dX12_statement_5 rfl (lv_at hl 1 rfl) ?_
  refine lv_bipush (v := 61) C.x C.b dX12_statement_6 (by decide) ?_
  refine jr_V (d' := 5) C G jc11 jm_X12_take wd1312 h rfl (show 0 < 1 by decide) (by decide) rfl rfl (by omega) (by decide) (by decide) ⟨rfl, rfl⟩ hl.1 (Nat.le_of_ble_eq_true rfl) dX12_statement_8 (fun r3 r3n M4 H locs h G => ?_)
  obtain ⟨nM4, h⟩ := h
  refine lv_aload_n C.x C.b dX12_statement_11 rfl (lv_at hl 1 rfl) ?_
  refine jr_get C G jc11 13 (v := .int (M4 11 0 13)) (show 0 < 1 by decide) (by decide) (by decide) rfl wd1204 dX12_statement_12 ?_
  refine lv_if_eq (tgt := 19) C.x C.b dX12_statement_15 (by decide) (fun hc => ?_) (fun hc => ?_)
  · have h := h.1 hc
    refine lv_aload_n C.x C.b dX12_statement_19 rfl (lv_at hl 1 rfl) ?_
    refine jr_V (d' := 5) C G jc11 jm_X12_sum wd1344 h rfl (show 0 < 1 by decide) (by decide) rfl rfl (by omega) (by decide) (by decide) ⟨rfl, rfl⟩ hl.1 (Nat.le_of_ble_eq_true rfl) dX12_statement_20 (fun r5 r5n M6 H locs h G => ?_)
    obtain ⟨nM6, h⟩ := h
    refine lv_aload_n C.x C.b dX12_statement_23 rfl (lv_at hl 1 rfl) ?_
    refine jr_get C G jc11 13 (v := .int (M6 11 0 13)) (show 0 < 1 by decide) (by decide) (by decide) rfl wd1204 dX12_statement_24 ?_
    refine lv_if_ne (tgt := 48) C.x C.b dX12_statement_27 (by decide) (fun hc => ?_) (fun hc => ?_)
    · have h := h.2 hc
      exact jr_retV C hr G h (by decide) (by decide) dX12_statement_48
    · have h := h.1 hc
      refine lv_aload_n C.x C.b dX12_statement_30 rfl (lv_at hl 1 rfl) ?_
      refine lv_iload_n C.x C.b dX12_statement_31 rfl (lv_at hl 0 rfl) ?_
      refine lv_iconst (v := 1) C.x C.b dX12_statement_32 (by decide) ?_
      refine jr_V (d' := 5) C G jc11 jm_X12_refers wd1356 h rfl (show 0 < 1 by decide) (by decide) rfl rfl (by omega) (by decide) (by decide) ⟨rfl, rfl⟩ hl.1 (Nat.le_of_ble_eq_true rfl) dX12_statement_33 (fun r7 r7n M8 H locs h G => ?_)
      obtain ⟨nM8, h⟩ := h
      refine lv_aload_n C.x C.b dX12_statement_36 rfl (lv_at hl 1 rfl) ?_
      refine lv_iconst (v := 3) C.x C.b dX12_statement_37 (by decide) ?_
      refine lv_aload_n C.x C.b dX12_statement_38 rfl (lv_at hl 1 rfl) ?_
      refine lv_iconst (v := 3) C.x C.b dX12_statement_39 (by decide) ?_
      obtain ⟨hp11, h⟩ := h
      refine jr_V (d' := 5) C G jc11 jm_X12_get wd1332 (sp_X12_get hp11 ⟨rfl, rfl⟩ : ok_X12_get 3 M8 (fun r _ M' => (M8 55 0 (585 * M8 11 0 14 + 3).toNatClampNeg) = r ∧ M8 = M')) rfl (show 0 < 1 by decide) (by decide) rfl rfl (by omega) (by decide) (by decide) ⟨rfl, rfl⟩ hl.1 (Nat.le_of_ble_eq_true rfl) dX12_statement_40 (fun r9 r9n M10 H locs hq G => ?_)
      obtain ⟨eq1, eq2⟩ := hq
      subst eq1
      subst eq2
      refine lv_iconst (v := 1) C.x C.b dX12_statement_43 (by decide) ?_
      refine lv_iadd C.x C.b dX12_statement_44 ?_
      obtain ⟨hp14, h⟩ := h
      refine jr_V (d' := 5) C G jc11 jm_X12_set wd1308 (sp_X12_set hp14 ⟨rfl, rfl⟩ : ok_X12_set 3 ((M8 55 0 (585 * M8 11 0 14 + 3).toNatClampNeg) + 1) M8 (fun r _ M' => 0 = r ∧ M' = jup M8 55 0 (585 * M8 11 0 14 + 3).toNatClampNeg ((M8 55 0 (585 * M8 11 0 14 + 3).toNatClampNeg) + 1))) rfl (show 0 < 1 by decide) (by decide) rfl rfl (by omega) (by decide) (by decide) ⟨rfl, rfl⟩ hl.1 (Nat.le_of_ble_eq_true rfl) dX12_statement_45 (fun r12 r12n M13 H locs hq G => ?_)
      obtain ⟨eq1, eM13⟩ := hq
      subst eq1
      have h := h M13 eM13
      have nM13 : jnb M13 = jnb M8 := by rw [eM13]; first | exact jnb_up (by decide) | simp [jnb_up]
      exact jr_retV C hr G h (by decide) (by decide) dX12_statement_48
  · have h := h.2 hc
    exact jr_retV C hr G h (by decide) (by decide) dX12_statement_18

theorem en_X12_isAllowed {v1 : Int32} {v2 : Int32} {M : jM} {Q : Int32 → Nat → jM → Prop} (h : at_X12_isAllowed_0 v1 v2 M Q) : ok_X12_isAllowed v1 v2 M Q := jr_enter (by decide) (fun g => rfl) (fun g => Nat.le_of_ble_eq_true rfl) h
set_option maxHeartbeats 4000000 in
set_option maxRecDepth 100000 in
theorem bl_X12_isAllowed_0 (v1 : Int32) (v2 : Int32) (M : jM) (Q : Int32 → Nat → jM → Prop) 
  (h : ((0 ≤ v1 ∧ v1 ≤ M 11 0 0 - 1) → ((0 ≤ v2 ∧ v2 ≤ M 11 0 0 - 1) → (v1 ≤ v2 → (∀ M8 : jM, M8 = jup M 11 0 7 0 → (M8 11 0 7 = 0 → ok_X12_layShifts v1 v2 M8 (fun r9 _ M10 => jnb M10 = jnb M8 ∧ (r9 = 0 → Q 0 0 M10) ∧ (¬ (r9 = 0) → Q 1 0 M10))) ∧ (¬ (M8 11 0 7 = 0) → Q 0 0 M8))) ∧ (¬ (v1 ≤ v2) → (∀ M11 : jM, M11 = jup M 11 0 7 2 → (M11 11 0 7 = 0 → ok_X12_layShifts v1 v2 M11 (fun r12 _ M13 => jnb M13 = jnb M11 ∧ (r12 = 0 → Q 0 0 M13) ∧ (¬ (r12 = 0) → Q 1 0 M13))) ∧ (¬ (M11 11 0 7 = 0) → Q 0 0 M11)))) ∧ (¬ (0 ≤ v2 ∧ v2 ≤ M 11 0 0 - 1) → (∀ M14 : jM, M14 = jup M 11 0 7 1 → (M14 11 0 7 = 0 → ok_X12_layShifts v1 v2 M14 (fun r15 _ M16 => jnb M16 = jnb M14 ∧ (r15 = 0 → Q 0 0 M16) ∧ (¬ (r15 = 0) → Q 1 0 M16))) ∧ (¬ (M14 11 0 7 = 0) → Q 0 0 M14)))) ∧ (¬ (0 ≤ v1 ∧ v1 ≤ M 11 0 0 - 1) → (∀ M3 : jM, M3 = jup M 11 0 7 1 → (M3 11 0 7 = 0 → ok_X12_layShifts v1 v2 M3 (fun r4 _ M5 => jnb M5 = jnb M3 ∧ (r4 = 0 → Q 0 0 M5) ∧ (¬ (r4 = 0) → Q 1 0 M5))) ∧ (¬ (M3 11 0 7 = 0) → Q 0 0 M3)))) :
  at_X12_isAllowed_0 v1 v2 M Q := by
  intro p l e s m args below meth c D cA base g C hr htb H locs G ls hl
  refine lv_aload_n C.x C.b dX12_isAllowed_0 rfl (lv_at hl 0 rfl) ?_
  refine lv_aload_n C.x C.b dX12_isAllowed_1 rfl (lv_at hl 0 rfl) ?_
  refine lv_iload_n C.x C.b dX12_isAllowed_2 rfl (lv_at hl 1 rfl) ?_
  refine jr_V (d' := 5) C G jc11 jm_X12_isLoop wd1372 (sp_X12_isLoop ⟨rfl, rfl⟩ : ok_X12_isLoop v1 M (fun r _ M' => jb (0 ≤ v1 ∧ v1 ≤ M 11 0 0 - 1) = r ∧ M = M')) rfl (show 0 < 1 by decide) (by decide) rfl rfl (by omega) (by decide) (by decide) ⟨rfl, rfl⟩ hl.1 (Nat.le_of_ble_eq_true rfl) dX12_isAllowed_3 (fun r1 r1n M2 H locs hq G => ?_)
  obtain ⟨eq1, eq2⟩ := hq
  subst eq1
  subst eq2
  refine lv_if_eq (tgt := 17) C.x C.b dX12_isAllowed_6 (by decide) (fun hc => ?_) (fun hc => ?_)
  · have h := h.2 (jb_0 hc)
    refine lv_iconst (v := 1) C.x C.b dX12_isAllowed_17 (by decide) ?_
    refine lv_goto (tgt := 31) C.x C.b dX12_isAllowed_18 (by decide) ?_
    refine jr_put C G jc11 7 (v := 1) (show 0 < 1 by decide) (by decide) (by decide) rfl (by decide) wd1198 rfl rfl rfl rfl dX12_isAllowed_31 (fun H locs G => ?_)
    obtain ⟨M3, eM3⟩ : ∃ z : jM, z = jup M 11 0 7 1 := ⟨_, rfl⟩
    rw [← eM3] at G
    have h := h M3 eM3
    have nM3 : jnb M3 = jnb M := by rw [eM3]; exact jnb_up (by decide)
    refine lv_aload_n C.x C.b dX12_isAllowed_34 rfl (lv_at hl 0 rfl) ?_
    refine jr_get C G jc11 7 (v := .int (M3 11 0 7)) (show 0 < 1 by decide) (by decide) (by decide) rfl wd1198 dX12_isAllowed_35 ?_
    refine lv_if_ne (tgt := 54) C.x C.b dX12_isAllowed_38 (by decide) (fun hc => ?_) (fun hc => ?_)
    · have h := h.2 hc
      refine lv_iconst (v := 0) C.x C.b dX12_isAllowed_54 (by decide) ?_
      exact jr_retZ C hr G rfl h (by decide) (by decide) dX12_isAllowed_55
    · have h := h.1 hc
      refine lv_aload_n C.x C.b dX12_isAllowed_41 rfl (lv_at hl 0 rfl) ?_
      refine lv_iload_n C.x C.b dX12_isAllowed_42 rfl (lv_at hl 1 rfl) ?_
      refine lv_iload_n C.x C.b dX12_isAllowed_43 rfl (lv_at hl 2 rfl) ?_
      refine jr_V (d' := 5) C G jc11 jm_X12_layShifts wd1493 h rfl (show 0 < 1 by decide) (by decide) rfl rfl (by omega) (by decide) (by decide) ⟨rfl, rfl⟩ hl.1 (Nat.le_of_ble_eq_true rfl) dX12_isAllowed_44 (fun r4 r4n M5 H locs h G => ?_)
      obtain ⟨nM5, h⟩ := h
      refine lv_if_eq (tgt := 54) C.x C.b dX12_isAllowed_47 (by decide) (fun hc => ?_) (fun hc => ?_)
      · have h := h.1 hc
        refine lv_iconst (v := 0) C.x C.b dX12_isAllowed_54 (by decide) ?_
        exact jr_retZ C hr G rfl h (by decide) (by decide) dX12_isAllowed_55
      · have h := h.2 hc
        refine lv_iconst (v := 1) C.x C.b dX12_isAllowed_50 (by decide) ?_
        refine lv_goto (tgt := 55) C.x C.b dX12_isAllowed_51 (by decide) ?_
        exact jr_retZ C hr G rfl h (by decide) (by decide) dX12_isAllowed_55
  · have h := h.1 (jb_1 hc)
    refine lv_aload_n C.x C.b dX12_isAllowed_9 rfl (lv_at hl 0 rfl) ?_
    refine lv_iload_n C.x C.b dX12_isAllowed_10 rfl (lv_at hl 2 rfl) ?_
    refine jr_V (d' := 5) C G jc11 jm_X12_isLoop wd1372 (sp_X12_isLoop ⟨rfl, rfl⟩ : ok_X12_isLoop v2 M (fun r _ M' => jb (0 ≤ v2 ∧ v2 ≤ M 11 0 0 - 1) = r ∧ M = M')) rfl (show 0 < 1 by decide) (by decide) rfl rfl (by omega) (by decide) (by decide) ⟨rfl, rfl⟩ hl.1 (Nat.le_of_ble_eq_true rfl) dX12_isAllowed_11 (fun r6 r6n M7 H locs hq G => ?_)
    obtain ⟨eq1, eq2⟩ := hq
    subst eq1
    subst eq2
    refine lv_if_ne (tgt := 21) C.x C.b dX12_isAllowed_14 (by decide) (fun hc => ?_) (fun hc => ?_)
    · have h := h.1 (jb_1 hc)
      refine lv_iload_n C.x C.b dX12_isAllowed_21 rfl (lv_at hl 2 rfl) ?_
      refine lv_iload_n C.x C.b dX12_isAllowed_22 rfl (lv_at hl 1 rfl) ?_
      refine lv_icmp_ge (tgt := 30) C.x C.b dX12_isAllowed_23 (by decide) (fun hc => ?_) (fun hc => ?_)
      · have h := h.1 hc
        refine lv_iconst (v := 0) C.x C.b dX12_isAllowed_30 (by decide) ?_
        refine jr_put C G jc11 7 (v := 0) (show 0 < 1 by decide) (by decide) (by decide) rfl (by decide) wd1198 rfl rfl rfl rfl dX12_isAllowed_31 (fun H locs G => ?_)
        obtain ⟨M8, eM8⟩ : ∃ z : jM, z = jup M 11 0 7 0 := ⟨_, rfl⟩
        rw [← eM8] at G
        have h := h M8 eM8
        have nM8 : jnb M8 = jnb M := by rw [eM8]; exact jnb_up (by decide)
        refine lv_aload_n C.x C.b dX12_isAllowed_34 rfl (lv_at hl 0 rfl) ?_
        refine jr_get C G jc11 7 (v := .int (M8 11 0 7)) (show 0 < 1 by decide) (by decide) (by decide) rfl wd1198 dX12_isAllowed_35 ?_
        refine lv_if_ne (tgt := 54) C.x C.b dX12_isAllowed_38 (by decide) (fun hc => ?_) (fun hc => ?_)
        · have h := h.2 hc
          refine lv_iconst (v := 0) C.x C.b dX12_isAllowed_54 (by decide) ?_
          exact jr_retZ C hr G rfl h (by decide) (by decide) dX12_isAllowed_55
        · have h := h.1 hc
          refine lv_aload_n C.x C.b dX12_isAllowed_41 rfl (lv_at hl 0 rfl) ?_
          refine lv_iload_n C.x C.b dX12_isAllowed_42 rfl (lv_at hl 1 rfl) ?_
          refine lv_iload_n C.x C.b dX12_isAllowed_43 rfl (lv_at hl 2 rfl) ?_
          refine jr_V (d' := 5) C G jc11 jm_X12_layShifts wd1493 h rfl (show 0 < 1 by decide) (by decide) rfl rfl (by omega) (by decide) (by decide) ⟨rfl, rfl⟩ hl.1 (Nat.le_of_ble_eq_true rfl) dX12_isAllowed_44 (fun r9 r9n M10 H locs h G => ?_)
          obtain ⟨nM10, h⟩ := h
          refine lv_if_eq (tgt := 54) C.x C.b dX12_isAllowed_47 (by decide) (fun hc => ?_) (fun hc => ?_)
          · have h := h.1 hc
            refine lv_iconst (v := 0) C.x C.b dX12_isAllowed_54 (by decide) ?_
            exact jr_retZ C hr G rfl h (by decide) (by decide) dX12_isAllowed_55
          · have h := h.2 hc
            refine lv_iconst (v := 1) C.x C.b dX12_isAllowed_50 (by decide) ?_
            refine lv_goto (tgt := 55) C.x C.b dX12_isAllowed_51 (by decide) ?_
            exact jr_retZ C hr G rfl h (by decide) (by decide) dX12_isAllowed_55
      · have h := h.2 hc
        refine lv_iconst (v := 2) C.x C.b dX12_isAllowed_26 (by decide) ?_
        refine lv_goto (tgt := 31) C.x C.b dX12_isAllowed_27 (by decide) ?_
        refine jr_put C G jc11 7 (v := 2) (show 0 < 1 by decide) (by decide) (by decide) rfl (by decide) wd1198 rfl rfl rfl rfl dX12_isAllowed_31 (fun H locs G => ?_)
        obtain ⟨M11, eM11⟩ : ∃ z : jM, z = jup M 11 0 7 2 := ⟨_, rfl⟩
        rw [← eM11] at G
        have h := h M11 eM11
        have nM11 : jnb M11 = jnb M := by rw [eM11]; exact jnb_up (by decide)
        refine lv_aload_n C.x C.b dX12_isAllowed_34 rfl (lv_at hl 0 rfl) ?_
        refine jr_get C G jc11 7 (v := .int (M11 11 0 7)) (show 0 < 1 by decide) (by decide) (by decide) rfl wd1198 dX12_isAllowed_35 ?_
        refine lv_if_ne (tgt := 54) C.x C.b dX12_isAllowed_38 (by decide) (fun hc => ?_) (fun hc => ?_)
        · have h := h.2 hc
          refine lv_iconst (v := 0) C.x C.b dX12_isAllowed_54 (by decide) ?_
          exact jr_retZ C hr G rfl h (by decide) (by decide) dX12_isAllowed_55
        · have h := h.1 hc
          refine lv_aload_n C.x C.b dX12_isAllowed_41 rfl (lv_at hl 0 rfl) ?_
          refine lv_iload_n C.x C.b dX12_isAllowed_42 rfl (lv_at hl 1 rfl) ?_
          refine lv_iload_n C.x C.b dX12_isAllowed_43 rfl (lv_at hl 2 rfl) ?_
          refine jr_V (d' := 5) C G jc11 jm_X12_layShifts wd1493 h rfl (show 0 < 1 by decide) (by decide) rfl rfl (by omega) (by decide) (by decide) ⟨rfl, rfl⟩ hl.1 (Nat.le_of_ble_eq_true rfl) dX12_isAllowed_44 (fun r12 r12n M13 H locs h G => ?_)
          obtain ⟨nM13, h⟩ := h
          refine lv_if_eq (tgt := 54) C.x C.b dX12_isAllowed_47 (by decide) (fun hc => ?_) (fun hc => ?_)
          · have h := h.1 hc
            refine lv_iconst (v := 0) C.x C.b dX12_isAllowed_54 (by decide) ?_
            exact jr_retZ C hr G rfl h (by decide) (by decide) dX12_isAllowed_55
          · have h := h.2 hc
            refine lv_iconst (v := 1) C.x C.b dX12_isAllowed_50 (by decide) ?_
            refine lv_goto (tgt := 55) C.x C.b dX12_isAllowed_51 (by decide) ?_
            exact jr_retZ C hr G rfl h (by decide) (by decide) dX12_isAllowed_55
    · have h := h.2 (jb_0 hc)
      refine lv_iconst (v := 1) C.x C.b dX12_isAllowed_17 (by decide) ?_
      refine lv_goto (tgt := 31) C.x C.b dX12_isAllowed_18 (by decide) ?_
      refine jr_put C G jc11 7 (v := 1) (show 0 < 1 by decide) (by decide) (by decide) rfl (by decide) wd1198 rfl rfl rfl rfl dX12_isAllowed_31 (fun H locs G => ?_)
      obtain ⟨M14, eM14⟩ : ∃ z : jM, z = jup M 11 0 7 1 := ⟨_, rfl⟩
      rw [← eM14] at G
      have h := h M14 eM14
      have nM14 : jnb M14 = jnb M := by rw [eM14]; exact jnb_up (by decide)
      refine lv_aload_n C.x C.b dX12_isAllowed_34 rfl (lv_at hl 0 rfl) ?_
      refine jr_get C G jc11 7 (v := .int (M14 11 0 7)) (show 0 < 1 by decide) (by decide) (by decide) rfl wd1198 dX12_isAllowed_35 ?_
      refine lv_if_ne (tgt := 54) C.x C.b dX12_isAllowed_38 (by decide) (fun hc => ?_) (fun hc => ?_)
      · have h := h.2 hc
        refine lv_iconst (v := 0) C.x C.b dX12_isAllowed_54 (by decide) ?_
        exact jr_retZ C hr G rfl h (by decide) (by decide) dX12_isAllowed_55
      · have h := h.1 hc
        refine lv_aload_n C.x C.b dX12_isAllowed_41 rfl (lv_at hl 0 rfl) ?_
        refine lv_iload_n C.x C.b dX12_isAllowed_42 rfl (lv_at hl 1 rfl) ?_
        refine lv_iload_n C.x C.b dX12_isAllowed_43 rfl (lv_at hl 2 rfl) ?_
        refine jr_V (d' := 5) C G jc11 jm_X12_layShifts wd1493 h rfl (show 0 < 1 by decide) (by decide) rfl rfl (by omega) (by decide) (by decide) ⟨rfl, rfl⟩ hl.1 (Nat.le_of_ble_eq_true rfl) dX12_isAllowed_44 (fun r15 r15n M16 H locs h G => ?_)
        obtain ⟨nM16, h⟩ := h
        refine lv_if_eq (tgt := 54) C.x C.b dX12_isAllowed_47 (by decide) (fun hc => ?_) (fun hc => ?_)
        · have h := h.1 hc
          refine lv_iconst (v := 0) C.x C.b dX12_isAllowed_54 (by decide) ?_
          exact jr_retZ C hr G rfl h (by decide) (by decide) dX12_isAllowed_55
        · have h := h.2 hc
          refine lv_iconst (v := 1) C.x C.b dX12_isAllowed_50 (by decide) ?_
          refine lv_goto (tgt := 55) C.x C.b dX12_isAllowed_51 (by decide) ?_
          exact jr_retZ C hr G rfl h (by decide) (by decide) dX12_isAllowed_55

theorem en_X12_hitsOf {v1 : Int32} {v2 : Int32} {M : jM} {Q : Int32 → Nat → jM → Prop} (h : at_X12_hitsOf_0 v1 v2 M Q) : ok_X12_hitsOf v1 v2 M Q := jr_enter (by decide) (fun g => rfl) (fun g => Nat.le_of_ble_eq_true rfl) h
set_option maxHeartbeats 4000000 in
set_option maxRecDepth 100000 in
theorem bl_X12_hitsOf_0 (v1 : Int32) (v2 : Int32) (M : jM) (Q : Int32 → Nat → jM → Prop) 
  (h : ok_X12_layShifts v1 v2 M (fun r1 _ M2 => jnb M2 = jnb M ∧ at_X12_hitsOf_9 v1 v2 0 M2 Q)) :
  at_X12_hitsOf_0 v1 v2 M Q := by
  intro p l e s m args below meth c D cA base g C hr htb H locs G ls hl
  refine lv_aload_n C.x C.b dX12_hitsOf_0 rfl (lv_at hl 0 rfl) ?_
  refine lv_iload_n C.x C.b dX12_hitsOf_1 rfl (lv_at hl 1 rfl) ?_
  refine lv_iload_n C.x C.b dX12_hitsOf_2 rfl (lv_at hl 2 rfl) ?_
  refine jr_V (d' := 5) C G jc11 jm_X12_layShifts wd1493 h rfl (show 0 < 1 by decide) (by decide) rfl rfl (by omega) (by decide) (by decide) ⟨rfl, rfl⟩ hl.1 (Nat.le_of_ble_eq_true rfl) dX12_hitsOf_3 (fun r1 r1n M2 H locs h G => ?_)
  obtain ⟨nM2, h⟩ := h
  refine lv_pop C.x C.b dX12_hitsOf_6 rfl ?_
  refine lv_iconst (v := 0) C.x C.b dX12_hitsOf_7 (by decide) ?_
  refine lv_istore_n (lv' := [(3, .int 0), (0, .ref (g 11 0)), (1, .int v1), (2, .int v2)]) C.x C.b dX12_hitsOf_8 rfl hl (by decide) rfl (fun ls hl => ?_)
  exact h p l e s m args below meth c D cA base g C hr htb _ _ G ls (lv_sub hl [1, 2, 3, 0] rfl)
set_option maxHeartbeats 4000000 in
set_option maxRecDepth 100000 in
theorem bl_X12_hitsOf_9 (v1 : Int32) (v2 : Int32) (v3 : Int32) (M : jM) (Q : Int32 → Nat → jM → Prop) 
  (h : (245 ≤ v3 → ok_X12_stepOf v1 v2 0 M (fun r1 _ M2 => jnb M2 = jnb M ∧ ok_X12_stepOf v1 v2 1 M2 (fun r3 _ M4 => jnb M4 = jnb M2 ∧ at_X12_hitsOf_51 v1 v2 0 r1 r3 M4 Q))) ∧ (¬ (245 ≤ v3) → vp_in v3 245 ∧ (∀ M5 : jM, M5 = jup M 60 0 v3.toNatClampNeg (-1000) → at_X12_hitsOf_9 v1 v2 (v3 + 1) M5 Q))) :
  at_X12_hitsOf_9 v1 v2 v3 M Q := by
  intro p l e s m args below meth c D cA base g C hr htb H locs G ls hl
  refine lv_iload_n C.x C.b dX12_hitsOf_9 rfl (lv_at hl 3 rfl) ?_
  refine lv_sipush (v := 245) C.x C.b dX12_hitsOf_10 (by decide) ?_
  refine lv_icmp_ge (tgt := 31) C.x C.b dX12_hitsOf_13 (by decide) (fun hc => ?_) (fun hc => ?_)
  · have h := h.1 hc
    refine lv_iconst (v := 0) C.x C.b dX12_hitsOf_31 (by decide) ?_
    refine lv_istore_n (lv' := [(3, .int 0), (0, .ref (g 11 0)), (1, .int v1), (2, .int v2)]) C.x C.b dX12_hitsOf_32 rfl hl (by decide) rfl (fun ls hl => ?_)
    refine lv_aload_n C.x C.b dX12_hitsOf_33 rfl (lv_at hl 1 rfl) ?_
    refine lv_iload_n C.x C.b dX12_hitsOf_34 rfl (lv_at hl 2 rfl) ?_
    refine lv_iload_n C.x C.b dX12_hitsOf_35 rfl (lv_at hl 3 rfl) ?_
    refine lv_iconst (v := 0) C.x C.b dX12_hitsOf_36 (by decide) ?_
    refine jr_V (d' := 5) C G jc11 jm_X12_stepOf wd1505 h rfl (show 0 < 1 by decide) (by decide) rfl rfl (by omega) (by decide) (by decide) ⟨rfl, rfl⟩ hl.1 (Nat.le_of_ble_eq_true rfl) dX12_hitsOf_37 (fun r1 r1n M2 H locs h G => ?_)
    obtain ⟨nM2, h⟩ := h
    refine lv_istore (lv' := [(4, .int r1), (3, .int 0), (0, .ref (g 11 0)), (1, .int v1), (2, .int v2)]) C.x C.b dX12_hitsOf_40 hl (by decide) rfl (fun ls hl => ?_)
    refine lv_aload_n C.x C.b dX12_hitsOf_42 rfl (lv_at hl 2 rfl) ?_
    refine lv_iload_n C.x C.b dX12_hitsOf_43 rfl (lv_at hl 3 rfl) ?_
    refine lv_iload_n C.x C.b dX12_hitsOf_44 rfl (lv_at hl 4 rfl) ?_
    refine lv_iconst (v := 1) C.x C.b dX12_hitsOf_45 (by decide) ?_
    refine jr_V (d' := 5) C G jc11 jm_X12_stepOf wd1505 h rfl (show 0 < 1 by decide) (by decide) rfl rfl (by omega) (by decide) (by decide) ⟨rfl, rfl⟩ hl.1 (Nat.le_of_ble_eq_true rfl) dX12_hitsOf_46 (fun r3 r3n M4 H locs h G => ?_)
    obtain ⟨nM4, h⟩ := h
    refine lv_istore (lv' := [(5, .int r3), (4, .int r1), (3, .int 0), (0, .ref (g 11 0)), (1, .int v1), (2, .int v2)]) C.x C.b dX12_hitsOf_49 hl (by decide) rfl (fun ls hl => ?_)
    exact h p l e s m args below meth c D cA base g C hr htb _ _ G ls (lv_sub hl [3, 4, 5, 2, 1, 0] rfl)
  · have h := h.2 hc
    refine lv_aload_n C.x C.b dX12_hitsOf_16 rfl (lv_at hl 0 rfl) ?_
    refine jr_get C G jc11 26 (v := .ref (g 60 0)) (show 0 < 1 by decide) (by decide) (by decide) rfl wd1217 dX12_hitsOf_17 ?_
    refine lv_iload_n C.x C.b dX12_hitsOf_20 rfl (lv_at hl 3 rfl) ?_
    refine lv_sipush (v := (-1000)) C.x C.b dX12_hitsOf_21 (by decide) ?_
    obtain ⟨hs, h⟩ := h
    refine jr_ast C G (show 0 < 1 by decide) (by decide) (by decide) (by decide) rfl rfl hs dX12_hitsOf_24 (fun H locs G => ?_)
    obtain ⟨M5, eM5⟩ : ∃ z : jM, z = jup M 60 0 v3.toNatClampNeg (-1000) := ⟨_, rfl⟩
    rw [← eM5] at G
    have h := h M5 eM5
    have nM5 : jnb M5 = jnb M := by rw [eM5]; exact jnb_up (by decide)
    refine lv_iinc (v := v3 + 1) (lv' := [(3, .int (v3 + 1)), (0, .ref (g 11 0)), (1, .int v1), (2, .int v2)]) C.x C.b dX12_hitsOf_25 hl (k := 3) rfl rfl (by decide) rfl (fun ls hl => ?_)
    refine lv_goto (tgt := 9) C.x C.b dX12_hitsOf_28 (by decide) ?_
    exact h p l e s m args below meth c D cA base g C hr htb _ _ G ls (lv_sub hl [1, 2, 3, 0] rfl)
set_option maxHeartbeats 4000000 in
set_option maxRecDepth 100000 in
theorem bl_X12_hitsOf_51 (v1 : Int32) (v2 : Int32) (v3 : Int32) (v4 : Int32) (v5 : Int32) (M : jM) (Q : Int32 → Nat → jM → Prop) 
  (h : (v4 < v5 → Q v3 0 M) ∧ (¬ (v4 < v5) → at_X12_hitsOf_61 v1 v2 v3 v4 v5 v1 M Q)) :
  at_X12_hitsOf_51 v1 v2 v3 v4 v5 M Q := by
  intro p l e s m args below meth c D cA base g C hr htb H locs G ls hl
  refine lv_iload C.x C.b dX12_hitsOf_51 (lv_at hl 5 rfl) ?_
  refine lv_iload C.x C.b dX12_hitsOf_53 (lv_at hl 4 rfl) ?_
  refine lv_icmp_gt (tgt := 237) C.x C.b dX12_hitsOf_55 (by decide) (fun hc => ?_) (fun hc => ?_)
  · have h := h.1 hc
    refine lv_iload_n C.x C.b dX12_hitsOf_237 rfl (lv_at hl 3 rfl) ?_
    exact jr_retI C hr G h (by decide) (by decide) dX12_hitsOf_238
  · have h := h.2 hc
    refine lv_iload_n C.x C.b dX12_hitsOf_58 rfl (lv_at hl 1 rfl) ?_
    refine lv_istore (lv' := [(6, .int v1), (0, .ref (g 11 0)), (1, .int v1), (2, .int v2), (3, .int v3), (4, .int v4), (5, .int v5)]) C.x C.b dX12_hitsOf_59 hl (by decide) rfl (fun ls hl => ?_)
    exact h p l e s m args below meth c D cA base g C hr htb _ _ G ls (lv_sub hl [1, 2, 3, 4, 5, 6, 0] rfl)
set_option maxHeartbeats 4000000 in
set_option maxRecDepth 100000 in
theorem bl_X12_hitsOf_61 (v1 : Int32) (v2 : Int32) (v3 : Int32) (v4 : Int32) (v5 : Int32) (v6 : Int32) (M : jM) (Q : Int32 → Nat → jM → Prop) 
  (h : (v2 < v6 → at_X12_hitsOf_51 v1 v2 v3 v4 (v5 + 1) M Q) ∧ (¬ (v2 < v6) → vp_in v6 6 ∧ at_X12_hitsOf_82 v1 v2 v3 v4 v5 v6 (v5 - (M 59 0 v6.toNatClampNeg)) 0 M Q)) :
  at_X12_hitsOf_61 v1 v2 v3 v4 v5 v6 M Q := by
  intro p l e s m args below meth c D cA base g C hr htb H locs G ls hl
  refine lv_iload C.x C.b dX12_hitsOf_61 (lv_at hl 6 rfl) ?_
  refine lv_iload_n C.x C.b dX12_hitsOf_63 rfl (lv_at hl 2 rfl) ?_
  refine lv_icmp_gt (tgt := 231) C.x C.b dX12_hitsOf_64 (by decide) (fun hc => ?_) (fun hc => ?_)
  · have h := h.1 hc
    refine lv_iinc (v := v5 + 1) (lv' := [(5, .int (v5 + 1)), (0, .ref (g 11 0)), (1, .int v1), (2, .int v2), (3, .int v3), (4, .int v4), (6, .int v6)]) C.x C.b dX12_hitsOf_231 hl (k := 5) rfl rfl (by decide) rfl (fun ls hl => ?_)
    refine lv_goto (tgt := 51) C.x C.b dX12_hitsOf_234 (by decide) ?_
    exact h p l e s m args below meth c D cA base g C hr htb _ _ G ls (lv_sub hl [1, 2, 3, 4, 5, 0] rfl)
  · have h := h.2 hc
    refine lv_iload C.x C.b dX12_hitsOf_67 (lv_at hl 5 rfl) ?_
    refine lv_aload_n C.x C.b dX12_hitsOf_69 rfl (lv_at hl 0 rfl) ?_
    refine jr_get C G jc11 25 (v := .ref (g 59 0)) (show 0 < 1 by decide) (by decide) (by decide) rfl wd1216 dX12_hitsOf_70 ?_
    refine lv_iload C.x C.b dX12_hitsOf_73 (lv_at hl 6 rfl) ?_
    obtain ⟨hs, h⟩ := h
    refine jr_ald C G (show 0 < 1 by decide) (by decide) (by decide) (by decide) rfl rfl hs dX12_hitsOf_75 ?_
    refine lv_isub C.x C.b dX12_hitsOf_76 ?_
    refine lv_istore (lv' := [(7, .int (v5 - (M 59 0 v6.toNatClampNeg))), (0, .ref (g 11 0)), (1, .int v1), (2, .int v2), (3, .int v3), (4, .int v4), (5, .int v5), (6, .int v6)]) C.x C.b dX12_hitsOf_77 hl (by decide) rfl (fun ls hl => ?_)
    refine lv_iconst (v := 0) C.x C.b dX12_hitsOf_79 (by decide) ?_
    refine lv_istore (lv' := [(8, .int 0), (7, .int (v5 - (M 59 0 v6.toNatClampNeg))), (0, .ref (g 11 0)), (1, .int v1), (2, .int v2), (3, .int v3), (4, .int v4), (5, .int v5), (6, .int v6)]) C.x C.b dX12_hitsOf_80 hl (by decide) rfl (fun ls hl => ?_)
    exact h p l e s m args below meth c D cA base g C hr htb _ _ G ls (lv_sub hl [2, 3, 4, 5, 6, 7, 8, 1, 0] rfl)
set_option maxHeartbeats 4000000 in
set_option maxRecDepth 100000 in
theorem bl_X12_hitsOf_82 (v1 : Int32) (v2 : Int32) (v3 : Int32) (v4 : Int32) (v5 : Int32) (v6 : Int32) (v7 : Int32) (v8 : Int32) (M : jM) (Q : Int32 → Nat → jM → Prop) 
  (h : (vp_in (585 * v6 + 4) 3510) ∧ ((M 50 0 (585 * v6 + 4).toNatClampNeg) ≤ v8 → at_X12_hitsOf_61 v1 v2 v3 v4 v5 (v6 + 1) M Q) ∧ (¬ ((M 50 0 (585 * v6 + 4).toNatClampNeg) ≤ v8) → (vp_in (585 * v6 + 0) 3510) ∧ (vp_in (585 * v6 + 1) 3510) ∧ ((M 50 0 (585 * v6 + 0).toNatClampNeg ≤ v7 ∧ v7 ≤ M 50 0 (585 * v6 + 1).toNatClampNeg) → (vp_in (585 * v6 + (5 + v8)) 3510) ∧ (vp_in (585 * v6 + (29 + v8)) 3510) ∧ (vp_in (585 * v6 + (53 + v8)) 3510) ∧ ((M 50 0 (585 * v6 + (53 + v8)).toNatClampNeg = 1) → vp_in (((49 * M 50 0 (585 * v6 + (5 + v8)).toNatClampNeg + v7) + M 50 0 (585 * v6 + (29 + v8)).toNatClampNeg) + 9) 245 ∧ (∀ M15 : jM, M15 = jup M 60 0 (((49 * M 50 0 (585 * v6 + (5 + v8)).toNatClampNeg + v7) + M 50 0 (585 * v6 + (29 + v8)).toNatClampNeg) + 9).toNatClampNeg v5 → at_X12_hitsOf_82 v1 v2 v3 v4 v5 v6 v7 (v8 + 1) M15 Q)) ∧ (¬ (M 50 0 (585 * v6 + (53 + v8)).toNatClampNeg = 1) → vp_in (((49 * M 50 0 (585 * v6 + (5 + v8)).toNatClampNeg + v7) + M 50 0 (585 * v6 + (29 + v8)).toNatClampNeg) + 9) 245 ∧ ((M 51 0 (1 : Int32).toNatClampNeg) < (v5 - (M 60 0 (((49 * M 50 0 (585 * v6 + (5 + v8)).toNatClampNeg + v7) + M 50 0 (585 * v6 + (29 + v8)).toNatClampNeg) + 9).toNatClampNeg)) → (∀ M16 : jM, M16 = jup M 11 0 27 ((M 11 0 27) + 1) → (∀ M17 : jM, M17 = jup M16 11 0 28 (M16 11 0 28) → vp_in (((49 * M 50 0 (585 * v6 + (5 + v8)).toNatClampNeg + v7) + M 50 0 (585 * v6 + (29 + v8)).toNatClampNeg) + 9) 245 ∧ (∀ M18 : jM, M18 = jup M17 60 0 (((49 * M 50 0 (585 * v6 + (5 + v8)).toNatClampNeg + v7) + M 50 0 (585 * v6 + (29 + v8)).toNatClampNeg) + 9).toNatClampNeg v5 → at_X12_hitsOf_82 v1 v2 (v3 + 0) v4 v5 v6 v7 (v8 + 1) M18 Q)))) ∧ (¬ ((M 51 0 (1 : Int32).toNatClampNeg) < (v5 - (M 60 0 (((49 * M 50 0 (585 * v6 + (5 + v8)).toNatClampNeg + v7) + M 50 0 (585 * v6 + (29 + v8)).toNatClampNeg) + 9).toNatClampNeg))) → (∀ M19 : jM, M19 = jup M 11 0 27 ((M 11 0 27) + 1) → vp_in (((49 * M 50 0 (585 * v6 + (5 + v8)).toNatClampNeg + v7) + M 50 0 (585 * v6 + (29 + v8)).toNatClampNeg) + 9) 245 ∧ (∀ M20 : jM, M20 = jup M19 11 0 28 (jmax (M19 11 0 28) (v5 - (M19 60 0 (((49 * M 50 0 (585 * v6 + (5 + v8)).toNatClampNeg + v7) + M 50 0 (585 * v6 + (29 + v8)).toNatClampNeg) + 9).toNatClampNeg))) → vp_in (((49 * M 50 0 (585 * v6 + (5 + v8)).toNatClampNeg + v7) + M 50 0 (585 * v6 + (29 + v8)).toNatClampNeg) + 9) 245 ∧ (∀ M21 : jM, M21 = jup M20 60 0 (((49 * M 50 0 (585 * v6 + (5 + v8)).toNatClampNeg + v7) + M 50 0 (585 * v6 + (29 + v8)).toNatClampNeg) + 9).toNatClampNeg v5 → at_X12_hitsOf_82 v1 v2 (v3 + 1) v4 v5 v6 v7 (v8 + 1) M21 Q)))))) ∧ (¬ (M 50 0 (585 * v6 + 0).toNatClampNeg ≤ v7 ∧ v7 ≤ M 50 0 (585 * v6 + 1).toNatClampNeg) → at_X12_hitsOf_61 v1 v2 v3 v4 v5 (v6 + 1) M Q))) :
  at_X12_hitsOf_82 v1 v2 v3 v4 v5 v6 v7 v8 M Q := by
  intro p l e s m args below meth c D cA base g C hr htb H locs G ls hl
  refine lv_iload C.x C.b dX12_hitsOf_82 (lv_at hl 8 rfl) ?_
  refine lv_aload_n C.x C.b dX12_hitsOf_84 rfl (lv_at hl 0 rfl) ?_
  refine lv_iload C.x C.b dX12_hitsOf_85 (lv_at hl 6 rfl) ?_
  refine lv_iconst (v := 4) C.x C.b dX12_hitsOf_87 (by decide) ?_
  obtain ⟨hp3, h⟩ := h
  refine jr_V (d' := 5) C G jc11 jm_X12_of wd1384 (sp_X12_of hp3 ⟨rfl, rfl⟩ : ok_X12_of v6 4 M (fun r _ M' => (M 50 0 (585 * v6 + 4).toNatClampNeg) = r ∧ M = M')) rfl (show 0 < 1 by decide) (by decide) rfl rfl (by omega) (by decide) (by decide) ⟨rfl, rfl⟩ hl.1 (Nat.le_of_ble_eq_true rfl) dX12_hitsOf_88 (fun r1 r1n M2 H locs hq G => ?_)
  obtain ⟨eq1, eq2⟩ := hq
  subst eq1
  subst eq2
  refine lv_icmp_ge (tgt := 225) C.x C.b dX12_hitsOf_91 (by decide) (fun hc => ?_) (fun hc => ?_)
  · have h := h.1 hc
    refine lv_iinc (v := v6 + 1) (lv' := [(6, .int (v6 + 1)), (0, .ref (g 11 0)), (1, .int v1), (2, .int v2), (3, .int v3), (4, .int v4), (5, .int v5), (7, .int v7), (8, .int v8)]) C.x C.b dX12_hitsOf_225 hl (k := 6) rfl rfl (by decide) rfl (fun ls hl => ?_)
    refine lv_goto (tgt := 61) C.x C.b dX12_hitsOf_228 (by decide) ?_
    exact h p l e s m args below meth c D cA base g C hr htb _ _ G ls (lv_sub hl [1, 2, 3, 4, 5, 6, 0] rfl)
  · have h := h.2 hc
    refine lv_aload_n C.x C.b dX12_hitsOf_94 rfl (lv_at hl 0 rfl) ?_
    refine lv_iload C.x C.b dX12_hitsOf_95 (lv_at hl 6 rfl) ?_
    refine lv_iload C.x C.b dX12_hitsOf_97 (lv_at hl 7 rfl) ?_
    obtain ⟨hp6, h⟩ := h
    obtain ⟨hp7, h⟩ := h
    refine jr_V (d' := 5) C G jc11 jm_X12_isIteration wd1425 (sp_X12_isIteration hp6 hp7 ⟨rfl, rfl⟩ : ok_X12_isIteration v6 v7 M (fun r _ M' => jb (M 50 0 (585 * v6 + 0).toNatClampNeg ≤ v7 ∧ v7 ≤ M 50 0 (585 * v6 + 1).toNatClampNeg) = r ∧ M = M')) rfl (show 0 < 1 by decide) (by decide) rfl rfl (by omega) (by decide) (by decide) ⟨rfl, rfl⟩ hl.1 (Nat.le_of_ble_eq_true rfl) dX12_hitsOf_99 (fun r4 r4n M5 H locs hq G => ?_)
    obtain ⟨eq1, eq2⟩ := hq
    subst eq1
    subst eq2
    refine lv_if_eq (tgt := 225) C.x C.b dX12_hitsOf_102 (by decide) (fun hc => ?_) (fun hc => ?_)
    · have h := h.2 (jb_0 hc)
      refine lv_iinc (v := v6 + 1) (lv' := [(6, .int (v6 + 1)), (0, .ref (g 11 0)), (1, .int v1), (2, .int v2), (3, .int v3), (4, .int v4), (5, .int v5), (7, .int v7), (8, .int v8)]) C.x C.b dX12_hitsOf_225 hl (k := 6) rfl rfl (by decide) rfl (fun ls hl => ?_)
      refine lv_goto (tgt := 61) C.x C.b dX12_hitsOf_228 (by decide) ?_
      exact h p l e s m args below meth c D cA base g C hr htb _ _ G ls (lv_sub hl [1, 2, 3, 4, 5, 6, 0] rfl)
    · have h := h.1 (jb_1 hc)
      refine lv_aload_n C.x C.b dX12_hitsOf_105 rfl (lv_at hl 0 rfl) ?_
      refine lv_iload C.x C.b dX12_hitsOf_106 (lv_at hl 6 rfl) ?_
      refine lv_iload C.x C.b dX12_hitsOf_108 (lv_at hl 8 rfl) ?_
      refine lv_iload C.x C.b dX12_hitsOf_110 (lv_at hl 7 rfl) ?_
      obtain ⟨hp10, h⟩ := h
      obtain ⟨hp11, h⟩ := h
      refine jr_V (d' := 5) C G jc11 jm_X12_place wd1441 (sp_X12_place hp10 hp11 ⟨rfl, rfl⟩ : ok_X12_place v6 v8 v7 M (fun r _ M' => (((49 * M 50 0 (585 * v6 + (5 + v8)).toNatClampNeg + v7) + M 50 0 (585 * v6 + (29 + v8)).toNatClampNeg) + 9) = r ∧ M = M')) rfl (show 0 < 1 by decide) (by decide) rfl rfl (by omega) (by decide) (by decide) ⟨rfl, rfl⟩ hl.1 (Nat.le_of_ble_eq_true rfl) dX12_hitsOf_112 (fun r8 r8n M9 H locs hq G => ?_)
      obtain ⟨eq1, eq2⟩ := hq
      subst eq1
      subst eq2
      refine lv_istore (lv' := [(9, .int (((49 * M 50 0 (585 * v6 + (5 + v8)).toNatClampNeg + v7) + M 50 0 (585 * v6 + (29 + v8)).toNatClampNeg) + 9)), (0, .ref (g 11 0)), (1, .int v1), (2, .int v2), (3, .int v3), (4, .int v4), (5, .int v5), (6, .int v6), (7, .int v7), (8, .int v8)]) C.x C.b dX12_hitsOf_115 hl (by decide) rfl (fun ls hl => ?_)
      refine lv_aload_n C.x C.b dX12_hitsOf_117 rfl (lv_at hl 1 rfl) ?_
      refine lv_iload C.x C.b dX12_hitsOf_118 (lv_at hl 7 rfl) ?_
      refine lv_iload C.x C.b dX12_hitsOf_120 (lv_at hl 9 rfl) ?_
      obtain ⟨hp14, h⟩ := h
      refine jr_V (d' := 5) C G jc11 jm_X12_isWrite wd1477 (sp_X12_isWrite hp14 ⟨rfl, rfl⟩ : ok_X12_isWrite v6 v8 M (fun r _ M' => jb (M 50 0 (585 * v6 + (53 + v8)).toNatClampNeg = 1) = r ∧ M = M')) rfl (show 0 < 1 by decide) (by decide) rfl rfl (by omega) (by decide) (by decide) ⟨rfl, rfl⟩ hl.1 (Nat.le_of_ble_eq_true rfl) dX12_hitsOf_122 (fun r12 r12n M13 H locs hq G => ?_)
      obtain ⟨eq1, eq2⟩ := hq
      subst eq1
      subst eq2
      refine lv_if_ne (tgt := 210) C.x C.b dX12_hitsOf_125 (by decide) (fun hc => ?_) (fun hc => ?_)
      · have h := h.1 (jb_1 hc)
        refine lv_aload_n C.x C.b dX12_hitsOf_210 rfl (lv_at hl 1 rfl) ?_
        refine jr_get C G jc11 26 (v := .ref (g 60 0)) (show 0 < 1 by decide) (by decide) (by decide) rfl wd1217 dX12_hitsOf_211 ?_
        refine lv_iload C.x C.b dX12_hitsOf_214 (lv_at hl 0 rfl) ?_
        refine lv_iload C.x C.b dX12_hitsOf_216 (lv_at hl 6 rfl) ?_
        obtain ⟨hs, h⟩ := h
        refine jr_ast C G (show 0 < 1 by decide) (by decide) (by decide) (by decide) rfl rfl hs dX12_hitsOf_218 (fun H locs G => ?_)
        obtain ⟨M15, eM15⟩ : ∃ z : jM, z = jup M 60 0 (((49 * M 50 0 (585 * v6 + (5 + v8)).toNatClampNeg + v7) + M 50 0 (585 * v6 + (29 + v8)).toNatClampNeg) + 9).toNatClampNeg v5 := ⟨_, rfl⟩
        rw [← eM15] at G
        have h := h M15 eM15
        have nM15 : jnb M15 = jnb M := by rw [eM15]; exact jnb_up (by decide)
        refine lv_iinc (v := v8 + 1) (lv' := [(8, .int (v8 + 1)), (9, .int (((49 * M 50 0 (585 * v6 + (5 + v8)).toNatClampNeg + v7) + M 50 0 (585 * v6 + (29 + v8)).toNatClampNeg) + 9)), (0, .ref (g 11 0)), (1, .int v1), (2, .int v2), (3, .int v3), (4, .int v4), (5, .int v5), (6, .int v6), (7, .int v7)]) C.x C.b dX12_hitsOf_219 hl (k := 9) rfl rfl (by decide) rfl (fun ls hl => ?_)
        refine lv_goto (tgt := 82) C.x C.b dX12_hitsOf_222 (by decide) ?_
        exact h p l e s m args below meth c D cA base g C hr htb _ _ G ls (lv_sub hl [2, 3, 4, 5, 6, 7, 8, 9, 0] rfl)
      · have h := h.2 (jb_0 hc)
        refine lv_iload C.x C.b dX12_hitsOf_128 (lv_at hl 6 rfl) ?_
        refine lv_aload_n C.x C.b dX12_hitsOf_130 rfl (lv_at hl 1 rfl) ?_
        refine jr_get C G jc11 26 (v := .ref (g 60 0)) (show 0 < 1 by decide) (by decide) (by decide) rfl wd1217 dX12_hitsOf_131 ?_
        refine lv_iload C.x C.b dX12_hitsOf_134 (lv_at hl 0 rfl) ?_
        obtain ⟨hs, h⟩ := h
        refine jr_ald C G (show 0 < 1 by decide) (by decide) (by decide) (by decide) rfl rfl hs dX12_hitsOf_136 ?_
        refine lv_isub C.x C.b dX12_hitsOf_137 ?_
        refine lv_aload_n C.x C.b dX12_hitsOf_138 rfl (lv_at hl 1 rfl) ?_
        refine jr_get C G jc11 2 (v := .ref (g 51 0)) (show 0 < 1 by decide) (by decide) (by decide) rfl wd1193 dX12_hitsOf_139 ?_
        refine lv_iconst (v := 1) C.x C.b dX12_hitsOf_142 (by decide) ?_
        refine jr_ald C G (show 0 < 1 by decide) (by decide) (by decide) (by decide) rfl rfl (by unfold vp_in; decide) dX12_hitsOf_143 ?_
        refine lv_icmp_gt (tgt := 151) C.x C.b dX12_hitsOf_144 (by decide) (fun hc => ?_) (fun hc => ?_)
        · have h := h.1 hc
          refine lv_iconst (v := 0) C.x C.b dX12_hitsOf_151 (by decide) ?_
          refine lv_istore (lv' := [(10, .int 0), (9, .int (((49 * M 50 0 (585 * v6 + (5 + v8)).toNatClampNeg + v7) + M 50 0 (585 * v6 + (29 + v8)).toNatClampNeg) + 9)), (0, .ref (g 11 0)), (1, .int v1), (2, .int v2), (3, .int v3), (4, .int v4), (5, .int v5), (6, .int v6), (7, .int v7), (8, .int v8)]) C.x C.b dX12_hitsOf_152 hl (by decide) rfl (fun ls hl => ?_)
          refine lv_aload_n C.x C.b dX12_hitsOf_154 rfl (lv_at hl 2 rfl) ?_
          refine lv_dup C.x C.b dX12_hitsOf_155 rfl ?_
          refine jr_get C G jc11 27 (v := .int (M 11 0 27)) (show 0 < 1 by decide) (by decide) (by decide) rfl wd1218 dX12_hitsOf_156 ?_
          refine lv_iconst (v := 1) C.x C.b dX12_hitsOf_159 (by decide) ?_
          refine lv_iadd C.x C.b dX12_hitsOf_160 ?_
          refine jr_put C G jc11 27 (v := (M 11 0 27) + 1) (show 0 < 1 by decide) (by decide) (by decide) rfl (by decide) wd1218 rfl rfl rfl rfl dX12_hitsOf_161 (fun H locs G => ?_)
          obtain ⟨M16, eM16⟩ : ∃ z : jM, z = jup M 11 0 27 ((M 11 0 27) + 1) := ⟨_, rfl⟩
          rw [← eM16] at G
          have h := h M16 eM16
          have nM16 : jnb M16 = jnb M := by rw [eM16]; exact jnb_up (by decide)
          refine lv_iload_n C.x C.b dX12_hitsOf_164 rfl (lv_at hl 5 rfl) ?_
          refine lv_iload C.x C.b dX12_hitsOf_165 (lv_at hl 0 rfl) ?_
          refine lv_if_eq (tgt := 174) C.x C.b dX12_hitsOf_167 (by decide) (fun _ => ?_) (fun hc => absurd hc (by decide))
          refine lv_iconst (v := 0) C.x C.b dX12_hitsOf_174 (by decide) ?_
          refine lv_iadd C.x C.b dX12_hitsOf_175 ?_
          refine lv_istore_n (lv' := [(3, .int (v3 + 0)), (10, .int 0), (9, .int (((49 * M 50 0 (585 * v6 + (5 + v8)).toNatClampNeg + v7) + M 50 0 (585 * v6 + (29 + v8)).toNatClampNeg) + 9)), (0, .ref (g 11 0)), (1, .int v1), (2, .int v2), (4, .int v4), (5, .int v5), (6, .int v6), (7, .int v7), (8, .int v8)]) C.x C.b dX12_hitsOf_176 rfl hl (by decide) rfl (fun ls hl => ?_)
          refine lv_aload_n C.x C.b dX12_hitsOf_177 rfl (lv_at hl 3 rfl) ?_
          refine lv_iload C.x C.b dX12_hitsOf_178 (lv_at hl 1 rfl) ?_
          refine lv_if_eq (tgt := 203) C.x C.b dX12_hitsOf_180 (by decide) (fun _ => ?_) (fun hc => absurd hc (by decide))
          refine lv_aload_n C.x C.b dX12_hitsOf_203 rfl (lv_at hl 3 rfl) ?_
          refine jr_get C G jc11 28 (v := .int (M16 11 0 28)) (show 0 < 1 by decide) (by decide) (by decide) rfl wd1219 dX12_hitsOf_204 ?_
          refine jr_put C G jc11 28 (v := M16 11 0 28) (show 0 < 1 by decide) (by decide) (by decide) rfl (by decide) wd1219 rfl rfl rfl rfl dX12_hitsOf_207 (fun H locs G => ?_)
          obtain ⟨M17, eM17⟩ : ∃ z : jM, z = jup M16 11 0 28 (M16 11 0 28) := ⟨_, rfl⟩
          rw [← eM17] at G
          have h := h M17 eM17
          have nM17 : jnb M17 = jnb M16 := by rw [eM17]; exact jnb_up (by decide)
          refine lv_aload_n C.x C.b dX12_hitsOf_210 rfl (lv_at hl 3 rfl) ?_
          refine jr_get C G jc11 26 (v := .ref (g 60 0)) (show 0 < 1 by decide) (by decide) (by decide) rfl wd1217 dX12_hitsOf_211 ?_
          refine lv_iload C.x C.b dX12_hitsOf_214 (lv_at hl 2 rfl) ?_
          refine lv_iload C.x C.b dX12_hitsOf_216 (lv_at hl 7 rfl) ?_
          obtain ⟨hs, h⟩ := h
          refine jr_ast C G (show 0 < 1 by decide) (by decide) (by decide) (by decide) rfl rfl hs dX12_hitsOf_218 (fun H locs G => ?_)
          obtain ⟨M18, eM18⟩ : ∃ z : jM, z = jup M17 60 0 (((49 * M 50 0 (585 * v6 + (5 + v8)).toNatClampNeg + v7) + M 50 0 (585 * v6 + (29 + v8)).toNatClampNeg) + 9).toNatClampNeg v5 := ⟨_, rfl⟩
          rw [← eM18] at G
          have h := h M18 eM18
          have nM18 : jnb M18 = jnb M17 := by rw [eM18]; exact jnb_up (by decide)
          refine lv_iinc (v := v8 + 1) (lv' := [(8, .int (v8 + 1)), (3, .int (v3 + 0)), (10, .int 0), (9, .int (((49 * M 50 0 (585 * v6 + (5 + v8)).toNatClampNeg + v7) + M 50 0 (585 * v6 + (29 + v8)).toNatClampNeg) + 9)), (0, .ref (g 11 0)), (1, .int v1), (2, .int v2), (4, .int v4), (5, .int v5), (6, .int v6), (7, .int v7)]) C.x C.b dX12_hitsOf_219 hl (k := 10) rfl rfl (by decide) rfl (fun ls hl => ?_)
          refine lv_goto (tgt := 82) C.x C.b dX12_hitsOf_222 (by decide) ?_
          exact h p l e s m args below meth c D cA base g C hr htb _ _ G ls (lv_sub hl [4, 5, 6, 1, 7, 8, 9, 10, 0] rfl)
        · have h := h.2 hc
          refine lv_iconst (v := 1) C.x C.b dX12_hitsOf_147 (by decide) ?_
          refine lv_goto (tgt := 152) C.x C.b dX12_hitsOf_148 (by decide) ?_
          refine lv_istore (lv' := [(10, .int 1), (9, .int (((49 * M 50 0 (585 * v6 + (5 + v8)).toNatClampNeg + v7) + M 50 0 (585 * v6 + (29 + v8)).toNatClampNeg) + 9)), (0, .ref (g 11 0)), (1, .int v1), (2, .int v2), (3, .int v3), (4, .int v4), (5, .int v5), (6, .int v6), (7, .int v7), (8, .int v8)]) C.x C.b dX12_hitsOf_152 hl (by decide) rfl (fun ls hl => ?_)
          refine lv_aload_n C.x C.b dX12_hitsOf_154 rfl (lv_at hl 2 rfl) ?_
          refine lv_dup C.x C.b dX12_hitsOf_155 rfl ?_
          refine jr_get C G jc11 27 (v := .int (M 11 0 27)) (show 0 < 1 by decide) (by decide) (by decide) rfl wd1218 dX12_hitsOf_156 ?_
          refine lv_iconst (v := 1) C.x C.b dX12_hitsOf_159 (by decide) ?_
          refine lv_iadd C.x C.b dX12_hitsOf_160 ?_
          refine jr_put C G jc11 27 (v := (M 11 0 27) + 1) (show 0 < 1 by decide) (by decide) (by decide) rfl (by decide) wd1218 rfl rfl rfl rfl dX12_hitsOf_161 (fun H locs G => ?_)
          obtain ⟨M19, eM19⟩ : ∃ z : jM, z = jup M 11 0 27 ((M 11 0 27) + 1) := ⟨_, rfl⟩
          rw [← eM19] at G
          have h := h M19 eM19
          have nM19 : jnb M19 = jnb M := by rw [eM19]; exact jnb_up (by decide)
          refine lv_iload_n C.x C.b dX12_hitsOf_164 rfl (lv_at hl 5 rfl) ?_
          refine lv_iload C.x C.b dX12_hitsOf_165 (lv_at hl 0 rfl) ?_
          refine lv_if_eq (tgt := 174) C.x C.b dX12_hitsOf_167 (by decide) (fun hc => absurd hc (by decide)) (fun _ => ?_)
          refine lv_iconst (v := 1) C.x C.b dX12_hitsOf_170 (by decide) ?_
          refine lv_goto (tgt := 175) C.x C.b dX12_hitsOf_171 (by decide) ?_
          refine lv_iadd C.x C.b dX12_hitsOf_175 ?_
          refine lv_istore_n (lv' := [(3, .int (v3 + 1)), (10, .int 1), (9, .int (((49 * M 50 0 (585 * v6 + (5 + v8)).toNatClampNeg + v7) + M 50 0 (585 * v6 + (29 + v8)).toNatClampNeg) + 9)), (0, .ref (g 11 0)), (1, .int v1), (2, .int v2), (4, .int v4), (5, .int v5), (6, .int v6), (7, .int v7), (8, .int v8)]) C.x C.b dX12_hitsOf_176 rfl hl (by decide) rfl (fun ls hl => ?_)
          refine lv_aload_n C.x C.b dX12_hitsOf_177 rfl (lv_at hl 3 rfl) ?_
          refine lv_iload C.x C.b dX12_hitsOf_178 (lv_at hl 1 rfl) ?_
          refine lv_if_eq (tgt := 203) C.x C.b dX12_hitsOf_180 (by decide) (fun hc => absurd hc (by decide)) (fun _ => ?_)
          refine lv_aload_n C.x C.b dX12_hitsOf_183 rfl (lv_at hl 3 rfl) ?_
          refine jr_get C G jc11 28 (v := .int (M19 11 0 28)) (show 0 < 1 by decide) (by decide) (by decide) rfl wd1219 dX12_hitsOf_184 ?_
          refine lv_iload C.x C.b dX12_hitsOf_187 (lv_at hl 7 rfl) ?_
          refine lv_aload_n C.x C.b dX12_hitsOf_189 rfl (lv_at hl 3 rfl) ?_
          refine jr_get C G jc11 26 (v := .ref (g 60 0)) (show 0 < 1 by decide) (by decide) (by decide) rfl wd1217 dX12_hitsOf_190 ?_
          refine lv_iload C.x C.b dX12_hitsOf_193 (lv_at hl 2 rfl) ?_
          obtain ⟨hs, h⟩ := h
          refine jr_ald C G (show 0 < 1 by decide) (by decide) (by decide) (by decide) rfl rfl hs dX12_hitsOf_195 ?_
          refine lv_isub C.x C.b dX12_hitsOf_196 ?_
          refine va_mmax C.x C.b (C.ml.trans hl.1.symm) C.ow (C.w _ wd1420) (C.w _ wd740) (C.w _ wd94) (C.w _ wd741) (by decide) (Nat.le_of_ble_eq_true rfl) (by decide) (by decide) dX12_hitsOf_197 ?_
          rw [show (if (M19 11 0 28) < (v5 - (M19 60 0 (((49 * M 50 0 (585 * v6 + (5 + v8)).toNatClampNeg + v7) + M 50 0 (585 * v6 + (29 + v8)).toNatClampNeg) + 9).toNatClampNeg)) then v5 - (M19 60 0 (((49 * M 50 0 (585 * v6 + (5 + v8)).toNatClampNeg + v7) + M 50 0 (585 * v6 + (29 + v8)).toNatClampNeg) + 9).toNatClampNeg) else M19 11 0 28 : Int32) = jmax (M19 11 0 28) (v5 - (M19 60 0 (((49 * M 50 0 (585 * v6 + (5 + v8)).toNatClampNeg + v7) + M 50 0 (585 * v6 + (29 + v8)).toNatClampNeg) + 9).toNatClampNeg)) from rfl]
          refine lv_goto (tgt := 207) C.x C.b dX12_hitsOf_200 (by decide) ?_
          refine jr_put C G jc11 28 (v := jmax (M19 11 0 28) (v5 - (M19 60 0 (((49 * M 50 0 (585 * v6 + (5 + v8)).toNatClampNeg + v7) + M 50 0 (585 * v6 + (29 + v8)).toNatClampNeg) + 9).toNatClampNeg))) (show 0 < 1 by decide) (by decide) (by decide) rfl (by decide) wd1219 rfl rfl rfl rfl dX12_hitsOf_207 (fun H locs G => ?_)
          obtain ⟨M20, eM20⟩ : ∃ z : jM, z = jup M19 11 0 28 (jmax (M19 11 0 28) (v5 - (M19 60 0 (((49 * M 50 0 (585 * v6 + (5 + v8)).toNatClampNeg + v7) + M 50 0 (585 * v6 + (29 + v8)).toNatClampNeg) + 9).toNatClampNeg))) := ⟨_, rfl⟩
          rw [← eM20] at G
          have h := h M20 eM20
          have nM20 : jnb M20 = jnb M19 := by rw [eM20]; exact jnb_up (by decide)
          refine lv_aload_n C.x C.b dX12_hitsOf_210 rfl (lv_at hl 3 rfl) ?_
          refine jr_get C G jc11 26 (v := .ref (g 60 0)) (show 0 < 1 by decide) (by decide) (by decide) rfl wd1217 dX12_hitsOf_211 ?_
          refine lv_iload C.x C.b dX12_hitsOf_214 (lv_at hl 2 rfl) ?_
          refine lv_iload C.x C.b dX12_hitsOf_216 (lv_at hl 7 rfl) ?_
          obtain ⟨hs, h⟩ := h
          refine jr_ast C G (show 0 < 1 by decide) (by decide) (by decide) (by decide) rfl rfl hs dX12_hitsOf_218 (fun H locs G => ?_)
          obtain ⟨M21, eM21⟩ : ∃ z : jM, z = jup M20 60 0 (((49 * M 50 0 (585 * v6 + (5 + v8)).toNatClampNeg + v7) + M 50 0 (585 * v6 + (29 + v8)).toNatClampNeg) + 9).toNatClampNeg v5 := ⟨_, rfl⟩
          rw [← eM21] at G
          have h := h M21 eM21
          have nM21 : jnb M21 = jnb M20 := by rw [eM21]; exact jnb_up (by decide)
          refine lv_iinc (v := v8 + 1) (lv' := [(8, .int (v8 + 1)), (3, .int (v3 + 1)), (10, .int 1), (9, .int (((49 * M 50 0 (585 * v6 + (5 + v8)).toNatClampNeg + v7) + M 50 0 (585 * v6 + (29 + v8)).toNatClampNeg) + 9)), (0, .ref (g 11 0)), (1, .int v1), (2, .int v2), (4, .int v4), (5, .int v5), (6, .int v6), (7, .int v7)]) C.x C.b dX12_hitsOf_219 hl (k := 10) rfl rfl (by decide) rfl (fun ls hl => ?_)
          refine lv_goto (tgt := 82) C.x C.b dX12_hitsOf_222 (by decide) ?_
          exact h p l e s m args below meth c D cA base g C hr htb _ _ G ls (lv_sub hl [4, 5, 6, 1, 7, 8, 9, 10, 0] rfl)

theorem en_X12_greedySet  {M : jM} {Q : Int32 → Nat → jM → Prop} (h : at_X12_greedySet_0  M Q) : ok_X12_greedySet  M Q := jr_enter (by decide) (fun g => rfl) (fun g => Nat.le_of_ble_eq_true rfl) h
set_option maxHeartbeats 4000000 in
set_option maxRecDepth 100000 in
theorem bl_X12_greedySet_0  (M : jM) (Q : Int32 → Nat → jM → Prop) 
  (h : at_X12_greedySet_6 0 0 1 M Q) :
  at_X12_greedySet_0  M Q := by
  intro p l e s m args below meth c D cA base g C hr htb H locs G ls hl
  refine lv_iconst (v := 0) C.x C.b dX12_greedySet_0 (by decide) ?_
  refine lv_istore_n (lv' := [(1, .int 0), (0, .ref (g 11 0))]) C.x C.b dX12_greedySet_1 rfl hl (by decide) rfl (fun ls hl => ?_)
  refine lv_iconst (v := 0) C.x C.b dX12_greedySet_2 (by decide) ?_
  refine lv_istore_n (lv' := [(2, .int 0), (1, .int 0), (0, .ref (g 11 0))]) C.x C.b dX12_greedySet_3 rfl hl (by decide) rfl (fun ls hl => ?_)
  refine lv_iconst (v := 1) C.x C.b dX12_greedySet_4 (by decide) ?_
  refine lv_istore_n (lv' := [(3, .int 1), (2, .int 0), (1, .int 0), (0, .ref (g 11 0))]) C.x C.b dX12_greedySet_5 rfl hl (by decide) rfl (fun ls hl => ?_)
  exact h p l e s m args below meth c D cA base g C hr htb _ _ G ls (lv_sub hl [3, 2, 1, 0] rfl)
set_option maxHeartbeats 4000000 in
set_option maxRecDepth 100000 in
theorem bl_X12_greedySet_6 (v1 : Int32) (v2 : Int32) (v3 : Int32) (M : jM) (Q : Int32 → Nat → jM → Prop) 
  (h : ((M 11 0 0) ≤ v3 → Q v1 0 M) ∧ (¬ ((M 11 0 0) ≤ v3) → ok_X12_layShifts v2 v3 M (fun r1 _ M2 => jnb M2 = jnb M ∧ (r1 = 0 → at_X12_greedySet_6 (v1 ||| (1 <<< ((v3 - 1) &&& 31))) v3 (v3 + 1) M2 Q) ∧ (¬ (r1 = 0) → at_X12_greedySet_6 v1 v2 (v3 + 1) M2 Q)))) :
  at_X12_greedySet_6 v1 v2 v3 M Q := by
  intro p l e s m args below meth c D cA base g C hr htb H locs G ls hl
  refine lv_iload_n C.x C.b dX12_greedySet_6 rfl (lv_at hl 3 rfl) ?_
  refine lv_aload_n C.x C.b dX12_greedySet_7 rfl (lv_at hl 0 rfl) ?_
  refine jr_get C G jc11 0 (v := .int (M 11 0 0)) (show 0 < 1 by decide) (by decide) (by decide) rfl wd1191 dX12_greedySet_8 ?_
  refine lv_icmp_ge (tgt := 39) C.x C.b dX12_greedySet_11 (by decide) (fun hc => ?_) (fun hc => ?_)
  · have h := h.1 hc
    refine lv_iload_n C.x C.b dX12_greedySet_39 rfl (lv_at hl 1 rfl) ?_
    exact jr_retI C hr G h (by decide) (by decide) dX12_greedySet_40
  · have h := h.2 hc
    refine lv_aload_n C.x C.b dX12_greedySet_14 rfl (lv_at hl 0 rfl) ?_
    refine lv_iload_n C.x C.b dX12_greedySet_15 rfl (lv_at hl 2 rfl) ?_
    refine lv_iload_n C.x C.b dX12_greedySet_16 rfl (lv_at hl 3 rfl) ?_
    refine jr_V (d' := 5) C G jc11 jm_X12_layShifts wd1493 h rfl (show 0 < 1 by decide) (by decide) rfl rfl (by omega) (by decide) (by decide) ⟨rfl, rfl⟩ hl.1 (Nat.le_of_ble_eq_true rfl) dX12_greedySet_17 (fun r1 r1n M2 H locs h G => ?_)
    obtain ⟨nM2, h⟩ := h
    refine lv_if_ne (tgt := 33) C.x C.b dX12_greedySet_20 (by decide) (fun hc => ?_) (fun hc => ?_)
    · have h := h.2 hc
      refine lv_iinc (v := v3 + 1) (lv' := [(3, .int (v3 + 1)), (0, .ref (g 11 0)), (1, .int v1), (2, .int v2)]) C.x C.b dX12_greedySet_33 hl (k := 3) rfl rfl (by decide) rfl (fun ls hl => ?_)
      refine lv_goto (tgt := 6) C.x C.b dX12_greedySet_36 (by decide) ?_
      exact h p l e s m args below meth c D cA base g C hr htb _ _ G ls (lv_sub hl [1, 2, 3, 0] rfl)
    · have h := h.1 hc
      refine lv_iload_n C.x C.b dX12_greedySet_23 rfl (lv_at hl 1 rfl) ?_
      refine lv_iconst (v := 1) C.x C.b dX12_greedySet_24 (by decide) ?_
      refine lv_iload_n C.x C.b dX12_greedySet_25 rfl (lv_at hl 3 rfl) ?_
      refine lv_iconst (v := 1) C.x C.b dX12_greedySet_26 (by decide) ?_
      refine lv_isub C.x C.b dX12_greedySet_27 ?_
      refine lv_ishl C.x C.b dX12_greedySet_28 ?_
      refine lv_ior C.x C.b dX12_greedySet_29 ?_
      refine lv_istore_n (lv' := [(1, .int (v1 ||| (1 <<< ((v3 - 1) &&& 31)))), (0, .ref (g 11 0)), (2, .int v2), (3, .int v3)]) C.x C.b dX12_greedySet_30 rfl hl (by decide) rfl (fun ls hl => ?_)
      refine lv_iload_n C.x C.b dX12_greedySet_31 rfl (lv_at hl 3 rfl) ?_
      refine lv_istore_n (lv' := [(2, .int v3), (1, .int (v1 ||| (1 <<< ((v3 - 1) &&& 31)))), (0, .ref (g 11 0)), (3, .int v3)]) C.x C.b dX12_greedySet_32 rfl hl (by decide) rfl (fun ls hl => ?_)
      refine lv_iinc (v := v3 + 1) (lv' := [(3, .int (v3 + 1)), (2, .int v3), (1, .int (v1 ||| (1 <<< ((v3 - 1) &&& 31)))), (0, .ref (g 11 0))]) C.x C.b dX12_greedySet_33 hl (k := 3) rfl rfl (by decide) rfl (fun ls hl => ?_)
      refine lv_goto (tgt := 6) C.x C.b dX12_greedySet_36 (by decide) ?_
      exact h p l e s m args below meth c D cA base g C hr htb _ _ G ls (lv_sub hl [3, 2, 1, 0] rfl)

theorem en_X12_findGroup {v1 : Int32} {v2 : Int32} {M : jM} {Q : Int32 → Nat → jM → Prop} (h : at_X12_findGroup_0 v1 v2 M Q) : ok_X12_findGroup v1 v2 M Q := jr_enter (by decide) (fun g => rfl) (fun g => Nat.le_of_ble_eq_true rfl) h
set_option maxHeartbeats 4000000 in
set_option maxRecDepth 100000 in
theorem bl_X12_findGroup_0 (v1 : Int32) (v2 : Int32) (M : jM) (Q : Int32 → Nat → jM → Prop) 
  (h : (∀ M1 : jM, M1 = jup M 11 0 29 0 → ok_X12_endOf v1 0 M1 (fun r2 _ M3 => jnb M3 = jnb M1 ∧ (∀ M4 : jM, M4 = jup M3 11 0 30 r2 → at_X12_findGroup_17 v1 v2 0 M4 Q)))) :
  at_X12_findGroup_0 v1 v2 M Q := by
  intro p l e s m args below meth c D cA base g C hr htb H locs G ls hl
  refine lv_iconst (v := 0) C.x C.b dX12_findGroup_0 (by decide) ?_
  refine lv_istore_n (lv' := [(3, .int 0), (0, .ref (g 11 0)), (1, .int v1), (2, .int v2)]) C.x C.b dX12_findGroup_1 rfl hl (by decide) rfl (fun ls hl => ?_)
  refine lv_aload_n C.x C.b dX12_findGroup_2 rfl (lv_at hl 1 rfl) ?_
  refine lv_iconst (v := 0) C.x C.b dX12_findGroup_3 (by decide) ?_
  refine jr_put C G jc11 29 (v := 0) (show 0 < 1 by decide) (by decide) (by decide) rfl (by decide) wd1220 rfl rfl rfl rfl dX12_findGroup_4 (fun H locs G => ?_)
  obtain ⟨M1, eM1⟩ : ∃ z : jM, z = jup M 11 0 29 0 := ⟨_, rfl⟩
  rw [← eM1] at G
  have h := h M1 eM1
  have nM1 : jnb M1 = jnb M := by rw [eM1]; exact jnb_up (by decide)
  refine lv_aload_n C.x C.b dX12_findGroup_7 rfl (lv_at hl 1 rfl) ?_
  refine lv_aload_n C.x C.b dX12_findGroup_8 rfl (lv_at hl 1 rfl) ?_
  refine lv_iload_n C.x C.b dX12_findGroup_9 rfl (lv_at hl 2 rfl) ?_
  refine lv_iconst (v := 0) C.x C.b dX12_findGroup_10 (by decide) ?_
  refine jr_V (d' := 5) C G jc11 jm_X12_endOf wd1530 h rfl (show 0 < 1 by decide) (by decide) rfl rfl (by omega) (by decide) (by decide) ⟨rfl, rfl⟩ hl.1 (Nat.le_of_ble_eq_true rfl) dX12_findGroup_11 (fun r2 r2n M3 H locs h G => ?_)
  obtain ⟨nM3, h⟩ := h
  refine jr_put C G jc11 30 (v := r2) (show 0 < 1 by decide) (by decide) (by decide) rfl (by decide) wd1221 rfl rfl rfl rfl dX12_findGroup_14 (fun H locs G => ?_)
  obtain ⟨M4, eM4⟩ : ∃ z : jM, z = jup M3 11 0 30 r2 := ⟨_, rfl⟩
  rw [← eM4] at G
  have h := h M4 eM4
  have nM4 : jnb M4 = jnb M3 := by rw [eM4]; exact jnb_up (by decide)
  exact h p l e s m args below meth c D cA base g C hr htb _ _ G ls (lv_sub hl [1, 2, 3, 0] rfl)
set_option maxHeartbeats 4000000 in
set_option maxRecDepth 100000 in
theorem bl_X12_findGroup_17 (v1 : Int32) (v2 : Int32) (v3 : Int32) (M : jM) (Q : Int32 → Nat → jM → Prop) 
  (h : (v2 ≤ (M 11 0 30) → ok_X12_layShifts (M 11 0 29) (M 11 0 30) M (fun r1 _ M2 => jnb M2 = jnb M ∧ Q v3 0 M2)) ∧ (¬ (v2 ≤ (M 11 0 30)) → (∀ M3 : jM, M3 = jup M 11 0 29 ((M 11 0 30) + 1) → ok_X12_endOf v1 (M3 11 0 29) M3 (fun r4 _ M5 => jnb M5 = jnb M3 ∧ (∀ M6 : jM, M6 = jup M5 11 0 30 r4 → at_X12_findGroup_17 v1 v2 (v3 + 1) M6 Q))))) :
  at_X12_findGroup_17 v1 v2 v3 M Q := by
  intro p l e s m args below meth c D cA base g C hr htb H locs G ls hl
  refine lv_aload_n C.x C.b dX12_findGroup_17 rfl (lv_at hl 0 rfl) ?_
  refine jr_get C G jc11 30 (v := .int (M 11 0 30)) (show 0 < 1 by decide) (by decide) (by decide) rfl wd1221 dX12_findGroup_18 ?_
  refine lv_iload_n C.x C.b dX12_findGroup_21 rfl (lv_at hl 2 rfl) ?_
  refine lv_icmp_ge (tgt := 54) C.x C.b dX12_findGroup_22 (by decide) (fun hc => ?_) (fun hc => ?_)
  · have h := h.1 hc
    refine lv_aload_n C.x C.b dX12_findGroup_54 rfl (lv_at hl 0 rfl) ?_
    refine lv_aload_n C.x C.b dX12_findGroup_55 rfl (lv_at hl 0 rfl) ?_
    refine jr_get C G jc11 29 (v := .int (M 11 0 29)) (show 0 < 1 by decide) (by decide) (by decide) rfl wd1220 dX12_findGroup_56 ?_
    refine lv_aload_n C.x C.b dX12_findGroup_59 rfl (lv_at hl 0 rfl) ?_
    refine jr_get C G jc11 30 (v := .int (M 11 0 30)) (show 0 < 1 by decide) (by decide) (by decide) rfl wd1221 dX12_findGroup_60 ?_
    refine jr_V (d' := 5) C G jc11 jm_X12_layShifts wd1493 h rfl (show 0 < 1 by decide) (by decide) rfl rfl (by omega) (by decide) (by decide) ⟨rfl, rfl⟩ hl.1 (Nat.le_of_ble_eq_true rfl) dX12_findGroup_63 (fun r1 r1n M2 H locs h G => ?_)
    obtain ⟨nM2, h⟩ := h
    refine lv_pop C.x C.b dX12_findGroup_66 rfl ?_
    refine lv_iload_n C.x C.b dX12_findGroup_67 rfl (lv_at hl 3 rfl) ?_
    exact jr_retI C hr G h (by decide) (by decide) dX12_findGroup_68
  · have h := h.2 hc
    refine lv_aload_n C.x C.b dX12_findGroup_25 rfl (lv_at hl 0 rfl) ?_
    refine lv_aload_n C.x C.b dX12_findGroup_26 rfl (lv_at hl 0 rfl) ?_
    refine jr_get C G jc11 30 (v := .int (M 11 0 30)) (show 0 < 1 by decide) (by decide) (by decide) rfl wd1221 dX12_findGroup_27 ?_
    refine lv_iconst (v := 1) C.x C.b dX12_findGroup_30 (by decide) ?_
    refine lv_iadd C.x C.b dX12_findGroup_31 ?_
    refine jr_put C G jc11 29 (v := (M 11 0 30) + 1) (show 0 < 1 by decide) (by decide) (by decide) rfl (by decide) wd1220 rfl rfl rfl rfl dX12_findGroup_32 (fun H locs G => ?_)
    obtain ⟨M3, eM3⟩ : ∃ z : jM, z = jup M 11 0 29 ((M 11 0 30) + 1) := ⟨_, rfl⟩
    rw [← eM3] at G
    have h := h M3 eM3
    have nM3 : jnb M3 = jnb M := by rw [eM3]; exact jnb_up (by decide)
    refine lv_aload_n C.x C.b dX12_findGroup_35 rfl (lv_at hl 0 rfl) ?_
    refine lv_aload_n C.x C.b dX12_findGroup_36 rfl (lv_at hl 0 rfl) ?_
    refine lv_iload_n C.x C.b dX12_findGroup_37 rfl (lv_at hl 1 rfl) ?_
    refine lv_aload_n C.x C.b dX12_findGroup_38 rfl (lv_at hl 0 rfl) ?_
    refine jr_get C G jc11 29 (v := .int (M3 11 0 29)) (show 0 < 1 by decide) (by decide) (by decide) rfl wd1220 dX12_findGroup_39 ?_
    refine jr_V (d' := 5) C G jc11 jm_X12_endOf wd1530 h rfl (show 0 < 1 by decide) (by decide) rfl rfl (by omega) (by decide) (by decide) ⟨rfl, rfl⟩ hl.1 (Nat.le_of_ble_eq_true rfl) dX12_findGroup_42 (fun r4 r4n M5 H locs h G => ?_)
    obtain ⟨nM5, h⟩ := h
    refine jr_put C G jc11 30 (v := r4) (show 0 < 1 by decide) (by decide) (by decide) rfl (by decide) wd1221 rfl rfl rfl rfl dX12_findGroup_45 (fun H locs G => ?_)
    obtain ⟨M6, eM6⟩ : ∃ z : jM, z = jup M5 11 0 30 r4 := ⟨_, rfl⟩
    rw [← eM6] at G
    have h := h M6 eM6
    have nM6 : jnb M6 = jnb M5 := by rw [eM6]; exact jnb_up (by decide)
    refine lv_iinc (v := v3 + 1) (lv' := [(3, .int (v3 + 1)), (0, .ref (g 11 0)), (1, .int v1), (2, .int v2)]) C.x C.b dX12_findGroup_48 hl (k := 3) rfl rfl (by decide) rfl (fun ls hl => ?_)
    refine lv_goto (tgt := 17) C.x C.b dX12_findGroup_51 (by decide) ?_
    exact h p l e s m args below meth c D cA base g C hr htb _ _ G ls (lv_sub hl [1, 2, 3, 0] rfl)

theorem en_X12_runs {v1 : Int32} {M : jM} {Q : Int32 → Nat → jM → Prop} (h : at_X12_runs_0 v1 M Q) : ok_X12_runs v1 M Q := jr_enter (by decide) (fun g => rfl) (fun g => Nat.le_of_ble_eq_true rfl) h
set_option maxHeartbeats 4000000 in
set_option maxRecDepth 100000 in
theorem bl_X12_runs_0 (v1 : Int32) (M : jM) (Q : Int32 → Nat → jM → Prop) 
  (h : ok_X12_begin  M (fun _ _ M2 => jnb M2 = jnb M ∧ at_X12_runs_6 v1 0 M2 Q)) :
  at_X12_runs_0 v1 M Q := by
  intro p l e s m args below meth c D cA base g C hr htb H locs G ls hl
  refine lv_aload_n C.x C.b dX12_runs_0 rfl (lv_at hl 0 rfl) ?_
  refine jr_V (d' := 5) C G jc11 jm_X12_begin wd1429 h rfl (show 0 < 1 by decide) (by decide) rfl rfl (by omega) (by decide) (by decide) ⟨rfl, rfl⟩ hl.1 (Nat.le_of_ble_eq_true rfl) dX12_runs_1 (fun r1 r1n M2 H locs h G => ?_)
  obtain ⟨nM2, h⟩ := h
  refine lv_iconst (v := 0) C.x C.b dX12_runs_4 (by decide) ?_
  refine lv_istore_n (lv' := [(2, .int 0), (0, .ref (g 11 0)), (1, .int v1)]) C.x C.b dX12_runs_5 rfl hl (by decide) rfl (fun ls hl => ?_)
  exact h p l e s m args below meth c D cA base g C hr htb _ _ G ls (lv_sub hl [1, 2, 0] rfl)
set_option maxHeartbeats 4000000 in
set_option maxRecDepth 100000 in
theorem bl_X12_runs_6 (v1 : Int32) (v2 : Int32) (M : jM) (Q : Int32 → Nat → jM → Prop) 
  (h : ((M 11 0 0) ≤ v2 → Q 0 0 M) ∧ (¬ ((M 11 0 0) ≤ v2) → ok_X12_endOf v1 v2 M (fun r1 _ M2 => jnb M2 = jnb M ∧ ok_X12_layShifts v2 r1 M2 (fun r3 _ M4 => jnb M4 = jnb M2 ∧ ok_X12_stepOf v2 r1 0 M4 (fun r5 _ M6 => jnb M6 = jnb M4 ∧ ok_X12_stepOf v2 r1 1 M6 (fun r7 _ M8 => jnb M8 = jnb M6 ∧ at_X12_runs_46 v1 v2 r1 r5 r7 M8 Q)))))) :
  at_X12_runs_6 v1 v2 M Q := by
  intro p l e s m args below meth c D cA base g C hr htb H locs G ls hl
  refine lv_iload_n C.x C.b dX12_runs_6 rfl (lv_at hl 2 rfl) ?_
  refine lv_aload_n C.x C.b dX12_runs_7 rfl (lv_at hl 0 rfl) ?_
  refine jr_get C G jc11 0 (v := .int (M 11 0 0)) (show 0 < 1 by decide) (by decide) (by decide) rfl wd1191 dX12_runs_8 ?_
  refine lv_icmp_ge (tgt := 116) C.x C.b dX12_runs_11 (by decide) (fun hc => ?_) (fun hc => ?_)
  · have h := h.1 hc
    exact jr_retV C hr G h (by decide) (by decide) dX12_runs_116
  · have h := h.2 hc
    refine lv_aload_n C.x C.b dX12_runs_14 rfl (lv_at hl 0 rfl) ?_
    refine lv_iload_n C.x C.b dX12_runs_15 rfl (lv_at hl 1 rfl) ?_
    refine lv_iload_n C.x C.b dX12_runs_16 rfl (lv_at hl 2 rfl) ?_
    refine jr_V (d' := 5) C G jc11 jm_X12_endOf wd1530 h rfl (show 0 < 1 by decide) (by decide) rfl rfl (by omega) (by decide) (by decide) ⟨rfl, rfl⟩ hl.1 (Nat.le_of_ble_eq_true rfl) dX12_runs_17 (fun r1 r1n M2 H locs h G => ?_)
    obtain ⟨nM2, h⟩ := h
    refine lv_istore_n (lv' := [(3, .int r1), (0, .ref (g 11 0)), (1, .int v1), (2, .int v2)]) C.x C.b dX12_runs_20 rfl hl (by decide) rfl (fun ls hl => ?_)
    refine lv_aload_n C.x C.b dX12_runs_21 rfl (lv_at hl 1 rfl) ?_
    refine lv_iload_n C.x C.b dX12_runs_22 rfl (lv_at hl 3 rfl) ?_
    refine lv_iload_n C.x C.b dX12_runs_23 rfl (lv_at hl 0 rfl) ?_
    refine jr_V (d' := 5) C G jc11 jm_X12_layShifts wd1493 h rfl (show 0 < 1 by decide) (by decide) rfl rfl (by omega) (by decide) (by decide) ⟨rfl, rfl⟩ hl.1 (Nat.le_of_ble_eq_true rfl) dX12_runs_24 (fun r3 r3n M4 H locs h G => ?_)
    obtain ⟨nM4, h⟩ := h
    refine lv_pop C.x C.b dX12_runs_27 rfl ?_
    refine lv_aload_n C.x C.b dX12_runs_28 rfl (lv_at hl 1 rfl) ?_
    refine lv_iload_n C.x C.b dX12_runs_29 rfl (lv_at hl 3 rfl) ?_
    refine lv_iload_n C.x C.b dX12_runs_30 rfl (lv_at hl 0 rfl) ?_
    refine lv_iconst (v := 0) C.x C.b dX12_runs_31 (by decide) ?_
    refine jr_V (d' := 5) C G jc11 jm_X12_stepOf wd1505 h rfl (show 0 < 1 by decide) (by decide) rfl rfl (by omega) (by decide) (by decide) ⟨rfl, rfl⟩ hl.1 (Nat.le_of_ble_eq_true rfl) dX12_runs_32 (fun r5 r5n M6 H locs h G => ?_)
    obtain ⟨nM6, h⟩ := h
    refine lv_istore (lv' := [(4, .int r5), (3, .int r1), (0, .ref (g 11 0)), (1, .int v1), (2, .int v2)]) C.x C.b dX12_runs_35 hl (by decide) rfl (fun ls hl => ?_)
    refine lv_aload_n C.x C.b dX12_runs_37 rfl (lv_at hl 2 rfl) ?_
    refine lv_iload_n C.x C.b dX12_runs_38 rfl (lv_at hl 4 rfl) ?_
    refine lv_iload_n C.x C.b dX12_runs_39 rfl (lv_at hl 1 rfl) ?_
    refine lv_iconst (v := 1) C.x C.b dX12_runs_40 (by decide) ?_
    refine jr_V (d' := 5) C G jc11 jm_X12_stepOf wd1505 h rfl (show 0 < 1 by decide) (by decide) rfl rfl (by omega) (by decide) (by decide) ⟨rfl, rfl⟩ hl.1 (Nat.le_of_ble_eq_true rfl) dX12_runs_41 (fun r7 r7n M8 H locs h G => ?_)
    obtain ⟨nM8, h⟩ := h
    refine lv_istore (lv' := [(5, .int r7), (4, .int r5), (3, .int r1), (0, .ref (g 11 0)), (1, .int v1), (2, .int v2)]) C.x C.b dX12_runs_44 hl (by decide) rfl (fun ls hl => ?_)
    exact h p l e s m args below meth c D cA base g C hr htb _ _ G ls (lv_sub hl [3, 4, 5, 2, 1, 0] rfl)
set_option maxHeartbeats 4000000 in
set_option maxRecDepth 100000 in
theorem bl_X12_runs_46 (v1 : Int32) (v2 : Int32) (v3 : Int32) (v4 : Int32) (v5 : Int32) (M : jM) (Q : Int32 → Nat → jM → Prop) 
  (h : (v4 < v5 → at_X12_runs_6 v1 (v3 + 1) M Q) ∧ (¬ (v4 < v5) → at_X12_runs_56 v1 v2 v3 v4 v5 v2 M Q)) :
  at_X12_runs_46 v1 v2 v3 v4 v5 M Q := by
  intro p l e s m args below meth c D cA base g C hr htb H locs G ls hl
  refine lv_iload C.x C.b dX12_runs_46 (lv_at hl 5 rfl) ?_
  refine lv_iload C.x C.b dX12_runs_48 (lv_at hl 4 rfl) ?_
  refine lv_icmp_gt (tgt := 109) C.x C.b dX12_runs_50 (by decide) (fun hc => ?_) (fun hc => ?_)
  · have h := h.1 hc
    refine lv_iload_n C.x C.b dX12_runs_109 rfl (lv_at hl 3 rfl) ?_
    refine lv_iconst (v := 1) C.x C.b dX12_runs_110 (by decide) ?_
    refine lv_iadd C.x C.b dX12_runs_111 ?_
    refine lv_istore_n (lv' := [(2, .int (v3 + 1)), (0, .ref (g 11 0)), (1, .int v1), (3, .int v3), (4, .int v4), (5, .int v5)]) C.x C.b dX12_runs_112 rfl hl (by decide) rfl (fun ls hl => ?_)
    refine lv_goto (tgt := 6) C.x C.b dX12_runs_113 (by decide) ?_
    exact h p l e s m args below meth c D cA base g C hr htb _ _ G ls (lv_sub hl [1, 2, 0] rfl)
  · have h := h.2 hc
    refine lv_iload_n C.x C.b dX12_runs_53 rfl (lv_at hl 2 rfl) ?_
    refine lv_istore (lv' := [(6, .int v2), (0, .ref (g 11 0)), (1, .int v1), (2, .int v2), (3, .int v3), (4, .int v4), (5, .int v5)]) C.x C.b dX12_runs_54 hl (by decide) rfl (fun ls hl => ?_)
    exact h p l e s m args below meth c D cA base g C hr htb _ _ G ls (lv_sub hl [1, 2, 3, 4, 5, 6, 0] rfl)
set_option maxHeartbeats 4000000 in
set_option maxRecDepth 100000 in
theorem bl_X12_runs_56 (v1 : Int32) (v2 : Int32) (v3 : Int32) (v4 : Int32) (v5 : Int32) (v6 : Int32) (M : jM) (Q : Int32 → Nat → jM → Prop) 
  (h : (v3 < v6 → at_X12_runs_46 v1 v2 v3 v4 (v5 + 1) M Q) ∧ (¬ (v3 < v6) → vp_in v6 6 ∧ (vp_in (585 * v6 + 0) 3510) ∧ (vp_in (585 * v6 + 1) 3510) ∧ ((M 50 0 (585 * v6 + 0).toNatClampNeg ≤ (v5 - (M 59 0 v6.toNatClampNeg)) ∧ (v5 - (M 59 0 v6.toNatClampNeg)) ≤ M 50 0 (585 * v6 + 1).toNatClampNeg) → vp_in v6 6 ∧ ok_X12_iterates v6 (v5 - (M 59 0 v6.toNatClampNeg)) M (fun _ _ M6 => jnb M6 = jnb M ∧ at_X12_runs_56 v1 v2 v3 v4 v5 (v6 + 1) M6 Q)) ∧ (¬ (M 50 0 (585 * v6 + 0).toNatClampNeg ≤ (v5 - (M 59 0 v6.toNatClampNeg)) ∧ (v5 - (M 59 0 v6.toNatClampNeg)) ≤ M 50 0 (585 * v6 + 1).toNatClampNeg) → at_X12_runs_56 v1 v2 v3 v4 v5 (v6 + 1) M Q))) :
  at_X12_runs_56 v1 v2 v3 v4 v5 v6 M Q := by
  intro p l e s m args below meth c D cA base g C hr htb H locs G ls hl
  refine lv_iload C.x C.b dX12_runs_56 (lv_at hl 6 rfl) ?_
  refine lv_iload_n C.x C.b dX12_runs_58 rfl (lv_at hl 3 rfl) ?_
  refine lv_icmp_gt (tgt := 103) C.x C.b dX12_runs_59 (by decide) (fun hc => ?_) (fun hc => ?_)
  · have h := h.1 hc
    refine lv_iinc (v := v5 + 1) (lv' := [(5, .int (v5 + 1)), (0, .ref (g 11 0)), (1, .int v1), (2, .int v2), (3, .int v3), (4, .int v4), (6, .int v6)]) C.x C.b dX12_runs_103 hl (k := 5) rfl rfl (by decide) rfl (fun ls hl => ?_)
    refine lv_goto (tgt := 46) C.x C.b dX12_runs_106 (by decide) ?_
    exact h p l e s m args below meth c D cA base g C hr htb _ _ G ls (lv_sub hl [1, 2, 3, 4, 5, 0] rfl)
  · have h := h.2 hc
    refine lv_aload_n C.x C.b dX12_runs_62 rfl (lv_at hl 0 rfl) ?_
    refine lv_iload C.x C.b dX12_runs_63 (lv_at hl 6 rfl) ?_
    refine lv_iload C.x C.b dX12_runs_65 (lv_at hl 5 rfl) ?_
    refine lv_aload_n C.x C.b dX12_runs_67 rfl (lv_at hl 0 rfl) ?_
    refine jr_get C G jc11 25 (v := .ref (g 59 0)) (show 0 < 1 by decide) (by decide) (by decide) rfl wd1216 dX12_runs_68 ?_
    refine lv_iload C.x C.b dX12_runs_71 (lv_at hl 6 rfl) ?_
    obtain ⟨hs, h⟩ := h
    refine jr_ald C G (show 0 < 1 by decide) (by decide) (by decide) (by decide) rfl rfl hs dX12_runs_73 ?_
    refine lv_isub C.x C.b dX12_runs_74 ?_
    obtain ⟨hp3, h⟩ := h
    obtain ⟨hp4, h⟩ := h
    refine jr_V (d' := 5) C G jc11 jm_X12_isIteration wd1425 (sp_X12_isIteration hp3 hp4 ⟨rfl, rfl⟩ : ok_X12_isIteration v6 (v5 - (M 59 0 v6.toNatClampNeg)) M (fun r _ M' => jb (M 50 0 (585 * v6 + 0).toNatClampNeg ≤ (v5 - (M 59 0 v6.toNatClampNeg)) ∧ (v5 - (M 59 0 v6.toNatClampNeg)) ≤ M 50 0 (585 * v6 + 1).toNatClampNeg) = r ∧ M = M')) rfl (show 0 < 1 by decide) (by decide) rfl rfl (by omega) (by decide) (by decide) ⟨rfl, rfl⟩ hl.1 (Nat.le_of_ble_eq_true rfl) dX12_runs_75 (fun r1 r1n M2 H locs hq G => ?_)
    obtain ⟨eq1, eq2⟩ := hq
    subst eq1
    subst eq2
    refine lv_if_eq (tgt := 97) C.x C.b dX12_runs_78 (by decide) (fun hc => ?_) (fun hc => ?_)
    · have h := h.2 (jb_0 hc)
      refine lv_iinc (v := v6 + 1) (lv' := [(6, .int (v6 + 1)), (0, .ref (g 11 0)), (1, .int v1), (2, .int v2), (3, .int v3), (4, .int v4), (5, .int v5)]) C.x C.b dX12_runs_97 hl (k := 6) rfl rfl (by decide) rfl (fun ls hl => ?_)
      refine lv_goto (tgt := 56) C.x C.b dX12_runs_100 (by decide) ?_
      exact h p l e s m args below meth c D cA base g C hr htb _ _ G ls (lv_sub hl [1, 2, 3, 4, 5, 6, 0] rfl)
    · have h := h.1 (jb_1 hc)
      refine lv_aload_n C.x C.b dX12_runs_81 rfl (lv_at hl 0 rfl) ?_
      refine lv_iload C.x C.b dX12_runs_82 (lv_at hl 6 rfl) ?_
      refine lv_iload C.x C.b dX12_runs_84 (lv_at hl 5 rfl) ?_
      refine lv_aload_n C.x C.b dX12_runs_86 rfl (lv_at hl 0 rfl) ?_
      refine jr_get C G jc11 25 (v := .ref (g 59 0)) (show 0 < 1 by decide) (by decide) (by decide) rfl wd1216 dX12_runs_87 ?_
      refine lv_iload C.x C.b dX12_runs_90 (lv_at hl 6 rfl) ?_
      obtain ⟨hs, h⟩ := h
      refine jr_ald C G (show 0 < 1 by decide) (by decide) (by decide) (by decide) rfl rfl hs dX12_runs_92 ?_
      refine lv_isub C.x C.b dX12_runs_93 ?_
      refine jr_V (d' := 5) C G jc11 jm_X12_iterates wd1596 h rfl (show 0 < 1 by decide) (by decide) rfl rfl (by omega) (by decide) (by decide) ⟨rfl, rfl⟩ hl.1 (Nat.le_of_ble_eq_true rfl) dX12_runs_94 (fun r5 r5n M6 H locs h G => ?_)
      obtain ⟨nM6, h⟩ := h
      refine lv_iinc (v := v6 + 1) (lv' := [(6, .int (v6 + 1)), (0, .ref (g 11 0)), (1, .int v1), (2, .int v2), (3, .int v3), (4, .int v4), (5, .int v5)]) C.x C.b dX12_runs_97 hl (k := 6) rfl rfl (by decide) rfl (fun ls hl => ?_)
      refine lv_goto (tgt := 56) C.x C.b dX12_runs_100 (by decide) ?_
      exact h p l e s m args below meth c D cA base g C hr htb _ _ G ls (lv_sub hl [1, 2, 3, 4, 5, 6, 0] rfl)

theorem en_X12_loop  {M : jM} {Q : Int32 → Nat → jM → Prop} (h : at_X12_loop_0  M Q) : ok_X12_loop  M Q := jr_enter (by decide) (fun g => rfl) (fun g => Nat.le_of_ble_eq_true rfl) h
set_option maxHeartbeats 4000000 in
set_option maxRecDepth 100000 in
theorem bl_X12_loop_0  (M : jM) (Q : Int32 → Nat → jM → Prop) 
  (h : at_X12_loop_2 0 M Q) :
  at_X12_loop_0  M Q := by
  intro p l e s m args below meth c D cA base g C hr htb H locs G ls hl
  refine lv_iconst (v := 0) C.x C.b dX12_loop_0 (by decide) ?_
  refine lv_istore_n (lv' := [(1, .int 0), (0, .ref (g 11 0))]) C.x C.b dX12_loop_1 rfl hl (by decide) rfl (fun ls hl => ?_)
  exact h p l e s m args below meth c D cA base g C hr htb _ _ G ls (lv_sub hl [1, 0] rfl)
set_option maxHeartbeats 4000000 in
set_option maxRecDepth 100000 in
theorem bl_X12_loop_2 (v1 : Int32) (M : jM) (Q : Int32 → Nat → jM → Prop) 
  (h : (585 ≤ v1 → ok_X12_take 102 M (fun _ _ M2 => jnb M2 = jnb M ∧ ok_X12_take 111 M2 (fun _ _ M4 => jnb M4 = jnb M2 ∧ ok_X12_take 114 M4 (fun _ _ M6 => jnb M6 = jnb M4 ∧ ok_X12_take 40 M6 (fun _ _ M8 => jnb M8 = jnb M6 ∧ ok_X12_bounded 0 M8 (fun r9 _ M10 => jnb M10 = jnb M8 ∧ (vp_in (585 * M10 11 0 14 + 0) 11700) ∧ (∀ M12 : jM, M12 = jup M10 55 0 (585 * M10 11 0 14 + 0).toNatClampNeg r9 → ok_X12_take 44 M12 (fun _ _ M15 => jnb M15 = jnb M12 ∧ (vp_in (585 * M15 11 0 14 + 0) 11700) ∧ ok_X12_bounded (M15 55 0 (585 * M15 11 0 14 + 0).toNatClampNeg) M15 (fun r19 _ M20 => jnb M20 = jnb M15 ∧ (vp_in (585 * M20 11 0 14 + 1) 11700) ∧ (∀ M22 : jM, M22 = jup M20 55 0 (585 * M20 11 0 14 + 1).toNatClampNeg r19 → ok_X12_take 41 M22 (fun _ _ M25 => jnb M25 = jnb M22 ∧ ok_X12_take 123 M25 (fun _ _ M27 => jnb M27 = jnb M25 ∧ (M27 11 0 13 = 0 → at_X12_loop_100 1 M27 Q) ∧ (¬ (M27 11 0 13 = 0) → at_X12_loop_100 0 M27 Q))))))))))))) ∧ (¬ (585 ≤ v1) → (vp_in (585 * M 11 0 14 + v1) 11700) ∧ (∀ M29 : jM, M29 = jup M 55 0 (585 * M 11 0 14 + v1).toNatClampNeg 0 → at_X12_loop_2 (v1 + 1) M29 Q))) :
  at_X12_loop_2 v1 M Q := by
  intro p l e s m args below meth c D cA base g C hr htb H locs G ls hl
  refine lv_iload_n C.x C.b dX12_loop_2 rfl (lv_at hl 1 rfl) ?_
  refine lv_sipush (v := 585) C.x C.b dX12_loop_3 (by decide) ?_
  refine lv_icmp_ge (tgt := 21) C.x C.b dX12_loop_6 (by decide) (fun hc => ?_) (fun hc => ?_)
  · have h := h.1 hc
    refine lv_aload_n C.x C.b dX12_loop_21 rfl (lv_at hl 0 rfl) ?_
    refine lv_bipush (v := 102) C.x C.b dX12_loop_22 (by decide) ?_
    refine jr_V (d' := 6) C G jc11 jm_X12_take wd1312 h rfl (show 0 < 1 by decide) (by decide) rfl rfl (by omega) (by decide) (by decide) ⟨rfl, rfl⟩ hl.1 (Nat.le_of_ble_eq_true rfl) dX12_loop_24 (fun r1 r1n M2 H locs h G => ?_)
    obtain ⟨nM2, h⟩ := h
    refine lv_aload_n C.x C.b dX12_loop_27 rfl (lv_at hl 0 rfl) ?_
    refine lv_bipush (v := 111) C.x C.b dX12_loop_28 (by decide) ?_
    refine jr_V (d' := 6) C G jc11 jm_X12_take wd1312 h rfl (show 0 < 1 by decide) (by decide) rfl rfl (by omega) (by decide) (by decide) ⟨rfl, rfl⟩ hl.1 (Nat.le_of_ble_eq_true rfl) dX12_loop_30 (fun r3 r3n M4 H locs h G => ?_)
    obtain ⟨nM4, h⟩ := h
    refine lv_aload_n C.x C.b dX12_loop_33 rfl (lv_at hl 0 rfl) ?_
    refine lv_bipush (v := 114) C.x C.b dX12_loop_34 (by decide) ?_
    refine jr_V (d' := 6) C G jc11 jm_X12_take wd1312 h rfl (show 0 < 1 by decide) (by decide) rfl rfl (by omega) (by decide) (by decide) ⟨rfl, rfl⟩ hl.1 (Nat.le_of_ble_eq_true rfl) dX12_loop_36 (fun r5 r5n M6 H locs h G => ?_)
    obtain ⟨nM6, h⟩ := h
    refine lv_aload_n C.x C.b dX12_loop_39 rfl (lv_at hl 0 rfl) ?_
    refine lv_bipush (v := 40) C.x C.b dX12_loop_40 (by decide) ?_
    refine jr_V (d' := 6) C G jc11 jm_X12_take wd1312 h rfl (show 0 < 1 by decide) (by decide) rfl rfl (by omega) (by decide) (by decide) ⟨rfl, rfl⟩ hl.1 (Nat.le_of_ble_eq_true rfl) dX12_loop_42 (fun r7 r7n M8 H locs h G => ?_)
    obtain ⟨nM8, h⟩ := h
    refine lv_aload_n C.x C.b dX12_loop_45 rfl (lv_at hl 0 rfl) ?_
    refine lv_iconst (v := 0) C.x C.b dX12_loop_46 (by decide) ?_
    refine lv_aload_n C.x C.b dX12_loop_47 rfl (lv_at hl 0 rfl) ?_
    refine lv_iconst (v := 0) C.x C.b dX12_loop_48 (by decide) ?_
    refine jr_V (d' := 6) C G jc11 jm_X12_bounded wd1324 h rfl (show 0 < 1 by decide) (by decide) rfl rfl (by omega) (by decide) (by decide) ⟨rfl, rfl⟩ hl.1 (Nat.le_of_ble_eq_true rfl) dX12_loop_49 (fun r9 r9n M10 H locs h G => ?_)
    obtain ⟨nM10, h⟩ := h
    obtain ⟨hp13, h⟩ := h
    refine jr_V (d' := 6) C G jc11 jm_X12_set wd1308 (sp_X12_set hp13 ⟨rfl, rfl⟩ : ok_X12_set 0 r9 M10 (fun r _ M' => 0 = r ∧ M' = jup M10 55 0 (585 * M10 11 0 14 + 0).toNatClampNeg r9)) rfl (show 0 < 1 by decide) (by decide) rfl rfl (by omega) (by decide) (by decide) ⟨rfl, rfl⟩ hl.1 (Nat.le_of_ble_eq_true rfl) dX12_loop_52 (fun r11 r11n M12 H locs hq G => ?_)
    obtain ⟨eq1, eM12⟩ := hq
    subst eq1
    have h := h M12 eM12
    have nM12 : jnb M12 = jnb M10 := by rw [eM12]; first | exact jnb_up (by decide) | simp [jnb_up]
    refine lv_aload_n C.x C.b dX12_loop_55 rfl (lv_at hl 0 rfl) ?_
    refine lv_bipush (v := 44) C.x C.b dX12_loop_56 (by decide) ?_
    refine jr_V (d' := 6) C G jc11 jm_X12_take wd1312 h rfl (show 0 < 1 by decide) (by decide) rfl rfl (by omega) (by decide) (by decide) ⟨rfl, rfl⟩ hl.1 (Nat.le_of_ble_eq_true rfl) dX12_loop_58 (fun r14 r14n M15 H locs h G => ?_)
    obtain ⟨nM15, h⟩ := h
    refine lv_aload_n C.x C.b dX12_loop_61 rfl (lv_at hl 0 rfl) ?_
    refine lv_iconst (v := 1) C.x C.b dX12_loop_62 (by decide) ?_
    refine lv_aload_n C.x C.b dX12_loop_63 rfl (lv_at hl 0 rfl) ?_
    refine lv_aload_n C.x C.b dX12_loop_64 rfl (lv_at hl 0 rfl) ?_
    refine lv_iconst (v := 0) C.x C.b dX12_loop_65 (by decide) ?_
    obtain ⟨hp18, h⟩ := h
    refine jr_V (d' := 6) C G jc11 jm_X12_get wd1332 (sp_X12_get hp18 ⟨rfl, rfl⟩ : ok_X12_get 0 M15 (fun r _ M' => (M15 55 0 (585 * M15 11 0 14 + 0).toNatClampNeg) = r ∧ M15 = M')) rfl (show 0 < 1 by decide) (by decide) rfl rfl (by omega) (by decide) (by decide) ⟨rfl, rfl⟩ hl.1 (Nat.le_of_ble_eq_true rfl) dX12_loop_66 (fun r16 r16n M17 H locs hq G => ?_)
    obtain ⟨eq1, eq2⟩ := hq
    subst eq1
    subst eq2
    refine jr_V (d' := 6) C G jc11 jm_X12_bounded wd1324 h rfl (show 0 < 1 by decide) (by decide) rfl rfl (by omega) (by decide) (by decide) ⟨rfl, rfl⟩ hl.1 (Nat.le_of_ble_eq_true rfl) dX12_loop_69 (fun r19 r19n M20 H locs h G => ?_)
    obtain ⟨nM20, h⟩ := h
    obtain ⟨hp23, h⟩ := h
    refine jr_V (d' := 6) C G jc11 jm_X12_set wd1308 (sp_X12_set hp23 ⟨rfl, rfl⟩ : ok_X12_set 1 r19 M20 (fun r _ M' => 0 = r ∧ M' = jup M20 55 0 (585 * M20 11 0 14 + 1).toNatClampNeg r19)) rfl (show 0 < 1 by decide) (by decide) rfl rfl (by omega) (by decide) (by decide) ⟨rfl, rfl⟩ hl.1 (Nat.le_of_ble_eq_true rfl) dX12_loop_72 (fun r21 r21n M22 H locs hq G => ?_)
    obtain ⟨eq1, eM22⟩ := hq
    subst eq1
    have h := h M22 eM22
    have nM22 : jnb M22 = jnb M20 := by rw [eM22]; first | exact jnb_up (by decide) | simp [jnb_up]
    refine lv_aload_n C.x C.b dX12_loop_75 rfl (lv_at hl 0 rfl) ?_
    refine lv_bipush (v := 41) C.x C.b dX12_loop_76 (by decide) ?_
    refine jr_V (d' := 6) C G jc11 jm_X12_take wd1312 h rfl (show 0 < 1 by decide) (by decide) rfl rfl (by omega) (by decide) (by decide) ⟨rfl, rfl⟩ hl.1 (Nat.le_of_ble_eq_true rfl) dX12_loop_78 (fun r24 r24n M25 H locs h G => ?_)
    obtain ⟨nM25, h⟩ := h
    refine lv_aload_n C.x C.b dX12_loop_81 rfl (lv_at hl 0 rfl) ?_
    refine lv_bipush (v := 123) C.x C.b dX12_loop_82 (by decide) ?_
    refine jr_V (d' := 6) C G jc11 jm_X12_take wd1312 h rfl (show 0 < 1 by decide) (by decide) rfl rfl (by omega) (by decide) (by decide) ⟨rfl, rfl⟩ hl.1 (Nat.le_of_ble_eq_true rfl) dX12_loop_84 (fun r26 r26n M27 H locs h G => ?_)
    obtain ⟨nM27, h⟩ := h
    refine lv_aload_n C.x C.b dX12_loop_87 rfl (lv_at hl 0 rfl) ?_
    refine jr_get C G jc11 13 (v := .int (M27 11 0 13)) (show 0 < 1 by decide) (by decide) (by decide) rfl wd1204 dX12_loop_88 ?_
    refine lv_if_ne (tgt := 98) C.x C.b dX12_loop_91 (by decide) (fun hc => ?_) (fun hc => ?_)
    · have h := h.2 hc
      refine lv_iconst (v := 0) C.x C.b dX12_loop_98 (by decide) ?_
      refine lv_istore_n (lv' := [(1, .int 0), (0, .ref (g 11 0))]) C.x C.b dX12_loop_99 rfl hl (by decide) rfl (fun ls hl => ?_)
      exact h p l e s m args below meth c D cA base g C hr htb _ _ G ls (lv_sub hl [1, 0] rfl)
    · have h := h.1 hc
      refine lv_iconst (v := 1) C.x C.b dX12_loop_94 (by decide) ?_
      refine lv_goto (tgt := 99) C.x C.b dX12_loop_95 (by decide) ?_
      refine lv_istore_n (lv' := [(1, .int 1), (0, .ref (g 11 0))]) C.x C.b dX12_loop_99 rfl hl (by decide) rfl (fun ls hl => ?_)
      exact h p l e s m args below meth c D cA base g C hr htb _ _ G ls (lv_sub hl [1, 0] rfl)
  · have h := h.2 hc
    refine lv_aload_n C.x C.b dX12_loop_9 rfl (lv_at hl 0 rfl) ?_
    refine lv_iload_n C.x C.b dX12_loop_10 rfl (lv_at hl 1 rfl) ?_
    refine lv_iconst (v := 0) C.x C.b dX12_loop_11 (by decide) ?_
    obtain ⟨hp30, h⟩ := h
    refine jr_V (d' := 6) C G jc11 jm_X12_set wd1308 (sp_X12_set hp30 ⟨rfl, rfl⟩ : ok_X12_set v1 0 M (fun r _ M' => 0 = r ∧ M' = jup M 55 0 (585 * M 11 0 14 + v1).toNatClampNeg 0)) rfl (show 0 < 1 by decide) (by decide) rfl rfl (by omega) (by decide) (by decide) ⟨rfl, rfl⟩ hl.1 (Nat.le_of_ble_eq_true rfl) dX12_loop_12 (fun r28 r28n M29 H locs hq G => ?_)
    obtain ⟨eq1, eM29⟩ := hq
    subst eq1
    have h := h M29 eM29
    have nM29 : jnb M29 = jnb M := by rw [eM29]; first | exact jnb_up (by decide) | simp [jnb_up]
    refine lv_iinc (v := v1 + 1) (lv' := [(1, .int (v1 + 1)), (0, .ref (g 11 0))]) C.x C.b dX12_loop_15 hl (k := 1) rfl rfl (by decide) rfl (fun ls hl => ?_)
    refine lv_goto (tgt := 2) C.x C.b dX12_loop_18 (by decide) ?_
    exact h p l e s m args below meth c D cA base g C hr htb _ _ G ls (lv_sub hl [1, 0] rfl)
set_option maxHeartbeats 4000000 in
set_option maxRecDepth 100000 in
theorem bl_X12_loop_100 (v1 : Int32) (M : jM) (Q : Int32 → Nat → jM → Prop) 
  (h : (v1 = 0 → ok_X12_take 125 M (fun _ _ M2 => jnb M2 = jnb M ∧ (∀ M3 : jM, M3 = jup M2 11 0 14 ((M2 11 0 14) + 1) → Q 0 0 M3))) ∧ (¬ (v1 = 0) → ok_X12_statement  M (fun _ _ M5 => jnb M5 = jnb M ∧ (M5 11 0 13 = 0 → (M5 11 0 12 < M5 11 0 11 → vp_in (M5 11 0 12) 120) ∧ ((jhr M5) = 59 → (vp_in (585 * M5 11 0 14 + 3) 11700) ∧ (4 ≤ (M5 55 0 (585 * M5 11 0 14 + 3).toNatClampNeg) → (∀ M14 : jM, M14 = jup M5 11 0 12 ((M5 11 0 12) + 0) → at_X12_loop_100 0 M14 Q)) ∧ (¬ (4 ≤ (M5 55 0 (585 * M5 11 0 14 + 3).toNatClampNeg)) → (∀ M15 : jM, M15 = jup M5 11 0 12 ((M5 11 0 12) + 1) → at_X12_loop_100 1 M15 Q))) ∧ (¬ ((jhr M5) = 59) → (∀ M10 : jM, M10 = jup M5 11 0 12 ((M5 11 0 12) + 0) → at_X12_loop_100 0 M10 Q))) ∧ (¬ (M5 11 0 13 = 0) → (∀ M6 : jM, M6 = jup M5 11 0 12 ((M5 11 0 12) + 0) → at_X12_loop_100 0 M6 Q))))) :
  at_X12_loop_100 v1 M Q := by
  intro p l e s m args below meth c D cA base g C hr htb H locs G ls hl
  refine lv_iload_n C.x C.b dX12_loop_100 rfl (lv_at hl 1 rfl) ?_
  refine lv_if_eq (tgt := 160) C.x C.b dX12_loop_101 (by decide) (fun hc => ?_) (fun hc => ?_)
  · have h := h.1 hc
    refine lv_aload_n C.x C.b dX12_loop_160 rfl (lv_at hl 0 rfl) ?_
    refine lv_bipush (v := 125) C.x C.b dX12_loop_161 (by decide) ?_
    refine jr_V (d' := 6) C G jc11 jm_X12_take wd1312 h rfl (show 0 < 1 by decide) (by decide) rfl rfl (by omega) (by decide) (by decide) ⟨rfl, rfl⟩ hl.1 (Nat.le_of_ble_eq_true rfl) dX12_loop_163 (fun r1 r1n M2 H locs h G => ?_)
    obtain ⟨nM2, h⟩ := h
    refine lv_aload_n C.x C.b dX12_loop_166 rfl (lv_at hl 0 rfl) ?_
    refine lv_dup C.x C.b dX12_loop_167 rfl ?_
    refine jr_get C G jc11 14 (v := .int (M2 11 0 14)) (show 0 < 1 by decide) (by decide) (by decide) rfl wd1205 dX12_loop_168 ?_
    refine lv_iconst (v := 1) C.x C.b dX12_loop_171 (by decide) ?_
    refine lv_iadd C.x C.b dX12_loop_172 ?_
    refine jr_put C G jc11 14 (v := (M2 11 0 14) + 1) (show 0 < 1 by decide) (by decide) (by decide) rfl (by decide) wd1205 rfl rfl rfl rfl dX12_loop_173 (fun H locs G => ?_)
    obtain ⟨M3, eM3⟩ : ∃ z : jM, z = jup M2 11 0 14 ((M2 11 0 14) + 1) := ⟨_, rfl⟩
    rw [← eM3] at G
    have h := h M3 eM3
    have nM3 : jnb M3 = jnb M2 := by rw [eM3]; exact jnb_up (by decide)
    exact jr_retV C hr G h (by decide) (by decide) dX12_loop_176
  · have h := h.2 hc
    refine lv_aload_n C.x C.b dX12_loop_104 rfl (lv_at hl 0 rfl) ?_
    refine jr_V (d' := 6) C G jc11 jm_X12_statement wd1336 h rfl (show 0 < 1 by decide) (by decide) rfl rfl (by omega) (by decide) (by decide) ⟨rfl, rfl⟩ hl.1 (Nat.le_of_ble_eq_true rfl) dX12_loop_105 (fun r4 r4n M5 H locs h G => ?_)
    obtain ⟨nM5, h⟩ := h
    refine lv_aload_n C.x C.b dX12_loop_108 rfl (lv_at hl 0 rfl) ?_
    refine jr_get C G jc11 13 (v := .int (M5 11 0 13)) (show 0 < 1 by decide) (by decide) (by decide) rfl wd1204 dX12_loop_109 ?_
    refine lv_if_ne (tgt := 137) C.x C.b dX12_loop_112 (by decide) (fun hc => ?_) (fun hc => ?_)
    · have h := h.2 hc
      refine lv_iconst (v := 0) C.x C.b dX12_loop_137 (by decide) ?_
      refine lv_istore_n (lv' := [(1, .int 0), (0, .ref (g 11 0))]) C.x C.b dX12_loop_138 rfl hl (by decide) rfl (fun ls hl => ?_)
      refine lv_aload_n C.x C.b dX12_loop_139 rfl (lv_at hl 1 rfl) ?_
      refine lv_dup C.x C.b dX12_loop_140 rfl ?_
      refine jr_get C G jc11 12 (v := .int (M5 11 0 12)) (show 0 < 1 by decide) (by decide) (by decide) rfl wd1203 dX12_loop_141 ?_
      refine lv_iload_n C.x C.b dX12_loop_144 rfl (lv_at hl 0 rfl) ?_
      refine lv_if_eq (tgt := 152) C.x C.b dX12_loop_145 (by decide) (fun _ => ?_) (fun hc => absurd hc (by decide))
      refine lv_iconst (v := 0) C.x C.b dX12_loop_152 (by decide) ?_
      refine lv_iadd C.x C.b dX12_loop_153 ?_
      refine jr_put C G jc11 12 (v := (M5 11 0 12) + 0) (show 0 < 1 by decide) (by decide) (by decide) rfl (by decide) wd1203 rfl rfl rfl rfl dX12_loop_154 (fun H locs G => ?_)
      obtain ⟨M6, eM6⟩ : ∃ z : jM, z = jup M5 11 0 12 ((M5 11 0 12) + 0) := ⟨_, rfl⟩
      rw [← eM6] at G
      have h := h M6 eM6
      have nM6 : jnb M6 = jnb M5 := by rw [eM6]; exact jnb_up (by decide)
      refine lv_goto (tgt := 100) C.x C.b dX12_loop_157 (by decide) ?_
      exact h p l e s m args below meth c D cA base g C hr htb _ _ G ls (lv_sub hl [1, 0] rfl)
    · have h := h.1 hc
      refine lv_aload_n C.x C.b dX12_loop_115 rfl (lv_at hl 0 rfl) ?_
      obtain ⟨hp9, h⟩ := h
      refine jr_V (d' := 6) C G jc11 jm_X12_here wd1316 (sp_X12_here hp9 ⟨rfl, rfl⟩ : ok_X12_here  M5 (fun r _ M' => (jhr M5) = r ∧ M5 = M')) rfl (show 0 < 1 by decide) (by decide) rfl rfl (by omega) (by decide) (by decide) ⟨rfl, rfl⟩ hl.1 (Nat.le_of_ble_eq_true rfl) dX12_loop_116 (fun r7 r7n M8 H locs hq G => ?_)
      obtain ⟨eq1, eq2⟩ := hq
      subst eq1
      subst eq2
      refine lv_bipush (v := 59) C.x C.b dX12_loop_119 (by decide) ?_
      refine lv_icmp_ne (tgt := 137) C.x C.b dX12_loop_121 (by decide) (fun hc => ?_) (fun hc => ?_)
      · have h := h.2 hc
        refine lv_iconst (v := 0) C.x C.b dX12_loop_137 (by decide) ?_
        refine lv_istore_n (lv' := [(1, .int 0), (0, .ref (g 11 0))]) C.x C.b dX12_loop_138 rfl hl (by decide) rfl (fun ls hl => ?_)
        refine lv_aload_n C.x C.b dX12_loop_139 rfl (lv_at hl 1 rfl) ?_
        refine lv_dup C.x C.b dX12_loop_140 rfl ?_
        refine jr_get C G jc11 12 (v := .int (M5 11 0 12)) (show 0 < 1 by decide) (by decide) (by decide) rfl wd1203 dX12_loop_141 ?_
        refine lv_iload_n C.x C.b dX12_loop_144 rfl (lv_at hl 0 rfl) ?_
        refine lv_if_eq (tgt := 152) C.x C.b dX12_loop_145 (by decide) (fun _ => ?_) (fun hc => absurd hc (by decide))
        refine lv_iconst (v := 0) C.x C.b dX12_loop_152 (by decide) ?_
        refine lv_iadd C.x C.b dX12_loop_153 ?_
        refine jr_put C G jc11 12 (v := (M5 11 0 12) + 0) (show 0 < 1 by decide) (by decide) (by decide) rfl (by decide) wd1203 rfl rfl rfl rfl dX12_loop_154 (fun H locs G => ?_)
        obtain ⟨M10, eM10⟩ : ∃ z : jM, z = jup M5 11 0 12 ((M5 11 0 12) + 0) := ⟨_, rfl⟩
        rw [← eM10] at G
        have h := h M10 eM10
        have nM10 : jnb M10 = jnb M5 := by rw [eM10]; exact jnb_up (by decide)
        refine lv_goto (tgt := 100) C.x C.b dX12_loop_157 (by decide) ?_
        exact h p l e s m args below meth c D cA base g C hr htb _ _ G ls (lv_sub hl [1, 0] rfl)
      · have h := h.1 hc
        refine lv_aload_n C.x C.b dX12_loop_124 rfl (lv_at hl 0 rfl) ?_
        refine lv_iconst (v := 3) C.x C.b dX12_loop_125 (by decide) ?_
        obtain ⟨hp13, h⟩ := h
        refine jr_V (d' := 6) C G jc11 jm_X12_get wd1332 (sp_X12_get hp13 ⟨rfl, rfl⟩ : ok_X12_get 3 M5 (fun r _ M' => (M5 55 0 (585 * M5 11 0 14 + 3).toNatClampNeg) = r ∧ M5 = M')) rfl (show 0 < 1 by decide) (by decide) rfl rfl (by omega) (by decide) (by decide) ⟨rfl, rfl⟩ hl.1 (Nat.le_of_ble_eq_true rfl) dX12_loop_126 (fun r11 r11n M12 H locs hq G => ?_)
        obtain ⟨eq1, eq2⟩ := hq
        subst eq1
        subst eq2
        refine lv_iconst (v := 4) C.x C.b dX12_loop_129 (by decide) ?_
        refine lv_icmp_ge (tgt := 137) C.x C.b dX12_loop_130 (by decide) (fun hc => ?_) (fun hc => ?_)
        · have h := h.1 hc
          refine lv_iconst (v := 0) C.x C.b dX12_loop_137 (by decide) ?_
          refine lv_istore_n (lv' := [(1, .int 0), (0, .ref (g 11 0))]) C.x C.b dX12_loop_138 rfl hl (by decide) rfl (fun ls hl => ?_)
          refine lv_aload_n C.x C.b dX12_loop_139 rfl (lv_at hl 1 rfl) ?_
          refine lv_dup C.x C.b dX12_loop_140 rfl ?_
          refine jr_get C G jc11 12 (v := .int (M5 11 0 12)) (show 0 < 1 by decide) (by decide) (by decide) rfl wd1203 dX12_loop_141 ?_
          refine lv_iload_n C.x C.b dX12_loop_144 rfl (lv_at hl 0 rfl) ?_
          refine lv_if_eq (tgt := 152) C.x C.b dX12_loop_145 (by decide) (fun _ => ?_) (fun hc => absurd hc (by decide))
          refine lv_iconst (v := 0) C.x C.b dX12_loop_152 (by decide) ?_
          refine lv_iadd C.x C.b dX12_loop_153 ?_
          refine jr_put C G jc11 12 (v := (M5 11 0 12) + 0) (show 0 < 1 by decide) (by decide) (by decide) rfl (by decide) wd1203 rfl rfl rfl rfl dX12_loop_154 (fun H locs G => ?_)
          obtain ⟨M14, eM14⟩ : ∃ z : jM, z = jup M5 11 0 12 ((M5 11 0 12) + 0) := ⟨_, rfl⟩
          rw [← eM14] at G
          have h := h M14 eM14
          have nM14 : jnb M14 = jnb M5 := by rw [eM14]; exact jnb_up (by decide)
          refine lv_goto (tgt := 100) C.x C.b dX12_loop_157 (by decide) ?_
          exact h p l e s m args below meth c D cA base g C hr htb _ _ G ls (lv_sub hl [1, 0] rfl)
        · have h := h.2 hc
          refine lv_iconst (v := 1) C.x C.b dX12_loop_133 (by decide) ?_
          refine lv_goto (tgt := 138) C.x C.b dX12_loop_134 (by decide) ?_
          refine lv_istore_n (lv' := [(1, .int 1), (0, .ref (g 11 0))]) C.x C.b dX12_loop_138 rfl hl (by decide) rfl (fun ls hl => ?_)
          refine lv_aload_n C.x C.b dX12_loop_139 rfl (lv_at hl 1 rfl) ?_
          refine lv_dup C.x C.b dX12_loop_140 rfl ?_
          refine jr_get C G jc11 12 (v := .int (M5 11 0 12)) (show 0 < 1 by decide) (by decide) (by decide) rfl wd1203 dX12_loop_141 ?_
          refine lv_iload_n C.x C.b dX12_loop_144 rfl (lv_at hl 0 rfl) ?_
          refine lv_if_eq (tgt := 152) C.x C.b dX12_loop_145 (by decide) (fun hc => absurd hc (by decide)) (fun _ => ?_)
          refine lv_iconst (v := 1) C.x C.b dX12_loop_148 (by decide) ?_
          refine lv_goto (tgt := 153) C.x C.b dX12_loop_149 (by decide) ?_
          refine lv_iadd C.x C.b dX12_loop_153 ?_
          refine jr_put C G jc11 12 (v := (M5 11 0 12) + 1) (show 0 < 1 by decide) (by decide) (by decide) rfl (by decide) wd1203 rfl rfl rfl rfl dX12_loop_154 (fun H locs G => ?_)
          obtain ⟨M15, eM15⟩ : ∃ z : jM, z = jup M5 11 0 12 ((M5 11 0 12) + 1) := ⟨_, rfl⟩
          rw [← eM15] at G
          have h := h M15 eM15
          have nM15 : jnb M15 = jnb M5 := by rw [eM15]; exact jnb_up (by decide)
          refine lv_goto (tgt := 100) C.x C.b dX12_loop_157 (by decide) ?_
          exact h p l e s m args below meth c D cA base g C hr htb _ _ G ls (lv_sub hl [1, 0] rfl)

theorem en_X12_hits {v1 : Int32} {v2 : Int32} {M : jM} {Q : Int32 → Nat → jM → Prop} (h : at_X12_hits_0 v1 v2 M Q) : ok_X12_hits v1 v2 M Q := jr_enter (by decide) (fun g => rfl) (fun g => Nat.le_of_ble_eq_true rfl) h
set_option maxHeartbeats 4000000 in
set_option maxRecDepth 100000 in
theorem bl_X12_hits_0 (v1 : Int32) (v2 : Int32) (M : jM) (Q : Int32 → Nat → jM → Prop) 
  (h : ((0 ≤ v1 ∧ v1 ≤ M 11 0 0 - 1) → ((0 ≤ v2 ∧ v2 ≤ M 11 0 0 - 1) → (v1 ≤ v2 → (∀ M8 : jM, M8 = jup M 11 0 7 0 → ((M8 11 0 7) ≤ 0 → ok_X12_hitsOf v1 v2 M8 (fun r9 _ M10 => jnb M10 = jnb M8 ∧ Q r9 0 M10)) ∧ (¬ ((M8 11 0 7) ≤ 0) → Q 0 0 M8))) ∧ (¬ (v1 ≤ v2) → (∀ M11 : jM, M11 = jup M 11 0 7 2 → ((M11 11 0 7) ≤ 0 → ok_X12_hitsOf v1 v2 M11 (fun r12 _ M13 => jnb M13 = jnb M11 ∧ Q r12 0 M13)) ∧ (¬ ((M11 11 0 7) ≤ 0) → Q 0 0 M11)))) ∧ (¬ (0 ≤ v2 ∧ v2 ≤ M 11 0 0 - 1) → (∀ M14 : jM, M14 = jup M 11 0 7 1 → ((M14 11 0 7) ≤ 0 → ok_X12_hitsOf v1 v2 M14 (fun r15 _ M16 => jnb M16 = jnb M14 ∧ Q r15 0 M16)) ∧ (¬ ((M14 11 0 7) ≤ 0) → Q 0 0 M14)))) ∧ (¬ (0 ≤ v1 ∧ v1 ≤ M 11 0 0 - 1) → (∀ M3 : jM, M3 = jup M 11 0 7 1 → ((M3 11 0 7) ≤ 0 → ok_X12_hitsOf v1 v2 M3 (fun r4 _ M5 => jnb M5 = jnb M3 ∧ Q r4 0 M5)) ∧ (¬ ((M3 11 0 7) ≤ 0) → Q 0 0 M3)))) :
  at_X12_hits_0 v1 v2 M Q := by
  intro p l e s m args below meth c D cA base g C hr htb H locs G ls hl
  refine lv_aload_n C.x C.b dX12_hits_0 rfl (lv_at hl 0 rfl) ?_
  refine lv_aload_n C.x C.b dX12_hits_1 rfl (lv_at hl 0 rfl) ?_
  refine lv_iload_n C.x C.b dX12_hits_2 rfl (lv_at hl 1 rfl) ?_
  refine jr_V (d' := 6) C G jc11 jm_X12_isLoop wd1372 (sp_X12_isLoop ⟨rfl, rfl⟩ : ok_X12_isLoop v1 M (fun r _ M' => jb (0 ≤ v1 ∧ v1 ≤ M 11 0 0 - 1) = r ∧ M = M')) rfl (show 0 < 1 by decide) (by decide) rfl rfl (by omega) (by decide) (by decide) ⟨rfl, rfl⟩ hl.1 (Nat.le_of_ble_eq_true rfl) dX12_hits_3 (fun r1 r1n M2 H locs hq G => ?_)
  obtain ⟨eq1, eq2⟩ := hq
  subst eq1
  subst eq2
  refine lv_if_eq (tgt := 17) C.x C.b dX12_hits_6 (by decide) (fun hc => ?_) (fun hc => ?_)
  · have h := h.2 (jb_0 hc)
    refine lv_iconst (v := 1) C.x C.b dX12_hits_17 (by decide) ?_
    refine lv_goto (tgt := 31) C.x C.b dX12_hits_18 (by decide) ?_
    refine jr_put C G jc11 7 (v := 1) (show 0 < 1 by decide) (by decide) (by decide) rfl (by decide) wd1198 rfl rfl rfl rfl dX12_hits_31 (fun H locs G => ?_)
    obtain ⟨M3, eM3⟩ : ∃ z : jM, z = jup M 11 0 7 1 := ⟨_, rfl⟩
    rw [← eM3] at G
    have h := h M3 eM3
    have nM3 : jnb M3 = jnb M := by rw [eM3]; exact jnb_up (by decide)
    refine lv_aload_n C.x C.b dX12_hits_34 rfl (lv_at hl 0 rfl) ?_
    refine jr_get C G jc11 7 (v := .int (M3 11 0 7)) (show 0 < 1 by decide) (by decide) (by decide) rfl wd1198 dX12_hits_35 ?_
    refine lv_if_le (tgt := 45) C.x C.b dX12_hits_38 (by decide) (fun hc => ?_) (fun hc => ?_)
    · have h := h.1 hc
      refine lv_aload_n C.x C.b dX12_hits_45 rfl (lv_at hl 0 rfl) ?_
      refine lv_iload_n C.x C.b dX12_hits_46 rfl (lv_at hl 1 rfl) ?_
      refine lv_iload_n C.x C.b dX12_hits_47 rfl (lv_at hl 2 rfl) ?_
      refine jr_V (d' := 6) C G jc11 jm_X12_hitsOf wd1501 h rfl (show 0 < 1 by decide) (by decide) rfl rfl (by omega) (by decide) (by decide) ⟨rfl, rfl⟩ hl.1 (Nat.le_of_ble_eq_true rfl) dX12_hits_48 (fun r4 r4n M5 H locs h G => ?_)
      obtain ⟨nM5, h⟩ := h
      exact jr_retI C hr G h (by decide) (by decide) dX12_hits_51
    · have h := h.2 hc
      refine lv_iconst (v := 0) C.x C.b dX12_hits_41 (by decide) ?_
      refine lv_goto (tgt := 51) C.x C.b dX12_hits_42 (by decide) ?_
      exact jr_retI C hr G h (by decide) (by decide) dX12_hits_51
  · have h := h.1 (jb_1 hc)
    refine lv_aload_n C.x C.b dX12_hits_9 rfl (lv_at hl 0 rfl) ?_
    refine lv_iload_n C.x C.b dX12_hits_10 rfl (lv_at hl 2 rfl) ?_
    refine jr_V (d' := 6) C G jc11 jm_X12_isLoop wd1372 (sp_X12_isLoop ⟨rfl, rfl⟩ : ok_X12_isLoop v2 M (fun r _ M' => jb (0 ≤ v2 ∧ v2 ≤ M 11 0 0 - 1) = r ∧ M = M')) rfl (show 0 < 1 by decide) (by decide) rfl rfl (by omega) (by decide) (by decide) ⟨rfl, rfl⟩ hl.1 (Nat.le_of_ble_eq_true rfl) dX12_hits_11 (fun r6 r6n M7 H locs hq G => ?_)
    obtain ⟨eq1, eq2⟩ := hq
    subst eq1
    subst eq2
    refine lv_if_ne (tgt := 21) C.x C.b dX12_hits_14 (by decide) (fun hc => ?_) (fun hc => ?_)
    · have h := h.1 (jb_1 hc)
      refine lv_iload_n C.x C.b dX12_hits_21 rfl (lv_at hl 2 rfl) ?_
      refine lv_iload_n C.x C.b dX12_hits_22 rfl (lv_at hl 1 rfl) ?_
      refine lv_icmp_ge (tgt := 30) C.x C.b dX12_hits_23 (by decide) (fun hc => ?_) (fun hc => ?_)
      · have h := h.1 hc
        refine lv_iconst (v := 0) C.x C.b dX12_hits_30 (by decide) ?_
        refine jr_put C G jc11 7 (v := 0) (show 0 < 1 by decide) (by decide) (by decide) rfl (by decide) wd1198 rfl rfl rfl rfl dX12_hits_31 (fun H locs G => ?_)
        obtain ⟨M8, eM8⟩ : ∃ z : jM, z = jup M 11 0 7 0 := ⟨_, rfl⟩
        rw [← eM8] at G
        have h := h M8 eM8
        have nM8 : jnb M8 = jnb M := by rw [eM8]; exact jnb_up (by decide)
        refine lv_aload_n C.x C.b dX12_hits_34 rfl (lv_at hl 0 rfl) ?_
        refine jr_get C G jc11 7 (v := .int (M8 11 0 7)) (show 0 < 1 by decide) (by decide) (by decide) rfl wd1198 dX12_hits_35 ?_
        refine lv_if_le (tgt := 45) C.x C.b dX12_hits_38 (by decide) (fun hc => ?_) (fun hc => ?_)
        · have h := h.1 hc
          refine lv_aload_n C.x C.b dX12_hits_45 rfl (lv_at hl 0 rfl) ?_
          refine lv_iload_n C.x C.b dX12_hits_46 rfl (lv_at hl 1 rfl) ?_
          refine lv_iload_n C.x C.b dX12_hits_47 rfl (lv_at hl 2 rfl) ?_
          refine jr_V (d' := 6) C G jc11 jm_X12_hitsOf wd1501 h rfl (show 0 < 1 by decide) (by decide) rfl rfl (by omega) (by decide) (by decide) ⟨rfl, rfl⟩ hl.1 (Nat.le_of_ble_eq_true rfl) dX12_hits_48 (fun r9 r9n M10 H locs h G => ?_)
          obtain ⟨nM10, h⟩ := h
          exact jr_retI C hr G h (by decide) (by decide) dX12_hits_51
        · have h := h.2 hc
          refine lv_iconst (v := 0) C.x C.b dX12_hits_41 (by decide) ?_
          refine lv_goto (tgt := 51) C.x C.b dX12_hits_42 (by decide) ?_
          exact jr_retI C hr G h (by decide) (by decide) dX12_hits_51
      · have h := h.2 hc
        refine lv_iconst (v := 2) C.x C.b dX12_hits_26 (by decide) ?_
        refine lv_goto (tgt := 31) C.x C.b dX12_hits_27 (by decide) ?_
        refine jr_put C G jc11 7 (v := 2) (show 0 < 1 by decide) (by decide) (by decide) rfl (by decide) wd1198 rfl rfl rfl rfl dX12_hits_31 (fun H locs G => ?_)
        obtain ⟨M11, eM11⟩ : ∃ z : jM, z = jup M 11 0 7 2 := ⟨_, rfl⟩
        rw [← eM11] at G
        have h := h M11 eM11
        have nM11 : jnb M11 = jnb M := by rw [eM11]; exact jnb_up (by decide)
        refine lv_aload_n C.x C.b dX12_hits_34 rfl (lv_at hl 0 rfl) ?_
        refine jr_get C G jc11 7 (v := .int (M11 11 0 7)) (show 0 < 1 by decide) (by decide) (by decide) rfl wd1198 dX12_hits_35 ?_
        refine lv_if_le (tgt := 45) C.x C.b dX12_hits_38 (by decide) (fun hc => ?_) (fun hc => ?_)
        · have h := h.1 hc
          refine lv_aload_n C.x C.b dX12_hits_45 rfl (lv_at hl 0 rfl) ?_
          refine lv_iload_n C.x C.b dX12_hits_46 rfl (lv_at hl 1 rfl) ?_
          refine lv_iload_n C.x C.b dX12_hits_47 rfl (lv_at hl 2 rfl) ?_
          refine jr_V (d' := 6) C G jc11 jm_X12_hitsOf wd1501 h rfl (show 0 < 1 by decide) (by decide) rfl rfl (by omega) (by decide) (by decide) ⟨rfl, rfl⟩ hl.1 (Nat.le_of_ble_eq_true rfl) dX12_hits_48 (fun r12 r12n M13 H locs h G => ?_)
          obtain ⟨nM13, h⟩ := h
          exact jr_retI C hr G h (by decide) (by decide) dX12_hits_51
        · have h := h.2 hc
          refine lv_iconst (v := 0) C.x C.b dX12_hits_41 (by decide) ?_
          refine lv_goto (tgt := 51) C.x C.b dX12_hits_42 (by decide) ?_
          exact jr_retI C hr G h (by decide) (by decide) dX12_hits_51
    · have h := h.2 (jb_0 hc)
      refine lv_iconst (v := 1) C.x C.b dX12_hits_17 (by decide) ?_
      refine lv_goto (tgt := 31) C.x C.b dX12_hits_18 (by decide) ?_
      refine jr_put C G jc11 7 (v := 1) (show 0 < 1 by decide) (by decide) (by decide) rfl (by decide) wd1198 rfl rfl rfl rfl dX12_hits_31 (fun H locs G => ?_)
      obtain ⟨M14, eM14⟩ : ∃ z : jM, z = jup M 11 0 7 1 := ⟨_, rfl⟩
      rw [← eM14] at G
      have h := h M14 eM14
      have nM14 : jnb M14 = jnb M := by rw [eM14]; exact jnb_up (by decide)
      refine lv_aload_n C.x C.b dX12_hits_34 rfl (lv_at hl 0 rfl) ?_
      refine jr_get C G jc11 7 (v := .int (M14 11 0 7)) (show 0 < 1 by decide) (by decide) (by decide) rfl wd1198 dX12_hits_35 ?_
      refine lv_if_le (tgt := 45) C.x C.b dX12_hits_38 (by decide) (fun hc => ?_) (fun hc => ?_)
      · have h := h.1 hc
        refine lv_aload_n C.x C.b dX12_hits_45 rfl (lv_at hl 0 rfl) ?_
        refine lv_iload_n C.x C.b dX12_hits_46 rfl (lv_at hl 1 rfl) ?_
        refine lv_iload_n C.x C.b dX12_hits_47 rfl (lv_at hl 2 rfl) ?_
        refine jr_V (d' := 6) C G jc11 jm_X12_hitsOf wd1501 h rfl (show 0 < 1 by decide) (by decide) rfl rfl (by omega) (by decide) (by decide) ⟨rfl, rfl⟩ hl.1 (Nat.le_of_ble_eq_true rfl) dX12_hits_48 (fun r15 r15n M16 H locs h G => ?_)
        obtain ⟨nM16, h⟩ := h
        exact jr_retI C hr G h (by decide) (by decide) dX12_hits_51
      · have h := h.2 hc
        refine lv_iconst (v := 0) C.x C.b dX12_hits_41 (by decide) ?_
        refine lv_goto (tgt := 51) C.x C.b dX12_hits_42 (by decide) ?_
        exact jr_retI C hr G h (by decide) (by decide) dX12_hits_51

theorem en_X12_hitsIn {v1 : Int32} {M : jM} {Q : Int32 → Nat → jM → Prop} (h : at_X12_hitsIn_0 v1 M Q) : ok_X12_hitsIn v1 M Q := jr_enter (by decide) (fun g => rfl) (fun g => Nat.le_of_ble_eq_true rfl) h
set_option maxHeartbeats 4000000 in
set_option maxRecDepth 100000 in
theorem bl_X12_hitsIn_0 (v1 : Int32) (M : jM) (Q : Int32 → Nat → jM → Prop) 
  (h : at_X12_hitsIn_4 v1 0 0 M Q) :
  at_X12_hitsIn_0 v1 M Q := by
  intro p l e s m args below meth c D cA base g C hr htb H locs G ls hl
  refine lv_iconst (v := 0) C.x C.b dX12_hitsIn_0 (by decide) ?_
  refine lv_istore_n (lv' := [(2, .int 0), (0, .ref (g 11 0)), (1, .int v1)]) C.x C.b dX12_hitsIn_1 rfl hl (by decide) rfl (fun ls hl => ?_)
  refine lv_iconst (v := 0) C.x C.b dX12_hitsIn_2 (by decide) ?_
  refine lv_istore_n (lv' := [(3, .int 0), (2, .int 0), (0, .ref (g 11 0)), (1, .int v1)]) C.x C.b dX12_hitsIn_3 rfl hl (by decide) rfl (fun ls hl => ?_)
  exact h p l e s m args below meth c D cA base g C hr htb _ _ G ls (lv_sub hl [2, 3, 1, 0] rfl)
set_option maxHeartbeats 4000000 in
set_option maxRecDepth 100000 in
theorem bl_X12_hitsIn_4 (v1 : Int32) (v2 : Int32) (v3 : Int32) (M : jM) (Q : Int32 → Nat → jM → Prop) 
  (h : ((M 11 0 0) ≤ v3 → Q v2 0 M) ∧ (¬ ((M 11 0 0) ≤ v3) → ok_X12_endOf v1 v3 M (fun r1 _ M2 => jnb M2 = jnb M ∧ ok_X12_layShifts v3 r1 M2 (fun r3 _ M4 => jnb M4 = jnb M2 ∧ (r3 = 0 → Q (-1) 0 M4) ∧ (¬ (r3 = 0) → ok_X12_hitsOf v3 r1 M4 (fun r5 _ M6 => jnb M6 = jnb M4 ∧ at_X12_hitsIn_4 v1 (v2 + r5) (r1 + 1) M6 Q)))))) :
  at_X12_hitsIn_4 v1 v2 v3 M Q := by
  intro p l e s m args below meth c D cA base g C hr htb H locs G ls hl
  refine lv_iload_n C.x C.b dX12_hitsIn_4 rfl (lv_at hl 3 rfl) ?_
  refine lv_aload_n C.x C.b dX12_hitsIn_5 rfl (lv_at hl 0 rfl) ?_
  refine jr_get C G jc11 0 (v := .int (M 11 0 0)) (show 0 < 1 by decide) (by decide) (by decide) rfl wd1191 dX12_hitsIn_6 ?_
  refine lv_icmp_ge (tgt := 50) C.x C.b dX12_hitsIn_9 (by decide) (fun hc => ?_) (fun hc => ?_)
  · have h := h.1 hc
    refine lv_iload_n C.x C.b dX12_hitsIn_50 rfl (lv_at hl 2 rfl) ?_
    exact jr_retI C hr G h (by decide) (by decide) dX12_hitsIn_51
  · have h := h.2 hc
    refine lv_aload_n C.x C.b dX12_hitsIn_12 rfl (lv_at hl 0 rfl) ?_
    refine lv_iload_n C.x C.b dX12_hitsIn_13 rfl (lv_at hl 1 rfl) ?_
    refine lv_iload_n C.x C.b dX12_hitsIn_14 rfl (lv_at hl 3 rfl) ?_
    refine jr_V (d' := 6) C G jc11 jm_X12_endOf wd1530 h rfl (show 0 < 1 by decide) (by decide) rfl rfl (by omega) (by decide) (by decide) ⟨rfl, rfl⟩ hl.1 (Nat.le_of_ble_eq_true rfl) dX12_hitsIn_15 (fun r1 r1n M2 H locs h G => ?_)
    obtain ⟨nM2, h⟩ := h
    refine lv_istore (lv' := [(4, .int r1), (0, .ref (g 11 0)), (1, .int v1), (2, .int v2), (3, .int v3)]) C.x C.b dX12_hitsIn_18 hl (by decide) rfl (fun ls hl => ?_)
    refine lv_aload_n C.x C.b dX12_hitsIn_20 rfl (lv_at hl 1 rfl) ?_
    refine lv_iload_n C.x C.b dX12_hitsIn_21 rfl (lv_at hl 4 rfl) ?_
    refine lv_iload C.x C.b dX12_hitsIn_22 (lv_at hl 0 rfl) ?_
    refine jr_V (d' := 6) C G jc11 jm_X12_layShifts wd1493 h rfl (show 0 < 1 by decide) (by decide) rfl rfl (by omega) (by decide) (by decide) ⟨rfl, rfl⟩ hl.1 (Nat.le_of_ble_eq_true rfl) dX12_hitsIn_24 (fun r3 r3n M4 H locs h G => ?_)
    obtain ⟨nM4, h⟩ := h
    refine lv_if_ne (tgt := 32) C.x C.b dX12_hitsIn_27 (by decide) (fun hc => ?_) (fun hc => ?_)
    · have h := h.2 hc
      refine lv_iload_n C.x C.b dX12_hitsIn_32 rfl (lv_at hl 3 rfl) ?_
      refine lv_aload_n C.x C.b dX12_hitsIn_33 rfl (lv_at hl 1 rfl) ?_
      refine lv_iload_n C.x C.b dX12_hitsIn_34 rfl (lv_at hl 4 rfl) ?_
      refine lv_iload C.x C.b dX12_hitsIn_35 (lv_at hl 0 rfl) ?_
      refine jr_V (d' := 6) C G jc11 jm_X12_hitsOf wd1501 h rfl (show 0 < 1 by decide) (by decide) rfl rfl (by omega) (by decide) (by decide) ⟨rfl, rfl⟩ hl.1 (Nat.le_of_ble_eq_true rfl) dX12_hitsIn_37 (fun r5 r5n M6 H locs h G => ?_)
      obtain ⟨nM6, h⟩ := h
      refine lv_iadd C.x C.b dX12_hitsIn_40 ?_
      refine lv_istore_n (lv' := [(2, .int (v2 + r5)), (4, .int r1), (0, .ref (g 11 0)), (1, .int v1), (3, .int v3)]) C.x C.b dX12_hitsIn_41 rfl hl (by decide) rfl (fun ls hl => ?_)
      refine lv_iload C.x C.b dX12_hitsIn_42 (lv_at hl 1 rfl) ?_
      refine lv_iconst (v := 1) C.x C.b dX12_hitsIn_44 (by decide) ?_
      refine lv_iadd C.x C.b dX12_hitsIn_45 ?_
      refine lv_istore_n (lv' := [(3, .int (r1 + 1)), (2, .int (v2 + r5)), (4, .int r1), (0, .ref (g 11 0)), (1, .int v1)]) C.x C.b dX12_hitsIn_46 rfl hl (by decide) rfl (fun ls hl => ?_)
      refine lv_goto (tgt := 4) C.x C.b dX12_hitsIn_47 (by decide) ?_
      exact h p l e s m args below meth c D cA base g C hr htb _ _ G ls (lv_sub hl [3, 4, 1, 0] rfl)
    · have h := h.1 hc
      refine lv_iconst (v := (-1)) C.x C.b dX12_hitsIn_30 (by decide) ?_
      exact jr_retI C hr G h (by decide) (by decide) dX12_hitsIn_31

theorem en_X12_findNumbered {v1 : Int32} {v2 : Int32} {M : jM} {Q : Int32 → Nat → jM → Prop} (h : at_X12_findNumbered_0 v1 v2 M Q) : ok_X12_findNumbered v1 v2 M Q := jr_enter (by decide) (fun g => rfl) (fun g => Nat.le_of_ble_eq_true rfl) h
set_option maxHeartbeats 4000000 in
set_option maxRecDepth 100000 in
theorem bl_X12_findNumbered_0 (v1 : Int32) (v2 : Int32) (M : jM) (Q : Int32 → Nat → jM → Prop) 
  (h : at_X12_findNumbered_5 v1 v2 0 0 M Q) :
  at_X12_findNumbered_0 v1 v2 M Q := by
  intro p l e s m args below meth c D cA base g C hr htb H locs G ls hl
  refine lv_iconst (v := 0) C.x C.b dX12_findNumbered_0 (by decide) ?_
  refine lv_istore_n (lv' := [(3, .int 0), (0, .ref (g 11 0)), (1, .int v1), (2, .int v2)]) C.x C.b dX12_findNumbered_1 rfl hl (by decide) rfl (fun ls hl => ?_)
  refine lv_iconst (v := 0) C.x C.b dX12_findNumbered_2 (by decide) ?_
  refine lv_istore (lv' := [(4, .int 0), (3, .int 0), (0, .ref (g 11 0)), (1, .int v1), (2, .int v2)]) C.x C.b dX12_findNumbered_3 hl (by decide) rfl (fun ls hl => ?_)
  exact h p l e s m args below meth c D cA base g C hr htb _ _ G ls (lv_sub hl [2, 3, 4, 1, 0] rfl)
set_option maxHeartbeats 4000000 in
set_option maxRecDepth 100000 in
theorem bl_X12_findNumbered_5 (v1 : Int32) (v2 : Int32) (v3 : Int32) (v4 : Int32) (M : jM) (Q : Int32 → Nat → jM → Prop) 
  (h : (v2 ≤ v4 → (v2 < 0 → Q 0 0 M) ∧ (¬ (v2 < 0) → ((M 11 0 0) ≤ v3 → Q 0 0 M) ∧ (¬ ((M 11 0 0) ≤ v3) → ok_X12_findGroup v1 v3 M (fun r1 _ M2 => jnb M2 = jnb M ∧ Q 1 0 M2)))) ∧ (¬ (v2 ≤ v4) → ((M 11 0 0) ≤ v3 → (v2 < 0 → Q 0 0 M) ∧ (¬ (v2 < 0) → ((M 11 0 0) ≤ v3 → Q 0 0 M) ∧ (¬ ((M 11 0 0) ≤ v3) → ok_X12_findGroup v1 v3 M (fun r3 _ M4 => jnb M4 = jnb M ∧ Q 1 0 M4)))) ∧ (¬ ((M 11 0 0) ≤ v3) → ok_X12_endOf v1 v3 M (fun r5 _ M6 => jnb M6 = jnb M ∧ at_X12_findNumbered_5 v1 v2 (r5 + 1) (v4 + 1) M6 Q)))) :
  at_X12_findNumbered_5 v1 v2 v3 v4 M Q := by
  intro p l e s m args below meth c D cA base g C hr htb H locs G ls hl
  refine lv_iload C.x C.b dX12_findNumbered_5 (lv_at hl 4 rfl) ?_
  refine lv_iload_n C.x C.b dX12_findNumbered_7 rfl (lv_at hl 2 rfl) ?_
  refine lv_icmp_ge (tgt := 34) C.x C.b dX12_findNumbered_8 (by decide) (fun hc => ?_) (fun hc => ?_)
  · have h := h.1 hc
    refine lv_iload_n C.x C.b dX12_findNumbered_34 rfl (lv_at hl 2 rfl) ?_
    refine lv_if_lt (tgt := 50) C.x C.b dX12_findNumbered_35 (by decide) (fun hc => ?_) (fun hc => ?_)
    · have h := h.1 hc
      refine lv_iconst (v := 0) C.x C.b dX12_findNumbered_50 (by decide) ?_
      refine lv_istore (lv' := [(4, .int 0), (0, .ref (g 11 0)), (1, .int v1), (2, .int v2), (3, .int v3)]) C.x C.b dX12_findNumbered_51 hl (by decide) rfl (fun ls hl => ?_)
      refine lv_iload C.x C.b dX12_findNumbered_53 (lv_at hl 0 rfl) ?_
      refine lv_if_eq (tgt := 65) C.x C.b dX12_findNumbered_55 (by decide) (fun _ => ?_) (fun hc => absurd hc (by decide))
      refine lv_iload C.x C.b dX12_findNumbered_65 (lv_at hl 0 rfl) ?_
      exact jr_retZ C hr G rfl h (by decide) (by decide) dX12_findNumbered_67
    · have h := h.2 hc
      refine lv_iload_n C.x C.b dX12_findNumbered_38 rfl (lv_at hl 3 rfl) ?_
      refine lv_aload_n C.x C.b dX12_findNumbered_39 rfl (lv_at hl 0 rfl) ?_
      refine jr_get C G jc11 0 (v := .int (M 11 0 0)) (show 0 < 1 by decide) (by decide) (by decide) rfl wd1191 dX12_findNumbered_40 ?_
      refine lv_icmp_ge (tgt := 50) C.x C.b dX12_findNumbered_43 (by decide) (fun hc => ?_) (fun hc => ?_)
      · have h := h.1 hc
        refine lv_iconst (v := 0) C.x C.b dX12_findNumbered_50 (by decide) ?_
        refine lv_istore (lv' := [(4, .int 0), (0, .ref (g 11 0)), (1, .int v1), (2, .int v2), (3, .int v3)]) C.x C.b dX12_findNumbered_51 hl (by decide) rfl (fun ls hl => ?_)
        refine lv_iload C.x C.b dX12_findNumbered_53 (lv_at hl 0 rfl) ?_
        refine lv_if_eq (tgt := 65) C.x C.b dX12_findNumbered_55 (by decide) (fun _ => ?_) (fun hc => absurd hc (by decide))
        refine lv_iload C.x C.b dX12_findNumbered_65 (lv_at hl 0 rfl) ?_
        exact jr_retZ C hr G rfl h (by decide) (by decide) dX12_findNumbered_67
      · have h := h.2 hc
        refine lv_iconst (v := 1) C.x C.b dX12_findNumbered_46 (by decide) ?_
        refine lv_goto (tgt := 51) C.x C.b dX12_findNumbered_47 (by decide) ?_
        refine lv_istore (lv' := [(4, .int 1), (0, .ref (g 11 0)), (1, .int v1), (2, .int v2), (3, .int v3)]) C.x C.b dX12_findNumbered_51 hl (by decide) rfl (fun ls hl => ?_)
        refine lv_iload C.x C.b dX12_findNumbered_53 (lv_at hl 0 rfl) ?_
        refine lv_if_eq (tgt := 65) C.x C.b dX12_findNumbered_55 (by decide) (fun hc => absurd hc (by decide)) (fun _ => ?_)
        refine lv_aload_n C.x C.b dX12_findNumbered_58 rfl (lv_at hl 1 rfl) ?_
        refine lv_iload_n C.x C.b dX12_findNumbered_59 rfl (lv_at hl 2 rfl) ?_
        refine lv_iload_n C.x C.b dX12_findNumbered_60 rfl (lv_at hl 4 rfl) ?_
        refine jr_V (d' := 6) C G jc11 jm_X12_findGroup wd1548 h rfl (show 0 < 1 by decide) (by decide) rfl rfl (by omega) (by decide) (by decide) ⟨rfl, rfl⟩ hl.1 (Nat.le_of_ble_eq_true rfl) dX12_findNumbered_61 (fun r1 r1n M2 H locs h G => ?_)
        obtain ⟨nM2, h⟩ := h
        refine lv_pop C.x C.b dX12_findNumbered_64 rfl ?_
        refine lv_iload C.x C.b dX12_findNumbered_65 (lv_at hl 0 rfl) ?_
        exact jr_retZ C hr G rfl h (by decide) (by decide) dX12_findNumbered_67
  · have h := h.2 hc
    refine lv_iload_n C.x C.b dX12_findNumbered_11 rfl (lv_at hl 3 rfl) ?_
    refine lv_aload_n C.x C.b dX12_findNumbered_12 rfl (lv_at hl 0 rfl) ?_
    refine jr_get C G jc11 0 (v := .int (M 11 0 0)) (show 0 < 1 by decide) (by decide) (by decide) rfl wd1191 dX12_findNumbered_13 ?_
    refine lv_icmp_ge (tgt := 34) C.x C.b dX12_findNumbered_16 (by decide) (fun hc => ?_) (fun hc => ?_)
    · have h := h.1 hc
      refine lv_iload_n C.x C.b dX12_findNumbered_34 rfl (lv_at hl 2 rfl) ?_
      refine lv_if_lt (tgt := 50) C.x C.b dX12_findNumbered_35 (by decide) (fun hc => ?_) (fun hc => ?_)
      · have h := h.1 hc
        refine lv_iconst (v := 0) C.x C.b dX12_findNumbered_50 (by decide) ?_
        refine lv_istore (lv' := [(4, .int 0), (0, .ref (g 11 0)), (1, .int v1), (2, .int v2), (3, .int v3)]) C.x C.b dX12_findNumbered_51 hl (by decide) rfl (fun ls hl => ?_)
        refine lv_iload C.x C.b dX12_findNumbered_53 (lv_at hl 0 rfl) ?_
        refine lv_if_eq (tgt := 65) C.x C.b dX12_findNumbered_55 (by decide) (fun _ => ?_) (fun hc => absurd hc (by decide))
        refine lv_iload C.x C.b dX12_findNumbered_65 (lv_at hl 0 rfl) ?_
        exact jr_retZ C hr G rfl h (by decide) (by decide) dX12_findNumbered_67
      · have h := h.2 hc
        refine lv_iload_n C.x C.b dX12_findNumbered_38 rfl (lv_at hl 3 rfl) ?_
        refine lv_aload_n C.x C.b dX12_findNumbered_39 rfl (lv_at hl 0 rfl) ?_
        refine jr_get C G jc11 0 (v := .int (M 11 0 0)) (show 0 < 1 by decide) (by decide) (by decide) rfl wd1191 dX12_findNumbered_40 ?_
        refine lv_icmp_ge (tgt := 50) C.x C.b dX12_findNumbered_43 (by decide) (fun hc => ?_) (fun hc => ?_)
        · have h := h.1 hc
          refine lv_iconst (v := 0) C.x C.b dX12_findNumbered_50 (by decide) ?_
          refine lv_istore (lv' := [(4, .int 0), (0, .ref (g 11 0)), (1, .int v1), (2, .int v2), (3, .int v3)]) C.x C.b dX12_findNumbered_51 hl (by decide) rfl (fun ls hl => ?_)
          refine lv_iload C.x C.b dX12_findNumbered_53 (lv_at hl 0 rfl) ?_
          refine lv_if_eq (tgt := 65) C.x C.b dX12_findNumbered_55 (by decide) (fun _ => ?_) (fun hc => absurd hc (by decide))
          refine lv_iload C.x C.b dX12_findNumbered_65 (lv_at hl 0 rfl) ?_
          exact jr_retZ C hr G rfl h (by decide) (by decide) dX12_findNumbered_67
        · have h := h.2 hc
          refine lv_iconst (v := 1) C.x C.b dX12_findNumbered_46 (by decide) ?_
          refine lv_goto (tgt := 51) C.x C.b dX12_findNumbered_47 (by decide) ?_
          refine lv_istore (lv' := [(4, .int 1), (0, .ref (g 11 0)), (1, .int v1), (2, .int v2), (3, .int v3)]) C.x C.b dX12_findNumbered_51 hl (by decide) rfl (fun ls hl => ?_)
          refine lv_iload C.x C.b dX12_findNumbered_53 (lv_at hl 0 rfl) ?_
          refine lv_if_eq (tgt := 65) C.x C.b dX12_findNumbered_55 (by decide) (fun hc => absurd hc (by decide)) (fun _ => ?_)
          refine lv_aload_n C.x C.b dX12_findNumbered_58 rfl (lv_at hl 1 rfl) ?_
          refine lv_iload_n C.x C.b dX12_findNumbered_59 rfl (lv_at hl 2 rfl) ?_
          refine lv_iload_n C.x C.b dX12_findNumbered_60 rfl (lv_at hl 4 rfl) ?_
          refine jr_V (d' := 6) C G jc11 jm_X12_findGroup wd1548 h rfl (show 0 < 1 by decide) (by decide) rfl rfl (by omega) (by decide) (by decide) ⟨rfl, rfl⟩ hl.1 (Nat.le_of_ble_eq_true rfl) dX12_findNumbered_61 (fun r3 r3n M4 H locs h G => ?_)
          obtain ⟨nM4, h⟩ := h
          refine lv_pop C.x C.b dX12_findNumbered_64 rfl ?_
          refine lv_iload C.x C.b dX12_findNumbered_65 (lv_at hl 0 rfl) ?_
          exact jr_retZ C hr G rfl h (by decide) (by decide) dX12_findNumbered_67
    · have h := h.2 hc
      refine lv_aload_n C.x C.b dX12_findNumbered_19 rfl (lv_at hl 0 rfl) ?_
      refine lv_iload_n C.x C.b dX12_findNumbered_20 rfl (lv_at hl 1 rfl) ?_
      refine lv_iload_n C.x C.b dX12_findNumbered_21 rfl (lv_at hl 3 rfl) ?_
      refine jr_V (d' := 6) C G jc11 jm_X12_endOf wd1530 h rfl (show 0 < 1 by decide) (by decide) rfl rfl (by omega) (by decide) (by decide) ⟨rfl, rfl⟩ hl.1 (Nat.le_of_ble_eq_true rfl) dX12_findNumbered_22 (fun r5 r5n M6 H locs h G => ?_)
      obtain ⟨nM6, h⟩ := h
      refine lv_iconst (v := 1) C.x C.b dX12_findNumbered_25 (by decide) ?_
      refine lv_iadd C.x C.b dX12_findNumbered_26 ?_
      refine lv_istore_n (lv' := [(3, .int (r5 + 1)), (0, .ref (g 11 0)), (1, .int v1), (2, .int v2), (4, .int v4)]) C.x C.b dX12_findNumbered_27 rfl hl (by decide) rfl (fun ls hl => ?_)
      refine lv_iinc (v := v4 + 1) (lv' := [(4, .int (v4 + 1)), (3, .int (r5 + 1)), (0, .ref (g 11 0)), (1, .int v1), (2, .int v2)]) C.x C.b dX12_findNumbered_28 hl (k := 4) rfl rfl (by decide) rfl (fun ls hl => ?_)
      refine lv_goto (tgt := 5) C.x C.b dX12_findNumbered_31 (by decide) ?_
      exact h p l e s m args below meth c D cA base g C hr htb _ _ G ls (lv_sub hl [2, 3, 4, 1, 0] rfl)

theorem en_X12_read  {M : jM} {Q : Int32 → Nat → jM → Prop} (h : at_X12_read_0  M Q) : ok_X12_read  M Q := jr_enter (by decide) (fun g => rfl) (fun g => Nat.le_of_ble_eq_true rfl) h
set_option maxHeartbeats 4000000 in
set_option maxRecDepth 100000 in
theorem bl_X12_read_0  (M : jM) (Q : Int32 → Nat → jM → Prop) 
  (h : (∀ M1 : jM, M1 = jup M 11 0 7 0 → (∀ M2 : jM, M2 = jup M1 11 0 11 (M1 11 0 8) → (∀ M3 : jM, M3 = jup M2 11 0 8 0 → (∀ M4 : jM, M4 = jup M3 11 0 12 0 → (∀ M5 : jM, M5 = jup M4 11 0 13 0 → (∀ M6 : jM, M6 = jup M5 11 0 10 (-1) → (∀ M7 : jM, M7 = jup M6 11 0 14 0 → at_X12_read_40 1 M7 Q)))))))) :
  at_X12_read_0  M Q := by
  intro p l e s m args below meth c D cA base g C hr htb H locs G ls hl
  refine lv_aload_n C.x C.b dX12_read_0 rfl (lv_at hl 0 rfl) ?_
  refine lv_iconst (v := 0) C.x C.b dX12_read_1 (by decide) ?_
  refine jr_put C G jc11 7 (v := 0) (show 0 < 1 by decide) (by decide) (by decide) rfl (by decide) wd1198 rfl rfl rfl rfl dX12_read_2 (fun H locs G => ?_)
  obtain ⟨M1, eM1⟩ : ∃ z : jM, z = jup M 11 0 7 0 := ⟨_, rfl⟩
  rw [← eM1] at G
  have h := h M1 eM1
  have nM1 : jnb M1 = jnb M := by rw [eM1]; exact jnb_up (by decide)
  refine lv_aload_n C.x C.b dX12_read_5 rfl (lv_at hl 0 rfl) ?_
  refine lv_aload_n C.x C.b dX12_read_6 rfl (lv_at hl 0 rfl) ?_
  refine jr_get C G jc11 8 (v := .int (M1 11 0 8)) (show 0 < 1 by decide) (by decide) (by decide) rfl wd1199 dX12_read_7 ?_
  refine jr_put C G jc11 11 (v := M1 11 0 8) (show 0 < 1 by decide) (by decide) (by decide) rfl (by decide) wd1202 rfl rfl rfl rfl dX12_read_10 (fun H locs G => ?_)
  obtain ⟨M2, eM2⟩ : ∃ z : jM, z = jup M1 11 0 11 (M1 11 0 8) := ⟨_, rfl⟩
  rw [← eM2] at G
  have h := h M2 eM2
  have nM2 : jnb M2 = jnb M1 := by rw [eM2]; exact jnb_up (by decide)
  refine lv_aload_n C.x C.b dX12_read_13 rfl (lv_at hl 0 rfl) ?_
  refine lv_iconst (v := 0) C.x C.b dX12_read_14 (by decide) ?_
  refine jr_put C G jc11 8 (v := 0) (show 0 < 1 by decide) (by decide) (by decide) rfl (by decide) wd1199 rfl rfl rfl rfl dX12_read_15 (fun H locs G => ?_)
  obtain ⟨M3, eM3⟩ : ∃ z : jM, z = jup M2 11 0 8 0 := ⟨_, rfl⟩
  rw [← eM3] at G
  have h := h M3 eM3
  have nM3 : jnb M3 = jnb M2 := by rw [eM3]; exact jnb_up (by decide)
  refine lv_aload_n C.x C.b dX12_read_18 rfl (lv_at hl 0 rfl) ?_
  refine lv_iconst (v := 0) C.x C.b dX12_read_19 (by decide) ?_
  refine jr_put C G jc11 12 (v := 0) (show 0 < 1 by decide) (by decide) (by decide) rfl (by decide) wd1203 rfl rfl rfl rfl dX12_read_20 (fun H locs G => ?_)
  obtain ⟨M4, eM4⟩ : ∃ z : jM, z = jup M3 11 0 12 0 := ⟨_, rfl⟩
  rw [← eM4] at G
  have h := h M4 eM4
  have nM4 : jnb M4 = jnb M3 := by rw [eM4]; exact jnb_up (by decide)
  refine lv_aload_n C.x C.b dX12_read_23 rfl (lv_at hl 0 rfl) ?_
  refine lv_iconst (v := 0) C.x C.b dX12_read_24 (by decide) ?_
  refine jr_put C G jc11 13 (v := 0) (show 0 < 1 by decide) (by decide) (by decide) rfl (by decide) wd1204 rfl rfl rfl rfl dX12_read_25 (fun H locs G => ?_)
  obtain ⟨M5, eM5⟩ : ∃ z : jM, z = jup M4 11 0 13 0 := ⟨_, rfl⟩
  rw [← eM5] at G
  have h := h M5 eM5
  have nM5 : jnb M5 = jnb M4 := by rw [eM5]; exact jnb_up (by decide)
  refine lv_aload_n C.x C.b dX12_read_28 rfl (lv_at hl 0 rfl) ?_
  refine lv_iconst (v := (-1)) C.x C.b dX12_read_29 (by decide) ?_
  refine jr_put C G jc11 10 (v := (-1)) (show 0 < 1 by decide) (by decide) (by decide) rfl (by decide) wd1201 rfl rfl rfl rfl dX12_read_30 (fun H locs G => ?_)
  obtain ⟨M6, eM6⟩ : ∃ z : jM, z = jup M5 11 0 10 (-1) := ⟨_, rfl⟩
  rw [← eM6] at G
  have h := h M6 eM6
  have nM6 : jnb M6 = jnb M5 := by rw [eM6]; exact jnb_up (by decide)
  refine lv_aload_n C.x C.b dX12_read_33 rfl (lv_at hl 0 rfl) ?_
  refine lv_iconst (v := 0) C.x C.b dX12_read_34 (by decide) ?_
  refine jr_put C G jc11 14 (v := 0) (show 0 < 1 by decide) (by decide) (by decide) rfl (by decide) wd1205 rfl rfl rfl rfl dX12_read_35 (fun H locs G => ?_)
  obtain ⟨M7, eM7⟩ : ∃ z : jM, z = jup M6 11 0 14 0 := ⟨_, rfl⟩
  rw [← eM7] at G
  have h := h M7 eM7
  have nM7 : jnb M7 = jnb M6 := by rw [eM7]; exact jnb_up (by decide)
  refine lv_iconst (v := 1) C.x C.b dX12_read_38 (by decide) ?_
  refine lv_istore_n (lv' := [(1, .int 1), (0, .ref (g 11 0))]) C.x C.b dX12_read_39 rfl hl (by decide) rfl (fun ls hl => ?_)
  exact h p l e s m args below meth c D cA base g C hr htb _ _ G ls (lv_sub hl [1, 0] rfl)
set_option maxHeartbeats 4000000 in
set_option maxRecDepth 100000 in
theorem bl_X12_read_40 (v1 : Int32) (M : jM) (Q : Int32 → Nat → jM → Prop) 
  (h : (v1 = 0 → (M 11 0 13 = 0 → (((M 11 0 0) + (M 11 0 14)) ≤ 6 → at_X12_read_110 0 M Q) ∧ (¬ (((M 11 0 0) + (M 11 0 14)) ≤ 6) → (∀ M2 : jM, M2 = jup M 11 0 7 2 → Q 0 0 M2))) ∧ (¬ (M 11 0 13 = 0) → (∀ M4 : jM, M4 = jup M 11 0 7 1 → Q 0 0 M4))) ∧ (¬ (v1 = 0) → ok_X12_loop  M (fun _ _ M6 => jnb M6 = jnb M ∧ (M6 11 0 13 = 0 → ((M6 11 0 11) ≤ (M6 11 0 12) → at_X12_read_40 0 M6 Q) ∧ (¬ ((M6 11 0 11) ≤ (M6 11 0 12)) → at_X12_read_40 1 M6 Q)) ∧ (¬ (M6 11 0 13 = 0) → at_X12_read_40 0 M6 Q)))) :
  at_X12_read_40 v1 M Q := by
  intro p l e s m args below meth c D cA base g C hr htb H locs G ls hl
  refine lv_iload_n C.x C.b dX12_read_40 rfl (lv_at hl 1 rfl) ?_
  refine lv_if_eq (tgt := 75) C.x C.b dX12_read_41 (by decide) (fun hc => ?_) (fun hc => ?_)
  · have h := h.1 hc
    refine lv_aload_n C.x C.b dX12_read_75 rfl (lv_at hl 0 rfl) ?_
    refine jr_get C G jc11 13 (v := .int (M 11 0 13)) (show 0 < 1 by decide) (by decide) (by decide) rfl wd1204 dX12_read_76 ?_
    refine lv_if_eq (tgt := 88) C.x C.b dX12_read_79 (by decide) (fun hc => ?_) (fun hc => ?_)
    · have h := h.1 hc
      refine lv_aload_n C.x C.b dX12_read_88 rfl (lv_at hl 0 rfl) ?_
      refine jr_get C G jc11 0 (v := .int (M 11 0 0)) (show 0 < 1 by decide) (by decide) (by decide) rfl wd1191 dX12_read_89 ?_
      refine lv_aload_n C.x C.b dX12_read_92 rfl (lv_at hl 0 rfl) ?_
      refine jr_get C G jc11 14 (v := .int (M 11 0 14)) (show 0 < 1 by decide) (by decide) (by decide) rfl wd1205 dX12_read_93 ?_
      refine lv_iadd C.x C.b dX12_read_96 ?_
      refine lv_bipush (v := 6) C.x C.b dX12_read_97 (by decide) ?_
      refine lv_icmp_le (tgt := 108) C.x C.b dX12_read_99 (by decide) (fun hc => ?_) (fun hc => ?_)
      · have h := h.1 hc
        refine lv_iconst (v := 0) C.x C.b dX12_read_108 (by decide) ?_
        refine lv_istore_n (lv' := [(2, .int 0), (0, .ref (g 11 0)), (1, .int v1)]) C.x C.b dX12_read_109 rfl hl (by decide) rfl (fun ls hl => ?_)
        exact h p l e s m args below meth c D cA base g C hr htb _ _ G ls (lv_sub hl [1, 0] rfl)
      · have h := h.2 hc
        refine lv_aload_n C.x C.b dX12_read_102 rfl (lv_at hl 0 rfl) ?_
        refine lv_iconst (v := 2) C.x C.b dX12_read_103 (by decide) ?_
        refine jr_V (d' := 7) C G jc11 jm_X12_refuse wd1296 (sp_X12_refuse ⟨rfl, rfl⟩ : ok_X12_refuse 2 M (fun r _ M' => 0 = r ∧ M' = jup M 11 0 7 2)) rfl (show 0 < 1 by decide) (by decide) rfl rfl (by omega) (by decide) (by decide) ⟨rfl, rfl⟩ hl.1 (Nat.le_of_ble_eq_true rfl) dX12_read_104 (fun r1 r1n M2 H locs hq G => ?_)
        obtain ⟨eq1, eM2⟩ := hq
        subst eq1
        have h := h M2 eM2
        have nM2 : jnb M2 = jnb M := by rw [eM2]; first | exact jnb_up (by decide) | simp [jnb_up]
        exact jr_retI C hr G h (by decide) (by decide) dX12_read_107
    · have h := h.2 hc
      refine lv_aload_n C.x C.b dX12_read_82 rfl (lv_at hl 0 rfl) ?_
      refine lv_iconst (v := 1) C.x C.b dX12_read_83 (by decide) ?_
      refine jr_V (d' := 7) C G jc11 jm_X12_refuse wd1296 (sp_X12_refuse ⟨rfl, rfl⟩ : ok_X12_refuse 1 M (fun r _ M' => 0 = r ∧ M' = jup M 11 0 7 1)) rfl (show 0 < 1 by decide) (by decide) rfl rfl (by omega) (by decide) (by decide) ⟨rfl, rfl⟩ hl.1 (Nat.le_of_ble_eq_true rfl) dX12_read_84 (fun r3 r3n M4 H locs hq G => ?_)
      obtain ⟨eq1, eM4⟩ := hq
      subst eq1
      have h := h M4 eM4
      have nM4 : jnb M4 = jnb M := by rw [eM4]; first | exact jnb_up (by decide) | simp [jnb_up]
      exact jr_retI C hr G h (by decide) (by decide) dX12_read_87
  · have h := h.2 hc
    refine lv_aload_n C.x C.b dX12_read_44 rfl (lv_at hl 0 rfl) ?_
    refine jr_V (d' := 7) C G jc11 jm_X12_loop wd1304 h rfl (show 0 < 1 by decide) (by decide) rfl rfl (by omega) (by decide) (by decide) ⟨rfl, rfl⟩ hl.1 (Nat.le_of_ble_eq_true rfl) dX12_read_45 (fun r5 r5n M6 H locs h G => ?_)
    obtain ⟨nM6, h⟩ := h
    refine lv_aload_n C.x C.b dX12_read_48 rfl (lv_at hl 0 rfl) ?_
    refine jr_get C G jc11 13 (v := .int (M6 11 0 13)) (show 0 < 1 by decide) (by decide) (by decide) rfl wd1204 dX12_read_49 ?_
    refine lv_if_ne (tgt := 70) C.x C.b dX12_read_52 (by decide) (fun hc => ?_) (fun hc => ?_)
    · have h := h.2 hc
      refine lv_iconst (v := 0) C.x C.b dX12_read_70 (by decide) ?_
      refine lv_istore_n (lv' := [(1, .int 0), (0, .ref (g 11 0))]) C.x C.b dX12_read_71 rfl hl (by decide) rfl (fun ls hl => ?_)
      refine lv_goto (tgt := 40) C.x C.b dX12_read_72 (by decide) ?_
      exact h p l e s m args below meth c D cA base g C hr htb _ _ G ls (lv_sub hl [1, 0] rfl)
    · have h := h.1 hc
      refine lv_aload_n C.x C.b dX12_read_55 rfl (lv_at hl 0 rfl) ?_
      refine jr_get C G jc11 12 (v := .int (M6 11 0 12)) (show 0 < 1 by decide) (by decide) (by decide) rfl wd1203 dX12_read_56 ?_
      refine lv_aload_n C.x C.b dX12_read_59 rfl (lv_at hl 0 rfl) ?_
      refine jr_get C G jc11 11 (v := .int (M6 11 0 11)) (show 0 < 1 by decide) (by decide) (by decide) rfl wd1202 dX12_read_60 ?_
      refine lv_icmp_ge (tgt := 70) C.x C.b dX12_read_63 (by decide) (fun hc => ?_) (fun hc => ?_)
      · have h := h.1 hc
        refine lv_iconst (v := 0) C.x C.b dX12_read_70 (by decide) ?_
        refine lv_istore_n (lv' := [(1, .int 0), (0, .ref (g 11 0))]) C.x C.b dX12_read_71 rfl hl (by decide) rfl (fun ls hl => ?_)
        refine lv_goto (tgt := 40) C.x C.b dX12_read_72 (by decide) ?_
        exact h p l e s m args below meth c D cA base g C hr htb _ _ G ls (lv_sub hl [1, 0] rfl)
      · have h := h.2 hc
        refine lv_iconst (v := 1) C.x C.b dX12_read_66 (by decide) ?_
        refine lv_goto (tgt := 71) C.x C.b dX12_read_67 (by decide) ?_
        refine lv_istore_n (lv' := [(1, .int 1), (0, .ref (g 11 0))]) C.x C.b dX12_read_71 rfl hl (by decide) rfl (fun ls hl => ?_)
        refine lv_goto (tgt := 40) C.x C.b dX12_read_72 (by decide) ?_
        exact h p l e s m args below meth c D cA base g C hr htb _ _ G ls (lv_sub hl [1, 0] rfl)
set_option maxHeartbeats 4000000 in
set_option maxRecDepth 100000 in
theorem bl_X12_read_110 (v2 : Int32) (M : jM) (Q : Int32 → Nat → jM → Prop) 
  (h : ((585 * (M 11 0 14)) ≤ v2 → (∀ M1 : jM, M1 = jup M 11 0 0 ((M 11 0 0) + (M 11 0 14)) → Q (M1 11 0 14) 0 M1)) ∧ (¬ ((585 * (M 11 0 14)) ≤ v2) → vp_in v2 11700 ∧ vp_in ((585 * (M 11 0 0)) + v2) 3510 ∧ (∀ M2 : jM, M2 = jup M 50 0 ((585 * (M 11 0 0)) + v2).toNatClampNeg (M 55 0 v2.toNatClampNeg) → at_X12_read_110 (v2 + 1) M2 Q))) :
  at_X12_read_110 v2 M Q := by
  intro p l e s m args below meth c D cA base g C hr htb H locs G ls hl
  refine lv_iload_n C.x C.b dX12_read_110 rfl (lv_at hl 1 rfl) ?_
  refine lv_sipush (v := 585) C.x C.b dX12_read_111 (by decide) ?_
  refine lv_aload_n C.x C.b dX12_read_114 rfl (lv_at hl 0 rfl) ?_
  refine jr_get C G jc11 14 (v := .int (M 11 0 14)) (show 0 < 1 by decide) (by decide) (by decide) rfl wd1205 dX12_read_115 ?_
  refine lv_imul C.x C.b dX12_read_118 ?_
  refine lv_icmp_ge (tgt := 149) C.x C.b dX12_read_119 (by decide) (fun hc => ?_) (fun hc => ?_)
  · have h := h.1 hc
    refine lv_aload_n C.x C.b dX12_read_149 rfl (lv_at hl 0 rfl) ?_
    refine lv_dup C.x C.b dX12_read_150 rfl ?_
    refine jr_get C G jc11 0 (v := .int (M 11 0 0)) (show 0 < 1 by decide) (by decide) (by decide) rfl wd1191 dX12_read_151 ?_
    refine lv_aload_n C.x C.b dX12_read_154 rfl (lv_at hl 0 rfl) ?_
    refine jr_get C G jc11 14 (v := .int (M 11 0 14)) (show 0 < 1 by decide) (by decide) (by decide) rfl wd1205 dX12_read_155 ?_
    refine lv_iadd C.x C.b dX12_read_158 ?_
    refine jr_put C G jc11 0 (v := (M 11 0 0) + (M 11 0 14)) (show 0 < 1 by decide) (by decide) (by decide) rfl (by decide) wd1191 rfl rfl rfl rfl dX12_read_159 (fun H locs G => ?_)
    obtain ⟨M1, eM1⟩ : ∃ z : jM, z = jup M 11 0 0 ((M 11 0 0) + (M 11 0 14)) := ⟨_, rfl⟩
    rw [← eM1] at G
    have h := h M1 eM1
    have nM1 : jnb M1 = jnb M := by rw [eM1]; exact jnb_up (by decide)
    refine lv_aload_n C.x C.b dX12_read_162 rfl (lv_at hl 0 rfl) ?_
    refine jr_get C G jc11 14 (v := .int (M1 11 0 14)) (show 0 < 1 by decide) (by decide) (by decide) rfl wd1205 dX12_read_163 ?_
    exact jr_retI C hr G h (by decide) (by decide) dX12_read_166
  · have h := h.2 hc
    refine lv_aload_n C.x C.b dX12_read_122 rfl (lv_at hl 0 rfl) ?_
    refine jr_get C G jc11 1 (v := .ref (g 50 0)) (show 0 < 1 by decide) (by decide) (by decide) rfl wd1192 dX12_read_123 ?_
    refine lv_sipush (v := 585) C.x C.b dX12_read_126 (by decide) ?_
    refine lv_aload_n C.x C.b dX12_read_129 rfl (lv_at hl 0 rfl) ?_
    refine jr_get C G jc11 0 (v := .int (M 11 0 0)) (show 0 < 1 by decide) (by decide) (by decide) rfl wd1191 dX12_read_130 ?_
    refine lv_imul C.x C.b dX12_read_133 ?_
    refine lv_iload_n C.x C.b dX12_read_134 rfl (lv_at hl 1 rfl) ?_
    refine lv_iadd C.x C.b dX12_read_135 ?_
    refine lv_aload_n C.x C.b dX12_read_136 rfl (lv_at hl 0 rfl) ?_
    refine jr_get C G jc11 15 (v := .ref (g 55 0)) (show 0 < 1 by decide) (by decide) (by decide) rfl wd1206 dX12_read_137 ?_
    refine lv_iload_n C.x C.b dX12_read_140 rfl (lv_at hl 1 rfl) ?_
    obtain ⟨hs, h⟩ := h
    refine jr_ald C G (show 0 < 1 by decide) (by decide) (by decide) (by decide) rfl rfl hs dX12_read_141 ?_
    obtain ⟨hs, h⟩ := h
    refine jr_ast C G (show 0 < 1 by decide) (by decide) (by decide) (by decide) rfl rfl hs dX12_read_142 (fun H locs G => ?_)
    obtain ⟨M2, eM2⟩ : ∃ z : jM, z = jup M 50 0 ((585 * (M 11 0 0)) + v2).toNatClampNeg (M 55 0 v2.toNatClampNeg) := ⟨_, rfl⟩
    rw [← eM2] at G
    have h := h M2 eM2
    have nM2 : jnb M2 = jnb M := by rw [eM2]; exact jnb_up (by decide)
    refine lv_iinc (v := v2 + 1) (lv' := [(2, .int (v2 + 1)), (0, .ref (g 11 0))]) C.x C.b dX12_read_143 hl (k := 1) rfl rfl (by decide) rfl (fun ls hl => ?_)
    refine lv_goto (tgt := 110) C.x C.b dX12_read_146 (by decide) ?_
    exact h p l e s m args below meth c D cA base g C hr htb _ _ G ls (lv_sub hl [1, 0] rfl)

theorem en_X12_bestSet  {M : jM} {Q : Int32 → Nat → jM → Prop} (h : at_X12_bestSet_0  M Q) : ok_X12_bestSet  M Q := jr_enter (by decide) (fun g => rfl) (fun g => Nat.le_of_ble_eq_true rfl) h
set_option maxHeartbeats 4000000 in
set_option maxRecDepth 100000 in
theorem bl_X12_bestSet_0  (M : jM) (Q : Int32 → Nat → jM → Prop) 
  (h : at_X12_bestSet_6 (-1) (-1) 0 M Q) :
  at_X12_bestSet_0  M Q := by
  intro p l e s m args below meth c D cA base g C hr htb H locs G ls hl
  refine lv_iconst (v := (-1)) C.x C.b dX12_bestSet_0 (by decide) ?_
  refine lv_istore_n (lv' := [(1, .int (-1)), (0, .ref (g 11 0))]) C.x C.b dX12_bestSet_1 rfl hl (by decide) rfl (fun ls hl => ?_)
  refine lv_iconst (v := (-1)) C.x C.b dX12_bestSet_2 (by decide) ?_
  refine lv_istore_n (lv' := [(2, .int (-1)), (1, .int (-1)), (0, .ref (g 11 0))]) C.x C.b dX12_bestSet_3 rfl hl (by decide) rfl (fun ls hl => ?_)
  refine lv_iconst (v := 0) C.x C.b dX12_bestSet_4 (by decide) ?_
  refine lv_istore_n (lv' := [(3, .int 0), (2, .int (-1)), (1, .int (-1)), (0, .ref (g 11 0))]) C.x C.b dX12_bestSet_5 rfl hl (by decide) rfl (fun ls hl => ?_)
  exact h p l e s m args below meth c D cA base g C hr htb _ _ G ls (lv_sub hl [3, 2, 1, 0] rfl)
set_option maxHeartbeats 4000000 in
set_option maxRecDepth 100000 in
theorem bl_X12_bestSet_6 (v1 : Int32) (v2 : Int32) (v3 : Int32) (M : jM) (Q : Int32 → Nat → jM → Prop) 
  (h : ((1 <<< ((jmax 0 ((M 11 0 0) - 1)) &&& 31)) ≤ v3 → Q v1 0 M) ∧ (¬ ((1 <<< ((jmax 0 ((M 11 0 0) - 1)) &&& 31)) ≤ v3) → ok_X12_hitsIn v3 M (fun r1 _ M2 => jnb M2 = jnb M ∧ (r1 = v2 → (0 ≤ v1 → ok_X12_groupsIn v1 M2 (fun r3 _ M4 => jnb M4 = jnb M2 ∧ ok_X12_groupsIn v3 M4 (fun r5 _ M6 => jnb M6 = jnb M4 ∧ (r1 < 0 → at_X12_bestSet_6 v1 v2 (v3 + 1) M6 Q) ∧ (¬ (r1 < 0) → (0 < (r3 - r5) → at_X12_bestSet_6 v3 r1 (v3 + 1) M6 Q) ∧ (¬ (0 < (r3 - r5)) → (r3 - r5 = 0 → ok_X12_isGreater v3 v1 M6 (fun r7 _ M8 => jnb M8 = jnb M6 ∧ (r7 = 0 → at_X12_bestSet_6 v1 v2 (v3 + 1) M8 Q) ∧ (¬ (r7 = 0) → at_X12_bestSet_6 v3 r1 (v3 + 1) M8 Q))) ∧ (¬ (r3 - r5 = 0) → at_X12_bestSet_6 v1 v2 (v3 + 1) M6 Q)))))) ∧ (¬ (0 ≤ v1) → (r1 < 0 → at_X12_bestSet_6 v1 v2 (v3 + 1) M2 Q) ∧ (¬ (r1 < 0) → at_X12_bestSet_6 v3 r1 (v3 + 1) M2 Q))) ∧ (¬ (r1 = v2) → (r1 < 0 → at_X12_bestSet_6 v1 v2 (v3 + 1) M2 Q) ∧ (¬ (r1 < 0) → (0 < (r1 - v2) → at_X12_bestSet_6 v3 r1 (v3 + 1) M2 Q) ∧ (¬ (0 < (r1 - v2)) → (r1 - v2 = 0 → ok_X12_isGreater v3 v1 M2 (fun r9 _ M10 => jnb M10 = jnb M2 ∧ (r9 = 0 → at_X12_bestSet_6 v1 v2 (v3 + 1) M10 Q) ∧ (¬ (r9 = 0) → at_X12_bestSet_6 v3 r1 (v3 + 1) M10 Q))) ∧ (¬ (r1 - v2 = 0) → at_X12_bestSet_6 v1 v2 (v3 + 1) M2 Q))))))) :
  at_X12_bestSet_6 v1 v2 v3 M Q := by
  intro p l e s m args below meth c D cA base g C hr htb H locs G ls hl
  refine lv_iload_n C.x C.b dX12_bestSet_6 rfl (lv_at hl 3 rfl) ?_
  refine lv_iconst (v := 1) C.x C.b dX12_bestSet_7 (by decide) ?_
  refine lv_iconst (v := 0) C.x C.b dX12_bestSet_8 (by decide) ?_
  refine lv_aload_n C.x C.b dX12_bestSet_9 rfl (lv_at hl 0 rfl) ?_
  refine jr_get C G jc11 0 (v := .int (M 11 0 0)) (show 0 < 1 by decide) (by decide) (by decide) rfl wd1191 dX12_bestSet_10 ?_
  refine lv_iconst (v := 1) C.x C.b dX12_bestSet_13 (by decide) ?_
  refine lv_isub C.x C.b dX12_bestSet_14 ?_
  refine va_mmax C.x C.b (C.ml.trans hl.1.symm) C.ow (C.w _ wd1420) (C.w _ wd740) (C.w _ wd94) (C.w _ wd741) (by decide) (Nat.le_of_ble_eq_true rfl) (by decide) (by decide) dX12_bestSet_15 ?_
  rw [show (if 0 < ((M 11 0 0) - 1) then (M 11 0 0) - 1 else 0 : Int32) = jmax 0 ((M 11 0 0) - 1) from rfl]
  refine lv_ishl C.x C.b dX12_bestSet_18 ?_
  refine lv_icmp_ge (tgt := 95) C.x C.b dX12_bestSet_19 (by decide) (fun hc => ?_) (fun hc => ?_)
  · have h := h.1 hc
    refine lv_iload_n C.x C.b dX12_bestSet_95 rfl (lv_at hl 1 rfl) ?_
    exact jr_retI C hr G h (by decide) (by decide) dX12_bestSet_96
  · have h := h.2 hc
    refine lv_aload_n C.x C.b dX12_bestSet_22 rfl (lv_at hl 0 rfl) ?_
    refine lv_iload_n C.x C.b dX12_bestSet_23 rfl (lv_at hl 3 rfl) ?_
    refine jr_V (d' := 7) C G jc11 jm_X12_hitsIn wd1526 h rfl (show 0 < 1 by decide) (by decide) rfl rfl (by omega) (by decide) (by decide) ⟨rfl, rfl⟩ hl.1 (Nat.le_of_ble_eq_true rfl) dX12_bestSet_24 (fun r1 r1n M2 H locs h G => ?_)
    obtain ⟨nM2, h⟩ := h
    refine lv_istore (lv' := [(4, .int r1), (0, .ref (g 11 0)), (1, .int v1), (2, .int v2), (3, .int v3)]) C.x C.b dX12_bestSet_27 hl (by decide) rfl (fun ls hl => ?_)
    refine lv_iload C.x C.b dX12_bestSet_29 (lv_at hl 0 rfl) ?_
    refine lv_iload_n C.x C.b dX12_bestSet_31 rfl (lv_at hl 3 rfl) ?_
    refine lv_icmp_eq (tgt := 42) C.x C.b dX12_bestSet_32 (by decide) (fun hc => ?_) (fun hc => ?_)
    · have h := h.1 hc
      refine lv_iload_n C.x C.b dX12_bestSet_42 rfl (lv_at hl 2 rfl) ?_
      refine lv_if_ge (tgt := 50) C.x C.b dX12_bestSet_43 (by decide) (fun hc => ?_) (fun hc => ?_)
      · have h := h.1 hc
        refine lv_iload_n C.x C.b dX12_bestSet_50 rfl (lv_at hl 2 rfl) ?_
        refine jr_S (d' := 7) C G jm_X12_groupsIn wd1534 h rfl rfl rfl (by omega) (by decide) (by decide) ⟨rfl, rfl⟩ hl.1 (Nat.le_of_ble_eq_true rfl) dX12_bestSet_51 (fun r3 r3n M4 H locs h G => ?_)
        obtain ⟨nM4, h⟩ := h
        refine lv_iload_n C.x C.b dX12_bestSet_54 rfl (lv_at hl 4 rfl) ?_
        refine jr_S (d' := 7) C G jm_X12_groupsIn wd1534 h rfl rfl rfl (by omega) (by decide) (by decide) ⟨rfl, rfl⟩ hl.1 (Nat.le_of_ble_eq_true rfl) dX12_bestSet_55 (fun r5 r5n M6 H locs h G => ?_)
        obtain ⟨nM6, h⟩ := h
        refine lv_isub C.x C.b dX12_bestSet_58 ?_
        refine lv_istore (lv' := [(5, .int (r3 - r5)), (4, .int r1), (0, .ref (g 11 0)), (1, .int v1), (2, .int v2), (3, .int v3)]) C.x C.b dX12_bestSet_59 hl (by decide) rfl (fun ls hl => ?_)
        refine lv_iload C.x C.b dX12_bestSet_61 (lv_at hl 1 rfl) ?_
        refine lv_if_lt (tgt := 89) C.x C.b dX12_bestSet_63 (by decide) (fun hc => ?_) (fun hc => ?_)
        · have h := h.1 hc
          refine lv_iinc (v := v3 + 1) (lv' := [(3, .int (v3 + 1)), (5, .int (r3 - r5)), (4, .int r1), (0, .ref (g 11 0)), (1, .int v1), (2, .int v2)]) C.x C.b dX12_bestSet_89 hl (k := 5) rfl rfl (by decide) rfl (fun ls hl => ?_)
          refine lv_goto (tgt := 6) C.x C.b dX12_bestSet_92 (by decide) ?_
          exact h p l e s m args below meth c D cA base g C hr htb _ _ G ls (lv_sub hl [3, 4, 5, 0] rfl)
        · have h := h.2 hc
          refine lv_iload C.x C.b dX12_bestSet_66 (lv_at hl 0 rfl) ?_
          refine lv_if_gt (tgt := 84) C.x C.b dX12_bestSet_68 (by decide) (fun hc => ?_) (fun hc => ?_)
          · have h := h.1 hc
            refine lv_iload_n C.x C.b dX12_bestSet_84 rfl (lv_at hl 5 rfl) ?_
            refine lv_istore_n (lv' := [(1, .int v3), (5, .int (r3 - r5)), (4, .int r1), (0, .ref (g 11 0)), (2, .int v2), (3, .int v3)]) C.x C.b dX12_bestSet_85 rfl hl (by decide) rfl (fun ls hl => ?_)
            refine lv_iload C.x C.b dX12_bestSet_86 (lv_at hl 2 rfl) ?_
            refine lv_istore_n (lv' := [(2, .int r1), (1, .int v3), (5, .int (r3 - r5)), (4, .int r1), (0, .ref (g 11 0)), (3, .int v3)]) C.x C.b dX12_bestSet_88 rfl hl (by decide) rfl (fun ls hl => ?_)
            refine lv_iinc (v := v3 + 1) (lv' := [(3, .int (v3 + 1)), (2, .int r1), (1, .int v3), (5, .int (r3 - r5)), (4, .int r1), (0, .ref (g 11 0))]) C.x C.b dX12_bestSet_89 hl (k := 5) rfl rfl (by decide) rfl (fun ls hl => ?_)
            refine lv_goto (tgt := 6) C.x C.b dX12_bestSet_92 (by decide) ?_
            exact h p l e s m args below meth c D cA base g C hr htb _ _ G ls (lv_sub hl [5, 2, 1, 0] rfl)
          · have h := h.2 hc
            refine lv_iload C.x C.b dX12_bestSet_71 (lv_at hl 0 rfl) ?_
            refine lv_if_ne (tgt := 89) C.x C.b dX12_bestSet_73 (by decide) (fun hc => ?_) (fun hc => ?_)
            · have h := h.2 hc
              refine lv_iinc (v := v3 + 1) (lv' := [(3, .int (v3 + 1)), (5, .int (r3 - r5)), (4, .int r1), (0, .ref (g 11 0)), (1, .int v1), (2, .int v2)]) C.x C.b dX12_bestSet_89 hl (k := 5) rfl rfl (by decide) rfl (fun ls hl => ?_)
              refine lv_goto (tgt := 6) C.x C.b dX12_bestSet_92 (by decide) ?_
              exact h p l e s m args below meth c D cA base g C hr htb _ _ G ls (lv_sub hl [3, 4, 5, 0] rfl)
            · have h := h.1 hc
              refine lv_iload_n C.x C.b dX12_bestSet_76 rfl (lv_at hl 5 rfl) ?_
              refine lv_iload_n C.x C.b dX12_bestSet_77 rfl (lv_at hl 3 rfl) ?_
              refine jr_S (d' := 7) C G jm_X12_isGreater wd1537 h rfl rfl rfl (by omega) (by decide) (by decide) ⟨rfl, rfl⟩ hl.1 (Nat.le_of_ble_eq_true rfl) dX12_bestSet_78 (fun r7 r7n M8 H locs h G => ?_)
              obtain ⟨nM8, h⟩ := h
              refine lv_if_eq (tgt := 89) C.x C.b dX12_bestSet_81 (by decide) (fun hc => ?_) (fun hc => ?_)
              · have h := h.1 hc
                refine lv_iinc (v := v3 + 1) (lv' := [(3, .int (v3 + 1)), (5, .int (r3 - r5)), (4, .int r1), (0, .ref (g 11 0)), (1, .int v1), (2, .int v2)]) C.x C.b dX12_bestSet_89 hl (k := 5) rfl rfl (by decide) rfl (fun ls hl => ?_)
                refine lv_goto (tgt := 6) C.x C.b dX12_bestSet_92 (by decide) ?_
                exact h p l e s m args below meth c D cA base g C hr htb _ _ G ls (lv_sub hl [3, 4, 5, 0] rfl)
              · have h := h.2 hc
                refine lv_iload_n C.x C.b dX12_bestSet_84 rfl (lv_at hl 5 rfl) ?_
                refine lv_istore_n (lv' := [(1, .int v3), (5, .int (r3 - r5)), (4, .int r1), (0, .ref (g 11 0)), (2, .int v2), (3, .int v3)]) C.x C.b dX12_bestSet_85 rfl hl (by decide) rfl (fun ls hl => ?_)
                refine lv_iload C.x C.b dX12_bestSet_86 (lv_at hl 2 rfl) ?_
                refine lv_istore_n (lv' := [(2, .int r1), (1, .int v3), (5, .int (r3 - r5)), (4, .int r1), (0, .ref (g 11 0)), (3, .int v3)]) C.x C.b dX12_bestSet_88 rfl hl (by decide) rfl (fun ls hl => ?_)
                refine lv_iinc (v := v3 + 1) (lv' := [(3, .int (v3 + 1)), (2, .int r1), (1, .int v3), (5, .int (r3 - r5)), (4, .int r1), (0, .ref (g 11 0))]) C.x C.b dX12_bestSet_89 hl (k := 5) rfl rfl (by decide) rfl (fun ls hl => ?_)
                refine lv_goto (tgt := 6) C.x C.b dX12_bestSet_92 (by decide) ?_
                exact h p l e s m args below meth c D cA base g C hr htb _ _ G ls (lv_sub hl [5, 2, 1, 0] rfl)
      · have h := h.2 hc
        refine lv_iconst (v := 1) C.x C.b dX12_bestSet_46 (by decide) ?_
        refine lv_goto (tgt := 59) C.x C.b dX12_bestSet_47 (by decide) ?_
        refine lv_istore (lv' := [(5, .int 1), (4, .int r1), (0, .ref (g 11 0)), (1, .int v1), (2, .int v2), (3, .int v3)]) C.x C.b dX12_bestSet_59 hl (by decide) rfl (fun ls hl => ?_)
        refine lv_iload C.x C.b dX12_bestSet_61 (lv_at hl 1 rfl) ?_
        refine lv_if_lt (tgt := 89) C.x C.b dX12_bestSet_63 (by decide) (fun hc => ?_) (fun hc => ?_)
        · have h := h.1 hc
          refine lv_iinc (v := v3 + 1) (lv' := [(3, .int (v3 + 1)), (5, .int 1), (4, .int r1), (0, .ref (g 11 0)), (1, .int v1), (2, .int v2)]) C.x C.b dX12_bestSet_89 hl (k := 5) rfl rfl (by decide) rfl (fun ls hl => ?_)
          refine lv_goto (tgt := 6) C.x C.b dX12_bestSet_92 (by decide) ?_
          exact h p l e s m args below meth c D cA base g C hr htb _ _ G ls (lv_sub hl [3, 4, 5, 0] rfl)
        · have h := h.2 hc
          refine lv_iload C.x C.b dX12_bestSet_66 (lv_at hl 0 rfl) ?_
          refine lv_if_gt (tgt := 84) C.x C.b dX12_bestSet_68 (by decide) (fun _ => ?_) (fun hc => absurd hc (by decide))
          refine lv_iload_n C.x C.b dX12_bestSet_84 rfl (lv_at hl 5 rfl) ?_
          refine lv_istore_n (lv' := [(1, .int v3), (5, .int 1), (4, .int r1), (0, .ref (g 11 0)), (2, .int v2), (3, .int v3)]) C.x C.b dX12_bestSet_85 rfl hl (by decide) rfl (fun ls hl => ?_)
          refine lv_iload C.x C.b dX12_bestSet_86 (lv_at hl 2 rfl) ?_
          refine lv_istore_n (lv' := [(2, .int r1), (1, .int v3), (5, .int 1), (4, .int r1), (0, .ref (g 11 0)), (3, .int v3)]) C.x C.b dX12_bestSet_88 rfl hl (by decide) rfl (fun ls hl => ?_)
          refine lv_iinc (v := v3 + 1) (lv' := [(3, .int (v3 + 1)), (2, .int r1), (1, .int v3), (5, .int 1), (4, .int r1), (0, .ref (g 11 0))]) C.x C.b dX12_bestSet_89 hl (k := 5) rfl rfl (by decide) rfl (fun ls hl => ?_)
          refine lv_goto (tgt := 6) C.x C.b dX12_bestSet_92 (by decide) ?_
          exact h p l e s m args below meth c D cA base g C hr htb _ _ G ls (lv_sub hl [5, 2, 1, 0] rfl)
    · have h := h.2 hc
      refine lv_iload C.x C.b dX12_bestSet_35 (lv_at hl 0 rfl) ?_
      refine lv_iload_n C.x C.b dX12_bestSet_37 rfl (lv_at hl 3 rfl) ?_
      refine lv_isub C.x C.b dX12_bestSet_38 ?_
      refine lv_goto (tgt := 59) C.x C.b dX12_bestSet_39 (by decide) ?_
      refine lv_istore (lv' := [(5, .int (r1 - v2)), (4, .int r1), (0, .ref (g 11 0)), (1, .int v1), (2, .int v2), (3, .int v3)]) C.x C.b dX12_bestSet_59 hl (by decide) rfl (fun ls hl => ?_)
      refine lv_iload C.x C.b dX12_bestSet_61 (lv_at hl 1 rfl) ?_
      refine lv_if_lt (tgt := 89) C.x C.b dX12_bestSet_63 (by decide) (fun hc => ?_) (fun hc => ?_)
      · have h := h.1 hc
        refine lv_iinc (v := v3 + 1) (lv' := [(3, .int (v3 + 1)), (5, .int (r1 - v2)), (4, .int r1), (0, .ref (g 11 0)), (1, .int v1), (2, .int v2)]) C.x C.b dX12_bestSet_89 hl (k := 5) rfl rfl (by decide) rfl (fun ls hl => ?_)
        refine lv_goto (tgt := 6) C.x C.b dX12_bestSet_92 (by decide) ?_
        exact h p l e s m args below meth c D cA base g C hr htb _ _ G ls (lv_sub hl [3, 4, 5, 0] rfl)
      · have h := h.2 hc
        refine lv_iload C.x C.b dX12_bestSet_66 (lv_at hl 0 rfl) ?_
        refine lv_if_gt (tgt := 84) C.x C.b dX12_bestSet_68 (by decide) (fun hc => ?_) (fun hc => ?_)
        · have h := h.1 hc
          refine lv_iload_n C.x C.b dX12_bestSet_84 rfl (lv_at hl 5 rfl) ?_
          refine lv_istore_n (lv' := [(1, .int v3), (5, .int (r1 - v2)), (4, .int r1), (0, .ref (g 11 0)), (2, .int v2), (3, .int v3)]) C.x C.b dX12_bestSet_85 rfl hl (by decide) rfl (fun ls hl => ?_)
          refine lv_iload C.x C.b dX12_bestSet_86 (lv_at hl 2 rfl) ?_
          refine lv_istore_n (lv' := [(2, .int r1), (1, .int v3), (5, .int (r1 - v2)), (4, .int r1), (0, .ref (g 11 0)), (3, .int v3)]) C.x C.b dX12_bestSet_88 rfl hl (by decide) rfl (fun ls hl => ?_)
          refine lv_iinc (v := v3 + 1) (lv' := [(3, .int (v3 + 1)), (2, .int r1), (1, .int v3), (5, .int (r1 - v2)), (4, .int r1), (0, .ref (g 11 0))]) C.x C.b dX12_bestSet_89 hl (k := 5) rfl rfl (by decide) rfl (fun ls hl => ?_)
          refine lv_goto (tgt := 6) C.x C.b dX12_bestSet_92 (by decide) ?_
          exact h p l e s m args below meth c D cA base g C hr htb _ _ G ls (lv_sub hl [5, 2, 1, 0] rfl)
        · have h := h.2 hc
          refine lv_iload C.x C.b dX12_bestSet_71 (lv_at hl 0 rfl) ?_
          refine lv_if_ne (tgt := 89) C.x C.b dX12_bestSet_73 (by decide) (fun hc => ?_) (fun hc => ?_)
          · have h := h.2 hc
            refine lv_iinc (v := v3 + 1) (lv' := [(3, .int (v3 + 1)), (5, .int (r1 - v2)), (4, .int r1), (0, .ref (g 11 0)), (1, .int v1), (2, .int v2)]) C.x C.b dX12_bestSet_89 hl (k := 5) rfl rfl (by decide) rfl (fun ls hl => ?_)
            refine lv_goto (tgt := 6) C.x C.b dX12_bestSet_92 (by decide) ?_
            exact h p l e s m args below meth c D cA base g C hr htb _ _ G ls (lv_sub hl [3, 4, 5, 0] rfl)
          · have h := h.1 hc
            refine lv_iload_n C.x C.b dX12_bestSet_76 rfl (lv_at hl 5 rfl) ?_
            refine lv_iload_n C.x C.b dX12_bestSet_77 rfl (lv_at hl 3 rfl) ?_
            refine jr_S (d' := 7) C G jm_X12_isGreater wd1537 h rfl rfl rfl (by omega) (by decide) (by decide) ⟨rfl, rfl⟩ hl.1 (Nat.le_of_ble_eq_true rfl) dX12_bestSet_78 (fun r9 r9n M10 H locs h G => ?_)
            obtain ⟨nM10, h⟩ := h
            refine lv_if_eq (tgt := 89) C.x C.b dX12_bestSet_81 (by decide) (fun hc => ?_) (fun hc => ?_)
            · have h := h.1 hc
              refine lv_iinc (v := v3 + 1) (lv' := [(3, .int (v3 + 1)), (5, .int (r1 - v2)), (4, .int r1), (0, .ref (g 11 0)), (1, .int v1), (2, .int v2)]) C.x C.b dX12_bestSet_89 hl (k := 5) rfl rfl (by decide) rfl (fun ls hl => ?_)
              refine lv_goto (tgt := 6) C.x C.b dX12_bestSet_92 (by decide) ?_
              exact h p l e s m args below meth c D cA base g C hr htb _ _ G ls (lv_sub hl [3, 4, 5, 0] rfl)
            · have h := h.2 hc
              refine lv_iload_n C.x C.b dX12_bestSet_84 rfl (lv_at hl 5 rfl) ?_
              refine lv_istore_n (lv' := [(1, .int v3), (5, .int (r1 - v2)), (4, .int r1), (0, .ref (g 11 0)), (2, .int v2), (3, .int v3)]) C.x C.b dX12_bestSet_85 rfl hl (by decide) rfl (fun ls hl => ?_)
              refine lv_iload C.x C.b dX12_bestSet_86 (lv_at hl 2 rfl) ?_
              refine lv_istore_n (lv' := [(2, .int r1), (1, .int v3), (5, .int (r1 - v2)), (4, .int r1), (0, .ref (g 11 0)), (3, .int v3)]) C.x C.b dX12_bestSet_88 rfl hl (by decide) rfl (fun ls hl => ?_)
              refine lv_iinc (v := v3 + 1) (lv' := [(3, .int (v3 + 1)), (2, .int r1), (1, .int v3), (5, .int (r1 - v2)), (4, .int r1), (0, .ref (g 11 0))]) C.x C.b dX12_bestSet_89 hl (k := 5) rfl rfl (by decide) rfl (fun ls hl => ?_)
              refine lv_goto (tgt := 6) C.x C.b dX12_bestSet_92 (by decide) ?_
              exact h p l e s m args below meth c D cA base g C hr htb _ _ G ls (lv_sub hl [5, 2, 1, 0] rfl)

theorem en_X12_setOf {v1 : Int32} {M : jM} {Q : Int32 → Nat → jM → Prop} (h : at_X12_setOf_0 v1 M Q) : ok_X12_setOf v1 M Q := jr_enter (by decide) (fun g => rfl) (fun g => Nat.le_of_ble_eq_true rfl) h
set_option maxHeartbeats 4000000 in
set_option maxRecDepth 100000 in
theorem bl_X12_setOf_0 (v1 : Int32) (M : jM) (Q : Int32 → Nat → jM → Prop) 
  (h : (v1 = 0 → Q ((1 <<< ((jmax 0 ((M 11 0 0) - 1)) &&& 31)) - 1) 0 M) ∧ (¬ (v1 = 0) → (v1 = 1 → ok_X12_greedySet  M (fun r3 _ M4 => jnb M4 = jnb M ∧ Q r3 0 M4)) ∧ (¬ (v1 = 1) → ok_X12_bestSet  M (fun r1 _ M2 => jnb M2 = jnb M ∧ Q r1 0 M2)))) :
  at_X12_setOf_0 v1 M Q := by
  intro p l e s m args below meth c D cA base g C hr htb H locs G ls hl
  refine lv_iload_n C.x C.b dX12_setOf_0 rfl (lv_at hl 1 rfl) ?_
  refine lv_if_ne (tgt := 21) C.x C.b dX12_setOf_1 (by decide) (fun hc => ?_) (fun hc => ?_)
  · have h := h.2 hc
    refine lv_iload_n C.x C.b dX12_setOf_21 rfl (lv_at hl 1 rfl) ?_
    refine lv_iconst (v := 1) C.x C.b dX12_setOf_22 (by decide) ?_
    refine lv_icmp_ne (tgt := 33) C.x C.b dX12_setOf_23 (by decide) (fun hc => ?_) (fun hc => ?_)
    · have h := h.2 hc
      refine lv_aload_n C.x C.b dX12_setOf_33 rfl (lv_at hl 0 rfl) ?_
      refine jr_V (d' := 8) C G jc11 jm_X12_bestSet wd1522 h rfl (show 0 < 1 by decide) (by decide) rfl rfl (by omega) (by decide) (by decide) ⟨rfl, rfl⟩ hl.1 (Nat.le_of_ble_eq_true rfl) dX12_setOf_34 (fun r1 r1n M2 H locs h G => ?_)
      obtain ⟨nM2, h⟩ := h
      exact jr_retI C hr G h (by decide) (by decide) dX12_setOf_37
    · have h := h.1 hc
      refine lv_aload_n C.x C.b dX12_setOf_26 rfl (lv_at hl 0 rfl) ?_
      refine jr_V (d' := 8) C G jc11 jm_X12_greedySet wd1518 h rfl (show 0 < 1 by decide) (by decide) rfl rfl (by omega) (by decide) (by decide) ⟨rfl, rfl⟩ hl.1 (Nat.le_of_ble_eq_true rfl) dX12_setOf_27 (fun r3 r3n M4 H locs h G => ?_)
      obtain ⟨nM4, h⟩ := h
      refine lv_goto (tgt := 37) C.x C.b dX12_setOf_30 (by decide) ?_
      exact jr_retI C hr G h (by decide) (by decide) dX12_setOf_37
  · have h := h.1 hc
    refine lv_iconst (v := 1) C.x C.b dX12_setOf_4 (by decide) ?_
    refine lv_iconst (v := 0) C.x C.b dX12_setOf_5 (by decide) ?_
    refine lv_aload_n C.x C.b dX12_setOf_6 rfl (lv_at hl 0 rfl) ?_
    refine jr_get C G jc11 0 (v := .int (M 11 0 0)) (show 0 < 1 by decide) (by decide) (by decide) rfl wd1191 dX12_setOf_7 ?_
    refine lv_iconst (v := 1) C.x C.b dX12_setOf_10 (by decide) ?_
    refine lv_isub C.x C.b dX12_setOf_11 ?_
    refine va_mmax C.x C.b (C.ml.trans hl.1.symm) C.ow (C.w _ wd1420) (C.w _ wd740) (C.w _ wd94) (C.w _ wd741) (by decide) (Nat.le_of_ble_eq_true rfl) (by decide) (by decide) dX12_setOf_12 ?_
    rw [show (if 0 < ((M 11 0 0) - 1) then (M 11 0 0) - 1 else 0 : Int32) = jmax 0 ((M 11 0 0) - 1) from rfl]
    refine lv_ishl C.x C.b dX12_setOf_15 ?_
    refine lv_iconst (v := 1) C.x C.b dX12_setOf_16 (by decide) ?_
    refine lv_isub C.x C.b dX12_setOf_17 ?_
    refine lv_goto (tgt := 37) C.x C.b dX12_setOf_18 (by decide) ?_
    exact jr_retI C hr G h (by decide) (by decide) dX12_setOf_37

theorem en_X12_groupCount {v1 : Int32} {M : jM} {Q : Int32 → Nat → jM → Prop} (h : at_X12_groupCount_0 v1 M Q) : ok_X12_groupCount v1 M Q := jr_enter (by decide) (fun g => rfl) (fun g => Nat.le_of_ble_eq_true rfl) h
set_option maxHeartbeats 4000000 in
set_option maxRecDepth 100000 in
theorem bl_X12_groupCount_0 (v1 : Int32) (M : jM) (Q : Int32 → Nat → jM → Prop) 
  (h : ((0 ≤ v1 ∧ v1 ≤ 2) → (∀ M8 : jM, M8 = jup M 11 0 7 0 → (0 < (M8 11 0 7) → Q 0 0 M8) ∧ (¬ (0 < (M8 11 0 7)) → (M8 11 0 0 = 0 → Q 0 0 M8) ∧ (¬ (M8 11 0 0 = 0) → ok_X12_setOf v1 M8 (fun r9 _ M10 => jnb M10 = jnb M8 ∧ ok_X12_groupsIn r9 M10 (fun r11 _ M12 => jnb M12 = jnb M10 ∧ Q r11 0 M12)))))) ∧ (¬ (0 ≤ v1 ∧ v1 ≤ 2) → (∀ M3 : jM, M3 = jup M 11 0 7 1 → (0 < (M3 11 0 7) → Q 0 0 M3) ∧ (¬ (0 < (M3 11 0 7)) → (M3 11 0 0 = 0 → Q 0 0 M3) ∧ (¬ (M3 11 0 0 = 0) → ok_X12_setOf v1 M3 (fun r4 _ M5 => jnb M5 = jnb M3 ∧ ok_X12_groupsIn r4 M5 (fun r6 _ M7 => jnb M7 = jnb M5 ∧ Q r6 0 M7))))))) :
  at_X12_groupCount_0 v1 M Q := by
  intro p l e s m args below meth c D cA base g C hr htb H locs G ls hl
  refine lv_aload_n C.x C.b dX12_groupCount_0 rfl (lv_at hl 0 rfl) ?_
  refine lv_iload_n C.x C.b dX12_groupCount_1 rfl (lv_at hl 1 rfl) ?_
  refine lv_iconst (v := 0) C.x C.b dX12_groupCount_2 (by decide) ?_
  refine lv_iconst (v := 2) C.x C.b dX12_groupCount_3 (by decide) ?_
  refine jr_S (d' := 9) C G jm_X12_in wd1293 (sp_X12_in ⟨rfl, rfl⟩ : ok_X12_in v1 0 2 M (fun r _ M' => jb (0 ≤ v1 ∧ v1 ≤ 2) = r ∧ M = M')) rfl rfl rfl (by omega) (by decide) (by decide) ⟨rfl, rfl⟩ hl.1 (Nat.le_of_ble_eq_true rfl) dX12_groupCount_4 (fun r1 r1n M2 H locs hq G => ?_)
  obtain ⟨eq1, eq2⟩ := hq
  subst eq1
  subst eq2
  refine lv_if_eq (tgt := 14) C.x C.b dX12_groupCount_7 (by decide) (fun hc => ?_) (fun hc => ?_)
  · have h := h.2 (jb_0 hc)
    refine lv_iconst (v := 1) C.x C.b dX12_groupCount_14 (by decide) ?_
    refine jr_put C G jc11 7 (v := 1) (show 0 < 1 by decide) (by decide) (by decide) rfl (by decide) wd1198 rfl rfl rfl rfl dX12_groupCount_15 (fun H locs G => ?_)
    obtain ⟨M3, eM3⟩ : ∃ z : jM, z = jup M 11 0 7 1 := ⟨_, rfl⟩
    rw [← eM3] at G
    have h := h M3 eM3
    have nM3 : jnb M3 = jnb M := by rw [eM3]; exact jnb_up (by decide)
    refine lv_aload_n C.x C.b dX12_groupCount_18 rfl (lv_at hl 0 rfl) ?_
    refine jr_get C G jc11 7 (v := .int (M3 11 0 7)) (show 0 < 1 by decide) (by decide) (by decide) rfl wd1198 dX12_groupCount_19 ?_
    refine lv_if_gt (tgt := 32) C.x C.b dX12_groupCount_22 (by decide) (fun hc => ?_) (fun hc => ?_)
    · have h := h.1 hc
      refine lv_iconst (v := 0) C.x C.b dX12_groupCount_32 (by decide) ?_
      refine lv_goto (tgt := 44) C.x C.b dX12_groupCount_33 (by decide) ?_
      exact jr_retI C hr G h (by decide) (by decide) dX12_groupCount_44
    · have h := h.2 hc
      refine lv_aload_n C.x C.b dX12_groupCount_25 rfl (lv_at hl 0 rfl) ?_
      refine jr_get C G jc11 0 (v := .int (M3 11 0 0)) (show 0 < 1 by decide) (by decide) (by decide) rfl wd1191 dX12_groupCount_26 ?_
      refine lv_if_ne (tgt := 36) C.x C.b dX12_groupCount_29 (by decide) (fun hc => ?_) (fun hc => ?_)
      · have h := h.2 hc
        refine lv_aload_n C.x C.b dX12_groupCount_36 rfl (lv_at hl 0 rfl) ?_
        refine lv_iload_n C.x C.b dX12_groupCount_37 rfl (lv_at hl 1 rfl) ?_
        refine jr_V (d' := 9) C G jc11 jm_X12_setOf wd1514 h rfl (show 0 < 1 by decide) (by decide) rfl rfl (by omega) (by decide) (by decide) ⟨rfl, rfl⟩ hl.1 (Nat.le_of_ble_eq_true rfl) dX12_groupCount_38 (fun r4 r4n M5 H locs h G => ?_)
        obtain ⟨nM5, h⟩ := h
        refine jr_S (d' := 9) C G jm_X12_groupsIn wd1534 h rfl rfl rfl (by omega) (by decide) (by decide) ⟨rfl, rfl⟩ hl.1 (Nat.le_of_ble_eq_true rfl) dX12_groupCount_41 (fun r6 r6n M7 H locs h G => ?_)
        obtain ⟨nM7, h⟩ := h
        exact jr_retI C hr G h (by decide) (by decide) dX12_groupCount_44
      · have h := h.1 hc
        refine lv_iconst (v := 0) C.x C.b dX12_groupCount_32 (by decide) ?_
        refine lv_goto (tgt := 44) C.x C.b dX12_groupCount_33 (by decide) ?_
        exact jr_retI C hr G h (by decide) (by decide) dX12_groupCount_44
  · have h := h.1 (jb_1 hc)
    refine lv_iconst (v := 0) C.x C.b dX12_groupCount_10 (by decide) ?_
    refine lv_goto (tgt := 15) C.x C.b dX12_groupCount_11 (by decide) ?_
    refine jr_put C G jc11 7 (v := 0) (show 0 < 1 by decide) (by decide) (by decide) rfl (by decide) wd1198 rfl rfl rfl rfl dX12_groupCount_15 (fun H locs G => ?_)
    obtain ⟨M8, eM8⟩ : ∃ z : jM, z = jup M 11 0 7 0 := ⟨_, rfl⟩
    rw [← eM8] at G
    have h := h M8 eM8
    have nM8 : jnb M8 = jnb M := by rw [eM8]; exact jnb_up (by decide)
    refine lv_aload_n C.x C.b dX12_groupCount_18 rfl (lv_at hl 0 rfl) ?_
    refine jr_get C G jc11 7 (v := .int (M8 11 0 7)) (show 0 < 1 by decide) (by decide) (by decide) rfl wd1198 dX12_groupCount_19 ?_
    refine lv_if_gt (tgt := 32) C.x C.b dX12_groupCount_22 (by decide) (fun hc => ?_) (fun hc => ?_)
    · have h := h.1 hc
      refine lv_iconst (v := 0) C.x C.b dX12_groupCount_32 (by decide) ?_
      refine lv_goto (tgt := 44) C.x C.b dX12_groupCount_33 (by decide) ?_
      exact jr_retI C hr G h (by decide) (by decide) dX12_groupCount_44
    · have h := h.2 hc
      refine lv_aload_n C.x C.b dX12_groupCount_25 rfl (lv_at hl 0 rfl) ?_
      refine jr_get C G jc11 0 (v := .int (M8 11 0 0)) (show 0 < 1 by decide) (by decide) (by decide) rfl wd1191 dX12_groupCount_26 ?_
      refine lv_if_ne (tgt := 36) C.x C.b dX12_groupCount_29 (by decide) (fun hc => ?_) (fun hc => ?_)
      · have h := h.2 hc
        refine lv_aload_n C.x C.b dX12_groupCount_36 rfl (lv_at hl 0 rfl) ?_
        refine lv_iload_n C.x C.b dX12_groupCount_37 rfl (lv_at hl 1 rfl) ?_
        refine jr_V (d' := 9) C G jc11 jm_X12_setOf wd1514 h rfl (show 0 < 1 by decide) (by decide) rfl rfl (by omega) (by decide) (by decide) ⟨rfl, rfl⟩ hl.1 (Nat.le_of_ble_eq_true rfl) dX12_groupCount_38 (fun r9 r9n M10 H locs h G => ?_)
        obtain ⟨nM10, h⟩ := h
        refine jr_S (d' := 9) C G jm_X12_groupsIn wd1534 h rfl rfl rfl (by omega) (by decide) (by decide) ⟨rfl, rfl⟩ hl.1 (Nat.le_of_ble_eq_true rfl) dX12_groupCount_41 (fun r11 r11n M12 H locs h G => ?_)
        obtain ⟨nM12, h⟩ := h
        exact jr_retI C hr G h (by decide) (by decide) dX12_groupCount_44
      · have h := h.1 hc
        refine lv_iconst (v := 0) C.x C.b dX12_groupCount_32 (by decide) ?_
        refine lv_goto (tgt := 44) C.x C.b dX12_groupCount_33 (by decide) ?_
        exact jr_retI C hr G h (by decide) (by decide) dX12_groupCount_44

theorem en_X12_groupOf {v1 : Int32} {v2 : Int32} {M : jM} {Q : Int32 → Nat → jM → Prop} (h : at_X12_groupOf_0 v1 v2 M Q) : ok_X12_groupOf v1 v2 M Q := jr_enter (by decide) (fun g => rfl) (fun g => Nat.le_of_ble_eq_true rfl) h
set_option maxHeartbeats 4000000 in
set_option maxRecDepth 100000 in
theorem bl_X12_groupOf_0 (v1 : Int32) (v2 : Int32) (M : jM) (Q : Int32 → Nat → jM → Prop) 
  (h : ok_X12_isAsked v1 v2 M (fun r1 _ M2 => jnb M2 = jnb M ∧ (r1 = 0 → Q 0 0 M2) ∧ (¬ (r1 = 0) → ok_X12_setOf v1 M2 (fun r3 _ M4 => jnb M4 = jnb M2 ∧ ok_X12_findGroup r3 v2 M4 (fun r5 _ M6 => jnb M6 = jnb M4 ∧ Q r5 0 M6))))) :
  at_X12_groupOf_0 v1 v2 M Q := by
  intro p l e s m args below meth c D cA base g C hr htb H locs G ls hl
  refine lv_aload_n C.x C.b dX12_groupOf_0 rfl (lv_at hl 0 rfl) ?_
  refine lv_iload_n C.x C.b dX12_groupOf_1 rfl (lv_at hl 1 rfl) ?_
  refine lv_iload_n C.x C.b dX12_groupOf_2 rfl (lv_at hl 2 rfl) ?_
  refine jr_V (d' := 9) C G jc11 jm_X12_isAsked wd1544 h rfl (show 0 < 1 by decide) (by decide) rfl rfl (by omega) (by decide) (by decide) ⟨rfl, rfl⟩ hl.1 (Nat.le_of_ble_eq_true rfl) dX12_groupOf_3 (fun r1 r1n M2 H locs h G => ?_)
  obtain ⟨nM2, h⟩ := h
  refine lv_if_eq (tgt := 22) C.x C.b dX12_groupOf_6 (by decide) (fun hc => ?_) (fun hc => ?_)
  · have h := h.1 hc
    refine lv_iconst (v := 0) C.x C.b dX12_groupOf_22 (by decide) ?_
    exact jr_retI C hr G h (by decide) (by decide) dX12_groupOf_23
  · have h := h.2 hc
    refine lv_aload_n C.x C.b dX12_groupOf_9 rfl (lv_at hl 0 rfl) ?_
    refine lv_aload_n C.x C.b dX12_groupOf_10 rfl (lv_at hl 0 rfl) ?_
    refine lv_iload_n C.x C.b dX12_groupOf_11 rfl (lv_at hl 1 rfl) ?_
    refine jr_V (d' := 9) C G jc11 jm_X12_setOf wd1514 h rfl (show 0 < 1 by decide) (by decide) rfl rfl (by omega) (by decide) (by decide) ⟨rfl, rfl⟩ hl.1 (Nat.le_of_ble_eq_true rfl) dX12_groupOf_12 (fun r3 r3n M4 H locs h G => ?_)
    obtain ⟨nM4, h⟩ := h
    refine lv_iload_n C.x C.b dX12_groupOf_15 rfl (lv_at hl 2 rfl) ?_
    refine jr_V (d' := 9) C G jc11 jm_X12_findGroup wd1548 h rfl (show 0 < 1 by decide) (by decide) rfl rfl (by omega) (by decide) (by decide) ⟨rfl, rfl⟩ hl.1 (Nat.le_of_ble_eq_true rfl) dX12_groupOf_16 (fun r5 r5n M6 H locs h G => ?_)
    obtain ⟨nM6, h⟩ := h
    refine lv_goto (tgt := 23) C.x C.b dX12_groupOf_19 (by decide) ?_
    exact jr_retI C hr G h (by decide) (by decide) dX12_groupOf_23

theorem en_X12_shift {v1 : Int32} {v2 : Int32} {M : jM} {Q : Int32 → Nat → jM → Prop} (h : at_X12_shift_0 v1 v2 M Q) : ok_X12_shift v1 v2 M Q := jr_enter (by decide) (fun g => rfl) (fun g => Nat.le_of_ble_eq_true rfl) h
set_option maxHeartbeats 4000000 in
set_option maxRecDepth 100000 in
theorem bl_X12_shift_0 (v1 : Int32) (v2 : Int32) (M : jM) (Q : Int32 → Nat → jM → Prop) 
  (h : ok_X12_isAsked v1 v2 M (fun r1 _ M2 => jnb M2 = jnb M ∧ (r1 = 0 → Q 0 0 M2) ∧ (¬ (r1 = 0) → ok_X12_setOf v1 M2 (fun r3 _ M4 => jnb M4 = jnb M2 ∧ ok_X12_findGroup r3 v2 M4 (fun r5 _ M6 => jnb M6 = jnb M4 ∧ vp_in v2 6 ∧ Q (M6 59 0 v2.toNatClampNeg) 0 M6))))) :
  at_X12_shift_0 v1 v2 M Q := by
  intro p l e s m args below meth c D cA base g C hr htb H locs G ls hl
  refine lv_aload_n C.x C.b dX12_shift_0 rfl (lv_at hl 0 rfl) ?_
  refine lv_iload_n C.x C.b dX12_shift_1 rfl (lv_at hl 1 rfl) ?_
  refine lv_iload_n C.x C.b dX12_shift_2 rfl (lv_at hl 2 rfl) ?_
  refine jr_V (d' := 9) C G jc11 jm_X12_isAsked wd1544 h rfl (show 0 < 1 by decide) (by decide) rfl rfl (by omega) (by decide) (by decide) ⟨rfl, rfl⟩ hl.1 (Nat.le_of_ble_eq_true rfl) dX12_shift_3 (fun r1 r1n M2 H locs h G => ?_)
  obtain ⟨nM2, h⟩ := h
  refine lv_if_ne (tgt := 11) C.x C.b dX12_shift_6 (by decide) (fun hc => ?_) (fun hc => ?_)
  · have h := h.2 hc
    refine lv_aload_n C.x C.b dX12_shift_11 rfl (lv_at hl 0 rfl) ?_
    refine lv_aload_n C.x C.b dX12_shift_12 rfl (lv_at hl 0 rfl) ?_
    refine lv_iload_n C.x C.b dX12_shift_13 rfl (lv_at hl 1 rfl) ?_
    refine jr_V (d' := 9) C G jc11 jm_X12_setOf wd1514 h rfl (show 0 < 1 by decide) (by decide) rfl rfl (by omega) (by decide) (by decide) ⟨rfl, rfl⟩ hl.1 (Nat.le_of_ble_eq_true rfl) dX12_shift_14 (fun r3 r3n M4 H locs h G => ?_)
    obtain ⟨nM4, h⟩ := h
    refine lv_iload_n C.x C.b dX12_shift_17 rfl (lv_at hl 2 rfl) ?_
    refine jr_V (d' := 9) C G jc11 jm_X12_findGroup wd1548 h rfl (show 0 < 1 by decide) (by decide) rfl rfl (by omega) (by decide) (by decide) ⟨rfl, rfl⟩ hl.1 (Nat.le_of_ble_eq_true rfl) dX12_shift_18 (fun r5 r5n M6 H locs h G => ?_)
    obtain ⟨nM6, h⟩ := h
    refine lv_pop C.x C.b dX12_shift_21 rfl ?_
    refine lv_aload_n C.x C.b dX12_shift_22 rfl (lv_at hl 0 rfl) ?_
    refine jr_get C G jc11 25 (v := .ref (g 59 0)) (show 0 < 1 by decide) (by decide) (by decide) rfl wd1216 dX12_shift_23 ?_
    refine lv_iload_n C.x C.b dX12_shift_26 rfl (lv_at hl 2 rfl) ?_
    obtain ⟨hs, h⟩ := h
    refine jr_ald C G (show 0 < 1 by decide) (by decide) (by decide) (by decide) rfl rfl hs dX12_shift_27 ?_
    exact jr_retI C hr G h (by decide) (by decide) dX12_shift_28
  · have h := h.1 hc
    refine lv_iconst (v := 0) C.x C.b dX12_shift_9 (by decide) ?_
    exact jr_retI C hr G h (by decide) (by decide) dX12_shift_10

theorem en_X12_step {v1 : Int32} {v2 : Int32} {v3 : Int32} {M : jM} {Q : Int32 → Nat → jM → Prop} (h : at_X12_step_0 v1 v2 v3 M Q) : ok_X12_step v1 v2 v3 M Q := jr_enter (by decide) (fun g => rfl) (fun g => Nat.le_of_ble_eq_true rfl) h
set_option maxHeartbeats 4000000 in
set_option maxRecDepth 100000 in
theorem bl_X12_step_0 (v1 : Int32) (v2 : Int32) (v3 : Int32) (M : jM) (Q : Int32 → Nat → jM → Prop) 
  (h : (∀ M1 : jM, M1 = jup M 11 0 7 0 → ((0 ≤ v1 ∧ v1 ≤ 2) → ((0 ≤ v3 ∧ v3 ≤ 3) → ok_X12_setOf v1 M1 (fun r8 _ M9 => jnb M9 = jnb M1 ∧ ok_X12_findNumbered r8 v2 M9 (fun r10 _ M11 => jnb M11 = jnb M9 ∧ (r10 = 0 → (∀ M27 : jM, M27 = jup M11 11 0 7 2 → Q 0 0 M27)) ∧ (¬ (r10 = 0) → (2 ≤ v3 → ok_X12_mainFirst  M11 (fun r12 _ M13 => jnb M13 = jnb M11 ∧ ok_X12_mainLast  M13 (fun r14 _ M15 => jnb M15 = jnb M13 ∧ (r12 ≤ r14 → (v3 = 2 → ok_X12_mainFirst  M15 (fun r18 _ M19 => jnb M19 = jnb M15 ∧ Q r18 0 M19)) ∧ (¬ (v3 = 2) → ok_X12_mainLast  M15 (fun r16 _ M17 => jnb M17 = jnb M15 ∧ Q r16 0 M17))) ∧ (¬ (r12 ≤ r14) → (∀ M21 : jM, M21 = jup M15 11 0 7 3 → Q 0 0 M21))))) ∧ (¬ (2 ≤ v3) → (v3 = 0 → ok_X12_stepOf (M11 11 0 29) (M11 11 0 30) 1 M11 (fun r24 _ M25 => jnb M25 = jnb M11 ∧ Q r24 0 M25)) ∧ (¬ (v3 = 0) → ok_X12_stepOf (M11 11 0 29) (M11 11 0 30) 0 M11 (fun r22 _ M23 => jnb M23 = jnb M11 ∧ Q r22 0 M23))))))) ∧ (¬ (0 ≤ v3 ∧ v3 ≤ 3) → (∀ M29 : jM, M29 = jup M1 11 0 7 1 → Q 0 0 M29))) ∧ (¬ (0 ≤ v1 ∧ v1 ≤ 2) → (∀ M5 : jM, M5 = jup M1 11 0 7 1 → Q 0 0 M5)))) :
  at_X12_step_0 v1 v2 v3 M Q := by
  intro p l e s m args below meth c D cA base g C hr htb H locs G ls hl
  refine lv_aload_n C.x C.b dX12_step_0 rfl (lv_at hl 0 rfl) ?_
  refine lv_iconst (v := 0) C.x C.b dX12_step_1 (by decide) ?_
  refine jr_put C G jc11 7 (v := 0) (show 0 < 1 by decide) (by decide) (by decide) rfl (by decide) wd1198 rfl rfl rfl rfl dX12_step_2 (fun H locs G => ?_)
  obtain ⟨M1, eM1⟩ : ∃ z : jM, z = jup M 11 0 7 0 := ⟨_, rfl⟩
  rw [← eM1] at G
  have h := h M1 eM1
  have nM1 : jnb M1 = jnb M := by rw [eM1]; exact jnb_up (by decide)
  refine lv_iload_n C.x C.b dX12_step_5 rfl (lv_at hl 1 rfl) ?_
  refine lv_iconst (v := 0) C.x C.b dX12_step_6 (by decide) ?_
  refine lv_iconst (v := 2) C.x C.b dX12_step_7 (by decide) ?_
  refine jr_S (d' := 9) C G jm_X12_in wd1293 (sp_X12_in ⟨rfl, rfl⟩ : ok_X12_in v1 0 2 M1 (fun r _ M' => jb (0 ≤ v1 ∧ v1 ≤ 2) = r ∧ M1 = M')) rfl rfl rfl (by omega) (by decide) (by decide) ⟨rfl, rfl⟩ hl.1 (Nat.le_of_ble_eq_true rfl) dX12_step_8 (fun r2 r2n M3 H locs hq G => ?_)
  obtain ⟨eq1, eq2⟩ := hq
  subst eq1
  subst eq2
  refine lv_if_eq (tgt := 23) C.x C.b dX12_step_11 (by decide) (fun hc => ?_) (fun hc => ?_)
  · have h := h.2 (jb_0 hc)
    refine lv_aload_n C.x C.b dX12_step_23 rfl (lv_at hl 0 rfl) ?_
    refine lv_iconst (v := 1) C.x C.b dX12_step_24 (by decide) ?_
    refine jr_V (d' := 9) C G jc11 jm_X12_refuse wd1296 (sp_X12_refuse ⟨rfl, rfl⟩ : ok_X12_refuse 1 M1 (fun r _ M' => 0 = r ∧ M' = jup M1 11 0 7 1)) rfl (show 0 < 1 by decide) (by decide) rfl rfl (by omega) (by decide) (by decide) ⟨rfl, rfl⟩ hl.1 (Nat.le_of_ble_eq_true rfl) dX12_step_25 (fun r4 r4n M5 H locs hq G => ?_)
    obtain ⟨eq1, eM5⟩ := hq
    subst eq1
    have h := h M5 eM5
    have nM5 : jnb M5 = jnb M1 := by rw [eM5]; first | exact jnb_up (by decide) | simp [jnb_up]
    exact jr_retI C hr G h (by decide) (by decide) dX12_step_28
  · have h := h.1 (jb_1 hc)
    refine lv_iload_n C.x C.b dX12_step_14 rfl (lv_at hl 3 rfl) ?_
    refine lv_iconst (v := 0) C.x C.b dX12_step_15 (by decide) ?_
    refine lv_iconst (v := 3) C.x C.b dX12_step_16 (by decide) ?_
    refine jr_S (d' := 9) C G jm_X12_in wd1293 (sp_X12_in ⟨rfl, rfl⟩ : ok_X12_in v3 0 3 M1 (fun r _ M' => jb (0 ≤ v3 ∧ v3 ≤ 3) = r ∧ M1 = M')) rfl rfl rfl (by omega) (by decide) (by decide) ⟨rfl, rfl⟩ hl.1 (Nat.le_of_ble_eq_true rfl) dX12_step_17 (fun r6 r6n M7 H locs hq G => ?_)
    obtain ⟨eq1, eq2⟩ := hq
    subst eq1
    subst eq2
    refine lv_if_ne (tgt := 29) C.x C.b dX12_step_20 (by decide) (fun hc => ?_) (fun hc => ?_)
    · have h := h.1 (jb_1 hc)
      refine lv_aload_n C.x C.b dX12_step_29 rfl (lv_at hl 0 rfl) ?_
      refine lv_aload_n C.x C.b dX12_step_30 rfl (lv_at hl 0 rfl) ?_
      refine lv_iload_n C.x C.b dX12_step_31 rfl (lv_at hl 1 rfl) ?_
      refine jr_V (d' := 9) C G jc11 jm_X12_setOf wd1514 h rfl (show 0 < 1 by decide) (by decide) rfl rfl (by omega) (by decide) (by decide) ⟨rfl, rfl⟩ hl.1 (Nat.le_of_ble_eq_true rfl) dX12_step_32 (fun r8 r8n M9 H locs h G => ?_)
      obtain ⟨nM9, h⟩ := h
      refine lv_iload_n C.x C.b dX12_step_35 rfl (lv_at hl 2 rfl) ?_
      refine jr_V (d' := 9) C G jc11 jm_X12_findNumbered wd1560 h rfl (show 0 < 1 by decide) (by decide) rfl rfl (by omega) (by decide) (by decide) ⟨rfl, rfl⟩ hl.1 (Nat.le_of_ble_eq_true rfl) dX12_step_36 (fun r10 r10n M11 H locs h G => ?_)
      obtain ⟨nM11, h⟩ := h
      refine lv_if_ne (tgt := 48) C.x C.b dX12_step_39 (by decide) (fun hc => ?_) (fun hc => ?_)
      · have h := h.2 hc
        refine lv_iload_n C.x C.b dX12_step_48 rfl (lv_at hl 3 rfl) ?_
        refine lv_iconst (v := 2) C.x C.b dX12_step_49 (by decide) ?_
        refine lv_icmp_ge (tgt := 75) C.x C.b dX12_step_50 (by decide) (fun hc => ?_) (fun hc => ?_)
        · have h := h.1 hc
          refine lv_aload_n C.x C.b dX12_step_75 rfl (lv_at hl 0 rfl) ?_
          refine jr_V (d' := 9) C G jc11 jm_X12_mainFirst wd1564 h rfl (show 0 < 1 by decide) (by decide) rfl rfl (by omega) (by decide) (by decide) ⟨rfl, rfl⟩ hl.1 (Nat.le_of_ble_eq_true rfl) dX12_step_76 (fun r12 r12n M13 H locs h G => ?_)
          obtain ⟨nM13, h⟩ := h
          refine lv_aload_n C.x C.b dX12_step_79 rfl (lv_at hl 0 rfl) ?_
          refine jr_V (d' := 9) C G jc11 jm_X12_mainLast wd1568 h rfl (show 0 < 1 by decide) (by decide) rfl rfl (by omega) (by decide) (by decide) ⟨rfl, rfl⟩ hl.1 (Nat.le_of_ble_eq_true rfl) dX12_step_80 (fun r14 r14n M15 H locs h G => ?_)
          obtain ⟨nM15, h⟩ := h
          refine lv_icmp_le (tgt := 92) C.x C.b dX12_step_83 (by decide) (fun hc => ?_) (fun hc => ?_)
          · have h := h.1 hc
            refine lv_iload_n C.x C.b dX12_step_92 rfl (lv_at hl 3 rfl) ?_
            refine lv_iconst (v := 2) C.x C.b dX12_step_93 (by decide) ?_
            refine lv_icmp_ne (tgt := 104) C.x C.b dX12_step_94 (by decide) (fun hc => ?_) (fun hc => ?_)
            · have h := h.2 hc
              refine lv_aload_n C.x C.b dX12_step_104 rfl (lv_at hl 0 rfl) ?_
              refine jr_V (d' := 9) C G jc11 jm_X12_mainLast wd1568 h rfl (show 0 < 1 by decide) (by decide) rfl rfl (by omega) (by decide) (by decide) ⟨rfl, rfl⟩ hl.1 (Nat.le_of_ble_eq_true rfl) dX12_step_105 (fun r16 r16n M17 H locs h G => ?_)
              obtain ⟨nM17, h⟩ := h
              exact jr_retI C hr G h (by decide) (by decide) dX12_step_108
            · have h := h.1 hc
              refine lv_aload_n C.x C.b dX12_step_97 rfl (lv_at hl 0 rfl) ?_
              refine jr_V (d' := 9) C G jc11 jm_X12_mainFirst wd1564 h rfl (show 0 < 1 by decide) (by decide) rfl rfl (by omega) (by decide) (by decide) ⟨rfl, rfl⟩ hl.1 (Nat.le_of_ble_eq_true rfl) dX12_step_98 (fun r18 r18n M19 H locs h G => ?_)
              obtain ⟨nM19, h⟩ := h
              refine lv_goto (tgt := 108) C.x C.b dX12_step_101 (by decide) ?_
              exact jr_retI C hr G h (by decide) (by decide) dX12_step_108
          · have h := h.2 hc
            refine lv_aload_n C.x C.b dX12_step_86 rfl (lv_at hl 0 rfl) ?_
            refine lv_iconst (v := 3) C.x C.b dX12_step_87 (by decide) ?_
            refine jr_V (d' := 9) C G jc11 jm_X12_refuse wd1296 (sp_X12_refuse ⟨rfl, rfl⟩ : ok_X12_refuse 3 M15 (fun r _ M' => 0 = r ∧ M' = jup M15 11 0 7 3)) rfl (show 0 < 1 by decide) (by decide) rfl rfl (by omega) (by decide) (by decide) ⟨rfl, rfl⟩ hl.1 (Nat.le_of_ble_eq_true rfl) dX12_step_88 (fun r20 r20n M21 H locs hq G => ?_)
            obtain ⟨eq1, eM21⟩ := hq
            subst eq1
            have h := h M21 eM21
            have nM21 : jnb M21 = jnb M15 := by rw [eM21]; first | exact jnb_up (by decide) | simp [jnb_up]
            exact jr_retI C hr G h (by decide) (by decide) dX12_step_91
        · have h := h.2 hc
          refine lv_aload_n C.x C.b dX12_step_53 rfl (lv_at hl 0 rfl) ?_
          refine lv_aload_n C.x C.b dX12_step_54 rfl (lv_at hl 0 rfl) ?_
          refine jr_get C G jc11 29 (v := .int (M11 11 0 29)) (show 0 < 1 by decide) (by decide) (by decide) rfl wd1220 dX12_step_55 ?_
          refine lv_aload_n C.x C.b dX12_step_58 rfl (lv_at hl 0 rfl) ?_
          refine jr_get C G jc11 30 (v := .int (M11 11 0 30)) (show 0 < 1 by decide) (by decide) (by decide) rfl wd1221 dX12_step_59 ?_
          refine lv_iload_n C.x C.b dX12_step_62 rfl (lv_at hl 3 rfl) ?_
          refine lv_if_ne (tgt := 70) C.x C.b dX12_step_63 (by decide) (fun hc => ?_) (fun hc => ?_)
          · have h := h.2 hc
            refine lv_iconst (v := 0) C.x C.b dX12_step_70 (by decide) ?_
            refine jr_V (d' := 9) C G jc11 jm_X12_stepOf wd1505 h rfl (show 0 < 1 by decide) (by decide) rfl rfl (by omega) (by decide) (by decide) ⟨rfl, rfl⟩ hl.1 (Nat.le_of_ble_eq_true rfl) dX12_step_71 (fun r22 r22n M23 H locs h G => ?_)
            obtain ⟨nM23, h⟩ := h
            exact jr_retI C hr G h (by decide) (by decide) dX12_step_74
          · have h := h.1 hc
            refine lv_iconst (v := 1) C.x C.b dX12_step_66 (by decide) ?_
            refine lv_goto (tgt := 71) C.x C.b dX12_step_67 (by decide) ?_
            refine jr_V (d' := 9) C G jc11 jm_X12_stepOf wd1505 h rfl (show 0 < 1 by decide) (by decide) rfl rfl (by omega) (by decide) (by decide) ⟨rfl, rfl⟩ hl.1 (Nat.le_of_ble_eq_true rfl) dX12_step_71 (fun r24 r24n M25 H locs h G => ?_)
            obtain ⟨nM25, h⟩ := h
            exact jr_retI C hr G h (by decide) (by decide) dX12_step_74
      · have h := h.1 hc
        refine lv_aload_n C.x C.b dX12_step_42 rfl (lv_at hl 0 rfl) ?_
        refine lv_iconst (v := 2) C.x C.b dX12_step_43 (by decide) ?_
        refine jr_V (d' := 9) C G jc11 jm_X12_refuse wd1296 (sp_X12_refuse ⟨rfl, rfl⟩ : ok_X12_refuse 2 M11 (fun r _ M' => 0 = r ∧ M' = jup M11 11 0 7 2)) rfl (show 0 < 1 by decide) (by decide) rfl rfl (by omega) (by decide) (by decide) ⟨rfl, rfl⟩ hl.1 (Nat.le_of_ble_eq_true rfl) dX12_step_44 (fun r26 r26n M27 H locs hq G => ?_)
        obtain ⟨eq1, eM27⟩ := hq
        subst eq1
        have h := h M27 eM27
        have nM27 : jnb M27 = jnb M11 := by rw [eM27]; first | exact jnb_up (by decide) | simp [jnb_up]
        exact jr_retI C hr G h (by decide) (by decide) dX12_step_47
    · have h := h.2 (jb_0 hc)
      refine lv_aload_n C.x C.b dX12_step_23 rfl (lv_at hl 0 rfl) ?_
      refine lv_iconst (v := 1) C.x C.b dX12_step_24 (by decide) ?_
      refine jr_V (d' := 9) C G jc11 jm_X12_refuse wd1296 (sp_X12_refuse ⟨rfl, rfl⟩ : ok_X12_refuse 1 M1 (fun r _ M' => 0 = r ∧ M' = jup M1 11 0 7 1)) rfl (show 0 < 1 by decide) (by decide) rfl rfl (by omega) (by decide) (by decide) ⟨rfl, rfl⟩ hl.1 (Nat.le_of_ble_eq_true rfl) dX12_step_25 (fun r28 r28n M29 H locs hq G => ?_)
      obtain ⟨eq1, eM29⟩ := hq
      subst eq1
      have h := h M29 eM29
      have nM29 : jnb M29 = jnb M1 := by rw [eM29]; first | exact jnb_up (by decide) | simp [jnb_up]
      exact jr_retI C hr G h (by decide) (by decide) dX12_step_28

theorem en_X12_peeled {v1 : Int32} {v2 : Int32} {v3 : Int32} {M : jM} {Q : Int32 → Nat → jM → Prop} (h : at_X12_peeled_0 v1 v2 v3 M Q) : ok_X12_peeled v1 v2 v3 M Q := jr_enter (by decide) (fun g => rfl) (fun g => Nat.le_of_ble_eq_true rfl) h
set_option maxHeartbeats 4000000 in
set_option maxRecDepth 100000 in
theorem bl_X12_peeled_0 (v1 : Int32) (v2 : Int32) (v3 : Int32) (M : jM) (Q : Int32 → Nat → jM → Prop) 
  (h : (∀ M1 : jM, M1 = jup M 11 0 7 0 → ((0 ≤ v1 ∧ v1 ≤ 2) → ((0 ≤ v3 ∧ v3 ≤ 1) → ((0 ≤ v2 ∧ v2 ≤ M1 11 0 0 - 1) → ok_X12_setOf v1 M1 (fun r10 _ M11 => jnb M11 = jnb M1 ∧ ok_X12_findGroup r10 v2 M11 (fun r12 _ M13 => jnb M13 = jnb M11 ∧ vp_in v2 6 ∧ (vp_in (585 * v2 + 0) 3510) ∧ vp_in v2 6 ∧ (vp_in (585 * v2 + 1) 3510) ∧ ok_X12_mainFirst  M13 (fun r20 _ M21 => jnb M21 = jnb M13 ∧ ok_X12_mainLast  M21 (fun r22 _ M23 => jnb M23 = jnb M21 ∧ (r20 ≤ r22 → (v3 = 0 → ok_X12_mainFirst  M23 (fun r26 _ M27 => jnb M27 = jnb M23 ∧ Q (r26 - ((M13 59 0 v2.toNatClampNeg) + (M13 50 0 (585 * v2 + 0).toNatClampNeg))) 0 M27)) ∧ (¬ (v3 = 0) → ok_X12_mainLast  M23 (fun r24 _ M25 => jnb M25 = jnb M23 ∧ Q (((M13 59 0 v2.toNatClampNeg) + (M13 50 0 (585 * v2 + 1).toNatClampNeg)) - r24) 0 M25))) ∧ (¬ (r20 ≤ r22) → (v3 = 0 → Q ((((M13 59 0 v2.toNatClampNeg) + (M13 50 0 (585 * v2 + 1).toNatClampNeg)) - ((M13 59 0 v2.toNatClampNeg) + (M13 50 0 (585 * v2 + 0).toNatClampNeg))) + 1) 0 M23) ∧ (¬ (v3 = 0) → Q 0 0 M23))))))) ∧ (¬ (0 ≤ v2 ∧ v2 ≤ M1 11 0 0 - 1) → (∀ M29 : jM, M29 = jup M1 11 0 7 2 → Q 0 0 M29))) ∧ (¬ (0 ≤ v3 ∧ v3 ≤ 1) → (∀ M31 : jM, M31 = jup M1 11 0 7 1 → Q 0 0 M31))) ∧ (¬ (0 ≤ v1 ∧ v1 ≤ 2) → (∀ M5 : jM, M5 = jup M1 11 0 7 1 → Q 0 0 M5)))) :
  at_X12_peeled_0 v1 v2 v3 M Q := by
  intro p l e s m args below meth c D cA base g C hr htb H locs G ls hl
  refine lv_aload_n C.x C.b dX12_peeled_0 rfl (lv_at hl 0 rfl) ?_
  refine lv_iconst (v := 0) C.x C.b dX12_peeled_1 (by decide) ?_
  refine jr_put C G jc11 7 (v := 0) (show 0 < 1 by decide) (by decide) (by decide) rfl (by decide) wd1198 rfl rfl rfl rfl dX12_peeled_2 (fun H locs G => ?_)
  obtain ⟨M1, eM1⟩ : ∃ z : jM, z = jup M 11 0 7 0 := ⟨_, rfl⟩
  rw [← eM1] at G
  have h := h M1 eM1
  have nM1 : jnb M1 = jnb M := by rw [eM1]; exact jnb_up (by decide)
  refine lv_iload_n C.x C.b dX12_peeled_5 rfl (lv_at hl 1 rfl) ?_
  refine lv_iconst (v := 0) C.x C.b dX12_peeled_6 (by decide) ?_
  refine lv_iconst (v := 2) C.x C.b dX12_peeled_7 (by decide) ?_
  refine jr_S (d' := 9) C G jm_X12_in wd1293 (sp_X12_in ⟨rfl, rfl⟩ : ok_X12_in v1 0 2 M1 (fun r _ M' => jb (0 ≤ v1 ∧ v1 ≤ 2) = r ∧ M1 = M')) rfl rfl rfl (by omega) (by decide) (by decide) ⟨rfl, rfl⟩ hl.1 (Nat.le_of_ble_eq_true rfl) dX12_peeled_8 (fun r2 r2n M3 H locs hq G => ?_)
  obtain ⟨eq1, eq2⟩ := hq
  subst eq1
  subst eq2
  refine lv_if_eq (tgt := 23) C.x C.b dX12_peeled_11 (by decide) (fun hc => ?_) (fun hc => ?_)
  · have h := h.2 (jb_0 hc)
    refine lv_aload_n C.x C.b dX12_peeled_23 rfl (lv_at hl 0 rfl) ?_
    refine lv_iconst (v := 1) C.x C.b dX12_peeled_24 (by decide) ?_
    refine jr_V (d' := 9) C G jc11 jm_X12_refuse wd1296 (sp_X12_refuse ⟨rfl, rfl⟩ : ok_X12_refuse 1 M1 (fun r _ M' => 0 = r ∧ M' = jup M1 11 0 7 1)) rfl (show 0 < 1 by decide) (by decide) rfl rfl (by omega) (by decide) (by decide) ⟨rfl, rfl⟩ hl.1 (Nat.le_of_ble_eq_true rfl) dX12_peeled_25 (fun r4 r4n M5 H locs hq G => ?_)
    obtain ⟨eq1, eM5⟩ := hq
    subst eq1
    have h := h M5 eM5
    have nM5 : jnb M5 = jnb M1 := by rw [eM5]; first | exact jnb_up (by decide) | simp [jnb_up]
    exact jr_retI C hr G h (by decide) (by decide) dX12_peeled_28
  · have h := h.1 (jb_1 hc)
    refine lv_iload_n C.x C.b dX12_peeled_14 rfl (lv_at hl 3 rfl) ?_
    refine lv_iconst (v := 0) C.x C.b dX12_peeled_15 (by decide) ?_
    refine lv_iconst (v := 1) C.x C.b dX12_peeled_16 (by decide) ?_
    refine jr_S (d' := 9) C G jm_X12_in wd1293 (sp_X12_in ⟨rfl, rfl⟩ : ok_X12_in v3 0 1 M1 (fun r _ M' => jb (0 ≤ v3 ∧ v3 ≤ 1) = r ∧ M1 = M')) rfl rfl rfl (by omega) (by decide) (by decide) ⟨rfl, rfl⟩ hl.1 (Nat.le_of_ble_eq_true rfl) dX12_peeled_17 (fun r6 r6n M7 H locs hq G => ?_)
    obtain ⟨eq1, eq2⟩ := hq
    subst eq1
    subst eq2
    refine lv_if_ne (tgt := 29) C.x C.b dX12_peeled_20 (by decide) (fun hc => ?_) (fun hc => ?_)
    · have h := h.1 (jb_1 hc)
      refine lv_aload_n C.x C.b dX12_peeled_29 rfl (lv_at hl 0 rfl) ?_
      refine lv_iload_n C.x C.b dX12_peeled_30 rfl (lv_at hl 2 rfl) ?_
      refine jr_V (d' := 9) C G jc11 jm_X12_isLoop wd1372 (sp_X12_isLoop ⟨rfl, rfl⟩ : ok_X12_isLoop v2 M1 (fun r _ M' => jb (0 ≤ v2 ∧ v2 ≤ M1 11 0 0 - 1) = r ∧ M1 = M')) rfl (show 0 < 1 by decide) (by decide) rfl rfl (by omega) (by decide) (by decide) ⟨rfl, rfl⟩ hl.1 (Nat.le_of_ble_eq_true rfl) dX12_peeled_31 (fun r8 r8n M9 H locs hq G => ?_)
      obtain ⟨eq1, eq2⟩ := hq
      subst eq1
      subst eq2
      refine lv_if_ne (tgt := 43) C.x C.b dX12_peeled_34 (by decide) (fun hc => ?_) (fun hc => ?_)
      · have h := h.1 (jb_1 hc)
        refine lv_aload_n C.x C.b dX12_peeled_43 rfl (lv_at hl 0 rfl) ?_
        refine lv_aload_n C.x C.b dX12_peeled_44 rfl (lv_at hl 0 rfl) ?_
        refine lv_iload_n C.x C.b dX12_peeled_45 rfl (lv_at hl 1 rfl) ?_
        refine jr_V (d' := 9) C G jc11 jm_X12_setOf wd1514 h rfl (show 0 < 1 by decide) (by decide) rfl rfl (by omega) (by decide) (by decide) ⟨rfl, rfl⟩ hl.1 (Nat.le_of_ble_eq_true rfl) dX12_peeled_46 (fun r10 r10n M11 H locs h G => ?_)
        obtain ⟨nM11, h⟩ := h
        refine lv_iload_n C.x C.b dX12_peeled_49 rfl (lv_at hl 2 rfl) ?_
        refine jr_V (d' := 9) C G jc11 jm_X12_findGroup wd1548 h rfl (show 0 < 1 by decide) (by decide) rfl rfl (by omega) (by decide) (by decide) ⟨rfl, rfl⟩ hl.1 (Nat.le_of_ble_eq_true rfl) dX12_peeled_50 (fun r12 r12n M13 H locs h G => ?_)
        obtain ⟨nM13, h⟩ := h
        refine lv_pop C.x C.b dX12_peeled_53 rfl ?_
        refine lv_aload_n C.x C.b dX12_peeled_54 rfl (lv_at hl 0 rfl) ?_
        refine jr_get C G jc11 25 (v := .ref (g 59 0)) (show 0 < 1 by decide) (by decide) (by decide) rfl wd1216 dX12_peeled_55 ?_
        refine lv_iload_n C.x C.b dX12_peeled_58 rfl (lv_at hl 2 rfl) ?_
        obtain ⟨hs, h⟩ := h
        refine jr_ald C G (show 0 < 1 by decide) (by decide) (by decide) (by decide) rfl rfl hs dX12_peeled_59 ?_
        refine lv_aload_n C.x C.b dX12_peeled_60 rfl (lv_at hl 0 rfl) ?_
        refine lv_iload_n C.x C.b dX12_peeled_61 rfl (lv_at hl 2 rfl) ?_
        refine lv_iconst (v := 0) C.x C.b dX12_peeled_62 (by decide) ?_
        obtain ⟨hp16, h⟩ := h
        refine jr_V (d' := 9) C G jc11 jm_X12_of wd1384 (sp_X12_of hp16 ⟨rfl, rfl⟩ : ok_X12_of v2 0 M13 (fun r _ M' => (M13 50 0 (585 * v2 + 0).toNatClampNeg) = r ∧ M13 = M')) rfl (show 0 < 1 by decide) (by decide) rfl rfl (by omega) (by decide) (by decide) ⟨rfl, rfl⟩ hl.1 (Nat.le_of_ble_eq_true rfl) dX12_peeled_63 (fun r14 r14n M15 H locs hq G => ?_)
        obtain ⟨eq1, eq2⟩ := hq
        subst eq1
        subst eq2
        refine lv_iadd C.x C.b dX12_peeled_66 ?_
        refine lv_istore (lv' := [(4, .int ((M13 59 0 v2.toNatClampNeg) + (M13 50 0 (585 * v2 + 0).toNatClampNeg))), (0, .ref (g 11 0)), (1, .int v1), (2, .int v2), (3, .int v3)]) C.x C.b dX12_peeled_67 hl (by decide) rfl (fun ls hl => ?_)
        refine lv_aload_n C.x C.b dX12_peeled_69 rfl (lv_at hl 1 rfl) ?_
        refine jr_get C G jc11 25 (v := .ref (g 59 0)) (show 0 < 1 by decide) (by decide) (by decide) rfl wd1216 dX12_peeled_70 ?_
        refine lv_iload_n C.x C.b dX12_peeled_73 rfl (lv_at hl 3 rfl) ?_
        obtain ⟨hs, h⟩ := h
        refine jr_ald C G (show 0 < 1 by decide) (by decide) (by decide) (by decide) rfl rfl hs dX12_peeled_74 ?_
        refine lv_aload_n C.x C.b dX12_peeled_75 rfl (lv_at hl 1 rfl) ?_
        refine lv_iload_n C.x C.b dX12_peeled_76 rfl (lv_at hl 3 rfl) ?_
        refine lv_iconst (v := 1) C.x C.b dX12_peeled_77 (by decide) ?_
        obtain ⟨hp19, h⟩ := h
        refine jr_V (d' := 9) C G jc11 jm_X12_of wd1384 (sp_X12_of hp19 ⟨rfl, rfl⟩ : ok_X12_of v2 1 M13 (fun r _ M' => (M13 50 0 (585 * v2 + 1).toNatClampNeg) = r ∧ M13 = M')) rfl (show 0 < 1 by decide) (by decide) rfl rfl (by omega) (by decide) (by decide) ⟨rfl, rfl⟩ hl.1 (Nat.le_of_ble_eq_true rfl) dX12_peeled_78 (fun r17 r17n M18 H locs hq G => ?_)
        obtain ⟨eq1, eq2⟩ := hq
        subst eq1
        subst eq2
        refine lv_iadd C.x C.b dX12_peeled_81 ?_
        refine lv_istore (lv' := [(5, .int ((M13 59 0 v2.toNatClampNeg) + (M13 50 0 (585 * v2 + 1).toNatClampNeg))), (4, .int ((M13 59 0 v2.toNatClampNeg) + (M13 50 0 (585 * v2 + 0).toNatClampNeg))), (0, .ref (g 11 0)), (1, .int v1), (2, .int v2), (3, .int v3)]) C.x C.b dX12_peeled_82 hl (by decide) rfl (fun ls hl => ?_)
        refine lv_aload_n C.x C.b dX12_peeled_84 rfl (lv_at hl 2 rfl) ?_
        refine jr_V (d' := 9) C G jc11 jm_X12_mainFirst wd1564 h rfl (show 0 < 1 by decide) (by decide) rfl rfl (by omega) (by decide) (by decide) ⟨rfl, rfl⟩ hl.1 (Nat.le_of_ble_eq_true rfl) dX12_peeled_85 (fun r20 r20n M21 H locs h G => ?_)
        obtain ⟨nM21, h⟩ := h
        refine lv_aload_n C.x C.b dX12_peeled_88 rfl (lv_at hl 2 rfl) ?_
        refine jr_V (d' := 9) C G jc11 jm_X12_mainLast wd1568 h rfl (show 0 < 1 by decide) (by decide) rfl rfl (by omega) (by decide) (by decide) ⟨rfl, rfl⟩ hl.1 (Nat.le_of_ble_eq_true rfl) dX12_peeled_89 (fun r22 r22n M23 H locs h G => ?_)
        obtain ⟨nM23, h⟩ := h
        refine lv_icmp_le (tgt := 111) C.x C.b dX12_peeled_92 (by decide) (fun hc => ?_) (fun hc => ?_)
        · have h := h.1 hc
          refine lv_iload_n C.x C.b dX12_peeled_111 rfl (lv_at hl 5 rfl) ?_
          refine lv_if_ne (tgt := 125) C.x C.b dX12_peeled_112 (by decide) (fun hc => ?_) (fun hc => ?_)
          · have h := h.2 hc
            refine lv_iload C.x C.b dX12_peeled_125 (lv_at hl 0 rfl) ?_
            refine lv_aload_n C.x C.b dX12_peeled_127 rfl (lv_at hl 2 rfl) ?_
            refine jr_V (d' := 9) C G jc11 jm_X12_mainLast wd1568 h rfl (show 0 < 1 by decide) (by decide) rfl rfl (by omega) (by decide) (by decide) ⟨rfl, rfl⟩ hl.1 (Nat.le_of_ble_eq_true rfl) dX12_peeled_128 (fun r24 r24n M25 H locs h G => ?_)
            obtain ⟨nM25, h⟩ := h
            refine lv_isub C.x C.b dX12_peeled_131 ?_
            exact jr_retI C hr G h (by decide) (by decide) dX12_peeled_132
          · have h := h.1 hc
            refine lv_aload_n C.x C.b dX12_peeled_115 rfl (lv_at hl 2 rfl) ?_
            refine jr_V (d' := 9) C G jc11 jm_X12_mainFirst wd1564 h rfl (show 0 < 1 by decide) (by decide) rfl rfl (by omega) (by decide) (by decide) ⟨rfl, rfl⟩ hl.1 (Nat.le_of_ble_eq_true rfl) dX12_peeled_116 (fun r26 r26n M27 H locs h G => ?_)
            obtain ⟨nM27, h⟩ := h
            refine lv_iload C.x C.b dX12_peeled_119 (lv_at hl 1 rfl) ?_
            refine lv_isub C.x C.b dX12_peeled_121 ?_
            refine lv_goto (tgt := 132) C.x C.b dX12_peeled_122 (by decide) ?_
            exact jr_retI C hr G h (by decide) (by decide) dX12_peeled_132
        · have h := h.2 hc
          refine lv_iload_n C.x C.b dX12_peeled_95 rfl (lv_at hl 5 rfl) ?_
          refine lv_if_ne (tgt := 109) C.x C.b dX12_peeled_96 (by decide) (fun hc => ?_) (fun hc => ?_)
          · have h := h.2 hc
            refine lv_iconst (v := 0) C.x C.b dX12_peeled_109 (by decide) ?_
            exact jr_retI C hr G h (by decide) (by decide) dX12_peeled_110
          · have h := h.1 hc
            refine lv_iload C.x C.b dX12_peeled_99 (lv_at hl 0 rfl) ?_
            refine lv_iload C.x C.b dX12_peeled_101 (lv_at hl 1 rfl) ?_
            refine lv_isub C.x C.b dX12_peeled_103 ?_
            refine lv_iconst (v := 1) C.x C.b dX12_peeled_104 (by decide) ?_
            refine lv_iadd C.x C.b dX12_peeled_105 ?_
            refine lv_goto (tgt := 110) C.x C.b dX12_peeled_106 (by decide) ?_
            exact jr_retI C hr G h (by decide) (by decide) dX12_peeled_110
      · have h := h.2 (jb_0 hc)
        refine lv_aload_n C.x C.b dX12_peeled_37 rfl (lv_at hl 0 rfl) ?_
        refine lv_iconst (v := 2) C.x C.b dX12_peeled_38 (by decide) ?_
        refine jr_V (d' := 9) C G jc11 jm_X12_refuse wd1296 (sp_X12_refuse ⟨rfl, rfl⟩ : ok_X12_refuse 2 M1 (fun r _ M' => 0 = r ∧ M' = jup M1 11 0 7 2)) rfl (show 0 < 1 by decide) (by decide) rfl rfl (by omega) (by decide) (by decide) ⟨rfl, rfl⟩ hl.1 (Nat.le_of_ble_eq_true rfl) dX12_peeled_39 (fun r28 r28n M29 H locs hq G => ?_)
        obtain ⟨eq1, eM29⟩ := hq
        subst eq1
        have h := h M29 eM29
        have nM29 : jnb M29 = jnb M1 := by rw [eM29]; first | exact jnb_up (by decide) | simp [jnb_up]
        exact jr_retI C hr G h (by decide) (by decide) dX12_peeled_42
    · have h := h.2 (jb_0 hc)
      refine lv_aload_n C.x C.b dX12_peeled_23 rfl (lv_at hl 0 rfl) ?_
      refine lv_iconst (v := 1) C.x C.b dX12_peeled_24 (by decide) ?_
      refine jr_V (d' := 9) C G jc11 jm_X12_refuse wd1296 (sp_X12_refuse ⟨rfl, rfl⟩ : ok_X12_refuse 1 M1 (fun r _ M' => 0 = r ∧ M' = jup M1 11 0 7 1)) rfl (show 0 < 1 by decide) (by decide) rfl rfl (by omega) (by decide) (by decide) ⟨rfl, rfl⟩ hl.1 (Nat.le_of_ble_eq_true rfl) dX12_peeled_25 (fun r30 r30n M31 H locs hq G => ?_)
      obtain ⟨eq1, eM31⟩ := hq
      subst eq1
      have h := h M31 eM31
      have nM31 : jnb M31 = jnb M1 := by rw [eM31]; first | exact jnb_up (by decide) | simp [jnb_up]
      exact jr_retI C hr G h (by decide) (by decide) dX12_peeled_28

theorem en_X12_carried {v1 : Int32} {v2 : Int32} {M : jM} {Q : Int32 → Nat → jM → Prop} (h : at_X12_carried_0 v1 v2 M Q) : ok_X12_carried v1 v2 M Q := jr_enter (by decide) (fun g => rfl) (fun g => Nat.le_of_ble_eq_true rfl) h
set_option maxHeartbeats 4000000 in
set_option maxRecDepth 100000 in
theorem bl_X12_carried_0 (v1 : Int32) (v2 : Int32) (M : jM) (Q : Int32 → Nat → jM → Prop) 
  (h : (∀ M1 : jM, M1 = jup M 11 0 7 0 → ((0 ≤ v1 ∧ v1 ≤ 2) → ok_X12_setOf v1 M1 (fun r4 _ M5 => jnb M5 = jnb M1 ∧ ok_X12_findNumbered r4 v2 M5 (fun r6 _ M7 => jnb M7 = jnb M5 ∧ (r6 = 0 → (∀ M9 : jM, M9 = jup M7 11 0 7 2 → Q 0 0 M9)) ∧ (¬ (r6 = 0) → at_X12_carried_47 0 (M7 11 0 29) M7 Q)))) ∧ (¬ (0 ≤ v1 ∧ v1 ≤ 2) → (∀ M11 : jM, M11 = jup M1 11 0 7 1 → Q 0 0 M11)))) :
  at_X12_carried_0 v1 v2 M Q := by
  intro p l e s m args below meth c D cA base g C hr htb H locs G ls hl
  refine lv_aload_n C.x C.b dX12_carried_0 rfl (lv_at hl 0 rfl) ?_
  refine lv_iconst (v := 0) C.x C.b dX12_carried_1 (by decide) ?_
  refine jr_put C G jc11 7 (v := 0) (show 0 < 1 by decide) (by decide) (by decide) rfl (by decide) wd1198 rfl rfl rfl rfl dX12_carried_2 (fun H locs G => ?_)
  obtain ⟨M1, eM1⟩ : ∃ z : jM, z = jup M 11 0 7 0 := ⟨_, rfl⟩
  rw [← eM1] at G
  have h := h M1 eM1
  have nM1 : jnb M1 = jnb M := by rw [eM1]; exact jnb_up (by decide)
  refine lv_iload_n C.x C.b dX12_carried_5 rfl (lv_at hl 1 rfl) ?_
  refine lv_iconst (v := 0) C.x C.b dX12_carried_6 (by decide) ?_
  refine lv_iconst (v := 2) C.x C.b dX12_carried_7 (by decide) ?_
  refine jr_S (d' := 9) C G jm_X12_in wd1293 (sp_X12_in ⟨rfl, rfl⟩ : ok_X12_in v1 0 2 M1 (fun r _ M' => jb (0 ≤ v1 ∧ v1 ≤ 2) = r ∧ M1 = M')) rfl rfl rfl (by omega) (by decide) (by decide) ⟨rfl, rfl⟩ hl.1 (Nat.le_of_ble_eq_true rfl) dX12_carried_8 (fun r2 r2n M3 H locs hq G => ?_)
  obtain ⟨eq1, eq2⟩ := hq
  subst eq1
  subst eq2
  refine lv_if_ne (tgt := 20) C.x C.b dX12_carried_11 (by decide) (fun hc => ?_) (fun hc => ?_)
  · have h := h.1 (jb_1 hc)
    refine lv_aload_n C.x C.b dX12_carried_20 rfl (lv_at hl 0 rfl) ?_
    refine lv_aload_n C.x C.b dX12_carried_21 rfl (lv_at hl 0 rfl) ?_
    refine lv_iload_n C.x C.b dX12_carried_22 rfl (lv_at hl 1 rfl) ?_
    refine jr_V (d' := 9) C G jc11 jm_X12_setOf wd1514 h rfl (show 0 < 1 by decide) (by decide) rfl rfl (by omega) (by decide) (by decide) ⟨rfl, rfl⟩ hl.1 (Nat.le_of_ble_eq_true rfl) dX12_carried_23 (fun r4 r4n M5 H locs h G => ?_)
    obtain ⟨nM5, h⟩ := h
    refine lv_iload_n C.x C.b dX12_carried_26 rfl (lv_at hl 2 rfl) ?_
    refine jr_V (d' := 9) C G jc11 jm_X12_findNumbered wd1560 h rfl (show 0 < 1 by decide) (by decide) rfl rfl (by omega) (by decide) (by decide) ⟨rfl, rfl⟩ hl.1 (Nat.le_of_ble_eq_true rfl) dX12_carried_27 (fun r6 r6n M7 H locs h G => ?_)
    obtain ⟨nM7, h⟩ := h
    refine lv_if_ne (tgt := 39) C.x C.b dX12_carried_30 (by decide) (fun hc => ?_) (fun hc => ?_)
    · have h := h.2 hc
      refine lv_iconst (v := 0) C.x C.b dX12_carried_39 (by decide) ?_
      refine lv_istore_n (lv' := [(3, .int 0), (0, .ref (g 11 0)), (1, .int v1), (2, .int v2)]) C.x C.b dX12_carried_40 rfl hl (by decide) rfl (fun ls hl => ?_)
      refine lv_aload_n C.x C.b dX12_carried_41 rfl (lv_at hl 1 rfl) ?_
      refine jr_get C G jc11 29 (v := .int (M7 11 0 29)) (show 0 < 1 by decide) (by decide) (by decide) rfl wd1220 dX12_carried_42 ?_
      refine lv_istore (lv' := [(4, .int (M7 11 0 29)), (3, .int 0), (0, .ref (g 11 0)), (1, .int v1), (2, .int v2)]) C.x C.b dX12_carried_45 hl (by decide) rfl (fun ls hl => ?_)
      exact h p l e s m args below meth c D cA base g C hr htb _ _ G ls (lv_sub hl [2, 1, 0] rfl)
    · have h := h.1 hc
      refine lv_aload_n C.x C.b dX12_carried_33 rfl (lv_at hl 0 rfl) ?_
      refine lv_iconst (v := 2) C.x C.b dX12_carried_34 (by decide) ?_
      refine jr_V (d' := 9) C G jc11 jm_X12_refuse wd1296 (sp_X12_refuse ⟨rfl, rfl⟩ : ok_X12_refuse 2 M7 (fun r _ M' => 0 = r ∧ M' = jup M7 11 0 7 2)) rfl (show 0 < 1 by decide) (by decide) rfl rfl (by omega) (by decide) (by decide) ⟨rfl, rfl⟩ hl.1 (Nat.le_of_ble_eq_true rfl) dX12_carried_35 (fun r8 r8n M9 H locs hq G => ?_)
      obtain ⟨eq1, eM9⟩ := hq
      subst eq1
      have h := h M9 eM9
      have nM9 : jnb M9 = jnb M7 := by rw [eM9]; first | exact jnb_up (by decide) | simp [jnb_up]
      exact jr_retI C hr G h (by decide) (by decide) dX12_carried_38
  · have h := h.2 (jb_0 hc)
    refine lv_aload_n C.x C.b dX12_carried_14 rfl (lv_at hl 0 rfl) ?_
    refine lv_iconst (v := 1) C.x C.b dX12_carried_15 (by decide) ?_
    refine jr_V (d' := 9) C G jc11 jm_X12_refuse wd1296 (sp_X12_refuse ⟨rfl, rfl⟩ : ok_X12_refuse 1 M1 (fun r _ M' => 0 = r ∧ M' = jup M1 11 0 7 1)) rfl (show 0 < 1 by decide) (by decide) rfl rfl (by omega) (by decide) (by decide) ⟨rfl, rfl⟩ hl.1 (Nat.le_of_ble_eq_true rfl) dX12_carried_16 (fun r10 r10n M11 H locs hq G => ?_)
    obtain ⟨eq1, eM11⟩ := hq
    subst eq1
    have h := h M11 eM11
    have nM11 : jnb M11 = jnb M1 := by rw [eM11]; first | exact jnb_up (by decide) | simp [jnb_up]
    exact jr_retI C hr G h (by decide) (by decide) dX12_carried_19
set_option maxHeartbeats 4000000 in
set_option maxRecDepth 100000 in
theorem bl_X12_carried_47 (v3 : Int32) (v4 : Int32) (M : jM) (Q : Int32 → Nat → jM → Prop) 
  (h : ((M 11 0 30) < v4 → Q v3 0 M) ∧ (¬ ((M 11 0 30) < v4) → at_X12_carried_62 v3 v4 (M 11 0 29) M Q)) :
  at_X12_carried_47 v3 v4 M Q := by
  intro p l e s m args below meth c D cA base g C hr htb H locs G ls hl
  refine lv_iload C.x C.b dX12_carried_47 (lv_at hl 2 rfl) ?_
  refine lv_aload_n C.x C.b dX12_carried_49 rfl (lv_at hl 0 rfl) ?_
  refine jr_get C G jc11 30 (v := .int (M 11 0 30)) (show 0 < 1 by decide) (by decide) (by decide) rfl wd1221 dX12_carried_50 ?_
  refine lv_icmp_gt (tgt := 161) C.x C.b dX12_carried_53 (by decide) (fun hc => ?_) (fun hc => ?_)
  · have h := h.1 hc
    refine lv_iload_n C.x C.b dX12_carried_161 rfl (lv_at hl 1 rfl) ?_
    exact jr_retI C hr G h (by decide) (by decide) dX12_carried_162
  · have h := h.2 hc
    refine lv_aload_n C.x C.b dX12_carried_56 rfl (lv_at hl 0 rfl) ?_
    refine jr_get C G jc11 29 (v := .int (M 11 0 29)) (show 0 < 1 by decide) (by decide) (by decide) rfl wd1220 dX12_carried_57 ?_
    refine lv_istore (lv' := [(5, .int (M 11 0 29)), (0, .ref (g 11 0)), (3, .int v3), (4, .int v4)]) C.x C.b dX12_carried_60 hl (by decide) rfl (fun ls hl => ?_)
    exact h p l e s m args below meth c D cA base g C hr htb _ _ G ls (lv_sub hl [1, 2, 3, 0] rfl)
set_option maxHeartbeats 4000000 in
set_option maxRecDepth 100000 in
theorem bl_X12_carried_62 (v3 : Int32) (v4 : Int32) (v5 : Int32) (M : jM) (Q : Int32 → Nat → jM → Prop) 
  (h : ((M 11 0 30) < v5 → at_X12_carried_47 v3 (v4 + 1) M Q) ∧ (¬ ((M 11 0 30) < v5) → at_X12_carried_74 v3 v4 v5 0 M Q)) :
  at_X12_carried_62 v3 v4 v5 M Q := by
  intro p l e s m args below meth c D cA base g C hr htb H locs G ls hl
  refine lv_iload C.x C.b dX12_carried_62 (lv_at hl 3 rfl) ?_
  refine lv_aload_n C.x C.b dX12_carried_64 rfl (lv_at hl 0 rfl) ?_
  refine jr_get C G jc11 30 (v := .int (M 11 0 30)) (show 0 < 1 by decide) (by decide) (by decide) rfl wd1221 dX12_carried_65 ?_
  refine lv_icmp_gt (tgt := 155) C.x C.b dX12_carried_68 (by decide) (fun hc => ?_) (fun hc => ?_)
  · have h := h.1 hc
    refine lv_iinc (v := v4 + 1) (lv' := [(4, .int (v4 + 1)), (0, .ref (g 11 0)), (3, .int v3), (5, .int v5)]) C.x C.b dX12_carried_155 hl (k := 2) rfl rfl (by decide) rfl (fun ls hl => ?_)
    refine lv_goto (tgt := 47) C.x C.b dX12_carried_158 (by decide) ?_
    exact h p l e s m args below meth c D cA base g C hr htb _ _ G ls (lv_sub hl [1, 2, 0] rfl)
  · have h := h.2 hc
    refine lv_iconst (v := 0) C.x C.b dX12_carried_71 (by decide) ?_
    refine lv_istore (lv' := [(6, .int 0), (0, .ref (g 11 0)), (3, .int v3), (4, .int v4), (5, .int v5)]) C.x C.b dX12_carried_72 hl (by decide) rfl (fun ls hl => ?_)
    exact h p l e s m args below meth c D cA base g C hr htb _ _ G ls (lv_sub hl [1, 2, 3, 4, 0] rfl)
set_option maxHeartbeats 4000000 in
set_option maxRecDepth 100000 in
theorem bl_X12_carried_74 (v3 : Int32) (v4 : Int32) (v5 : Int32) (v6 : Int32) (M : jM) (Q : Int32 → Nat → jM → Prop) 
  (h : (vp_in (585 * v4 + 4) 3510) ∧ ((M 50 0 (585 * v4 + 4).toNatClampNeg) ≤ v6 → at_X12_carried_62 v3 v4 (v5 + 1) M Q) ∧ (¬ ((M 50 0 (585 * v4 + 4).toNatClampNeg) ≤ v6) → at_X12_carried_89 v3 v4 v5 v6 0 M Q)) :
  at_X12_carried_74 v3 v4 v5 v6 M Q := by
  intro p l e s m args below meth c D cA base g C hr htb H locs G ls hl
  refine lv_iload C.x C.b dX12_carried_74 (lv_at hl 4 rfl) ?_
  refine lv_aload_n C.x C.b dX12_carried_76 rfl (lv_at hl 0 rfl) ?_
  refine lv_iload C.x C.b dX12_carried_77 (lv_at hl 2 rfl) ?_
  refine lv_iconst (v := 4) C.x C.b dX12_carried_79 (by decide) ?_
  obtain ⟨hp3, h⟩ := h
  refine jr_V (d' := 9) C G jc11 jm_X12_of wd1384 (sp_X12_of hp3 ⟨rfl, rfl⟩ : ok_X12_of v4 4 M (fun r _ M' => (M 50 0 (585 * v4 + 4).toNatClampNeg) = r ∧ M = M')) rfl (show 0 < 1 by decide) (by decide) rfl rfl (by omega) (by decide) (by decide) ⟨rfl, rfl⟩ hl.1 (Nat.le_of_ble_eq_true rfl) dX12_carried_80 (fun r1 r1n M2 H locs hq G => ?_)
  obtain ⟨eq1, eq2⟩ := hq
  subst eq1
  subst eq2
  refine lv_icmp_ge (tgt := 149) C.x C.b dX12_carried_83 (by decide) (fun hc => ?_) (fun hc => ?_)
  · have h := h.1 hc
    refine lv_iinc (v := v5 + 1) (lv' := [(5, .int (v5 + 1)), (0, .ref (g 11 0)), (3, .int v3), (4, .int v4), (6, .int v6)]) C.x C.b dX12_carried_149 hl (k := 3) rfl rfl (by decide) rfl (fun ls hl => ?_)
    refine lv_goto (tgt := 62) C.x C.b dX12_carried_152 (by decide) ?_
    exact h p l e s m args below meth c D cA base g C hr htb _ _ G ls (lv_sub hl [1, 2, 3, 0] rfl)
  · have h := h.2 hc
    refine lv_iconst (v := 0) C.x C.b dX12_carried_86 (by decide) ?_
    refine lv_istore (lv' := [(7, .int 0), (0, .ref (g 11 0)), (3, .int v3), (4, .int v4), (5, .int v5), (6, .int v6)]) C.x C.b dX12_carried_87 hl (by decide) rfl (fun ls hl => ?_)
    exact h p l e s m args below meth c D cA base g C hr htb _ _ G ls (lv_sub hl [1, 2, 3, 4, 5, 0] rfl)
set_option maxHeartbeats 4000000 in
set_option maxRecDepth 100000 in
theorem bl_X12_carried_89 (v3 : Int32) (v4 : Int32) (v5 : Int32) (v6 : Int32) (v7 : Int32) (M : jM) (Q : Int32 → Nat → jM → Prop) 
  (h : (vp_in (585 * v5 + 4) 3510) ∧ ((M 50 0 (585 * v5 + 4).toNatClampNeg) ≤ v7 → at_X12_carried_74 v3 v4 v5 (v6 + 1) M Q) ∧ (¬ ((M 50 0 (585 * v5 + 4).toNatClampNeg) ≤ v7) → ok_X12_gapOf v4 v6 v5 v7 M (fun r4 _ M5 => jnb M5 = jnb M ∧ (r4 ≤ 0 → at_X12_carried_89 v3 v4 v5 v6 (v7 + 1) M5 Q) ∧ (¬ (r4 ≤ 0) → (v3 = 0 → at_X12_carried_89 r4 v4 v5 v6 (v7 + 1) M5 Q) ∧ (¬ (v3 = 0) → (v3 ≤ r4 → at_X12_carried_89 v3 v4 v5 v6 (v7 + 1) M5 Q) ∧ (¬ (v3 ≤ r4) → at_X12_carried_89 r4 v4 v5 v6 (v7 + 1) M5 Q)))))) :
  at_X12_carried_89 v3 v4 v5 v6 v7 M Q := by
  intro p l e s m args below meth c D cA base g C hr htb H locs G ls hl
  refine lv_iload C.x C.b dX12_carried_89 (lv_at hl 5 rfl) ?_
  refine lv_aload_n C.x C.b dX12_carried_91 rfl (lv_at hl 0 rfl) ?_
  refine lv_iload C.x C.b dX12_carried_92 (lv_at hl 3 rfl) ?_
  refine lv_iconst (v := 4) C.x C.b dX12_carried_94 (by decide) ?_
  obtain ⟨hp3, h⟩ := h
  refine jr_V (d' := 9) C G jc11 jm_X12_of wd1384 (sp_X12_of hp3 ⟨rfl, rfl⟩ : ok_X12_of v5 4 M (fun r _ M' => (M 50 0 (585 * v5 + 4).toNatClampNeg) = r ∧ M = M')) rfl (show 0 < 1 by decide) (by decide) rfl rfl (by omega) (by decide) (by decide) ⟨rfl, rfl⟩ hl.1 (Nat.le_of_ble_eq_true rfl) dX12_carried_95 (fun r1 r1n M2 H locs hq G => ?_)
  obtain ⟨eq1, eq2⟩ := hq
  subst eq1
  subst eq2
  refine lv_icmp_ge (tgt := 143) C.x C.b dX12_carried_98 (by decide) (fun hc => ?_) (fun hc => ?_)
  · have h := h.1 hc
    refine lv_iinc (v := v6 + 1) (lv' := [(6, .int (v6 + 1)), (0, .ref (g 11 0)), (3, .int v3), (4, .int v4), (5, .int v5), (7, .int v7)]) C.x C.b dX12_carried_143 hl (k := 4) rfl rfl (by decide) rfl (fun ls hl => ?_)
    refine lv_goto (tgt := 74) C.x C.b dX12_carried_146 (by decide) ?_
    exact h p l e s m args below meth c D cA base g C hr htb _ _ G ls (lv_sub hl [1, 2, 3, 4, 0] rfl)
  · have h := h.2 hc
    refine lv_aload_n C.x C.b dX12_carried_101 rfl (lv_at hl 0 rfl) ?_
    refine lv_iload C.x C.b dX12_carried_102 (lv_at hl 2 rfl) ?_
    refine lv_iload C.x C.b dX12_carried_104 (lv_at hl 4 rfl) ?_
    refine lv_iload C.x C.b dX12_carried_106 (lv_at hl 3 rfl) ?_
    refine lv_iload C.x C.b dX12_carried_108 (lv_at hl 5 rfl) ?_
    refine jr_V (d' := 9) C G jc11 jm_X12_gapOf wd1580 h rfl (show 0 < 1 by decide) (by decide) rfl rfl (by omega) (by decide) (by decide) ⟨rfl, rfl⟩ hl.1 (Nat.le_of_ble_eq_true rfl) dX12_carried_110 (fun r4 r4n M5 H locs h G => ?_)
    obtain ⟨nM5, h⟩ := h
    refine lv_istore (lv' := [(8, .int r4), (0, .ref (g 11 0)), (3, .int v3), (4, .int v4), (5, .int v5), (6, .int v6), (7, .int v7)]) C.x C.b dX12_carried_113 hl (by decide) rfl (fun ls hl => ?_)
    refine lv_iload C.x C.b dX12_carried_115 (lv_at hl 0 rfl) ?_
    refine lv_if_le (tgt := 135) C.x C.b dX12_carried_117 (by decide) (fun hc => ?_) (fun hc => ?_)
    · have h := h.1 hc
      refine lv_iload_n C.x C.b dX12_carried_135 rfl (lv_at hl 2 rfl) ?_
      refine lv_istore_n (lv' := [(3, .int v3), (8, .int r4), (0, .ref (g 11 0)), (4, .int v4), (5, .int v5), (6, .int v6), (7, .int v7)]) C.x C.b dX12_carried_136 rfl hl (by decide) rfl (fun ls hl => ?_)
      refine lv_iinc (v := v7 + 1) (lv' := [(7, .int (v7 + 1)), (3, .int v3), (8, .int r4), (0, .ref (g 11 0)), (4, .int v4), (5, .int v5), (6, .int v6)]) C.x C.b dX12_carried_137 hl (k := 6) rfl rfl (by decide) rfl (fun ls hl => ?_)
      refine lv_goto (tgt := 89) C.x C.b dX12_carried_140 (by decide) ?_
      exact h p l e s m args below meth c D cA base g C hr htb _ _ G ls (lv_sub hl [3, 1, 4, 5, 6, 0] rfl)
    · have h := h.2 hc
      refine lv_iload_n C.x C.b dX12_carried_120 rfl (lv_at hl 2 rfl) ?_
      refine lv_if_eq (tgt := 130) C.x C.b dX12_carried_121 (by decide) (fun hc => ?_) (fun hc => ?_)
      · have h := h.1 hc
        refine lv_iload C.x C.b dX12_carried_130 (lv_at hl 0 rfl) ?_
        refine lv_goto (tgt := 136) C.x C.b dX12_carried_132 (by decide) ?_
        refine lv_istore_n (lv' := [(3, .int r4), (8, .int r4), (0, .ref (g 11 0)), (4, .int v4), (5, .int v5), (6, .int v6), (7, .int v7)]) C.x C.b dX12_carried_136 rfl hl (by decide) rfl (fun ls hl => ?_)
        refine lv_iinc (v := v7 + 1) (lv' := [(7, .int (v7 + 1)), (3, .int r4), (8, .int r4), (0, .ref (g 11 0)), (4, .int v4), (5, .int v5), (6, .int v6)]) C.x C.b dX12_carried_137 hl (k := 6) rfl rfl (by decide) rfl (fun ls hl => ?_)
        refine lv_goto (tgt := 89) C.x C.b dX12_carried_140 (by decide) ?_
        exact h p l e s m args below meth c D cA base g C hr htb _ _ G ls (lv_sub hl [3, 1, 4, 5, 6, 0] rfl)
      · have h := h.2 hc
        refine lv_iload C.x C.b dX12_carried_124 (lv_at hl 0 rfl) ?_
        refine lv_iload_n C.x C.b dX12_carried_126 rfl (lv_at hl 2 rfl) ?_
        refine lv_icmp_ge (tgt := 135) C.x C.b dX12_carried_127 (by decide) (fun hc => ?_) (fun hc => ?_)
        · have h := h.1 hc
          refine lv_iload_n C.x C.b dX12_carried_135 rfl (lv_at hl 2 rfl) ?_
          refine lv_istore_n (lv' := [(3, .int v3), (8, .int r4), (0, .ref (g 11 0)), (4, .int v4), (5, .int v5), (6, .int v6), (7, .int v7)]) C.x C.b dX12_carried_136 rfl hl (by decide) rfl (fun ls hl => ?_)
          refine lv_iinc (v := v7 + 1) (lv' := [(7, .int (v7 + 1)), (3, .int v3), (8, .int r4), (0, .ref (g 11 0)), (4, .int v4), (5, .int v5), (6, .int v6)]) C.x C.b dX12_carried_137 hl (k := 6) rfl rfl (by decide) rfl (fun ls hl => ?_)
          refine lv_goto (tgt := 89) C.x C.b dX12_carried_140 (by decide) ?_
          exact h p l e s m args below meth c D cA base g C hr htb _ _ G ls (lv_sub hl [3, 1, 4, 5, 6, 0] rfl)
        · have h := h.2 hc
          refine lv_iload C.x C.b dX12_carried_130 (lv_at hl 0 rfl) ?_
          refine lv_goto (tgt := 136) C.x C.b dX12_carried_132 (by decide) ?_
          refine lv_istore_n (lv' := [(3, .int r4), (8, .int r4), (0, .ref (g 11 0)), (4, .int v4), (5, .int v5), (6, .int v6), (7, .int v7)]) C.x C.b dX12_carried_136 rfl hl (by decide) rfl (fun ls hl => ?_)
          refine lv_iinc (v := v7 + 1) (lv' := [(7, .int (v7 + 1)), (3, .int r4), (8, .int r4), (0, .ref (g 11 0)), (4, .int v4), (5, .int v5), (6, .int v6)]) C.x C.b dX12_carried_137 hl (k := 6) rfl rfl (by decide) rfl (fun ls hl => ?_)
          refine lv_goto (tgt := 89) C.x C.b dX12_carried_140 (by decide) ?_
          exact h p l e s m args below meth c D cA base g C hr htb _ _ G ls (lv_sub hl [3, 1, 4, 5, 6, 0] rfl)

theorem en_X12_reads {v1 : Int32} {v2 : Int32} {M : jM} {Q : Int32 → Nat → jM → Prop} (h : at_X12_reads_0 v1 v2 M Q) : ok_X12_reads v1 v2 M Q := jr_enter (by decide) (fun g => rfl) (fun g => Nat.le_of_ble_eq_true rfl) h
set_option maxHeartbeats 4000000 in
set_option maxRecDepth 100000 in
theorem bl_X12_reads_0 (v1 : Int32) (v2 : Int32) (M : jM) (Q : Int32 → Nat → jM → Prop) 
  (h : (∀ M1 : jM, M1 = jup M 11 0 7 0 → ((0 ≤ v1 ∧ v1 ≤ 2) → ((0 ≤ v2 ∧ v2 ≤ 2) → ok_X12_setOf v1 M1 (fun r8 _ M9 => jnb M9 = jnb M1 ∧ (∀ M10 : jM, M10 = jup M9 11 0 27 0 → (∀ M11 : jM, M11 = jup M10 11 0 28 0 → ok_X12_hitsIn r8 M11 (fun r12 _ M13 => jnb M13 = jnb M11 ∧ (v2 = 0 → Q (M13 11 0 27) 0 M13) ∧ (¬ (v2 = 0) → (v2 = 1 → Q r12 0 M13) ∧ (¬ (v2 = 1) → Q (M13 11 0 28) 0 M13))))))) ∧ (¬ (0 ≤ v2 ∧ v2 ≤ 2) → (∀ M15 : jM, M15 = jup M1 11 0 7 1 → Q 0 0 M15))) ∧ (¬ (0 ≤ v1 ∧ v1 ≤ 2) → (∀ M5 : jM, M5 = jup M1 11 0 7 1 → Q 0 0 M5)))) :
  at_X12_reads_0 v1 v2 M Q := by
  intro p l e s m args below meth c D cA base g C hr htb H locs G ls hl
  refine lv_aload_n C.x C.b dX12_reads_0 rfl (lv_at hl 0 rfl) ?_
  refine lv_iconst (v := 0) C.x C.b dX12_reads_1 (by decide) ?_
  refine jr_put C G jc11 7 (v := 0) (show 0 < 1 by decide) (by decide) (by decide) rfl (by decide) wd1198 rfl rfl rfl rfl dX12_reads_2 (fun H locs G => ?_)
  obtain ⟨M1, eM1⟩ : ∃ z : jM, z = jup M 11 0 7 0 := ⟨_, rfl⟩
  rw [← eM1] at G
  have h := h M1 eM1
  have nM1 : jnb M1 = jnb M := by rw [eM1]; exact jnb_up (by decide)
  refine lv_iload_n C.x C.b dX12_reads_5 rfl (lv_at hl 1 rfl) ?_
  refine lv_iconst (v := 0) C.x C.b dX12_reads_6 (by decide) ?_
  refine lv_iconst (v := 2) C.x C.b dX12_reads_7 (by decide) ?_
  refine jr_S (d' := 9) C G jm_X12_in wd1293 (sp_X12_in ⟨rfl, rfl⟩ : ok_X12_in v1 0 2 M1 (fun r _ M' => jb (0 ≤ v1 ∧ v1 ≤ 2) = r ∧ M1 = M')) rfl rfl rfl (by omega) (by decide) (by decide) ⟨rfl, rfl⟩ hl.1 (Nat.le_of_ble_eq_true rfl) dX12_reads_8 (fun r2 r2n M3 H locs hq G => ?_)
  obtain ⟨eq1, eq2⟩ := hq
  subst eq1
  subst eq2
  refine lv_if_eq (tgt := 23) C.x C.b dX12_reads_11 (by decide) (fun hc => ?_) (fun hc => ?_)
  · have h := h.2 (jb_0 hc)
    refine lv_aload_n C.x C.b dX12_reads_23 rfl (lv_at hl 0 rfl) ?_
    refine lv_iconst (v := 1) C.x C.b dX12_reads_24 (by decide) ?_
    refine jr_V (d' := 9) C G jc11 jm_X12_refuse wd1296 (sp_X12_refuse ⟨rfl, rfl⟩ : ok_X12_refuse 1 M1 (fun r _ M' => 0 = r ∧ M' = jup M1 11 0 7 1)) rfl (show 0 < 1 by decide) (by decide) rfl rfl (by omega) (by decide) (by decide) ⟨rfl, rfl⟩ hl.1 (Nat.le_of_ble_eq_true rfl) dX12_reads_25 (fun r4 r4n M5 H locs hq G => ?_)
    obtain ⟨eq1, eM5⟩ := hq
    subst eq1
    have h := h M5 eM5
    have nM5 : jnb M5 = jnb M1 := by rw [eM5]; first | exact jnb_up (by decide) | simp [jnb_up]
    exact jr_retI C hr G h (by decide) (by decide) dX12_reads_28
  · have h := h.1 (jb_1 hc)
    refine lv_iload_n C.x C.b dX12_reads_14 rfl (lv_at hl 2 rfl) ?_
    refine lv_iconst (v := 0) C.x C.b dX12_reads_15 (by decide) ?_
    refine lv_iconst (v := 2) C.x C.b dX12_reads_16 (by decide) ?_
    refine jr_S (d' := 9) C G jm_X12_in wd1293 (sp_X12_in ⟨rfl, rfl⟩ : ok_X12_in v2 0 2 M1 (fun r _ M' => jb (0 ≤ v2 ∧ v2 ≤ 2) = r ∧ M1 = M')) rfl rfl rfl (by omega) (by decide) (by decide) ⟨rfl, rfl⟩ hl.1 (Nat.le_of_ble_eq_true rfl) dX12_reads_17 (fun r6 r6n M7 H locs hq G => ?_)
    obtain ⟨eq1, eq2⟩ := hq
    subst eq1
    subst eq2
    refine lv_if_ne (tgt := 29) C.x C.b dX12_reads_20 (by decide) (fun hc => ?_) (fun hc => ?_)
    · have h := h.1 (jb_1 hc)
      refine lv_aload_n C.x C.b dX12_reads_29 rfl (lv_at hl 0 rfl) ?_
      refine lv_iload_n C.x C.b dX12_reads_30 rfl (lv_at hl 1 rfl) ?_
      refine jr_V (d' := 9) C G jc11 jm_X12_setOf wd1514 h rfl (show 0 < 1 by decide) (by decide) rfl rfl (by omega) (by decide) (by decide) ⟨rfl, rfl⟩ hl.1 (Nat.le_of_ble_eq_true rfl) dX12_reads_31 (fun r8 r8n M9 H locs h G => ?_)
      obtain ⟨nM9, h⟩ := h
      refine lv_istore_n (lv' := [(3, .int r8), (0, .ref (g 11 0)), (1, .int v1), (2, .int v2)]) C.x C.b dX12_reads_34 rfl hl (by decide) rfl (fun ls hl => ?_)
      refine lv_aload_n C.x C.b dX12_reads_35 rfl (lv_at hl 1 rfl) ?_
      refine lv_iconst (v := 0) C.x C.b dX12_reads_36 (by decide) ?_
      refine jr_put C G jc11 27 (v := 0) (show 0 < 1 by decide) (by decide) (by decide) rfl (by decide) wd1218 rfl rfl rfl rfl dX12_reads_37 (fun H locs G => ?_)
      obtain ⟨M10, eM10⟩ : ∃ z : jM, z = jup M9 11 0 27 0 := ⟨_, rfl⟩
      rw [← eM10] at G
      have h := h M10 eM10
      have nM10 : jnb M10 = jnb M9 := by rw [eM10]; exact jnb_up (by decide)
      refine lv_aload_n C.x C.b dX12_reads_40 rfl (lv_at hl 1 rfl) ?_
      refine lv_iconst (v := 0) C.x C.b dX12_reads_41 (by decide) ?_
      refine jr_put C G jc11 28 (v := 0) (show 0 < 1 by decide) (by decide) (by decide) rfl (by decide) wd1219 rfl rfl rfl rfl dX12_reads_42 (fun H locs G => ?_)
      obtain ⟨M11, eM11⟩ : ∃ z : jM, z = jup M10 11 0 28 0 := ⟨_, rfl⟩
      rw [← eM11] at G
      have h := h M11 eM11
      have nM11 : jnb M11 = jnb M10 := by rw [eM11]; exact jnb_up (by decide)
      refine lv_aload_n C.x C.b dX12_reads_45 rfl (lv_at hl 1 rfl) ?_
      refine lv_iload_n C.x C.b dX12_reads_46 rfl (lv_at hl 0 rfl) ?_
      refine jr_V (d' := 9) C G jc11 jm_X12_hitsIn wd1526 h rfl (show 0 < 1 by decide) (by decide) rfl rfl (by omega) (by decide) (by decide) ⟨rfl, rfl⟩ hl.1 (Nat.le_of_ble_eq_true rfl) dX12_reads_47 (fun r12 r12n M13 H locs h G => ?_)
      obtain ⟨nM13, h⟩ := h
      refine lv_istore (lv' := [(4, .int r12), (3, .int r8), (0, .ref (g 11 0)), (1, .int v1), (2, .int v2)]) C.x C.b dX12_reads_50 hl (by decide) rfl (fun ls hl => ?_)
      refine lv_iload_n C.x C.b dX12_reads_52 rfl (lv_at hl 4 rfl) ?_
      refine lv_if_ne (tgt := 63) C.x C.b dX12_reads_53 (by decide) (fun hc => ?_) (fun hc => ?_)
      · have h := h.2 hc
        refine lv_iload_n C.x C.b dX12_reads_63 rfl (lv_at hl 4 rfl) ?_
        refine lv_iconst (v := 1) C.x C.b dX12_reads_64 (by decide) ?_
        refine lv_icmp_ne (tgt := 73) C.x C.b dX12_reads_65 (by decide) (fun hc => ?_) (fun hc => ?_)
        · have h := h.2 hc
          refine lv_aload_n C.x C.b dX12_reads_73 rfl (lv_at hl 2 rfl) ?_
          refine jr_get C G jc11 28 (v := .int (M13 11 0 28)) (show 0 < 1 by decide) (by decide) (by decide) rfl wd1219 dX12_reads_74 ?_
          exact jr_retI C hr G h (by decide) (by decide) dX12_reads_77
        · have h := h.1 hc
          refine lv_iload C.x C.b dX12_reads_68 (lv_at hl 0 rfl) ?_
          refine lv_goto (tgt := 77) C.x C.b dX12_reads_70 (by decide) ?_
          exact jr_retI C hr G h (by decide) (by decide) dX12_reads_77
      · have h := h.1 hc
        refine lv_aload_n C.x C.b dX12_reads_56 rfl (lv_at hl 2 rfl) ?_
        refine jr_get C G jc11 27 (v := .int (M13 11 0 27)) (show 0 < 1 by decide) (by decide) (by decide) rfl wd1218 dX12_reads_57 ?_
        refine lv_goto (tgt := 77) C.x C.b dX12_reads_60 (by decide) ?_
        exact jr_retI C hr G h (by decide) (by decide) dX12_reads_77
    · have h := h.2 (jb_0 hc)
      refine lv_aload_n C.x C.b dX12_reads_23 rfl (lv_at hl 0 rfl) ?_
      refine lv_iconst (v := 1) C.x C.b dX12_reads_24 (by decide) ?_
      refine jr_V (d' := 9) C G jc11 jm_X12_refuse wd1296 (sp_X12_refuse ⟨rfl, rfl⟩ : ok_X12_refuse 1 M1 (fun r _ M' => 0 = r ∧ M' = jup M1 11 0 7 1)) rfl (show 0 < 1 by decide) (by decide) rfl rfl (by omega) (by decide) (by decide) ⟨rfl, rfl⟩ hl.1 (Nat.le_of_ble_eq_true rfl) dX12_reads_25 (fun r14 r14n M15 H locs hq G => ?_)
      obtain ⟨eq1, eM15⟩ := hq
      subst eq1
      have h := h M15 eM15
      have nM15 : jnb M15 = jnb M1 := by rw [eM15]; first | exact jnb_up (by decide) | simp [jnb_up]
      exact jr_retI C hr G h (by decide) (by decide) dX12_reads_28

theorem en_X12_run {v1 : Int32} {M : jM} {Q : Int32 → Nat → jM → Prop} (h : at_X12_run_0 v1 M Q) : ok_X12_run v1 M Q := jr_enter (by decide) (fun g => rfl) (fun g => Nat.le_of_ble_eq_true rfl) h
set_option maxHeartbeats 4000000 in
set_option maxRecDepth 100000 in
theorem bl_X12_run_0 (v1 : Int32) (M : jM) (Q : Int32 → Nat → jM → Prop) 
  (h : ((0 ≤ v1 ∧ v1 ≤ 2) → (∀ M8 : jM, M8 = jup M 11 0 7 0 → ((M8 11 0 7) ≤ 0 → ok_X12_setOf v1 M8 (fun r9 _ M10 => jnb M10 = jnb M8 ∧ ok_X12_runs r9 M10 (fun _ _ M12 => jnb M12 = jnb M10 ∧ at_X12_run_41 7 0 M12 Q))) ∧ (¬ ((M8 11 0 7) ≤ 0) → Q 0 0 M8))) ∧ (¬ (0 ≤ v1 ∧ v1 ≤ 2) → (∀ M3 : jM, M3 = jup M 11 0 7 1 → ((M3 11 0 7) ≤ 0 → ok_X12_setOf v1 M3 (fun r4 _ M5 => jnb M5 = jnb M3 ∧ ok_X12_runs r4 M5 (fun _ _ M7 => jnb M7 = jnb M5 ∧ at_X12_run_41 7 0 M7 Q))) ∧ (¬ ((M3 11 0 7) ≤ 0) → Q 0 0 M3)))) :
  at_X12_run_0 v1 M Q := by
  intro p l e s m args below meth c D cA base g C hr htb H locs G ls hl
  refine lv_aload_n C.x C.b dX12_run_0 rfl (lv_at hl 0 rfl) ?_
  refine lv_iload_n C.x C.b dX12_run_1 rfl (lv_at hl 1 rfl) ?_
  refine lv_iconst (v := 0) C.x C.b dX12_run_2 (by decide) ?_
  refine lv_iconst (v := 2) C.x C.b dX12_run_3 (by decide) ?_
  refine jr_S (d' := 9) C G jm_X12_in wd1293 (sp_X12_in ⟨rfl, rfl⟩ : ok_X12_in v1 0 2 M (fun r _ M' => jb (0 ≤ v1 ∧ v1 ≤ 2) = r ∧ M = M')) rfl rfl rfl (by omega) (by decide) (by decide) ⟨rfl, rfl⟩ hl.1 (Nat.le_of_ble_eq_true rfl) dX12_run_4 (fun r1 r1n M2 H locs hq G => ?_)
  obtain ⟨eq1, eq2⟩ := hq
  subst eq1
  subst eq2
  refine lv_if_eq (tgt := 14) C.x C.b dX12_run_7 (by decide) (fun hc => ?_) (fun hc => ?_)
  · have h := h.2 (jb_0 hc)
    refine lv_iconst (v := 1) C.x C.b dX12_run_14 (by decide) ?_
    refine jr_put C G jc11 7 (v := 1) (show 0 < 1 by decide) (by decide) (by decide) rfl (by decide) wd1198 rfl rfl rfl rfl dX12_run_15 (fun H locs G => ?_)
    obtain ⟨M3, eM3⟩ : ∃ z : jM, z = jup M 11 0 7 1 := ⟨_, rfl⟩
    rw [← eM3] at G
    have h := h M3 eM3
    have nM3 : jnb M3 = jnb M := by rw [eM3]; exact jnb_up (by decide)
    refine lv_aload_n C.x C.b dX12_run_18 rfl (lv_at hl 0 rfl) ?_
    refine jr_get C G jc11 7 (v := .int (M3 11 0 7)) (show 0 < 1 by decide) (by decide) (by decide) rfl wd1198 dX12_run_19 ?_
    refine lv_if_le (tgt := 27) C.x C.b dX12_run_22 (by decide) (fun hc => ?_) (fun hc => ?_)
    · have h := h.1 hc
      refine lv_aload_n C.x C.b dX12_run_27 rfl (lv_at hl 0 rfl) ?_
      refine lv_aload_n C.x C.b dX12_run_28 rfl (lv_at hl 0 rfl) ?_
      refine lv_iload_n C.x C.b dX12_run_29 rfl (lv_at hl 1 rfl) ?_
      refine jr_V (d' := 9) C G jc11 jm_X12_setOf wd1514 h rfl (show 0 < 1 by decide) (by decide) rfl rfl (by omega) (by decide) (by decide) ⟨rfl, rfl⟩ hl.1 (Nat.le_of_ble_eq_true rfl) dX12_run_30 (fun r4 r4n M5 H locs h G => ?_)
      obtain ⟨nM5, h⟩ := h
      refine jr_V (d' := 9) C G jc11 jm_X12_runs wd1592 h rfl (show 0 < 1 by decide) (by decide) rfl rfl (by omega) (by decide) (by decide) ⟨rfl, rfl⟩ hl.1 (Nat.le_of_ble_eq_true rfl) dX12_run_33 (fun r6 r6n M7 H locs h G => ?_)
      obtain ⟨nM7, h⟩ := h
      refine lv_bipush (v := 7) C.x C.b dX12_run_36 (by decide) ?_
      refine lv_istore_n (lv' := [(2, .int 7), (0, .ref (g 11 0)), (1, .int v1)]) C.x C.b dX12_run_38 rfl hl (by decide) rfl (fun ls hl => ?_)
      refine lv_iconst (v := 0) C.x C.b dX12_run_39 (by decide) ?_
      refine lv_istore_n (lv' := [(3, .int 0), (2, .int 7), (0, .ref (g 11 0)), (1, .int v1)]) C.x C.b dX12_run_40 rfl hl (by decide) rfl (fun ls hl => ?_)
      exact h p l e s m args below meth c D cA base g C hr htb _ _ G ls (lv_sub hl [2, 1, 0] rfl)
    · have h := h.2 hc
      refine lv_iconst (v := 0) C.x C.b dX12_run_25 (by decide) ?_
      exact jr_retI C hr G h (by decide) (by decide) dX12_run_26
  · have h := h.1 (jb_1 hc)
    refine lv_iconst (v := 0) C.x C.b dX12_run_10 (by decide) ?_
    refine lv_goto (tgt := 15) C.x C.b dX12_run_11 (by decide) ?_
    refine jr_put C G jc11 7 (v := 0) (show 0 < 1 by decide) (by decide) (by decide) rfl (by decide) wd1198 rfl rfl rfl rfl dX12_run_15 (fun H locs G => ?_)
    obtain ⟨M8, eM8⟩ : ∃ z : jM, z = jup M 11 0 7 0 := ⟨_, rfl⟩
    rw [← eM8] at G
    have h := h M8 eM8
    have nM8 : jnb M8 = jnb M := by rw [eM8]; exact jnb_up (by decide)
    refine lv_aload_n C.x C.b dX12_run_18 rfl (lv_at hl 0 rfl) ?_
    refine jr_get C G jc11 7 (v := .int (M8 11 0 7)) (show 0 < 1 by decide) (by decide) (by decide) rfl wd1198 dX12_run_19 ?_
    refine lv_if_le (tgt := 27) C.x C.b dX12_run_22 (by decide) (fun hc => ?_) (fun hc => ?_)
    · have h := h.1 hc
      refine lv_aload_n C.x C.b dX12_run_27 rfl (lv_at hl 0 rfl) ?_
      refine lv_aload_n C.x C.b dX12_run_28 rfl (lv_at hl 0 rfl) ?_
      refine lv_iload_n C.x C.b dX12_run_29 rfl (lv_at hl 1 rfl) ?_
      refine jr_V (d' := 9) C G jc11 jm_X12_setOf wd1514 h rfl (show 0 < 1 by decide) (by decide) rfl rfl (by omega) (by decide) (by decide) ⟨rfl, rfl⟩ hl.1 (Nat.le_of_ble_eq_true rfl) dX12_run_30 (fun r9 r9n M10 H locs h G => ?_)
      obtain ⟨nM10, h⟩ := h
      refine jr_V (d' := 9) C G jc11 jm_X12_runs wd1592 h rfl (show 0 < 1 by decide) (by decide) rfl rfl (by omega) (by decide) (by decide) ⟨rfl, rfl⟩ hl.1 (Nat.le_of_ble_eq_true rfl) dX12_run_33 (fun r11 r11n M12 H locs h G => ?_)
      obtain ⟨nM12, h⟩ := h
      refine lv_bipush (v := 7) C.x C.b dX12_run_36 (by decide) ?_
      refine lv_istore_n (lv' := [(2, .int 7), (0, .ref (g 11 0)), (1, .int v1)]) C.x C.b dX12_run_38 rfl hl (by decide) rfl (fun ls hl => ?_)
      refine lv_iconst (v := 0) C.x C.b dX12_run_39 (by decide) ?_
      refine lv_istore_n (lv' := [(3, .int 0), (2, .int 7), (0, .ref (g 11 0)), (1, .int v1)]) C.x C.b dX12_run_40 rfl hl (by decide) rfl (fun ls hl => ?_)
      exact h p l e s m args below meth c D cA base g C hr htb _ _ G ls (lv_sub hl [2, 1, 0] rfl)
    · have h := h.2 hc
      refine lv_iconst (v := 0) C.x C.b dX12_run_25 (by decide) ?_
      exact jr_retI C hr G h (by decide) (by decide) dX12_run_26
set_option maxHeartbeats 4000000 in
set_option maxRecDepth 100000 in
theorem bl_X12_run_41 (v2 : Int32) (v3 : Int32) (M : jM) (Q : Int32 → Nat → jM → Prop) 
  (h : (245 ≤ v3 → Q v2 0 M) ∧ (¬ (245 ≤ v3) → vp_in v3 245 ∧ at_X12_run_41 ((31 * v2) + (M 58 0 v3.toNatClampNeg)) (v3 + 1) M Q)) :
  at_X12_run_41 v2 v3 M Q := by
  intro p l e s m args below meth c D cA base g C hr htb H locs G ls hl
  refine lv_iload_n C.x C.b dX12_run_41 rfl (lv_at hl 2 rfl) ?_
  refine lv_sipush (v := 245) C.x C.b dX12_run_42 (by decide) ?_
  refine lv_icmp_ge (tgt := 66) C.x C.b dX12_run_45 (by decide) (fun hc => ?_) (fun hc => ?_)
  · have h := h.1 hc
    refine lv_iload_n C.x C.b dX12_run_66 rfl (lv_at hl 1 rfl) ?_
    exact jr_retI C hr G h (by decide) (by decide) dX12_run_67
  · have h := h.2 hc
    refine lv_bipush (v := 31) C.x C.b dX12_run_48 (by decide) ?_
    refine lv_iload_n C.x C.b dX12_run_50 rfl (lv_at hl 1 rfl) ?_
    refine lv_imul C.x C.b dX12_run_51 ?_
    refine lv_aload_n C.x C.b dX12_run_52 rfl (lv_at hl 0 rfl) ?_
    refine jr_get C G jc11 21 (v := .ref (g 58 0)) (show 0 < 1 by decide) (by decide) (by decide) rfl wd1212 dX12_run_53 ?_
    refine lv_iload_n C.x C.b dX12_run_56 rfl (lv_at hl 2 rfl) ?_
    obtain ⟨hs, h⟩ := h
    refine jr_ald C G (show 0 < 1 by decide) (by decide) (by decide) (by decide) rfl rfl hs dX12_run_57 ?_
    refine lv_iadd C.x C.b dX12_run_58 ?_
    refine lv_istore_n (lv' := [(2, .int ((31 * v2) + (M 58 0 v3.toNatClampNeg))), (0, .ref (g 11 0)), (3, .int v3)]) C.x C.b dX12_run_59 rfl hl (by decide) rfl (fun ls hl => ?_)
    refine lv_iinc (v := v3 + 1) (lv' := [(3, .int (v3 + 1)), (2, .int ((31 * v2) + (M 58 0 v3.toNatClampNeg))), (0, .ref (g 11 0))]) C.x C.b dX12_run_60 hl (k := 2) rfl rfl (by decide) rfl (fun ls hl => ?_)
    refine lv_goto (tgt := 41) C.x C.b dX12_run_63 (by decide) ?_
    exact h p l e s m args below meth c D cA base g C hr htb _ _ G ls (lv_sub hl [2, 1, 0] rfl)

theorem en_X12_cell {v1 : Int32} {v2 : Int32} {v3 : Int32} {M : jM} {Q : Int32 → Nat → jM → Prop} (h : at_X12_cell_0 v1 v2 v3 M Q) : ok_X12_cell v1 v2 v3 M Q := jr_enter (by decide) (fun g => rfl) (fun g => Nat.le_of_ble_eq_true rfl) h
set_option maxHeartbeats 4000000 in
set_option maxRecDepth 100000 in
theorem bl_X12_cell_0 (v1 : Int32) (v2 : Int32) (v3 : Int32) (M : jM) (Q : Int32 → Nat → jM → Prop) 
  (h : ((0 ≤ v1 ∧ v1 ≤ 2) → ((0 ≤ v2 ∧ v2 ≤ 4) → (((-9) ≤ v3 ∧ v3 ≤ 39) → (∀ M12 : jM, M12 = jup M 11 0 7 0 → ((M12 11 0 7) ≤ 0 → ok_X12_setOf v1 M12 (fun r13 _ M14 => jnb M14 = jnb M12 ∧ ok_X12_runs r13 M14 (fun _ _ M16 => jnb M16 = jnb M14 ∧ vp_in (((49 * v2) + v3) + 9) 245 ∧ Q (M16 58 0 (((49 * v2) + v3) + 9).toNatClampNeg) 0 M16))) ∧ (¬ ((M12 11 0 7) ≤ 0) → Q 0 0 M12))) ∧ (¬ ((-9) ≤ v3 ∧ v3 ≤ 39) → (∀ M17 : jM, M17 = jup M 11 0 7 2 → ((M17 11 0 7) ≤ 0 → ok_X12_setOf v1 M17 (fun r18 _ M19 => jnb M19 = jnb M17 ∧ ok_X12_runs r18 M19 (fun _ _ M21 => jnb M21 = jnb M19 ∧ vp_in (((49 * v2) + v3) + 9) 245 ∧ Q (M21 58 0 (((49 * v2) + v3) + 9).toNatClampNeg) 0 M21))) ∧ (¬ ((M17 11 0 7) ≤ 0) → Q 0 0 M17)))) ∧ (¬ (0 ≤ v2 ∧ v2 ≤ 4) → (∀ M5 : jM, M5 = jup M 11 0 7 2 → ((M5 11 0 7) ≤ 0 → ok_X12_setOf v1 M5 (fun r6 _ M7 => jnb M7 = jnb M5 ∧ ok_X12_runs r6 M7 (fun _ _ M9 => jnb M9 = jnb M7 ∧ vp_in (((49 * v2) + v3) + 9) 245 ∧ Q (M9 58 0 (((49 * v2) + v3) + 9).toNatClampNeg) 0 M9))) ∧ (¬ ((M5 11 0 7) ≤ 0) → Q 0 0 M5)))) ∧ (¬ (0 ≤ v1 ∧ v1 ≤ 2) → (∀ M22 : jM, M22 = jup M 11 0 7 1 → ((M22 11 0 7) ≤ 0 → ok_X12_setOf v1 M22 (fun r23 _ M24 => jnb M24 = jnb M22 ∧ ok_X12_runs r23 M24 (fun _ _ M26 => jnb M26 = jnb M24 ∧ vp_in (((49 * v2) + v3) + 9) 245 ∧ Q (M26 58 0 (((49 * v2) + v3) + 9).toNatClampNeg) 0 M26))) ∧ (¬ ((M22 11 0 7) ≤ 0) → Q 0 0 M22)))) :
  at_X12_cell_0 v1 v2 v3 M Q := by
  intro p l e s m args below meth c D cA base g C hr htb H locs G ls hl
  refine lv_aload_n C.x C.b dX12_cell_0 rfl (lv_at hl 0 rfl) ?_
  refine lv_iload_n C.x C.b dX12_cell_1 rfl (lv_at hl 1 rfl) ?_
  refine lv_iconst (v := 0) C.x C.b dX12_cell_2 (by decide) ?_
  refine lv_iconst (v := 2) C.x C.b dX12_cell_3 (by decide) ?_
  refine jr_S (d' := 9) C G jm_X12_in wd1293 (sp_X12_in ⟨rfl, rfl⟩ : ok_X12_in v1 0 2 M (fun r _ M' => jb (0 ≤ v1 ∧ v1 ≤ 2) = r ∧ M = M')) rfl rfl rfl (by omega) (by decide) (by decide) ⟨rfl, rfl⟩ hl.1 (Nat.le_of_ble_eq_true rfl) dX12_cell_4 (fun r1 r1n M2 H locs hq G => ?_)
  obtain ⟨eq1, eq2⟩ := hq
  subst eq1
  subst eq2
  refine lv_if_ne (tgt := 14) C.x C.b dX12_cell_7 (by decide) (fun hc => ?_) (fun hc => ?_)
  · have h := h.1 (jb_1 hc)
    refine lv_iload_n C.x C.b dX12_cell_14 rfl (lv_at hl 2 rfl) ?_
    refine lv_iconst (v := 0) C.x C.b dX12_cell_15 (by decide) ?_
    refine lv_iconst (v := 4) C.x C.b dX12_cell_16 (by decide) ?_
    refine jr_S (d' := 9) C G jm_X12_in wd1293 (sp_X12_in ⟨rfl, rfl⟩ : ok_X12_in v2 0 4 M (fun r _ M' => jb (0 ≤ v2 ∧ v2 ≤ 4) = r ∧ M = M')) rfl rfl rfl (by omega) (by decide) (by decide) ⟨rfl, rfl⟩ hl.1 (Nat.le_of_ble_eq_true rfl) dX12_cell_17 (fun r3 r3n M4 H locs hq G => ?_)
    obtain ⟨eq1, eq2⟩ := hq
    subst eq1
    subst eq2
    refine lv_if_eq (tgt := 34) C.x C.b dX12_cell_20 (by decide) (fun hc => ?_) (fun hc => ?_)
    · have h := h.2 (jb_0 hc)
      refine lv_iconst (v := 2) C.x C.b dX12_cell_34 (by decide) ?_
      refine lv_goto (tgt := 39) C.x C.b dX12_cell_35 (by decide) ?_
      refine jr_put C G jc11 7 (v := 2) (show 0 < 1 by decide) (by decide) (by decide) rfl (by decide) wd1198 rfl rfl rfl rfl dX12_cell_39 (fun H locs G => ?_)
      obtain ⟨M5, eM5⟩ : ∃ z : jM, z = jup M 11 0 7 2 := ⟨_, rfl⟩
      rw [← eM5] at G
      have h := h M5 eM5
      have nM5 : jnb M5 = jnb M := by rw [eM5]; exact jnb_up (by decide)
      refine lv_aload_n C.x C.b dX12_cell_42 rfl (lv_at hl 0 rfl) ?_
      refine jr_get C G jc11 7 (v := .int (M5 11 0 7)) (show 0 < 1 by decide) (by decide) (by decide) rfl wd1198 dX12_cell_43 ?_
      refine lv_if_le (tgt := 51) C.x C.b dX12_cell_46 (by decide) (fun hc => ?_) (fun hc => ?_)
      · have h := h.1 hc
        refine lv_aload_n C.x C.b dX12_cell_51 rfl (lv_at hl 0 rfl) ?_
        refine lv_aload_n C.x C.b dX12_cell_52 rfl (lv_at hl 0 rfl) ?_
        refine lv_iload_n C.x C.b dX12_cell_53 rfl (lv_at hl 1 rfl) ?_
        refine jr_V (d' := 9) C G jc11 jm_X12_setOf wd1514 h rfl (show 0 < 1 by decide) (by decide) rfl rfl (by omega) (by decide) (by decide) ⟨rfl, rfl⟩ hl.1 (Nat.le_of_ble_eq_true rfl) dX12_cell_54 (fun r6 r6n M7 H locs h G => ?_)
        obtain ⟨nM7, h⟩ := h
        refine jr_V (d' := 9) C G jc11 jm_X12_runs wd1592 h rfl (show 0 < 1 by decide) (by decide) rfl rfl (by omega) (by decide) (by decide) ⟨rfl, rfl⟩ hl.1 (Nat.le_of_ble_eq_true rfl) dX12_cell_57 (fun r8 r8n M9 H locs h G => ?_)
        obtain ⟨nM9, h⟩ := h
        refine lv_aload_n C.x C.b dX12_cell_60 rfl (lv_at hl 0 rfl) ?_
        refine jr_get C G jc11 21 (v := .ref (g 58 0)) (show 0 < 1 by decide) (by decide) (by decide) rfl wd1212 dX12_cell_61 ?_
        refine lv_bipush (v := 49) C.x C.b dX12_cell_64 (by decide) ?_
        refine lv_iload_n C.x C.b dX12_cell_66 rfl (lv_at hl 2 rfl) ?_
        refine lv_imul C.x C.b dX12_cell_67 ?_
        refine lv_iload_n C.x C.b dX12_cell_68 rfl (lv_at hl 3 rfl) ?_
        refine lv_iadd C.x C.b dX12_cell_69 ?_
        refine lv_bipush (v := 9) C.x C.b dX12_cell_70 (by decide) ?_
        refine lv_iadd C.x C.b dX12_cell_72 ?_
        obtain ⟨hs, h⟩ := h
        refine jr_ald C G (show 0 < 1 by decide) (by decide) (by decide) (by decide) rfl rfl hs dX12_cell_73 ?_
        exact jr_retI C hr G h (by decide) (by decide) dX12_cell_74
      · have h := h.2 hc
        refine lv_iconst (v := 0) C.x C.b dX12_cell_49 (by decide) ?_
        exact jr_retI C hr G h (by decide) (by decide) dX12_cell_50
    · have h := h.1 (jb_1 hc)
      refine lv_iload_n C.x C.b dX12_cell_23 rfl (lv_at hl 3 rfl) ?_
      refine lv_bipush (v := (-9)) C.x C.b dX12_cell_24 (by decide) ?_
      refine lv_bipush (v := 39) C.x C.b dX12_cell_26 (by decide) ?_
      refine jr_S (d' := 9) C G jm_X12_in wd1293 (sp_X12_in ⟨rfl, rfl⟩ : ok_X12_in v3 (-9) 39 M (fun r _ M' => jb ((-9) ≤ v3 ∧ v3 ≤ 39) = r ∧ M = M')) rfl rfl rfl (by omega) (by decide) (by decide) ⟨rfl, rfl⟩ hl.1 (Nat.le_of_ble_eq_true rfl) dX12_cell_28 (fun r10 r10n M11 H locs hq G => ?_)
      obtain ⟨eq1, eq2⟩ := hq
      subst eq1
      subst eq2
      refine lv_if_ne (tgt := 38) C.x C.b dX12_cell_31 (by decide) (fun hc => ?_) (fun hc => ?_)
      · have h := h.1 (jb_1 hc)
        refine lv_iconst (v := 0) C.x C.b dX12_cell_38 (by decide) ?_
        refine jr_put C G jc11 7 (v := 0) (show 0 < 1 by decide) (by decide) (by decide) rfl (by decide) wd1198 rfl rfl rfl rfl dX12_cell_39 (fun H locs G => ?_)
        obtain ⟨M12, eM12⟩ : ∃ z : jM, z = jup M 11 0 7 0 := ⟨_, rfl⟩
        rw [← eM12] at G
        have h := h M12 eM12
        have nM12 : jnb M12 = jnb M := by rw [eM12]; exact jnb_up (by decide)
        refine lv_aload_n C.x C.b dX12_cell_42 rfl (lv_at hl 0 rfl) ?_
        refine jr_get C G jc11 7 (v := .int (M12 11 0 7)) (show 0 < 1 by decide) (by decide) (by decide) rfl wd1198 dX12_cell_43 ?_
        refine lv_if_le (tgt := 51) C.x C.b dX12_cell_46 (by decide) (fun hc => ?_) (fun hc => ?_)
        · have h := h.1 hc
          refine lv_aload_n C.x C.b dX12_cell_51 rfl (lv_at hl 0 rfl) ?_
          refine lv_aload_n C.x C.b dX12_cell_52 rfl (lv_at hl 0 rfl) ?_
          refine lv_iload_n C.x C.b dX12_cell_53 rfl (lv_at hl 1 rfl) ?_
          refine jr_V (d' := 9) C G jc11 jm_X12_setOf wd1514 h rfl (show 0 < 1 by decide) (by decide) rfl rfl (by omega) (by decide) (by decide) ⟨rfl, rfl⟩ hl.1 (Nat.le_of_ble_eq_true rfl) dX12_cell_54 (fun r13 r13n M14 H locs h G => ?_)
          obtain ⟨nM14, h⟩ := h
          refine jr_V (d' := 9) C G jc11 jm_X12_runs wd1592 h rfl (show 0 < 1 by decide) (by decide) rfl rfl (by omega) (by decide) (by decide) ⟨rfl, rfl⟩ hl.1 (Nat.le_of_ble_eq_true rfl) dX12_cell_57 (fun r15 r15n M16 H locs h G => ?_)
          obtain ⟨nM16, h⟩ := h
          refine lv_aload_n C.x C.b dX12_cell_60 rfl (lv_at hl 0 rfl) ?_
          refine jr_get C G jc11 21 (v := .ref (g 58 0)) (show 0 < 1 by decide) (by decide) (by decide) rfl wd1212 dX12_cell_61 ?_
          refine lv_bipush (v := 49) C.x C.b dX12_cell_64 (by decide) ?_
          refine lv_iload_n C.x C.b dX12_cell_66 rfl (lv_at hl 2 rfl) ?_
          refine lv_imul C.x C.b dX12_cell_67 ?_
          refine lv_iload_n C.x C.b dX12_cell_68 rfl (lv_at hl 3 rfl) ?_
          refine lv_iadd C.x C.b dX12_cell_69 ?_
          refine lv_bipush (v := 9) C.x C.b dX12_cell_70 (by decide) ?_
          refine lv_iadd C.x C.b dX12_cell_72 ?_
          obtain ⟨hs, h⟩ := h
          refine jr_ald C G (show 0 < 1 by decide) (by decide) (by decide) (by decide) rfl rfl hs dX12_cell_73 ?_
          exact jr_retI C hr G h (by decide) (by decide) dX12_cell_74
        · have h := h.2 hc
          refine lv_iconst (v := 0) C.x C.b dX12_cell_49 (by decide) ?_
          exact jr_retI C hr G h (by decide) (by decide) dX12_cell_50
      · have h := h.2 (jb_0 hc)
        refine lv_iconst (v := 2) C.x C.b dX12_cell_34 (by decide) ?_
        refine lv_goto (tgt := 39) C.x C.b dX12_cell_35 (by decide) ?_
        refine jr_put C G jc11 7 (v := 2) (show 0 < 1 by decide) (by decide) (by decide) rfl (by decide) wd1198 rfl rfl rfl rfl dX12_cell_39 (fun H locs G => ?_)
        obtain ⟨M17, eM17⟩ : ∃ z : jM, z = jup M 11 0 7 2 := ⟨_, rfl⟩
        rw [← eM17] at G
        have h := h M17 eM17
        have nM17 : jnb M17 = jnb M := by rw [eM17]; exact jnb_up (by decide)
        refine lv_aload_n C.x C.b dX12_cell_42 rfl (lv_at hl 0 rfl) ?_
        refine jr_get C G jc11 7 (v := .int (M17 11 0 7)) (show 0 < 1 by decide) (by decide) (by decide) rfl wd1198 dX12_cell_43 ?_
        refine lv_if_le (tgt := 51) C.x C.b dX12_cell_46 (by decide) (fun hc => ?_) (fun hc => ?_)
        · have h := h.1 hc
          refine lv_aload_n C.x C.b dX12_cell_51 rfl (lv_at hl 0 rfl) ?_
          refine lv_aload_n C.x C.b dX12_cell_52 rfl (lv_at hl 0 rfl) ?_
          refine lv_iload_n C.x C.b dX12_cell_53 rfl (lv_at hl 1 rfl) ?_
          refine jr_V (d' := 9) C G jc11 jm_X12_setOf wd1514 h rfl (show 0 < 1 by decide) (by decide) rfl rfl (by omega) (by decide) (by decide) ⟨rfl, rfl⟩ hl.1 (Nat.le_of_ble_eq_true rfl) dX12_cell_54 (fun r18 r18n M19 H locs h G => ?_)
          obtain ⟨nM19, h⟩ := h
          refine jr_V (d' := 9) C G jc11 jm_X12_runs wd1592 h rfl (show 0 < 1 by decide) (by decide) rfl rfl (by omega) (by decide) (by decide) ⟨rfl, rfl⟩ hl.1 (Nat.le_of_ble_eq_true rfl) dX12_cell_57 (fun r20 r20n M21 H locs h G => ?_)
          obtain ⟨nM21, h⟩ := h
          refine lv_aload_n C.x C.b dX12_cell_60 rfl (lv_at hl 0 rfl) ?_
          refine jr_get C G jc11 21 (v := .ref (g 58 0)) (show 0 < 1 by decide) (by decide) (by decide) rfl wd1212 dX12_cell_61 ?_
          refine lv_bipush (v := 49) C.x C.b dX12_cell_64 (by decide) ?_
          refine lv_iload_n C.x C.b dX12_cell_66 rfl (lv_at hl 2 rfl) ?_
          refine lv_imul C.x C.b dX12_cell_67 ?_
          refine lv_iload_n C.x C.b dX12_cell_68 rfl (lv_at hl 3 rfl) ?_
          refine lv_iadd C.x C.b dX12_cell_69 ?_
          refine lv_bipush (v := 9) C.x C.b dX12_cell_70 (by decide) ?_
          refine lv_iadd C.x C.b dX12_cell_72 ?_
          obtain ⟨hs, h⟩ := h
          refine jr_ald C G (show 0 < 1 by decide) (by decide) (by decide) (by decide) rfl rfl hs dX12_cell_73 ?_
          exact jr_retI C hr G h (by decide) (by decide) dX12_cell_74
        · have h := h.2 hc
          refine lv_iconst (v := 0) C.x C.b dX12_cell_49 (by decide) ?_
          exact jr_retI C hr G h (by decide) (by decide) dX12_cell_50
  · have h := h.2 (jb_0 hc)
    refine lv_iconst (v := 1) C.x C.b dX12_cell_10 (by decide) ?_
    refine lv_goto (tgt := 39) C.x C.b dX12_cell_11 (by decide) ?_
    refine jr_put C G jc11 7 (v := 1) (show 0 < 1 by decide) (by decide) (by decide) rfl (by decide) wd1198 rfl rfl rfl rfl dX12_cell_39 (fun H locs G => ?_)
    obtain ⟨M22, eM22⟩ : ∃ z : jM, z = jup M 11 0 7 1 := ⟨_, rfl⟩
    rw [← eM22] at G
    have h := h M22 eM22
    have nM22 : jnb M22 = jnb M := by rw [eM22]; exact jnb_up (by decide)
    refine lv_aload_n C.x C.b dX12_cell_42 rfl (lv_at hl 0 rfl) ?_
    refine jr_get C G jc11 7 (v := .int (M22 11 0 7)) (show 0 < 1 by decide) (by decide) (by decide) rfl wd1198 dX12_cell_43 ?_
    refine lv_if_le (tgt := 51) C.x C.b dX12_cell_46 (by decide) (fun hc => ?_) (fun hc => ?_)
    · have h := h.1 hc
      refine lv_aload_n C.x C.b dX12_cell_51 rfl (lv_at hl 0 rfl) ?_
      refine lv_aload_n C.x C.b dX12_cell_52 rfl (lv_at hl 0 rfl) ?_
      refine lv_iload_n C.x C.b dX12_cell_53 rfl (lv_at hl 1 rfl) ?_
      refine jr_V (d' := 9) C G jc11 jm_X12_setOf wd1514 h rfl (show 0 < 1 by decide) (by decide) rfl rfl (by omega) (by decide) (by decide) ⟨rfl, rfl⟩ hl.1 (Nat.le_of_ble_eq_true rfl) dX12_cell_54 (fun r23 r23n M24 H locs h G => ?_)
      obtain ⟨nM24, h⟩ := h
      refine jr_V (d' := 9) C G jc11 jm_X12_runs wd1592 h rfl (show 0 < 1 by decide) (by decide) rfl rfl (by omega) (by decide) (by decide) ⟨rfl, rfl⟩ hl.1 (Nat.le_of_ble_eq_true rfl) dX12_cell_57 (fun r25 r25n M26 H locs h G => ?_)
      obtain ⟨nM26, h⟩ := h
      refine lv_aload_n C.x C.b dX12_cell_60 rfl (lv_at hl 0 rfl) ?_
      refine jr_get C G jc11 21 (v := .ref (g 58 0)) (show 0 < 1 by decide) (by decide) (by decide) rfl wd1212 dX12_cell_61 ?_
      refine lv_bipush (v := 49) C.x C.b dX12_cell_64 (by decide) ?_
      refine lv_iload_n C.x C.b dX12_cell_66 rfl (lv_at hl 2 rfl) ?_
      refine lv_imul C.x C.b dX12_cell_67 ?_
      refine lv_iload_n C.x C.b dX12_cell_68 rfl (lv_at hl 3 rfl) ?_
      refine lv_iadd C.x C.b dX12_cell_69 ?_
      refine lv_bipush (v := 9) C.x C.b dX12_cell_70 (by decide) ?_
      refine lv_iadd C.x C.b dX12_cell_72 ?_
      obtain ⟨hs, h⟩ := h
      refine jr_ald C G (show 0 < 1 by decide) (by decide) (by decide) (by decide) rfl rfl hs dX12_cell_73 ?_
      exact jr_retI C hr G h (by decide) (by decide) dX12_cell_74
    · have h := h.2 hc
      refine lv_iconst (v := 0) C.x C.b dX12_cell_49 (by decide) ?_
      exact jr_retI C hr G h (by decide) (by decide) dX12_cell_50

theorem en_X12_changed {v1 : Int32} {M : jM} {Q : Int32 → Nat → jM → Prop} (h : at_X12_changed_0 v1 M Q) : ok_X12_changed v1 M Q := jr_enter (by decide) (fun g => rfl) (fun g => Nat.le_of_ble_eq_true rfl) h
set_option maxHeartbeats 4000000 in
set_option maxRecDepth 100000 in
theorem bl_X12_changed_0 (v1 : Int32) (M : jM) (Q : Int32 → Nat → jM → Prop) 
  (h : ((0 ≤ v1 ∧ v1 ≤ 2) → (∀ M8 : jM, M8 = jup M 11 0 7 0 → ((M8 11 0 7) ≤ 0 → ok_X12_setOf v1 M8 (fun r9 _ M10 => jnb M10 = jnb M8 ∧ ok_X12_runs r9 M10 (fun _ _ M12 => jnb M12 = jnb M10 ∧ at_X12_changed_40 0 0 M12 Q))) ∧ (¬ ((M8 11 0 7) ≤ 0) → Q 0 0 M8))) ∧ (¬ (0 ≤ v1 ∧ v1 ≤ 2) → (∀ M3 : jM, M3 = jup M 11 0 7 1 → ((M3 11 0 7) ≤ 0 → ok_X12_setOf v1 M3 (fun r4 _ M5 => jnb M5 = jnb M3 ∧ ok_X12_runs r4 M5 (fun _ _ M7 => jnb M7 = jnb M5 ∧ at_X12_changed_40 0 0 M7 Q))) ∧ (¬ ((M3 11 0 7) ≤ 0) → Q 0 0 M3)))) :
  at_X12_changed_0 v1 M Q := by
  intro p l e s m args below meth c D cA base g C hr htb H locs G ls hl
  refine lv_aload_n C.x C.b dX12_changed_0 rfl (lv_at hl 0 rfl) ?_
  refine lv_iload_n C.x C.b dX12_changed_1 rfl (lv_at hl 1 rfl) ?_
  refine lv_iconst (v := 0) C.x C.b dX12_changed_2 (by decide) ?_
  refine lv_iconst (v := 2) C.x C.b dX12_changed_3 (by decide) ?_
  refine jr_S (d' := 9) C G jm_X12_in wd1293 (sp_X12_in ⟨rfl, rfl⟩ : ok_X12_in v1 0 2 M (fun r _ M' => jb (0 ≤ v1 ∧ v1 ≤ 2) = r ∧ M = M')) rfl rfl rfl (by omega) (by decide) (by decide) ⟨rfl, rfl⟩ hl.1 (Nat.le_of_ble_eq_true rfl) dX12_changed_4 (fun r1 r1n M2 H locs hq G => ?_)
  obtain ⟨eq1, eq2⟩ := hq
  subst eq1
  subst eq2
  refine lv_if_eq (tgt := 14) C.x C.b dX12_changed_7 (by decide) (fun hc => ?_) (fun hc => ?_)
  · have h := h.2 (jb_0 hc)
    refine lv_iconst (v := 1) C.x C.b dX12_changed_14 (by decide) ?_
    refine jr_put C G jc11 7 (v := 1) (show 0 < 1 by decide) (by decide) (by decide) rfl (by decide) wd1198 rfl rfl rfl rfl dX12_changed_15 (fun H locs G => ?_)
    obtain ⟨M3, eM3⟩ : ∃ z : jM, z = jup M 11 0 7 1 := ⟨_, rfl⟩
    rw [← eM3] at G
    have h := h M3 eM3
    have nM3 : jnb M3 = jnb M := by rw [eM3]; exact jnb_up (by decide)
    refine lv_aload_n C.x C.b dX12_changed_18 rfl (lv_at hl 0 rfl) ?_
    refine jr_get C G jc11 7 (v := .int (M3 11 0 7)) (show 0 < 1 by decide) (by decide) (by decide) rfl wd1198 dX12_changed_19 ?_
    refine lv_if_le (tgt := 27) C.x C.b dX12_changed_22 (by decide) (fun hc => ?_) (fun hc => ?_)
    · have h := h.1 hc
      refine lv_aload_n C.x C.b dX12_changed_27 rfl (lv_at hl 0 rfl) ?_
      refine lv_aload_n C.x C.b dX12_changed_28 rfl (lv_at hl 0 rfl) ?_
      refine lv_iload_n C.x C.b dX12_changed_29 rfl (lv_at hl 1 rfl) ?_
      refine jr_V (d' := 9) C G jc11 jm_X12_setOf wd1514 h rfl (show 0 < 1 by decide) (by decide) rfl rfl (by omega) (by decide) (by decide) ⟨rfl, rfl⟩ hl.1 (Nat.le_of_ble_eq_true rfl) dX12_changed_30 (fun r4 r4n M5 H locs h G => ?_)
      obtain ⟨nM5, h⟩ := h
      refine jr_V (d' := 9) C G jc11 jm_X12_runs wd1592 h rfl (show 0 < 1 by decide) (by decide) rfl rfl (by omega) (by decide) (by decide) ⟨rfl, rfl⟩ hl.1 (Nat.le_of_ble_eq_true rfl) dX12_changed_33 (fun r6 r6n M7 H locs h G => ?_)
      obtain ⟨nM7, h⟩ := h
      refine lv_iconst (v := 0) C.x C.b dX12_changed_36 (by decide) ?_
      refine lv_istore_n (lv' := [(2, .int 0), (0, .ref (g 11 0)), (1, .int v1)]) C.x C.b dX12_changed_37 rfl hl (by decide) rfl (fun ls hl => ?_)
      refine lv_iconst (v := 0) C.x C.b dX12_changed_38 (by decide) ?_
      refine lv_istore_n (lv' := [(3, .int 0), (2, .int 0), (0, .ref (g 11 0)), (1, .int v1)]) C.x C.b dX12_changed_39 rfl hl (by decide) rfl (fun ls hl => ?_)
      exact h p l e s m args below meth c D cA base g C hr htb _ _ G ls (lv_sub hl [2, 1, 0] rfl)
    · have h := h.2 hc
      refine lv_iconst (v := 0) C.x C.b dX12_changed_25 (by decide) ?_
      exact jr_retI C hr G h (by decide) (by decide) dX12_changed_26
  · have h := h.1 (jb_1 hc)
    refine lv_iconst (v := 0) C.x C.b dX12_changed_10 (by decide) ?_
    refine lv_goto (tgt := 15) C.x C.b dX12_changed_11 (by decide) ?_
    refine jr_put C G jc11 7 (v := 0) (show 0 < 1 by decide) (by decide) (by decide) rfl (by decide) wd1198 rfl rfl rfl rfl dX12_changed_15 (fun H locs G => ?_)
    obtain ⟨M8, eM8⟩ : ∃ z : jM, z = jup M 11 0 7 0 := ⟨_, rfl⟩
    rw [← eM8] at G
    have h := h M8 eM8
    have nM8 : jnb M8 = jnb M := by rw [eM8]; exact jnb_up (by decide)
    refine lv_aload_n C.x C.b dX12_changed_18 rfl (lv_at hl 0 rfl) ?_
    refine jr_get C G jc11 7 (v := .int (M8 11 0 7)) (show 0 < 1 by decide) (by decide) (by decide) rfl wd1198 dX12_changed_19 ?_
    refine lv_if_le (tgt := 27) C.x C.b dX12_changed_22 (by decide) (fun hc => ?_) (fun hc => ?_)
    · have h := h.1 hc
      refine lv_aload_n C.x C.b dX12_changed_27 rfl (lv_at hl 0 rfl) ?_
      refine lv_aload_n C.x C.b dX12_changed_28 rfl (lv_at hl 0 rfl) ?_
      refine lv_iload_n C.x C.b dX12_changed_29 rfl (lv_at hl 1 rfl) ?_
      refine jr_V (d' := 9) C G jc11 jm_X12_setOf wd1514 h rfl (show 0 < 1 by decide) (by decide) rfl rfl (by omega) (by decide) (by decide) ⟨rfl, rfl⟩ hl.1 (Nat.le_of_ble_eq_true rfl) dX12_changed_30 (fun r9 r9n M10 H locs h G => ?_)
      obtain ⟨nM10, h⟩ := h
      refine jr_V (d' := 9) C G jc11 jm_X12_runs wd1592 h rfl (show 0 < 1 by decide) (by decide) rfl rfl (by omega) (by decide) (by decide) ⟨rfl, rfl⟩ hl.1 (Nat.le_of_ble_eq_true rfl) dX12_changed_33 (fun r11 r11n M12 H locs h G => ?_)
      obtain ⟨nM12, h⟩ := h
      refine lv_iconst (v := 0) C.x C.b dX12_changed_36 (by decide) ?_
      refine lv_istore_n (lv' := [(2, .int 0), (0, .ref (g 11 0)), (1, .int v1)]) C.x C.b dX12_changed_37 rfl hl (by decide) rfl (fun ls hl => ?_)
      refine lv_iconst (v := 0) C.x C.b dX12_changed_38 (by decide) ?_
      refine lv_istore_n (lv' := [(3, .int 0), (2, .int 0), (0, .ref (g 11 0)), (1, .int v1)]) C.x C.b dX12_changed_39 rfl hl (by decide) rfl (fun ls hl => ?_)
      exact h p l e s m args below meth c D cA base g C hr htb _ _ G ls (lv_sub hl [2, 1, 0] rfl)
    · have h := h.2 hc
      refine lv_iconst (v := 0) C.x C.b dX12_changed_25 (by decide) ?_
      exact jr_retI C hr G h (by decide) (by decide) dX12_changed_26
set_option maxHeartbeats 4000000 in
set_option maxRecDepth 100000 in
theorem bl_X12_changed_40 (v2 : Int32) (v3 : Int32) (M : jM) (Q : Int32 → Nat → jM → Prop) 
  (h : (245 ≤ v3 → Q v2 0 M) ∧ (¬ (245 ≤ v3) → vp_in v3 245 ∧ (M 58 0 v3.toNatClampNeg = (((v3 / 49) + 1) * M 51 0 2 + 7 * ((v3 - v3 / 49 * 49) - 9)) → at_X12_changed_40 (v2 + 0) (v3 + 1) M Q) ∧ (¬ (M 58 0 v3.toNatClampNeg = (((v3 / 49) + 1) * M 51 0 2 + 7 * ((v3 - v3 / 49 * 49) - 9))) → at_X12_changed_40 (v2 + 1) (v3 + 1) M Q))) :
  at_X12_changed_40 v2 v3 M Q := by
  intro p l e s m args below meth c D cA base g C hr htb H locs G ls hl
  refine lv_iload_n C.x C.b dX12_changed_40 rfl (lv_at hl 2 rfl) ?_
  refine lv_sipush (v := 245) C.x C.b dX12_changed_41 (by decide) ?_
  refine lv_icmp_ge (tgt := 85) C.x C.b dX12_changed_44 (by decide) (fun hc => ?_) (fun hc => ?_)
  · have h := h.1 hc
    refine lv_iload_n C.x C.b dX12_changed_85 rfl (lv_at hl 1 rfl) ?_
    exact jr_retI C hr G h (by decide) (by decide) dX12_changed_86
  · have h := h.2 hc
    refine lv_iload_n C.x C.b dX12_changed_47 rfl (lv_at hl 1 rfl) ?_
    refine lv_aload_n C.x C.b dX12_changed_48 rfl (lv_at hl 0 rfl) ?_
    refine jr_get C G jc11 21 (v := .ref (g 58 0)) (show 0 < 1 by decide) (by decide) (by decide) rfl wd1212 dX12_changed_49 ?_
    refine lv_iload_n C.x C.b dX12_changed_52 rfl (lv_at hl 2 rfl) ?_
    obtain ⟨hs, h⟩ := h
    refine jr_ald C G (show 0 < 1 by decide) (by decide) (by decide) (by decide) rfl rfl hs dX12_changed_53 ?_
    refine lv_aload_n C.x C.b dX12_changed_54 rfl (lv_at hl 0 rfl) ?_
    refine lv_iload_n C.x C.b dX12_changed_55 rfl (lv_at hl 2 rfl) ?_
    refine lv_bipush (v := 49) C.x C.b dX12_changed_56 (by decide) ?_
    refine lv_idiv C.x C.b dX12_changed_58 (by decide) ?_
    refine lv_iload_n C.x C.b dX12_changed_59 rfl (lv_at hl 2 rfl) ?_
    refine lv_bipush (v := 49) C.x C.b dX12_changed_60 (by decide) ?_
    refine lv_irem C.x C.b dX12_changed_62 (by decide) ?_
    refine lv_bipush (v := 9) C.x C.b dX12_changed_63 (by decide) ?_
    refine lv_isub C.x C.b dX12_changed_65 ?_
    refine jr_V (d' := 9) C G jc11 jm_X12_initial wd1433 (sp_X12_initial ⟨rfl, rfl⟩ : ok_X12_initial (v3 / 49) ((v3 - v3 / 49 * 49) - 9) M (fun r _ M' => (((v3 / 49) + 1) * M 51 0 2 + 7 * ((v3 - v3 / 49 * 49) - 9)) = r ∧ M = M')) rfl (show 0 < 1 by decide) (by decide) rfl rfl (by omega) (by decide) (by decide) ⟨rfl, rfl⟩ hl.1 (Nat.le_of_ble_eq_true rfl) dX12_changed_66 (fun r1 r1n M2 H locs hq G => ?_)
    obtain ⟨eq1, eq2⟩ := hq
    subst eq1
    subst eq2
    refine lv_icmp_ne (tgt := 76) C.x C.b dX12_changed_69 (by decide) (fun hc => ?_) (fun hc => ?_)
    · have h := h.2 hc
      refine lv_iconst (v := 1) C.x C.b dX12_changed_76 (by decide) ?_
      refine lv_iadd C.x C.b dX12_changed_77 ?_
      refine lv_istore_n (lv' := [(2, .int (v2 + 1)), (0, .ref (g 11 0)), (3, .int v3)]) C.x C.b dX12_changed_78 rfl hl (by decide) rfl (fun ls hl => ?_)
      refine lv_iinc (v := v3 + 1) (lv' := [(3, .int (v3 + 1)), (2, .int (v2 + 1)), (0, .ref (g 11 0))]) C.x C.b dX12_changed_79 hl (k := 2) rfl rfl (by decide) rfl (fun ls hl => ?_)
      refine lv_goto (tgt := 40) C.x C.b dX12_changed_82 (by decide) ?_
      exact h p l e s m args below meth c D cA base g C hr htb _ _ G ls (lv_sub hl [2, 1, 0] rfl)
    · have h := h.1 hc
      refine lv_iconst (v := 0) C.x C.b dX12_changed_72 (by decide) ?_
      refine lv_goto (tgt := 77) C.x C.b dX12_changed_73 (by decide) ?_
      refine lv_iadd C.x C.b dX12_changed_77 ?_
      refine lv_istore_n (lv' := [(2, .int (v2 + 0)), (0, .ref (g 11 0)), (3, .int v3)]) C.x C.b dX12_changed_78 rfl hl (by decide) rfl (fun ls hl => ?_)
      refine lv_iinc (v := v3 + 1) (lv' := [(3, .int (v3 + 1)), (2, .int (v2 + 0)), (0, .ref (g 11 0))]) C.x C.b dX12_changed_79 hl (k := 2) rfl rfl (by decide) rfl (fun ls hl => ?_)
      refine lv_goto (tgt := 40) C.x C.b dX12_changed_82 (by decide) ?_
      exact h p l e s m args below meth c D cA base g C hr htb _ _ G ls (lv_sub hl [2, 1, 0] rfl)

