theorem en_X0_hasStatement {n0 : Nat} {v1 : Int32} {M : jM} {Q : Int32 → Nat → jM → Prop} (h : at_X0_hasStatement_0 n0 v1 M Q) : ok_X0_hasStatement n0 v1 M Q := jr_enter (by decide) (fun g => rfl) (fun g => Nat.le_of_ble_eq_true rfl) h
set_option maxHeartbeats 4000000 in
set_option maxRecDepth 100000 in
theorem bl_X0_hasStatement_0 (n0 : Nat) (v1 : Int32) (M : jM) (Q : Int32 → Nat → jM → Prop) (ha0 : n0 < jnb M)
  (h : (v1 < 0 → Q 0 0 M) ∧ (¬ (v1 < 0) → ((M 0 n0 7) ≤ v1 → Q 0 0 M) ∧ (¬ ((M 0 n0 7) ≤ v1) → (4 ≤ v1 → Q 0 0 M) ∧ (¬ (4 ≤ v1) → Q 1 0 M)))) :
  at_X0_hasStatement_0 n0 v1 M Q := by
  intro p l e s m args below meth c D cA base g C hr htb H locs G ls hl
  refine lv_iload_n C.x C.b dX0_hasStatement_0 rfl (lv_at hl 1 rfl) ?_
  refine lv_if_lt (tgt := 21) C.x C.b dX0_hasStatement_1 (by decide) (fun hc => ?_) (fun hc => ?_)
  · have h := h.1 hc
    refine lv_iconst (v := 0) C.x C.b dX0_hasStatement_21 (by decide) ?_
    exact jr_retZ C hr G rfl h (by decide) (by decide) dX0_hasStatement_22
  · have h := h.2 hc
    refine lv_iload_n C.x C.b dX0_hasStatement_4 rfl (lv_at hl 1 rfl) ?_
    refine lv_aload_n C.x C.b dX0_hasStatement_5 rfl (lv_at hl 0 rfl) ?_
    refine jr_get C G jc0 7 (v := .int (M 0 n0 7)) (show n0 < jnb M by omega) (by decide) (by decide) rfl wd176 dX0_hasStatement_6 ?_
    refine lv_icmp_ge (tgt := 21) C.x C.b dX0_hasStatement_9 (by decide) (fun hc => ?_) (fun hc => ?_)
    · have h := h.1 hc
      refine lv_iconst (v := 0) C.x C.b dX0_hasStatement_21 (by decide) ?_
      exact jr_retZ C hr G rfl h (by decide) (by decide) dX0_hasStatement_22
    · have h := h.2 hc
      refine lv_iload_n C.x C.b dX0_hasStatement_12 rfl (lv_at hl 1 rfl) ?_
      refine lv_iconst (v := 4) C.x C.b dX0_hasStatement_13 (by decide) ?_
      refine lv_icmp_ge (tgt := 21) C.x C.b dX0_hasStatement_14 (by decide) (fun hc => ?_) (fun hc => ?_)
      · have h := h.1 hc
        refine lv_iconst (v := 0) C.x C.b dX0_hasStatement_21 (by decide) ?_
        exact jr_retZ C hr G rfl h (by decide) (by decide) dX0_hasStatement_22
      · have h := h.2 hc
        refine lv_iconst (v := 1) C.x C.b dX0_hasStatement_17 (by decide) ?_
        refine lv_goto (tgt := 22) C.x C.b dX0_hasStatement_18 (by decide) ?_
        exact jr_retZ C hr G rfl h (by decide) (by decide) dX0_hasStatement_22

theorem sp_X0_hasStatement {n0 : Nat} {v1 : Int32} {M : jM} {Q : Int32 → Nat → jM → Prop} (ha0 : n0 < jnb M)  (h : Q (jb (0 ≤ v1 ∧ v1 < M 0 n0 7 ∧ v1 < 4)) 0 M) : ok_X0_hasStatement n0 v1 M Q := by
  refine en_X0_hasStatement (bl_X0_hasStatement_0 n0 v1 M Q ha0 ?_)
  (repeat' first | assumption | apply And.intro | intro _) <;> (try subst_vars) <;> (first | assumption | ((try simp only [jb] at h) <;> (repeat' split at h) <;> first | assumption | (exfalso; simp only [Int32.lt_iff_toInt_lt, Int32.le_iff_toInt_le, ← Int32.toInt_inj] at *; omega)))

theorem en_X0_hasReference {n0 : Nat} {v1 : Int32} {M : jM} {Q : Int32 → Nat → jM → Prop} (h : at_X0_hasReference_0 n0 v1 M Q) : ok_X0_hasReference n0 v1 M Q := jr_enter (by decide) (fun g => rfl) (fun g => Nat.le_of_ble_eq_true rfl) h
set_option maxHeartbeats 4000000 in
set_option maxRecDepth 100000 in
theorem bl_X0_hasReference_0 (n0 : Nat) (v1 : Int32) (M : jM) (Q : Int32 → Nat → jM → Prop) (ha0 : n0 < jnb M)
  (h : (v1 < 0 → Q 0 0 M) ∧ (¬ (v1 < 0) → ((M 0 n0 6) ≤ v1 → Q 0 0 M) ∧ (¬ ((M 0 n0 6) ≤ v1) → (24 ≤ v1 → Q 0 0 M) ∧ (¬ (24 ≤ v1) → Q 1 0 M)))) :
  at_X0_hasReference_0 n0 v1 M Q := by
  intro p l e s m args below meth c D cA base g C hr htb H locs G ls hl
  refine lv_iload_n C.x C.b dX0_hasReference_0 rfl (lv_at hl 1 rfl) ?_
  refine lv_if_lt (tgt := 22) C.x C.b dX0_hasReference_1 (by decide) (fun hc => ?_) (fun hc => ?_)
  · have h := h.1 hc
    refine lv_iconst (v := 0) C.x C.b dX0_hasReference_22 (by decide) ?_
    exact jr_retZ C hr G rfl h (by decide) (by decide) dX0_hasReference_23
  · have h := h.2 hc
    refine lv_iload_n C.x C.b dX0_hasReference_4 rfl (lv_at hl 1 rfl) ?_
    refine lv_aload_n C.x C.b dX0_hasReference_5 rfl (lv_at hl 0 rfl) ?_
    refine jr_get C G jc0 6 (v := .int (M 0 n0 6)) (show n0 < jnb M by omega) (by decide) (by decide) rfl wd173 dX0_hasReference_6 ?_
    refine lv_icmp_ge (tgt := 22) C.x C.b dX0_hasReference_9 (by decide) (fun hc => ?_) (fun hc => ?_)
    · have h := h.1 hc
      refine lv_iconst (v := 0) C.x C.b dX0_hasReference_22 (by decide) ?_
      exact jr_retZ C hr G rfl h (by decide) (by decide) dX0_hasReference_23
    · have h := h.2 hc
      refine lv_iload_n C.x C.b dX0_hasReference_12 rfl (lv_at hl 1 rfl) ?_
      refine lv_bipush (v := 24) C.x C.b dX0_hasReference_13 (by decide) ?_
      refine lv_icmp_ge (tgt := 22) C.x C.b dX0_hasReference_15 (by decide) (fun hc => ?_) (fun hc => ?_)
      · have h := h.1 hc
        refine lv_iconst (v := 0) C.x C.b dX0_hasReference_22 (by decide) ?_
        exact jr_retZ C hr G rfl h (by decide) (by decide) dX0_hasReference_23
      · have h := h.2 hc
        refine lv_iconst (v := 1) C.x C.b dX0_hasReference_18 (by decide) ?_
        refine lv_goto (tgt := 23) C.x C.b dX0_hasReference_19 (by decide) ?_
        exact jr_retZ C hr G rfl h (by decide) (by decide) dX0_hasReference_23

theorem sp_X0_hasReference {n0 : Nat} {v1 : Int32} {M : jM} {Q : Int32 → Nat → jM → Prop} (ha0 : n0 < jnb M)  (h : Q (jb (0 ≤ v1 ∧ v1 < M 0 n0 6 ∧ v1 < 24)) 0 M) : ok_X0_hasReference n0 v1 M Q := by
  refine en_X0_hasReference (bl_X0_hasReference_0 n0 v1 M Q ha0 ?_)
  (repeat' first | assumption | apply And.intro | intro _) <;> (try subst_vars) <;> (first | assumption | ((try simp only [jb] at h) <;> (repeat' split at h) <;> first | assumption | (exfalso; simp only [Int32.lt_iff_toInt_lt, Int32.le_iff_toInt_le, ← Int32.toInt_inj] at *; omega)))

theorem en_X0_open {n0 : Nat} {M : jM} {Q : Int32 → Nat → jM → Prop} (h : at_X0_open_0 n0 M Q) : ok_X0_open n0 M Q := jr_enter (by decide) (fun g => rfl) (fun g => Nat.le_of_ble_eq_true rfl) h
set_option maxHeartbeats 4000000 in
set_option maxRecDepth 100000 in
theorem bl_X0_open_0 (n0 : Nat) (M : jM) (Q : Int32 → Nat → jM → Prop) (ha0 : n0 < jnb M)
  (h : (4 ≤ (M 0 n0 7) → Q 0 (4 * n0 + (3 : Int32).toNatClampNeg) M) ∧ (¬ (4 ≤ (M 0 n0 7)) → vp_in (M 0 n0 7) 4 ∧ Q 0 (4 * n0 + (M 0 n0 7).toNatClampNeg) M)) :
  at_X0_open_0 n0 M Q := by
  intro p l e s m args below meth c D cA base g C hr htb H locs G ls hl
  refine lv_aload_n C.x C.b dX0_open_0 rfl (lv_at hl 0 rfl) ?_
  refine jr_get C G jc0 3 (v := .ref (g 23 n0)) (show n0 < jnb M by omega) (by decide) (by decide) rfl wd165 dX0_open_1 ?_
  refine lv_aload_n C.x C.b dX0_open_4 rfl (lv_at hl 0 rfl) ?_
  refine jr_get C G jc0 7 (v := .int (M 0 n0 7)) (show n0 < jnb M by omega) (by decide) (by decide) rfl wd176 dX0_open_5 ?_
  refine lv_iconst (v := 4) C.x C.b dX0_open_8 (by decide) ?_
  refine lv_icmp_ge (tgt := 19) C.x C.b dX0_open_9 (by decide) (fun hc => ?_) (fun hc => ?_)
  · have h := h.1 hc
    refine lv_iconst (v := 3) C.x C.b dX0_open_19 (by decide) ?_
    refine jr_aald C G (R := 23) (R' := 7) (i' := 4 * n0 + (3 : Int32).toNatClampNeg) (show n0 < jnb M by omega) (by decide) (by decide) (by decide) rfl rfl (by unfold vp_in; decide) rfl dX0_open_20 ?_
    exact jr_retR C hr G h (by decide) (by decide) dX0_open_21
  · have h := h.2 hc
    refine lv_aload_n C.x C.b dX0_open_12 rfl (lv_at hl 0 rfl) ?_
    refine jr_get C G jc0 7 (v := .int (M 0 n0 7)) (show n0 < jnb M by omega) (by decide) (by decide) rfl wd176 dX0_open_13 ?_
    refine lv_goto (tgt := 20) C.x C.b dX0_open_16 (by decide) ?_
    obtain ⟨hs, h⟩ := h
    have hj1 := vp_lt hs
    refine jr_aald C G (R := 23) (R' := 7) (i' := 4 * n0 + (M 0 n0 7).toNatClampNeg) (show n0 < jnb M by omega) (by decide) (by decide) (by decide) rfl rfl hs rfl dX0_open_20 ?_
    exact jr_retR C hr G h (by decide) (by decide) dX0_open_21

theorem sp_X0_open {n0 : Nat} {M : jM} {Q : Int32 → Nat → jM → Prop} (ha0 : n0 < jnb M) (s0 : 0 ≤ M 0 n0 7) (h : Q 0 (4 * n0 + (if M 0 n0 7 < 4 then M 0 n0 7 else 3).toNatClampNeg) M) : ok_X0_open n0 M Q := by
  refine en_X0_open (bl_X0_open_0 n0 M Q ha0 ?_)
  refine ⟨fun q => ?_, fun q => ⟨jin_of s0 (Int32.not_le.mp q), ?_⟩⟩
  · rw [if_neg (Int32.not_lt.mpr q)] at h; exact h
  · rw [if_pos (Int32.not_le.mp q)] at h; exact h

theorem en_X1_hasMainPart  {M : jM} {Q : Int32 → Nat → jM → Prop} (h : at_X1_hasMainPart_0  M Q) : ok_X1_hasMainPart  M Q := jr_enter (by decide) (fun g => rfl) (fun g => Nat.le_of_ble_eq_true rfl) h
set_option maxHeartbeats 4000000 in
set_option maxRecDepth 100000 in
theorem bl_X1_hasMainPart_0  (M : jM) (Q : Int32 → Nat → jM → Prop) 
  (h : ((M 1 0 10) < (M 1 0 9) → Q 0 0 M) ∧ (¬ ((M 1 0 10) < (M 1 0 9)) → Q 1 0 M)) :
  at_X1_hasMainPart_0  M Q := by
  intro p l e s m args below meth c D cA base g C hr htb H locs G ls hl
  refine lv_aload_n C.x C.b dX1_hasMainPart_0 rfl (lv_at hl 0 rfl) ?_
  refine jr_get C G jc1 9 (v := .int (M 1 0 9)) (show 0 < 1 by decide) (by decide) (by decide) rfl wd340 dX1_hasMainPart_1 ?_
  refine lv_aload_n C.x C.b dX1_hasMainPart_4 rfl (lv_at hl 0 rfl) ?_
  refine jr_get C G jc1 10 (v := .int (M 1 0 10)) (show 0 < 1 by decide) (by decide) (by decide) rfl wd342 dX1_hasMainPart_5 ?_
  refine lv_icmp_gt (tgt := 15) C.x C.b dX1_hasMainPart_8 (by decide) (fun hc => ?_) (fun hc => ?_)
  · have h := h.1 hc
    refine lv_iconst (v := 0) C.x C.b dX1_hasMainPart_15 (by decide) ?_
    exact jr_retZ C hr G rfl h (by decide) (by decide) dX1_hasMainPart_16
  · have h := h.2 hc
    refine lv_iconst (v := 1) C.x C.b dX1_hasMainPart_11 (by decide) ?_
    refine lv_goto (tgt := 16) C.x C.b dX1_hasMainPart_12 (by decide) ?_
    exact jr_retZ C hr G rfl h (by decide) (by decide) dX1_hasMainPart_16

theorem sp_X1_hasMainPart  {M : jM} {Q : Int32 → Nat → jM → Prop}   (h : Q (jb (M 1 0 9 ≤ M 1 0 10)) 0 M) : ok_X1_hasMainPart  M Q := by
  refine en_X1_hasMainPart (bl_X1_hasMainPart_0  M Q  ?_)
  (repeat' first | assumption | apply And.intro | intro _) <;> (try subst_vars) <;> (first | assumption | ((try simp only [jb] at h) <;> (repeat' split at h) <;> first | assumption | (exfalso; simp only [Int32.lt_iff_toInt_lt, Int32.le_iff_toInt_le, ← Int32.toInt_inj] at *; omega)))

theorem en_X2_meet {n0 : Nat} {v1 : Int32} {n2 : Nat} {v3 : Int32} {M : jM} {Q : Int32 → Nat → jM → Prop} (h : at_X2_meet_0 n0 v1 n2 v3 M Q) : ok_X2_meet n0 v1 n2 v3 M Q := jr_enter (by decide) (fun g => rfl) (fun g => Nat.le_of_ble_eq_true rfl) h
set_option maxHeartbeats 4000000 in
set_option maxRecDepth 100000 in
theorem bl_X2_meet_0 (n0 : Nat) (v1 : Int32) (n2 : Nat) (v3 : Int32) (M : jM) (Q : Int32 → Nat → jM → Prop) (ha0 : n0 < 20) (ha1 : n2 < 20)
  (h : (v1 / 49 = (v3 / 49) → (((M 3 n2 2) + v3) < ((M 3 n0 1) + v1) → Q 0 0 M) ∧ (¬ (((M 3 n2 2) + v3) < ((M 3 n0 1) + v1)) → (((M 3 n0 2) + v1) < ((M 3 n2 1) + v3) → Q 0 0 M) ∧ (¬ (((M 3 n0 2) + v1) < ((M 3 n2 1) + v3)) → Q 1 0 M))) ∧ (¬ (v1 / 49 = (v3 / 49)) → Q 0 0 M)) :
  at_X2_meet_0 n0 v1 n2 v3 M Q := by
  intro p l e s m args below meth c D cA base g C hr htb H locs G ls hl
  refine lv_iload_n C.x C.b dX2_meet_0 rfl (lv_at hl 1 rfl) ?_
  refine lv_bipush (v := 49) C.x C.b dX2_meet_1 (by decide) ?_
  refine lv_idiv C.x C.b dX2_meet_3 (by decide) ?_
  refine lv_iload_n C.x C.b dX2_meet_4 rfl (lv_at hl 3 rfl) ?_
  refine lv_bipush (v := 49) C.x C.b dX2_meet_5 (by decide) ?_
  refine lv_idiv C.x C.b dX2_meet_7 (by decide) ?_
  refine lv_icmp_ne (tgt := 45) C.x C.b dX2_meet_8 (by decide) (fun hc => ?_) (fun hc => ?_)
  · have h := h.2 hc
    refine lv_iconst (v := 0) C.x C.b dX2_meet_45 (by decide) ?_
    exact jr_retZ C hr G rfl h (by decide) (by decide) dX2_meet_46
  · have h := h.1 hc
    refine lv_aload_n C.x C.b dX2_meet_11 rfl (lv_at hl 0 rfl) ?_
    refine jr_get C G jc3 1 (v := .int (M 3 n0 1)) (show n0 < 20 by omega) (by decide) (by decide) rfl wd210 dX2_meet_12 ?_
    refine lv_iload_n C.x C.b dX2_meet_15 rfl (lv_at hl 1 rfl) ?_
    refine lv_iadd C.x C.b dX2_meet_16 ?_
    refine lv_aload_n C.x C.b dX2_meet_17 rfl (lv_at hl 2 rfl) ?_
    refine jr_get C G jc3 2 (v := .int (M 3 n2 2)) (show n2 < 20 by omega) (by decide) (by decide) rfl wd216 dX2_meet_18 ?_
    refine lv_iload_n C.x C.b dX2_meet_21 rfl (lv_at hl 3 rfl) ?_
    refine lv_iadd C.x C.b dX2_meet_22 ?_
    refine lv_icmp_gt (tgt := 45) C.x C.b dX2_meet_23 (by decide) (fun hc => ?_) (fun hc => ?_)
    · have h := h.1 hc
      refine lv_iconst (v := 0) C.x C.b dX2_meet_45 (by decide) ?_
      exact jr_retZ C hr G rfl h (by decide) (by decide) dX2_meet_46
    · have h := h.2 hc
      refine lv_aload_n C.x C.b dX2_meet_26 rfl (lv_at hl 2 rfl) ?_
      refine jr_get C G jc3 1 (v := .int (M 3 n2 1)) (show n2 < 20 by omega) (by decide) (by decide) rfl wd210 dX2_meet_27 ?_
      refine lv_iload_n C.x C.b dX2_meet_30 rfl (lv_at hl 3 rfl) ?_
      refine lv_iadd C.x C.b dX2_meet_31 ?_
      refine lv_aload_n C.x C.b dX2_meet_32 rfl (lv_at hl 0 rfl) ?_
      refine jr_get C G jc3 2 (v := .int (M 3 n0 2)) (show n0 < 20 by omega) (by decide) (by decide) rfl wd216 dX2_meet_33 ?_
      refine lv_iload_n C.x C.b dX2_meet_36 rfl (lv_at hl 1 rfl) ?_
      refine lv_iadd C.x C.b dX2_meet_37 ?_
      refine lv_icmp_gt (tgt := 45) C.x C.b dX2_meet_38 (by decide) (fun hc => ?_) (fun hc => ?_)
      · have h := h.1 hc
        refine lv_iconst (v := 0) C.x C.b dX2_meet_45 (by decide) ?_
        exact jr_retZ C hr G rfl h (by decide) (by decide) dX2_meet_46
      · have h := h.2 hc
        refine lv_iconst (v := 1) C.x C.b dX2_meet_41 (by decide) ?_
        refine lv_goto (tgt := 46) C.x C.b dX2_meet_42 (by decide) ?_
        exact jr_retZ C hr G rfl h (by decide) (by decide) dX2_meet_46

theorem sp_X2_meet {n0 : Nat} {v1 : Int32} {n2 : Nat} {v3 : Int32} {M : jM} {Q : Int32 → Nat → jM → Prop} (ha0 : n0 < 20) (ha1 : n2 < 20)  (h : Q (jb (v1 / 49 = v3 / 49 ∧ M 3 n0 1 + v1 ≤ M 3 n2 2 + v3 ∧ M 3 n2 1 + v3 ≤ M 3 n0 2 + v1)) 0 M) : ok_X2_meet n0 v1 n2 v3 M Q := by
  refine en_X2_meet (bl_X2_meet_0 n0 v1 n2 v3 M Q ha0 ha1 ?_)
  (repeat' first | assumption | apply And.intro | intro _) <;> (try subst_vars) <;> (first | assumption | ((try simp only [jb] at h) <;> (repeat' split at h) <;> first | assumption | (exfalso; simp only [Int32.lt_iff_toInt_lt, Int32.le_iff_toInt_le, ← Int32.toInt_inj] at *; omega)))

theorem en_X3_hasIteration {n0 : Nat} {v1 : Int32} {M : jM} {Q : Int32 → Nat → jM → Prop} (h : at_X3_hasIteration_0 n0 v1 M Q) : ok_X3_hasIteration n0 v1 M Q := jr_enter (by decide) (fun g => rfl) (fun g => Nat.le_of_ble_eq_true rfl) h
set_option maxHeartbeats 4000000 in
set_option maxRecDepth 100000 in
theorem bl_X3_hasIteration_0 (n0 : Nat) (v1 : Int32) (M : jM) (Q : Int32 → Nat → jM → Prop) (ha0 : n0 < 20)
  (h : (v1 < (M 3 n0 1) → Q 0 0 M) ∧ (¬ (v1 < (M 3 n0 1)) → ((M 3 n0 2) < v1 → Q 0 0 M) ∧ (¬ ((M 3 n0 2) < v1) → Q 1 0 M))) :
  at_X3_hasIteration_0 n0 v1 M Q := by
  intro p l e s m args below meth c D cA base g C hr htb H locs G ls hl
  refine lv_aload_n C.x C.b dX3_hasIteration_0 rfl (lv_at hl 0 rfl) ?_
  refine jr_get C G jc3 1 (v := .int (M 3 n0 1)) (show n0 < 20 by omega) (by decide) (by decide) rfl wd209 dX3_hasIteration_1 ?_
  refine lv_iload_n C.x C.b dX3_hasIteration_4 rfl (lv_at hl 1 rfl) ?_
  refine lv_icmp_gt (tgt := 20) C.x C.b dX3_hasIteration_5 (by decide) (fun hc => ?_) (fun hc => ?_)
  · have h := h.1 hc
    refine lv_iconst (v := 0) C.x C.b dX3_hasIteration_20 (by decide) ?_
    exact jr_retZ C hr G rfl h (by decide) (by decide) dX3_hasIteration_21
  · have h := h.2 hc
    refine lv_iload_n C.x C.b dX3_hasIteration_8 rfl (lv_at hl 1 rfl) ?_
    refine lv_aload_n C.x C.b dX3_hasIteration_9 rfl (lv_at hl 0 rfl) ?_
    refine jr_get C G jc3 2 (v := .int (M 3 n0 2)) (show n0 < 20 by omega) (by decide) (by decide) rfl wd215 dX3_hasIteration_10 ?_
    refine lv_icmp_gt (tgt := 20) C.x C.b dX3_hasIteration_13 (by decide) (fun hc => ?_) (fun hc => ?_)
    · have h := h.1 hc
      refine lv_iconst (v := 0) C.x C.b dX3_hasIteration_20 (by decide) ?_
      exact jr_retZ C hr G rfl h (by decide) (by decide) dX3_hasIteration_21
    · have h := h.2 hc
      refine lv_iconst (v := 1) C.x C.b dX3_hasIteration_16 (by decide) ?_
      refine lv_goto (tgt := 21) C.x C.b dX3_hasIteration_17 (by decide) ?_
      exact jr_retZ C hr G rfl h (by decide) (by decide) dX3_hasIteration_21

theorem sp_X3_hasIteration {n0 : Nat} {v1 : Int32} {M : jM} {Q : Int32 → Nat → jM → Prop} (ha0 : n0 < 20)  (h : Q (jb (M 3 n0 1 ≤ v1 ∧ v1 ≤ M 3 n0 2)) 0 M) : ok_X3_hasIteration n0 v1 M Q := by
  refine en_X3_hasIteration (bl_X3_hasIteration_0 n0 v1 M Q ha0 ?_)
  (repeat' first | assumption | apply And.intro | intro _) <;> (try subst_vars) <;> (first | assumption | ((try simp only [jb] at h) <;> (repeat' split at h) <;> first | assumption | (exfalso; simp only [Int32.lt_iff_toInt_lt, Int32.le_iff_toInt_le, ← Int32.toInt_inj] at *; omega)))

theorem en_X4_operand {n0 : Nat} {v1 : Int32} {v2 : Int32} {v3 : Int32} {M : jM} {Q : Int32 → Nat → jM → Prop} (h : at_X4_operand_0 n0 v1 v2 v3 M Q) : ok_X4_operand n0 v1 v2 v3 M Q := jr_enter (by decide) (fun g => rfl) (fun g => Nat.le_of_ble_eq_true rfl) h
set_option maxHeartbeats 4000000 in
set_option maxRecDepth 100000 in
theorem bl_X4_operand_0 (n0 : Nat) (v1 : Int32) (v2 : Int32) (v3 : Int32) (M : jM) (Q : Int32 → Nat → jM → Prop) (ha0 : n0 < 4)
  (h : (v1 = 3 → Q v2 0 M) ∧ (¬ (v1 = 3) → (v1 = 4 → Q v3 0 M) ∧ (¬ (v1 = 4) → ((v2 + v3) < 0 → Q 0 0 M) ∧ (¬ ((v2 + v3) < 0) → (245 ≤ (v2 + v3) → Q 0 0 M) ∧ (¬ (245 ≤ (v2 + v3)) → vp_in (v2 + v3) 245 ∧ Q (M 33 n0 (v2 + v3).toNatClampNeg) 0 M))))) :
  at_X4_operand_0 n0 v1 v2 v3 M Q := by
  intro p l e s m args below meth c D cA base g C hr htb H locs G ls hl
  refine lv_iload_n C.x C.b dX4_operand_0 rfl (lv_at hl 1 rfl) ?_
  refine lv_iconst (v := 3) C.x C.b dX4_operand_1 (by decide) ?_
  refine lv_icmp_ne (tgt := 7) C.x C.b dX4_operand_2 (by decide) (fun hc => ?_) (fun hc => ?_)
  · have h := h.2 hc
    refine lv_iload_n C.x C.b dX4_operand_7 rfl (lv_at hl 2 rfl) ?_
    refine lv_iload_n C.x C.b dX4_operand_8 rfl (lv_at hl 3 rfl) ?_
    refine lv_iadd C.x C.b dX4_operand_9 ?_
    refine lv_istore (lv' := [(4, .int (v2 + v3)), (0, .ref (g 4 n0)), (1, .int v1), (2, .int v2), (3, .int v3)]) C.x C.b dX4_operand_10 hl (by decide) rfl (fun ls hl => ?_)
    refine lv_iload_n C.x C.b dX4_operand_12 rfl (lv_at hl 2 rfl) ?_
    refine lv_iconst (v := 4) C.x C.b dX4_operand_13 (by decide) ?_
    refine lv_icmp_ne (tgt := 21) C.x C.b dX4_operand_14 (by decide) (fun hc => ?_) (fun hc => ?_)
    · have h := h.2 hc
      refine lv_iload C.x C.b dX4_operand_21 (lv_at hl 0 rfl) ?_
      refine lv_if_lt (tgt := 44) C.x C.b dX4_operand_23 (by decide) (fun hc => ?_) (fun hc => ?_)
      · have h := h.1 hc
        refine lv_iconst (v := 0) C.x C.b dX4_operand_44 (by decide) ?_
        exact jr_retI C hr G h (by decide) (by decide) dX4_operand_45
      · have h := h.2 hc
        refine lv_iload C.x C.b dX4_operand_26 (lv_at hl 0 rfl) ?_
        refine lv_sipush (v := 245) C.x C.b dX4_operand_28 (by decide) ?_
        refine lv_icmp_ge (tgt := 44) C.x C.b dX4_operand_31 (by decide) (fun hc => ?_) (fun hc => ?_)
        · have h := h.1 hc
          refine lv_iconst (v := 0) C.x C.b dX4_operand_44 (by decide) ?_
          exact jr_retI C hr G h (by decide) (by decide) dX4_operand_45
        · have h := h.2 hc
          refine lv_aload_n C.x C.b dX4_operand_34 rfl (lv_at hl 1 rfl) ?_
          refine jr_get C G jc4 0 (v := .ref (g 33 n0)) (show n0 < 4 by omega) (by decide) (by decide) rfl wd399 dX4_operand_35 ?_
          refine lv_iload C.x C.b dX4_operand_38 (lv_at hl 0 rfl) ?_
          obtain ⟨hs, h⟩ := h
          refine jr_ald C G (show n0 < 4 by omega) (by decide) (by decide) (by decide) rfl rfl hs dX4_operand_40 ?_
          refine lv_goto (tgt := 45) C.x C.b dX4_operand_41 (by decide) ?_
          exact jr_retI C hr G h (by decide) (by decide) dX4_operand_45
    · have h := h.1 hc
      refine lv_iload_n C.x C.b dX4_operand_17 rfl (lv_at hl 4 rfl) ?_
      refine lv_goto (tgt := 45) C.x C.b dX4_operand_18 (by decide) ?_
      exact jr_retI C hr G h (by decide) (by decide) dX4_operand_45
  · have h := h.1 hc
    refine lv_iload_n C.x C.b dX4_operand_5 rfl (lv_at hl 2 rfl) ?_
    exact jr_retI C hr G h (by decide) (by decide) dX4_operand_6

theorem sp_X4_operand {n0 : Nat} {v1 : Int32} {v2 : Int32} {v3 : Int32} {M : jM} {Q : Int32 → Nat → jM → Prop} (ha0 : n0 < 4)  (h : Q (if v1 = 3 then v2 else if v1 = 4 then v3 else if 0 ≤ v2 + v3 ∧ v2 + v3 < 245 then M 33 n0 (v2 + v3).toNatClampNeg else 0) 0 M) : ok_X4_operand n0 v1 v2 v3 M Q := by
  refine en_X4_operand (bl_X4_operand_0 n0 v1 v2 v3 M Q ha0 ?_)
  refine ⟨fun q => ?_, fun q => ⟨fun q2 => ?_, fun q2 => ⟨fun q3 => ?_, fun q3 => ⟨fun q4 => ?_, fun q4 => ⟨jin_of (Int32.not_lt.mp q3) (Int32.not_le.mp q4), ?_⟩⟩⟩⟩⟩
  · rw [if_pos q] at h; exact h
  · rw [if_neg q, if_pos q2] at h; exact h
  · rw [if_neg q, if_neg q2, if_neg (fun z => absurd z.1 (Int32.not_le.mpr q3))] at h; exact h
  · rw [if_neg q, if_neg q2, if_neg (fun z => absurd z.2 (Int32.not_lt.mpr q4))] at h; exact h
  · rw [if_neg q, if_neg q2, if_pos ⟨Int32.not_lt.mp q3, Int32.not_le.mp q4⟩] at h; exact h

theorem en_X4_apply {v0 : Int32} {v1 : Int32} {v2 : Int32} {M : jM} {Q : Int32 → Nat → jM → Prop} (h : at_X4_apply_0 v0 v1 v2 M Q) : ok_X4_apply v0 v1 v2 M Q := jr_enter (by decide) (fun g => rfl) (fun g => Nat.le_of_ble_eq_true rfl) h
set_option maxHeartbeats 4000000 in
set_option maxRecDepth 100000 in
theorem bl_X4_apply_0 (v0 : Int32) (v1 : Int32) (v2 : Int32) (M : jM) (Q : Int32 → Nat → jM → Prop) 
  (h : (v0 = 0 → Q (v1 + v2) 0 M) ∧ (¬ (v0 = 0) → (v0 = 1 → Q (v1 - v2) 0 M) ∧ (¬ (v0 = 1) → Q (v1 * v2) 0 M))) :
  at_X4_apply_0 v0 v1 v2 M Q := by
  intro p l e s m args below meth c D cA base g C hr htb H locs G ls hl
  refine lv_iload_n C.x C.b dX4_apply_0 rfl (lv_at hl 0 rfl) ?_
  refine lv_if_ne (tgt := 10) C.x C.b dX4_apply_1 (by decide) (fun hc => ?_) (fun hc => ?_)
  · have h := h.2 hc
    refine lv_iload_n C.x C.b dX4_apply_10 rfl (lv_at hl 0 rfl) ?_
    refine lv_iconst (v := 1) C.x C.b dX4_apply_11 (by decide) ?_
    refine lv_icmp_ne (tgt := 21) C.x C.b dX4_apply_12 (by decide) (fun hc => ?_) (fun hc => ?_)
    · have h := h.2 hc
      refine lv_iload_n C.x C.b dX4_apply_21 rfl (lv_at hl 1 rfl) ?_
      refine lv_iload_n C.x C.b dX4_apply_22 rfl (lv_at hl 2 rfl) ?_
      refine lv_imul C.x C.b dX4_apply_23 ?_
      exact jr_retI C hr G h (by decide) (by decide) dX4_apply_24
    · have h := h.1 hc
      refine lv_iload_n C.x C.b dX4_apply_15 rfl (lv_at hl 1 rfl) ?_
      refine lv_iload_n C.x C.b dX4_apply_16 rfl (lv_at hl 2 rfl) ?_
      refine lv_isub C.x C.b dX4_apply_17 ?_
      refine lv_goto (tgt := 24) C.x C.b dX4_apply_18 (by decide) ?_
      exact jr_retI C hr G h (by decide) (by decide) dX4_apply_24
  · have h := h.1 hc
    refine lv_iload_n C.x C.b dX4_apply_4 rfl (lv_at hl 1 rfl) ?_
    refine lv_iload_n C.x C.b dX4_apply_5 rfl (lv_at hl 2 rfl) ?_
    refine lv_iadd C.x C.b dX4_apply_6 ?_
    refine lv_goto (tgt := 24) C.x C.b dX4_apply_7 (by decide) ?_
    exact jr_retI C hr G h (by decide) (by decide) dX4_apply_24

theorem sp_X4_apply {v0 : Int32} {v1 : Int32} {v2 : Int32} {M : jM} {Q : Int32 → Nat → jM → Prop}   (h : Q (if v0 = 0 then v1 + v2 else if v0 = 1 then v1 - v2 else v1 * v2) 0 M) : ok_X4_apply v0 v1 v2 M Q := by
  refine en_X4_apply (bl_X4_apply_0 v0 v1 v2 M Q  ?_)
  (repeat' first | assumption | apply And.intro | intro _) <;> (try subst_vars) <;> (first | assumption | ((try simp only [jb] at h) <;> (repeat' split at h) <;> first | assumption | (exfalso; simp only [Int32.lt_iff_toInt_lt, Int32.le_iff_toInt_le, ← Int32.toInt_inj] at *; omega)))

theorem en_X6_hasLoop {n0 : Nat} {v1 : Int32} {M : jM} {Q : Int32 → Nat → jM → Prop} (h : at_X6_hasLoop_0 n0 v1 M Q) : ok_X6_hasLoop n0 v1 M Q := jr_enter (by decide) (fun g => rfl) (fun g => Nat.le_of_ble_eq_true rfl) h
set_option maxHeartbeats 4000000 in
set_option maxRecDepth 100000 in
theorem bl_X6_hasLoop_0 (n0 : Nat) (v1 : Int32) (M : jM) (Q : Int32 → Nat → jM → Prop) (ha0 : n0 < 2)
  (h : (v1 < 0 → Q 0 0 M) ∧ (¬ (v1 < 0) → ((M 6 n0 2) ≤ v1 → Q 0 0 M) ∧ (¬ ((M 6 n0 2) ≤ v1) → (6 ≤ v1 → Q 0 0 M) ∧ (¬ (6 ≤ v1) → Q 1 0 M)))) :
  at_X6_hasLoop_0 n0 v1 M Q := by
  intro p l e s m args below meth c D cA base g C hr htb H locs G ls hl
  refine lv_iload_n C.x C.b dX6_hasLoop_0 rfl (lv_at hl 1 rfl) ?_
  refine lv_if_lt (tgt := 22) C.x C.b dX6_hasLoop_1 (by decide) (fun hc => ?_) (fun hc => ?_)
  · have h := h.1 hc
    refine lv_iconst (v := 0) C.x C.b dX6_hasLoop_22 (by decide) ?_
    exact jr_retZ C hr G rfl h (by decide) (by decide) dX6_hasLoop_23
  · have h := h.2 hc
    refine lv_iload_n C.x C.b dX6_hasLoop_4 rfl (lv_at hl 1 rfl) ?_
    refine lv_aload_n C.x C.b dX6_hasLoop_5 rfl (lv_at hl 0 rfl) ?_
    refine jr_get C G jc6 2 (v := .int (M 6 n0 2)) (show n0 < 2 by omega) (by decide) (by decide) rfl wd274 dX6_hasLoop_6 ?_
    refine lv_icmp_ge (tgt := 22) C.x C.b dX6_hasLoop_9 (by decide) (fun hc => ?_) (fun hc => ?_)
    · have h := h.1 hc
      refine lv_iconst (v := 0) C.x C.b dX6_hasLoop_22 (by decide) ?_
      exact jr_retZ C hr G rfl h (by decide) (by decide) dX6_hasLoop_23
    · have h := h.2 hc
      refine lv_iload_n C.x C.b dX6_hasLoop_12 rfl (lv_at hl 1 rfl) ?_
      refine lv_bipush (v := 6) C.x C.b dX6_hasLoop_13 (by decide) ?_
      refine lv_icmp_ge (tgt := 22) C.x C.b dX6_hasLoop_15 (by decide) (fun hc => ?_) (fun hc => ?_)
      · have h := h.1 hc
        refine lv_iconst (v := 0) C.x C.b dX6_hasLoop_22 (by decide) ?_
        exact jr_retZ C hr G rfl h (by decide) (by decide) dX6_hasLoop_23
      · have h := h.2 hc
        refine lv_iconst (v := 1) C.x C.b dX6_hasLoop_18 (by decide) ?_
        refine lv_goto (tgt := 23) C.x C.b dX6_hasLoop_19 (by decide) ?_
        exact jr_retZ C hr G rfl h (by decide) (by decide) dX6_hasLoop_23

theorem sp_X6_hasLoop {n0 : Nat} {v1 : Int32} {M : jM} {Q : Int32 → Nat → jM → Prop} (ha0 : n0 < 2)  (h : Q (jb (0 ≤ v1 ∧ v1 < M 6 n0 2 ∧ v1 < 6)) 0 M) : ok_X6_hasLoop n0 v1 M Q := by
  refine en_X6_hasLoop (bl_X6_hasLoop_0 n0 v1 M Q ha0 ?_)
  (repeat' first | assumption | apply And.intro | intro _) <;> (try subst_vars) <;> (first | assumption | ((try simp only [jb] at h) <;> (repeat' split at h) <;> first | assumption | (exfalso; simp only [Int32.lt_iff_toInt_lt, Int32.le_iff_toInt_le, ← Int32.toInt_inj] at *; omega)))

theorem en_X8_peek  {M : jM} {Q : Int32 → Nat → jM → Prop} (h : at_X8_peek_0  M Q) : ok_X8_peek  M Q := jr_enter (by decide) (fun g => rfl) (fun g => Nat.le_of_ble_eq_true rfl) h
set_option maxHeartbeats 4000000 in
set_option maxRecDepth 100000 in
theorem bl_X8_peek_0  (M : jM) (Q : Int32 → Nat → jM → Prop) 
  (h : ((M 8 0 3) < 0 → Q 0 0 M) ∧ (¬ ((M 8 0 3) < 0) → ((M 8 0 2) ≤ (M 8 0 3) → Q 0 0 M) ∧ (¬ ((M 8 0 2) ≤ (M 8 0 3)) → (120 ≤ (M 8 0 3) → Q 0 0 M) ∧ (¬ (120 ≤ (M 8 0 3)) → vp_in (M 8 0 3) 120 ∧ narrow .char (.int (M 41 0 (M 8 0 3).toNatClampNeg)) = .int (M 41 0 (M 8 0 3).toNatClampNeg) ∧ Q (M 41 0 (M 8 0 3).toNatClampNeg) 0 M)))) :
  at_X8_peek_0  M Q := by
  intro p l e s m args below meth c D cA base g C hr htb H locs G ls hl
  refine lv_aload_n C.x C.b dX8_peek_0 rfl (lv_at hl 0 rfl) ?_
  refine jr_get C G jc8 3 (v := .int (M 8 0 3)) (show 0 < 1 by decide) (by decide) (by decide) rfl wd239 dX8_peek_1 ?_
  refine lv_if_lt (tgt := 39) C.x C.b dX8_peek_4 (by decide) (fun hc => ?_) (fun hc => ?_)
  · have h := h.1 hc
    refine lv_iconst (v := 0) C.x C.b dX8_peek_39 (by decide) ?_
    exact jr_retZ C hr G rfl h (by decide) (by decide) dX8_peek_40
  · have h := h.2 hc
    refine lv_aload_n C.x C.b dX8_peek_7 rfl (lv_at hl 0 rfl) ?_
    refine jr_get C G jc8 3 (v := .int (M 8 0 3)) (show 0 < 1 by decide) (by decide) (by decide) rfl wd239 dX8_peek_8 ?_
    refine lv_aload_n C.x C.b dX8_peek_11 rfl (lv_at hl 0 rfl) ?_
    refine jr_get C G jc8 2 (v := .int (M 8 0 2)) (show 0 < 1 by decide) (by decide) (by decide) rfl wd237 dX8_peek_12 ?_
    refine lv_icmp_ge (tgt := 39) C.x C.b dX8_peek_15 (by decide) (fun hc => ?_) (fun hc => ?_)
    · have h := h.1 hc
      refine lv_iconst (v := 0) C.x C.b dX8_peek_39 (by decide) ?_
      exact jr_retZ C hr G rfl h (by decide) (by decide) dX8_peek_40
    · have h := h.2 hc
      refine lv_aload_n C.x C.b dX8_peek_18 rfl (lv_at hl 0 rfl) ?_
      refine jr_get C G jc8 3 (v := .int (M 8 0 3)) (show 0 < 1 by decide) (by decide) (by decide) rfl wd239 dX8_peek_19 ?_
      refine lv_bipush (v := 120) C.x C.b dX8_peek_22 (by decide) ?_
      refine lv_icmp_ge (tgt := 39) C.x C.b dX8_peek_24 (by decide) (fun hc => ?_) (fun hc => ?_)
      · have h := h.1 hc
        refine lv_iconst (v := 0) C.x C.b dX8_peek_39 (by decide) ?_
        exact jr_retZ C hr G rfl h (by decide) (by decide) dX8_peek_40
      · have h := h.2 hc
        refine lv_aload_n C.x C.b dX8_peek_27 rfl (lv_at hl 0 rfl) ?_
        refine jr_get C G jc8 0 (v := .ref (g 41 0)) (show 0 < 1 by decide) (by decide) (by decide) rfl wd234 dX8_peek_28 ?_
        refine lv_aload_n C.x C.b dX8_peek_31 rfl (lv_at hl 0 rfl) ?_
        refine jr_get C G jc8 3 (v := .int (M 8 0 3)) (show 0 < 1 by decide) (by decide) (by decide) rfl wd239 dX8_peek_32 ?_
        obtain ⟨hs, h⟩ := h
        refine jr_cald C G (show 0 < 1 by decide) (by decide) (by decide) (by decide) rfl rfl hs dX8_peek_35 ?_
        refine lv_goto (tgt := 40) C.x C.b dX8_peek_36 (by decide) ?_
        obtain ⟨hs, h⟩ := h
        exact jr_retZ C hr G hs h (by decide) (by decide) dX8_peek_40

theorem sp_X8_peek  {M : jM} {Q : Int32 → Nat → jM → Prop}  (s0 : jch M) (h : Q (jpk M) 0 M) : ok_X8_peek  M Q := by
  refine en_X8_peek (bl_X8_peek_0  M Q  ?_)
  unfold jpk at h
  refine ⟨fun q => ?_, fun q => ⟨fun q2 => ?_, fun q2 => ⟨fun q3 => ?_, fun q3 => ⟨jin_of (Int32.not_lt.mp q) (Int32.not_le.mp q3), s0 _, ?_⟩⟩⟩⟩
  · rw [if_neg (fun z => absurd z.1 (Int32.not_le.mpr q))] at h; exact h
  · rw [if_neg (fun z => absurd z.2.1 (Int32.not_lt.mpr q2))] at h; exact h
  · rw [if_neg (fun z => absurd z.2.2 (Int32.not_lt.mpr q3))] at h; exact h
  · rw [if_pos ⟨Int32.not_lt.mp q, Int32.not_le.mp q2, Int32.not_le.mp q3⟩] at h; exact h

theorem en_X8_isDigit {v0 : Int32} {M : jM} {Q : Int32 → Nat → jM → Prop} (h : at_X8_isDigit_0 v0 M Q) : ok_X8_isDigit v0 M Q := jr_enter (by decide) (fun g => rfl) (fun g => Nat.le_of_ble_eq_true rfl) h
set_option maxHeartbeats 4000000 in
set_option maxRecDepth 100000 in
theorem bl_X8_isDigit_0 (v0 : Int32) (M : jM) (Q : Int32 → Nat → jM → Prop) 
  (h : (v0 < 48 → Q 0 0 M) ∧ (¬ (v0 < 48) → (57 < v0 → Q 0 0 M) ∧ (¬ (57 < v0) → Q 1 0 M))) :
  at_X8_isDigit_0 v0 M Q := by
  intro p l e s m args below meth c D cA base g C hr htb H locs G ls hl
  refine lv_iload_n C.x C.b dX8_isDigit_0 rfl (lv_at hl 0 rfl) ?_
  refine lv_bipush (v := 48) C.x C.b dX8_isDigit_1 (by decide) ?_
  refine lv_icmp_lt (tgt := 16) C.x C.b dX8_isDigit_3 (by decide) (fun hc => ?_) (fun hc => ?_)
  · have h := h.1 hc
    refine lv_iconst (v := 0) C.x C.b dX8_isDigit_16 (by decide) ?_
    exact jr_retZ C hr G rfl h (by decide) (by decide) dX8_isDigit_17
  · have h := h.2 hc
    refine lv_iload_n C.x C.b dX8_isDigit_6 rfl (lv_at hl 0 rfl) ?_
    refine lv_bipush (v := 57) C.x C.b dX8_isDigit_7 (by decide) ?_
    refine lv_icmp_gt (tgt := 16) C.x C.b dX8_isDigit_9 (by decide) (fun hc => ?_) (fun hc => ?_)
    · have h := h.1 hc
      refine lv_iconst (v := 0) C.x C.b dX8_isDigit_16 (by decide) ?_
      exact jr_retZ C hr G rfl h (by decide) (by decide) dX8_isDigit_17
    · have h := h.2 hc
      refine lv_iconst (v := 1) C.x C.b dX8_isDigit_12 (by decide) ?_
      refine lv_goto (tgt := 17) C.x C.b dX8_isDigit_13 (by decide) ?_
      exact jr_retZ C hr G rfl h (by decide) (by decide) dX8_isDigit_17

theorem sp_X8_isDigit {v0 : Int32} {M : jM} {Q : Int32 → Nat → jM → Prop}   (h : Q (jb (48 ≤ v0 ∧ v0 ≤ 57)) 0 M) : ok_X8_isDigit v0 M Q := by
  refine en_X8_isDigit (bl_X8_isDigit_0 v0 M Q  ?_)
  (repeat' first | assumption | apply And.intro | intro _) <;> (try subst_vars) <;> (first | assumption | ((try simp only [jb] at h) <;> (repeat' split at h) <;> first | assumption | (exfalso; simp only [Int32.lt_iff_toInt_lt, Int32.le_iff_toInt_le, ← Int32.toInt_inj] at *; omega)))

theorem en_X12_thrown  {M : jM} {Q : Int32 → Nat → jM → Prop} (h : at_X12_thrown_0  M Q) : ok_X12_thrown  M Q := jr_enter (by decide) (fun g => rfl) (fun g => Nat.le_of_ble_eq_true rfl) h
set_option maxHeartbeats 4000000 in
set_option maxRecDepth 100000 in
theorem bl_X12_thrown_0  (M : jM) (Q : Int32 → Nat → jM → Prop) 
  (h : Q (M 11 0 7) 0 M) :
  at_X12_thrown_0  M Q := by
  intro p l e s m args below meth c D cA base g C hr htb H locs G ls hl
  refine lv_aload_n C.x C.b dX12_thrown_0 rfl (lv_at hl 0 rfl) ?_
  refine jr_get C G jc11 7 (v := .int (M 11 0 7)) (show 0 < 1 by decide) (by decide) (by decide) rfl wd1198 dX12_thrown_1 ?_
  exact jr_retI C hr G h (by decide) (by decide) dX12_thrown_4

theorem sp_X12_thrown  {M : jM} {Q : Int32 → Nat → jM → Prop}   (h : Q (M 11 0 7) 0 M) : ok_X12_thrown  M Q := by
  refine en_X12_thrown (bl_X12_thrown_0  M Q  ?_)
  (repeat' first | assumption | apply And.intro | intro _) <;> (try subst_vars) <;> (first | assumption | ((try simp only [jb] at h) <;> (repeat' split at h) <;> first | assumption | (exfalso; simp only [Int32.lt_iff_toInt_lt, Int32.le_iff_toInt_le, ← Int32.toInt_inj] at *; omega)))

theorem en_X12_in {v0 : Int32} {v1 : Int32} {v2 : Int32} {M : jM} {Q : Int32 → Nat → jM → Prop} (h : at_X12_in_0 v0 v1 v2 M Q) : ok_X12_in v0 v1 v2 M Q := jr_enter (by decide) (fun g => rfl) (fun g => Nat.le_of_ble_eq_true rfl) h
set_option maxHeartbeats 4000000 in
set_option maxRecDepth 100000 in
theorem bl_X12_in_0 (v0 : Int32) (v1 : Int32) (v2 : Int32) (M : jM) (Q : Int32 → Nat → jM → Prop) 
  (h : (v0 < v1 → Q 0 0 M) ∧ (¬ (v0 < v1) → (v2 < v0 → Q 0 0 M) ∧ (¬ (v2 < v0) → Q 1 0 M))) :
  at_X12_in_0 v0 v1 v2 M Q := by
  intro p l e s m args below meth c D cA base g C hr htb H locs G ls hl
  refine lv_iload_n C.x C.b dX12_in_0 rfl (lv_at hl 0 rfl) ?_
  refine lv_iload_n C.x C.b dX12_in_1 rfl (lv_at hl 1 rfl) ?_
  refine lv_icmp_lt (tgt := 14) C.x C.b dX12_in_2 (by decide) (fun hc => ?_) (fun hc => ?_)
  · have h := h.1 hc
    refine lv_iconst (v := 0) C.x C.b dX12_in_14 (by decide) ?_
    exact jr_retZ C hr G rfl h (by decide) (by decide) dX12_in_15
  · have h := h.2 hc
    refine lv_iload_n C.x C.b dX12_in_5 rfl (lv_at hl 0 rfl) ?_
    refine lv_iload_n C.x C.b dX12_in_6 rfl (lv_at hl 2 rfl) ?_
    refine lv_icmp_gt (tgt := 14) C.x C.b dX12_in_7 (by decide) (fun hc => ?_) (fun hc => ?_)
    · have h := h.1 hc
      refine lv_iconst (v := 0) C.x C.b dX12_in_14 (by decide) ?_
      exact jr_retZ C hr G rfl h (by decide) (by decide) dX12_in_15
    · have h := h.2 hc
      refine lv_iconst (v := 1) C.x C.b dX12_in_10 (by decide) ?_
      refine lv_goto (tgt := 15) C.x C.b dX12_in_11 (by decide) ?_
      exact jr_retZ C hr G rfl h (by decide) (by decide) dX12_in_15

theorem sp_X12_in {v0 : Int32} {v1 : Int32} {v2 : Int32} {M : jM} {Q : Int32 → Nat → jM → Prop}   (h : Q (jb (v1 ≤ v0 ∧ v0 ≤ v2)) 0 M) : ok_X12_in v0 v1 v2 M Q := by
  refine en_X12_in (bl_X12_in_0 v0 v1 v2 M Q  ?_)
  (repeat' first | assumption | apply And.intro | intro _) <;> (try subst_vars) <;> (first | assumption | ((try simp only [jb] at h) <;> (repeat' split at h) <;> first | assumption | (exfalso; simp only [Int32.lt_iff_toInt_lt, Int32.le_iff_toInt_le, ← Int32.toInt_inj] at *; omega)))

theorem en_X12_refuse {v1 : Int32} {M : jM} {Q : Int32 → Nat → jM → Prop} (h : at_X12_refuse_0 v1 M Q) : ok_X12_refuse v1 M Q := jr_enter (by decide) (fun g => rfl) (fun g => Nat.le_of_ble_eq_true rfl) h
set_option maxHeartbeats 4000000 in
set_option maxRecDepth 100000 in
theorem bl_X12_refuse_0 (v1 : Int32) (M : jM) (Q : Int32 → Nat → jM → Prop) 
  (h : (∀ M1 : jM, M1 = jup M 11 0 7 v1 → Q 0 0 M1)) :
  at_X12_refuse_0 v1 M Q := by
  intro p l e s m args below meth c D cA base g C hr htb H locs G ls hl
  refine lv_aload_n C.x C.b dX12_refuse_0 rfl (lv_at hl 0 rfl) ?_
  refine lv_iload_n C.x C.b dX12_refuse_1 rfl (lv_at hl 1 rfl) ?_
  refine jr_put C G jc11 7 (v := v1) (show 0 < 1 by decide) (by decide) (by decide) rfl (by decide) wd1198 rfl rfl rfl rfl dX12_refuse_2 (fun H locs G => ?_)
  obtain ⟨M1, eM1⟩ : ∃ z : jM, z = jup M 11 0 7 v1 := ⟨_, rfl⟩
  rw [← eM1] at G
  have h := h M1 eM1
  have nM1 : jnb M1 = jnb M := by rw [eM1]; exact jnb_up (by decide)
  refine lv_iconst (v := 0) C.x C.b dX12_refuse_5 (by decide) ?_
  exact jr_retI C hr G h (by decide) (by decide) dX12_refuse_6

theorem sp_X12_refuse {v1 : Int32} {M : jM} {Q : Int32 → Nat → jM → Prop}   (h : Q 0 0 (jup M 11 0 7 v1)) : ok_X12_refuse v1 M Q := by
  refine en_X12_refuse (bl_X12_refuse_0 v1 M Q  ?_)
  (repeat' first | assumption | apply And.intro | intro _) <;> (try subst_vars) <;> (first | assumption | ((try simp only [jb] at h) <;> (repeat' split at h) <;> first | assumption | (exfalso; simp only [Int32.lt_iff_toInt_lt, Int32.le_iff_toInt_le, ← Int32.toInt_inj] at *; omega)))

theorem en_X12_of {v1 : Int32} {v2 : Int32} {M : jM} {Q : Int32 → Nat → jM → Prop} (h : at_X12_of_0 v1 v2 M Q) : ok_X12_of v1 v2 M Q := jr_enter (by decide) (fun g => rfl) (fun g => Nat.le_of_ble_eq_true rfl) h
set_option maxHeartbeats 4000000 in
set_option maxRecDepth 100000 in
theorem bl_X12_of_0 (v1 : Int32) (v2 : Int32) (M : jM) (Q : Int32 → Nat → jM → Prop) 
  (h : vp_in ((585 * v1) + v2) 3510 ∧ Q (M 50 0 ((585 * v1) + v2).toNatClampNeg) 0 M) :
  at_X12_of_0 v1 v2 M Q := by
  intro p l e s m args below meth c D cA base g C hr htb H locs G ls hl
  refine lv_aload_n C.x C.b dX12_of_0 rfl (lv_at hl 0 rfl) ?_
  refine jr_get C G jc11 1 (v := .ref (g 50 0)) (show 0 < 1 by decide) (by decide) (by decide) rfl wd1192 dX12_of_1 ?_
  refine lv_sipush (v := 585) C.x C.b dX12_of_4 (by decide) ?_
  refine lv_iload_n C.x C.b dX12_of_7 rfl (lv_at hl 1 rfl) ?_
  refine lv_imul C.x C.b dX12_of_8 ?_
  refine lv_iload_n C.x C.b dX12_of_9 rfl (lv_at hl 2 rfl) ?_
  refine lv_iadd C.x C.b dX12_of_10 ?_
  obtain ⟨hs, h⟩ := h
  refine jr_ald C G (show 0 < 1 by decide) (by decide) (by decide) (by decide) rfl rfl hs dX12_of_11 ?_
  exact jr_retI C hr G h (by decide) (by decide) dX12_of_12

theorem sp_X12_of {v1 : Int32} {v2 : Int32} {M : jM} {Q : Int32 → Nat → jM → Prop}  (s0 : vp_in (585 * v1 + v2) 3510) (h : Q (M 50 0 (585 * v1 + v2).toNatClampNeg) 0 M) : ok_X12_of v1 v2 M Q := by
  refine en_X12_of (bl_X12_of_0 v1 v2 M Q  ?_)
  (repeat' first | assumption | apply And.intro | intro _) <;> (try subst_vars) <;> (first | assumption | ((try simp only [jb] at h) <;> (repeat' split at h) <;> first | assumption | (exfalso; simp only [Int32.lt_iff_toInt_lt, Int32.le_iff_toInt_le, ← Int32.toInt_inj] at *; omega)))

theorem en_X12_here  {M : jM} {Q : Int32 → Nat → jM → Prop} (h : at_X12_here_0  M Q) : ok_X12_here  M Q := jr_enter (by decide) (fun g => rfl) (fun g => Nat.le_of_ble_eq_true rfl) h
set_option maxHeartbeats 4000000 in
set_option maxRecDepth 100000 in
theorem bl_X12_here_0  (M : jM) (Q : Int32 → Nat → jM → Prop) 
  (h : ((M 11 0 11) ≤ (M 11 0 12) → Q (-1) 0 M) ∧ (¬ ((M 11 0 11) ≤ (M 11 0 12)) → vp_in (M 11 0 12) 120 ∧ Q (M 54 0 (M 11 0 12).toNatClampNeg) 0 M)) :
  at_X12_here_0  M Q := by
  intro p l e s m args below meth c D cA base g C hr htb H locs G ls hl
  refine lv_aload_n C.x C.b dX12_here_0 rfl (lv_at hl 0 rfl) ?_
  refine jr_get C G jc11 12 (v := .int (M 11 0 12)) (show 0 < 1 by decide) (by decide) (by decide) rfl wd1203 dX12_here_1 ?_
  refine lv_aload_n C.x C.b dX12_here_4 rfl (lv_at hl 0 rfl) ?_
  refine jr_get C G jc11 11 (v := .int (M 11 0 11)) (show 0 < 1 by decide) (by decide) (by decide) rfl wd1202 dX12_here_5 ?_
  refine lv_icmp_ge (tgt := 23) C.x C.b dX12_here_8 (by decide) (fun hc => ?_) (fun hc => ?_)
  · have h := h.1 hc
    refine lv_iconst (v := (-1)) C.x C.b dX12_here_23 (by decide) ?_
    exact jr_retI C hr G h (by decide) (by decide) dX12_here_24
  · have h := h.2 hc
    refine lv_aload_n C.x C.b dX12_here_11 rfl (lv_at hl 0 rfl) ?_
    refine jr_get C G jc11 9 (v := .ref (g 54 0)) (show 0 < 1 by decide) (by decide) (by decide) rfl wd1200 dX12_here_12 ?_
    refine lv_aload_n C.x C.b dX12_here_15 rfl (lv_at hl 0 rfl) ?_
    refine jr_get C G jc11 12 (v := .int (M 11 0 12)) (show 0 < 1 by decide) (by decide) (by decide) rfl wd1203 dX12_here_16 ?_
    obtain ⟨hs, h⟩ := h
    refine jr_ald C G (show 0 < 1 by decide) (by decide) (by decide) (by decide) rfl rfl hs dX12_here_19 ?_
    refine lv_goto (tgt := 24) C.x C.b dX12_here_20 (by decide) ?_
    exact jr_retI C hr G h (by decide) (by decide) dX12_here_24

theorem sp_X12_here  {M : jM} {Q : Int32 → Nat → jM → Prop}  (s0 : M 11 0 12 < M 11 0 11 → vp_in (M 11 0 12) 120) (h : Q (jhr M) 0 M) : ok_X12_here  M Q := by
  refine en_X12_here (bl_X12_here_0  M Q  ?_)
  unfold jhr at h
  refine ⟨fun q => ?_, fun q => ⟨s0 (Int32.not_le.mp q), ?_⟩⟩
  · rw [if_neg (Int32.not_lt.mpr q)] at h; exact h
  · rw [if_pos (Int32.not_le.mp q)] at h; exact h

theorem en_X12_set {v1 : Int32} {v2 : Int32} {M : jM} {Q : Int32 → Nat → jM → Prop} (h : at_X12_set_0 v1 v2 M Q) : ok_X12_set v1 v2 M Q := jr_enter (by decide) (fun g => rfl) (fun g => Nat.le_of_ble_eq_true rfl) h
set_option maxHeartbeats 4000000 in
set_option maxRecDepth 100000 in
theorem bl_X12_set_0 (v1 : Int32) (v2 : Int32) (M : jM) (Q : Int32 → Nat → jM → Prop) 
  (h : vp_in ((585 * (M 11 0 14)) + v1) 11700 ∧ (∀ M1 : jM, M1 = jup M 55 0 ((585 * (M 11 0 14)) + v1).toNatClampNeg v2 → Q 0 0 M1)) :
  at_X12_set_0 v1 v2 M Q := by
  intro p l e s m args below meth c D cA base g C hr htb H locs G ls hl
  refine lv_aload_n C.x C.b dX12_set_0 rfl (lv_at hl 0 rfl) ?_
  refine jr_get C G jc11 15 (v := .ref (g 55 0)) (show 0 < 1 by decide) (by decide) (by decide) rfl wd1206 dX12_set_1 ?_
  refine lv_sipush (v := 585) C.x C.b dX12_set_4 (by decide) ?_
  refine lv_aload_n C.x C.b dX12_set_7 rfl (lv_at hl 0 rfl) ?_
  refine jr_get C G jc11 14 (v := .int (M 11 0 14)) (show 0 < 1 by decide) (by decide) (by decide) rfl wd1205 dX12_set_8 ?_
  refine lv_imul C.x C.b dX12_set_11 ?_
  refine lv_iload_n C.x C.b dX12_set_12 rfl (lv_at hl 1 rfl) ?_
  refine lv_iadd C.x C.b dX12_set_13 ?_
  refine lv_iload_n C.x C.b dX12_set_14 rfl (lv_at hl 2 rfl) ?_
  obtain ⟨hs, h⟩ := h
  refine jr_ast C G (show 0 < 1 by decide) (by decide) (by decide) (by decide) rfl rfl hs dX12_set_15 (fun H locs G => ?_)
  obtain ⟨M1, eM1⟩ : ∃ z : jM, z = jup M 55 0 ((585 * (M 11 0 14)) + v1).toNatClampNeg v2 := ⟨_, rfl⟩
  rw [← eM1] at G
  have h := h M1 eM1
  have nM1 : jnb M1 = jnb M := by rw [eM1]; exact jnb_up (by decide)
  exact jr_retV C hr G h (by decide) (by decide) dX12_set_16

theorem sp_X12_set {v1 : Int32} {v2 : Int32} {M : jM} {Q : Int32 → Nat → jM → Prop}  (s0 : vp_in (585 * M 11 0 14 + v1) 11700) (h : Q 0 0 (jup M 55 0 (585 * M 11 0 14 + v1).toNatClampNeg v2)) : ok_X12_set v1 v2 M Q := by
  refine en_X12_set (bl_X12_set_0 v1 v2 M Q  ?_)
  (repeat' first | assumption | apply And.intro | intro _) <;> (try subst_vars) <;> (first | assumption | ((try simp only [jb] at h) <;> (repeat' split at h) <;> first | assumption | (exfalso; simp only [Int32.lt_iff_toInt_lt, Int32.le_iff_toInt_le, ← Int32.toInt_inj] at *; omega)))

theorem en_X12_get {v1 : Int32} {M : jM} {Q : Int32 → Nat → jM → Prop} (h : at_X12_get_0 v1 M Q) : ok_X12_get v1 M Q := jr_enter (by decide) (fun g => rfl) (fun g => Nat.le_of_ble_eq_true rfl) h
set_option maxHeartbeats 4000000 in
set_option maxRecDepth 100000 in
theorem bl_X12_get_0 (v1 : Int32) (M : jM) (Q : Int32 → Nat → jM → Prop) 
  (h : vp_in ((585 * (M 11 0 14)) + v1) 11700 ∧ Q (M 55 0 ((585 * (M 11 0 14)) + v1).toNatClampNeg) 0 M) :
  at_X12_get_0 v1 M Q := by
  intro p l e s m args below meth c D cA base g C hr htb H locs G ls hl
  refine lv_aload_n C.x C.b dX12_get_0 rfl (lv_at hl 0 rfl) ?_
  refine jr_get C G jc11 15 (v := .ref (g 55 0)) (show 0 < 1 by decide) (by decide) (by decide) rfl wd1206 dX12_get_1 ?_
  refine lv_sipush (v := 585) C.x C.b dX12_get_4 (by decide) ?_
  refine lv_aload_n C.x C.b dX12_get_7 rfl (lv_at hl 0 rfl) ?_
  refine jr_get C G jc11 14 (v := .int (M 11 0 14)) (show 0 < 1 by decide) (by decide) (by decide) rfl wd1205 dX12_get_8 ?_
  refine lv_imul C.x C.b dX12_get_11 ?_
  refine lv_iload_n C.x C.b dX12_get_12 rfl (lv_at hl 1 rfl) ?_
  refine lv_iadd C.x C.b dX12_get_13 ?_
  obtain ⟨hs, h⟩ := h
  refine jr_ald C G (show 0 < 1 by decide) (by decide) (by decide) (by decide) rfl rfl hs dX12_get_14 ?_
  exact jr_retI C hr G h (by decide) (by decide) dX12_get_15

theorem sp_X12_get {v1 : Int32} {M : jM} {Q : Int32 → Nat → jM → Prop}  (s0 : vp_in (585 * M 11 0 14 + v1) 11700) (h : Q (M 55 0 (585 * M 11 0 14 + v1).toNatClampNeg) 0 M) : ok_X12_get v1 M Q := by
  refine en_X12_get (bl_X12_get_0 v1 M Q  ?_)
  (repeat' first | assumption | apply And.intro | intro _) <;> (try subst_vars) <;> (first | assumption | ((try simp only [jb] at h) <;> (repeat' split at h) <;> first | assumption | (exfalso; simp only [Int32.lt_iff_toInt_lt, Int32.le_iff_toInt_le, ← Int32.toInt_inj] at *; omega)))

theorem en_X12_initial {v1 : Int32} {v2 : Int32} {M : jM} {Q : Int32 → Nat → jM → Prop} (h : at_X12_initial_0 v1 v2 M Q) : ok_X12_initial v1 v2 M Q := jr_enter (by decide) (fun g => rfl) (fun g => Nat.le_of_ble_eq_true rfl) h
set_option maxHeartbeats 4000000 in
set_option maxRecDepth 100000 in
theorem bl_X12_initial_0 (v1 : Int32) (v2 : Int32) (M : jM) (Q : Int32 → Nat → jM → Prop) 
  (h : Q (((v1 + 1) * (M 51 0 (2 : Int32).toNatClampNeg)) + (7 * v2)) 0 M) :
  at_X12_initial_0 v1 v2 M Q := by
  intro p l e s m args below meth c D cA base g C hr htb H locs G ls hl
  refine lv_iload_n C.x C.b dX12_initial_0 rfl (lv_at hl 1 rfl) ?_
  refine lv_iconst (v := 1) C.x C.b dX12_initial_1 (by decide) ?_
  refine lv_iadd C.x C.b dX12_initial_2 ?_
  refine lv_aload_n C.x C.b dX12_initial_3 rfl (lv_at hl 0 rfl) ?_
  refine jr_get C G jc11 2 (v := .ref (g 51 0)) (show 0 < 1 by decide) (by decide) (by decide) rfl wd1193 dX12_initial_4 ?_
  refine lv_iconst (v := 2) C.x C.b dX12_initial_7 (by decide) ?_
  refine jr_ald C G (show 0 < 1 by decide) (by decide) (by decide) (by decide) rfl rfl (by unfold vp_in; decide) dX12_initial_8 ?_
  refine lv_imul C.x C.b dX12_initial_9 ?_
  refine lv_bipush (v := 7) C.x C.b dX12_initial_10 (by decide) ?_
  refine lv_iload_n C.x C.b dX12_initial_12 rfl (lv_at hl 2 rfl) ?_
  refine lv_imul C.x C.b dX12_initial_13 ?_
  refine lv_iadd C.x C.b dX12_initial_14 ?_
  exact jr_retI C hr G h (by decide) (by decide) dX12_initial_15

theorem sp_X12_initial {v1 : Int32} {v2 : Int32} {M : jM} {Q : Int32 → Nat → jM → Prop}   (h : Q ((v1 + 1) * M 51 0 2 + 7 * v2) 0 M) : ok_X12_initial v1 v2 M Q := by
  refine en_X12_initial (bl_X12_initial_0 v1 v2 M Q  ?_)
  (repeat' first | assumption | apply And.intro | intro _) <;> (try subst_vars) <;> (first | assumption | ((try simp only [jb] at h) <;> (repeat' split at h) <;> first | assumption | (exfalso; simp only [Int32.lt_iff_toInt_lt, Int32.le_iff_toInt_le, ← Int32.toInt_inj] at *; omega)))

theorem en_X12_isLoop {v1 : Int32} {M : jM} {Q : Int32 → Nat → jM → Prop} (h : at_X12_isLoop_0 v1 M Q) : ok_X12_isLoop v1 M Q := jr_enter (by decide) (fun g => rfl) (fun g => Nat.le_of_ble_eq_true rfl) h
set_option maxHeartbeats 4000000 in
set_option maxRecDepth 100000 in
theorem bl_X12_isLoop_0 (v1 : Int32) (M : jM) (Q : Int32 → Nat → jM → Prop) 
  (h : Q (jb (0 ≤ v1 ∧ v1 ≤ ((M 11 0 0) - 1))) 0 M) :
  at_X12_isLoop_0 v1 M Q := by
  intro p l e s m args below meth c D cA base g C hr htb H locs G ls hl
  refine lv_iload_n C.x C.b dX12_isLoop_0 rfl (lv_at hl 1 rfl) ?_
  refine lv_iconst (v := 0) C.x C.b dX12_isLoop_1 (by decide) ?_
  refine lv_aload_n C.x C.b dX12_isLoop_2 rfl (lv_at hl 0 rfl) ?_
  refine jr_get C G jc11 0 (v := .int (M 11 0 0)) (show 0 < 1 by decide) (by decide) (by decide) rfl wd1191 dX12_isLoop_3 ?_
  refine lv_iconst (v := 1) C.x C.b dX12_isLoop_6 (by decide) ?_
  refine lv_isub C.x C.b dX12_isLoop_7 ?_
  refine jr_S (d' := 1) C G jm_X12_in wd1293 (sp_X12_in ⟨rfl, rfl⟩ : ok_X12_in v1 0 ((M 11 0 0) - 1) M (fun r _ M' => jb (0 ≤ v1 ∧ v1 ≤ ((M 11 0 0) - 1)) = r ∧ M = M')) rfl rfl rfl (by omega) (by decide) (by decide) ⟨rfl, rfl⟩ hl.1 (Nat.le_of_ble_eq_true rfl) dX12_isLoop_8 (fun r1 r1n M2 H locs hq G => ?_)
  obtain ⟨eq1, eq2⟩ := hq
  subst eq1
  subst eq2
  exact jr_retZ C hr G (jz_n jb_01) h (by decide) (by decide) dX12_isLoop_11

theorem sp_X12_isLoop {v1 : Int32} {M : jM} {Q : Int32 → Nat → jM → Prop}   (h : Q (jb (0 ≤ v1 ∧ v1 ≤ M 11 0 0 - 1)) 0 M) : ok_X12_isLoop v1 M Q := by
  refine en_X12_isLoop (bl_X12_isLoop_0 v1 M Q  ?_)
  (repeat' first | assumption | apply And.intro | intro _) <;> (try subst_vars) <;> (first | assumption | ((try simp only [jb] at h) <;> (repeat' split at h) <;> first | assumption | (exfalso; simp only [Int32.lt_iff_toInt_lt, Int32.le_iff_toInt_le, ← Int32.toInt_inj] at *; omega)))

theorem en_X12_arrayOf {v1 : Int32} {v2 : Int32} {M : jM} {Q : Int32 → Nat → jM → Prop} (h : at_X12_arrayOf_0 v1 v2 M Q) : ok_X12_arrayOf v1 v2 M Q := jr_enter (by decide) (fun g => rfl) (fun g => Nat.le_of_ble_eq_true rfl) h
set_option maxHeartbeats 4000000 in
set_option maxRecDepth 100000 in
theorem bl_X12_arrayOf_0 (v1 : Int32) (v2 : Int32) (M : jM) (Q : Int32 → Nat → jM → Prop) 
  (h : (vp_in (585 * v1 + (5 + v2)) 3510) ∧ Q (M 50 0 (585 * v1 + (5 + v2)).toNatClampNeg) 0 M) :
  at_X12_arrayOf_0 v1 v2 M Q := by
  intro p l e s m args below meth c D cA base g C hr htb H locs G ls hl
  refine lv_aload_n C.x C.b dX12_arrayOf_0 rfl (lv_at hl 0 rfl) ?_
  refine lv_iload_n C.x C.b dX12_arrayOf_1 rfl (lv_at hl 1 rfl) ?_
  refine lv_iconst (v := 5) C.x C.b dX12_arrayOf_2 (by decide) ?_
  refine lv_iload_n C.x C.b dX12_arrayOf_3 rfl (lv_at hl 2 rfl) ?_
  refine lv_iadd C.x C.b dX12_arrayOf_4 ?_
  obtain ⟨hp3, h⟩ := h
  refine jr_V (d' := 1) C G jc11 jm_X12_of wd1384 (sp_X12_of hp3 ⟨rfl, rfl⟩ : ok_X12_of v1 (5 + v2) M (fun r _ M' => (M 50 0 (585 * v1 + (5 + v2)).toNatClampNeg) = r ∧ M = M')) rfl (show 0 < 1 by decide) (by decide) rfl rfl (by omega) (by decide) (by decide) ⟨rfl, rfl⟩ hl.1 (Nat.le_of_ble_eq_true rfl) dX12_arrayOf_5 (fun r1 r1n M2 H locs hq G => ?_)
  obtain ⟨eq1, eq2⟩ := hq
  subst eq1
  subst eq2
  exact jr_retI C hr G h (by decide) (by decide) dX12_arrayOf_8

theorem sp_X12_arrayOf {v1 : Int32} {v2 : Int32} {M : jM} {Q : Int32 → Nat → jM → Prop}  (s0 : vp_in (585 * v1 + (5 + v2)) 3510) (h : Q (M 50 0 (585 * v1 + (5 + v2)).toNatClampNeg) 0 M) : ok_X12_arrayOf v1 v2 M Q := by
  refine en_X12_arrayOf (bl_X12_arrayOf_0 v1 v2 M Q  ?_)
  (repeat' first | assumption | apply And.intro | intro _) <;> (try subst_vars) <;> (first | assumption | ((try simp only [jb] at h) <;> (repeat' split at h) <;> first | assumption | (exfalso; simp only [Int32.lt_iff_toInt_lt, Int32.le_iff_toInt_le, ← Int32.toInt_inj] at *; omega)))

theorem en_X12_offsetOf {v1 : Int32} {v2 : Int32} {M : jM} {Q : Int32 → Nat → jM → Prop} (h : at_X12_offsetOf_0 v1 v2 M Q) : ok_X12_offsetOf v1 v2 M Q := jr_enter (by decide) (fun g => rfl) (fun g => Nat.le_of_ble_eq_true rfl) h
set_option maxHeartbeats 4000000 in
set_option maxRecDepth 100000 in
theorem bl_X12_offsetOf_0 (v1 : Int32) (v2 : Int32) (M : jM) (Q : Int32 → Nat → jM → Prop) 
  (h : (vp_in (585 * v1 + (29 + v2)) 3510) ∧ Q (M 50 0 (585 * v1 + (29 + v2)).toNatClampNeg) 0 M) :
  at_X12_offsetOf_0 v1 v2 M Q := by
  intro p l e s m args below meth c D cA base g C hr htb H locs G ls hl
  refine lv_aload_n C.x C.b dX12_offsetOf_0 rfl (lv_at hl 0 rfl) ?_
  refine lv_iload_n C.x C.b dX12_offsetOf_1 rfl (lv_at hl 1 rfl) ?_
  refine lv_bipush (v := 29) C.x C.b dX12_offsetOf_2 (by decide) ?_
  refine lv_iload_n C.x C.b dX12_offsetOf_4 rfl (lv_at hl 2 rfl) ?_
  refine lv_iadd C.x C.b dX12_offsetOf_5 ?_
  obtain ⟨hp3, h⟩ := h
  refine jr_V (d' := 1) C G jc11 jm_X12_of wd1384 (sp_X12_of hp3 ⟨rfl, rfl⟩ : ok_X12_of v1 (29 + v2) M (fun r _ M' => (M 50 0 (585 * v1 + (29 + v2)).toNatClampNeg) = r ∧ M = M')) rfl (show 0 < 1 by decide) (by decide) rfl rfl (by omega) (by decide) (by decide) ⟨rfl, rfl⟩ hl.1 (Nat.le_of_ble_eq_true rfl) dX12_offsetOf_6 (fun r1 r1n M2 H locs hq G => ?_)
  obtain ⟨eq1, eq2⟩ := hq
  subst eq1
  subst eq2
  exact jr_retI C hr G h (by decide) (by decide) dX12_offsetOf_9

theorem sp_X12_offsetOf {v1 : Int32} {v2 : Int32} {M : jM} {Q : Int32 → Nat → jM → Prop}  (s0 : vp_in (585 * v1 + (29 + v2)) 3510) (h : Q (M 50 0 (585 * v1 + (29 + v2)).toNatClampNeg) 0 M) : ok_X12_offsetOf v1 v2 M Q := by
  refine en_X12_offsetOf (bl_X12_offsetOf_0 v1 v2 M Q  ?_)
  (repeat' first | assumption | apply And.intro | intro _) <;> (try subst_vars) <;> (first | assumption | ((try simp only [jb] at h) <;> (repeat' split at h) <;> first | assumption | (exfalso; simp only [Int32.lt_iff_toInt_lt, Int32.le_iff_toInt_le, ← Int32.toInt_inj] at *; omega)))

theorem en_X12_isWrite {v1 : Int32} {v2 : Int32} {M : jM} {Q : Int32 → Nat → jM → Prop} (h : at_X12_isWrite_0 v1 v2 M Q) : ok_X12_isWrite v1 v2 M Q := jr_enter (by decide) (fun g => rfl) (fun g => Nat.le_of_ble_eq_true rfl) h
set_option maxHeartbeats 4000000 in
set_option maxRecDepth 100000 in
theorem bl_X12_isWrite_0 (v1 : Int32) (v2 : Int32) (M : jM) (Q : Int32 → Nat → jM → Prop) 
  (h : (vp_in (585 * v1 + (53 + v2)) 3510) ∧ ((M 50 0 (585 * v1 + (53 + v2)).toNatClampNeg) = 1 → Q 1 0 M) ∧ (¬ ((M 50 0 (585 * v1 + (53 + v2)).toNatClampNeg) = 1) → Q 0 0 M)) :
  at_X12_isWrite_0 v1 v2 M Q := by
  intro p l e s m args below meth c D cA base g C hr htb H locs G ls hl
  refine lv_aload_n C.x C.b dX12_isWrite_0 rfl (lv_at hl 0 rfl) ?_
  refine lv_iload_n C.x C.b dX12_isWrite_1 rfl (lv_at hl 1 rfl) ?_
  refine lv_bipush (v := 53) C.x C.b dX12_isWrite_2 (by decide) ?_
  refine lv_iload_n C.x C.b dX12_isWrite_4 rfl (lv_at hl 2 rfl) ?_
  refine lv_iadd C.x C.b dX12_isWrite_5 ?_
  obtain ⟨hp3, h⟩ := h
  refine jr_V (d' := 1) C G jc11 jm_X12_of wd1384 (sp_X12_of hp3 ⟨rfl, rfl⟩ : ok_X12_of v1 (53 + v2) M (fun r _ M' => (M 50 0 (585 * v1 + (53 + v2)).toNatClampNeg) = r ∧ M = M')) rfl (show 0 < 1 by decide) (by decide) rfl rfl (by omega) (by decide) (by decide) ⟨rfl, rfl⟩ hl.1 (Nat.le_of_ble_eq_true rfl) dX12_isWrite_6 (fun r1 r1n M2 H locs hq G => ?_)
  obtain ⟨eq1, eq2⟩ := hq
  subst eq1
  subst eq2
  refine lv_iconst (v := 1) C.x C.b dX12_isWrite_9 (by decide) ?_
  refine lv_icmp_ne (tgt := 17) C.x C.b dX12_isWrite_10 (by decide) (fun hc => ?_) (fun hc => ?_)
  · have h := h.2 hc
    refine lv_iconst (v := 0) C.x C.b dX12_isWrite_17 (by decide) ?_
    exact jr_retZ C hr G rfl h (by decide) (by decide) dX12_isWrite_18
  · have h := h.1 hc
    refine lv_iconst (v := 1) C.x C.b dX12_isWrite_13 (by decide) ?_
    refine lv_goto (tgt := 18) C.x C.b dX12_isWrite_14 (by decide) ?_
    exact jr_retZ C hr G rfl h (by decide) (by decide) dX12_isWrite_18

theorem sp_X12_isWrite {v1 : Int32} {v2 : Int32} {M : jM} {Q : Int32 → Nat → jM → Prop}  (s0 : vp_in (585 * v1 + (53 + v2)) 3510) (h : Q (jb (M 50 0 (585 * v1 + (53 + v2)).toNatClampNeg = 1)) 0 M) : ok_X12_isWrite v1 v2 M Q := by
  refine en_X12_isWrite (bl_X12_isWrite_0 v1 v2 M Q  ?_)
  (repeat' first | assumption | apply And.intro | intro _) <;> (try subst_vars) <;> (first | assumption | ((try simp only [jb] at h) <;> (repeat' split at h) <;> first | assumption | (exfalso; simp only [Int32.lt_iff_toInt_lt, Int32.le_iff_toInt_le, ← Int32.toInt_inj] at *; omega)))

theorem en_X12_tokenOf {v1 : Int32} {v2 : Int32} {v3 : Int32} {M : jM} {Q : Int32 → Nat → jM → Prop} (h : at_X12_tokenOf_0 v1 v2 v3 M Q) : ok_X12_tokenOf v1 v2 v3 M Q := jr_enter (by decide) (fun g => rfl) (fun g => Nat.le_of_ble_eq_true rfl) h
set_option maxHeartbeats 4000000 in
set_option maxRecDepth 100000 in
theorem bl_X12_tokenOf_0 (v1 : Int32) (v2 : Int32) (v3 : Int32) (M : jM) (Q : Int32 → Nat → jM → Prop) 
  (h : (vp_in (585 * v1 + ((105 + (120 * v2)) + v3)) 3510) ∧ Q (M 50 0 (585 * v1 + ((105 + (120 * v2)) + v3)).toNatClampNeg) 0 M) :
  at_X12_tokenOf_0 v1 v2 v3 M Q := by
  intro p l e s m args below meth c D cA base g C hr htb H locs G ls hl
  refine lv_aload_n C.x C.b dX12_tokenOf_0 rfl (lv_at hl 0 rfl) ?_
  refine lv_iload_n C.x C.b dX12_tokenOf_1 rfl (lv_at hl 1 rfl) ?_
  refine lv_bipush (v := 105) C.x C.b dX12_tokenOf_2 (by decide) ?_
  refine lv_bipush (v := 120) C.x C.b dX12_tokenOf_4 (by decide) ?_
  refine lv_iload_n C.x C.b dX12_tokenOf_6 rfl (lv_at hl 2 rfl) ?_
  refine lv_imul C.x C.b dX12_tokenOf_7 ?_
  refine lv_iadd C.x C.b dX12_tokenOf_8 ?_
  refine lv_iload_n C.x C.b dX12_tokenOf_9 rfl (lv_at hl 3 rfl) ?_
  refine lv_iadd C.x C.b dX12_tokenOf_10 ?_
  obtain ⟨hp3, h⟩ := h
  refine jr_V (d' := 1) C G jc11 jm_X12_of wd1384 (sp_X12_of hp3 ⟨rfl, rfl⟩ : ok_X12_of v1 ((105 + (120 * v2)) + v3) M (fun r _ M' => (M 50 0 (585 * v1 + ((105 + (120 * v2)) + v3)).toNatClampNeg) = r ∧ M = M')) rfl (show 0 < 1 by decide) (by decide) rfl rfl (by omega) (by decide) (by decide) ⟨rfl, rfl⟩ hl.1 (Nat.le_of_ble_eq_true rfl) dX12_tokenOf_11 (fun r1 r1n M2 H locs hq G => ?_)
  obtain ⟨eq1, eq2⟩ := hq
  subst eq1
  subst eq2
  exact jr_retI C hr G h (by decide) (by decide) dX12_tokenOf_14

theorem sp_X12_tokenOf {v1 : Int32} {v2 : Int32} {v3 : Int32} {M : jM} {Q : Int32 → Nat → jM → Prop}  (s0 : vp_in (585 * v1 + ((105 + 120 * v2) + v3)) 3510) (h : Q (M 50 0 (585 * v1 + ((105 + 120 * v2) + v3)).toNatClampNeg) 0 M) : ok_X12_tokenOf v1 v2 v3 M Q := by
  refine en_X12_tokenOf (bl_X12_tokenOf_0 v1 v2 v3 M Q  ?_)
  (repeat' first | assumption | apply And.intro | intro _) <;> (try subst_vars) <;> (first | assumption | ((try simp only [jb] at h) <;> (repeat' split at h) <;> first | assumption | (exfalso; simp only [Int32.lt_iff_toInt_lt, Int32.le_iff_toInt_le, ← Int32.toInt_inj] at *; omega)))

theorem en_X12_isIteration {v1 : Int32} {v2 : Int32} {M : jM} {Q : Int32 → Nat → jM → Prop} (h : at_X12_isIteration_0 v1 v2 M Q) : ok_X12_isIteration v1 v2 M Q := jr_enter (by decide) (fun g => rfl) (fun g => Nat.le_of_ble_eq_true rfl) h
set_option maxHeartbeats 4000000 in
set_option maxRecDepth 100000 in
theorem bl_X12_isIteration_0 (v1 : Int32) (v2 : Int32) (M : jM) (Q : Int32 → Nat → jM → Prop) 
  (h : (vp_in (585 * v1 + 0) 3510) ∧ (vp_in (585 * v1 + 1) 3510) ∧ Q (jb ((M 50 0 (585 * v1 + 0).toNatClampNeg) ≤ v2 ∧ v2 ≤ (M 50 0 (585 * v1 + 1).toNatClampNeg))) 0 M) :
  at_X12_isIteration_0 v1 v2 M Q := by
  intro p l e s m args below meth c D cA base g C hr htb H locs G ls hl
  refine lv_iload_n C.x C.b dX12_isIteration_0 rfl (lv_at hl 2 rfl) ?_
  refine lv_aload_n C.x C.b dX12_isIteration_1 rfl (lv_at hl 0 rfl) ?_
  refine lv_iload_n C.x C.b dX12_isIteration_2 rfl (lv_at hl 1 rfl) ?_
  refine lv_iconst (v := 0) C.x C.b dX12_isIteration_3 (by decide) ?_
  obtain ⟨hp3, h⟩ := h
  refine jr_V (d' := 1) C G jc11 jm_X12_of wd1384 (sp_X12_of hp3 ⟨rfl, rfl⟩ : ok_X12_of v1 0 M (fun r _ M' => (M 50 0 (585 * v1 + 0).toNatClampNeg) = r ∧ M = M')) rfl (show 0 < 1 by decide) (by decide) rfl rfl (by omega) (by decide) (by decide) ⟨rfl, rfl⟩ hl.1 (Nat.le_of_ble_eq_true rfl) dX12_isIteration_4 (fun r1 r1n M2 H locs hq G => ?_)
  obtain ⟨eq1, eq2⟩ := hq
  subst eq1
  subst eq2
  refine lv_aload_n C.x C.b dX12_isIteration_7 rfl (lv_at hl 0 rfl) ?_
  refine lv_iload_n C.x C.b dX12_isIteration_8 rfl (lv_at hl 1 rfl) ?_
  refine lv_iconst (v := 1) C.x C.b dX12_isIteration_9 (by decide) ?_
  obtain ⟨hp6, h⟩ := h
  refine jr_V (d' := 1) C G jc11 jm_X12_of wd1384 (sp_X12_of hp6 ⟨rfl, rfl⟩ : ok_X12_of v1 1 M (fun r _ M' => (M 50 0 (585 * v1 + 1).toNatClampNeg) = r ∧ M = M')) rfl (show 0 < 1 by decide) (by decide) rfl rfl (by omega) (by decide) (by decide) ⟨rfl, rfl⟩ hl.1 (Nat.le_of_ble_eq_true rfl) dX12_isIteration_10 (fun r4 r4n M5 H locs hq G => ?_)
  obtain ⟨eq1, eq2⟩ := hq
  subst eq1
  subst eq2
  refine jr_S (d' := 1) C G jm_X12_in wd1293 (sp_X12_in ⟨rfl, rfl⟩ : ok_X12_in v2 (M 50 0 (585 * v1 + 0).toNatClampNeg) (M 50 0 (585 * v1 + 1).toNatClampNeg) M (fun r _ M' => jb ((M 50 0 (585 * v1 + 0).toNatClampNeg) ≤ v2 ∧ v2 ≤ (M 50 0 (585 * v1 + 1).toNatClampNeg)) = r ∧ M = M')) rfl rfl rfl (by omega) (by decide) (by decide) ⟨rfl, rfl⟩ hl.1 (Nat.le_of_ble_eq_true rfl) dX12_isIteration_13 (fun r7 r7n M8 H locs hq G => ?_)
  obtain ⟨eq1, eq2⟩ := hq
  subst eq1
  subst eq2
  exact jr_retZ C hr G (jz_n jb_01) h (by decide) (by decide) dX12_isIteration_16

theorem sp_X12_isIteration {v1 : Int32} {v2 : Int32} {M : jM} {Q : Int32 → Nat → jM → Prop}  (s0 : vp_in (585 * v1 + 0) 3510) (s1 : vp_in (585 * v1 + 1) 3510) (h : Q (jb (M 50 0 (585 * v1 + 0).toNatClampNeg ≤ v2 ∧ v2 ≤ M 50 0 (585 * v1 + 1).toNatClampNeg)) 0 M) : ok_X12_isIteration v1 v2 M Q := by
  refine en_X12_isIteration (bl_X12_isIteration_0 v1 v2 M Q  ?_)
  (repeat' first | assumption | apply And.intro | intro _) <;> (try subst_vars) <;> (first | assumption | ((try simp only [jb] at h) <;> (repeat' split at h) <;> first | assumption | (exfalso; simp only [Int32.lt_iff_toInt_lt, Int32.le_iff_toInt_le, ← Int32.toInt_inj] at *; omega)))

theorem en_X12_isStatement {v1 : Int32} {v2 : Int32} {M : jM} {Q : Int32 → Nat → jM → Prop} (h : at_X12_isStatement_0 v1 v2 M Q) : ok_X12_isStatement v1 v2 M Q := jr_enter (by decide) (fun g => rfl) (fun g => Nat.le_of_ble_eq_true rfl) h
set_option maxHeartbeats 4000000 in
set_option maxRecDepth 100000 in
theorem bl_X12_isStatement_0 (v1 : Int32) (v2 : Int32) (M : jM) (Q : Int32 → Nat → jM → Prop) 
  (h : ((0 ≤ v1 ∧ v1 ≤ M 11 0 0 - 1) → (vp_in (585 * v1 + 3) 3510) ∧ ((0 ≤ v2 ∧ v2 ≤ ((M 50 0 (585 * v1 + 3).toNatClampNeg) - 1)) → Q 1 0 M) ∧ (¬ (0 ≤ v2 ∧ v2 ≤ ((M 50 0 (585 * v1 + 3).toNatClampNeg) - 1)) → Q 0 0 M)) ∧ (¬ (0 ≤ v1 ∧ v1 ≤ M 11 0 0 - 1) → Q 0 0 M)) :
  at_X12_isStatement_0 v1 v2 M Q := by
  intro p l e s m args below meth c D cA base g C hr htb H locs G ls hl
  refine lv_aload_n C.x C.b dX12_isStatement_0 rfl (lv_at hl 0 rfl) ?_
  refine lv_iload_n C.x C.b dX12_isStatement_1 rfl (lv_at hl 1 rfl) ?_
  refine jr_V (d' := 2) C G jc11 jm_X12_isLoop wd1372 (sp_X12_isLoop ⟨rfl, rfl⟩ : ok_X12_isLoop v1 M (fun r _ M' => jb (0 ≤ v1 ∧ v1 ≤ M 11 0 0 - 1) = r ∧ M = M')) rfl (show 0 < 1 by decide) (by decide) rfl rfl (by omega) (by decide) (by decide) ⟨rfl, rfl⟩ hl.1 (Nat.le_of_ble_eq_true rfl) dX12_isStatement_2 (fun r1 r1n M2 H locs hq G => ?_)
  obtain ⟨eq1, eq2⟩ := hq
  subst eq1
  subst eq2
  refine lv_if_eq (tgt := 28) C.x C.b dX12_isStatement_5 (by decide) (fun hc => ?_) (fun hc => ?_)
  · have h := h.2 (jb_0 hc)
    refine lv_iconst (v := 0) C.x C.b dX12_isStatement_28 (by decide) ?_
    exact jr_retZ C hr G rfl h (by decide) (by decide) dX12_isStatement_29
  · have h := h.1 (jb_1 hc)
    refine lv_iload_n C.x C.b dX12_isStatement_8 rfl (lv_at hl 2 rfl) ?_
    refine lv_iconst (v := 0) C.x C.b dX12_isStatement_9 (by decide) ?_
    refine lv_aload_n C.x C.b dX12_isStatement_10 rfl (lv_at hl 0 rfl) ?_
    refine lv_iload_n C.x C.b dX12_isStatement_11 rfl (lv_at hl 1 rfl) ?_
    refine lv_iconst (v := 3) C.x C.b dX12_isStatement_12 (by decide) ?_
    obtain ⟨hp5, h⟩ := h
    refine jr_V (d' := 2) C G jc11 jm_X12_of wd1384 (sp_X12_of hp5 ⟨rfl, rfl⟩ : ok_X12_of v1 3 M (fun r _ M' => (M 50 0 (585 * v1 + 3).toNatClampNeg) = r ∧ M = M')) rfl (show 0 < 1 by decide) (by decide) rfl rfl (by omega) (by decide) (by decide) ⟨rfl, rfl⟩ hl.1 (Nat.le_of_ble_eq_true rfl) dX12_isStatement_13 (fun r3 r3n M4 H locs hq G => ?_)
    obtain ⟨eq1, eq2⟩ := hq
    subst eq1
    subst eq2
    refine lv_iconst (v := 1) C.x C.b dX12_isStatement_16 (by decide) ?_
    refine lv_isub C.x C.b dX12_isStatement_17 ?_
    refine jr_S (d' := 2) C G jm_X12_in wd1293 (sp_X12_in ⟨rfl, rfl⟩ : ok_X12_in v2 0 ((M 50 0 (585 * v1 + 3).toNatClampNeg) - 1) M (fun r _ M' => jb (0 ≤ v2 ∧ v2 ≤ ((M 50 0 (585 * v1 + 3).toNatClampNeg) - 1)) = r ∧ M = M')) rfl rfl rfl (by omega) (by decide) (by decide) ⟨rfl, rfl⟩ hl.1 (Nat.le_of_ble_eq_true rfl) dX12_isStatement_18 (fun r6 r6n M7 H locs hq G => ?_)
    obtain ⟨eq1, eq2⟩ := hq
    subst eq1
    subst eq2
    refine lv_if_eq (tgt := 28) C.x C.b dX12_isStatement_21 (by decide) (fun hc => ?_) (fun hc => ?_)
    · have h := h.2 (jb_0 hc)
      refine lv_iconst (v := 0) C.x C.b dX12_isStatement_28 (by decide) ?_
      exact jr_retZ C hr G rfl h (by decide) (by decide) dX12_isStatement_29
    · have h := h.1 (jb_1 hc)
      refine lv_iconst (v := 1) C.x C.b dX12_isStatement_24 (by decide) ?_
      refine lv_goto (tgt := 29) C.x C.b dX12_isStatement_25 (by decide) ?_
      exact jr_retZ C hr G rfl h (by decide) (by decide) dX12_isStatement_29

theorem sp_X12_isStatement {v1 : Int32} {v2 : Int32} {M : jM} {Q : Int32 → Nat → jM → Prop}  (s0 : (0 ≤ v1 ∧ v1 ≤ M 11 0 0 - 1) → vp_in (585 * v1 + 3) 3510) (h : Q (jb ((0 ≤ v1 ∧ v1 ≤ M 11 0 0 - 1) ∧ (0 ≤ v2 ∧ v2 ≤ M 50 0 (585 * v1 + 3).toNatClampNeg - 1))) 0 M) : ok_X12_isStatement v1 v2 M Q := by
  refine en_X12_isStatement (bl_X12_isStatement_0 v1 v2 M Q  ?_)
  refine ⟨fun q => ⟨s0 q, fun q2 => ?_, fun q2 => ?_⟩, fun q => ?_⟩
  · rw [jb_t ⟨q, q2⟩] at h; exact h
  · rw [jb_f (fun z => q2 z.2)] at h; exact h
  · rw [jb_f (fun z => q z.1)] at h; exact h

theorem en_X12_place {v1 : Int32} {v2 : Int32} {v3 : Int32} {M : jM} {Q : Int32 → Nat → jM → Prop} (h : at_X12_place_0 v1 v2 v3 M Q) : ok_X12_place v1 v2 v3 M Q := jr_enter (by decide) (fun g => rfl) (fun g => Nat.le_of_ble_eq_true rfl) h
set_option maxHeartbeats 4000000 in
set_option maxRecDepth 100000 in
theorem bl_X12_place_0 (v1 : Int32) (v2 : Int32) (v3 : Int32) (M : jM) (Q : Int32 → Nat → jM → Prop) 
  (h : (vp_in (585 * v1 + (5 + v2)) 3510) ∧ (vp_in (585 * v1 + (29 + v2)) 3510) ∧ Q ((((49 * (M 50 0 (585 * v1 + (5 + v2)).toNatClampNeg)) + v3) + (M 50 0 (585 * v1 + (29 + v2)).toNatClampNeg)) + 9) 0 M) :
  at_X12_place_0 v1 v2 v3 M Q := by
  intro p l e s m args below meth c D cA base g C hr htb H locs G ls hl
  refine lv_bipush (v := 49) C.x C.b dX12_place_0 (by decide) ?_
  refine lv_aload_n C.x C.b dX12_place_2 rfl (lv_at hl 0 rfl) ?_
  refine lv_iload_n C.x C.b dX12_place_3 rfl (lv_at hl 1 rfl) ?_
  refine lv_iload_n C.x C.b dX12_place_4 rfl (lv_at hl 2 rfl) ?_
  obtain ⟨hp3, h⟩ := h
  refine jr_V (d' := 2) C G jc11 jm_X12_arrayOf wd1445 (sp_X12_arrayOf hp3 ⟨rfl, rfl⟩ : ok_X12_arrayOf v1 v2 M (fun r _ M' => (M 50 0 (585 * v1 + (5 + v2)).toNatClampNeg) = r ∧ M = M')) rfl (show 0 < 1 by decide) (by decide) rfl rfl (by omega) (by decide) (by decide) ⟨rfl, rfl⟩ hl.1 (Nat.le_of_ble_eq_true rfl) dX12_place_5 (fun r1 r1n M2 H locs hq G => ?_)
  obtain ⟨eq1, eq2⟩ := hq
  subst eq1
  subst eq2
  refine lv_imul C.x C.b dX12_place_8 ?_
  refine lv_iload_n C.x C.b dX12_place_9 rfl (lv_at hl 3 rfl) ?_
  refine lv_iadd C.x C.b dX12_place_10 ?_
  refine lv_aload_n C.x C.b dX12_place_11 rfl (lv_at hl 0 rfl) ?_
  refine lv_iload_n C.x C.b dX12_place_12 rfl (lv_at hl 1 rfl) ?_
  refine lv_iload_n C.x C.b dX12_place_13 rfl (lv_at hl 2 rfl) ?_
  obtain ⟨hp6, h⟩ := h
  refine jr_V (d' := 2) C G jc11 jm_X12_offsetOf wd1449 (sp_X12_offsetOf hp6 ⟨rfl, rfl⟩ : ok_X12_offsetOf v1 v2 M (fun r _ M' => (M 50 0 (585 * v1 + (29 + v2)).toNatClampNeg) = r ∧ M = M')) rfl (show 0 < 1 by decide) (by decide) rfl rfl (by omega) (by decide) (by decide) ⟨rfl, rfl⟩ hl.1 (Nat.le_of_ble_eq_true rfl) dX12_place_14 (fun r4 r4n M5 H locs hq G => ?_)
  obtain ⟨eq1, eq2⟩ := hq
  subst eq1
  subst eq2
  refine lv_iadd C.x C.b dX12_place_17 ?_
  refine lv_bipush (v := 9) C.x C.b dX12_place_18 (by decide) ?_
  refine lv_iadd C.x C.b dX12_place_20 ?_
  exact jr_retI C hr G h (by decide) (by decide) dX12_place_21

theorem sp_X12_place {v1 : Int32} {v2 : Int32} {v3 : Int32} {M : jM} {Q : Int32 → Nat → jM → Prop}  (s0 : vp_in (585 * v1 + (5 + v2)) 3510) (s1 : vp_in (585 * v1 + (29 + v2)) 3510) (h : Q (((49 * M 50 0 (585 * v1 + (5 + v2)).toNatClampNeg + v3) + M 50 0 (585 * v1 + (29 + v2)).toNatClampNeg) + 9) 0 M) : ok_X12_place v1 v2 v3 M Q := by
  refine en_X12_place (bl_X12_place_0 v1 v2 v3 M Q  ?_)
  (repeat' first | assumption | apply And.intro | intro _) <;> (try subst_vars) <;> (first | assumption | ((try simp only [jb] at h) <;> (repeat' split at h) <;> first | assumption | (exfalso; simp only [Int32.lt_iff_toInt_lt, Int32.le_iff_toInt_le, ← Int32.toInt_inj] at *; omega)))

theorem en_X12_wrong {v1 : Int32} {v2 : Int32} {M : jM} {Q : Int32 → Nat → jM → Prop} (h : at_X12_wrong_0 v1 v2 M Q) : ok_X12_wrong v1 v2 M Q := jr_enter (by decide) (fun g => rfl) (fun g => Nat.le_of_ble_eq_true rfl) h
set_option maxHeartbeats 4000000 in
set_option maxRecDepth 100000 in
theorem bl_X12_wrong_0 (v1 : Int32) (v2 : Int32) (M : jM) (Q : Int32 → Nat → jM → Prop) 
  (h : ((0 ≤ v1 ∧ v1 ≤ M 11 0 0 - 1) → ((0 ≤ v2 ∧ v2 ≤ M 11 0 0 - 1) → (v1 < v2 → Q 0 0 M) ∧ (¬ (v1 < v2) → Q 2 0 M)) ∧ (¬ (0 ≤ v2 ∧ v2 ≤ M 11 0 0 - 1) → Q 1 0 M)) ∧ (¬ (0 ≤ v1 ∧ v1 ≤ M 11 0 0 - 1) → Q 1 0 M)) :
  at_X12_wrong_0 v1 v2 M Q := by
  intro p l e s m args below meth c D cA base g C hr htb H locs G ls hl
  refine lv_aload_n C.x C.b dX12_wrong_0 rfl (lv_at hl 0 rfl) ?_
  refine lv_iload_n C.x C.b dX12_wrong_1 rfl (lv_at hl 1 rfl) ?_
  refine jr_V (d' := 2) C G jc11 jm_X12_isLoop wd1372 (sp_X12_isLoop ⟨rfl, rfl⟩ : ok_X12_isLoop v1 M (fun r _ M' => jb (0 ≤ v1 ∧ v1 ≤ M 11 0 0 - 1) = r ∧ M = M')) rfl (show 0 < 1 by decide) (by decide) rfl rfl (by omega) (by decide) (by decide) ⟨rfl, rfl⟩ hl.1 (Nat.le_of_ble_eq_true rfl) dX12_wrong_2 (fun r1 r1n M2 H locs hq G => ?_)
  obtain ⟨eq1, eq2⟩ := hq
  subst eq1
  subst eq2
  refine lv_if_eq (tgt := 16) C.x C.b dX12_wrong_5 (by decide) (fun hc => ?_) (fun hc => ?_)
  · have h := h.2 (jb_0 hc)
    refine lv_iconst (v := 1) C.x C.b dX12_wrong_16 (by decide) ?_
    refine lv_goto (tgt := 30) C.x C.b dX12_wrong_17 (by decide) ?_
    exact jr_retI C hr G h (by decide) (by decide) dX12_wrong_30
  · have h := h.1 (jb_1 hc)
    refine lv_aload_n C.x C.b dX12_wrong_8 rfl (lv_at hl 0 rfl) ?_
    refine lv_iload_n C.x C.b dX12_wrong_9 rfl (lv_at hl 2 rfl) ?_
    refine jr_V (d' := 2) C G jc11 jm_X12_isLoop wd1372 (sp_X12_isLoop ⟨rfl, rfl⟩ : ok_X12_isLoop v2 M (fun r _ M' => jb (0 ≤ v2 ∧ v2 ≤ M 11 0 0 - 1) = r ∧ M = M')) rfl (show 0 < 1 by decide) (by decide) rfl rfl (by omega) (by decide) (by decide) ⟨rfl, rfl⟩ hl.1 (Nat.le_of_ble_eq_true rfl) dX12_wrong_10 (fun r3 r3n M4 H locs hq G => ?_)
    obtain ⟨eq1, eq2⟩ := hq
    subst eq1
    subst eq2
    refine lv_if_ne (tgt := 20) C.x C.b dX12_wrong_13 (by decide) (fun hc => ?_) (fun hc => ?_)
    · have h := h.1 (jb_1 hc)
      refine lv_iload_n C.x C.b dX12_wrong_20 rfl (lv_at hl 1 rfl) ?_
      refine lv_iload_n C.x C.b dX12_wrong_21 rfl (lv_at hl 2 rfl) ?_
      refine lv_icmp_lt (tgt := 29) C.x C.b dX12_wrong_22 (by decide) (fun hc => ?_) (fun hc => ?_)
      · have h := h.1 hc
        refine lv_iconst (v := 0) C.x C.b dX12_wrong_29 (by decide) ?_
        exact jr_retI C hr G h (by decide) (by decide) dX12_wrong_30
      · have h := h.2 hc
        refine lv_iconst (v := 2) C.x C.b dX12_wrong_25 (by decide) ?_
        refine lv_goto (tgt := 30) C.x C.b dX12_wrong_26 (by decide) ?_
        exact jr_retI C hr G h (by decide) (by decide) dX12_wrong_30
    · have h := h.2 (jb_0 hc)
      refine lv_iconst (v := 1) C.x C.b dX12_wrong_16 (by decide) ?_
      refine lv_goto (tgt := 30) C.x C.b dX12_wrong_17 (by decide) ?_
      exact jr_retI C hr G h (by decide) (by decide) dX12_wrong_30

theorem sp_X12_wrong {v1 : Int32} {v2 : Int32} {M : jM} {Q : Int32 → Nat → jM → Prop}   (h : Q (if ¬ (0 ≤ v1 ∧ v1 ≤ M 11 0 0 - 1) ∨ ¬ (0 ≤ v2 ∧ v2 ≤ M 11 0 0 - 1) then 1 else if v2 ≤ v1 then 2 else 0) 0 M) : ok_X12_wrong v1 v2 M Q := by
  refine en_X12_wrong (bl_X12_wrong_0 v1 v2 M Q  ?_)
  (repeat' first | assumption | apply And.intro | intro _) <;> (try subst_vars) <;> (first | assumption | ((try simp only [jb] at h) <;> (repeat' split at h) <;> first | assumption | (exfalso; simp only [Int32.lt_iff_toInt_lt, Int32.le_iff_toInt_le, ← Int32.toInt_inj] at *; omega)))

