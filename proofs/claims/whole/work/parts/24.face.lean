def at_X11_reads_44c (v2 : Int32) (n3 : Nat) (v4 : Int32) (M : jM) (Q : Int32 → Nat → jM → Prop) (X : String → jM → Prop) : Prop := jAt RX11 cX11_reads 5 (some .int) 1 7 2 12 1 6 44 (fun g => [(0, .ref (g 10 0)), (2, .int v2), (3, .ref (g 5 n3)), (4, .int v4)]) (fun g => []) M Q X
def at_X11_run_16c (n2 : Nat) (v3 : Int32) (v4 : Int32) (M : jM) (Q : Int32 → Nat → jM → Prop) (X : String → jM → Prop) : Prop := jAt RX11 cX11_run 5 (some .int) 1 7 1 6 1 6 16 (fun g => [(2, .ref (g 5 n2)), (3, .int v3), (4, .int v4)]) (fun g => []) M Q X
def at_X11_changed_31c (n2 : Nat) (v3 : Int32) (v4 : Int32) (M : jM) (Q : Int32 → Nat → jM → Prop) (X : String → jM → Prop) : Prop := jAt RX11 cX11_changed 5 (some .int) 1 7 1 6 1 6 31 (fun g => [(0, .ref (g 10 0)), (2, .ref (g 5 n2)), (3, .int v3), (4, .int v4)]) (fun g => []) M Q X
theorem jne_toInt {x k : Int32} (h : ¬ x = k) : ¬ x.toInt = k.toInt := fun q => h (Int32.toInt_inj.mp q)
theorem en_X11_faultPosition  {M : jM} {Q : Int32 → Nat → jM → Prop} (h : at_X11_faultPosition_0  M Q) : ok_X11_faultPosition  M Q := jr_enter (by decide) (fun g => rfl) (fun g => Nat.le_of_ble_eq_true rfl) h
set_option maxHeartbeats 4000000 in
set_option maxRecDepth 100000 in
theorem bl_X11_faultPosition_0  (M : jM) (Q : Int32 → Nat → jM → Prop) 
  (h : Q (M 8 0 5) 0 M) :
  at_X11_faultPosition_0  M Q := by
  intro p l e s m args below meth c D cA base g C hr htb H locs G ls hl
  refine lv_aload_n C.x C.b dX11_faultPosition_0 rfl (lv_at hl 0 rfl) ?_
  refine jr_get C G jc10 0 (v := .ref (g 8 0)) (show 0 < 1 by decide) (by decide) (by decide) rfl wd455 dX11_faultPosition_1 ?_
  refine jr_get C G jc8 5 (v := .int (M 8 0 5)) (show 0 < 1 by decide) (by decide) (by decide) rfl wd243 dX11_faultPosition_4 ?_
  exact jr_retI C hr G h (by decide) (by decide) dX11_faultPosition_7

theorem en_X11_loopCount  {M : jM} {Q : Int32 → Nat → jM → Prop} (h : at_X11_loopCount_0  M Q) : ok_X11_loopCount  M Q := jr_enter (by decide) (fun g => rfl) (fun g => Nat.le_of_ble_eq_true rfl) h
set_option maxHeartbeats 4000000 in
set_option maxRecDepth 100000 in
theorem bl_X11_loopCount_0  (M : jM) (Q : Int32 → Nat → jM → Prop) 
  (h : Q (M 6 0 2) 0 M) :
  at_X11_loopCount_0  M Q := by
  intro p l e s m args below meth c D cA base g C hr htb H locs G ls hl
  refine lv_aload_n C.x C.b dX11_loopCount_0 rfl (lv_at hl 0 rfl) ?_
  refine jr_get C G jc10 1 (v := .ref (g 6 0)) (show 0 < 1 by decide) (by decide) (by decide) rfl wd456 dX11_loopCount_1 ?_
  refine jr_get C G jc6 2 (v := .int (M 6 0 2)) (show 0 < 2 by decide) (by decide) (by decide) rfl wd277 dX11_loopCount_4 ?_
  exact jr_retI C hr G h (by decide) (by decide) dX11_loopCount_7

theorem en_X11_save  {M : jM} {Q : Int32 → Nat → jM → Prop} (h : at_X11_save_0  M Q) : ok_X11_save  M Q := jr_enter (by decide) (fun g => rfl) (fun g => Nat.le_of_ble_eq_true rfl) h
set_option maxHeartbeats 4000000 in
set_option maxRecDepth 100000 in
theorem bl_X11_save_0  (M : jM) (Q : Int32 → Nat → jM → Prop) 
  (h : ok_X6_copyFrom 1 0 M (fun _ _ M2 => jnb M2 = jnb M ∧ (∀ M3 : jM, M3 = jup M2 10 0 8 1 → Q 0 0 M3))) :
  at_X11_save_0  M Q := by
  intro p l e s m args below meth c D cA base g C hr htb H locs G ls hl
  refine lv_aload_n C.x C.b dX11_save_0 rfl (lv_at hl 0 rfl) ?_
  refine jr_get C G jc10 2 (v := .ref (g 6 1)) (show 0 < 1 by decide) (by decide) (by decide) rfl wd457 dX11_save_1 ?_
  refine lv_aload_n C.x C.b dX11_save_4 rfl (lv_at hl 0 rfl) ?_
  refine jr_get C G jc10 1 (v := .ref (g 6 0)) (show 0 < 1 by decide) (by decide) (by decide) rfl wd456 dX11_save_5 ?_
  refine jr_V (d' := 2) C G jc6 jm_X6_copyFrom wd495 h rfl (show 1 < 2 by decide) (by decide) rfl rfl (by omega) (by decide) (by decide) ⟨rfl, rfl⟩ hl.1 (Nat.le_of_ble_eq_true rfl) dX11_save_8 (fun r1 r1n M2 H locs h G => ?_)
  obtain ⟨nM2, h⟩ := h
  refine lv_aload_n C.x C.b dX11_save_11 rfl (lv_at hl 0 rfl) ?_
  refine lv_iconst (v := 1) C.x C.b dX11_save_12 (by decide) ?_
  refine jr_put C G jc10 8 (v := 1) (show 0 < 1 by decide) (by decide) (by decide) rfl (by decide) wd463 rfl rfl rfl rfl dX11_save_13 (fun H locs G => ?_)
  obtain ⟨M3, eM3⟩ : ∃ z : jM, z = jup M2 10 0 8 1 := ⟨_, rfl⟩
  rw [← eM3] at G
  have h := h M3 eM3
  have nM3 : jnb M3 = jnb M2 := by rw [eM3]; exact jnb_up (by decide)
  exact jr_retV C hr G h (by decide) (by decide) dX11_save_16

theorem en_X11_append {v1 : Int32} {M : jM} {Q : Int32 → Nat → jM → Prop} {X : String → jM → Prop} (h : at_X11_append_0 v1 M Q X) : ok_X11_append v1 M Q X := jr_enter (by decide) (fun g => rfl) (fun g => Nat.le_of_ble_eq_true rfl) h
set_option maxHeartbeats 4000000 in
set_option maxRecDepth 100000 in
theorem bl_X11_append_0 (v1 : Int32) (M : jM) (Q : Int32 → Nat → jM → Prop) (X : String → jM → Prop) 
  (h : at_X11_append_5 v1 0 24 M Q X) :
  at_X11_append_0 v1 M Q X := by
  intro p l e s m args below meth c D cA base g C hr htb H locs G ls hl
  refine lv_iconst (v := 0) C.x C.b dX11_append_0 (by decide) ?_
  refine lv_istore_n (lv' := [(2, .int 0), (0, .ref (g 10 0)), (1, .int v1)]) C.x C.b dX11_append_1 rfl hl (by decide) rfl (fun ls hl => ?_)
  refine lv_bipush (v := 24) C.x C.b dX11_append_2 (by decide) ?_
  refine lv_istore_n (lv' := [(3, .int 24), (2, .int 0), (0, .ref (g 10 0)), (1, .int v1)]) C.x C.b dX11_append_4 rfl hl (by decide) rfl (fun ls hl => ?_)
  exact h p l e s m args below meth c D cA base g C hr htb _ _ G ls (lv_sub hl [2, 3, 1, 0] rfl)
set_option maxHeartbeats 4000000 in
set_option maxRecDepth 100000 in
theorem bl_X11_append_5 (v1 : Int32) (v2 : Int32) (v3 : Int32) (M : jM) (Q : Int32 → Nat → jM → Prop) (X : String → jM → Prop) 
  (h : (v3 < 0 → (((M 8 0 2) + v2) ≤ 120 → at_X11_append_93 v1 24 M Q X) ∧ (¬ (((M 8 0 2) + v2) ≤ 120) → X "java/lang/IllegalStateException" M)) ∧ (¬ (v3 < 0) → (((v1.toUInt32 >>> (v3.toUInt32 &&& Int32.toUInt32 31)).toInt32) &&& 255 = 0 → (((v1.toUInt32 >>> (v3.toUInt32 &&& Int32.toUInt32 31)).toInt32) &&& 255 = 0 → at_X11_append_5 v1 (v2 + 0) (v3 + (-8)) M Q X) ∧ (¬ (((v1.toUInt32 >>> (v3.toUInt32 &&& Int32.toUInt32 31)).toInt32) &&& 255 = 0) → at_X11_append_5 v1 (v2 + 1) (v3 + (-8)) M Q X)) ∧ (¬ (((v1.toUInt32 >>> (v3.toUInt32 &&& Int32.toUInt32 31)).toInt32) &&& 255 = 0) → ((((v1.toUInt32 >>> (v3.toUInt32 &&& Int32.toUInt32 31)).toInt32) &&& 255) < 33 → X "java/lang/IllegalArgumentException" M) ∧ (¬ ((((v1.toUInt32 >>> (v3.toUInt32 &&& Int32.toUInt32 31)).toInt32) &&& 255) < 33) → ((((v1.toUInt32 >>> (v3.toUInt32 &&& Int32.toUInt32 31)).toInt32) &&& 255) ≤ 126 → (((v1.toUInt32 >>> (v3.toUInt32 &&& Int32.toUInt32 31)).toInt32) &&& 255 = 0 → at_X11_append_5 v1 (v2 + 0) (v3 + (-8)) M Q X) ∧ (¬ (((v1.toUInt32 >>> (v3.toUInt32 &&& Int32.toUInt32 31)).toInt32) &&& 255 = 0) → at_X11_append_5 v1 (v2 + 1) (v3 + (-8)) M Q X)) ∧ (¬ ((((v1.toUInt32 >>> (v3.toUInt32 &&& Int32.toUInt32 31)).toInt32) &&& 255) ≤ 126) → X "java/lang/IllegalArgumentException" M))))) :
  at_X11_append_5 v1 v2 v3 M Q X := by
  intro p l e s m args below meth c D cA base g C hr htb H locs G ls hl
  refine lv_iload_n C.x C.b dX11_append_5 rfl (lv_at hl 3 rfl) ?_
  refine lv_if_lt (tgt := 66) C.x C.b dX11_append_6 (by decide) (fun hc => ?_) (fun hc => ?_)
  · have h := h.1 hc
    refine lv_aload_n C.x C.b dX11_append_66 rfl (lv_at hl 0 rfl) ?_
    refine jr_get C G jc10 0 (v := .ref (g 8 0)) (show 0 < 1 by decide) (by decide) (by decide) rfl wd455 dX11_append_67 ?_
    refine jr_get C G jc8 2 (v := .int (M 8 0 2)) (show 0 < 1 by decide) (by decide) (by decide) rfl wd238 dX11_append_70 ?_
    refine lv_iload_n C.x C.b dX11_append_73 rfl (lv_at hl 2 rfl) ?_
    refine lv_iadd C.x C.b dX11_append_74 ?_
    refine lv_bipush (v := 120) C.x C.b dX11_append_75 (by decide) ?_
    refine lv_icmp_le (tgt := 90) C.x C.b dX11_append_77 (by decide) (fun hc => ?_) (fun hc => ?_)
    · have h := h.1 hc
      refine lv_bipush (v := 24) C.x C.b dX11_append_90 (by decide) ?_
      refine lv_istore_n (lv' := [(3, .int 24), (0, .ref (g 10 0)), (1, .int v1), (2, .int v2)]) C.x C.b dX11_append_92 rfl hl (by decide) rfl (fun ls hl => ?_)
      exact h p l e s m args below meth c D cA base g C hr htb _ _ G ls (lv_sub hl [1, 2, 0] rfl)
    · have h := h.2 hc
      exact jr_throw C htb G h jx_IS 1 rfl (by decide) (by decide) (by decide) (by decide) (by decide) (by decide) hl.1 dX11_append_80 dX11_append_83 dX11_append_84 dX11_append_86 dX11_append_89
  · have h := h.2 hc
    refine lv_iload_n C.x C.b dX11_append_9 rfl (lv_at hl 1 rfl) ?_
    refine lv_iload_n C.x C.b dX11_append_10 rfl (lv_at hl 3 rfl) ?_
    refine lv_iushr (v := (v1.toUInt32 >>> (v3.toUInt32 &&& Int32.toUInt32 31)).toInt32) C.x C.b dX11_append_11 rfl ?_
    refine lv_sipush (v := 255) C.x C.b dX11_append_12 (by decide) ?_
    refine lv_iand C.x C.b dX11_append_15 ?_
    refine lv_istore (lv' := [(4, .int (((v1.toUInt32 >>> (v3.toUInt32 &&& Int32.toUInt32 31)).toInt32) &&& 255)), (0, .ref (g 10 0)), (1, .int v1), (2, .int v2), (3, .int v3)]) C.x C.b dX11_append_16 hl (by decide) rfl (fun ls hl => ?_)
    refine lv_iload C.x C.b dX11_append_18 (lv_at hl 0 rfl) ?_
    refine lv_if_eq (tgt := 47) C.x C.b dX11_append_20 (by decide) (fun hc => ?_) (fun hc => ?_)
    · have h := h.1 hc
      refine lv_iload_n C.x C.b dX11_append_47 rfl (lv_at hl 3 rfl) ?_
      refine lv_iload C.x C.b dX11_append_48 (lv_at hl 0 rfl) ?_
      refine lv_if_ne (tgt := 57) C.x C.b dX11_append_50 (by decide) (fun hc => ?_) (fun hc => ?_)
      · have h := h.2 hc
        refine lv_iconst (v := 1) C.x C.b dX11_append_57 (by decide) ?_
        refine lv_iadd C.x C.b dX11_append_58 ?_
        refine lv_istore_n (lv' := [(2, .int (v2 + 1)), (4, .int (((v1.toUInt32 >>> (v3.toUInt32 &&& Int32.toUInt32 31)).toInt32) &&& 255)), (0, .ref (g 10 0)), (1, .int v1), (3, .int v3)]) C.x C.b dX11_append_59 rfl hl (by decide) rfl (fun ls hl => ?_)
        refine lv_iinc (v := v3 + (-8)) (lv' := [(3, .int (v3 + (-8))), (2, .int (v2 + 1)), (4, .int (((v1.toUInt32 >>> (v3.toUInt32 &&& Int32.toUInt32 31)).toInt32) &&& 255)), (0, .ref (g 10 0)), (1, .int v1)]) C.x C.b dX11_append_60 hl (k := 4) rfl rfl (by decide) rfl (fun ls hl => ?_)
        refine lv_goto (tgt := 5) C.x C.b dX11_append_63 (by decide) ?_
        exact h p l e s m args below meth c D cA base g C hr htb _ _ G ls (lv_sub hl [3, 4, 1, 0] rfl)
      · have h := h.1 hc
        refine lv_iconst (v := 0) C.x C.b dX11_append_53 (by decide) ?_
        refine lv_goto (tgt := 58) C.x C.b dX11_append_54 (by decide) ?_
        refine lv_iadd C.x C.b dX11_append_58 ?_
        refine lv_istore_n (lv' := [(2, .int (v2 + 0)), (4, .int (((v1.toUInt32 >>> (v3.toUInt32 &&& Int32.toUInt32 31)).toInt32) &&& 255)), (0, .ref (g 10 0)), (1, .int v1), (3, .int v3)]) C.x C.b dX11_append_59 rfl hl (by decide) rfl (fun ls hl => ?_)
        refine lv_iinc (v := v3 + (-8)) (lv' := [(3, .int (v3 + (-8))), (2, .int (v2 + 0)), (4, .int (((v1.toUInt32 >>> (v3.toUInt32 &&& Int32.toUInt32 31)).toInt32) &&& 255)), (0, .ref (g 10 0)), (1, .int v1)]) C.x C.b dX11_append_60 hl (k := 4) rfl rfl (by decide) rfl (fun ls hl => ?_)
        refine lv_goto (tgt := 5) C.x C.b dX11_append_63 (by decide) ?_
        exact h p l e s m args below meth c D cA base g C hr htb _ _ G ls (lv_sub hl [3, 4, 1, 0] rfl)
    · have h := h.2 hc
      refine lv_iload C.x C.b dX11_append_23 (lv_at hl 0 rfl) ?_
      refine lv_bipush (v := 33) C.x C.b dX11_append_25 (by decide) ?_
      refine lv_icmp_lt (tgt := 37) C.x C.b dX11_append_27 (by decide) (fun hc => ?_) (fun hc => ?_)
      · have h := h.1 hc
        exact jr_throw C htb G h jx_IA 0 rfl (by decide) (by decide) (by decide) (by decide) (by decide) (by decide) hl.1 dX11_append_37 dX11_append_40 dX11_append_41 dX11_append_43 dX11_append_46
      · have h := h.2 hc
        refine lv_iload C.x C.b dX11_append_30 (lv_at hl 0 rfl) ?_
        refine lv_bipush (v := 126) C.x C.b dX11_append_32 (by decide) ?_
        refine lv_icmp_le (tgt := 47) C.x C.b dX11_append_34 (by decide) (fun hc => ?_) (fun hc => ?_)
        · have h := h.1 hc
          refine lv_iload_n C.x C.b dX11_append_47 rfl (lv_at hl 3 rfl) ?_
          refine lv_iload C.x C.b dX11_append_48 (lv_at hl 0 rfl) ?_
          refine lv_if_ne (tgt := 57) C.x C.b dX11_append_50 (by decide) (fun hc => ?_) (fun hc => ?_)
          · have h := h.2 hc
            refine lv_iconst (v := 1) C.x C.b dX11_append_57 (by decide) ?_
            refine lv_iadd C.x C.b dX11_append_58 ?_
            refine lv_istore_n (lv' := [(2, .int (v2 + 1)), (4, .int (((v1.toUInt32 >>> (v3.toUInt32 &&& Int32.toUInt32 31)).toInt32) &&& 255)), (0, .ref (g 10 0)), (1, .int v1), (3, .int v3)]) C.x C.b dX11_append_59 rfl hl (by decide) rfl (fun ls hl => ?_)
            refine lv_iinc (v := v3 + (-8)) (lv' := [(3, .int (v3 + (-8))), (2, .int (v2 + 1)), (4, .int (((v1.toUInt32 >>> (v3.toUInt32 &&& Int32.toUInt32 31)).toInt32) &&& 255)), (0, .ref (g 10 0)), (1, .int v1)]) C.x C.b dX11_append_60 hl (k := 4) rfl rfl (by decide) rfl (fun ls hl => ?_)
            refine lv_goto (tgt := 5) C.x C.b dX11_append_63 (by decide) ?_
            exact h p l e s m args below meth c D cA base g C hr htb _ _ G ls (lv_sub hl [3, 4, 1, 0] rfl)
          · have h := h.1 hc
            refine lv_iconst (v := 0) C.x C.b dX11_append_53 (by decide) ?_
            refine lv_goto (tgt := 58) C.x C.b dX11_append_54 (by decide) ?_
            refine lv_iadd C.x C.b dX11_append_58 ?_
            refine lv_istore_n (lv' := [(2, .int (v2 + 0)), (4, .int (((v1.toUInt32 >>> (v3.toUInt32 &&& Int32.toUInt32 31)).toInt32) &&& 255)), (0, .ref (g 10 0)), (1, .int v1), (3, .int v3)]) C.x C.b dX11_append_59 rfl hl (by decide) rfl (fun ls hl => ?_)
            refine lv_iinc (v := v3 + (-8)) (lv' := [(3, .int (v3 + (-8))), (2, .int (v2 + 0)), (4, .int (((v1.toUInt32 >>> (v3.toUInt32 &&& Int32.toUInt32 31)).toInt32) &&& 255)), (0, .ref (g 10 0)), (1, .int v1)]) C.x C.b dX11_append_60 hl (k := 4) rfl rfl (by decide) rfl (fun ls hl => ?_)
            refine lv_goto (tgt := 5) C.x C.b dX11_append_63 (by decide) ?_
            exact h p l e s m args below meth c D cA base g C hr htb _ _ G ls (lv_sub hl [3, 4, 1, 0] rfl)
        · have h := h.2 hc
          exact jr_throw C htb G h jx_IA 0 rfl (by decide) (by decide) (by decide) (by decide) (by decide) (by decide) hl.1 dX11_append_37 dX11_append_40 dX11_append_41 dX11_append_43 dX11_append_46
set_option maxHeartbeats 4000000 in
set_option maxRecDepth 100000 in
theorem bl_X11_append_93 (v1 : Int32) (v3 : Int32) (M : jM) (Q : Int32 → Nat → jM → Prop) (X : String → jM → Prop) 
  (h : (v3 < 0 → Q (M 8 0 2) 0 M) ∧ (¬ (v3 < 0) → ok_X8_add (((v1.toUInt32 >>> (v3.toUInt32 &&& Int32.toUInt32 31)).toInt32) &&& 255) M (fun _ _ M2 => jnb M2 = jnb M ∧ at_X11_append_93 v1 (v3 + (-8)) M2 Q X))) :
  at_X11_append_93 v1 v3 M Q X := by
  intro p l e s m args below meth c D cA base g C hr htb H locs G ls hl
  refine lv_iload_n C.x C.b dX11_append_93 rfl (lv_at hl 2 rfl) ?_
  refine lv_if_lt (tgt := 117) C.x C.b dX11_append_94 (by decide) (fun hc => ?_) (fun hc => ?_)
  · have h := h.1 hc
    refine lv_aload_n C.x C.b dX11_append_117 rfl (lv_at hl 0 rfl) ?_
    refine jr_get C G jc10 0 (v := .ref (g 8 0)) (show 0 < 1 by decide) (by decide) (by decide) rfl wd455 dX11_append_118 ?_
    refine jr_get C G jc8 2 (v := .int (M 8 0 2)) (show 0 < 1 by decide) (by decide) (by decide) rfl wd238 dX11_append_121 ?_
    exact jr_retI C hr G h (by decide) (by decide) dX11_append_124
  · have h := h.2 hc
    refine lv_aload_n C.x C.b dX11_append_97 rfl (lv_at hl 0 rfl) ?_
    refine jr_get C G jc10 0 (v := .ref (g 8 0)) (show 0 < 1 by decide) (by decide) (by decide) rfl wd455 dX11_append_98 ?_
    refine lv_iload_n C.x C.b dX11_append_101 rfl (lv_at hl 1 rfl) ?_
    refine lv_iload_n C.x C.b dX11_append_102 rfl (lv_at hl 2 rfl) ?_
    refine lv_iushr (v := (v1.toUInt32 >>> (v3.toUInt32 &&& Int32.toUInt32 31)).toInt32) C.x C.b dX11_append_103 rfl ?_
    refine lv_sipush (v := 255) C.x C.b dX11_append_104 (by decide) ?_
    refine lv_iand C.x C.b dX11_append_107 ?_
    refine jr_V (d' := 6) C G jc8 jm_X8_add wd597 h rfl (show 0 < 1 by decide) (by decide) rfl rfl (by omega) (by decide) (by decide) ⟨rfl, rfl⟩ hl.1 (Nat.le_of_ble_eq_true rfl) dX11_append_108 (fun r1 r1n M2 H locs h G => ?_)
    obtain ⟨nM2, h⟩ := h
    refine lv_iinc (v := v3 + (-8)) (lv' := [(3, .int (v3 + (-8))), (0, .ref (g 10 0)), (1, .int v1)]) C.x C.b dX11_append_111 hl (k := 2) rfl rfl (by decide) rfl (fun ls hl => ?_)
    refine lv_goto (tgt := 93) C.x C.b dX11_append_114 (by decide) ?_
    exact h p l e s m args below meth c D cA base g C hr htb _ _ G ls (lv_sub hl [1, 2, 0] rfl)

theorem en_X11_setOption {v1 : Int32} {v2 : Int32} {M : jM} {Q : Int32 → Nat → jM → Prop} {X : String → jM → Prop} (h : at_X11_setOption_0 v1 v2 M Q X) : ok_X11_setOption v1 v2 M Q X := jr_enter (by decide) (fun g => rfl) (fun g => Nat.le_of_ble_eq_true rfl) h
set_option maxHeartbeats 4000000 in
set_option maxRecDepth 100000 in
theorem bl_X11_setOption_0 (v1 : Int32) (v2 : Int32) (M : jM) (Q : Int32 → Nat → jM → Prop) (X : String → jM → Prop) 
  (h : (v1 < 0 → X "java/lang/IndexOutOfBoundsException" M) ∧ (¬ (v1 < 0) → (v1 < 3 → (v1 = 2 → vp_in v1 3 ∧ ok_X6_replaceOption 0 v1 v2 M (fun _ _ M2 => jnb M2 = jnb M ∧ Q (M 40 0 v1.toNatClampNeg) 0 M2)) ∧ (¬ (v1 = 2) → (v2 < 0 → X "java/lang/IllegalArgumentException" M) ∧ (¬ (v2 < 0) → (v1 = 0 → (v2 ≤ 20 → vp_in v1 3 ∧ ok_X6_replaceOption 0 v1 v2 M (fun _ _ M6 => jnb M6 = jnb M ∧ Q (M 40 0 v1.toNatClampNeg) 0 M6)) ∧ (¬ (v2 ≤ 20) → X "java/lang/IllegalArgumentException" M)) ∧ (¬ (v1 = 0) → (v2 ≤ 9 → vp_in v1 3 ∧ ok_X6_replaceOption 0 v1 v2 M (fun _ _ M4 => jnb M4 = jnb M ∧ Q (M 40 0 v1.toNatClampNeg) 0 M4)) ∧ (¬ (v2 ≤ 9) → X "java/lang/IllegalArgumentException" M))))) ∧ (¬ (v1 < 3) → X "java/lang/IndexOutOfBoundsException" M))) :
  at_X11_setOption_0 v1 v2 M Q X := by
  intro p l e s m args below meth c D cA base g C hr htb H locs G ls hl
  refine lv_iload_n C.x C.b dX11_setOption_0 rfl (lv_at hl 1 rfl) ?_
  refine lv_if_lt (tgt := 9) C.x C.b dX11_setOption_1 (by decide) (fun hc => ?_) (fun hc => ?_)
  · have h := h.1 hc
    exact jr_throw C htb G h jx_IO 20 rfl (by decide) (by decide) (by decide) (by decide) (by decide) (by decide) hl.1 dX11_setOption_9 dX11_setOption_12 dX11_setOption_13 dX11_setOption_15 dX11_setOption_18
  · have h := h.2 hc
    refine lv_iload_n C.x C.b dX11_setOption_4 rfl (lv_at hl 1 rfl) ?_
    refine lv_iconst (v := 3) C.x C.b dX11_setOption_5 (by decide) ?_
    refine lv_icmp_lt (tgt := 19) C.x C.b dX11_setOption_6 (by decide) (fun hc => ?_) (fun hc => ?_)
    · have h := h.1 hc
      refine lv_iload_n C.x C.b dX11_setOption_19 rfl (lv_at hl 1 rfl) ?_
      refine lv_iconst (v := 2) C.x C.b dX11_setOption_20 (by decide) ?_
      refine lv_icmp_eq (tgt := 53) C.x C.b dX11_setOption_21 (by decide) (fun hc => ?_) (fun hc => ?_)
      · have h := h.1 hc
        refine lv_aload_n C.x C.b dX11_setOption_53 rfl (lv_at hl 0 rfl) ?_
        refine jr_get C G jc10 1 (v := .ref (g 6 0)) (show 0 < 1 by decide) (by decide) (by decide) rfl wd456 dX11_setOption_54 ?_
        refine jr_get C G jc6 1 (v := .ref (g 40 0)) (show 0 < 2 by decide) (by decide) (by decide) rfl wd273 dX11_setOption_57 ?_
        refine lv_iload_n C.x C.b dX11_setOption_60 rfl (lv_at hl 1 rfl) ?_
        obtain ⟨hs, h⟩ := h
        refine jr_ald C G (show 0 < 2 by decide) (by decide) (by decide) (by decide) rfl rfl hs dX11_setOption_61 ?_
        refine lv_istore_n (lv' := [(3, .int (M 40 0 v1.toNatClampNeg)), (0, .ref (g 10 0)), (1, .int v1), (2, .int v2)]) C.x C.b dX11_setOption_62 rfl hl (by decide) rfl (fun ls hl => ?_)
        refine lv_aload_n C.x C.b dX11_setOption_63 rfl (lv_at hl 1 rfl) ?_
        refine jr_get C G jc10 1 (v := .ref (g 6 0)) (show 0 < 1 by decide) (by decide) (by decide) rfl wd456 dX11_setOption_64 ?_
        refine lv_iload_n C.x C.b dX11_setOption_67 rfl (lv_at hl 2 rfl) ?_
        refine lv_iload_n C.x C.b dX11_setOption_68 rfl (lv_at hl 3 rfl) ?_
        refine jr_V (d' := 6) C G jc6 jm_X6_replaceOption wd909 h rfl (show 0 < 2 by decide) (by decide) rfl rfl (by omega) (by decide) (by decide) ⟨rfl, rfl⟩ hl.1 (Nat.le_of_ble_eq_true rfl) dX11_setOption_69 (fun r1 r1n M2 H locs h G => ?_)
        obtain ⟨nM2, h⟩ := h
        refine lv_iload_n C.x C.b dX11_setOption_72 rfl (lv_at hl 0 rfl) ?_
        exact jr_retI C hr G h (by decide) (by decide) dX11_setOption_73
      · have h := h.2 hc
        refine lv_iload_n C.x C.b dX11_setOption_24 rfl (lv_at hl 2 rfl) ?_
        refine lv_if_lt (tgt := 43) C.x C.b dX11_setOption_25 (by decide) (fun hc => ?_) (fun hc => ?_)
        · have h := h.1 hc
          exact jr_throw C htb G h jx_IA 21 rfl (by decide) (by decide) (by decide) (by decide) (by decide) (by decide) hl.1 dX11_setOption_43 dX11_setOption_46 dX11_setOption_47 dX11_setOption_49 dX11_setOption_52
        · have h := h.2 hc
          refine lv_iload_n C.x C.b dX11_setOption_28 rfl (lv_at hl 2 rfl) ?_
          refine lv_iload_n C.x C.b dX11_setOption_29 rfl (lv_at hl 1 rfl) ?_
          refine lv_if_ne (tgt := 38) C.x C.b dX11_setOption_30 (by decide) (fun hc => ?_) (fun hc => ?_)
          · have h := h.2 hc
            refine lv_bipush (v := 9) C.x C.b dX11_setOption_38 (by decide) ?_
            refine lv_icmp_le (tgt := 53) C.x C.b dX11_setOption_40 (by decide) (fun hc => ?_) (fun hc => ?_)
            · have h := h.1 hc
              refine lv_aload_n C.x C.b dX11_setOption_53 rfl (lv_at hl 0 rfl) ?_
              refine jr_get C G jc10 1 (v := .ref (g 6 0)) (show 0 < 1 by decide) (by decide) (by decide) rfl wd456 dX11_setOption_54 ?_
              refine jr_get C G jc6 1 (v := .ref (g 40 0)) (show 0 < 2 by decide) (by decide) (by decide) rfl wd273 dX11_setOption_57 ?_
              refine lv_iload_n C.x C.b dX11_setOption_60 rfl (lv_at hl 1 rfl) ?_
              obtain ⟨hs, h⟩ := h
              refine jr_ald C G (show 0 < 2 by decide) (by decide) (by decide) (by decide) rfl rfl hs dX11_setOption_61 ?_
              refine lv_istore_n (lv' := [(3, .int (M 40 0 v1.toNatClampNeg)), (0, .ref (g 10 0)), (1, .int v1), (2, .int v2)]) C.x C.b dX11_setOption_62 rfl hl (by decide) rfl (fun ls hl => ?_)
              refine lv_aload_n C.x C.b dX11_setOption_63 rfl (lv_at hl 1 rfl) ?_
              refine jr_get C G jc10 1 (v := .ref (g 6 0)) (show 0 < 1 by decide) (by decide) (by decide) rfl wd456 dX11_setOption_64 ?_
              refine lv_iload_n C.x C.b dX11_setOption_67 rfl (lv_at hl 2 rfl) ?_
              refine lv_iload_n C.x C.b dX11_setOption_68 rfl (lv_at hl 3 rfl) ?_
              refine jr_V (d' := 6) C G jc6 jm_X6_replaceOption wd909 h rfl (show 0 < 2 by decide) (by decide) rfl rfl (by omega) (by decide) (by decide) ⟨rfl, rfl⟩ hl.1 (Nat.le_of_ble_eq_true rfl) dX11_setOption_69 (fun r3 r3n M4 H locs h G => ?_)
              obtain ⟨nM4, h⟩ := h
              refine lv_iload_n C.x C.b dX11_setOption_72 rfl (lv_at hl 0 rfl) ?_
              exact jr_retI C hr G h (by decide) (by decide) dX11_setOption_73
            · have h := h.2 hc
              exact jr_throw C htb G h jx_IA 21 rfl (by decide) (by decide) (by decide) (by decide) (by decide) (by decide) hl.1 dX11_setOption_43 dX11_setOption_46 dX11_setOption_47 dX11_setOption_49 dX11_setOption_52
          · have h := h.1 hc
            refine lv_bipush (v := 20) C.x C.b dX11_setOption_33 (by decide) ?_
            refine lv_goto (tgt := 40) C.x C.b dX11_setOption_35 (by decide) ?_
            refine lv_icmp_le (tgt := 53) C.x C.b dX11_setOption_40 (by decide) (fun hc => ?_) (fun hc => ?_)
            · have h := h.1 hc
              refine lv_aload_n C.x C.b dX11_setOption_53 rfl (lv_at hl 0 rfl) ?_
              refine jr_get C G jc10 1 (v := .ref (g 6 0)) (show 0 < 1 by decide) (by decide) (by decide) rfl wd456 dX11_setOption_54 ?_
              refine jr_get C G jc6 1 (v := .ref (g 40 0)) (show 0 < 2 by decide) (by decide) (by decide) rfl wd273 dX11_setOption_57 ?_
              refine lv_iload_n C.x C.b dX11_setOption_60 rfl (lv_at hl 1 rfl) ?_
              obtain ⟨hs, h⟩ := h
              refine jr_ald C G (show 0 < 2 by decide) (by decide) (by decide) (by decide) rfl rfl hs dX11_setOption_61 ?_
              refine lv_istore_n (lv' := [(3, .int (M 40 0 v1.toNatClampNeg)), (0, .ref (g 10 0)), (1, .int v1), (2, .int v2)]) C.x C.b dX11_setOption_62 rfl hl (by decide) rfl (fun ls hl => ?_)
              refine lv_aload_n C.x C.b dX11_setOption_63 rfl (lv_at hl 1 rfl) ?_
              refine jr_get C G jc10 1 (v := .ref (g 6 0)) (show 0 < 1 by decide) (by decide) (by decide) rfl wd456 dX11_setOption_64 ?_
              refine lv_iload_n C.x C.b dX11_setOption_67 rfl (lv_at hl 2 rfl) ?_
              refine lv_iload_n C.x C.b dX11_setOption_68 rfl (lv_at hl 3 rfl) ?_
              refine jr_V (d' := 6) C G jc6 jm_X6_replaceOption wd909 h rfl (show 0 < 2 by decide) (by decide) rfl rfl (by omega) (by decide) (by decide) ⟨rfl, rfl⟩ hl.1 (Nat.le_of_ble_eq_true rfl) dX11_setOption_69 (fun r5 r5n M6 H locs h G => ?_)
              obtain ⟨nM6, h⟩ := h
              refine lv_iload_n C.x C.b dX11_setOption_72 rfl (lv_at hl 0 rfl) ?_
              exact jr_retI C hr G h (by decide) (by decide) dX11_setOption_73
            · have h := h.2 hc
              exact jr_throw C htb G h jx_IA 21 rfl (by decide) (by decide) (by decide) (by decide) (by decide) (by decide) hl.1 dX11_setOption_43 dX11_setOption_46 dX11_setOption_47 dX11_setOption_49 dX11_setOption_52
    · have h := h.2 hc
      exact jr_throw C htb G h jx_IO 20 rfl (by decide) (by decide) (by decide) (by decide) (by decide) (by decide) hl.1 dX11_setOption_9 dX11_setOption_12 dX11_setOption_13 dX11_setOption_15 dX11_setOption_18

theorem en_X11_restore  {M : jM} {Q : Int32 → Nat → jM → Prop} {X : String → jM → Prop} (h : at_X11_restore_0  M Q X) : ok_X11_restore  M Q X := jr_enter (by decide) (fun g => rfl) (fun g => Nat.le_of_ble_eq_true rfl) h
set_option maxHeartbeats 4000000 in
set_option maxRecDepth 100000 in
theorem bl_X11_restore_0  (M : jM) (Q : Int32 → Nat → jM → Prop) (X : String → jM → Prop) 
  (h : (M 10 0 8 = 0 → X "java/lang/IllegalStateException" M) ∧ (¬ (M 10 0 8 = 0) → ok_X6_copyFrom 0 1 M (fun _ _ M2 => jnb M2 = jnb M ∧ Q 0 0 M2))) :
  at_X11_restore_0  M Q X := by
  intro p l e s m args below meth c D cA base g C hr htb H locs G ls hl
  refine lv_aload_n C.x C.b dX11_restore_0 rfl (lv_at hl 0 rfl) ?_
  refine jr_get C G jc10 8 (v := .int (M 10 0 8)) (show 0 < 1 by decide) (by decide) (by decide) rfl wd463 dX11_restore_1 ?_
  refine lv_if_ne (tgt := 18) C.x C.b dX11_restore_4 (by decide) (fun hc => ?_) (fun hc => ?_)
  · have h := h.2 hc
    refine lv_aload_n C.x C.b dX11_restore_18 rfl (lv_at hl 0 rfl) ?_
    refine jr_get C G jc10 1 (v := .ref (g 6 0)) (show 0 < 1 by decide) (by decide) (by decide) rfl wd456 dX11_restore_19 ?_
    refine lv_aload_n C.x C.b dX11_restore_22 rfl (lv_at hl 0 rfl) ?_
    refine jr_get C G jc10 2 (v := .ref (g 6 1)) (show 0 < 1 by decide) (by decide) (by decide) rfl wd457 dX11_restore_23 ?_
    refine jr_V (d' := 6) C G jc6 jm_X6_copyFrom wd495 h rfl (show 0 < 2 by decide) (by decide) rfl rfl (by omega) (by decide) (by decide) ⟨rfl, rfl⟩ hl.1 (Nat.le_of_ble_eq_true rfl) dX11_restore_26 (fun r1 r1n M2 H locs h G => ?_)
    obtain ⟨nM2, h⟩ := h
    exact jr_retV C hr G h (by decide) (by decide) dX11_restore_29
  · have h := h.1 hc
    exact jr_throwW C htb G h jx_IS 31 rfl (by decide) (by decide) (by decide) (by decide) (by decide) (by decide) hl.1 dX11_restore_7 dX11_restore_10 dX11_restore_11 dX11_restore_14 dX11_restore_17

theorem en_X11_checkLoop {v1 : Int32} {M : jM} {Q : Int32 → Nat → jM → Prop} {X : String → jM → Prop} (h : at_X11_checkLoop_0 v1 M Q X) : ok_X11_checkLoop v1 M Q X := jr_enter (by decide) (fun g => rfl) (fun g => Nat.le_of_ble_eq_true rfl) h
set_option maxHeartbeats 4000000 in
set_option maxRecDepth 100000 in
theorem bl_X11_checkLoop_0 (v1 : Int32) (M : jM) (Q : Int32 → Nat → jM → Prop) (X : String → jM → Prop) 
  (h : ((0 ≤ v1 ∧ v1 < M 6 0 2 ∧ v1 < 6) → Q 0 0 M) ∧ (¬ (0 ≤ v1 ∧ v1 < M 6 0 2 ∧ v1 < 6) → X "java/lang/IndexOutOfBoundsException" M)) :
  at_X11_checkLoop_0 v1 M Q X := by
  intro p l e s m args below meth c D cA base g C hr htb H locs G ls hl
  refine lv_aload_n C.x C.b dX11_checkLoop_0 rfl (lv_at hl 0 rfl) ?_
  refine jr_get C G jc10 1 (v := .ref (g 6 0)) (show 0 < 1 by decide) (by decide) (by decide) rfl wd456 dX11_checkLoop_1 ?_
  refine lv_iload_n C.x C.b dX11_checkLoop_4 rfl (lv_at hl 1 rfl) ?_
  refine jr_V (d' := 6) C G jc6 jm_X6_hasLoop wd765 (sp_X6_hasLoop (show 0 < 2 by decide) ⟨rfl, rfl⟩ : ok_X6_hasLoop 0 v1 M (fun r _ M' => jb (0 ≤ v1 ∧ v1 < M 6 0 2 ∧ v1 < 6) = r ∧ M = M')) rfl (show 0 < 2 by decide) (by decide) rfl rfl (by omega) (by decide) (by decide) ⟨rfl, rfl⟩ hl.1 (Nat.le_of_ble_eq_true rfl) dX11_checkLoop_5 (fun r1 r1n M2 H locs hq G => ?_)
  obtain ⟨eq1, eq2⟩ := hq
  subst eq1
  subst eq2
  refine lv_if_ne (tgt := 22) C.x C.b dX11_checkLoop_8 (by decide) (fun hc => ?_) (fun hc => ?_)
  · have h := h.1 (jb_1 hc)
    exact jr_retV C hr G h (by decide) (by decide) dX11_checkLoop_22
  · have h := h.2 (jb_0 hc)
    exact jr_throwW C htb G h jx_IO 12 rfl (by decide) (by decide) (by decide) (by decide) (by decide) (by decide) hl.1 dX11_checkLoop_11 dX11_checkLoop_14 dX11_checkLoop_15 dX11_checkLoop_18 dX11_checkLoop_21

theorem en_X11_checkSide {v1 : Int32} {M : jM} {Q : Int32 → Nat → jM → Prop} {X : String → jM → Prop} (h : at_X11_checkSide_0 v1 M Q X) : ok_X11_checkSide v1 M Q X := jr_enter (by decide) (fun g => rfl) (fun g => Nat.le_of_ble_eq_true rfl) h
set_option maxHeartbeats 4000000 in
set_option maxRecDepth 100000 in
theorem bl_X11_checkSide_0 (v1 : Int32) (M : jM) (Q : Int32 → Nat → jM → Prop) (X : String → jM → Prop) 
  (h : (v1 = 0 → Q 0 0 M) ∧ (¬ (v1 = 0) → (v1 = 1 → Q 0 0 M) ∧ (¬ (v1 = 1) → X "java/lang/IllegalArgumentException" M))) :
  at_X11_checkSide_0 v1 M Q X := by
  intro p l e s m args below meth c D cA base g C hr htb H locs G ls hl
  refine lv_iload_n C.x C.b dX11_checkSide_0 rfl (lv_at hl 1 rfl) ?_
  refine lv_if_eq (tgt := 20) C.x C.b dX11_checkSide_1 (by decide) (fun hc => ?_) (fun hc => ?_)
  · have h := h.1 hc
    exact jr_retV C hr G h (by decide) (by decide) dX11_checkSide_20
  · have h := h.2 hc
    refine lv_iload_n C.x C.b dX11_checkSide_4 rfl (lv_at hl 1 rfl) ?_
    refine lv_iconst (v := 1) C.x C.b dX11_checkSide_5 (by decide) ?_
    refine lv_icmp_eq (tgt := 20) C.x C.b dX11_checkSide_6 (by decide) (fun hc => ?_) (fun hc => ?_)
    · have h := h.1 hc
      exact jr_retV C hr G h (by decide) (by decide) dX11_checkSide_20
    · have h := h.2 hc
      exact jr_throwW C htb G h jx_IA 13 rfl (by decide) (by decide) (by decide) (by decide) (by decide) (by decide) hl.1 dX11_checkSide_9 dX11_checkSide_12 dX11_checkSide_13 dX11_checkSide_16 dX11_checkSide_19

theorem en_X11_checkBefore {v1 : Int32} {v2 : Int32} {M : jM} {Q : Int32 → Nat → jM → Prop} {X : String → jM → Prop} (h : at_X11_checkBefore_0 v1 v2 M Q X) : ok_X11_checkBefore v1 v2 M Q X := jr_enter (by decide) (fun g => rfl) (fun g => Nat.le_of_ble_eq_true rfl) h
set_option maxHeartbeats 4000000 in
set_option maxRecDepth 100000 in
theorem bl_X11_checkBefore_0 (v1 : Int32) (v2 : Int32) (M : jM) (Q : Int32 → Nat → jM → Prop) (X : String → jM → Prop) 
  (h : (v1 < v2 → Q 0 0 M) ∧ (¬ (v1 < v2) → X "java/lang/IllegalArgumentException" M)) :
  at_X11_checkBefore_0 v1 v2 M Q X := by
  intro p l e s m args below meth c D cA base g C hr htb H locs G ls hl
  refine lv_iload_n C.x C.b dX11_checkBefore_0 rfl (lv_at hl 1 rfl) ?_
  refine lv_iload_n C.x C.b dX11_checkBefore_1 rfl (lv_at hl 2 rfl) ?_
  refine lv_icmp_lt (tgt := 16) C.x C.b dX11_checkBefore_2 (by decide) (fun hc => ?_) (fun hc => ?_)
  · have h := h.1 hc
    exact jr_retV C hr G h (by decide) (by decide) dX11_checkBefore_16
  · have h := h.2 hc
    exact jr_throwW C htb G h jx_IA 22 rfl (by decide) (by decide) (by decide) (by decide) (by decide) (by decide) hl.1 dX11_checkBefore_5 dX11_checkBefore_8 dX11_checkBefore_9 dX11_checkBefore_12 dX11_checkBefore_15

theorem en_X11_checkGroup {v1 : Int32} {v2 : Int32} {M : jM} {Q : Int32 → Nat → jM → Prop} {X : String → jM → Prop} (h : at_X11_checkGroup_0 v1 v2 M Q X) : ok_X11_checkGroup v1 v2 M Q X := jr_enter (by decide) (fun g => rfl) (fun g => Nat.le_of_ble_eq_true rfl) h
set_option maxHeartbeats 4000000 in
set_option maxRecDepth 100000 in
theorem bl_X11_checkGroup_0 (v1 : Int32) (v2 : Int32) (M : jM) (Q : Int32 → Nat → jM → Prop) (X : String → jM → Prop) 
  (h : (v1 ≤ v2 → Q 0 0 M) ∧ (¬ (v1 ≤ v2) → X "java/lang/IllegalArgumentException" M)) :
  at_X11_checkGroup_0 v1 v2 M Q X := by
  intro p l e s m args below meth c D cA base g C hr htb H locs G ls hl
  refine lv_iload_n C.x C.b dX11_checkGroup_0 rfl (lv_at hl 2 rfl) ?_
  refine lv_iload_n C.x C.b dX11_checkGroup_1 rfl (lv_at hl 1 rfl) ?_
  refine lv_icmp_ge (tgt := 16) C.x C.b dX11_checkGroup_2 (by decide) (fun hc => ?_) (fun hc => ?_)
  · have h := h.1 hc
    exact jr_retV C hr G h (by decide) (by decide) dX11_checkGroup_16
  · have h := h.2 hc
    exact jr_throwW C htb G h jx_IA 26 rfl (by decide) (by decide) (by decide) (by decide) (by decide) (by decide) hl.1 dX11_checkGroup_5 dX11_checkGroup_8 dX11_checkGroup_9 dX11_checkGroup_12 dX11_checkGroup_15

theorem en_X11_checkGroupOf {n1 : Nat} {v2 : Int32} {M : jM} {Q : Int32 → Nat → jM → Prop} {X : String → jM → Prop} (h : at_X11_checkGroupOf_0 n1 v2 M Q X) : ok_X11_checkGroupOf n1 v2 M Q X := jr_enter (by decide) (fun g => rfl) (fun g => Nat.le_of_ble_eq_true rfl) h
set_option maxHeartbeats 4000000 in
set_option maxRecDepth 100000 in
theorem bl_X11_checkGroupOf_0 (n1 : Nat) (v2 : Int32) (M : jM) (Q : Int32 → Nat → jM → Prop) (X : String → jM → Prop) (ha0 : n1 < 3)
  (h : (v2 < 0 → X "java/lang/IndexOutOfBoundsException" M) ∧ (¬ (v2 < 0) → (v2 < (M 5 n1 9) → Q 0 0 M) ∧ (¬ (v2 < (M 5 n1 9)) → X "java/lang/IndexOutOfBoundsException" M))) :
  at_X11_checkGroupOf_0 n1 v2 M Q X := by
  intro p l e s m args below meth c D cA base g C hr htb H locs G ls hl
  refine lv_iload_n C.x C.b dX11_checkGroupOf_0 rfl (lv_at hl 2 rfl) ?_
  refine lv_if_lt (tgt := 12) C.x C.b dX11_checkGroupOf_1 (by decide) (fun hc => ?_) (fun hc => ?_)
  · have h := h.1 hc
    exact jr_throwW C htb G h jx_IO 28 rfl (by decide) (by decide) (by decide) (by decide) (by decide) (by decide) hl.1 dX11_checkGroupOf_12 dX11_checkGroupOf_15 dX11_checkGroupOf_16 dX11_checkGroupOf_19 dX11_checkGroupOf_22
  · have h := h.2 hc
    refine lv_iload_n C.x C.b dX11_checkGroupOf_4 rfl (lv_at hl 2 rfl) ?_
    refine lv_aload_n C.x C.b dX11_checkGroupOf_5 rfl (lv_at hl 1 rfl) ?_
    refine jr_get C G jc5 9 (v := .int (M 5 n1 9)) (show n1 < 3 by omega) (by decide) (by decide) rfl wd427 dX11_checkGroupOf_6 ?_
    refine lv_icmp_lt (tgt := 23) C.x C.b dX11_checkGroupOf_9 (by decide) (fun hc => ?_) (fun hc => ?_)
    · have h := h.1 hc
      exact jr_retV C hr G h (by decide) (by decide) dX11_checkGroupOf_23
    · have h := h.2 hc
      exact jr_throwW C htb G h jx_IO 28 rfl (by decide) (by decide) (by decide) (by decide) (by decide) (by decide) hl.1 dX11_checkGroupOf_12 dX11_checkGroupOf_15 dX11_checkGroupOf_16 dX11_checkGroupOf_19 dX11_checkGroupOf_22

theorem en_X11_planOf {v1 : Int32} {M : jM} {Q : Int32 → Nat → jM → Prop} {X : String → jM → Prop} (h : at_X11_planOf_0 v1 M Q X) : ok_X11_planOf v1 M Q X := jr_enter (by decide) (fun g => rfl) (fun g => Nat.le_of_ble_eq_true rfl) h
set_option maxHeartbeats 4000000 in
set_option maxRecDepth 100000 in
theorem bl_X11_planOf_0 (v1 : Int32) (M : jM) (Q : Int32 → Nat → jM → Prop) (X : String → jM → Prop) 
  (h : (v1 < 0 → X "java/lang/IllegalArgumentException" M) ∧ (¬ (v1 < 0) → (v1 < 3 → vp_in v1 3 ∧ ok_X1_refresh  M (fun _ _ M3 => jnb M3 = jnb M ∧ ok_X5_make (v1.toNatClampNeg) M3 (fun _ _ M5 => jnb M5 = jnb M3 ∧ Q 0 (v1.toNatClampNeg) M5))) ∧ (¬ (v1 < 3) → X "java/lang/IllegalArgumentException" M))) :
  at_X11_planOf_0 v1 M Q X := by
  intro p l e s m args below meth c D cA base g C hr htb H locs G ls hl
  refine lv_iload_n C.x C.b dX11_planOf_0 rfl (lv_at hl 1 rfl) ?_
  refine lv_if_lt (tgt := 9) C.x C.b dX11_planOf_1 (by decide) (fun hc => ?_) (fun hc => ?_)
  · have h := h.1 hc
    exact jr_throwW C htb G h jx_IA 27 rfl (by decide) (by decide) (by decide) (by decide) (by decide) (by decide) hl.1 dX11_planOf_9 dX11_planOf_12 dX11_planOf_13 dX11_planOf_16 dX11_planOf_19
  · have h := h.2 hc
    refine lv_iload_n C.x C.b dX11_planOf_4 rfl (lv_at hl 1 rfl) ?_
    refine lv_iconst (v := 3) C.x C.b dX11_planOf_5 (by decide) ?_
    refine lv_icmp_lt (tgt := 20) C.x C.b dX11_planOf_6 (by decide) (fun hc => ?_) (fun hc => ?_)
    · have h := h.1 hc
      refine lv_aload_n C.x C.b dX11_planOf_20 rfl (lv_at hl 0 rfl) ?_
      refine jr_get C G jc10 7 (v := .ref (g 44 0)) (show 0 < 1 by decide) (by decide) (by decide) rfl wd462 dX11_planOf_21 ?_
      refine lv_iload_n C.x C.b dX11_planOf_24 rfl (lv_at hl 1 rfl) ?_
      obtain ⟨hs, h⟩ := h
      have hj1 := vp_lt hs
      refine jr_aald C G (R := 44) (R' := 5) (i' := v1.toNatClampNeg) (show 0 < 1 by decide) (by decide) (by decide) (by decide) rfl rfl hs rfl dX11_planOf_25 ?_
      refine lv_astore_n (lv' := [(2, .ref (g 5 (v1.toNatClampNeg))), (0, .ref (g 10 0)), (1, .int v1)]) C.x C.b dX11_planOf_26 rfl hl (by decide) rfl (fun ls hl => ?_)
      refine lv_aload_n C.x C.b dX11_planOf_27 rfl (lv_at hl 1 rfl) ?_
      refine jr_get C G jc10 4 (v := .ref (g 1 0)) (show 0 < 1 by decide) (by decide) (by decide) rfl wd459 dX11_planOf_28 ?_
      refine jr_V (d' := 6) C G jc1 jm_X1_refresh wd997 h rfl (show 0 < 1 by decide) (by decide) rfl rfl (by omega) (by decide) (by decide) ⟨rfl, rfl⟩ hl.1 (Nat.le_of_ble_eq_true rfl) dX11_planOf_31 (fun r2 r2n M3 H locs h G => ?_)
      obtain ⟨nM3, h⟩ := h
      refine lv_aload_n C.x C.b dX11_planOf_34 rfl (lv_at hl 0 rfl) ?_
      refine jr_V (d' := 6) C G jc5 jm_X5_make wd1028 h rfl (show v1.toNatClampNeg < 3 by omega) (by decide) rfl rfl (by omega) (by decide) (by decide) ⟨rfl, rfl⟩ hl.1 (Nat.le_of_ble_eq_true rfl) dX11_planOf_35 (fun r4 r4n M5 H locs h G => ?_)
      obtain ⟨nM5, h⟩ := h
      refine lv_aload_n C.x C.b dX11_planOf_38 rfl (lv_at hl 0 rfl) ?_
      exact jr_retR C hr G h (by decide) (by decide) dX11_planOf_39
    · have h := h.2 hc
      exact jr_throwW C htb G h jx_IA 27 rfl (by decide) (by decide) (by decide) (by decide) (by decide) (by decide) hl.1 dX11_planOf_9 dX11_planOf_12 dX11_planOf_13 dX11_planOf_16 dX11_planOf_19

theorem en_X11_removeLoop {v1 : Int32} {M : jM} {Q : Int32 → Nat → jM → Prop} {X : String → jM → Prop} (h : at_X11_removeLoop_0 v1 M Q X) : ok_X11_removeLoop v1 M Q X := jr_enter (by decide) (fun g => rfl) (fun g => Nat.le_of_ble_eq_true rfl) h
set_option maxHeartbeats 4000000 in
set_option maxRecDepth 100000 in
theorem bl_X11_removeLoop_0 (v1 : Int32) (M : jM) (Q : Int32 → Nat → jM → Prop) (X : String → jM → Prop) 
  (h : ok_X11_checkLoop v1 M (fun _ _ M2 => jnb M2 = jnb M ∧ ok_X6_remove 0 v1 M2 (fun _ _ M4 => jnb M4 = jnb M2 ∧ Q (M4 6 0 2) 0 M4)) X) :
  at_X11_removeLoop_0 v1 M Q X := by
  intro p l e s m args below meth c D cA base g C hr htb H locs G ls hl
  refine lv_aload_n C.x C.b dX11_removeLoop_0 rfl (lv_at hl 0 rfl) ?_
  refine lv_iload_n C.x C.b dX11_removeLoop_1 rfl (lv_at hl 1 rfl) ?_
  refine jr_VX (d' := 7) C htb G jc10 jm_X11_checkLoop wd761 h rfl (show 0 < 1 by decide) (by decide) rfl rfl (by omega) (by decide) (by decide) ⟨rfl, rfl⟩ (by decide) (by decide) hl.1 (Nat.le_of_ble_eq_true rfl) dX11_removeLoop_2 (fun r1 r1n M2 H locs h G => ?_)
  obtain ⟨nM2, h⟩ := h
  refine lv_aload_n C.x C.b dX11_removeLoop_5 rfl (lv_at hl 0 rfl) ?_
  refine jr_get C G jc10 1 (v := .ref (g 6 0)) (show 0 < 1 by decide) (by decide) (by decide) rfl wd456 dX11_removeLoop_6 ?_
  refine lv_iload_n C.x C.b dX11_removeLoop_9 rfl (lv_at hl 1 rfl) ?_
  refine jr_V (d' := 7) C G jc6 jm_X6_remove wd785 h rfl (show 0 < 2 by decide) (by decide) rfl rfl (by omega) (by decide) (by decide) ⟨rfl, rfl⟩ hl.1 (Nat.le_of_ble_eq_true rfl) dX11_removeLoop_10 (fun r3 r3n M4 H locs h G => ?_)
  obtain ⟨nM4, h⟩ := h
  refine lv_aload_n C.x C.b dX11_removeLoop_13 rfl (lv_at hl 0 rfl) ?_
  refine jr_get C G jc10 1 (v := .ref (g 6 0)) (show 0 < 1 by decide) (by decide) (by decide) rfl wd456 dX11_removeLoop_14 ?_
  refine jr_get C G jc6 2 (v := .int (M4 6 0 2)) (show 0 < 2 by decide) (by decide) (by decide) rfl wd277 dX11_removeLoop_17 ?_
  exact jr_retI C hr G h (by decide) (by decide) dX11_removeLoop_20

theorem en_X11_groupCount {v1 : Int32} {M : jM} {Q : Int32 → Nat → jM → Prop} {X : String → jM → Prop} (h : at_X11_groupCount_0 v1 M Q X) : ok_X11_groupCount v1 M Q X := jr_enter (by decide) (fun g => rfl) (fun g => Nat.le_of_ble_eq_true rfl) h
set_option maxHeartbeats 4000000 in
set_option maxRecDepth 100000 in
theorem bl_X11_groupCount_0 (v1 : Int32) (M : jM) (Q : Int32 → Nat → jM → Prop) (X : String → jM → Prop) 
  (h : ok_X11_planOf v1 M (fun _ r1n M2 => r1n < 3 ∧ jnb M2 = jnb M ∧ Q (M2 5 r1n 9) 0 M2) X) :
  at_X11_groupCount_0 v1 M Q X := by
  intro p l e s m args below meth c D cA base g C hr htb H locs G ls hl
  refine lv_aload_n C.x C.b dX11_groupCount_0 rfl (lv_at hl 0 rfl) ?_
  refine lv_iload_n C.x C.b dX11_groupCount_1 rfl (lv_at hl 1 rfl) ?_
  refine jr_VX (d' := 7) C htb G jc10 jm_X11_planOf wd1023 h rfl (show 0 < 1 by decide) (by decide) rfl rfl (by omega) (by decide) (by decide) ⟨rfl, rfl⟩ (by decide) (by decide) hl.1 (Nat.le_of_ble_eq_true rfl) dX11_groupCount_2 (fun r1 r1n M2 H locs h G => ?_)
  obtain ⟨hal3, h⟩ := h
  obtain ⟨nM2, h⟩ := h
  refine jr_get C G jc5 9 (v := .int (M2 5 r1n 9)) (show r1n < 3 by omega) (by decide) (by decide) rfl wd427 dX11_groupCount_5 ?_
  exact jr_retI C hr G h (by decide) (by decide) dX11_groupCount_8

theorem en_X11_groupOf {v1 : Int32} {v2 : Int32} {M : jM} {Q : Int32 → Nat → jM → Prop} {X : String → jM → Prop} (h : at_X11_groupOf_0 v1 v2 M Q X) : ok_X11_groupOf v1 v2 M Q X := jr_enter (by decide) (fun g => rfl) (fun g => Nat.le_of_ble_eq_true rfl) h
set_option maxHeartbeats 4000000 in
set_option maxRecDepth 100000 in
theorem bl_X11_groupOf_0 (v1 : Int32) (v2 : Int32) (M : jM) (Q : Int32 → Nat → jM → Prop) (X : String → jM → Prop) 
  (h : ok_X11_planOf v1 M (fun _ r1n M2 => r1n < 3 ∧ jnb M2 = jnb M ∧ ok_X11_checkLoop v2 M2 (fun _ _ M5 => jnb M5 = jnb M2 ∧ ok_X5_groupWith r1n v2 M5 (fun r6 _ M7 => jnb M7 = jnb M5 ∧ Q r6 0 M7)) X) X) :
  at_X11_groupOf_0 v1 v2 M Q X := by
  intro p l e s m args below meth c D cA base g C hr htb H locs G ls hl
  refine lv_aload_n C.x C.b dX11_groupOf_0 rfl (lv_at hl 0 rfl) ?_
  refine lv_iload_n C.x C.b dX11_groupOf_1 rfl (lv_at hl 1 rfl) ?_
  refine jr_VX (d' := 7) C htb G jc10 jm_X11_planOf wd1023 h rfl (show 0 < 1 by decide) (by decide) rfl rfl (by omega) (by decide) (by decide) ⟨rfl, rfl⟩ (by decide) (by decide) hl.1 (Nat.le_of_ble_eq_true rfl) dX11_groupOf_2 (fun r1 r1n M2 H locs h G => ?_)
  obtain ⟨hal3, h⟩ := h
  obtain ⟨nM2, h⟩ := h
  refine lv_astore_n (lv' := [(3, .ref (g 5 r1n)), (0, .ref (g 10 0)), (1, .int v1), (2, .int v2)]) C.x C.b dX11_groupOf_5 rfl hl (by decide) rfl (fun ls hl => ?_)
  refine lv_aload_n C.x C.b dX11_groupOf_6 rfl (lv_at hl 1 rfl) ?_
  refine lv_iload_n C.x C.b dX11_groupOf_7 rfl (lv_at hl 3 rfl) ?_
  refine jr_VX (d' := 7) C htb G jc10 jm_X11_checkLoop wd761 h rfl (show 0 < 1 by decide) (by decide) rfl rfl (by omega) (by decide) (by decide) ⟨rfl, rfl⟩ (by decide) (by decide) hl.1 (Nat.le_of_ble_eq_true rfl) dX11_groupOf_8 (fun r4 r4n M5 H locs h G => ?_)
  obtain ⟨nM5, h⟩ := h
  refine lv_aload_n C.x C.b dX11_groupOf_11 rfl (lv_at hl 0 rfl) ?_
  refine lv_iload_n C.x C.b dX11_groupOf_12 rfl (lv_at hl 3 rfl) ?_
  refine jr_V (d' := 7) C G jc5 jm_X5_groupWith wd1081 h rfl (show r1n < 3 by omega) (by decide) rfl rfl (by omega) (by decide) (by decide) ⟨rfl, rfl⟩ hl.1 (Nat.le_of_ble_eq_true rfl) dX11_groupOf_13 (fun r6 r6n M7 H locs h G => ?_)
  obtain ⟨nM7, h⟩ := h
  exact jr_retI C hr G h (by decide) (by decide) dX11_groupOf_16

theorem en_X11_shift {v1 : Int32} {v2 : Int32} {M : jM} {Q : Int32 → Nat → jM → Prop} {X : String → jM → Prop} (h : at_X11_shift_0 v1 v2 M Q X) : ok_X11_shift v1 v2 M Q X := jr_enter (by decide) (fun g => rfl) (fun g => Nat.le_of_ble_eq_true rfl) h
set_option maxHeartbeats 4000000 in
set_option maxRecDepth 100000 in
theorem bl_X11_shift_0 (v1 : Int32) (v2 : Int32) (M : jM) (Q : Int32 → Nat → jM → Prop) (X : String → jM → Prop) 
  (h : ok_X11_planOf v1 M (fun _ r1n M2 => r1n < 3 ∧ jnb M2 = jnb M ∧ ok_X11_checkLoop v2 M2 (fun _ _ M5 => jnb M5 = jnb M2 ∧ ok_X5_groupWith r1n v2 M5 (fun r6 _ M7 => jnb M7 = jnb M5 ∧ ok_X5_takeGroup r1n r6 M7 (fun _ _ M9 => jnb M9 = jnb M7 ∧ vp_in v2 6 ∧ Q (M9 27 0 v2.toNatClampNeg) 0 M9))) X) X) :
  at_X11_shift_0 v1 v2 M Q X := by
  intro p l e s m args below meth c D cA base g C hr htb H locs G ls hl
  refine lv_aload_n C.x C.b dX11_shift_0 rfl (lv_at hl 0 rfl) ?_
  refine lv_iload_n C.x C.b dX11_shift_1 rfl (lv_at hl 1 rfl) ?_
  refine jr_VX (d' := 7) C htb G jc10 jm_X11_planOf wd1023 h rfl (show 0 < 1 by decide) (by decide) rfl rfl (by omega) (by decide) (by decide) ⟨rfl, rfl⟩ (by decide) (by decide) hl.1 (Nat.le_of_ble_eq_true rfl) dX11_shift_2 (fun r1 r1n M2 H locs h G => ?_)
  obtain ⟨hal3, h⟩ := h
  obtain ⟨nM2, h⟩ := h
  refine lv_astore_n (lv' := [(3, .ref (g 5 r1n)), (0, .ref (g 10 0)), (1, .int v1), (2, .int v2)]) C.x C.b dX11_shift_5 rfl hl (by decide) rfl (fun ls hl => ?_)
  refine lv_aload_n C.x C.b dX11_shift_6 rfl (lv_at hl 1 rfl) ?_
  refine lv_iload_n C.x C.b dX11_shift_7 rfl (lv_at hl 3 rfl) ?_
  refine jr_VX (d' := 7) C htb G jc10 jm_X11_checkLoop wd761 h rfl (show 0 < 1 by decide) (by decide) rfl rfl (by omega) (by decide) (by decide) ⟨rfl, rfl⟩ (by decide) (by decide) hl.1 (Nat.le_of_ble_eq_true rfl) dX11_shift_8 (fun r4 r4n M5 H locs h G => ?_)
  obtain ⟨nM5, h⟩ := h
  refine lv_aload_n C.x C.b dX11_shift_11 rfl (lv_at hl 0 rfl) ?_
  refine lv_aload_n C.x C.b dX11_shift_12 rfl (lv_at hl 0 rfl) ?_
  refine lv_iload_n C.x C.b dX11_shift_13 rfl (lv_at hl 3 rfl) ?_
  refine jr_V (d' := 7) C G jc5 jm_X5_groupWith wd1081 h rfl (show r1n < 3 by omega) (by decide) rfl rfl (by omega) (by decide) (by decide) ⟨rfl, rfl⟩ hl.1 (Nat.le_of_ble_eq_true rfl) dX11_shift_14 (fun r6 r6n M7 H locs h G => ?_)
  obtain ⟨nM7, h⟩ := h
  refine jr_V (d' := 7) C G jc5 jm_X5_takeGroup wd1092 h rfl (show r1n < 3 by omega) (by decide) rfl rfl (by omega) (by decide) (by decide) ⟨rfl, rfl⟩ hl.1 (Nat.le_of_ble_eq_true rfl) dX11_shift_17 (fun r8 r8n M9 H locs h G => ?_)
  obtain ⟨nM9, h⟩ := h
  refine lv_aload_n C.x C.b dX11_shift_20 rfl (lv_at hl 1 rfl) ?_
  refine jr_get C G jc10 4 (v := .ref (g 1 0)) (show 0 < 1 by decide) (by decide) (by decide) rfl wd459 dX11_shift_21 ?_
  refine jr_get C G jc1 2 (v := .ref (g 27 0)) (show 0 < 1 by decide) (by decide) (by decide) rfl wd331 dX11_shift_24 ?_
  refine lv_iload_n C.x C.b dX11_shift_27 rfl (lv_at hl 3 rfl) ?_
  obtain ⟨hs, h⟩ := h
  refine jr_ald C G (show 0 < 1 by decide) (by decide) (by decide) (by decide) rfl rfl hs dX11_shift_28 ?_
  exact jr_retI C hr G h (by decide) (by decide) dX11_shift_29

theorem en_X11_step {v1 : Int32} {v2 : Int32} {v3 : Int32} {M : jM} {Q : Int32 → Nat → jM → Prop} {X : String → jM → Prop} (h : at_X11_step_0 v1 v2 v3 M Q X) : ok_X11_step v1 v2 v3 M Q X := jr_enter (by decide) (fun g => rfl) (fun g => Nat.le_of_ble_eq_true rfl) h
set_option maxHeartbeats 4000000 in
set_option maxRecDepth 100000 in
theorem bl_X11_step_0 (v1 : Int32) (v2 : Int32) (v3 : Int32) (M : jM) (Q : Int32 → Nat → jM → Prop) (X : String → jM → Prop) 
  (h : ok_X11_planOf v1 M (fun _ r1n M2 => r1n < 3 ∧ jnb M2 = jnb M ∧ (v3 < 0 → X "java/lang/IllegalArgumentException" M2) ∧ (¬ (v3 < 0) → (v3 ≤ 3 → ok_X11_checkGroupOf r1n v2 M2 (fun _ _ M5 => jnb M5 = jnb M2 ∧ ok_X5_takeGroup r1n v2 M5 (fun _ _ M7 => jnb M7 = jnb M5 ∧ (2 ≤ v3 → ((M7 1 0 9 ≤ M7 1 0 10) → (v3 = 2 → Q (M7 1 0 9) 0 M7) ∧ (¬ (v3 = 2) → Q (M7 1 0 10) 0 M7)) ∧ (¬ (M7 1 0 9 ≤ M7 1 0 10) → X "java/util/NoSuchElementException" M7)) ∧ (¬ (2 ≤ v3) → (v3 = 0 → Q (M7 1 0 7) 0 M7) ∧ (¬ (v3 = 0) → Q (M7 1 0 8) 0 M7)))) X) ∧ (¬ (v3 ≤ 3) → X "java/lang/IllegalArgumentException" M2))) X) :
  at_X11_step_0 v1 v2 v3 M Q X := by
  intro p l e s m args below meth c D cA base g C hr htb H locs G ls hl
  refine lv_aload_n C.x C.b dX11_step_0 rfl (lv_at hl 0 rfl) ?_
  refine lv_iload_n C.x C.b dX11_step_1 rfl (lv_at hl 1 rfl) ?_
  refine jr_VX (d' := 7) C htb G jc10 jm_X11_planOf wd1023 h rfl (show 0 < 1 by decide) (by decide) rfl rfl (by omega) (by decide) (by decide) ⟨rfl, rfl⟩ (by decide) (by decide) hl.1 (Nat.le_of_ble_eq_true rfl) dX11_step_2 (fun r1 r1n M2 H locs h G => ?_)
  obtain ⟨hal3, h⟩ := h
  obtain ⟨nM2, h⟩ := h
  refine lv_astore (lv' := [(4, .ref (g 5 r1n)), (0, .ref (g 10 0)), (1, .int v1), (2, .int v2), (3, .int v3)]) C.x C.b dX11_step_5 hl (by decide) rfl (fun ls hl => ?_)
  refine lv_iload_n C.x C.b dX11_step_7 rfl (lv_at hl 4 rfl) ?_
  refine lv_if_lt (tgt := 16) C.x C.b dX11_step_8 (by decide) (fun hc => ?_) (fun hc => ?_)
  · have h := h.1 hc
    exact jr_throw C htb G h jx_IA 16 rfl (by decide) (by decide) (by decide) (by decide) (by decide) (by decide) hl.1 dX11_step_16 dX11_step_19 dX11_step_20 dX11_step_22 dX11_step_25
  · have h := h.2 hc
    refine lv_iload_n C.x C.b dX11_step_11 rfl (lv_at hl 4 rfl) ?_
    refine lv_iconst (v := 3) C.x C.b dX11_step_12 (by decide) ?_
    refine lv_icmp_le (tgt := 26) C.x C.b dX11_step_13 (by decide) (fun hc => ?_) (fun hc => ?_)
    · have h := h.1 hc
      refine lv_aload_n C.x C.b dX11_step_26 rfl (lv_at hl 1 rfl) ?_
      refine lv_aload C.x C.b dX11_step_27 (lv_at hl 0 rfl) ?_
      refine lv_iload_n C.x C.b dX11_step_29 rfl (lv_at hl 3 rfl) ?_
      refine jr_VX (d' := 7) C htb G jc10 jm_X11_checkGroupOf wd1103 h rfl (show 0 < 1 by decide) (by decide) rfl rfl (by omega) (by decide) (by decide) ⟨rfl, rfl⟩ (by decide) (by decide) hl.1 (Nat.le_of_ble_eq_true rfl) dX11_step_30 (fun r4 r4n M5 H locs h G => ?_)
      obtain ⟨nM5, h⟩ := h
      refine lv_aload C.x C.b dX11_step_33 (lv_at hl 0 rfl) ?_
      refine lv_iload_n C.x C.b dX11_step_35 rfl (lv_at hl 3 rfl) ?_
      refine jr_V (d' := 7) C G jc5 jm_X5_takeGroup wd1092 h rfl (show r1n < 3 by omega) (by decide) rfl rfl (by omega) (by decide) (by decide) ⟨rfl, rfl⟩ hl.1 (Nat.le_of_ble_eq_true rfl) dX11_step_36 (fun r6 r6n M7 H locs h G => ?_)
      obtain ⟨nM7, h⟩ := h
      refine lv_iload_n C.x C.b dX11_step_39 rfl (lv_at hl 4 rfl) ?_
      refine lv_iconst (v := 2) C.x C.b dX11_step_40 (by decide) ?_
      refine lv_icmp_ge (tgt := 66) C.x C.b dX11_step_41 (by decide) (fun hc => ?_) (fun hc => ?_)
      · have h := h.1 hc
        refine lv_aload_n C.x C.b dX11_step_66 rfl (lv_at hl 1 rfl) ?_
        refine jr_get C G jc10 4 (v := .ref (g 1 0)) (show 0 < 1 by decide) (by decide) (by decide) rfl wd459 dX11_step_67 ?_
        refine jr_V (d' := 7) C G jc1 jm_X1_hasMainPart wd1108 (sp_X1_hasMainPart ⟨rfl, rfl⟩ : ok_X1_hasMainPart  M7 (fun r _ M' => jb (M7 1 0 9 ≤ M7 1 0 10) = r ∧ M7 = M')) rfl (show 0 < 1 by decide) (by decide) rfl rfl (by omega) (by decide) (by decide) ⟨rfl, rfl⟩ hl.1 (Nat.le_of_ble_eq_true rfl) dX11_step_70 (fun r8 r8n M9 H locs hq G => ?_)
        obtain ⟨eq1, eq2⟩ := hq
        subst eq1
        subst eq2
        refine lv_if_ne (tgt := 87) C.x C.b dX11_step_73 (by decide) (fun hc => ?_) (fun hc => ?_)
        · have h := h.1 (jb_1 hc)
          refine lv_iload_n C.x C.b dX11_step_87 rfl (lv_at hl 4 rfl) ?_
          refine lv_iconst (v := 2) C.x C.b dX11_step_88 (by decide) ?_
          refine lv_icmp_ne (tgt := 102) C.x C.b dX11_step_89 (by decide) (fun hc => ?_) (fun hc => ?_)
          · have h := h.2 hc
            refine lv_aload_n C.x C.b dX11_step_102 rfl (lv_at hl 1 rfl) ?_
            refine jr_get C G jc10 4 (v := .ref (g 1 0)) (show 0 < 1 by decide) (by decide) (by decide) rfl wd459 dX11_step_103 ?_
            refine jr_get C G jc1 10 (v := .int (M7 1 0 10)) (show 0 < 1 by decide) (by decide) (by decide) rfl wd343 dX11_step_106 ?_
            exact jr_retI C hr G h (by decide) (by decide) dX11_step_109
          · have h := h.1 hc
            refine lv_aload_n C.x C.b dX11_step_92 rfl (lv_at hl 1 rfl) ?_
            refine jr_get C G jc10 4 (v := .ref (g 1 0)) (show 0 < 1 by decide) (by decide) (by decide) rfl wd459 dX11_step_93 ?_
            refine jr_get C G jc1 9 (v := .int (M7 1 0 9)) (show 0 < 1 by decide) (by decide) (by decide) rfl wd341 dX11_step_96 ?_
            refine lv_goto (tgt := 109) C.x C.b dX11_step_99 (by decide) ?_
            exact jr_retI C hr G h (by decide) (by decide) dX11_step_109
        · have h := h.2 (jb_0 hc)
          exact jr_throwWNE C htb G h  29 rfl (by decide) (by decide) (by decide) (by decide) (by decide) (by decide) hl.1 dX11_step_76 dX11_step_79 dX11_step_80 dX11_step_83 dX11_step_86
      · have h := h.2 hc
        refine lv_iload_n C.x C.b dX11_step_44 rfl (lv_at hl 4 rfl) ?_
        refine lv_if_ne (tgt := 58) C.x C.b dX11_step_45 (by decide) (fun hc => ?_) (fun hc => ?_)
        · have h := h.2 hc
          refine lv_aload_n C.x C.b dX11_step_58 rfl (lv_at hl 1 rfl) ?_
          refine jr_get C G jc10 4 (v := .ref (g 1 0)) (show 0 < 1 by decide) (by decide) (by decide) rfl wd459 dX11_step_59 ?_
          refine jr_get C G jc1 8 (v := .int (M7 1 0 8)) (show 0 < 1 by decide) (by decide) (by decide) rfl wd339 dX11_step_62 ?_
          exact jr_retI C hr G h (by decide) (by decide) dX11_step_65
        · have h := h.1 hc
          refine lv_aload_n C.x C.b dX11_step_48 rfl (lv_at hl 1 rfl) ?_
          refine jr_get C G jc10 4 (v := .ref (g 1 0)) (show 0 < 1 by decide) (by decide) (by decide) rfl wd459 dX11_step_49 ?_
          refine jr_get C G jc1 7 (v := .int (M7 1 0 7)) (show 0 < 1 by decide) (by decide) (by decide) rfl wd337 dX11_step_52 ?_
          refine lv_goto (tgt := 65) C.x C.b dX11_step_55 (by decide) ?_
          exact jr_retI C hr G h (by decide) (by decide) dX11_step_65
    · have h := h.2 hc
      exact jr_throw C htb G h jx_IA 16 rfl (by decide) (by decide) (by decide) (by decide) (by decide) (by decide) hl.1 dX11_step_16 dX11_step_19 dX11_step_20 dX11_step_22 dX11_step_25

theorem en_X11_carried {v1 : Int32} {v2 : Int32} {M : jM} {Q : Int32 → Nat → jM → Prop} {X : String → jM → Prop} (h : at_X11_carried_0 v1 v2 M Q X) : ok_X11_carried v1 v2 M Q X := jr_enter (by decide) (fun g => rfl) (fun g => Nat.le_of_ble_eq_true rfl) h
set_option maxHeartbeats 4000000 in
set_option maxRecDepth 100000 in
theorem bl_X11_carried_0 (v1 : Int32) (v2 : Int32) (M : jM) (Q : Int32 → Nat → jM → Prop) (X : String → jM → Prop) 
  (h : ok_X11_planOf v1 M (fun _ r1n M2 => r1n < 3 ∧ jnb M2 = jnb M ∧ ok_X11_checkGroupOf r1n v2 M2 (fun _ _ M5 => jnb M5 = jnb M2 ∧ ok_X5_takeGroup r1n v2 M5 (fun _ _ M7 => jnb M7 = jnb M5 ∧ ok_X1_carriedDistance  M7 (fun r8 _ M9 => jnb M9 = jnb M7 ∧ Q r8 0 M9))) X) X) :
  at_X11_carried_0 v1 v2 M Q X := by
  intro p l e s m args below meth c D cA base g C hr htb H locs G ls hl
  refine lv_aload_n C.x C.b dX11_carried_0 rfl (lv_at hl 0 rfl) ?_
  refine lv_iload_n C.x C.b dX11_carried_1 rfl (lv_at hl 1 rfl) ?_
  refine jr_VX (d' := 7) C htb G jc10 jm_X11_planOf wd1023 h rfl (show 0 < 1 by decide) (by decide) rfl rfl (by omega) (by decide) (by decide) ⟨rfl, rfl⟩ (by decide) (by decide) hl.1 (Nat.le_of_ble_eq_true rfl) dX11_carried_2 (fun r1 r1n M2 H locs h G => ?_)
  obtain ⟨hal3, h⟩ := h
  obtain ⟨nM2, h⟩ := h
  refine lv_astore_n (lv' := [(3, .ref (g 5 r1n)), (0, .ref (g 10 0)), (1, .int v1), (2, .int v2)]) C.x C.b dX11_carried_5 rfl hl (by decide) rfl (fun ls hl => ?_)
  refine lv_aload_n C.x C.b dX11_carried_6 rfl (lv_at hl 1 rfl) ?_
  refine lv_aload_n C.x C.b dX11_carried_7 rfl (lv_at hl 0 rfl) ?_
  refine lv_iload_n C.x C.b dX11_carried_8 rfl (lv_at hl 3 rfl) ?_
  refine jr_VX (d' := 7) C htb G jc10 jm_X11_checkGroupOf wd1103 h rfl (show 0 < 1 by decide) (by decide) rfl rfl (by omega) (by decide) (by decide) ⟨rfl, rfl⟩ (by decide) (by decide) hl.1 (Nat.le_of_ble_eq_true rfl) dX11_carried_9 (fun r4 r4n M5 H locs h G => ?_)
  obtain ⟨nM5, h⟩ := h
  refine lv_aload_n C.x C.b dX11_carried_12 rfl (lv_at hl 0 rfl) ?_
  refine lv_iload_n C.x C.b dX11_carried_13 rfl (lv_at hl 3 rfl) ?_
  refine jr_V (d' := 7) C G jc5 jm_X5_takeGroup wd1092 h rfl (show r1n < 3 by omega) (by decide) rfl rfl (by omega) (by decide) (by decide) ⟨rfl, rfl⟩ hl.1 (Nat.le_of_ble_eq_true rfl) dX11_carried_14 (fun r6 r6n M7 H locs h G => ?_)
  obtain ⟨nM7, h⟩ := h
  refine lv_aload_n C.x C.b dX11_carried_17 rfl (lv_at hl 1 rfl) ?_
  refine jr_get C G jc10 4 (v := .ref (g 1 0)) (show 0 < 1 by decide) (by decide) (by decide) rfl wd459 dX11_carried_18 ?_
  refine jr_V (d' := 7) C G jc1 jm_X1_carriedDistance wd1127 h rfl (show 0 < 1 by decide) (by decide) rfl rfl (by omega) (by decide) (by decide) ⟨rfl, rfl⟩ hl.1 (Nat.le_of_ble_eq_true rfl) dX11_carried_21 (fun r8 r8n M9 H locs h G => ?_)
  obtain ⟨nM9, h⟩ := h
  exact jr_retI C hr G h (by decide) (by decide) dX11_carried_24

theorem en_X11_reads {v1 : Int32} {v2 : Int32} {M : jM} {Q : Int32 → Nat → jM → Prop} {X : String → jM → Prop} (h : at_X11_reads_0 v1 v2 M Q X) : ok_X11_reads v1 v2 M Q X := jr_enter (by decide) (fun g => rfl) (fun g => Nat.le_of_ble_eq_true rfl) h
set_option maxHeartbeats 4000000 in
set_option maxRecDepth 100000 in
theorem bl_X11_reads_0 (v1 : Int32) (v2 : Int32) (M : jM) (Q : Int32 → Nat → jM → Prop) (X : String → jM → Prop) 
  (h : ok_X11_planOf v1 M (fun _ r1n M2 => r1n < 3 ∧ jnb M2 = jnb M ∧ (v2 < 0 → X "java/lang/IllegalArgumentException" M2) ∧ (¬ (v2 < 0) → (v2 ≤ 2 → ok_X9_begin (M2 40 0 (1 : Int32).toNatClampNeg) M2 (fun _ _ M5 => jnb M5 = jnb M2 ∧ at_X11_reads_44c v2 r1n 0 M5 Q X)) ∧ (¬ (v2 ≤ 2) → X "java/lang/IllegalArgumentException" M2))) X) :
  at_X11_reads_0 v1 v2 M Q X := by
  intro p l e s m args below meth c D cA base g C hr htb H locs G ls hl
  refine lv_aload_n C.x C.b dX11_reads_0 rfl (lv_at hl 0 rfl) ?_
  refine lv_iload_n C.x C.b dX11_reads_1 rfl (lv_at hl 1 rfl) ?_
  refine jr_VX (d' := 7) C htb G jc10 jm_X11_planOf wd1023 h rfl (show 0 < 1 by decide) (by decide) rfl rfl (by omega) (by decide) (by decide) ⟨rfl, rfl⟩ (by decide) (by decide) hl.1 (Nat.le_of_ble_eq_true rfl) dX11_reads_2 (fun r1 r1n M2 H locs h G => ?_)
  obtain ⟨hal3, h⟩ := h
  obtain ⟨nM2, h⟩ := h
  refine lv_astore_n (lv' := [(3, .ref (g 5 r1n)), (0, .ref (g 10 0)), (1, .int v1), (2, .int v2)]) C.x C.b dX11_reads_5 rfl hl (by decide) rfl (fun ls hl => ?_)
  refine lv_iload_n C.x C.b dX11_reads_6 rfl (lv_at hl 3 rfl) ?_
  refine lv_if_lt (tgt := 15) C.x C.b dX11_reads_7 (by decide) (fun hc => ?_) (fun hc => ?_)
  · have h := h.1 hc
    exact jr_throw C htb G h jx_IA 23 rfl (by decide) (by decide) (by decide) (by decide) (by decide) (by decide) hl.1 dX11_reads_15 dX11_reads_18 dX11_reads_19 dX11_reads_21 dX11_reads_24
  · have h := h.2 hc
    refine lv_iload_n C.x C.b dX11_reads_10 rfl (lv_at hl 3 rfl) ?_
    refine lv_iconst (v := 2) C.x C.b dX11_reads_11 (by decide) ?_
    refine lv_icmp_le (tgt := 25) C.x C.b dX11_reads_12 (by decide) (fun hc => ?_) (fun hc => ?_)
    · have h := h.1 hc
      refine lv_aload_n C.x C.b dX11_reads_25 rfl (lv_at hl 1 rfl) ?_
      refine jr_get C G jc10 5 (v := .ref (g 9 0)) (show 0 < 1 by decide) (by decide) (by decide) rfl wd460 dX11_reads_26 ?_
      refine lv_aload_n C.x C.b dX11_reads_29 rfl (lv_at hl 1 rfl) ?_
      refine jr_get C G jc10 1 (v := .ref (g 6 0)) (show 0 < 1 by decide) (by decide) (by decide) rfl wd456 dX11_reads_30 ?_
      refine jr_get C G jc6 1 (v := .ref (g 40 0)) (show 0 < 2 by decide) (by decide) (by decide) rfl wd273 dX11_reads_33 ?_
      refine lv_iconst (v := 1) C.x C.b dX11_reads_36 (by decide) ?_
      refine jr_ald C G (show 0 < 2 by decide) (by decide) (by decide) (by decide) rfl rfl (by unfold vp_in; decide) dX11_reads_37 ?_
      refine jr_V (d' := 7) C G jc9 jm_X9_begin wd1138 h rfl (show 0 < 1 by decide) (by decide) rfl rfl (by omega) (by decide) (by decide) ⟨rfl, rfl⟩ hl.1 (Nat.le_of_ble_eq_true rfl) dX11_reads_38 (fun r4 r4n M5 H locs h G => ?_)
      obtain ⟨nM5, h⟩ := h
      refine lv_iconst (v := 0) C.x C.b dX11_reads_41 (by decide) ?_
      refine lv_istore (lv' := [(4, .int 0), (3, .ref (g 5 r1n)), (0, .ref (g 10 0)), (1, .int v1), (2, .int v2)]) C.x C.b dX11_reads_42 hl (by decide) rfl (fun ls hl => ?_)
      exact h p l e s m args below meth c D cA base g C hr htb _ _ G ls (lv_sub hl [2, 4, 1, 0] rfl)
    · have h := h.2 hc
      exact jr_throw C htb G h jx_IA 23 rfl (by decide) (by decide) (by decide) (by decide) (by decide) (by decide) hl.1 dX11_reads_15 dX11_reads_18 dX11_reads_19 dX11_reads_21 dX11_reads_24
set_option maxHeartbeats 4000000 in
set_option maxRecDepth 100000 in
theorem bl_X11_reads_44 (v2 : Int32) (n3 : Nat) (v4 : Int32) (M : jM) (Q : Int32 → Nat → jM → Prop) (X : String → jM → Prop) (ha0 : n3 < 3)
  (h : ((M 5 n3 9) ≤ v4 → (v2 = 0 → Q (M 9 0 2) 0 M) ∧ (¬ (v2 = 0) → (v2 = 1 → Q (M 9 0 3) 0 M) ∧ (¬ (v2 = 1) → Q (M 9 0 4) 0 M))) ∧ (¬ ((M 5 n3 9) ≤ v4) → ok_X5_takeGroup n3 v4 M (fun _ _ M2 => jnb M2 = jnb M ∧ ok_X9_forget  M2 (fun _ _ M4 => jnb M4 = jnb M2 ∧ ok_X1_perform_T  M4 (fun _ _ M6 => jnb M6 = jnb M4 ∧ at_X11_reads_44c v2 n3 (v4 + 1) M6 Q X))))) :
  at_X11_reads_44c v2 n3 v4 M Q X := by
  intro p l e s m args below meth c D cA base g C hr htb H locs G ls hl
  refine lv_iload C.x C.b dX11_reads_44 (lv_at hl 3 rfl) ?_
  refine lv_aload_n C.x C.b dX11_reads_46 rfl (lv_at hl 2 rfl) ?_
  refine jr_get C G jc5 9 (v := .int (M 5 n3 9)) (show n3 < 3 by omega) (by decide) (by decide) rfl wd427 dX11_reads_47 ?_
  refine lv_icmp_ge (tgt := 83) C.x C.b dX11_reads_50 (by decide) (fun hc => ?_) (fun hc => ?_)
  · have h := h.1 hc
    refine lv_iload_n C.x C.b dX11_reads_83 rfl (lv_at hl 1 rfl) ?_
    refine lv_if_ne (tgt := 97) C.x C.b dX11_reads_84 (by decide) (fun hc => ?_) (fun hc => ?_)
    · have h := h.2 hc
      refine lv_iload_n C.x C.b dX11_reads_97 rfl (lv_at hl 1 rfl) ?_
      refine lv_iconst (v := 1) C.x C.b dX11_reads_98 (by decide) ?_
      refine lv_icmp_ne (tgt := 112) C.x C.b dX11_reads_99 (by decide) (fun hc => ?_) (fun hc => ?_)
      · have h := h.2 hc
        refine lv_aload_n C.x C.b dX11_reads_112 rfl (lv_at hl 0 rfl) ?_
        refine jr_get C G jc10 5 (v := .ref (g 9 0)) (show 0 < 1 by decide) (by decide) (by decide) rfl wd460 dX11_reads_113 ?_
        refine jr_get C G jc9 4 (v := .int (M 9 0 4)) (show 0 < 1 by decide) (by decide) (by decide) rfl wd381 dX11_reads_116 ?_
        exact jr_retI C hr G h (by decide) (by decide) dX11_reads_119
      · have h := h.1 hc
        refine lv_aload_n C.x C.b dX11_reads_102 rfl (lv_at hl 0 rfl) ?_
        refine jr_get C G jc10 5 (v := .ref (g 9 0)) (show 0 < 1 by decide) (by decide) (by decide) rfl wd460 dX11_reads_103 ?_
        refine jr_get C G jc9 3 (v := .int (M 9 0 3)) (show 0 < 1 by decide) (by decide) (by decide) rfl wd379 dX11_reads_106 ?_
        refine lv_goto (tgt := 119) C.x C.b dX11_reads_109 (by decide) ?_
        exact jr_retI C hr G h (by decide) (by decide) dX11_reads_119
    · have h := h.1 hc
      refine lv_aload_n C.x C.b dX11_reads_87 rfl (lv_at hl 0 rfl) ?_
      refine jr_get C G jc10 5 (v := .ref (g 9 0)) (show 0 < 1 by decide) (by decide) (by decide) rfl wd460 dX11_reads_88 ?_
      refine jr_get C G jc9 2 (v := .int (M 9 0 2)) (show 0 < 1 by decide) (by decide) (by decide) rfl wd376 dX11_reads_91 ?_
      refine lv_goto (tgt := 119) C.x C.b dX11_reads_94 (by decide) ?_
      exact jr_retI C hr G h (by decide) (by decide) dX11_reads_119
  · have h := h.2 hc
    refine lv_aload_n C.x C.b dX11_reads_53 rfl (lv_at hl 2 rfl) ?_
    refine lv_iload C.x C.b dX11_reads_54 (lv_at hl 3 rfl) ?_
    refine jr_V (d' := 7) C G jc5 jm_X5_takeGroup wd1092 h rfl (show n3 < 3 by omega) (by decide) rfl rfl (by omega) (by decide) (by decide) ⟨rfl, rfl⟩ hl.1 (Nat.le_of_ble_eq_true rfl) dX11_reads_56 (fun r1 r1n M2 H locs h G => ?_)
    obtain ⟨nM2, h⟩ := h
    refine lv_aload_n C.x C.b dX11_reads_59 rfl (lv_at hl 0 rfl) ?_
    refine jr_get C G jc10 5 (v := .ref (g 9 0)) (show 0 < 1 by decide) (by decide) (by decide) rfl wd460 dX11_reads_60 ?_
    refine jr_V (d' := 7) C G jc9 jm_X9_forget wd1139 h rfl (show 0 < 1 by decide) (by decide) rfl rfl (by omega) (by decide) (by decide) ⟨rfl, rfl⟩ hl.1 (Nat.le_of_ble_eq_true rfl) dX11_reads_63 (fun r3 r3n M4 H locs h G => ?_)
    obtain ⟨nM4, h⟩ := h
    refine lv_aload_n C.x C.b dX11_reads_66 rfl (lv_at hl 0 rfl) ?_
    refine jr_get C G jc10 4 (v := .ref (g 1 0)) (show 0 < 1 by decide) (by decide) (by decide) rfl wd459 dX11_reads_67 ?_
    refine lv_aload_n C.x C.b dX11_reads_70 rfl (lv_at hl 0 rfl) ?_
    refine jr_get C G jc10 5 (v := .ref (g 9 0)) (show 0 < 1 by decide) (by decide) (by decide) rfl wd460 dX11_reads_71 ?_
    refine jr_V (d' := 7) C G jc1 jm_X1_perform wd1140 h rfl (show 0 < 1 by decide) (by decide) rfl rfl (by omega) (by decide) (by decide) ⟨rfl, rfl⟩ hl.1 (Nat.le_of_ble_eq_true rfl) dX11_reads_74 (fun r5 r5n M6 H locs h G => ?_)
    obtain ⟨nM6, h⟩ := h
    refine lv_iinc (v := v4 + 1) (lv' := [(4, .int (v4 + 1)), (0, .ref (g 10 0)), (2, .int v2), (3, .ref (g 5 n3))]) C.x C.b dX11_reads_77 hl (k := 3) rfl rfl (by decide) rfl (fun ls hl => ?_)
    refine lv_goto (tgt := 44) C.x C.b dX11_reads_80 (by decide) ?_
    exact h p l e s m args below meth c D cA base g C hr htb _ _ G ls (lv_sub hl [1, 2, 3, 0] rfl)

theorem en_X11_run {v1 : Int32} {M : jM} {Q : Int32 → Nat → jM → Prop} {X : String → jM → Prop} (h : at_X11_run_0 v1 M Q X) : ok_X11_run v1 M Q X := jr_enter (by decide) (fun g => rfl) (fun g => Nat.le_of_ble_eq_true rfl) h
set_option maxHeartbeats 4000000 in
set_option maxRecDepth 100000 in
theorem bl_X11_run_0 (v1 : Int32) (M : jM) (Q : Int32 → Nat → jM → Prop) (X : String → jM → Prop) 
  (h : ok_X11_planOf v1 M (fun _ r1n M2 => r1n < 3 ∧ jnb M2 = jnb M ∧ ok_X5_execute r1n M2 (fun _ _ M5 => jnb M5 = jnb M2 ∧ at_X11_run_16c r1n 7 0 M5 Q X)) X) :
  at_X11_run_0 v1 M Q X := by
  intro p l e s m args below meth c D cA base g C hr htb H locs G ls hl
  refine lv_aload_n C.x C.b dX11_run_0 rfl (lv_at hl 0 rfl) ?_
  refine lv_iload_n C.x C.b dX11_run_1 rfl (lv_at hl 1 rfl) ?_
  refine jr_VX (d' := 7) C htb G jc10 jm_X11_planOf wd1023 h rfl (show 0 < 1 by decide) (by decide) rfl rfl (by omega) (by decide) (by decide) ⟨rfl, rfl⟩ (by decide) (by decide) hl.1 (Nat.le_of_ble_eq_true rfl) dX11_run_2 (fun r1 r1n M2 H locs h G => ?_)
  obtain ⟨hal3, h⟩ := h
  obtain ⟨nM2, h⟩ := h
  refine lv_astore_n (lv' := [(2, .ref (g 5 r1n)), (0, .ref (g 10 0)), (1, .int v1)]) C.x C.b dX11_run_5 rfl hl (by decide) rfl (fun ls hl => ?_)
  refine lv_aload_n C.x C.b dX11_run_6 rfl (lv_at hl 0 rfl) ?_
  refine jr_V (d' := 7) C G jc5 jm_X5_execute wd1156 h rfl (show r1n < 3 by omega) (by decide) rfl rfl (by omega) (by decide) (by decide) ⟨rfl, rfl⟩ hl.1 (Nat.le_of_ble_eq_true rfl) dX11_run_7 (fun r4 r4n M5 H locs h G => ?_)
  obtain ⟨nM5, h⟩ := h
  refine lv_bipush (v := 7) C.x C.b dX11_run_10 (by decide) ?_
  refine lv_istore_n (lv' := [(3, .int 7), (2, .ref (g 5 r1n)), (0, .ref (g 10 0)), (1, .int v1)]) C.x C.b dX11_run_12 rfl hl (by decide) rfl (fun ls hl => ?_)
  refine lv_iconst (v := 0) C.x C.b dX11_run_13 (by decide) ?_
  refine lv_istore (lv' := [(4, .int 0), (3, .int 7), (2, .ref (g 5 r1n)), (0, .ref (g 10 0)), (1, .int v1)]) C.x C.b dX11_run_14 hl (by decide) rfl (fun ls hl => ?_)
  exact h p l e s m args below meth c D cA base g C hr htb _ _ G ls (lv_sub hl [2, 1, 0] rfl)
set_option maxHeartbeats 4000000 in
set_option maxRecDepth 100000 in
theorem bl_X11_run_16 (n2 : Nat) (v3 : Int32) (v4 : Int32) (M : jM) (Q : Int32 → Nat → jM → Prop) (X : String → jM → Prop) (ha0 : n2 < 3)
  (h : (245 ≤ v4 → Q v3 0 M) ∧ (¬ (245 ≤ v4) → vp_in v4 245 ∧ at_X11_run_16c n2 ((31 * v3) + (M 33 (n2 + 1) v4.toNatClampNeg)) (v4 + 1) M Q X)) :
  at_X11_run_16c n2 v3 v4 M Q X := by
  intro p l e s m args below meth c D cA base g C hr htb H locs G ls hl
  refine lv_iload C.x C.b dX11_run_16 (lv_at hl 2 rfl) ?_
  refine lv_sipush (v := 245) C.x C.b dX11_run_18 (by decide) ?_
  refine lv_icmp_ge (tgt := 46) C.x C.b dX11_run_21 (by decide) (fun hc => ?_) (fun hc => ?_)
  · have h := h.1 hc
    refine lv_iload_n C.x C.b dX11_run_46 rfl (lv_at hl 1 rfl) ?_
    exact jr_retI C hr G h (by decide) (by decide) dX11_run_47
  · have h := h.2 hc
    refine lv_bipush (v := 31) C.x C.b dX11_run_24 (by decide) ?_
    refine lv_iload_n C.x C.b dX11_run_26 rfl (lv_at hl 1 rfl) ?_
    refine lv_imul C.x C.b dX11_run_27 ?_
    refine lv_aload_n C.x C.b dX11_run_28 rfl (lv_at hl 0 rfl) ?_
    refine jr_get C G jc5 4 (v := .ref (g 4 (n2 + 1))) (show n2 < 3 by omega) (by decide) (by decide) rfl wd421 dX11_run_29 ?_
    refine jr_get C G jc4 0 (v := .ref (g 33 (n2 + 1))) (show (n2 + 1) < 4 by omega) (by decide) (by decide) rfl wd400 dX11_run_32 ?_
    refine lv_iload C.x C.b dX11_run_35 (lv_at hl 2 rfl) ?_
    obtain ⟨hs, h⟩ := h
    refine jr_ald C G (show (n2 + 1) < 4 by omega) (by decide) (by decide) (by decide) rfl rfl hs dX11_run_37 ?_
    refine lv_iadd C.x C.b dX11_run_38 ?_
    refine lv_istore_n (lv' := [(3, .int ((31 * v3) + (M 33 (n2 + 1) v4.toNatClampNeg))), (2, .ref (g 5 n2)), (4, .int v4)]) C.x C.b dX11_run_39 rfl hl (by decide) rfl (fun ls hl => ?_)
    refine lv_iinc (v := v4 + 1) (lv' := [(4, .int (v4 + 1)), (3, .int ((31 * v3) + (M 33 (n2 + 1) v4.toNatClampNeg))), (2, .ref (g 5 n2))]) C.x C.b dX11_run_40 hl (k := 2) rfl rfl (by decide) rfl (fun ls hl => ?_)
    refine lv_goto (tgt := 16) C.x C.b dX11_run_43 (by decide) ?_
    exact h p l e s m args below meth c D cA base g C hr htb _ _ G ls (lv_sub hl [2, 1, 0] rfl)

theorem en_X11_cell {v1 : Int32} {v2 : Int32} {v3 : Int32} {M : jM} {Q : Int32 → Nat → jM → Prop} {X : String → jM → Prop} (h : at_X11_cell_0 v1 v2 v3 M Q X) : ok_X11_cell v1 v2 v3 M Q X := jr_enter (by decide) (fun g => rfl) (fun g => Nat.le_of_ble_eq_true rfl) h
set_option maxHeartbeats 4000000 in
set_option maxRecDepth 100000 in
theorem bl_X11_cell_0 (v1 : Int32) (v2 : Int32) (v3 : Int32) (M : jM) (Q : Int32 → Nat → jM → Prop) (X : String → jM → Prop) 
  (h : ok_X11_planOf v1 M (fun _ r1n M2 => r1n < 3 ∧ jnb M2 = jnb M ∧ (v2 < 0 → X "java/lang/IndexOutOfBoundsException" M2) ∧ (¬ (v2 < 0) → (5 ≤ v2 → X "java/lang/IndexOutOfBoundsException" M2) ∧ (¬ (5 ≤ v2) → (v3 < (-9) → X "java/lang/IndexOutOfBoundsException" M2) ∧ (¬ (v3 < (-9)) → (v3 < 40 → ok_X5_execute r1n M2 (fun _ _ M5 => jnb M5 = jnb M2 ∧ vp_in (((v2 * 49) + v3) - (-9)) 245 ∧ Q (M5 33 (r1n + 1) (((v2 * 49) + v3) - (-9)).toNatClampNeg) 0 M5)) ∧ (¬ (v3 < 40) → X "java/lang/IndexOutOfBoundsException" M2))))) X) :
  at_X11_cell_0 v1 v2 v3 M Q X := by
  intro p l e s m args below meth c D cA base g C hr htb H locs G ls hl
  refine lv_aload_n C.x C.b dX11_cell_0 rfl (lv_at hl 0 rfl) ?_
  refine lv_iload_n C.x C.b dX11_cell_1 rfl (lv_at hl 1 rfl) ?_
  refine jr_VX (d' := 7) C htb G jc10 jm_X11_planOf wd1023 h rfl (show 0 < 1 by decide) (by decide) rfl rfl (by omega) (by decide) (by decide) ⟨rfl, rfl⟩ (by decide) (by decide) hl.1 (Nat.le_of_ble_eq_true rfl) dX11_cell_2 (fun r1 r1n M2 H locs h G => ?_)
  obtain ⟨hal3, h⟩ := h
  obtain ⟨nM2, h⟩ := h
  refine lv_astore (lv' := [(4, .ref (g 5 r1n)), (0, .ref (g 10 0)), (1, .int v1), (2, .int v2), (3, .int v3)]) C.x C.b dX11_cell_5 hl (by decide) rfl (fun ls hl => ?_)
  refine lv_iload_n C.x C.b dX11_cell_7 rfl (lv_at hl 3 rfl) ?_
  refine lv_if_lt (tgt := 28) C.x C.b dX11_cell_8 (by decide) (fun hc => ?_) (fun hc => ?_)
  · have h := h.1 hc
    exact jr_throwW C htb G h jx_IO 30 rfl (by decide) (by decide) (by decide) (by decide) (by decide) (by decide) hl.1 dX11_cell_28 dX11_cell_31 dX11_cell_32 dX11_cell_35 dX11_cell_38
  · have h := h.2 hc
    refine lv_iload_n C.x C.b dX11_cell_11 rfl (lv_at hl 3 rfl) ?_
    refine lv_iconst (v := 5) C.x C.b dX11_cell_12 (by decide) ?_
    refine lv_icmp_ge (tgt := 28) C.x C.b dX11_cell_13 (by decide) (fun hc => ?_) (fun hc => ?_)
    · have h := h.1 hc
      exact jr_throwW C htb G h jx_IO 30 rfl (by decide) (by decide) (by decide) (by decide) (by decide) (by decide) hl.1 dX11_cell_28 dX11_cell_31 dX11_cell_32 dX11_cell_35 dX11_cell_38
    · have h := h.2 hc
      refine lv_iload_n C.x C.b dX11_cell_16 rfl (lv_at hl 4 rfl) ?_
      refine lv_bipush (v := (-9)) C.x C.b dX11_cell_17 (by decide) ?_
      refine lv_icmp_lt (tgt := 28) C.x C.b dX11_cell_19 (by decide) (fun hc => ?_) (fun hc => ?_)
      · have h := h.1 hc
        exact jr_throwW C htb G h jx_IO 30 rfl (by decide) (by decide) (by decide) (by decide) (by decide) (by decide) hl.1 dX11_cell_28 dX11_cell_31 dX11_cell_32 dX11_cell_35 dX11_cell_38
      · have h := h.2 hc
        refine lv_iload_n C.x C.b dX11_cell_22 rfl (lv_at hl 4 rfl) ?_
        refine lv_bipush (v := 40) C.x C.b dX11_cell_23 (by decide) ?_
        refine lv_icmp_lt (tgt := 39) C.x C.b dX11_cell_25 (by decide) (fun hc => ?_) (fun hc => ?_)
        · have h := h.1 hc
          refine lv_aload C.x C.b dX11_cell_39 (lv_at hl 0 rfl) ?_
          refine jr_V (d' := 7) C G jc5 jm_X5_execute wd1156 h rfl (show r1n < 3 by omega) (by decide) rfl rfl (by omega) (by decide) (by decide) ⟨rfl, rfl⟩ hl.1 (Nat.le_of_ble_eq_true rfl) dX11_cell_41 (fun r4 r4n M5 H locs h G => ?_)
          obtain ⟨nM5, h⟩ := h
          refine lv_aload C.x C.b dX11_cell_44 (lv_at hl 0 rfl) ?_
          refine jr_get C G jc5 4 (v := .ref (g 4 (r1n + 1))) (show r1n < 3 by omega) (by decide) (by decide) rfl wd421 dX11_cell_46 ?_
          refine jr_get C G jc4 0 (v := .ref (g 33 (r1n + 1))) (show (r1n + 1) < 4 by omega) (by decide) (by decide) rfl wd400 dX11_cell_49 ?_
          refine lv_iload_n C.x C.b dX11_cell_52 rfl (lv_at hl 3 rfl) ?_
          refine lv_bipush (v := 49) C.x C.b dX11_cell_53 (by decide) ?_
          refine lv_imul C.x C.b dX11_cell_55 ?_
          refine lv_iload_n C.x C.b dX11_cell_56 rfl (lv_at hl 4 rfl) ?_
          refine lv_iadd C.x C.b dX11_cell_57 ?_
          refine lv_bipush (v := (-9)) C.x C.b dX11_cell_58 (by decide) ?_
          refine lv_isub C.x C.b dX11_cell_60 ?_
          obtain ⟨hs, h⟩ := h
          refine jr_ald C G (show (r1n + 1) < 4 by omega) (by decide) (by decide) (by decide) rfl rfl hs dX11_cell_61 ?_
          exact jr_retI C hr G h (by decide) (by decide) dX11_cell_62
        · have h := h.2 hc
          exact jr_throwW C htb G h jx_IO 30 rfl (by decide) (by decide) (by decide) (by decide) (by decide) (by decide) hl.1 dX11_cell_28 dX11_cell_31 dX11_cell_32 dX11_cell_35 dX11_cell_38

theorem en_X11_changed {v1 : Int32} {M : jM} {Q : Int32 → Nat → jM → Prop} {X : String → jM → Prop} (h : at_X11_changed_0 v1 M Q X) : ok_X11_changed v1 M Q X := jr_enter (by decide) (fun g => rfl) (fun g => Nat.le_of_ble_eq_true rfl) h
set_option maxHeartbeats 4000000 in
set_option maxRecDepth 100000 in
theorem bl_X11_changed_0 (v1 : Int32) (M : jM) (Q : Int32 → Nat → jM → Prop) (X : String → jM → Prop) 
  (h : ok_X11_planOf v1 M (fun _ r1n M2 => r1n < 3 ∧ jnb M2 = jnb M ∧ ok_X5_execute r1n M2 (fun _ _ M5 => jnb M5 = jnb M2 ∧ ok_X4_begin 0 (M5 40 0 (2 : Int32).toNatClampNeg) M5 (fun _ _ M7 => jnb M7 = jnb M5 ∧ at_X11_changed_31c r1n 0 0 M7 Q X))) X) :
  at_X11_changed_0 v1 M Q X := by
  intro p l e s m args below meth c D cA base g C hr htb H locs G ls hl
  refine lv_aload_n C.x C.b dX11_changed_0 rfl (lv_at hl 0 rfl) ?_
  refine lv_iload_n C.x C.b dX11_changed_1 rfl (lv_at hl 1 rfl) ?_
  refine jr_VX (d' := 7) C htb G jc10 jm_X11_planOf wd1023 h rfl (show 0 < 1 by decide) (by decide) rfl rfl (by omega) (by decide) (by decide) ⟨rfl, rfl⟩ (by decide) (by decide) hl.1 (Nat.le_of_ble_eq_true rfl) dX11_changed_2 (fun r1 r1n M2 H locs h G => ?_)
  obtain ⟨hal3, h⟩ := h
  obtain ⟨nM2, h⟩ := h
  refine lv_astore_n (lv' := [(2, .ref (g 5 r1n)), (0, .ref (g 10 0)), (1, .int v1)]) C.x C.b dX11_changed_5 rfl hl (by decide) rfl (fun ls hl => ?_)
  refine lv_aload_n C.x C.b dX11_changed_6 rfl (lv_at hl 0 rfl) ?_
  refine jr_V (d' := 7) C G jc5 jm_X5_execute wd1156 h rfl (show r1n < 3 by omega) (by decide) rfl rfl (by omega) (by decide) (by decide) ⟨rfl, rfl⟩ hl.1 (Nat.le_of_ble_eq_true rfl) dX11_changed_7 (fun r4 r4n M5 H locs h G => ?_)
  obtain ⟨nM5, h⟩ := h
  refine lv_aload_n C.x C.b dX11_changed_10 rfl (lv_at hl 1 rfl) ?_
  refine jr_get C G jc10 6 (v := .ref (g 4 0)) (show 0 < 1 by decide) (by decide) (by decide) rfl wd461 dX11_changed_11 ?_
  refine lv_aload_n C.x C.b dX11_changed_14 rfl (lv_at hl 1 rfl) ?_
  refine jr_get C G jc10 1 (v := .ref (g 6 0)) (show 0 < 1 by decide) (by decide) (by decide) rfl wd456 dX11_changed_15 ?_
  refine jr_get C G jc6 1 (v := .ref (g 40 0)) (show 0 < 2 by decide) (by decide) (by decide) rfl wd273 dX11_changed_18 ?_
  refine lv_iconst (v := 2) C.x C.b dX11_changed_21 (by decide) ?_
  refine jr_ald C G (show 0 < 2 by decide) (by decide) (by decide) (by decide) rfl rfl (by unfold vp_in; decide) dX11_changed_22 ?_
  refine jr_V (d' := 7) C G jc4 jm_X4_begin wd881 h rfl (show 0 < 4 by decide) (by decide) rfl rfl (by omega) (by decide) (by decide) ⟨rfl, rfl⟩ hl.1 (Nat.le_of_ble_eq_true rfl) dX11_changed_23 (fun r6 r6n M7 H locs h G => ?_)
  obtain ⟨nM7, h⟩ := h
  refine lv_iconst (v := 0) C.x C.b dX11_changed_26 (by decide) ?_
  refine lv_istore_n (lv' := [(3, .int 0), (2, .ref (g 5 r1n)), (0, .ref (g 10 0)), (1, .int v1)]) C.x C.b dX11_changed_27 rfl hl (by decide) rfl (fun ls hl => ?_)
  refine lv_iconst (v := 0) C.x C.b dX11_changed_28 (by decide) ?_
  refine lv_istore (lv' := [(4, .int 0), (3, .int 0), (2, .ref (g 5 r1n)), (0, .ref (g 10 0)), (1, .int v1)]) C.x C.b dX11_changed_29 hl (by decide) rfl (fun ls hl => ?_)
  exact h p l e s m args below meth c D cA base g C hr htb _ _ G ls (lv_sub hl [3, 2, 1, 0] rfl)
set_option maxHeartbeats 4000000 in
set_option maxRecDepth 100000 in
theorem bl_X11_changed_31 (n2 : Nat) (v3 : Int32) (v4 : Int32) (M : jM) (Q : Int32 → Nat → jM → Prop) (X : String → jM → Prop) (ha0 : n2 < 3)
  (h : (245 ≤ v4 → Q v3 0 M) ∧ (¬ (245 ≤ v4) → vp_in v4 245 ∧ vp_in v4 245 ∧ (M 33 (n2 + 1) v4.toNatClampNeg = (M 33 0 v4.toNatClampNeg) → at_X11_changed_31c n2 (v3 + 0) (v4 + 1) M Q X) ∧ (¬ (M 33 (n2 + 1) v4.toNatClampNeg = (M 33 0 v4.toNatClampNeg)) → at_X11_changed_31c n2 (v3 + 1) (v4 + 1) M Q X))) :
  at_X11_changed_31c n2 v3 v4 M Q X := by
  intro p l e s m args below meth c D cA base g C hr htb H locs G ls hl
  refine lv_iload C.x C.b dX11_changed_31 (lv_at hl 3 rfl) ?_
  refine lv_sipush (v := 245) C.x C.b dX11_changed_33 (by decide) ?_
  refine lv_icmp_ge (tgt := 76) C.x C.b dX11_changed_36 (by decide) (fun hc => ?_) (fun hc => ?_)
  · have h := h.1 hc
    refine lv_iload_n C.x C.b dX11_changed_76 rfl (lv_at hl 2 rfl) ?_
    exact jr_retI C hr G h (by decide) (by decide) dX11_changed_77
  · have h := h.2 hc
    refine lv_iload_n C.x C.b dX11_changed_39 rfl (lv_at hl 2 rfl) ?_
    refine lv_aload_n C.x C.b dX11_changed_40 rfl (lv_at hl 1 rfl) ?_
    refine jr_get C G jc5 4 (v := .ref (g 4 (n2 + 1))) (show n2 < 3 by omega) (by decide) (by decide) rfl wd421 dX11_changed_41 ?_
    refine jr_get C G jc4 0 (v := .ref (g 33 (n2 + 1))) (show (n2 + 1) < 4 by omega) (by decide) (by decide) rfl wd400 dX11_changed_44 ?_
    refine lv_iload C.x C.b dX11_changed_47 (lv_at hl 3 rfl) ?_
    obtain ⟨hs, h⟩ := h
    refine jr_ald C G (show (n2 + 1) < 4 by omega) (by decide) (by decide) (by decide) rfl rfl hs dX11_changed_49 ?_
    refine lv_aload_n C.x C.b dX11_changed_50 rfl (lv_at hl 0 rfl) ?_
    refine jr_get C G jc10 6 (v := .ref (g 4 0)) (show 0 < 1 by decide) (by decide) (by decide) rfl wd461 dX11_changed_51 ?_
    refine jr_get C G jc4 0 (v := .ref (g 33 0)) (show 0 < 4 by decide) (by decide) (by decide) rfl wd400 dX11_changed_54 ?_
    refine lv_iload C.x C.b dX11_changed_57 (lv_at hl 3 rfl) ?_
    obtain ⟨hs, h⟩ := h
    refine jr_ald C G (show 0 < 4 by decide) (by decide) (by decide) (by decide) rfl rfl hs dX11_changed_59 ?_
    refine lv_icmp_ne (tgt := 67) C.x C.b dX11_changed_60 (by decide) (fun hc => ?_) (fun hc => ?_)
    · have h := h.2 hc
      refine lv_iconst (v := 1) C.x C.b dX11_changed_67 (by decide) ?_
      refine lv_iadd C.x C.b dX11_changed_68 ?_
      refine lv_istore_n (lv' := [(3, .int (v3 + 1)), (0, .ref (g 10 0)), (2, .ref (g 5 n2)), (4, .int v4)]) C.x C.b dX11_changed_69 rfl hl (by decide) rfl (fun ls hl => ?_)
      refine lv_iinc (v := v4 + 1) (lv' := [(4, .int (v4 + 1)), (3, .int (v3 + 1)), (0, .ref (g 10 0)), (2, .ref (g 5 n2))]) C.x C.b dX11_changed_70 hl (k := 3) rfl rfl (by decide) rfl (fun ls hl => ?_)
      refine lv_goto (tgt := 31) C.x C.b dX11_changed_73 (by decide) ?_
      exact h p l e s m args below meth c D cA base g C hr htb _ _ G ls (lv_sub hl [2, 3, 1, 0] rfl)
    · have h := h.1 hc
      refine lv_iconst (v := 0) C.x C.b dX11_changed_63 (by decide) ?_
      refine lv_goto (tgt := 68) C.x C.b dX11_changed_64 (by decide) ?_
      refine lv_iadd C.x C.b dX11_changed_68 ?_
      refine lv_istore_n (lv' := [(3, .int (v3 + 0)), (0, .ref (g 10 0)), (2, .ref (g 5 n2)), (4, .int v4)]) C.x C.b dX11_changed_69 rfl hl (by decide) rfl (fun ls hl => ?_)
      refine lv_iinc (v := v4 + 1) (lv' := [(4, .int (v4 + 1)), (3, .int (v3 + 0)), (0, .ref (g 10 0)), (2, .ref (g 5 n2))]) C.x C.b dX11_changed_70 hl (k := 3) rfl rfl (by decide) rfl (fun ls hl => ?_)
      refine lv_goto (tgt := 31) C.x C.b dX11_changed_73 (by decide) ?_
      exact h p l e s m args below meth c D cA base g C hr htb _ _ G ls (lv_sub hl [2, 3, 1, 0] rfl)

theorem en_X11_checkPair {v1 : Int32} {v2 : Int32} {M : jM} {Q : Int32 → Nat → jM → Prop} {X : String → jM → Prop} (h : at_X11_checkPair_0 v1 v2 M Q X) : ok_X11_checkPair v1 v2 M Q X := jr_enter (by decide) (fun g => rfl) (fun g => Nat.le_of_ble_eq_true rfl) h
set_option maxHeartbeats 4000000 in
set_option maxRecDepth 100000 in
theorem bl_X11_checkPair_0 (v1 : Int32) (v2 : Int32) (M : jM) (Q : Int32 → Nat → jM → Prop) (X : String → jM → Prop) 
  (h : ok_X11_checkLoop v1 M (fun _ _ M2 => jnb M2 = jnb M ∧ ok_X11_checkLoop v2 M2 (fun _ _ M4 => jnb M4 = jnb M2 ∧ Q 0 0 M4) X) X) :
  at_X11_checkPair_0 v1 v2 M Q X := by
  intro p l e s m args below meth c D cA base g C hr htb H locs G ls hl
  refine lv_aload_n C.x C.b dX11_checkPair_0 rfl (lv_at hl 0 rfl) ?_
  refine lv_iload_n C.x C.b dX11_checkPair_1 rfl (lv_at hl 1 rfl) ?_
  refine jr_VX (d' := 7) C htb G jc10 jm_X11_checkLoop wd761 h rfl (show 0 < 1 by decide) (by decide) rfl rfl (by omega) (by decide) (by decide) ⟨rfl, rfl⟩ (by decide) (by decide) hl.1 (Nat.le_of_ble_eq_true rfl) dX11_checkPair_2 (fun r1 r1n M2 H locs h G => ?_)
  obtain ⟨nM2, h⟩ := h
  refine lv_aload_n C.x C.b dX11_checkPair_5 rfl (lv_at hl 0 rfl) ?_
  refine lv_iload_n C.x C.b dX11_checkPair_6 rfl (lv_at hl 2 rfl) ?_
  refine jr_VX (d' := 7) C htb G jc10 jm_X11_checkLoop wd761 h rfl (show 0 < 1 by decide) (by decide) rfl rfl (by omega) (by decide) (by decide) ⟨rfl, rfl⟩ (by decide) (by decide) hl.1 (Nat.le_of_ble_eq_true rfl) dX11_checkPair_7 (fun r3 r3n M4 H locs h G => ?_)
  obtain ⟨nM4, h⟩ := h
  exact jr_retV C hr G h (by decide) (by decide) dX11_checkPair_10

theorem en_X11_loopAt {v1 : Int32} {M : jM} {Q : Int32 → Nat → jM → Prop} {X : String → jM → Prop} (h : at_X11_loopAt_0 v1 M Q X) : ok_X11_loopAt v1 M Q X := jr_enter (by decide) (fun g => rfl) (fun g => Nat.le_of_ble_eq_true rfl) h
set_option maxHeartbeats 4000000 in
set_option maxRecDepth 100000 in
theorem bl_X11_loopAt_0 (v1 : Int32) (M : jM) (Q : Int32 → Nat → jM → Prop) (X : String → jM → Prop) 
  (h : ok_X11_checkLoop v1 M (fun _ _ M2 => jnb M2 = jnb M ∧ vp_in v1 6 ∧ Q 0 (6 * 0 + v1.toNatClampNeg) M2) X) :
  at_X11_loopAt_0 v1 M Q X := by
  intro p l e s m args below meth c D cA base g C hr htb H locs G ls hl
  refine lv_aload_n C.x C.b dX11_loopAt_0 rfl (lv_at hl 0 rfl) ?_
  refine lv_iload_n C.x C.b dX11_loopAt_1 rfl (lv_at hl 1 rfl) ?_
  refine jr_VX (d' := 7) C htb G jc10 jm_X11_checkLoop wd761 h rfl (show 0 < 1 by decide) (by decide) rfl rfl (by omega) (by decide) (by decide) ⟨rfl, rfl⟩ (by decide) (by decide) hl.1 (Nat.le_of_ble_eq_true rfl) dX11_loopAt_2 (fun r1 r1n M2 H locs h G => ?_)
  obtain ⟨nM2, h⟩ := h
  refine lv_aload_n C.x C.b dX11_loopAt_5 rfl (lv_at hl 0 rfl) ?_
  refine jr_get C G jc10 1 (v := .ref (g 6 0)) (show 0 < 1 by decide) (by decide) (by decide) rfl wd456 dX11_loopAt_6 ?_
  refine jr_get C G jc6 0 (v := .ref (g 39 0)) (show 0 < 2 by decide) (by decide) (by decide) rfl wd269 dX11_loopAt_9 ?_
  refine lv_iload_n C.x C.b dX11_loopAt_12 rfl (lv_at hl 1 rfl) ?_
  obtain ⟨hs, h⟩ := h
  have hj3 := vp_lt hs
  refine jr_aald C G (R := 39) (R' := 3) (i' := 6 * 0 + v1.toNatClampNeg) (show 0 < 2 by decide) (by decide) (by decide) (by decide) rfl rfl hs rfl dX11_loopAt_13 ?_
  exact jr_retR C hr G h (by decide) (by decide) dX11_loopAt_14

theorem en_X11_bound {v1 : Int32} {v2 : Int32} {M : jM} {Q : Int32 → Nat → jM → Prop} {X : String → jM → Prop} (h : at_X11_bound_0 v1 v2 M Q X) : ok_X11_bound v1 v2 M Q X := jr_enter (by decide) (fun g => rfl) (fun g => Nat.le_of_ble_eq_true rfl) h
set_option maxHeartbeats 4000000 in
set_option maxRecDepth 100000 in
theorem bl_X11_bound_0 (v1 : Int32) (v2 : Int32) (M : jM) (Q : Int32 → Nat → jM → Prop) (X : String → jM → Prop) 
  (h : ok_X11_loopAt v1 M (fun _ r1n M2 => r1n < 20 ∧ jnb M2 = jnb M ∧ ok_X11_checkSide v2 M2 (fun _ _ M5 => jnb M5 = jnb M2 ∧ (v2 = 0 → Q (M5 3 r1n 1) 0 M5) ∧ (¬ (v2 = 0) → Q (M5 3 r1n 2) 0 M5)) X) X) :
  at_X11_bound_0 v1 v2 M Q X := by
  intro p l e s m args below meth c D cA base g C hr htb H locs G ls hl
  refine lv_aload_n C.x C.b dX11_bound_0 rfl (lv_at hl 0 rfl) ?_
  refine lv_iload_n C.x C.b dX11_bound_1 rfl (lv_at hl 1 rfl) ?_
  refine jr_VX (d' := 8) C htb G jc10 jm_X11_loopAt wd797 h rfl (show 0 < 1 by decide) (by decide) rfl rfl (by omega) (by decide) (by decide) ⟨rfl, rfl⟩ (by decide) (by decide) hl.1 (Nat.le_of_ble_eq_true rfl) dX11_bound_2 (fun r1 r1n M2 H locs h G => ?_)
  obtain ⟨hal3, h⟩ := h
  obtain ⟨nM2, h⟩ := h
  refine lv_astore_n (lv' := [(3, .ref (g 3 r1n)), (0, .ref (g 10 0)), (1, .int v1), (2, .int v2)]) C.x C.b dX11_bound_5 rfl hl (by decide) rfl (fun ls hl => ?_)
  refine lv_aload_n C.x C.b dX11_bound_6 rfl (lv_at hl 1 rfl) ?_
  refine lv_iload_n C.x C.b dX11_bound_7 rfl (lv_at hl 3 rfl) ?_
  refine jr_VX (d' := 8) C htb G jc10 jm_X11_checkSide wd801 h rfl (show 0 < 1 by decide) (by decide) rfl rfl (by omega) (by decide) (by decide) ⟨rfl, rfl⟩ (by decide) (by decide) hl.1 (Nat.le_of_ble_eq_true rfl) dX11_bound_8 (fun r4 r4n M5 H locs h G => ?_)
  obtain ⟨nM5, h⟩ := h
  refine lv_iload_n C.x C.b dX11_bound_11 rfl (lv_at hl 3 rfl) ?_
  refine lv_if_ne (tgt := 22) C.x C.b dX11_bound_12 (by decide) (fun hc => ?_) (fun hc => ?_)
  · have h := h.2 hc
    refine lv_aload_n C.x C.b dX11_bound_22 rfl (lv_at hl 0 rfl) ?_
    refine jr_get C G jc3 2 (v := .int (M5 3 r1n 2)) (show r1n < 20 by omega) (by decide) (by decide) rfl wd220 dX11_bound_23 ?_
    exact jr_retI C hr G h (by decide) (by decide) dX11_bound_26
  · have h := h.1 hc
    refine lv_aload_n C.x C.b dX11_bound_15 rfl (lv_at hl 0 rfl) ?_
    refine jr_get C G jc3 1 (v := .int (M5 3 r1n 1)) (show r1n < 20 by omega) (by decide) (by decide) rfl wd214 dX11_bound_16 ?_
    refine lv_goto (tgt := 26) C.x C.b dX11_bound_19 (by decide) ?_
    exact jr_retI C hr G h (by decide) (by decide) dX11_bound_26

theorem en_X11_setBound {v1 : Int32} {v2 : Int32} {v3 : Int32} {M : jM} {Q : Int32 → Nat → jM → Prop} {X : String → jM → Prop} (h : at_X11_setBound_0 v1 v2 v3 M Q X) : ok_X11_setBound v1 v2 v3 M Q X := jr_enter (by decide) (fun g => rfl) (fun g => Nat.le_of_ble_eq_true rfl) h
set_option maxHeartbeats 4000000 in
set_option maxRecDepth 100000 in
theorem bl_X11_setBound_0 (v1 : Int32) (v2 : Int32) (v3 : Int32) (M : jM) (Q : Int32 → Nat → jM → Prop) (X : String → jM → Prop) 
  (h : ok_X11_loopAt v1 M (fun _ r1n M2 => r1n < 20 ∧ jnb M2 = jnb M ∧ ok_X11_checkSide v2 M2 (fun _ _ M5 => jnb M5 = jnb M2 ∧ (v2 = 0 → (v2 = 1 → (v3 < 0 → X "java/lang/IllegalArgumentException" M5) ∧ (¬ (v3 < 0) → (v3 < v3 → X "java/lang/IllegalArgumentException" M5) ∧ (¬ (v3 < v3) → (v3 ≤ 30 → (v2 = 0 → ok_X6_replaceBounds 0 v1 v3 v3 M5 (fun _ _ M21 => jnb M21 = jnb M5 ∧ Q (M5 3 r1n 1) 0 M21)) ∧ (¬ (v2 = 0) → ok_X6_replaceBounds 0 v1 v3 v3 M5 (fun _ _ M19 => jnb M19 = jnb M5 ∧ Q (M5 3 r1n 2) 0 M19))) ∧ (¬ (v3 ≤ 30) → X "java/lang/IllegalArgumentException" M5)))) ∧ (¬ (v2 = 1) → (v3 < 0 → X "java/lang/IllegalArgumentException" M5) ∧ (¬ (v3 < 0) → ((M5 3 r1n 2) < v3 → X "java/lang/IllegalArgumentException" M5) ∧ (¬ ((M5 3 r1n 2) < v3) → ((M5 3 r1n 2) ≤ 30 → (v2 = 0 → ok_X6_replaceBounds 0 v1 v3 (M5 3 r1n 2) M5 (fun _ _ M17 => jnb M17 = jnb M5 ∧ Q (M5 3 r1n 1) 0 M17)) ∧ (¬ (v2 = 0) → ok_X6_replaceBounds 0 v1 v3 (M5 3 r1n 2) M5 (fun _ _ M15 => jnb M15 = jnb M5 ∧ Q (M5 3 r1n 2) 0 M15))) ∧ (¬ ((M5 3 r1n 2) ≤ 30) → X "java/lang/IllegalArgumentException" M5))))) ∧ (¬ (v2 = 0) → (v2 = 1 → ((M5 3 r1n 1) < 0 → X "java/lang/IllegalArgumentException" M5) ∧ (¬ ((M5 3 r1n 1) < 0) → (v3 < (M5 3 r1n 1) → X "java/lang/IllegalArgumentException" M5) ∧ (¬ (v3 < (M5 3 r1n 1)) → (v3 ≤ 30 → (v2 = 0 → ok_X6_replaceBounds 0 v1 (M5 3 r1n 1) v3 M5 (fun _ _ M13 => jnb M13 = jnb M5 ∧ Q (M5 3 r1n 1) 0 M13)) ∧ (¬ (v2 = 0) → ok_X6_replaceBounds 0 v1 (M5 3 r1n 1) v3 M5 (fun _ _ M11 => jnb M11 = jnb M5 ∧ Q (M5 3 r1n 2) 0 M11))) ∧ (¬ (v3 ≤ 30) → X "java/lang/IllegalArgumentException" M5)))) ∧ (¬ (v2 = 1) → ((M5 3 r1n 1) < 0 → X "java/lang/IllegalArgumentException" M5) ∧ (¬ ((M5 3 r1n 1) < 0) → ((M5 3 r1n 2) < (M5 3 r1n 1) → X "java/lang/IllegalArgumentException" M5) ∧ (¬ ((M5 3 r1n 2) < (M5 3 r1n 1)) → ((M5 3 r1n 2) ≤ 30 → (v2 = 0 → ok_X6_replaceBounds 0 v1 (M5 3 r1n 1) (M5 3 r1n 2) M5 (fun _ _ M9 => jnb M9 = jnb M5 ∧ Q (M5 3 r1n 1) 0 M9)) ∧ (¬ (v2 = 0) → ok_X6_replaceBounds 0 v1 (M5 3 r1n 1) (M5 3 r1n 2) M5 (fun _ _ M7 => jnb M7 = jnb M5 ∧ Q (M5 3 r1n 2) 0 M7))) ∧ (¬ ((M5 3 r1n 2) ≤ 30) → X "java/lang/IllegalArgumentException" M5)))))) X) X) :
  at_X11_setBound_0 v1 v2 v3 M Q X := by
  intro p l e s m args below meth c D cA base g C hr htb H locs G ls hl
  refine lv_aload_n C.x C.b dX11_setBound_0 rfl (lv_at hl 0 rfl) ?_
  refine lv_iload_n C.x C.b dX11_setBound_1 rfl (lv_at hl 1 rfl) ?_
  refine jr_VX (d' := 8) C htb G jc10 jm_X11_loopAt wd797 h rfl (show 0 < 1 by decide) (by decide) rfl rfl (by omega) (by decide) (by decide) ⟨rfl, rfl⟩ (by decide) (by decide) hl.1 (Nat.le_of_ble_eq_true rfl) dX11_setBound_2 (fun r1 r1n M2 H locs h G => ?_)
  obtain ⟨hal3, h⟩ := h
  obtain ⟨nM2, h⟩ := h
  refine lv_astore (lv' := [(4, .ref (g 3 r1n)), (0, .ref (g 10 0)), (1, .int v1), (2, .int v2), (3, .int v3)]) C.x C.b dX11_setBound_5 hl (by decide) rfl (fun ls hl => ?_)
  refine lv_aload_n C.x C.b dX11_setBound_7 rfl (lv_at hl 1 rfl) ?_
  refine lv_iload_n C.x C.b dX11_setBound_8 rfl (lv_at hl 3 rfl) ?_
  refine jr_VX (d' := 8) C htb G jc10 jm_X11_checkSide wd801 h rfl (show 0 < 1 by decide) (by decide) rfl rfl (by omega) (by decide) (by decide) ⟨rfl, rfl⟩ (by decide) (by decide) hl.1 (Nat.le_of_ble_eq_true rfl) dX11_setBound_9 (fun r4 r4n M5 H locs h G => ?_)
  obtain ⟨nM5, h⟩ := h
  refine lv_iload_n C.x C.b dX11_setBound_12 rfl (lv_at hl 3 rfl) ?_
  refine lv_if_ne (tgt := 20) C.x C.b dX11_setBound_13 (by decide) (fun hc => ?_) (fun hc => ?_)
  · have h := h.2 hc
    refine lv_aload C.x C.b dX11_setBound_20 (lv_at hl 0 rfl) ?_
    refine jr_get C G jc3 1 (v := .int (M5 3 r1n 1)) (show r1n < 20 by omega) (by decide) (by decide) rfl wd214 dX11_setBound_22 ?_
    refine lv_istore (lv' := [(5, .int (M5 3 r1n 1)), (4, .ref (g 3 r1n)), (0, .ref (g 10 0)), (1, .int v1), (2, .int v2), (3, .int v3)]) C.x C.b dX11_setBound_25 hl (by decide) rfl (fun ls hl => ?_)
    refine lv_iload_n C.x C.b dX11_setBound_27 rfl (lv_at hl 4 rfl) ?_
    refine lv_iconst (v := 1) C.x C.b dX11_setBound_28 (by decide) ?_
    refine lv_icmp_ne (tgt := 36) C.x C.b dX11_setBound_29 (by decide) (fun hc => ?_) (fun hc => ?_)
    · have h := h.2 hc
      refine lv_aload C.x C.b dX11_setBound_36 (lv_at hl 1 rfl) ?_
      refine jr_get C G jc3 2 (v := .int (M5 3 r1n 2)) (show r1n < 20 by omega) (by decide) (by decide) rfl wd220 dX11_setBound_38 ?_
      refine lv_istore (lv' := [(6, .int (M5 3 r1n 2)), (5, .int (M5 3 r1n 1)), (4, .ref (g 3 r1n)), (0, .ref (g 10 0)), (1, .int v1), (2, .int v2), (3, .int v3)]) C.x C.b dX11_setBound_41 hl (by decide) rfl (fun ls hl => ?_)
      refine lv_iload C.x C.b dX11_setBound_43 (lv_at hl 1 rfl) ?_
      refine lv_if_lt (tgt := 62) C.x C.b dX11_setBound_45 (by decide) (fun hc => ?_) (fun hc => ?_)
      · have h := h.1 hc
        exact jr_throw C htb G h jx_IA 14 rfl (by decide) (by decide) (by decide) (by decide) (by decide) (by decide) hl.1 dX11_setBound_62 dX11_setBound_65 dX11_setBound_66 dX11_setBound_68 dX11_setBound_71
      · have h := h.2 hc
        refine lv_iload C.x C.b dX11_setBound_48 (lv_at hl 0 rfl) ?_
        refine lv_iload C.x C.b dX11_setBound_50 (lv_at hl 1 rfl) ?_
        refine lv_icmp_lt (tgt := 62) C.x C.b dX11_setBound_52 (by decide) (fun hc => ?_) (fun hc => ?_)
        · have h := h.1 hc
          exact jr_throw C htb G h jx_IA 14 rfl (by decide) (by decide) (by decide) (by decide) (by decide) (by decide) hl.1 dX11_setBound_62 dX11_setBound_65 dX11_setBound_66 dX11_setBound_68 dX11_setBound_71
        · have h := h.2 hc
          refine lv_iload C.x C.b dX11_setBound_55 (lv_at hl 0 rfl) ?_
          refine lv_bipush (v := 30) C.x C.b dX11_setBound_57 (by decide) ?_
          refine lv_icmp_le (tgt := 72) C.x C.b dX11_setBound_59 (by decide) (fun hc => ?_) (fun hc => ?_)
          · have h := h.1 hc
            refine lv_iload_n C.x C.b dX11_setBound_72 rfl (lv_at hl 5 rfl) ?_
            refine lv_if_ne (tgt := 84) C.x C.b dX11_setBound_73 (by decide) (fun hc => ?_) (fun hc => ?_)
            · have h := h.2 hc
              refine lv_aload C.x C.b dX11_setBound_84 (lv_at hl 2 rfl) ?_
              refine jr_get C G jc3 2 (v := .int (M5 3 r1n 2)) (show r1n < 20 by omega) (by decide) (by decide) rfl wd220 dX11_setBound_86 ?_
              refine lv_istore (lv' := [(7, .int (M5 3 r1n 2)), (6, .int (M5 3 r1n 2)), (5, .int (M5 3 r1n 1)), (4, .ref (g 3 r1n)), (0, .ref (g 10 0)), (1, .int v1), (2, .int v2), (3, .int v3)]) C.x C.b dX11_setBound_89 hl (by decide) rfl (fun ls hl => ?_)
              refine lv_aload_n C.x C.b dX11_setBound_91 rfl (lv_at hl 4 rfl) ?_
              refine jr_get C G jc10 1 (v := .ref (g 6 0)) (show 0 < 1 by decide) (by decide) (by decide) rfl wd456 dX11_setBound_92 ?_
              refine lv_iload_n C.x C.b dX11_setBound_95 rfl (lv_at hl 5 rfl) ?_
              refine lv_iload C.x C.b dX11_setBound_96 (lv_at hl 2 rfl) ?_
              refine lv_iload C.x C.b dX11_setBound_98 (lv_at hl 1 rfl) ?_
              refine jr_V (d' := 8) C G jc6 jm_X6_replaceBounds wd814 h rfl (show 0 < 2 by decide) (by decide) rfl rfl (by omega) (by decide) (by decide) ⟨rfl, rfl⟩ hl.1 (Nat.le_of_ble_eq_true rfl) dX11_setBound_100 (fun r6 r6n M7 H locs h G => ?_)
              obtain ⟨nM7, h⟩ := h
              refine lv_iload C.x C.b dX11_setBound_103 (lv_at hl 0 rfl) ?_
              exact jr_retI C hr G h (by decide) (by decide) dX11_setBound_105
            · have h := h.1 hc
              refine lv_aload C.x C.b dX11_setBound_76 (lv_at hl 2 rfl) ?_
              refine jr_get C G jc3 1 (v := .int (M5 3 r1n 1)) (show r1n < 20 by omega) (by decide) (by decide) rfl wd214 dX11_setBound_78 ?_
              refine lv_goto (tgt := 89) C.x C.b dX11_setBound_81 (by decide) ?_
              refine lv_istore (lv' := [(7, .int (M5 3 r1n 1)), (6, .int (M5 3 r1n 2)), (5, .int (M5 3 r1n 1)), (4, .ref (g 3 r1n)), (0, .ref (g 10 0)), (1, .int v1), (2, .int v2), (3, .int v3)]) C.x C.b dX11_setBound_89 hl (by decide) rfl (fun ls hl => ?_)
              refine lv_aload_n C.x C.b dX11_setBound_91 rfl (lv_at hl 4 rfl) ?_
              refine jr_get C G jc10 1 (v := .ref (g 6 0)) (show 0 < 1 by decide) (by decide) (by decide) rfl wd456 dX11_setBound_92 ?_
              refine lv_iload_n C.x C.b dX11_setBound_95 rfl (lv_at hl 5 rfl) ?_
              refine lv_iload C.x C.b dX11_setBound_96 (lv_at hl 2 rfl) ?_
              refine lv_iload C.x C.b dX11_setBound_98 (lv_at hl 1 rfl) ?_
              refine jr_V (d' := 8) C G jc6 jm_X6_replaceBounds wd814 h rfl (show 0 < 2 by decide) (by decide) rfl rfl (by omega) (by decide) (by decide) ⟨rfl, rfl⟩ hl.1 (Nat.le_of_ble_eq_true rfl) dX11_setBound_100 (fun r8 r8n M9 H locs h G => ?_)
              obtain ⟨nM9, h⟩ := h
              refine lv_iload C.x C.b dX11_setBound_103 (lv_at hl 0 rfl) ?_
              exact jr_retI C hr G h (by decide) (by decide) dX11_setBound_105
          · have h := h.2 hc
            exact jr_throw C htb G h jx_IA 14 rfl (by decide) (by decide) (by decide) (by decide) (by decide) (by decide) hl.1 dX11_setBound_62 dX11_setBound_65 dX11_setBound_66 dX11_setBound_68 dX11_setBound_71
    · have h := h.1 hc
      refine lv_iload_n C.x C.b dX11_setBound_32 rfl (lv_at hl 5 rfl) ?_
      refine lv_goto (tgt := 41) C.x C.b dX11_setBound_33 (by decide) ?_
      refine lv_istore (lv' := [(6, .int v3), (5, .int (M5 3 r1n 1)), (4, .ref (g 3 r1n)), (0, .ref (g 10 0)), (1, .int v1), (2, .int v2), (3, .int v3)]) C.x C.b dX11_setBound_41 hl (by decide) rfl (fun ls hl => ?_)
      refine lv_iload C.x C.b dX11_setBound_43 (lv_at hl 1 rfl) ?_
      refine lv_if_lt (tgt := 62) C.x C.b dX11_setBound_45 (by decide) (fun hc => ?_) (fun hc => ?_)
      · have h := h.1 hc
        exact jr_throw C htb G h jx_IA 14 rfl (by decide) (by decide) (by decide) (by decide) (by decide) (by decide) hl.1 dX11_setBound_62 dX11_setBound_65 dX11_setBound_66 dX11_setBound_68 dX11_setBound_71
      · have h := h.2 hc
        refine lv_iload C.x C.b dX11_setBound_48 (lv_at hl 0 rfl) ?_
        refine lv_iload C.x C.b dX11_setBound_50 (lv_at hl 1 rfl) ?_
        refine lv_icmp_lt (tgt := 62) C.x C.b dX11_setBound_52 (by decide) (fun hc => ?_) (fun hc => ?_)
        · have h := h.1 hc
          exact jr_throw C htb G h jx_IA 14 rfl (by decide) (by decide) (by decide) (by decide) (by decide) (by decide) hl.1 dX11_setBound_62 dX11_setBound_65 dX11_setBound_66 dX11_setBound_68 dX11_setBound_71
        · have h := h.2 hc
          refine lv_iload C.x C.b dX11_setBound_55 (lv_at hl 0 rfl) ?_
          refine lv_bipush (v := 30) C.x C.b dX11_setBound_57 (by decide) ?_
          refine lv_icmp_le (tgt := 72) C.x C.b dX11_setBound_59 (by decide) (fun hc => ?_) (fun hc => ?_)
          · have h := h.1 hc
            refine lv_iload_n C.x C.b dX11_setBound_72 rfl (lv_at hl 5 rfl) ?_
            refine lv_if_ne (tgt := 84) C.x C.b dX11_setBound_73 (by decide) (fun hc => ?_) (fun hc => ?_)
            · have h := h.2 hc
              refine lv_aload C.x C.b dX11_setBound_84 (lv_at hl 2 rfl) ?_
              refine jr_get C G jc3 2 (v := .int (M5 3 r1n 2)) (show r1n < 20 by omega) (by decide) (by decide) rfl wd220 dX11_setBound_86 ?_
              refine lv_istore (lv' := [(7, .int (M5 3 r1n 2)), (6, .int v3), (5, .int (M5 3 r1n 1)), (4, .ref (g 3 r1n)), (0, .ref (g 10 0)), (1, .int v1), (2, .int v2), (3, .int v3)]) C.x C.b dX11_setBound_89 hl (by decide) rfl (fun ls hl => ?_)
              refine lv_aload_n C.x C.b dX11_setBound_91 rfl (lv_at hl 4 rfl) ?_
              refine jr_get C G jc10 1 (v := .ref (g 6 0)) (show 0 < 1 by decide) (by decide) (by decide) rfl wd456 dX11_setBound_92 ?_
              refine lv_iload_n C.x C.b dX11_setBound_95 rfl (lv_at hl 5 rfl) ?_
              refine lv_iload C.x C.b dX11_setBound_96 (lv_at hl 2 rfl) ?_
              refine lv_iload C.x C.b dX11_setBound_98 (lv_at hl 1 rfl) ?_
              refine jr_V (d' := 8) C G jc6 jm_X6_replaceBounds wd814 h rfl (show 0 < 2 by decide) (by decide) rfl rfl (by omega) (by decide) (by decide) ⟨rfl, rfl⟩ hl.1 (Nat.le_of_ble_eq_true rfl) dX11_setBound_100 (fun r10 r10n M11 H locs h G => ?_)
              obtain ⟨nM11, h⟩ := h
              refine lv_iload C.x C.b dX11_setBound_103 (lv_at hl 0 rfl) ?_
              exact jr_retI C hr G h (by decide) (by decide) dX11_setBound_105
            · have h := h.1 hc
              refine lv_aload C.x C.b dX11_setBound_76 (lv_at hl 2 rfl) ?_
              refine jr_get C G jc3 1 (v := .int (M5 3 r1n 1)) (show r1n < 20 by omega) (by decide) (by decide) rfl wd214 dX11_setBound_78 ?_
              refine lv_goto (tgt := 89) C.x C.b dX11_setBound_81 (by decide) ?_
              refine lv_istore (lv' := [(7, .int (M5 3 r1n 1)), (6, .int v3), (5, .int (M5 3 r1n 1)), (4, .ref (g 3 r1n)), (0, .ref (g 10 0)), (1, .int v1), (2, .int v2), (3, .int v3)]) C.x C.b dX11_setBound_89 hl (by decide) rfl (fun ls hl => ?_)
              refine lv_aload_n C.x C.b dX11_setBound_91 rfl (lv_at hl 4 rfl) ?_
              refine jr_get C G jc10 1 (v := .ref (g 6 0)) (show 0 < 1 by decide) (by decide) (by decide) rfl wd456 dX11_setBound_92 ?_
              refine lv_iload_n C.x C.b dX11_setBound_95 rfl (lv_at hl 5 rfl) ?_
              refine lv_iload C.x C.b dX11_setBound_96 (lv_at hl 2 rfl) ?_
              refine lv_iload C.x C.b dX11_setBound_98 (lv_at hl 1 rfl) ?_
              refine jr_V (d' := 8) C G jc6 jm_X6_replaceBounds wd814 h rfl (show 0 < 2 by decide) (by decide) rfl rfl (by omega) (by decide) (by decide) ⟨rfl, rfl⟩ hl.1 (Nat.le_of_ble_eq_true rfl) dX11_setBound_100 (fun r12 r12n M13 H locs h G => ?_)
              obtain ⟨nM13, h⟩ := h
              refine lv_iload C.x C.b dX11_setBound_103 (lv_at hl 0 rfl) ?_
              exact jr_retI C hr G h (by decide) (by decide) dX11_setBound_105
          · have h := h.2 hc
            exact jr_throw C htb G h jx_IA 14 rfl (by decide) (by decide) (by decide) (by decide) (by decide) (by decide) hl.1 dX11_setBound_62 dX11_setBound_65 dX11_setBound_66 dX11_setBound_68 dX11_setBound_71
  · have h := h.1 hc
    refine lv_iload_n C.x C.b dX11_setBound_16 rfl (lv_at hl 4 rfl) ?_
    refine lv_goto (tgt := 25) C.x C.b dX11_setBound_17 (by decide) ?_
    refine lv_istore (lv' := [(5, .int v3), (4, .ref (g 3 r1n)), (0, .ref (g 10 0)), (1, .int v1), (2, .int v2), (3, .int v3)]) C.x C.b dX11_setBound_25 hl (by decide) rfl (fun ls hl => ?_)
    refine lv_iload_n C.x C.b dX11_setBound_27 rfl (lv_at hl 4 rfl) ?_
    refine lv_iconst (v := 1) C.x C.b dX11_setBound_28 (by decide) ?_
    refine lv_icmp_ne (tgt := 36) C.x C.b dX11_setBound_29 (by decide) (fun hc => ?_) (fun hc => ?_)
    · have h := h.2 hc
      refine lv_aload C.x C.b dX11_setBound_36 (lv_at hl 1 rfl) ?_
      refine jr_get C G jc3 2 (v := .int (M5 3 r1n 2)) (show r1n < 20 by omega) (by decide) (by decide) rfl wd220 dX11_setBound_38 ?_
      refine lv_istore (lv' := [(6, .int (M5 3 r1n 2)), (5, .int v3), (4, .ref (g 3 r1n)), (0, .ref (g 10 0)), (1, .int v1), (2, .int v2), (3, .int v3)]) C.x C.b dX11_setBound_41 hl (by decide) rfl (fun ls hl => ?_)
      refine lv_iload C.x C.b dX11_setBound_43 (lv_at hl 1 rfl) ?_
      refine lv_if_lt (tgt := 62) C.x C.b dX11_setBound_45 (by decide) (fun hc => ?_) (fun hc => ?_)
      · have h := h.1 hc
        exact jr_throw C htb G h jx_IA 14 rfl (by decide) (by decide) (by decide) (by decide) (by decide) (by decide) hl.1 dX11_setBound_62 dX11_setBound_65 dX11_setBound_66 dX11_setBound_68 dX11_setBound_71
      · have h := h.2 hc
        refine lv_iload C.x C.b dX11_setBound_48 (lv_at hl 0 rfl) ?_
        refine lv_iload C.x C.b dX11_setBound_50 (lv_at hl 1 rfl) ?_
        refine lv_icmp_lt (tgt := 62) C.x C.b dX11_setBound_52 (by decide) (fun hc => ?_) (fun hc => ?_)
        · have h := h.1 hc
          exact jr_throw C htb G h jx_IA 14 rfl (by decide) (by decide) (by decide) (by decide) (by decide) (by decide) hl.1 dX11_setBound_62 dX11_setBound_65 dX11_setBound_66 dX11_setBound_68 dX11_setBound_71
        · have h := h.2 hc
          refine lv_iload C.x C.b dX11_setBound_55 (lv_at hl 0 rfl) ?_
          refine lv_bipush (v := 30) C.x C.b dX11_setBound_57 (by decide) ?_
          refine lv_icmp_le (tgt := 72) C.x C.b dX11_setBound_59 (by decide) (fun hc => ?_) (fun hc => ?_)
          · have h := h.1 hc
            refine lv_iload_n C.x C.b dX11_setBound_72 rfl (lv_at hl 5 rfl) ?_
            refine lv_if_ne (tgt := 84) C.x C.b dX11_setBound_73 (by decide) (fun hc => ?_) (fun hc => ?_)
            · have h := h.2 hc
              refine lv_aload C.x C.b dX11_setBound_84 (lv_at hl 2 rfl) ?_
              refine jr_get C G jc3 2 (v := .int (M5 3 r1n 2)) (show r1n < 20 by omega) (by decide) (by decide) rfl wd220 dX11_setBound_86 ?_
              refine lv_istore (lv' := [(7, .int (M5 3 r1n 2)), (6, .int (M5 3 r1n 2)), (5, .int v3), (4, .ref (g 3 r1n)), (0, .ref (g 10 0)), (1, .int v1), (2, .int v2), (3, .int v3)]) C.x C.b dX11_setBound_89 hl (by decide) rfl (fun ls hl => ?_)
              refine lv_aload_n C.x C.b dX11_setBound_91 rfl (lv_at hl 4 rfl) ?_
              refine jr_get C G jc10 1 (v := .ref (g 6 0)) (show 0 < 1 by decide) (by decide) (by decide) rfl wd456 dX11_setBound_92 ?_
              refine lv_iload_n C.x C.b dX11_setBound_95 rfl (lv_at hl 5 rfl) ?_
              refine lv_iload C.x C.b dX11_setBound_96 (lv_at hl 2 rfl) ?_
              refine lv_iload C.x C.b dX11_setBound_98 (lv_at hl 1 rfl) ?_
              refine jr_V (d' := 8) C G jc6 jm_X6_replaceBounds wd814 h rfl (show 0 < 2 by decide) (by decide) rfl rfl (by omega) (by decide) (by decide) ⟨rfl, rfl⟩ hl.1 (Nat.le_of_ble_eq_true rfl) dX11_setBound_100 (fun r14 r14n M15 H locs h G => ?_)
              obtain ⟨nM15, h⟩ := h
              refine lv_iload C.x C.b dX11_setBound_103 (lv_at hl 0 rfl) ?_
              exact jr_retI C hr G h (by decide) (by decide) dX11_setBound_105
            · have h := h.1 hc
              refine lv_aload C.x C.b dX11_setBound_76 (lv_at hl 2 rfl) ?_
              refine jr_get C G jc3 1 (v := .int (M5 3 r1n 1)) (show r1n < 20 by omega) (by decide) (by decide) rfl wd214 dX11_setBound_78 ?_
              refine lv_goto (tgt := 89) C.x C.b dX11_setBound_81 (by decide) ?_
              refine lv_istore (lv' := [(7, .int (M5 3 r1n 1)), (6, .int (M5 3 r1n 2)), (5, .int v3), (4, .ref (g 3 r1n)), (0, .ref (g 10 0)), (1, .int v1), (2, .int v2), (3, .int v3)]) C.x C.b dX11_setBound_89 hl (by decide) rfl (fun ls hl => ?_)
              refine lv_aload_n C.x C.b dX11_setBound_91 rfl (lv_at hl 4 rfl) ?_
              refine jr_get C G jc10 1 (v := .ref (g 6 0)) (show 0 < 1 by decide) (by decide) (by decide) rfl wd456 dX11_setBound_92 ?_
              refine lv_iload_n C.x C.b dX11_setBound_95 rfl (lv_at hl 5 rfl) ?_
              refine lv_iload C.x C.b dX11_setBound_96 (lv_at hl 2 rfl) ?_
              refine lv_iload C.x C.b dX11_setBound_98 (lv_at hl 1 rfl) ?_
              refine jr_V (d' := 8) C G jc6 jm_X6_replaceBounds wd814 h rfl (show 0 < 2 by decide) (by decide) rfl rfl (by omega) (by decide) (by decide) ⟨rfl, rfl⟩ hl.1 (Nat.le_of_ble_eq_true rfl) dX11_setBound_100 (fun r16 r16n M17 H locs h G => ?_)
              obtain ⟨nM17, h⟩ := h
              refine lv_iload C.x C.b dX11_setBound_103 (lv_at hl 0 rfl) ?_
              exact jr_retI C hr G h (by decide) (by decide) dX11_setBound_105
          · have h := h.2 hc
            exact jr_throw C htb G h jx_IA 14 rfl (by decide) (by decide) (by decide) (by decide) (by decide) (by decide) hl.1 dX11_setBound_62 dX11_setBound_65 dX11_setBound_66 dX11_setBound_68 dX11_setBound_71
    · have h := h.1 hc
      refine lv_iload_n C.x C.b dX11_setBound_32 rfl (lv_at hl 5 rfl) ?_
      refine lv_goto (tgt := 41) C.x C.b dX11_setBound_33 (by decide) ?_
      refine lv_istore (lv' := [(6, .int v3), (5, .int v3), (4, .ref (g 3 r1n)), (0, .ref (g 10 0)), (1, .int v1), (2, .int v2), (3, .int v3)]) C.x C.b dX11_setBound_41 hl (by decide) rfl (fun ls hl => ?_)
      refine lv_iload C.x C.b dX11_setBound_43 (lv_at hl 1 rfl) ?_
      refine lv_if_lt (tgt := 62) C.x C.b dX11_setBound_45 (by decide) (fun hc => ?_) (fun hc => ?_)
      · have h := h.1 hc
        exact jr_throw C htb G h jx_IA 14 rfl (by decide) (by decide) (by decide) (by decide) (by decide) (by decide) hl.1 dX11_setBound_62 dX11_setBound_65 dX11_setBound_66 dX11_setBound_68 dX11_setBound_71
      · have h := h.2 hc
        refine lv_iload C.x C.b dX11_setBound_48 (lv_at hl 0 rfl) ?_
        refine lv_iload C.x C.b dX11_setBound_50 (lv_at hl 1 rfl) ?_
        refine lv_icmp_lt (tgt := 62) C.x C.b dX11_setBound_52 (by decide) (fun hc => ?_) (fun hc => ?_)
        · have h := h.1 hc
          exact jr_throw C htb G h jx_IA 14 rfl (by decide) (by decide) (by decide) (by decide) (by decide) (by decide) hl.1 dX11_setBound_62 dX11_setBound_65 dX11_setBound_66 dX11_setBound_68 dX11_setBound_71
        · have h := h.2 hc
          refine lv_iload C.x C.b dX11_setBound_55 (lv_at hl 0 rfl) ?_
          refine lv_bipush (v := 30) C.x C.b dX11_setBound_57 (by decide) ?_
          refine lv_icmp_le (tgt := 72) C.x C.b dX11_setBound_59 (by decide) (fun hc => ?_) (fun hc => ?_)
          · have h := h.1 hc
            refine lv_iload_n C.x C.b dX11_setBound_72 rfl (lv_at hl 5 rfl) ?_
            refine lv_if_ne (tgt := 84) C.x C.b dX11_setBound_73 (by decide) (fun hc => ?_) (fun hc => ?_)
            · have h := h.2 hc
              refine lv_aload C.x C.b dX11_setBound_84 (lv_at hl 2 rfl) ?_
              refine jr_get C G jc3 2 (v := .int (M5 3 r1n 2)) (show r1n < 20 by omega) (by decide) (by decide) rfl wd220 dX11_setBound_86 ?_
              refine lv_istore (lv' := [(7, .int (M5 3 r1n 2)), (6, .int v3), (5, .int v3), (4, .ref (g 3 r1n)), (0, .ref (g 10 0)), (1, .int v1), (2, .int v2), (3, .int v3)]) C.x C.b dX11_setBound_89 hl (by decide) rfl (fun ls hl => ?_)
              refine lv_aload_n C.x C.b dX11_setBound_91 rfl (lv_at hl 4 rfl) ?_
              refine jr_get C G jc10 1 (v := .ref (g 6 0)) (show 0 < 1 by decide) (by decide) (by decide) rfl wd456 dX11_setBound_92 ?_
              refine lv_iload_n C.x C.b dX11_setBound_95 rfl (lv_at hl 5 rfl) ?_
              refine lv_iload C.x C.b dX11_setBound_96 (lv_at hl 2 rfl) ?_
              refine lv_iload C.x C.b dX11_setBound_98 (lv_at hl 1 rfl) ?_
              refine jr_V (d' := 8) C G jc6 jm_X6_replaceBounds wd814 h rfl (show 0 < 2 by decide) (by decide) rfl rfl (by omega) (by decide) (by decide) ⟨rfl, rfl⟩ hl.1 (Nat.le_of_ble_eq_true rfl) dX11_setBound_100 (fun r18 r18n M19 H locs h G => ?_)
              obtain ⟨nM19, h⟩ := h
              refine lv_iload C.x C.b dX11_setBound_103 (lv_at hl 0 rfl) ?_
              exact jr_retI C hr G h (by decide) (by decide) dX11_setBound_105
            · have h := h.1 hc
              refine lv_aload C.x C.b dX11_setBound_76 (lv_at hl 2 rfl) ?_
              refine jr_get C G jc3 1 (v := .int (M5 3 r1n 1)) (show r1n < 20 by omega) (by decide) (by decide) rfl wd214 dX11_setBound_78 ?_
              refine lv_goto (tgt := 89) C.x C.b dX11_setBound_81 (by decide) ?_
              refine lv_istore (lv' := [(7, .int (M5 3 r1n 1)), (6, .int v3), (5, .int v3), (4, .ref (g 3 r1n)), (0, .ref (g 10 0)), (1, .int v1), (2, .int v2), (3, .int v3)]) C.x C.b dX11_setBound_89 hl (by decide) rfl (fun ls hl => ?_)
              refine lv_aload_n C.x C.b dX11_setBound_91 rfl (lv_at hl 4 rfl) ?_
              refine jr_get C G jc10 1 (v := .ref (g 6 0)) (show 0 < 1 by decide) (by decide) (by decide) rfl wd456 dX11_setBound_92 ?_
              refine lv_iload_n C.x C.b dX11_setBound_95 rfl (lv_at hl 5 rfl) ?_
              refine lv_iload C.x C.b dX11_setBound_96 (lv_at hl 2 rfl) ?_
              refine lv_iload C.x C.b dX11_setBound_98 (lv_at hl 1 rfl) ?_
              refine jr_V (d' := 8) C G jc6 jm_X6_replaceBounds wd814 h rfl (show 0 < 2 by decide) (by decide) rfl rfl (by omega) (by decide) (by decide) ⟨rfl, rfl⟩ hl.1 (Nat.le_of_ble_eq_true rfl) dX11_setBound_100 (fun r20 r20n M21 H locs h G => ?_)
              obtain ⟨nM21, h⟩ := h
              refine lv_iload C.x C.b dX11_setBound_103 (lv_at hl 0 rfl) ?_
              exact jr_retI C hr G h (by decide) (by decide) dX11_setBound_105
          · have h := h.2 hc
            exact jr_throw C htb G h jx_IA 14 rfl (by decide) (by decide) (by decide) (by decide) (by decide) (by decide) hl.1 dX11_setBound_62 dX11_setBound_65 dX11_setBound_66 dX11_setBound_68 dX11_setBound_71

theorem en_X11_statementCount {v1 : Int32} {M : jM} {Q : Int32 → Nat → jM → Prop} {X : String → jM → Prop} (h : at_X11_statementCount_0 v1 M Q X) : ok_X11_statementCount v1 M Q X := jr_enter (by decide) (fun g => rfl) (fun g => Nat.le_of_ble_eq_true rfl) h
set_option maxHeartbeats 4000000 in
set_option maxRecDepth 100000 in
theorem bl_X11_statementCount_0 (v1 : Int32) (M : jM) (Q : Int32 → Nat → jM → Prop) (X : String → jM → Prop) 
  (h : ok_X11_loopAt v1 M (fun _ r1n M2 => r1n < 20 ∧ jnb M2 = jnb M ∧ Q (M2 0 ((M2 3 r1n 0).toNatClampNeg) 7) 0 M2) X) :
  at_X11_statementCount_0 v1 M Q X := by
  intro p l e s m args below meth c D cA base g C hr htb H locs G ls hl
  refine lv_aload_n C.x C.b dX11_statementCount_0 rfl (lv_at hl 0 rfl) ?_
  refine lv_iload_n C.x C.b dX11_statementCount_1 rfl (lv_at hl 1 rfl) ?_
  refine jr_VX (d' := 8) C htb G jc10 jm_X11_loopAt wd797 h rfl (show 0 < 1 by decide) (by decide) rfl rfl (by omega) (by decide) (by decide) ⟨rfl, rfl⟩ (by decide) (by decide) hl.1 (Nat.le_of_ble_eq_true rfl) dX11_statementCount_2 (fun r1 r1n M2 H locs h G => ?_)
  obtain ⟨hal3, h⟩ := h
  obtain ⟨nM2, h⟩ := h
  have hb4 : (M2 3 r1n 0).toNatClampNeg < jnb M2 := G.1.2.2 _ (by omega)
  refine jr_get C G jc3 0 (v := .ref (g 0 ((M2 3 r1n 0).toNatClampNeg))) (show r1n < 20 by omega) (by decide) (by decide) rfl wd208 dX11_statementCount_5 ?_
  refine jr_get C G jc0 7 (v := .int (M2 0 ((M2 3 r1n 0).toNatClampNeg) 7)) (show (M2 3 r1n 0).toNatClampNeg < jnb M2 by omega) (by decide) (by decide) rfl wd178 dX11_statementCount_8 ?_
  exact jr_retI C hr G h (by decide) (by decide) dX11_statementCount_11

theorem en_X11_referenceCount {v1 : Int32} {M : jM} {Q : Int32 → Nat → jM → Prop} {X : String → jM → Prop} (h : at_X11_referenceCount_0 v1 M Q X) : ok_X11_referenceCount v1 M Q X := jr_enter (by decide) (fun g => rfl) (fun g => Nat.le_of_ble_eq_true rfl) h
set_option maxHeartbeats 4000000 in
set_option maxRecDepth 100000 in
theorem bl_X11_referenceCount_0 (v1 : Int32) (M : jM) (Q : Int32 → Nat → jM → Prop) (X : String → jM → Prop) 
  (h : ok_X11_loopAt v1 M (fun _ r1n M2 => r1n < 20 ∧ jnb M2 = jnb M ∧ Q (M2 0 ((M2 3 r1n 0).toNatClampNeg) 6) 0 M2) X) :
  at_X11_referenceCount_0 v1 M Q X := by
  intro p l e s m args below meth c D cA base g C hr htb H locs G ls hl
  refine lv_aload_n C.x C.b dX11_referenceCount_0 rfl (lv_at hl 0 rfl) ?_
  refine lv_iload_n C.x C.b dX11_referenceCount_1 rfl (lv_at hl 1 rfl) ?_
  refine jr_VX (d' := 8) C htb G jc10 jm_X11_loopAt wd797 h rfl (show 0 < 1 by decide) (by decide) rfl rfl (by omega) (by decide) (by decide) ⟨rfl, rfl⟩ (by decide) (by decide) hl.1 (Nat.le_of_ble_eq_true rfl) dX11_referenceCount_2 (fun r1 r1n M2 H locs h G => ?_)
  obtain ⟨hal3, h⟩ := h
  obtain ⟨nM2, h⟩ := h
  have hb4 : (M2 3 r1n 0).toNatClampNeg < jnb M2 := G.1.2.2 _ (by omega)
  refine jr_get C G jc3 0 (v := .ref (g 0 ((M2 3 r1n 0).toNatClampNeg))) (show r1n < 20 by omega) (by decide) (by decide) rfl wd208 dX11_referenceCount_5 ?_
  refine jr_get C G jc0 6 (v := .int (M2 0 ((M2 3 r1n 0).toNatClampNeg) 6)) (show (M2 3 r1n 0).toNatClampNeg < jnb M2 by omega) (by decide) (by decide) rfl wd175 dX11_referenceCount_8 ?_
  exact jr_retI C hr G h (by decide) (by decide) dX11_referenceCount_11

theorem en_X11_reference {v1 : Int32} {v2 : Int32} {v3 : Int32} {M : jM} {Q : Int32 → Nat → jM → Prop} {X : String → jM → Prop} (h : at_X11_reference_0 v1 v2 v3 M Q X) : ok_X11_reference v1 v2 v3 M Q X := jr_enter (by decide) (fun g => rfl) (fun g => Nat.le_of_ble_eq_true rfl) h
set_option maxHeartbeats 4000000 in
set_option maxRecDepth 100000 in
theorem bl_X11_reference_0 (v1 : Int32) (v2 : Int32) (v3 : Int32) (M : jM) (Q : Int32 → Nat → jM → Prop) (X : String → jM → Prop) 
  (h : ok_X11_loopAt v1 M (fun _ r1n M2 => r1n < 20 ∧ jnb M2 = jnb M ∧ ((0 ≤ v2 ∧ v2 < M2 0 ((M2 3 r1n 0).toNatClampNeg) 6 ∧ v2 < 24) → (v3 = 0 → vp_in v2 24 ∧ Q ((M2 20 ((M2 3 r1n 0).toNatClampNeg) v2.toNatClampNeg) / 49) 0 M2) ∧ (¬ v3 = 0 → (v3 = 1 → vp_in v2 24 ∧ Q (((M2 20 ((M2 3 r1n 0).toNatClampNeg) v2.toNatClampNeg) - (M2 20 ((M2 3 r1n 0).toNatClampNeg) v2.toNatClampNeg) / 49 * 49) + (-9)) 0 M2) ∧ (¬ v3 = 1 → (v3 = 2 → vp_in v2 24 ∧ (M2 21 ((M2 3 r1n 0).toNatClampNeg) v2.toNatClampNeg = 0 → Q 0 0 M2) ∧ (¬ (M2 21 ((M2 3 r1n 0).toNatClampNeg) v2.toNatClampNeg = 0) → Q 1 0 M2)) ∧ (¬ v3 = 2 → (v3 = 3 → vp_in v2 24 ∧ Q (M2 22 ((M2 3 r1n 0).toNatClampNeg) v2.toNatClampNeg) 0 M2) ∧ (¬ v3 = 3 → X "java/lang/IllegalArgumentException" M2))))) ∧ (¬ (0 ≤ v2 ∧ v2 < M2 0 ((M2 3 r1n 0).toNatClampNeg) 6 ∧ v2 < 24) → X "java/lang/IndexOutOfBoundsException" M2)) X) :
  at_X11_reference_0 v1 v2 v3 M Q X := by
  intro p l e s m args below meth c D cA base g C hr htb H locs G ls hl
  refine lv_aload_n C.x C.b dX11_reference_0 rfl (lv_at hl 0 rfl) ?_
  refine lv_iload_n C.x C.b dX11_reference_1 rfl (lv_at hl 1 rfl) ?_
  refine jr_VX (d' := 8) C htb G jc10 jm_X11_loopAt wd797 h rfl (show 0 < 1 by decide) (by decide) rfl rfl (by omega) (by decide) (by decide) ⟨rfl, rfl⟩ (by decide) (by decide) hl.1 (Nat.le_of_ble_eq_true rfl) dX11_reference_2 (fun r1 r1n M2 H locs h G => ?_)
  obtain ⟨hal3, h⟩ := h
  obtain ⟨nM2, h⟩ := h
  have hb4 : (M2 3 r1n 0).toNatClampNeg < jnb M2 := G.1.2.2 _ (by omega)
  refine jr_get C G jc3 0 (v := .ref (g 0 ((M2 3 r1n 0).toNatClampNeg))) (show r1n < 20 by omega) (by decide) (by decide) rfl wd208 dX11_reference_5 ?_
  refine lv_astore (lv' := [(4, .ref (g 0 ((M2 3 r1n 0).toNatClampNeg))), (0, .ref (g 10 0)), (1, .int v1), (2, .int v2), (3, .int v3)]) C.x C.b dX11_reference_8 hl (by decide) rfl (fun ls hl => ?_)
  refine lv_aload C.x C.b dX11_reference_10 (lv_at hl 0 rfl) ?_
  refine lv_iload_n C.x C.b dX11_reference_12 rfl (lv_at hl 3 rfl) ?_
  refine jr_V (d' := 8) C G jc0 jm_X0_hasReference wd839 (sp_X0_hasReference (show (M2 3 r1n 0).toNatClampNeg < jnb M2 by omega) ⟨rfl, rfl⟩ : ok_X0_hasReference ((M2 3 r1n 0).toNatClampNeg) v2 M2 (fun r _ M' => jb (0 ≤ v2 ∧ v2 < M2 0 ((M2 3 r1n 0).toNatClampNeg) 6 ∧ v2 < 24) = r ∧ M2 = M')) rfl (show (M2 3 r1n 0).toNatClampNeg < jnb M2 by omega) (by decide) rfl rfl (by omega) (by decide) (by decide) ⟨rfl, rfl⟩ hl.1 (Nat.le_of_ble_eq_true rfl) dX11_reference_13 (fun r5 r5n M6 H locs hq G => ?_)
  obtain ⟨eq1, eq2⟩ := hq
  subst eq1
  subst eq2
  refine lv_if_ne (tgt := 29) C.x C.b dX11_reference_16 (by decide) (fun hc => ?_) (fun hc => ?_)
  · have h := h.1 (jb_1 hc)
    refine lv_iload_n C.x C.b dX11_reference_29 rfl (lv_at hl 4 rfl) ?_
    by_cases hc : v3 = 0
    · have h := h.1 hc
      refine lv_tableIn (off := 30) (tgt := 60) C.x C.b dX11_reference_30 (by rw [hc]; decide) (by rw [hc]; decide) (by rw [hc]; rfl) (by decide) ?_
      refine lv_aload C.x C.b dX11_reference_60 (lv_at hl 0 rfl) ?_
      refine jr_get C G jc0 0 (v := .ref (g 20 ((M2 3 r1n 0).toNatClampNeg))) (show (M2 3 r1n 0).toNatClampNeg < jnb M2 by omega) (by decide) (by decide) rfl wd158 dX11_reference_62 ?_
      refine lv_iload_n C.x C.b dX11_reference_65 rfl (lv_at hl 3 rfl) ?_
      obtain ⟨hs, h⟩ := h
      refine jr_ald C G (show (M2 3 r1n 0).toNatClampNeg < jnb M2 by omega) (by decide) (by decide) (by decide) rfl rfl hs dX11_reference_66 ?_
      refine lv_bipush (v := 49) C.x C.b dX11_reference_67 (by decide) ?_
      refine lv_idiv C.x C.b dX11_reference_69 (by decide) ?_
      exact jr_retI C hr G h (by decide) (by decide) dX11_reference_70
    · have h := h.2 hc
      have hc0 := hc
      by_cases hc : v3 = 1
      · have h := h.1 hc
        refine lv_tableIn (off := 41) (tgt := 71) C.x C.b dX11_reference_30 (by rw [hc]; decide) (by rw [hc]; decide) (by rw [hc]; rfl) (by decide) ?_
        refine lv_aload C.x C.b dX11_reference_71 (lv_at hl 0 rfl) ?_
        refine jr_get C G jc0 0 (v := .ref (g 20 ((M2 3 r1n 0).toNatClampNeg))) (show (M2 3 r1n 0).toNatClampNeg < jnb M2 by omega) (by decide) (by decide) rfl wd158 dX11_reference_73 ?_
        refine lv_iload_n C.x C.b dX11_reference_76 rfl (lv_at hl 3 rfl) ?_
        obtain ⟨hs, h⟩ := h
        refine jr_ald C G (show (M2 3 r1n 0).toNatClampNeg < jnb M2 by omega) (by decide) (by decide) (by decide) rfl rfl hs dX11_reference_77 ?_
        refine lv_bipush (v := 49) C.x C.b dX11_reference_78 (by decide) ?_
        refine lv_irem C.x C.b dX11_reference_80 (by decide) ?_
        refine lv_bipush (v := (-9)) C.x C.b dX11_reference_81 (by decide) ?_
        refine lv_iadd C.x C.b dX11_reference_83 ?_
        exact jr_retI C hr G h (by decide) (by decide) dX11_reference_84
      · have h := h.2 hc
        have hc1 := hc
        by_cases hc : v3 = 2
        · have h := h.1 hc
          refine lv_tableIn (off := 55) (tgt := 85) C.x C.b dX11_reference_30 (by rw [hc]; decide) (by rw [hc]; decide) (by rw [hc]; rfl) (by decide) ?_
          refine lv_aload C.x C.b dX11_reference_85 (lv_at hl 0 rfl) ?_
          refine jr_get C G jc0 1 (v := .ref (g 21 ((M2 3 r1n 0).toNatClampNeg))) (show (M2 3 r1n 0).toNatClampNeg < jnb M2 by omega) (by decide) (by decide) rfl wd162 dX11_reference_87 ?_
          refine lv_iload_n C.x C.b dX11_reference_90 rfl (lv_at hl 3 rfl) ?_
          obtain ⟨hs, h⟩ := h
          refine jr_zald C G (show (M2 3 r1n 0).toNatClampNeg < jnb M2 by omega) (by decide) (by decide) (by decide) rfl rfl hs dX11_reference_91 ?_
          refine lv_if_eq (tgt := 99) C.x C.b dX11_reference_92 (by decide) (fun hc => ?_) (fun hc => ?_)
          · have h := h.1 hc
            refine lv_iconst (v := 0) C.x C.b dX11_reference_99 (by decide) ?_
            exact jr_retI C hr G h (by decide) (by decide) dX11_reference_100
          · have h := h.2 hc
            refine lv_iconst (v := 1) C.x C.b dX11_reference_95 (by decide) ?_
            refine lv_goto (tgt := 100) C.x C.b dX11_reference_96 (by decide) ?_
            exact jr_retI C hr G h (by decide) (by decide) dX11_reference_100
        · have h := h.2 hc
          have hc2 := hc
          by_cases hc : v3 = 3
          · have h := h.1 hc
            refine lv_tableIn (off := 71) (tgt := 101) C.x C.b dX11_reference_30 (by rw [hc]; decide) (by rw [hc]; decide) (by rw [hc]; rfl) (by decide) ?_
            refine lv_aload C.x C.b dX11_reference_101 (lv_at hl 0 rfl) ?_
            refine jr_get C G jc0 2 (v := .ref (g 22 ((M2 3 r1n 0).toNatClampNeg))) (show (M2 3 r1n 0).toNatClampNeg < jnb M2 by omega) (by decide) (by decide) rfl wd164 dX11_reference_103 ?_
            refine lv_iload_n C.x C.b dX11_reference_106 rfl (lv_at hl 3 rfl) ?_
            obtain ⟨hs, h⟩ := h
            refine jr_ald C G (show (M2 3 r1n 0).toNatClampNeg < jnb M2 by omega) (by decide) (by decide) (by decide) rfl rfl hs dX11_reference_107 ?_
            exact jr_retI C hr G h (by decide) (by decide) dX11_reference_108
          · have h := h.2 hc
            have hc3 := hc
            refine lv_tableOut (tgt := 109) C.x C.b dX11_reference_30 (by have q0 : ¬ v3.toInt = 0 := jne_toInt (k := 0) hc0; have q1 : ¬ v3.toInt = 1 := jne_toInt (k := 1) hc1; have q2 : ¬ v3.toInt = 2 := jne_toInt (k := 2) hc2; have q3 : ¬ v3.toInt = 3 := jne_toInt (k := 3) hc3; omega) (by decide) ?_
            exact jr_throw C htb G h jx_IA 16 rfl (by decide) (by decide) (by decide) (by decide) (by decide) (by decide) hl.1 dX11_reference_109 dX11_reference_112 dX11_reference_113 dX11_reference_115 dX11_reference_118
  · have h := h.2 (jb_0 hc)
    exact jr_throw C htb G h jx_IO 15 rfl (by decide) (by decide) (by decide) (by decide) (by decide) (by decide) hl.1 dX11_reference_19 dX11_reference_22 dX11_reference_23 dX11_reference_25 dX11_reference_28

theorem en_X11_setBarrier {v1 : Int32} {v2 : Int32} {M : jM} {Q : Int32 → Nat → jM → Prop} {X : String → jM → Prop} (h : at_X11_setBarrier_0 v1 v2 M Q X) : ok_X11_setBarrier v1 v2 M Q X := jr_enter (by decide) (fun g => rfl) (fun g => Nat.le_of_ble_eq_true rfl) h
set_option maxHeartbeats 4000000 in
set_option maxRecDepth 100000 in
theorem bl_X11_setBarrier_0 (v1 : Int32) (v2 : Int32) (M : jM) (Q : Int32 → Nat → jM → Prop) (X : String → jM → Prop) 
  (h : ok_X11_loopAt v1 M (fun _ r1n M2 => r1n < 20 ∧ jnb M2 = jnb M ∧ ok_X6_replaceBarrier 0 v1 v2 M2 (fun _ _ M5 => jnb M5 = jnb M2 ∧ (M2 3 r1n 3 = 0 ∨ M2 3 r1n 3 = 1) ∧ Q (M2 3 r1n 3) 0 M5)) X) :
  at_X11_setBarrier_0 v1 v2 M Q X := by
  intro p l e s m args below meth c D cA base g C hr htb H locs G ls hl
  refine lv_aload_n C.x C.b dX11_setBarrier_0 rfl (lv_at hl 0 rfl) ?_
  refine lv_iload_n C.x C.b dX11_setBarrier_1 rfl (lv_at hl 1 rfl) ?_
  refine jr_VX (d' := 8) C htb G jc10 jm_X11_loopAt wd797 h rfl (show 0 < 1 by decide) (by decide) rfl rfl (by omega) (by decide) (by decide) ⟨rfl, rfl⟩ (by decide) (by decide) hl.1 (Nat.le_of_ble_eq_true rfl) dX11_setBarrier_2 (fun r1 r1n M2 H locs h G => ?_)
  obtain ⟨hal3, h⟩ := h
  obtain ⟨nM2, h⟩ := h
  refine jr_get C G jc3 3 (v := .int (M2 3 r1n 3)) (show r1n < 20 by omega) (by decide) (by decide) rfl wd224 dX11_setBarrier_5 ?_
  refine lv_istore_n (lv' := [(3, .int (M2 3 r1n 3)), (0, .ref (g 10 0)), (1, .int v1), (2, .int v2)]) C.x C.b dX11_setBarrier_8 rfl hl (by decide) rfl (fun ls hl => ?_)
  refine lv_aload_n C.x C.b dX11_setBarrier_9 rfl (lv_at hl 1 rfl) ?_
  refine jr_get C G jc10 1 (v := .ref (g 6 0)) (show 0 < 1 by decide) (by decide) (by decide) rfl wd456 dX11_setBarrier_10 ?_
  refine lv_iload_n C.x C.b dX11_setBarrier_13 rfl (lv_at hl 2 rfl) ?_
  refine lv_iload_n C.x C.b dX11_setBarrier_14 rfl (lv_at hl 3 rfl) ?_
  refine jr_V (d' := 8) C G jc6 jm_X6_replaceBarrier wd920 h rfl (show 0 < 2 by decide) (by decide) rfl rfl (by omega) (by decide) (by decide) ⟨rfl, rfl⟩ hl.1 (Nat.le_of_ble_eq_true rfl) dX11_setBarrier_15 (fun r4 r4n M5 H locs h G => ?_)
  obtain ⟨nM5, h⟩ := h
  refine lv_iload_n C.x C.b dX11_setBarrier_18 rfl (lv_at hl 0 rfl) ?_
  obtain ⟨hs, h⟩ := h
  exact jr_retZ C hr G (jz_n hs) h (by decide) (by decide) dX11_setBarrier_19

theorem en_X11_dependenceCount {v1 : Int32} {v2 : Int32} {M : jM} {Q : Int32 → Nat → jM → Prop} {X : String → jM → Prop} (h : at_X11_dependenceCount_0 v1 v2 M Q X) : ok_X11_dependenceCount v1 v2 M Q X := jr_enter (by decide) (fun g => rfl) (fun g => Nat.le_of_ble_eq_true rfl) h
set_option maxHeartbeats 4000000 in
set_option maxRecDepth 100000 in
theorem bl_X11_dependenceCount_0 (v1 : Int32) (v2 : Int32) (M : jM) (Q : Int32 → Nat → jM → Prop) (X : String → jM → Prop) 
  (h : ok_X11_checkPair v1 v2 M (fun _ _ M2 => jnb M2 = jnb M ∧ ok_X11_checkBefore v1 v2 M2 (fun _ _ M4 => jnb M4 = jnb M2 ∧ ok_X11_loopAt v1 M4 (fun _ r5n M6 => r5n < 20 ∧ jnb M6 = jnb M4 ∧ ok_X11_loopAt v2 M6 (fun _ r8n M9 => r8n < 20 ∧ jnb M9 = jnb M6 ∧ ok_X2_collect r5n r8n M9 (fun _ _ M12 => jnb M12 = jnb M9 ∧ Q (M12 2 0 3) 0 M12)) X) X) X) X) :
  at_X11_dependenceCount_0 v1 v2 M Q X := by
  intro p l e s m args below meth c D cA base g C hr htb H locs G ls hl
  refine lv_aload_n C.x C.b dX11_dependenceCount_0 rfl (lv_at hl 0 rfl) ?_
  refine lv_iload_n C.x C.b dX11_dependenceCount_1 rfl (lv_at hl 1 rfl) ?_
  refine lv_iload_n C.x C.b dX11_dependenceCount_2 rfl (lv_at hl 2 rfl) ?_
  refine jr_VX (d' := 8) C htb G jc10 jm_X11_checkPair wd931 h rfl (show 0 < 1 by decide) (by decide) rfl rfl (by omega) (by decide) (by decide) ⟨rfl, rfl⟩ (by decide) (by decide) hl.1 (Nat.le_of_ble_eq_true rfl) dX11_dependenceCount_3 (fun r1 r1n M2 H locs h G => ?_)
  obtain ⟨nM2, h⟩ := h
  refine lv_aload_n C.x C.b dX11_dependenceCount_6 rfl (lv_at hl 0 rfl) ?_
  refine lv_iload_n C.x C.b dX11_dependenceCount_7 rfl (lv_at hl 1 rfl) ?_
  refine lv_iload_n C.x C.b dX11_dependenceCount_8 rfl (lv_at hl 2 rfl) ?_
  refine jr_VX (d' := 8) C htb G jc10 jm_X11_checkBefore wd935 h rfl (show 0 < 1 by decide) (by decide) rfl rfl (by omega) (by decide) (by decide) ⟨rfl, rfl⟩ (by decide) (by decide) hl.1 (Nat.le_of_ble_eq_true rfl) dX11_dependenceCount_9 (fun r3 r3n M4 H locs h G => ?_)
  obtain ⟨nM4, h⟩ := h
  refine lv_aload_n C.x C.b dX11_dependenceCount_12 rfl (lv_at hl 0 rfl) ?_
  refine jr_get C G jc10 3 (v := .ref (g 2 0)) (show 0 < 1 by decide) (by decide) (by decide) rfl wd458 dX11_dependenceCount_13 ?_
  refine lv_aload_n C.x C.b dX11_dependenceCount_16 rfl (lv_at hl 0 rfl) ?_
  refine lv_iload_n C.x C.b dX11_dependenceCount_17 rfl (lv_at hl 1 rfl) ?_
  refine jr_VX (d' := 8) C htb G jc10 jm_X11_loopAt wd797 h rfl (show 0 < 1 by decide) (by decide) rfl rfl (by omega) (by decide) (by decide) ⟨rfl, rfl⟩ (by decide) (by decide) hl.1 (Nat.le_of_ble_eq_true rfl) dX11_dependenceCount_18 (fun r5 r5n M6 H locs h G => ?_)
  obtain ⟨hal7, h⟩ := h
  obtain ⟨nM6, h⟩ := h
  refine lv_aload_n C.x C.b dX11_dependenceCount_21 rfl (lv_at hl 0 rfl) ?_
  refine lv_iload_n C.x C.b dX11_dependenceCount_22 rfl (lv_at hl 2 rfl) ?_
  refine jr_VX (d' := 8) C htb G jc10 jm_X11_loopAt wd797 h rfl (show 0 < 1 by decide) (by decide) rfl rfl (by omega) (by decide) (by decide) ⟨rfl, rfl⟩ (by decide) (by decide) hl.1 (Nat.le_of_ble_eq_true rfl) dX11_dependenceCount_23 (fun r8 r8n M9 H locs h G => ?_)
  obtain ⟨hal10, h⟩ := h
  obtain ⟨nM9, h⟩ := h
  refine jr_V (d' := 8) C G jc2 jm_X2_collect wd940 h rfl (show 0 < 1 by decide) (by decide) rfl rfl (by omega) (by decide) (by decide) ⟨rfl, rfl⟩ hl.1 (Nat.le_of_ble_eq_true rfl) dX11_dependenceCount_26 (fun r11 r11n M12 H locs h G => ?_)
  obtain ⟨nM12, h⟩ := h
  refine lv_aload_n C.x C.b dX11_dependenceCount_29 rfl (lv_at hl 0 rfl) ?_
  refine jr_get C G jc10 3 (v := .ref (g 2 0)) (show 0 < 1 by decide) (by decide) (by decide) rfl wd458 dX11_dependenceCount_30 ?_
  refine jr_get C G jc2 3 (v := .int (M12 2 0 3)) (show 0 < 1 by decide) (by decide) (by decide) rfl wd305 dX11_dependenceCount_33 ?_
  exact jr_retI C hr G h (by decide) (by decide) dX11_dependenceCount_36

theorem en_X11_dependence {v1 : Int32} {v2 : Int32} {v3 : Int32} {v4 : Int32} {M : jM} {Q : Int32 → Nat → jM → Prop} {X : String → jM → Prop} (h : at_X11_dependence_0 v1 v2 v3 v4 M Q X) : ok_X11_dependence v1 v2 v3 v4 M Q X := jr_enter (by decide) (fun g => rfl) (fun g => Nat.le_of_ble_eq_true rfl) h
set_option maxHeartbeats 4000000 in
set_option maxRecDepth 100000 in
theorem bl_X11_dependence_0 (v1 : Int32) (v2 : Int32) (v3 : Int32) (v4 : Int32) (M : jM) (Q : Int32 → Nat → jM → Prop) (X : String → jM → Prop) 
  (h : ok_X11_checkPair v1 v2 M (fun _ _ M2 => jnb M2 = jnb M ∧ (v4 < 0 → X "java/lang/IndexOutOfBoundsException" M2) ∧ (¬ (v4 < 0) → (v4 ≤ 2 → ok_X11_checkBefore v1 v2 M2 (fun _ _ M4 => jnb M4 = jnb M2 ∧ ok_X11_loopAt v1 M4 (fun _ r5n M6 => r5n < 20 ∧ jnb M6 = jnb M4 ∧ ok_X11_loopAt v2 M6 (fun _ r8n M9 => r8n < 20 ∧ jnb M9 = jnb M6 ∧ ok_X2_collect r5n r8n M9 (fun _ _ M12 => jnb M12 = jnb M9 ∧ (v3 < 0 → X "java/util/NoSuchElementException" M12) ∧ (¬ (v3 < 0) → (v3 < (M12 2 0 3) → (v4 = 0 → vp_in v3 576 ∧ Q (M12 30 0 v3.toNatClampNeg) 0 M12) ∧ (¬ (v4 = 0) → (v4 = 1 → vp_in v3 576 ∧ Q (M12 31 0 v3.toNatClampNeg) 0 M12) ∧ (¬ (v4 = 1) → vp_in v3 576 ∧ Q (M12 32 0 v3.toNatClampNeg) 0 M12))) ∧ (¬ (v3 < (M12 2 0 3)) → X "java/util/NoSuchElementException" M12)))) X) X) X) ∧ (¬ (v4 ≤ 2) → X "java/lang/IndexOutOfBoundsException" M2))) X) :
  at_X11_dependence_0 v1 v2 v3 v4 M Q X := by
  intro p l e s m args below meth c D cA base g C hr htb H locs G ls hl
  refine lv_aload_n C.x C.b dX11_dependence_0 rfl (lv_at hl 0 rfl) ?_
  refine lv_iload_n C.x C.b dX11_dependence_1 rfl (lv_at hl 1 rfl) ?_
  refine lv_iload_n C.x C.b dX11_dependence_2 rfl (lv_at hl 2 rfl) ?_
  refine jr_VX (d' := 8) C htb G jc10 jm_X11_checkPair wd931 h rfl (show 0 < 1 by decide) (by decide) rfl rfl (by omega) (by decide) (by decide) ⟨rfl, rfl⟩ (by decide) (by decide) hl.1 (Nat.le_of_ble_eq_true rfl) dX11_dependence_3 (fun r1 r1n M2 H locs h G => ?_)
  obtain ⟨nM2, h⟩ := h
  refine lv_iload C.x C.b dX11_dependence_6 (lv_at hl 4 rfl) ?_
  refine lv_if_lt (tgt := 17) C.x C.b dX11_dependence_8 (by decide) (fun hc => ?_) (fun hc => ?_)
  · have h := h.1 hc
    exact jr_throw C htb G h jx_IO 23 rfl (by decide) (by decide) (by decide) (by decide) (by decide) (by decide) hl.1 dX11_dependence_17 dX11_dependence_20 dX11_dependence_21 dX11_dependence_23 dX11_dependence_26
  · have h := h.2 hc
    refine lv_iload C.x C.b dX11_dependence_11 (lv_at hl 4 rfl) ?_
    refine lv_iconst (v := 2) C.x C.b dX11_dependence_13 (by decide) ?_
    refine lv_icmp_le (tgt := 27) C.x C.b dX11_dependence_14 (by decide) (fun hc => ?_) (fun hc => ?_)
    · have h := h.1 hc
      refine lv_aload_n C.x C.b dX11_dependence_27 rfl (lv_at hl 0 rfl) ?_
      refine lv_iload_n C.x C.b dX11_dependence_28 rfl (lv_at hl 1 rfl) ?_
      refine lv_iload_n C.x C.b dX11_dependence_29 rfl (lv_at hl 2 rfl) ?_
      refine jr_VX (d' := 8) C htb G jc10 jm_X11_checkBefore wd935 h rfl (show 0 < 1 by decide) (by decide) rfl rfl (by omega) (by decide) (by decide) ⟨rfl, rfl⟩ (by decide) (by decide) hl.1 (Nat.le_of_ble_eq_true rfl) dX11_dependence_30 (fun r3 r3n M4 H locs h G => ?_)
      obtain ⟨nM4, h⟩ := h
      refine lv_aload_n C.x C.b dX11_dependence_33 rfl (lv_at hl 0 rfl) ?_
      refine jr_get C G jc10 3 (v := .ref (g 2 0)) (show 0 < 1 by decide) (by decide) (by decide) rfl wd458 dX11_dependence_34 ?_
      refine lv_aload_n C.x C.b dX11_dependence_37 rfl (lv_at hl 0 rfl) ?_
      refine lv_iload_n C.x C.b dX11_dependence_38 rfl (lv_at hl 1 rfl) ?_
      refine jr_VX (d' := 8) C htb G jc10 jm_X11_loopAt wd797 h rfl (show 0 < 1 by decide) (by decide) rfl rfl (by omega) (by decide) (by decide) ⟨rfl, rfl⟩ (by decide) (by decide) hl.1 (Nat.le_of_ble_eq_true rfl) dX11_dependence_39 (fun r5 r5n M6 H locs h G => ?_)
      obtain ⟨hal7, h⟩ := h
      obtain ⟨nM6, h⟩ := h
      refine lv_aload_n C.x C.b dX11_dependence_42 rfl (lv_at hl 0 rfl) ?_
      refine lv_iload_n C.x C.b dX11_dependence_43 rfl (lv_at hl 2 rfl) ?_
      refine jr_VX (d' := 8) C htb G jc10 jm_X11_loopAt wd797 h rfl (show 0 < 1 by decide) (by decide) rfl rfl (by omega) (by decide) (by decide) ⟨rfl, rfl⟩ (by decide) (by decide) hl.1 (Nat.le_of_ble_eq_true rfl) dX11_dependence_44 (fun r8 r8n M9 H locs h G => ?_)
      obtain ⟨hal10, h⟩ := h
      obtain ⟨nM9, h⟩ := h
      refine jr_V (d' := 8) C G jc2 jm_X2_collect wd940 h rfl (show 0 < 1 by decide) (by decide) rfl rfl (by omega) (by decide) (by decide) ⟨rfl, rfl⟩ hl.1 (Nat.le_of_ble_eq_true rfl) dX11_dependence_47 (fun r11 r11n M12 H locs h G => ?_)
      obtain ⟨nM12, h⟩ := h
      refine lv_iload_n C.x C.b dX11_dependence_50 rfl (lv_at hl 3 rfl) ?_
      refine lv_if_lt (tgt := 65) C.x C.b dX11_dependence_51 (by decide) (fun hc => ?_) (fun hc => ?_)
      · have h := h.1 hc
        exact jr_throwNE C htb G h  24 rfl (by decide) (by decide) (by decide) (by decide) (by decide) (by decide) hl.1 dX11_dependence_65 dX11_dependence_68 dX11_dependence_69 dX11_dependence_71 dX11_dependence_74
      · have h := h.2 hc
        refine lv_iload_n C.x C.b dX11_dependence_54 rfl (lv_at hl 3 rfl) ?_
        refine lv_aload_n C.x C.b dX11_dependence_55 rfl (lv_at hl 0 rfl) ?_
        refine jr_get C G jc10 3 (v := .ref (g 2 0)) (show 0 < 1 by decide) (by decide) (by decide) rfl wd458 dX11_dependence_56 ?_
        refine jr_get C G jc2 3 (v := .int (M12 2 0 3)) (show 0 < 1 by decide) (by decide) (by decide) rfl wd305 dX11_dependence_59 ?_
        refine lv_icmp_lt (tgt := 75) C.x C.b dX11_dependence_62 (by decide) (fun hc => ?_) (fun hc => ?_)
        · have h := h.1 hc
          refine lv_iload C.x C.b dX11_dependence_75 (lv_at hl 4 rfl) ?_
          refine lv_if_ne (tgt := 92) C.x C.b dX11_dependence_77 (by decide) (fun hc => ?_) (fun hc => ?_)
          · have h := h.2 hc
            refine lv_iload C.x C.b dX11_dependence_92 (lv_at hl 4 rfl) ?_
            refine lv_iconst (v := 1) C.x C.b dX11_dependence_94 (by decide) ?_
            refine lv_icmp_ne (tgt := 110) C.x C.b dX11_dependence_95 (by decide) (fun hc => ?_) (fun hc => ?_)
            · have h := h.2 hc
              refine lv_aload_n C.x C.b dX11_dependence_110 rfl (lv_at hl 0 rfl) ?_
              refine jr_get C G jc10 3 (v := .ref (g 2 0)) (show 0 < 1 by decide) (by decide) (by decide) rfl wd458 dX11_dependence_111 ?_
              refine jr_get C G jc2 2 (v := .ref (g 32 0)) (show 0 < 1 by decide) (by decide) (by decide) rfl wd302 dX11_dependence_114 ?_
              refine lv_iload_n C.x C.b dX11_dependence_117 rfl (lv_at hl 3 rfl) ?_
              obtain ⟨hs, h⟩ := h
              refine jr_ald C G (show 0 < 1 by decide) (by decide) (by decide) (by decide) rfl rfl hs dX11_dependence_118 ?_
              exact jr_retI C hr G h (by decide) (by decide) dX11_dependence_119
            · have h := h.1 hc
              refine lv_aload_n C.x C.b dX11_dependence_98 rfl (lv_at hl 0 rfl) ?_
              refine jr_get C G jc10 3 (v := .ref (g 2 0)) (show 0 < 1 by decide) (by decide) (by decide) rfl wd458 dX11_dependence_99 ?_
              refine jr_get C G jc2 1 (v := .ref (g 31 0)) (show 0 < 1 by decide) (by decide) (by decide) rfl wd299 dX11_dependence_102 ?_
              refine lv_iload_n C.x C.b dX11_dependence_105 rfl (lv_at hl 3 rfl) ?_
              obtain ⟨hs, h⟩ := h
              refine jr_ald C G (show 0 < 1 by decide) (by decide) (by decide) (by decide) rfl rfl hs dX11_dependence_106 ?_
              refine lv_goto (tgt := 119) C.x C.b dX11_dependence_107 (by decide) ?_
              exact jr_retI C hr G h (by decide) (by decide) dX11_dependence_119
          · have h := h.1 hc
            refine lv_aload_n C.x C.b dX11_dependence_80 rfl (lv_at hl 0 rfl) ?_
            refine jr_get C G jc10 3 (v := .ref (g 2 0)) (show 0 < 1 by decide) (by decide) (by decide) rfl wd458 dX11_dependence_81 ?_
            refine jr_get C G jc2 0 (v := .ref (g 30 0)) (show 0 < 1 by decide) (by decide) (by decide) rfl wd297 dX11_dependence_84 ?_
            refine lv_iload_n C.x C.b dX11_dependence_87 rfl (lv_at hl 3 rfl) ?_
            obtain ⟨hs, h⟩ := h
            refine jr_ald C G (show 0 < 1 by decide) (by decide) (by decide) (by decide) rfl rfl hs dX11_dependence_88 ?_
            refine lv_goto (tgt := 119) C.x C.b dX11_dependence_89 (by decide) ?_
            exact jr_retI C hr G h (by decide) (by decide) dX11_dependence_119
        · have h := h.2 hc
          exact jr_throwNE C htb G h  24 rfl (by decide) (by decide) (by decide) (by decide) (by decide) (by decide) hl.1 dX11_dependence_65 dX11_dependence_68 dX11_dependence_69 dX11_dependence_71 dX11_dependence_74
    · have h := h.2 hc
      exact jr_throw C htb G h jx_IO 23 rfl (by decide) (by decide) (by decide) (by decide) (by decide) (by decide) hl.1 dX11_dependence_17 dX11_dependence_20 dX11_dependence_21 dX11_dependence_23 dX11_dependence_26

theorem en_X11_required {v1 : Int32} {v2 : Int32} {M : jM} {Q : Int32 → Nat → jM → Prop} {X : String → jM → Prop} (h : at_X11_required_0 v1 v2 M Q X) : ok_X11_required v1 v2 M Q X := jr_enter (by decide) (fun g => rfl) (fun g => Nat.le_of_ble_eq_true rfl) h
set_option maxHeartbeats 4000000 in
set_option maxRecDepth 100000 in
theorem bl_X11_required_0 (v1 : Int32) (v2 : Int32) (M : jM) (Q : Int32 → Nat → jM → Prop) (X : String → jM → Prop) 
  (h : ok_X11_checkPair v1 v2 M (fun _ _ M2 => jnb M2 = jnb M ∧ ok_X11_checkBefore v1 v2 M2 (fun _ _ M4 => jnb M4 = jnb M2 ∧ ok_X11_loopAt v1 M4 (fun _ r5n M6 => r5n < 20 ∧ jnb M6 = jnb M4 ∧ ok_X11_loopAt v2 M6 (fun _ r8n M9 => r8n < 20 ∧ jnb M9 = jnb M6 ∧ ok_X2_collect r5n r8n M9 (fun _ _ M12 => jnb M12 = jnb M9 ∧ (M12 2 0 3 = 0 → X "java/util/NoSuchElementException" M12) ∧ (¬ (M12 2 0 3 = 0) → Q (M12 2 0 4) 0 M12))) X) X) X) X) :
  at_X11_required_0 v1 v2 M Q X := by
  intro p l e s m args below meth c D cA base g C hr htb H locs G ls hl
  refine lv_aload_n C.x C.b dX11_required_0 rfl (lv_at hl 0 rfl) ?_
  refine lv_iload_n C.x C.b dX11_required_1 rfl (lv_at hl 1 rfl) ?_
  refine lv_iload_n C.x C.b dX11_required_2 rfl (lv_at hl 2 rfl) ?_
  refine jr_VX (d' := 8) C htb G jc10 jm_X11_checkPair wd931 h rfl (show 0 < 1 by decide) (by decide) rfl rfl (by omega) (by decide) (by decide) ⟨rfl, rfl⟩ (by decide) (by decide) hl.1 (Nat.le_of_ble_eq_true rfl) dX11_required_3 (fun r1 r1n M2 H locs h G => ?_)
  obtain ⟨nM2, h⟩ := h
  refine lv_aload_n C.x C.b dX11_required_6 rfl (lv_at hl 0 rfl) ?_
  refine lv_iload_n C.x C.b dX11_required_7 rfl (lv_at hl 1 rfl) ?_
  refine lv_iload_n C.x C.b dX11_required_8 rfl (lv_at hl 2 rfl) ?_
  refine jr_VX (d' := 8) C htb G jc10 jm_X11_checkBefore wd935 h rfl (show 0 < 1 by decide) (by decide) rfl rfl (by omega) (by decide) (by decide) ⟨rfl, rfl⟩ (by decide) (by decide) hl.1 (Nat.le_of_ble_eq_true rfl) dX11_required_9 (fun r3 r3n M4 H locs h G => ?_)
  obtain ⟨nM4, h⟩ := h
  refine lv_aload_n C.x C.b dX11_required_12 rfl (lv_at hl 0 rfl) ?_
  refine jr_get C G jc10 3 (v := .ref (g 2 0)) (show 0 < 1 by decide) (by decide) (by decide) rfl wd458 dX11_required_13 ?_
  refine lv_aload_n C.x C.b dX11_required_16 rfl (lv_at hl 0 rfl) ?_
  refine lv_iload_n C.x C.b dX11_required_17 rfl (lv_at hl 1 rfl) ?_
  refine jr_VX (d' := 8) C htb G jc10 jm_X11_loopAt wd797 h rfl (show 0 < 1 by decide) (by decide) rfl rfl (by omega) (by decide) (by decide) ⟨rfl, rfl⟩ (by decide) (by decide) hl.1 (Nat.le_of_ble_eq_true rfl) dX11_required_18 (fun r5 r5n M6 H locs h G => ?_)
  obtain ⟨hal7, h⟩ := h
  obtain ⟨nM6, h⟩ := h
  refine lv_aload_n C.x C.b dX11_required_21 rfl (lv_at hl 0 rfl) ?_
  refine lv_iload_n C.x C.b dX11_required_22 rfl (lv_at hl 2 rfl) ?_
  refine jr_VX (d' := 8) C htb G jc10 jm_X11_loopAt wd797 h rfl (show 0 < 1 by decide) (by decide) rfl rfl (by omega) (by decide) (by decide) ⟨rfl, rfl⟩ (by decide) (by decide) hl.1 (Nat.le_of_ble_eq_true rfl) dX11_required_23 (fun r8 r8n M9 H locs h G => ?_)
  obtain ⟨hal10, h⟩ := h
  obtain ⟨nM9, h⟩ := h
  refine jr_V (d' := 8) C G jc2 jm_X2_collect wd940 h rfl (show 0 < 1 by decide) (by decide) rfl rfl (by omega) (by decide) (by decide) ⟨rfl, rfl⟩ hl.1 (Nat.le_of_ble_eq_true rfl) dX11_required_26 (fun r11 r11n M12 H locs h G => ?_)
  obtain ⟨nM12, h⟩ := h
  refine lv_aload_n C.x C.b dX11_required_29 rfl (lv_at hl 0 rfl) ?_
  refine jr_get C G jc10 3 (v := .ref (g 2 0)) (show 0 < 1 by decide) (by decide) (by decide) rfl wd458 dX11_required_30 ?_
  refine jr_get C G jc2 3 (v := .int (M12 2 0 3)) (show 0 < 1 by decide) (by decide) (by decide) rfl wd305 dX11_required_33 ?_
  refine lv_if_ne (tgt := 49) C.x C.b dX11_required_36 (by decide) (fun hc => ?_) (fun hc => ?_)
  · have h := h.2 hc
    refine lv_aload_n C.x C.b dX11_required_49 rfl (lv_at hl 0 rfl) ?_
    refine jr_get C G jc10 3 (v := .ref (g 2 0)) (show 0 < 1 by decide) (by decide) (by decide) rfl wd458 dX11_required_50 ?_
    refine jr_get C G jc2 4 (v := .int (M12 2 0 4)) (show 0 < 1 by decide) (by decide) (by decide) rfl wd308 dX11_required_53 ?_
    exact jr_retI C hr G h (by decide) (by decide) dX11_required_56
  · have h := h.1 hc
    exact jr_throwNE C htb G h  25 rfl (by decide) (by decide) (by decide) (by decide) (by decide) (by decide) hl.1 dX11_required_39 dX11_required_42 dX11_required_43 dX11_required_45 dX11_required_48

theorem en_X11_isAllowed {v1 : Int32} {v2 : Int32} {M : jM} {Q : Int32 → Nat → jM → Prop} {X : String → jM → Prop} (h : at_X11_isAllowed_0 v1 v2 M Q X) : ok_X11_isAllowed v1 v2 M Q X := jr_enter (by decide) (fun g => rfl) (fun g => Nat.le_of_ble_eq_true rfl) h
set_option maxHeartbeats 4000000 in
set_option maxRecDepth 100000 in
theorem bl_X11_isAllowed_0 (v1 : Int32) (v2 : Int32) (M : jM) (Q : Int32 → Nat → jM → Prop) (X : String → jM → Prop) 
  (h : ok_X11_checkPair v1 v2 M (fun _ _ M2 => jnb M2 = jnb M ∧ ok_X11_checkGroup v1 v2 M2 (fun _ _ M4 => jnb M4 = jnb M2 ∧ ok_X1_refresh  M4 (fun _ _ M6 => jnb M6 = jnb M4 ∧ ok_X1_longest v1 M6 (fun r7 _ M8 => jnb M8 = jnb M6 ∧ (r7 ≤ (v2 - v1) → Q 0 0 M8) ∧ (¬ (r7 ≤ (v2 - v1)) → Q 1 0 M8)))) X) X) :
  at_X11_isAllowed_0 v1 v2 M Q X := by
  intro p l e s m args below meth c D cA base g C hr htb H locs G ls hl
  refine lv_aload_n C.x C.b dX11_isAllowed_0 rfl (lv_at hl 0 rfl) ?_
  refine lv_iload_n C.x C.b dX11_isAllowed_1 rfl (lv_at hl 1 rfl) ?_
  refine lv_iload_n C.x C.b dX11_isAllowed_2 rfl (lv_at hl 2 rfl) ?_
  refine jr_VX (d' := 8) C htb G jc10 jm_X11_checkPair wd931 h rfl (show 0 < 1 by decide) (by decide) rfl rfl (by omega) (by decide) (by decide) ⟨rfl, rfl⟩ (by decide) (by decide) hl.1 (Nat.le_of_ble_eq_true rfl) dX11_isAllowed_3 (fun r1 r1n M2 H locs h G => ?_)
  obtain ⟨nM2, h⟩ := h
  refine lv_aload_n C.x C.b dX11_isAllowed_6 rfl (lv_at hl 0 rfl) ?_
  refine lv_iload_n C.x C.b dX11_isAllowed_7 rfl (lv_at hl 1 rfl) ?_
  refine lv_iload_n C.x C.b dX11_isAllowed_8 rfl (lv_at hl 2 rfl) ?_
  refine jr_VX (d' := 8) C htb G jc10 jm_X11_checkGroup wd992 h rfl (show 0 < 1 by decide) (by decide) rfl rfl (by omega) (by decide) (by decide) ⟨rfl, rfl⟩ (by decide) (by decide) hl.1 (Nat.le_of_ble_eq_true rfl) dX11_isAllowed_9 (fun r3 r3n M4 H locs h G => ?_)
  obtain ⟨nM4, h⟩ := h
  refine lv_aload_n C.x C.b dX11_isAllowed_12 rfl (lv_at hl 0 rfl) ?_
  refine jr_get C G jc10 4 (v := .ref (g 1 0)) (show 0 < 1 by decide) (by decide) (by decide) rfl wd459 dX11_isAllowed_13 ?_
  refine jr_V (d' := 8) C G jc1 jm_X1_refresh wd997 h rfl (show 0 < 1 by decide) (by decide) rfl rfl (by omega) (by decide) (by decide) ⟨rfl, rfl⟩ hl.1 (Nat.le_of_ble_eq_true rfl) dX11_isAllowed_16 (fun r5 r5n M6 H locs h G => ?_)
  obtain ⟨nM6, h⟩ := h
  refine lv_aload_n C.x C.b dX11_isAllowed_19 rfl (lv_at hl 0 rfl) ?_
  refine jr_get C G jc10 4 (v := .ref (g 1 0)) (show 0 < 1 by decide) (by decide) (by decide) rfl wd459 dX11_isAllowed_20 ?_
  refine lv_iload_n C.x C.b dX11_isAllowed_23 rfl (lv_at hl 1 rfl) ?_
  refine jr_V (d' := 8) C G jc1 jm_X1_longest wd1002 h rfl (show 0 < 1 by decide) (by decide) rfl rfl (by omega) (by decide) (by decide) ⟨rfl, rfl⟩ hl.1 (Nat.le_of_ble_eq_true rfl) dX11_isAllowed_24 (fun r7 r7n M8 H locs h G => ?_)
  obtain ⟨nM8, h⟩ := h
  refine lv_iload_n C.x C.b dX11_isAllowed_27 rfl (lv_at hl 2 rfl) ?_
  refine lv_iload_n C.x C.b dX11_isAllowed_28 rfl (lv_at hl 1 rfl) ?_
  refine lv_isub C.x C.b dX11_isAllowed_29 ?_
  refine lv_icmp_le (tgt := 37) C.x C.b dX11_isAllowed_30 (by decide) (fun hc => ?_) (fun hc => ?_)
  · have h := h.1 hc
    refine lv_iconst (v := 0) C.x C.b dX11_isAllowed_37 (by decide) ?_
    exact jr_retZ C hr G rfl h (by decide) (by decide) dX11_isAllowed_38
  · have h := h.2 hc
    refine lv_iconst (v := 1) C.x C.b dX11_isAllowed_33 (by decide) ?_
    refine lv_goto (tgt := 38) C.x C.b dX11_isAllowed_34 (by decide) ?_
    exact jr_retZ C hr G rfl h (by decide) (by decide) dX11_isAllowed_38

theorem en_X11_peeled {v1 : Int32} {v2 : Int32} {v3 : Int32} {M : jM} {Q : Int32 → Nat → jM → Prop} {X : String → jM → Prop} (h : at_X11_peeled_0 v1 v2 v3 M Q X) : ok_X11_peeled v1 v2 v3 M Q X := jr_enter (by decide) (fun g => rfl) (fun g => Nat.le_of_ble_eq_true rfl) h
set_option maxHeartbeats 4000000 in
set_option maxRecDepth 100000 in
theorem bl_X11_peeled_0 (v1 : Int32) (v2 : Int32) (v3 : Int32) (M : jM) (Q : Int32 → Nat → jM → Prop) (X : String → jM → Prop) 
  (h : ok_X11_planOf v1 M (fun _ r1n M2 => r1n < 3 ∧ jnb M2 = jnb M ∧ ok_X11_checkSide v3 M2 (fun _ _ M5 => jnb M5 = jnb M2 ∧ ok_X11_loopAt v2 M5 (fun _ r6n M7 => r6n < 20 ∧ jnb M7 = jnb M5 ∧ ok_X5_groupWith r1n v2 M7 (fun r9 _ M10 => jnb M10 = jnb M7 ∧ ok_X5_takeGroup r1n r9 M10 (fun _ _ M12 => jnb M12 = jnb M10 ∧ ((M12 1 0 9 ≤ M12 1 0 10) → vp_in v2 6 ∧ (v3 = 0 → Q ((M12 1 0 9) - ((M12 3 r6n 1) + (M12 27 0 v2.toNatClampNeg))) 0 M12) ∧ (¬ (v3 = 0) → Q (((M12 3 r6n 2) + (M12 27 0 v2.toNatClampNeg)) - (M12 1 0 10)) 0 M12)) ∧ (¬ (M12 1 0 9 ≤ M12 1 0 10) → (v3 = 0 → Q (((M12 3 r6n 2) - (M12 3 r6n 1)) + 1) 0 M12) ∧ (¬ (v3 = 0) → Q 0 0 M12))))) X) X) X) :
  at_X11_peeled_0 v1 v2 v3 M Q X := by
  intro p l e s m args below meth c D cA base g C hr htb H locs G ls hl
  refine lv_aload_n C.x C.b dX11_peeled_0 rfl (lv_at hl 0 rfl) ?_
  refine lv_iload_n C.x C.b dX11_peeled_1 rfl (lv_at hl 1 rfl) ?_
  refine jr_VX (d' := 8) C htb G jc10 jm_X11_planOf wd1023 h rfl (show 0 < 1 by decide) (by decide) rfl rfl (by omega) (by decide) (by decide) ⟨rfl, rfl⟩ (by decide) (by decide) hl.1 (Nat.le_of_ble_eq_true rfl) dX11_peeled_2 (fun r1 r1n M2 H locs h G => ?_)
  obtain ⟨hal3, h⟩ := h
  obtain ⟨nM2, h⟩ := h
  refine lv_astore (lv' := [(4, .ref (g 5 r1n)), (0, .ref (g 10 0)), (1, .int v1), (2, .int v2), (3, .int v3)]) C.x C.b dX11_peeled_5 hl (by decide) rfl (fun ls hl => ?_)
  refine lv_aload_n C.x C.b dX11_peeled_7 rfl (lv_at hl 1 rfl) ?_
  refine lv_iload_n C.x C.b dX11_peeled_8 rfl (lv_at hl 4 rfl) ?_
  refine jr_VX (d' := 8) C htb G jc10 jm_X11_checkSide wd801 h rfl (show 0 < 1 by decide) (by decide) rfl rfl (by omega) (by decide) (by decide) ⟨rfl, rfl⟩ (by decide) (by decide) hl.1 (Nat.le_of_ble_eq_true rfl) dX11_peeled_9 (fun r4 r4n M5 H locs h G => ?_)
  obtain ⟨nM5, h⟩ := h
  refine lv_aload_n C.x C.b dX11_peeled_12 rfl (lv_at hl 1 rfl) ?_
  refine lv_iload_n C.x C.b dX11_peeled_13 rfl (lv_at hl 3 rfl) ?_
  refine jr_VX (d' := 8) C htb G jc10 jm_X11_loopAt wd797 h rfl (show 0 < 1 by decide) (by decide) rfl rfl (by omega) (by decide) (by decide) ⟨rfl, rfl⟩ (by decide) (by decide) hl.1 (Nat.le_of_ble_eq_true rfl) dX11_peeled_14 (fun r6 r6n M7 H locs h G => ?_)
  obtain ⟨hal8, h⟩ := h
  obtain ⟨nM7, h⟩ := h
  refine lv_astore (lv' := [(5, .ref (g 3 r6n)), (4, .ref (g 5 r1n)), (0, .ref (g 10 0)), (1, .int v1), (2, .int v2), (3, .int v3)]) C.x C.b dX11_peeled_17 hl (by decide) rfl (fun ls hl => ?_)
  refine lv_aload C.x C.b dX11_peeled_19 (lv_at hl 1 rfl) ?_
  refine lv_aload C.x C.b dX11_peeled_21 (lv_at hl 1 rfl) ?_
  refine lv_iload_n C.x C.b dX11_peeled_23 rfl (lv_at hl 4 rfl) ?_
  refine jr_V (d' := 8) C G jc5 jm_X5_groupWith wd1081 h rfl (show r1n < 3 by omega) (by decide) rfl rfl (by omega) (by decide) (by decide) ⟨rfl, rfl⟩ hl.1 (Nat.le_of_ble_eq_true rfl) dX11_peeled_24 (fun r9 r9n M10 H locs h G => ?_)
  obtain ⟨nM10, h⟩ := h
  refine jr_V (d' := 8) C G jc5 jm_X5_takeGroup wd1092 h rfl (show r1n < 3 by omega) (by decide) rfl rfl (by omega) (by decide) (by decide) ⟨rfl, rfl⟩ hl.1 (Nat.le_of_ble_eq_true rfl) dX11_peeled_27 (fun r11 r11n M12 H locs h G => ?_)
  obtain ⟨nM12, h⟩ := h
  refine lv_aload_n C.x C.b dX11_peeled_30 rfl (lv_at hl 2 rfl) ?_
  refine jr_get C G jc10 4 (v := .ref (g 1 0)) (show 0 < 1 by decide) (by decide) (by decide) rfl wd459 dX11_peeled_31 ?_
  refine jr_V (d' := 8) C G jc1 jm_X1_hasMainPart wd1108 (sp_X1_hasMainPart ⟨rfl, rfl⟩ : ok_X1_hasMainPart  M12 (fun r _ M' => jb (M12 1 0 9 ≤ M12 1 0 10) = r ∧ M12 = M')) rfl (show 0 < 1 by decide) (by decide) rfl rfl (by omega) (by decide) (by decide) ⟨rfl, rfl⟩ hl.1 (Nat.le_of_ble_eq_true rfl) dX11_peeled_34 (fun r13 r13n M14 H locs hq G => ?_)
  obtain ⟨eq1, eq2⟩ := hq
  subst eq1
  subst eq2
  refine lv_if_ne (tgt := 62) C.x C.b dX11_peeled_37 (by decide) (fun hc => ?_) (fun hc => ?_)
  · have h := h.1 (jb_1 hc)
    refine lv_aload_n C.x C.b dX11_peeled_62 rfl (lv_at hl 2 rfl) ?_
    refine jr_get C G jc10 4 (v := .ref (g 1 0)) (show 0 < 1 by decide) (by decide) (by decide) rfl wd459 dX11_peeled_63 ?_
    refine jr_get C G jc1 2 (v := .ref (g 27 0)) (show 0 < 1 by decide) (by decide) (by decide) rfl wd331 dX11_peeled_66 ?_
    refine lv_iload_n C.x C.b dX11_peeled_69 rfl (lv_at hl 4 rfl) ?_
    obtain ⟨hs, h⟩ := h
    refine jr_ald C G (show 0 < 1 by decide) (by decide) (by decide) (by decide) rfl rfl hs dX11_peeled_70 ?_
    refine lv_istore (lv' := [(6, .int (M12 27 0 v2.toNatClampNeg)), (5, .ref (g 3 r6n)), (4, .ref (g 5 r1n)), (0, .ref (g 10 0)), (1, .int v1), (2, .int v2), (3, .int v3)]) C.x C.b dX11_peeled_71 hl (by decide) rfl (fun ls hl => ?_)
    refine lv_iload_n C.x C.b dX11_peeled_73 rfl (lv_at hl 6 rfl) ?_
    refine lv_if_ne (tgt := 96) C.x C.b dX11_peeled_74 (by decide) (fun hc => ?_) (fun hc => ?_)
    · have h := h.2 hc
      refine lv_aload C.x C.b dX11_peeled_96 (lv_at hl 1 rfl) ?_
      refine jr_get C G jc3 2 (v := .int (M12 3 r6n 2)) (show r6n < 20 by omega) (by decide) (by decide) rfl wd220 dX11_peeled_98 ?_
      refine lv_iload C.x C.b dX11_peeled_101 (lv_at hl 0 rfl) ?_
      refine lv_iadd C.x C.b dX11_peeled_103 ?_
      refine lv_aload_n C.x C.b dX11_peeled_104 rfl (lv_at hl 3 rfl) ?_
      refine jr_get C G jc10 4 (v := .ref (g 1 0)) (show 0 < 1 by decide) (by decide) (by decide) rfl wd459 dX11_peeled_105 ?_
      refine jr_get C G jc1 10 (v := .int (M12 1 0 10)) (show 0 < 1 by decide) (by decide) (by decide) rfl wd343 dX11_peeled_108 ?_
      refine lv_isub C.x C.b dX11_peeled_111 ?_
      exact jr_retI C hr G h (by decide) (by decide) dX11_peeled_112
    · have h := h.1 hc
      refine lv_aload_n C.x C.b dX11_peeled_77 rfl (lv_at hl 3 rfl) ?_
      refine jr_get C G jc10 4 (v := .ref (g 1 0)) (show 0 < 1 by decide) (by decide) (by decide) rfl wd459 dX11_peeled_78 ?_
      refine jr_get C G jc1 9 (v := .int (M12 1 0 9)) (show 0 < 1 by decide) (by decide) (by decide) rfl wd341 dX11_peeled_81 ?_
      refine lv_aload C.x C.b dX11_peeled_84 (lv_at hl 1 rfl) ?_
      refine jr_get C G jc3 1 (v := .int (M12 3 r6n 1)) (show r6n < 20 by omega) (by decide) (by decide) rfl wd214 dX11_peeled_86 ?_
      refine lv_iload C.x C.b dX11_peeled_89 (lv_at hl 0 rfl) ?_
      refine lv_iadd C.x C.b dX11_peeled_91 ?_
      refine lv_isub C.x C.b dX11_peeled_92 ?_
      refine lv_goto (tgt := 112) C.x C.b dX11_peeled_93 (by decide) ?_
      exact jr_retI C hr G h (by decide) (by decide) dX11_peeled_112
  · have h := h.2 (jb_0 hc)
    refine lv_iload_n C.x C.b dX11_peeled_40 rfl (lv_at hl 5 rfl) ?_
    refine lv_if_ne (tgt := 60) C.x C.b dX11_peeled_41 (by decide) (fun hc => ?_) (fun hc => ?_)
    · have h := h.2 hc
      refine lv_iconst (v := 0) C.x C.b dX11_peeled_60 (by decide) ?_
      exact jr_retI C hr G h (by decide) (by decide) dX11_peeled_61
    · have h := h.1 hc
      refine lv_aload C.x C.b dX11_peeled_44 (lv_at hl 0 rfl) ?_
      refine jr_get C G jc3 2 (v := .int (M12 3 r6n 2)) (show r6n < 20 by omega) (by decide) (by decide) rfl wd220 dX11_peeled_46 ?_
      refine lv_aload C.x C.b dX11_peeled_49 (lv_at hl 0 rfl) ?_
      refine jr_get C G jc3 1 (v := .int (M12 3 r6n 1)) (show r6n < 20 by omega) (by decide) (by decide) rfl wd214 dX11_peeled_51 ?_
      refine lv_isub C.x C.b dX11_peeled_54 ?_
      refine lv_iconst (v := 1) C.x C.b dX11_peeled_55 (by decide) ?_
      refine lv_iadd C.x C.b dX11_peeled_56 ?_
      refine lv_goto (tgt := 61) C.x C.b dX11_peeled_57 (by decide) ?_
      exact jr_retI C hr G h (by decide) (by decide) dX11_peeled_61

theorem en_X11_hits {v1 : Int32} {v2 : Int32} {M : jM} {Q : Int32 → Nat → jM → Prop} {X : String → jM → Prop} (h : at_X11_hits_0 v1 v2 M Q X) : ok_X11_hits v1 v2 M Q X := jr_enter (by decide) (fun g => rfl) (fun g => Nat.le_of_ble_eq_true rfl) h
set_option maxHeartbeats 4000000 in
set_option maxRecDepth 100000 in
theorem bl_X11_hits_0 (v1 : Int32) (v2 : Int32) (M : jM) (Q : Int32 → Nat → jM → Prop) (X : String → jM → Prop) 
  (h : ok_X11_checkPair v1 v2 M (fun _ _ M2 => jnb M2 = jnb M ∧ ok_X11_checkGroup v1 v2 M2 (fun _ _ M4 => jnb M4 = jnb M2 ∧ ok_X9_begin (M4 40 0 (1 : Int32).toNatClampNeg) M4 (fun _ _ M6 => jnb M6 = jnb M4 ∧ ok_X1_refresh  M6 (fun _ _ M8 => jnb M8 = jnb M6 ∧ ok_X1_take v1 v2 M8 (fun _ _ M10 => jnb M10 = jnb M8 ∧ ok_X1_perform_T  M10 (fun _ _ M12 => jnb M12 = jnb M10 ∧ Q (M12 9 0 3) 0 M12))))) X) X) :
  at_X11_hits_0 v1 v2 M Q X := by
  intro p l e s m args below meth c D cA base g C hr htb H locs G ls hl
  refine lv_aload_n C.x C.b dX11_hits_0 rfl (lv_at hl 0 rfl) ?_
  refine lv_iload_n C.x C.b dX11_hits_1 rfl (lv_at hl 1 rfl) ?_
  refine lv_iload_n C.x C.b dX11_hits_2 rfl (lv_at hl 2 rfl) ?_
  refine jr_VX (d' := 8) C htb G jc10 jm_X11_checkPair wd931 h rfl (show 0 < 1 by decide) (by decide) rfl rfl (by omega) (by decide) (by decide) ⟨rfl, rfl⟩ (by decide) (by decide) hl.1 (Nat.le_of_ble_eq_true rfl) dX11_hits_3 (fun r1 r1n M2 H locs h G => ?_)
  obtain ⟨nM2, h⟩ := h
  refine lv_aload_n C.x C.b dX11_hits_6 rfl (lv_at hl 0 rfl) ?_
  refine lv_iload_n C.x C.b dX11_hits_7 rfl (lv_at hl 1 rfl) ?_
  refine lv_iload_n C.x C.b dX11_hits_8 rfl (lv_at hl 2 rfl) ?_
  refine jr_VX (d' := 8) C htb G jc10 jm_X11_checkGroup wd992 h rfl (show 0 < 1 by decide) (by decide) rfl rfl (by omega) (by decide) (by decide) ⟨rfl, rfl⟩ (by decide) (by decide) hl.1 (Nat.le_of_ble_eq_true rfl) dX11_hits_9 (fun r3 r3n M4 H locs h G => ?_)
  obtain ⟨nM4, h⟩ := h
  refine lv_aload_n C.x C.b dX11_hits_12 rfl (lv_at hl 0 rfl) ?_
  refine jr_get C G jc10 5 (v := .ref (g 9 0)) (show 0 < 1 by decide) (by decide) (by decide) rfl wd460 dX11_hits_13 ?_
  refine lv_aload_n C.x C.b dX11_hits_16 rfl (lv_at hl 0 rfl) ?_
  refine jr_get C G jc10 1 (v := .ref (g 6 0)) (show 0 < 1 by decide) (by decide) (by decide) rfl wd456 dX11_hits_17 ?_
  refine jr_get C G jc6 1 (v := .ref (g 40 0)) (show 0 < 2 by decide) (by decide) (by decide) rfl wd273 dX11_hits_20 ?_
  refine lv_iconst (v := 1) C.x C.b dX11_hits_23 (by decide) ?_
  refine jr_ald C G (show 0 < 2 by decide) (by decide) (by decide) (by decide) rfl rfl (by unfold vp_in; decide) dX11_hits_24 ?_
  refine jr_V (d' := 8) C G jc9 jm_X9_begin wd1138 h rfl (show 0 < 1 by decide) (by decide) rfl rfl (by omega) (by decide) (by decide) ⟨rfl, rfl⟩ hl.1 (Nat.le_of_ble_eq_true rfl) dX11_hits_25 (fun r5 r5n M6 H locs h G => ?_)
  obtain ⟨nM6, h⟩ := h
  refine lv_aload_n C.x C.b dX11_hits_28 rfl (lv_at hl 0 rfl) ?_
  refine jr_get C G jc10 4 (v := .ref (g 1 0)) (show 0 < 1 by decide) (by decide) (by decide) rfl wd459 dX11_hits_29 ?_
  refine jr_V (d' := 8) C G jc1 jm_X1_refresh wd997 h rfl (show 0 < 1 by decide) (by decide) rfl rfl (by omega) (by decide) (by decide) ⟨rfl, rfl⟩ hl.1 (Nat.le_of_ble_eq_true rfl) dX11_hits_32 (fun r7 r7n M8 H locs h G => ?_)
  obtain ⟨nM8, h⟩ := h
  refine lv_aload_n C.x C.b dX11_hits_35 rfl (lv_at hl 0 rfl) ?_
  refine jr_get C G jc10 4 (v := .ref (g 1 0)) (show 0 < 1 by decide) (by decide) (by decide) rfl wd459 dX11_hits_36 ?_
  refine lv_iload_n C.x C.b dX11_hits_39 rfl (lv_at hl 1 rfl) ?_
  refine lv_iload_n C.x C.b dX11_hits_40 rfl (lv_at hl 2 rfl) ?_
  refine jr_V (d' := 8) C G jc1 jm_X1_take wd1148 h rfl (show 0 < 1 by decide) (by decide) rfl rfl (by omega) (by decide) (by decide) ⟨rfl, rfl⟩ hl.1 (Nat.le_of_ble_eq_true rfl) dX11_hits_41 (fun r9 r9n M10 H locs h G => ?_)
  obtain ⟨nM10, h⟩ := h
  refine lv_aload_n C.x C.b dX11_hits_44 rfl (lv_at hl 0 rfl) ?_
  refine jr_get C G jc10 4 (v := .ref (g 1 0)) (show 0 < 1 by decide) (by decide) (by decide) rfl wd459 dX11_hits_45 ?_
  refine lv_aload_n C.x C.b dX11_hits_48 rfl (lv_at hl 0 rfl) ?_
  refine jr_get C G jc10 5 (v := .ref (g 9 0)) (show 0 < 1 by decide) (by decide) (by decide) rfl wd460 dX11_hits_49 ?_
  refine jr_V (d' := 8) C G jc1 jm_X1_perform wd1140 h rfl (show 0 < 1 by decide) (by decide) rfl rfl (by omega) (by decide) (by decide) ⟨rfl, rfl⟩ hl.1 (Nat.le_of_ble_eq_true rfl) dX11_hits_52 (fun r11 r11n M12 H locs h G => ?_)
  obtain ⟨nM12, h⟩ := h
  refine lv_aload_n C.x C.b dX11_hits_55 rfl (lv_at hl 0 rfl) ?_
  refine jr_get C G jc10 5 (v := .ref (g 9 0)) (show 0 < 1 by decide) (by decide) (by decide) rfl wd460 dX11_hits_56 ?_
  refine jr_get C G jc9 3 (v := .int (M12 9 0 3)) (show 0 < 1 by decide) (by decide) (by decide) rfl wd379 dX11_hits_59 ?_
  exact jr_retI C hr G h (by decide) (by decide) dX11_hits_62

theorem en_X11_statementAt {v1 : Int32} {v2 : Int32} {M : jM} {Q : Int32 → Nat → jM → Prop} {X : String → jM → Prop} (h : at_X11_statementAt_0 v1 v2 M Q X) : ok_X11_statementAt v1 v2 M Q X := jr_enter (by decide) (fun g => rfl) (fun g => Nat.le_of_ble_eq_true rfl) h
set_option maxHeartbeats 4000000 in
set_option maxRecDepth 100000 in
theorem bl_X11_statementAt_0 (v1 : Int32) (v2 : Int32) (M : jM) (Q : Int32 → Nat → jM → Prop) (X : String → jM → Prop) 
  (h : ok_X11_loopAt v1 M (fun _ r1n M2 => r1n < 20 ∧ jnb M2 = jnb M ∧ ((0 ≤ v2 ∧ v2 < M2 0 ((M2 3 r1n 0).toNatClampNeg) 7 ∧ v2 < 4) → vp_in v2 4 ∧ Q 0 (4 * ((M2 3 r1n 0).toNatClampNeg) + v2.toNatClampNeg) M2) ∧ (¬ (0 ≤ v2 ∧ v2 < M2 0 ((M2 3 r1n 0).toNatClampNeg) 7 ∧ v2 < 4) → X "java/lang/IndexOutOfBoundsException" M2)) X) :
  at_X11_statementAt_0 v1 v2 M Q X := by
  intro p l e s m args below meth c D cA base g C hr htb H locs G ls hl
  refine lv_aload_n C.x C.b dX11_statementAt_0 rfl (lv_at hl 0 rfl) ?_
  refine lv_iload_n C.x C.b dX11_statementAt_1 rfl (lv_at hl 1 rfl) ?_
  refine jr_VX (d' := 8) C htb G jc10 jm_X11_loopAt wd797 h rfl (show 0 < 1 by decide) (by decide) rfl rfl (by omega) (by decide) (by decide) ⟨rfl, rfl⟩ (by decide) (by decide) hl.1 (Nat.le_of_ble_eq_true rfl) dX11_statementAt_2 (fun r1 r1n M2 H locs h G => ?_)
  obtain ⟨hal3, h⟩ := h
  obtain ⟨nM2, h⟩ := h
  have hb4 : (M2 3 r1n 0).toNatClampNeg < jnb M2 := G.1.2.2 _ (by omega)
  refine jr_get C G jc3 0 (v := .ref (g 0 ((M2 3 r1n 0).toNatClampNeg))) (show r1n < 20 by omega) (by decide) (by decide) rfl wd208 dX11_statementAt_5 ?_
  refine lv_astore_n (lv' := [(3, .ref (g 0 ((M2 3 r1n 0).toNatClampNeg))), (0, .ref (g 10 0)), (1, .int v1), (2, .int v2)]) C.x C.b dX11_statementAt_8 rfl hl (by decide) rfl (fun ls hl => ?_)
  refine lv_aload_n C.x C.b dX11_statementAt_9 rfl (lv_at hl 0 rfl) ?_
  refine lv_iload_n C.x C.b dX11_statementAt_10 rfl (lv_at hl 3 rfl) ?_
  refine jr_V (d' := 8) C G jc0 jm_X0_hasStatement wd856 (sp_X0_hasStatement (show (M2 3 r1n 0).toNatClampNeg < jnb M2 by omega) ⟨rfl, rfl⟩ : ok_X0_hasStatement ((M2 3 r1n 0).toNatClampNeg) v2 M2 (fun r _ M' => jb (0 ≤ v2 ∧ v2 < M2 0 ((M2 3 r1n 0).toNatClampNeg) 7 ∧ v2 < 4) = r ∧ M2 = M')) rfl (show (M2 3 r1n 0).toNatClampNeg < jnb M2 by omega) (by decide) rfl rfl (by omega) (by decide) (by decide) ⟨rfl, rfl⟩ hl.1 (Nat.le_of_ble_eq_true rfl) dX11_statementAt_11 (fun r5 r5n M6 H locs hq G => ?_)
  obtain ⟨eq1, eq2⟩ := hq
  subst eq1
  subst eq2
  refine lv_if_ne (tgt := 28) C.x C.b dX11_statementAt_14 (by decide) (fun hc => ?_) (fun hc => ?_)
  · have h := h.1 (jb_1 hc)
    refine lv_aload_n C.x C.b dX11_statementAt_28 rfl (lv_at hl 0 rfl) ?_
    refine jr_get C G jc0 3 (v := .ref (g 23 ((M2 3 r1n 0).toNatClampNeg))) (show (M2 3 r1n 0).toNatClampNeg < jnb M2 by omega) (by decide) (by decide) rfl wd167 dX11_statementAt_29 ?_
    refine lv_iload_n C.x C.b dX11_statementAt_32 rfl (lv_at hl 3 rfl) ?_
    obtain ⟨hs, h⟩ := h
    have hj7 := vp_lt hs
    refine jr_aald C G (R := 23) (R' := 7) (i' := 4 * ((M2 3 r1n 0).toNatClampNeg) + v2.toNatClampNeg) (show (M2 3 r1n 0).toNatClampNeg < jnb M2 by omega) (by decide) (by decide) (by decide) rfl rfl hs rfl dX11_statementAt_33 ?_
    exact jr_retR C hr G h (by decide) (by decide) dX11_statementAt_34
  · have h := h.2 (jb_0 hc)
    exact jr_throwW C htb G h jx_IO 17 rfl (by decide) (by decide) (by decide) (by decide) (by decide) (by decide) hl.1 dX11_statementAt_17 dX11_statementAt_20 dX11_statementAt_21 dX11_statementAt_24 dX11_statementAt_27

theorem en_X11_operators {v1 : Int32} {v2 : Int32} {v3 : Int32} {M : jM} {Q : Int32 → Nat → jM → Prop} {X : String → jM → Prop} (h : at_X11_operators_0 v1 v2 v3 M Q X) : ok_X11_operators v1 v2 v3 M Q X := jr_enter (by decide) (fun g => rfl) (fun g => Nat.le_of_ble_eq_true rfl) h
set_option maxHeartbeats 4000000 in
set_option maxRecDepth 100000 in
theorem bl_X11_operators_0 (v1 : Int32) (v2 : Int32) (v3 : Int32) (M : jM) (Q : Int32 → Nat → jM → Prop) (X : String → jM → Prop) 
  (h : ok_X11_statementAt v1 v2 M (fun _ r1n M2 => r1n < 4 * jnb M2 ∧ jnb M2 = jnb M ∧ (v3 < 0 → X "java/lang/IllegalArgumentException" M2) ∧ (¬ (v3 < 0) → (v3 ≤ 2 → vp_in v3 3 ∧ Q (M2 26 r1n v3.toNatClampNeg) 0 M2) ∧ (¬ (v3 ≤ 2) → X "java/lang/IllegalArgumentException" M2))) X) :
  at_X11_operators_0 v1 v2 v3 M Q X := by
  intro p l e s m args below meth c D cA base g C hr htb H locs G ls hl
  refine lv_aload_n C.x C.b dX11_operators_0 rfl (lv_at hl 0 rfl) ?_
  refine lv_iload_n C.x C.b dX11_operators_1 rfl (lv_at hl 1 rfl) ?_
  refine lv_iload_n C.x C.b dX11_operators_2 rfl (lv_at hl 2 rfl) ?_
  refine jr_VX (d' := 9) C htb G jc10 jm_X11_statementAt wd852 h rfl (show 0 < 1 by decide) (by decide) rfl rfl (by omega) (by decide) (by decide) ⟨rfl, rfl⟩ (by decide) (by decide) hl.1 (Nat.le_of_ble_eq_true rfl) dX11_operators_3 (fun r1 r1n M2 H locs h G => ?_)
  obtain ⟨hal3, h⟩ := h
  obtain ⟨nM2, h⟩ := h
  refine lv_astore (lv' := [(4, .ref (g 7 r1n)), (0, .ref (g 10 0)), (1, .int v1), (2, .int v2), (3, .int v3)]) C.x C.b dX11_operators_6 hl (by decide) rfl (fun ls hl => ?_)
  refine lv_iload_n C.x C.b dX11_operators_8 rfl (lv_at hl 4 rfl) ?_
  refine lv_if_lt (tgt := 17) C.x C.b dX11_operators_9 (by decide) (fun hc => ?_) (fun hc => ?_)
  · have h := h.1 hc
    exact jr_throw C htb G h jx_IA 18 rfl (by decide) (by decide) (by decide) (by decide) (by decide) (by decide) hl.1 dX11_operators_17 dX11_operators_20 dX11_operators_21 dX11_operators_23 dX11_operators_26
  · have h := h.2 hc
    refine lv_iload_n C.x C.b dX11_operators_12 rfl (lv_at hl 4 rfl) ?_
    refine lv_iconst (v := 2) C.x C.b dX11_operators_13 (by decide) ?_
    refine lv_icmp_le (tgt := 27) C.x C.b dX11_operators_14 (by decide) (fun hc => ?_) (fun hc => ?_)
    · have h := h.1 hc
      refine lv_aload C.x C.b dX11_operators_27 (lv_at hl 0 rfl) ?_
      refine jr_get C G jc7 0 (v := .ref (g 26 r1n)) (show r1n < 4 * jnb M2 by omega) (by decide) (by decide) rfl wd128 dX11_operators_29 ?_
      refine lv_iload_n C.x C.b dX11_operators_32 rfl (lv_at hl 4 rfl) ?_
      obtain ⟨hs, h⟩ := h
      refine jr_ald C G (show r1n < 4 * jnb M2 by omega) (by decide) (by decide) (by decide) rfl rfl hs dX11_operators_33 ?_
      exact jr_retI C hr G h (by decide) (by decide) dX11_operators_34
    · have h := h.2 hc
      exact jr_throw C htb G h jx_IA 18 rfl (by decide) (by decide) (by decide) (by decide) (by decide) (by decide) hl.1 dX11_operators_17 dX11_operators_20 dX11_operators_21 dX11_operators_23 dX11_operators_26

theorem en_X11_height {v1 : Int32} {v2 : Int32} {M : jM} {Q : Int32 → Nat → jM → Prop} {X : String → jM → Prop} (h : at_X11_height_0 v1 v2 M Q X) : ok_X11_height v1 v2 M Q X := jr_enter (by decide) (fun g => rfl) (fun g => Nat.le_of_ble_eq_true rfl) h
set_option maxHeartbeats 4000000 in
set_option maxRecDepth 100000 in
theorem bl_X11_height_0 (v1 : Int32) (v2 : Int32) (M : jM) (Q : Int32 → Nat → jM → Prop) (X : String → jM → Prop) 
  (h : ok_X11_statementAt v1 v2 M (fun _ r1n M2 => r1n < 4 * jnb M2 ∧ jnb M2 = jnb M ∧ Q (M2 7 r1n 4) 0 M2) X) :
  at_X11_height_0 v1 v2 M Q X := by
  intro p l e s m args below meth c D cA base g C hr htb H locs G ls hl
  refine lv_aload_n C.x C.b dX11_height_0 rfl (lv_at hl 0 rfl) ?_
  refine lv_iload_n C.x C.b dX11_height_1 rfl (lv_at hl 1 rfl) ?_
  refine lv_iload_n C.x C.b dX11_height_2 rfl (lv_at hl 2 rfl) ?_
  refine jr_VX (d' := 9) C htb G jc10 jm_X11_statementAt wd852 h rfl (show 0 < 1 by decide) (by decide) rfl rfl (by omega) (by decide) (by decide) ⟨rfl, rfl⟩ (by decide) (by decide) hl.1 (Nat.le_of_ble_eq_true rfl) dX11_height_3 (fun r1 r1n M2 H locs h G => ?_)
  obtain ⟨hal3, h⟩ := h
  obtain ⟨nM2, h⟩ := h
  refine jr_get C G jc7 4 (v := .int (M2 7 r1n 4)) (show r1n < 4 * jnb M2 by omega) (by decide) (by decide) rfl wd136 dX11_height_6 ?_
  exact jr_retI C hr G h (by decide) (by decide) dX11_height_9

theorem en_X11_value {v1 : Int32} {v2 : Int32} {v3 : Int32} {M : jM} {Q : Int32 → Nat → jM → Prop} {X : String → jM → Prop} (h : at_X11_value_0 v1 v2 v3 M Q X) : ok_X11_value v1 v2 v3 M Q X := jr_enter (by decide) (fun g => rfl) (fun g => Nat.le_of_ble_eq_true rfl) h
set_option maxHeartbeats 4000000 in
set_option maxRecDepth 100000 in
theorem bl_X11_value_0 (v1 : Int32) (v2 : Int32) (v3 : Int32) (M : jM) (Q : Int32 → Nat → jM → Prop) (X : String → jM → Prop) 
  (h : ok_X11_statementAt v1 v2 M (fun _ r1n M2 => r1n < 4 * jnb M2 ∧ jnb M2 = jnb M ∧ ok_X11_loopAt v1 M2 (fun _ r4n M5 => r4n < 20 ∧ jnb M5 = jnb M2 ∧ ((M5 3 r4n 1 ≤ v3 ∧ v3 ≤ M5 3 r4n 2) → ok_X4_begin 0 (M5 40 0 (2 : Int32).toNatClampNeg) M5 (fun _ _ M10 => jnb M10 = jnb M5 ∧ ok_X4_evaluate 0 ((M10 3 r4n 0).toNatClampNeg) r1n v3 M10 (fun r12 _ M13 => jnb M13 = jnb M10 ∧ Q r12 0 M13))) ∧ (¬ (M5 3 r4n 1 ≤ v3 ∧ v3 ≤ M5 3 r4n 2) → X "java/lang/IllegalArgumentException" M5)) X) X) :
  at_X11_value_0 v1 v2 v3 M Q X := by
  intro p l e s m args below meth c D cA base g C hr htb H locs G ls hl
  refine lv_aload_n C.x C.b dX11_value_0 rfl (lv_at hl 0 rfl) ?_
  refine lv_iload_n C.x C.b dX11_value_1 rfl (lv_at hl 1 rfl) ?_
  refine lv_iload_n C.x C.b dX11_value_2 rfl (lv_at hl 2 rfl) ?_
  refine jr_VX (d' := 9) C htb G jc10 jm_X11_statementAt wd852 h rfl (show 0 < 1 by decide) (by decide) rfl rfl (by omega) (by decide) (by decide) ⟨rfl, rfl⟩ (by decide) (by decide) hl.1 (Nat.le_of_ble_eq_true rfl) dX11_value_3 (fun r1 r1n M2 H locs h G => ?_)
  obtain ⟨hal3, h⟩ := h
  obtain ⟨nM2, h⟩ := h
  refine lv_astore (lv' := [(4, .ref (g 7 r1n)), (0, .ref (g 10 0)), (1, .int v1), (2, .int v2), (3, .int v3)]) C.x C.b dX11_value_6 hl (by decide) rfl (fun ls hl => ?_)
  refine lv_aload_n C.x C.b dX11_value_8 rfl (lv_at hl 1 rfl) ?_
  refine lv_iload_n C.x C.b dX11_value_9 rfl (lv_at hl 2 rfl) ?_
  refine jr_VX (d' := 9) C htb G jc10 jm_X11_loopAt wd797 h rfl (show 0 < 1 by decide) (by decide) rfl rfl (by omega) (by decide) (by decide) ⟨rfl, rfl⟩ (by decide) (by decide) hl.1 (Nat.le_of_ble_eq_true rfl) dX11_value_10 (fun r4 r4n M5 H locs h G => ?_)
  obtain ⟨hal6, h⟩ := h
  obtain ⟨nM5, h⟩ := h
  refine lv_astore (lv' := [(5, .ref (g 3 r4n)), (4, .ref (g 7 r1n)), (0, .ref (g 10 0)), (1, .int v1), (2, .int v2), (3, .int v3)]) C.x C.b dX11_value_13 hl (by decide) rfl (fun ls hl => ?_)
  refine lv_aload C.x C.b dX11_value_15 (lv_at hl 0 rfl) ?_
  refine lv_iload_n C.x C.b dX11_value_17 rfl (lv_at hl 5 rfl) ?_
  refine jr_V (d' := 9) C G jc3 jm_X3_hasIteration wd876 (sp_X3_hasIteration (show r4n < 20 by omega) ⟨rfl, rfl⟩ : ok_X3_hasIteration r4n v3 M5 (fun r _ M' => jb (M5 3 r4n 1 ≤ v3 ∧ v3 ≤ M5 3 r4n 2) = r ∧ M5 = M')) rfl (show r4n < 20 by omega) (by decide) rfl rfl (by omega) (by decide) (by decide) ⟨rfl, rfl⟩ hl.1 (Nat.le_of_ble_eq_true rfl) dX11_value_18 (fun r7 r7n M8 H locs hq G => ?_)
  obtain ⟨eq1, eq2⟩ := hq
  subst eq1
  subst eq2
  refine lv_if_ne (tgt := 34) C.x C.b dX11_value_21 (by decide) (fun hc => ?_) (fun hc => ?_)
  · have h := h.1 (jb_1 hc)
    refine lv_aload_n C.x C.b dX11_value_34 rfl (lv_at hl 2 rfl) ?_
    refine jr_get C G jc10 6 (v := .ref (g 4 0)) (show 0 < 1 by decide) (by decide) (by decide) rfl wd461 dX11_value_35 ?_
    refine lv_aload_n C.x C.b dX11_value_38 rfl (lv_at hl 2 rfl) ?_
    refine jr_get C G jc10 1 (v := .ref (g 6 0)) (show 0 < 1 by decide) (by decide) (by decide) rfl wd456 dX11_value_39 ?_
    refine jr_get C G jc6 1 (v := .ref (g 40 0)) (show 0 < 2 by decide) (by decide) (by decide) rfl wd273 dX11_value_42 ?_
    refine lv_iconst (v := 2) C.x C.b dX11_value_45 (by decide) ?_
    refine jr_ald C G (show 0 < 2 by decide) (by decide) (by decide) (by decide) rfl rfl (by unfold vp_in; decide) dX11_value_46 ?_
    refine jr_V (d' := 9) C G jc4 jm_X4_begin wd881 h rfl (show 0 < 4 by decide) (by decide) rfl rfl (by omega) (by decide) (by decide) ⟨rfl, rfl⟩ hl.1 (Nat.le_of_ble_eq_true rfl) dX11_value_47 (fun r9 r9n M10 H locs h G => ?_)
    obtain ⟨nM10, h⟩ := h
    refine lv_aload_n C.x C.b dX11_value_50 rfl (lv_at hl 2 rfl) ?_
    refine jr_get C G jc10 6 (v := .ref (g 4 0)) (show 0 < 1 by decide) (by decide) (by decide) rfl wd461 dX11_value_51 ?_
    refine lv_aload C.x C.b dX11_value_54 (lv_at hl 0 rfl) ?_
    have hb11 : (M10 3 r4n 0).toNatClampNeg < jnb M10 := G.1.2.2 _ (by omega)
    refine jr_get C G jc3 0 (v := .ref (g 0 ((M10 3 r4n 0).toNatClampNeg))) (show r4n < 20 by omega) (by decide) (by decide) rfl wd208 dX11_value_56 ?_
    refine lv_aload C.x C.b dX11_value_59 (lv_at hl 1 rfl) ?_
    refine lv_iload_n C.x C.b dX11_value_61 rfl (lv_at hl 5 rfl) ?_
    refine jr_V (d' := 9) C G jc4 jm_X4_evaluate wd885 h rfl (show 0 < 4 by decide) (by decide) rfl rfl (by omega) (by decide) (by decide) ⟨rfl, rfl⟩ hl.1 (Nat.le_of_ble_eq_true rfl) dX11_value_62 (fun r12 r12n M13 H locs h G => ?_)
    obtain ⟨nM13, h⟩ := h
    exact jr_retI C hr G h (by decide) (by decide) dX11_value_65
  · have h := h.2 (jb_0 hc)
    exact jr_throw C htb G h jx_IA 19 rfl (by decide) (by decide) (by decide) (by decide) (by decide) (by decide) hl.1 dX11_value_24 dX11_value_27 dX11_value_28 dX11_value_30 dX11_value_33

theorem en_X11_read  {M : jM} {Q : Int32 → Nat → jM → Prop} {X : String → jM → Prop} (h : at_X11_read_0  M Q X) : ok_X11_read  M Q X := jr_enterA (by decide) (fun g => rfl) (fun g => Nat.le_of_ble_eq_true rfl) h
set_option maxHeartbeats 4000000 in
set_option maxRecDepth 100000 in
theorem bl_X11_read_0  (M : jM) (Q : Int32 → Nat → jM → Prop) (X : String → jM → Prop) 
  (h : ok_X8_parse  M (fun _ _ M2 => (M2 8 0 5 = (-1) → (((M2 6 0 2) + (M2 8 0 4)) ≤ 6 → at_X11_read_60 0 M2 Q X) ∧ (¬ (((M2 6 0 2) + (M2 8 0 4)) ≤ 6) → X "java/lang/IllegalStateException" M2)) ∧ (¬ (M2 8 0 5 = (-1)) → X "java/lang/IllegalArgumentException" M2))) :
  at_X11_read_0  M Q X := by
  intro p l e s m args below meth c D cA base n0 g0 g hx hn C hr htb H locs G ls hl
  refine lv_aload_n C.x C.b dX11_read_0 rfl (lv_at hl 0 rfl) ?_
  refine jr_get C G jc10 0 (v := .ref (g 8 0)) (show 0 < 1 by decide) (by decide) (by decide) rfl wd455 dX11_read_1 ?_
  refine jr_VA (d' := 21) C G jc8 jm_X8_parse wd608 h rfl (show 0 < 1 by decide) (by decide) rfl rfl (by omega) (by first | decide | (show _ ≤ _; simp only [jRm]; omega)) (by first | decide | (show _ ≤ _; simp only [jRm]; omega)) ⟨rfl, rfl⟩ hl.1 (Nat.le_of_ble_eq_true rfl) dX11_read_4 (fun r1 r1n M2 g3 H locs hx1 hn1 h G => ?_)
  have C := C.ext hx1
  have hx := hx.tr hx1 (by omega)
  have hl : lv_has ls 2 [(0, .ref (g 10 0))] := hl
  rw [← hx1.1 10 0 (show 0 < jCntN (jnb M) 10 from (by show 0 < 1; omega))] at hl
  refine lv_aload_n C.x C.b dX11_read_7 rfl (lv_at hl 0 rfl) ?_
  refine jr_get C G jc10 0 (v := .ref (g3 8 0)) (show 0 < 1 by decide) (by decide) (by decide) rfl wd455 dX11_read_8 ?_
  refine jr_get C G jc8 5 (v := .int (M2 8 0 5)) (show 0 < 1 by decide) (by decide) (by decide) rfl wd243 dX11_read_11 ?_
  refine lv_iconst (v := (-1)) C.x C.b dX11_read_14 (by decide) ?_
  refine lv_icmp_eq (tgt := 28) C.x C.b dX11_read_15 (by decide) (fun hc => ?_) (fun hc => ?_)
  · have h := h.1 hc
    refine lv_aload_n C.x C.b dX11_read_28 rfl (lv_at hl 0 rfl) ?_
    refine jr_get C G jc10 1 (v := .ref (g3 6 0)) (show 0 < 1 by decide) (by decide) (by decide) rfl wd456 dX11_read_29 ?_
    refine jr_get C G jc6 2 (v := .int (M2 6 0 2)) (show 0 < 2 by decide) (by decide) (by decide) rfl wd277 dX11_read_32 ?_
    refine lv_aload_n C.x C.b dX11_read_35 rfl (lv_at hl 0 rfl) ?_
    refine jr_get C G jc10 0 (v := .ref (g3 8 0)) (show 0 < 1 by decide) (by decide) (by decide) rfl wd455 dX11_read_36 ?_
    refine jr_get C G jc8 4 (v := .int (M2 8 0 4)) (show 0 < 1 by decide) (by decide) (by decide) rfl wd241 dX11_read_39 ?_
    refine lv_iadd C.x C.b dX11_read_42 ?_
    refine lv_bipush (v := 6) C.x C.b dX11_read_43 (by decide) ?_
    refine lv_icmp_le (tgt := 58) C.x C.b dX11_read_45 (by decide) (fun hc => ?_) (fun hc => ?_)
    · have h := h.1 hc
      refine lv_iconst (v := 0) C.x C.b dX11_read_58 (by decide) ?_
      refine lv_istore_n (lv' := [(1, .int 0), (0, .ref (g3 10 0))]) C.x C.b dX11_read_59 rfl hl (by decide) rfl (fun ls hl => ?_)
      refine W.widen (by first | decide | omega) (by first | decide | omega) (h p l e s m args below meth c D cA base n0 g0 g3 hx (by omega) C hr htb _ _ G ls (lv_sub hl [1, 0] rfl))
    · have h := h.2 hc
      exact jr_throwA C htb G hx (by omega) h jx_IS 11 rfl (by decide) (by decide) (by decide) (by decide) (by decide) (by decide) hl.1 dX11_read_48 dX11_read_51 dX11_read_52 dX11_read_54 dX11_read_57
  · have h := h.2 hc
    exact jr_throwA C htb G hx (by omega) h jx_IA 10 rfl (by decide) (by decide) (by decide) (by decide) (by decide) (by decide) hl.1 dX11_read_18 dX11_read_21 dX11_read_22 dX11_read_24 dX11_read_27
set_option maxHeartbeats 4000000 in
set_option maxRecDepth 100000 in
theorem bl_X11_read_60 (v1 : Int32) (M : jM) (Q : Int32 → Nat → jM → Prop) (X : String → jM → Prop) 
  (h : ((M 8 0 4) ≤ v1 → Q (M 8 0 4) 0 M) ∧ (¬ ((M 8 0 4) ≤ v1) → (8 ≤ v1 → Q (M 8 0 4) 0 M) ∧ (¬ (8 ≤ v1) → vp_in v1 8 ∧ ok_X6_add 0 (12 + v1.toNatClampNeg) M (fun _ _ M3 => jnb M3 = jnb M ∧ at_X11_read_60 (v1 + 1) M3 Q X)))) :
  at_X11_read_60 v1 M Q X := by
  intro p l e s m args below meth c D cA base n0 g0 g hx hn C hr htb H locs G ls hl
  refine lv_iload_n C.x C.b dX11_read_60 rfl (lv_at hl 1 rfl) ?_
  refine lv_aload_n C.x C.b dX11_read_61 rfl (lv_at hl 0 rfl) ?_
  refine jr_get C G jc10 0 (v := .ref (g 8 0)) (show 0 < 1 by decide) (by decide) (by decide) rfl wd455 dX11_read_62 ?_
  refine jr_get C G jc8 4 (v := .int (M 8 0 4)) (show 0 < 1 by decide) (by decide) (by decide) rfl wd241 dX11_read_65 ?_
  refine lv_icmp_ge (tgt := 99) C.x C.b dX11_read_68 (by decide) (fun hc => ?_) (fun hc => ?_)
  · have h := h.1 hc
    refine lv_aload_n C.x C.b dX11_read_99 rfl (lv_at hl 0 rfl) ?_
    refine jr_get C G jc10 0 (v := .ref (g 8 0)) (show 0 < 1 by decide) (by decide) (by decide) rfl wd455 dX11_read_100 ?_
    refine jr_get C G jc8 4 (v := .int (M 8 0 4)) (show 0 < 1 by decide) (by decide) (by decide) rfl wd241 dX11_read_103 ?_
    exact jr_retIA C hr G hx (by omega) h (by decide) (by decide) dX11_read_106
  · have h := h.2 hc
    refine lv_iload_n C.x C.b dX11_read_71 rfl (lv_at hl 1 rfl) ?_
    refine lv_bipush (v := 8) C.x C.b dX11_read_72 (by decide) ?_
    refine lv_icmp_ge (tgt := 99) C.x C.b dX11_read_74 (by decide) (fun hc => ?_) (fun hc => ?_)
    · have h := h.1 hc
      refine lv_aload_n C.x C.b dX11_read_99 rfl (lv_at hl 0 rfl) ?_
      refine jr_get C G jc10 0 (v := .ref (g 8 0)) (show 0 < 1 by decide) (by decide) (by decide) rfl wd455 dX11_read_100 ?_
      refine jr_get C G jc8 4 (v := .int (M 8 0 4)) (show 0 < 1 by decide) (by decide) (by decide) rfl wd241 dX11_read_103 ?_
      exact jr_retIA C hr G hx (by omega) h (by decide) (by decide) dX11_read_106
    · have h := h.2 hc
      refine lv_aload_n C.x C.b dX11_read_77 rfl (lv_at hl 0 rfl) ?_
      refine jr_get C G jc10 1 (v := .ref (g 6 0)) (show 0 < 1 by decide) (by decide) (by decide) rfl wd456 dX11_read_78 ?_
      refine lv_aload_n C.x C.b dX11_read_81 rfl (lv_at hl 0 rfl) ?_
      refine jr_get C G jc10 0 (v := .ref (g 8 0)) (show 0 < 1 by decide) (by decide) (by decide) rfl wd455 dX11_read_82 ?_
      refine jr_get C G jc8 1 (v := .ref (g 42 0)) (show 0 < 1 by decide) (by decide) (by decide) rfl wd236 dX11_read_85 ?_
      refine lv_iload_n C.x C.b dX11_read_88 rfl (lv_at hl 1 rfl) ?_
      obtain ⟨hs, h⟩ := h
      have hj1 := vp_lt hs
      refine jr_aald C G (R := 42) (R' := 3) (i' := 12 + v1.toNatClampNeg) (show 0 < 1 by decide) (by decide) (by decide) (by decide) rfl rfl hs rfl dX11_read_89 ?_
      refine jr_V (d' := 21) C G jc6 jm_X6_add wd749 h rfl (show 0 < 2 by decide) (by decide) rfl rfl (by omega) (by decide) (by decide) ⟨rfl, rfl⟩ hl.1 (Nat.le_of_ble_eq_true rfl) dX11_read_90 (fun r2 r2n M3 H locs h G => ?_)
      obtain ⟨nM3, h⟩ := h
      refine lv_iinc (v := v1 + 1) (lv' := [(1, .int (v1 + 1)), (0, .ref (g 10 0))]) C.x C.b dX11_read_93 hl (k := 1) rfl rfl (by decide) rfl (fun ls hl => ?_)
      refine lv_goto (tgt := 60) C.x C.b dX11_read_96 (by decide) ?_
      refine W.widen (by first | decide | omega) (by first | decide | omega) (h p l e s m args below meth c D cA base n0 g0 g hx (by omega) C hr htb _ _ G ls (lv_sub hl [1, 0] rfl))

