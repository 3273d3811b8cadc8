section JR7
variable {p : Program} {l : Launch} {e : Env} {R0 : Room} {s : State} {m : MethodId} {args : Array Value} {below : List Frame} {meth : Method} {c : Code} {H : Heap} {locs : List Loc} {cells slots : Nat} {Qf : State → Prop}
variable {own : String} {cc : ByteArray} {nL base : Nat} {D : va_G} {cA : Nat → ClassId} {g : Nat → Nat → Nat} {M : jM} {pc : Nat} {ls : Array Slot} {rest st0 : List Value}
variable {rk mc ms : Nat} {Q' : Int32 → Nat → jM → Prop}
variable {y : MethodName} {ycc : ByteArray} {yL d d' : Nat} {rt : Option FieldType} {av : (Nat → Nat → Nat) → List Value} {index n : Nat} {As : List Value}
/-- a method of a String constant is called -/
theorem jr_VT (C : jCx p l s m args meth c own cc nL D cA base g) (G : jG base D cA g M s H locs) {k : Nat} (hk : k < 32) (mw : jMV "java/lang/String" y ycc yL rt n) (w1 : Cond.methodLink own index y ∈ WT)
    (h : jOk y ycc yL rt rk d mc ms av M Q' jF) (hav : av g = .ref (g 70 k) :: As) (hn : As.length = n) (hst : st0 = As.reverse ++ .ref (g 70 k) :: rest) (hd1 : d + 1 ≤ d') (hc : cells + mc ≤ R0.cells) (hs : slots + ms ≤ R0.slots) (hR0 : R0.frames = d' ∧ R0.locals = 50 * d')
    (hsz : ls.size = nL) (hrest : (rest.map fun v => v.category).sum ≤ 8) (dc : decode cc pc = .ok (.invokevirtual index, 3))
    (kk : ∀ (r : Int32) (n : Nat) (M1 : jM) (H : Heap) (locs : List Loc), Q' r n M1 → jG base D cA g M1 s H locs → W p l e R0 s m args below meth c H locs (cells + mc) (slots + ms) Qf (F0 m (pc + 3) ls ((jRv rk g r n).toList ++ rest))) : W p l e R0 s m args below meth c H locs cells slots Qf (F0 m pc ls st0) := by
  subst hst
  have hM := h l C.fl D cA base g
  rw [hav] at hM
  have hcw := cwV (R := R0) (rm := jRm d mc ms) n C.w (wt_V w1 mw.1 mw.2.1 mw.2.2.1 mw.2.2.2.1) rfl rfl rfl mw.2.2.2.2.1 ⟨by rw [hR0.1]; exact hd1, by rw [hR0.2]; show 8 + (yL + 11) + 50 * d ≤ _; have := mw.2.2.2.2.2; omega⟩
  have hrecv := vk_recv C.st.2.2.2.2.2.1 hk G.2
  exact jr_call G C.bs (vx_runV ⟨C.x, C.b, C.ml, C.ow, C.w⟩ hM hcw ⟨jIn.blind, hrecv, fun U hU hW => jr_pre C G U hU hW⟩ rfl hn hsz rfl (jr_room hrest rfl) dc ⟨hc, hs⟩) (fun _ _ _ _ _ _ hx => hx.elim) kk
end JR7
theorem sp_coder {k : Nat} {M : jM} {Q : Int32 → Nat → jM → Prop} (hk : k < 32) (h : Q 0 0 M) : jOk yJ0_coder_7d493 cJ0_coder_7d493 1 (some .byte) 1 0 0 0 (fun g => [.ref (g 70 k)]) M Q jF := by
  refine jr_enter (lv := fun g => [(0, .ref (g 70 k))]) (by decide) (fun g => rfl) (fun g => Nat.le_of_ble_eq_true rfl) ?_
  intro p l e s m args below meth c D cA base g C hr htb H locs G ls hl
  refine va_gets C.x C.b C.st.2.2.2.2.2.2.1 G.2 C.ow (C.w _ wd629) (fun _ h => h) dJ0_coder_7d493_0 ?_
  refine lv_if_eq (tgt := 13) C.x C.b dJ0_coder_7d493_3 (by decide) (fun hc => absurd hc (by decide)) (fun _ => ?_)
  refine lv_aload_n C.x C.b dJ0_coder_7d493_6 rfl (lv_at hl 0 rfl) ?_
  refine vk_getf C.x C.b (C.st.2.2.2.2.2.1.1 k hk).2.1 G.2 C.ow (C.w _ wd1637) (fun _ h => h) dJ0_coder_7d493_7 ?_
  refine lv_goto (tgt := 14) C.x C.b dJ0_coder_7d493_10 (by decide) ?_
  exact jr_retZ C hr G rfl h (by decide) (by decide) dJ0_coder_7d493_14
theorem sp_isLatin1 {k : Nat} {M : jM} {Q : Int32 → Nat → jM → Prop} (hk : k < 32) (h : Q 1 0 M) : jOk yJ0_isLatin1_aae02 cJ0_isLatin1_aae02 1 (some .boolean) 1 0 0 0 (fun g => [.ref (g 70 k)]) M Q jF := by
  refine jr_enter (lv := fun g => [(0, .ref (g 70 k))]) (by decide) (fun g => rfl) (fun g => Nat.le_of_ble_eq_true rfl) ?_
  intro p l e s m args below meth c D cA base g C hr htb H locs G ls hl
  refine va_gets C.x C.b C.st.2.2.2.2.2.2.1 G.2 C.ow (C.w _ wd629) (fun _ h => h) dJ0_isLatin1_aae02_0 ?_
  refine lv_if_eq (tgt := 17) C.x C.b dJ0_isLatin1_aae02_3 (by decide) (fun hc => absurd hc (by decide)) (fun _ => ?_)
  refine lv_aload_n C.x C.b dJ0_isLatin1_aae02_6 rfl (lv_at hl 0 rfl) ?_
  refine vk_getf C.x C.b (C.st.2.2.2.2.2.1.1 k hk).2.1 G.2 C.ow (C.w _ wd1637) (fun _ h => h) dJ0_isLatin1_aae02_7 ?_
  refine lv_if_ne (tgt := 17) C.x C.b dJ0_isLatin1_aae02_10 (by decide) (fun hc => absurd rfl hc) (fun _ => ?_)
  refine lv_iconst (v := 1) C.x C.b dJ0_isLatin1_aae02_13 (by decide) ?_
  refine lv_goto (tgt := 18) C.x C.b dJ0_isLatin1_aae02_14 (by decide) ?_
  exact jr_retZ C hr G rfl h (by decide) (by decide) dJ0_isLatin1_aae02_18
/-- String.length() of a constant -/
theorem sp_slen {k : Nat} {M : jM} {Q : Int32 → Nat → jM → Prop} (hk : k < 32) (h : Q (nI (jSlen.getD k 0)) 0 M) : jOk yJ0_length_8abf5 cJ0_length_8abf5 1 (some .int) 1 1 0 0 (fun g => [.ref (g 70 k)]) M Q jF := by
  refine jr_enter (lv := fun g => [(0, .ref (g 70 k))]) (by decide) (fun g => rfl) (fun g => Nat.le_of_ble_eq_true rfl) ?_
  intro p l e s m args below meth c D cA base g C hr htb H locs G ls hl
  refine lv_aload_n C.x C.b dJ0_length_8abf5_0 rfl (lv_at hl 0 rfl) ?_
  refine vk_getf C.x C.b (C.st.2.2.2.2.2.1.1 k hk).2.2.1 G.2 C.ow (C.w _ wd1636) (fun _ h => h) dJ0_length_8abf5_1 ?_
  refine va_tlen C.x C.b (C.st.2.2.2.2.2.1.1 k hk).2.2.2 G.2 (v := nI (jSlen.getD k 0)) rfl dJ0_length_8abf5_4 ?_
  refine lv_aload_n C.x C.b dJ0_length_8abf5_5 rfl (lv_at hl 0 rfl) ?_
  refine jr_VT (d' := 1) C G hk jm_J0_coder_7d493 wd625 (sp_coder hk ⟨rfl, rfl⟩ : jOk yJ0_coder_7d493 cJ0_coder_7d493 1 (some .byte) 1 0 0 0 (fun g => [.ref (g 70 k)]) M (fun r _ M' => 0 = r ∧ M = M') jF) rfl rfl rfl (by omega) (by decide) (by decide) ⟨rfl, rfl⟩ hl.1 (Nat.le_of_ble_eq_true rfl) dJ0_length_8abf5_6 (fun r rn M1 H locs hq G => ?_)
  obtain ⟨e1, e2⟩ := hq
  subst e1; subst e2
  refine lv_ishr C.x C.b dJ0_length_8abf5_9 ?_
  refine jr_retI C hr G ?_ (by decide) (by decide) dJ0_length_8abf5_10
  rw [sb_shr0]
  exact h
theorem sp_pcheck {i n : Int32} {v : Value} {M : jM} {Q : Int32 → Nat → jM → Prop} (hv : v = .null ∨ ∃ t, v = .ref t) (h0 : ¬ i < 0) (h1 : i < n) (h : Q i 0 M) : jOk yJ3_checkIndex_8e157 cJ3_checkIndex_8e157 3 (some .int) 1 0 0 0 (fun _ => [.int i, .int n, v]) M Q jF := by
  refine jr_enter (lv := fun _ => [(0, .int i), (1, .int n), (2, v)]) (by decide) (fun g => rfl) (fun g => by rcases hv with rfl | ⟨t, rfl⟩ <;> exact Nat.le_of_ble_eq_true rfl) ?_
  intro p l e s m args below meth c D cA base g C hr htb H locs G ls hl
  refine lv_iload_n C.x C.b dJ3_checkIndex_8e157_0 rfl (lv_at hl 0 rfl) ?_
  refine lv_if_lt (tgt := 9) C.x C.b dJ3_checkIndex_8e157_1 (by decide) (fun hc => absurd hc h0) (fun _ => ?_)
  refine lv_iload_n C.x C.b dJ3_checkIndex_8e157_4 rfl (lv_at hl 0 rfl) ?_
  refine lv_iload_n C.x C.b dJ3_checkIndex_8e157_5 rfl (lv_at hl 1 rfl) ?_
  refine lv_icmp_lt (tgt := 16) C.x C.b dJ3_checkIndex_8e157_6 (by decide) (fun _ => ?_) (fun hc => absurd h1 hc)
  refine lv_iload_n C.x C.b dJ3_checkIndex_8e157_16 rfl (lv_at hl 0 rfl) ?_
  exact jr_retI C hr G h (by decide) (by decide) dJ3_checkIndex_8e157_17
theorem sp_scheck {i n : Int32} {M : jM} {Q : Int32 → Nat → jM → Prop} (h0 : ¬ i < 0) (h1 : i < n) (h : Q 0 0 M) : jOk yJ0_checkIndex_df160 cJ0_checkIndex_df160 2 none 0 1 0 0 (fun _ => [.int i, .int n]) M Q jF := by
  refine jr_enter (lv := fun _ => [(0, .int i), (1, .int n)]) (by decide) (fun g => rfl) (fun g => Nat.le_of_ble_eq_true rfl) ?_
  intro p l e s m args below meth c D cA base g C hr htb H locs G ls hl
  refine lv_iload_n C.x C.b dJ0_checkIndex_df160_0 rfl (lv_at hl 0 rfl) ?_
  refine lv_iload_n C.x C.b dJ0_checkIndex_df160_1 rfl (lv_at hl 1 rfl) ?_
  have key : ∀ v : Value, (v = .null ∨ ∃ t, v = .ref t) → va_Z "jdk/internal/util/Preconditions" "SIOOBE_FORMATTER" "Ljava/util/function/BiFunction;" v (jA base) s s.heap → W p l e (jRm 1 0 0) s m args below meth c H locs 0 0 (vx_MQ below (jQ 0 Q base D cA g) (jXC jF base D cA g) args s 0 0 (jA base)) (F0 m 2 ls [.int n, .int i]) := by
    intro v hv hZ
    refine va_gets C.x C.b hZ G.2 C.ow (C.w _ wd649) (fun _ h => h) dJ0_checkIndex_df160_2 ?_
    refine jr_S (d' := 1) C G jm_J3_checkIndex_8e157 wd651 (sp_pcheck hv h0 h1 ⟨rfl, rfl⟩ : jOk yJ3_checkIndex_8e157 cJ3_checkIndex_8e157 3 (some .int) 1 0 0 0 (fun _ => [.int i, .int n, v]) M (fun r _ M' => i = r ∧ M = M') jF) rfl rfl rfl (by omega) (by decide) (by decide) ⟨rfl, rfl⟩ hl.1 (Nat.le_of_ble_eq_true rfl) dJ0_checkIndex_df160_5 (fun r rn M1 H locs hq G => ?_)
    obtain ⟨e1, e2⟩ := hq
    subst e1; subst e2
    refine lv_pop C.x C.b dJ0_checkIndex_df160_8 rfl ?_
    exact jr_retV C hr G h (by decide) (by decide) dJ0_checkIndex_df160_9
  rcases C.st.2.2.2.2.2.2.2.1 with hZ | ⟨t, hZ⟩
  · exact key _ (Or.inl rfl) hZ
  · exact key _ (Or.inr ⟨t, rfl⟩) hZ
/-- the char of a String constant at a place -/
def jsch (k : Nat) (i : Int32) : Int32 := ((((jSbyt.getD k []).getD i.toNatClampNeg 0) &&& 255).toUInt32 % 65536).toInt32
theorem jsch_ch (k : Nat) (i : Int32) : narrow .char (.int (jsch k i)) = .int (jsch k i) := pk_nc _
theorem sp_lchar {k : Nat} {i : Int32} {M : jM} {Q : Int32 → Nat → jM → Prop} (hk : k < 32) (hi : vp_in i (jSlen.getD k 0)) (hlen : jSlen.getD k 0 < 2 ^ 31) (h : Q (jsch k i) 0 M) : jOk yJ1_charAt_3b067 cJ1_charAt_3b067 2 (some .char) 1 2 0 0 (fun g => [.ref (g 71 k), .int i]) M Q jF := by
  refine jr_enter (lv := fun g => [(0, .ref (g 71 k)), (1, .int i)]) (by decide) (fun g => rfl) (fun g => Nat.le_of_ble_eq_true rfl) ?_
  intro p l e s m args below meth c D cA base g C hr htb H locs G ls hl
  have hlt : i < nI (jSlen.getD k 0) := by
    rw [vp_in_iff] at hi
    rw [Int32.lt_iff_toInt_lt, nI_toInt hlen]
    exact hi.2
  refine lv_iload_n C.x C.b dJ1_charAt_3b067_0 rfl (lv_at hl 1 rfl) ?_
  refine lv_aload_n C.x C.b dJ1_charAt_3b067_1 rfl (lv_at hl 0 rfl) ?_
  refine va_tlen C.x C.b (C.st.2.2.2.2.2.1.1 k hk).2.2.2 G.2 (v := nI (jSlen.getD k 0)) rfl dJ1_charAt_3b067_2 ?_
  refine jr_S (d' := 2) C G jm_J0_checkIndex_df160 wd646 (sp_scheck (fun q => hi (Or.inl q)) hlt rfl : jOk yJ0_checkIndex_df160 cJ0_checkIndex_df160 2 none 0 1 0 0 (fun _ => [.int i, .int (nI (jSlen.getD k 0))]) M (fun _ _ M' => M = M') jF) rfl rfl rfl (by omega) (by decide) (by decide) ⟨rfl, rfl⟩ hl.1 (Nat.le_of_ble_eq_true rfl) dJ1_charAt_3b067_3 (fun r rn M1 H locs hq G => ?_)
  subst hq
  refine lv_aload_n C.x C.b dJ1_charAt_3b067_6 rfl (lv_at hl 0 rfl) ?_
  refine lv_iload_n C.x C.b dJ1_charAt_3b067_7 rfl (lv_at hl 1 rfl) ?_
  refine va_tb C.x C.b (C.st.2.2.2.2.2.1.1 k hk).2.2.2 G.2 hi rfl dJ1_charAt_3b067_8 ?_
  refine lv_sipush (v := 255) C.x C.b dJ1_charAt_3b067_9 (by decide) ?_
  refine lv_iand C.x C.b dJ1_charAt_3b067_12 ?_
  refine lv_i2c (v := jsch k i) C.x C.b dJ1_charAt_3b067_13 rfl ?_
  exact jr_retZ C hr G (jsch_ch k i) h (by decide) (by decide) dJ1_charAt_3b067_14
/-- String.charAt(i) of a constant -/
theorem sp_schar {k : Nat} {i : Int32} {M : jM} {Q : Int32 → Nat → jM → Prop} (hk : k < 32) (hi : vp_in i (jSlen.getD k 0)) (hlen : jSlen.getD k 0 < 2 ^ 31) (h : Q (jsch k i) 0 M) : jOk yJ0_charAt_5068e cJ0_charAt_5068e 2 (some .char) 1 3 0 0 (fun g => [.ref (g 70 k), .int i]) M Q jF := by
  refine jr_enter (lv := fun g => [(0, .ref (g 70 k)), (1, .int i)]) (by decide) (fun g => rfl) (fun g => Nat.le_of_ble_eq_true rfl) ?_
  intro p l e s m args below meth c D cA base g C hr htb H locs G ls hl
  refine lv_aload_n C.x C.b dJ0_charAt_5068e_0 rfl (lv_at hl 0 rfl) ?_
  refine jr_VT (d' := 3) C G hk jm_J0_isLatin1_aae02 wd639 (sp_isLatin1 hk ⟨rfl, rfl⟩ : jOk yJ0_isLatin1_aae02 cJ0_isLatin1_aae02 1 (some .boolean) 1 0 0 0 (fun g => [.ref (g 70 k)]) M (fun r _ M' => 1 = r ∧ M = M') jF) rfl rfl rfl (by omega) (by decide) (by decide) ⟨rfl, rfl⟩ hl.1 (Nat.le_of_ble_eq_true rfl) dJ0_charAt_5068e_1 (fun r rn M1 H locs hq G => ?_)
  obtain ⟨e1, e2⟩ := hq
  subst e1; subst e2
  refine lv_if_eq (tgt := 16) C.x C.b dJ0_charAt_5068e_4 (by decide) (fun hc => absurd hc (by decide)) (fun _ => ?_)
  refine lv_aload_n C.x C.b dJ0_charAt_5068e_7 rfl (lv_at hl 0 rfl) ?_
  refine vk_getf C.x C.b (C.st.2.2.2.2.2.1.1 k hk).2.2.1 G.2 C.ow (C.w _ wd1636) (fun _ h => h) dJ0_charAt_5068e_8 ?_
  refine lv_iload_n C.x C.b dJ0_charAt_5068e_11 rfl (lv_at hl 1 rfl) ?_
  refine jr_S (d' := 3) C G jm_J1_charAt_3b067 wd643 (sp_lchar hk hi hlen ⟨rfl, rfl⟩ : jOk yJ1_charAt_3b067 cJ1_charAt_3b067 2 (some .char) 1 2 0 0 (fun g => [.ref (g 71 k), .int i]) M (fun r _ M' => jsch k i = r ∧ M = M') jF) rfl rfl rfl (by omega) (by decide) (by decide) ⟨rfl, rfl⟩ hl.1 (Nat.le_of_ble_eq_true rfl) dJ0_charAt_5068e_12 (fun r rn M1 H locs hq G => ?_)
  obtain ⟨e1, e2⟩ := hq
  subst e1; subst e2
  exact jr_retZ C hr G (jsch_ch k i) h (by decide) (by decide) dJ0_charAt_5068e_15
