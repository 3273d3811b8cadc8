/-! ===== throws ===== -/
abbrev jNm : List String := ["java/lang/RuntimeException", "java/lang/Exception"]
/-- what a throw of the class asks of the tables -/
def jTh (cls : String) (ik ic : Nat) : Prop := (∀ w ∈ vx_atS RX11 ic cls jNm, w ∈ lw_tbl) ∧ (∀ w ∈ vx_atS RX11 ic cls jNm, (goodWord w || jCD w) = true) ∧ (∀ w ∈ Cond.classLink RX11 ik cls :: Cond.initialized cls :: vx_atS RX11 ic cls jNm, vx_ot w = true) ∧ Cond.classLink RX11 ik cls ∈ WT ∧ Cond.initialized cls ∈ WT ∧ Bundle.fit cls = true
theorem jNm_fit : ∀ n ∈ jNm, Bundle.fit n = true := by decide +kernel
section JR5
variable {p : Program} {l : Launch} {e : Env} {R0 : Room} {s : State} {m : MethodId} {args : Array Value} {below : List Frame} {meth : Method} {c : Code} {H : Heap} {locs : List Loc} {cells slots : Nat} {Qf : State → Prop}
variable {cc : ByteArray} {nL base : Nat} {D : va_G} {cA : Nat → ClassId} {g : Nat → Nat → Nat} {M : jM} {pc : Nat} {ls : Array Slot}
variable {Q : Int32 → Nat → jM → Prop} {X : String → jM → Prop} {rk mc0 ms0 : Nat}
theorem jTh.at {cls : String} {ik ic : Nat} (T : jTh cls ik ic) (C : jCx p l s m args meth c RX11 cc nL D cA base g) : ∀ w ∈ vx_atS RX11 ic cls jNm, w.before args s = true := by
  intro w hw
  have h1 := T.1 w hw
  have h2 := T.2.1 w hw
  rcases Bool.or_eq_true _ _ ▸ h2 with h | h
  · exact C.w w (List.mem_filter.mpr ⟨h1, h⟩)
  · exact jCD_use h (C.st.2.2.1 w h1 h)
theorem jr_thx (C : jCx p l s m args meth c RX11 cc nL D cA base g) (G : jG base D cA g M s H locs) {cls : String} (h : X cls M) (t : State) (h1 : H.size ≤ t.heap.size) (h2 : ∀ q : Nat, q < H.size → t.heap[q]? = H[q]?) : jXC X base D cA g cls s t :=
  ⟨⟨M, h, G.1.kept h2⟩, Nat.le_trans G.2.1 h1, fun q hq hA => (h2 q (Nat.lt_of_lt_of_le hq G.2.1)).trans (G.2.2.1 q hq hA)⟩
/-- throw new E("text") in a method that may make bodies -/
theorem jr_thxA (G : jG base D cA g M s H locs) {n0 : Nat} {g0 : Nat → Nat → Nat} (hx : jX n0 g0 g) (hn : n0 ≤ jnb M) {cls : String} (h : X cls M) (t : State) (h1 : H.size ≤ t.heap.size) (h2 : ∀ q : Nat, q < H.size → t.heap[q]? = H[q]?) : jXA X base D cA n0 g0 cls s t :=
  ⟨⟨M, g, h, hx, hn, G.1.kept h2⟩, Nat.le_trans G.2.1 h1, fun q hq hA => (h2 q (Nat.lt_of_lt_of_le hq G.2.1)).trans (G.2.2.1 q hq hA)⟩
theorem jr_throwA (C : jCx p l s m args meth c RX11 cc nL D cA base g) (htb : ∀ x ∈ c.exceptionTable.toList, False) (G : jG base D cA g M s H locs) {n0 : Nat} {g0 : Nat → Nat → Nat} (hx : jX n0 g0 g) (hn : n0 ≤ jnb M) {cls text : String} {ik ic is : Nat} (h : X cls M) (T : jTh cls ik ic) (k : Nat) (hk : jStrs[k]? = some (RX11, is, text))
    (hf : 5 < R0.frames) (hlo : 82 ≤ R0.locals) (hc : cells + 1 ≤ R0.cells) (hs : slots + 6 ≤ R0.slots) (hc0 : cells + 1 ≤ mc0) (hs0 : slots + 6 ≤ ms0) (hsz : ls.size = nL)
    (d0 : decode cc pc = .ok (.new ik, 3)) (d3 : decode cc (pc + 3) = .ok (.dup, 1)) (d4 : decode cc (pc + 4) = .ok (.ldc is, 2)) (d6 : decode cc (pc + 6) = .ok (.invokespecial ic, 3)) (d9 : decode cc (pc + 9) = .ok (.athrow, 1)) :
    W p l e R0 s m args below meth c H locs cells slots (vx_MQ below (jQA rk Q base D cA n0 g0) (jXA X base D cA n0 g0) args s mc0 ms0 (jA base)) (F0 m pc ls []) :=
  vx_throwS C.x C.b (jFlags C.fl) C.ow T.2.2.2.2.2 jNm_fit (C.w _ T.2.2.2.1) (C.w _ T.2.2.2.2.1) (C.st.2.2.2.2.1 k _ hk) (T.at C) T.2.2.1 C.st.1 C.st.2.1 G.2 (hsz.trans C.ml.symm) d0 d3 d4 d6 d9 (fun x hx => (htb x hx).elim) hf hlo hc hs C.lk (fun t _ h1 h2 => jr_thxA G hx hn h t h1 h2) G.2.2.2 hc0 hs0
/-- throw new E("text") -/
theorem jr_throw (C : jCx p l s m args meth c RX11 cc nL D cA base g) (htb : ∀ x ∈ c.exceptionTable.toList, False) (G : jG base D cA g M s H locs) {cls text : String} {ik ic is : Nat} (h : X cls M) (T : jTh cls ik ic) (k : Nat) (hk : jStrs[k]? = some (RX11, is, text))
    (hf : 5 < R0.frames) (hlo : 82 ≤ R0.locals) (hc : cells + 1 ≤ R0.cells) (hs : slots + 6 ≤ R0.slots) (hc0 : cells + 1 ≤ mc0) (hs0 : slots + 6 ≤ ms0) (hsz : ls.size = nL)
    (d0 : decode cc pc = .ok (.new ik, 3)) (d3 : decode cc (pc + 3) = .ok (.dup, 1)) (d4 : decode cc (pc + 4) = .ok (.ldc is, 2)) (d6 : decode cc (pc + 6) = .ok (.invokespecial ic, 3)) (d9 : decode cc (pc + 9) = .ok (.athrow, 1)) :
    W p l e R0 s m args below meth c H locs cells slots (vx_MQ below (jQ rk Q base D cA g) (jXC X base D cA g) args s mc0 ms0 (jA base)) (F0 m pc ls []) :=
  vx_throwS C.x C.b (jFlags C.fl) C.ow T.2.2.2.2.2 jNm_fit (C.w _ T.2.2.2.1) (C.w _ T.2.2.2.2.1) (C.st.2.2.2.2.1 k _ hk) (T.at C) T.2.2.1 C.st.1 C.st.2.1 G.2 (hsz.trans C.ml.symm) d0 d3 d4 d6 d9 (fun x hx => (htb x hx).elim) hf hlo hc hs C.lk (fun t _ h1 h2 => jr_thx C G h t h1 h2) G.2.2.2 hc0 hs0
theorem jr_throwW (C : jCx p l s m args meth c RX11 cc nL D cA base g) (htb : ∀ x ∈ c.exceptionTable.toList, False) (G : jG base D cA g M s H locs) {cls text : String} {ik ic is : Nat} (h : X cls M) (T : jTh cls ik ic) (k : Nat) (hk : jStrs[k]? = some (RX11, is, text))
    (hf : 5 < R0.frames) (hlo : 82 ≤ R0.locals) (hc : cells + 1 ≤ R0.cells) (hs : slots + 6 ≤ R0.slots) (hc0 : cells + 1 ≤ mc0) (hs0 : slots + 6 ≤ ms0) (hsz : ls.size = nL)
    (d0 : decode cc pc = .ok (.new ik, 3)) (d3 : decode cc (pc + 3) = .ok (.dup, 1)) (d4 : decode cc (pc + 4) = .ok (.ldc_w is, 3)) (d7 : decode cc (pc + 7) = .ok (.invokespecial ic, 3)) (d10 : decode cc (pc + 10) = .ok (.athrow, 1)) :
    W p l e R0 s m args below meth c H locs cells slots (vx_MQ below (jQ rk Q base D cA g) (jXC X base D cA g) args s mc0 ms0 (jA base)) (F0 m pc ls []) :=
  vx_throwSW C.x C.b (jFlags C.fl) C.ow T.2.2.2.2.2 jNm_fit (C.w _ T.2.2.2.1) (C.w _ T.2.2.2.2.1) (C.st.2.2.2.2.1 k _ hk) (T.at C) T.2.2.1 C.st.1 C.st.2.1 G.2 (hsz.trans C.ml.symm) d0 d3 d4 d7 d10 (fun x hx => (htb x hx).elim) hf hlo hc hs C.lk (fun t _ h1 h2 => jr_thx C G h t h1 h2) G.2.2.2 hc0 hs0
end JR5
/-! ===== a call through the interface ===== -/
theorem jMet_of {l : Launch} {y : MethodName} {ws : List Cond} {rm : Room} {Pc : Array Value → State → Prop} {Qc : Array Value → State → Outcome → State → Prop} {mc ms : Nat} {free : Addr → Prop} {base : Nat} {D : va_G} {cA : Nat → ClassId} {g : Nat → Nat → Nat}
    (h : vx_Met l y ws rm Pc Qc (jXC jF base D cA g) mc ms free) : Met l y ws rm Pc Qc mc ms free := by
  intro p e ha hc hk s m args below h1 h2 h3 h4
  obtain ⟨n, o, q1, q2, q3, q4⟩ := h p e ha hc hk s m args below h1 h2 h3 h4
  refine ⟨n, o, q1, q2, q3, ?_⟩
  rcases q4 with q4 | ⟨q, -, E, ce, L, ⟨⟨M, hx, -⟩, -⟩, -⟩
  · exact q4
  · exact hx.elim
def jMI (Cn : String) (y : MethodName) (ycc : ByteArray) (yL : Nat) : Prop :=
  Cond.instanceMethod y ∈ WT ∧ Cond.selects Cn jWk y ∈ WT ∧ Cond.initialized y.cls ∈ WT ∧ Cond.code y ycc yL none ∈ WT ∧ yL ≤ 31
theorem wt_F {own C : String} {idx : Nat} {x y : MethodName} {k : Cond} (h1 : Cond.methodLink own idx x ∈ WT) (h2 : Cond.instanceMethod y ∈ WT) (h3 : Cond.selects C x y ∈ WT) (h4 : Cond.initialized y.cls ∈ WT) (h5 : k ∈ WT) : GoodIn WT (va_wsF own idx C x y (k :: WT)) := wt_in (fun w hw => by
  unfold va_wsF at hw
  rcases List.mem_append.mp hw with h | h
  · simp only [List.mem_cons, List.not_mem_nil, or_false] at h
    rcases h with rfl | rfl | rfl | rfl <;> assumption
  · exact wt_cons h5 w h)
section JR6
variable {p : Program} {l : Launch} {e : Env} {R0 : Room} {s : State} {m : MethodId} {args : Array Value} {below : List Frame} {meth : Method} {c : Code} {H : Heap} {locs : List Loc} {cells slots : Nat} {Qf : State → Prop}
variable {own : String} {cc : ByteArray} {nL base : Nat} {D : va_G} {cA : Nat → ClassId} {g : Nat → Nat → Nat} {M : jM} {pc : Nat} {ls : Array Slot} {rest st0 : List Value}
variable {Q' : Int32 → Nat → jM → Prop} {y : MethodName} {ycc : ByteArray} {yL d d' : Nat} {av : (Nat → Nat → Nat) → List Value} {index count n : Nat} {As : List Value}
theorem jr_F (C : jCx p l s m args meth c own cc nL D cA base g) (G : jG base D cA g M s H locs) {Cn : String} {R i : Nat} {T : u_T} {ty : Nat → FieldType} (K : jCl R Cn T ty) (mw : jMI Cn y ycc yL) (hw : va_Fw Cn jWk y s) (w1 : Cond.methodLink own index jWk ∈ WT)
    (h : jOk y ycc yL none 0 d 0 0 av M Q' jF) (hav : av g = .ref (g R i) :: As) (hi : i < jCnt M R) (hR : R < 12) (hn : As.length = 3) (hst : st0 = As.reverse ++ .ref (g R i) :: rest) (hd1 : d + 1 ≤ d') (hc : cells + 0 ≤ R0.cells) (hs : slots + 0 ≤ R0.slots) (hR0 : R0.frames = d' ∧ R0.locals = 50 * d')
    (hsz : ls.size = nL) (hrest : (rest.map fun v => v.category).sum ≤ 8) (dc : decode cc pc = .ok (.invokeinterface index count, 5))
    (kk : ∀ (r : Int32) (n : Nat) (M1 : jM) (H : Heap) (locs : List Loc), Q' r n M1 → jG base D cA g M1 s H locs → W p l e R0 s m args below meth c H locs (cells + 0) (slots + 0) Qf (F0 m (pc + 5) ls ((jRv 0 g r n).toList ++ rest))) : W p l e R0 s m args below meth c H locs cells slots Qf (F0 m pc ls st0) := by
  subst hst
  have hM := jMet_of (h l C.fl D cA base g)
  rw [hav] at hM
  have hcw := va_cwF (R := R0) (rm := jRm d 0 0) 3 C.w (wt_F w1 mw.1 mw.2.1 mw.2.2.1 mw.2.2.2.1) rfl rfl rfl hw (by decide +kernel) ⟨by rw [hR0.1]; exact hd1, by rw [hR0.2]; show 8 + (yL + 11) + 50 * d ≤ _; have := mw.2.2.2.2; omega⟩
  have hrecv := va_recv C.K.1 (G.1.obj hi hR) K.1 (q0 := 0) rfl
  have hr := va_runF (p := p) (l := l) (e := e) (m := m) (below := below) (meth := meth) (locs := locs) (cells := cells) (slots := slots) (rest := rest) (g := F0 m pc ls (As.reverse ++ .ref (g R i) :: rest)) (C.K.1.1 R _ K.1).2 ⟨C.x, C.b, C.ml, C.ow, C.w⟩ hM hcw ⟨jIn.blind, hrecv, fun U hU hW => jr_pre C G U hU hW⟩ rfl hn hsz rfl (jr_room hrest rfl) dc ⟨hc, hs⟩
  intro T hT X
  have hA : ∀ q, q < H.size → jA base q → jA base q := fun _ _ h => h
  have hf : ∀ q, jA base q → jA base q := fun _ h => h
  obtain ⟨v, st₀, t, T', L, h0, X', hL, e1, e2, ⟨⟨r, n, M1, hv, hq, hi⟩, hF⟩, st⟩ := hr T hT X
  cases hv
  obtain ⟨k1, k2, k3⟩ := vx_keep h0 e1 G.2 hA hf hL hF
  have hi1 : jRep base D cA g M1 T'.heap := by rw [e1]; exact hi
  obtain ⟨t2, a1, b1⟩ := kk r n M1 T'.heap (locs ++ L) hq ⟨hi1, k3⟩ T' rfl X'
  exact ⟨t2, st t2 a1, b1⟩
end JR6
-- PRINTED
theorem ji_X4_iterate : jMI RX4 yX4_iterate cX4_iterate 8 := ⟨wd1059, wd1057, wd82, wd1061, by decide⟩
theorem ji_X9_iterate : jMI RX9 yX9_iterate cX9_iterate 7 := ⟨wd1066, wd1064, wd81, wd1068, by decide⟩
theorem jx_IA : jTh "java/lang/IllegalArgumentException" 69 73 := ⟨by decide +kernel, by decide +kernel, by decide +kernel, wd512, wd88, by decide +kernel⟩
theorem jx_IS : jTh "java/lang/IllegalStateException" 80 84 := ⟨by decide +kernel, by decide +kernel, by decide +kernel, wd581, wd89, by decide +kernel⟩
theorem jx_IO : jTh "java/lang/IndexOutOfBoundsException" 155 159 := ⟨by decide +kernel, by decide +kernel, by decide +kernel, wd769, wd95, by decide +kernel⟩
