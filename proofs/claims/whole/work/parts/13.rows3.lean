section JR3
variable {p : Program} {l : Launch} {e : Env} {R0 : Room} {s : State} {m : MethodId} {args : Array Value} {below : List Frame} {meth : Method} {c : Code} {H : Heap} {locs : List Loc} {cells slots : Nat} {Qf : State → Prop}
variable {own : String} {cc : ByteArray} {nL base : Nat} {D : va_G} {cA : Nat → ClassId} {g : Nat → Nat → Nat} {M : jM} {pc : Nat} {ls : Array Slot} {rest st0 : List Value}
variable {rk mc ms : Nat} {Q' : Int32 → Nat → jM → Prop} {X' : String → jM → Prop} {a : Array Value}
/-- behind a call -/
theorem jr_call (G : jG base D cA g M s H locs) (bs : base ≤ s.heap.size) (hr : vx_Run p l e R0 s m args below meth c H locs cells slots mc ms (F0 m pc ls st0) rest (jQ rk Q' base D cA g a) (jXC X' base D cA g) (jA base))
    (kx : ∀ (E : String) (ce : Cell) (q9 : Addr) (M1 : jM) (H1 : Heap) (locs1 : List Loc), X' E M1 → jG base D cA g M1 s H1 locs1 → H1[q9]? = some ce → ce.vm = .none → s.vm.findClass E = some ce.cls → vx_W p l e R0 s m args below meth c H1 locs1 (cells + mc) (slots + ms) Qf (F0 m pc ls rest) q9)
    (kk : ∀ (r : Int32) (n : Nat) (M1 : jM) (H1 : Heap) (locs1 : List Loc), Q' r n M1 → jG base D cA g M1 s H1 locs1 → W p l e R0 s m args below meth c H1 locs1 (cells + mc) (slots + ms) Qf (F0 m (pc + 3) ls ((jRv rk g r n).toList ++ rest))) : W p l e R0 s m args below meth c H locs cells slots Qf (F0 m pc ls st0) := by
  intro T hT X
  have hA : ∀ q, q < H.size → jA base q → jA base q := fun _ _ h => h
  have hf : ∀ q, jA base q → jA base q := fun _ h => h
  rcases hr T hT X with ⟨v, st₀, t, T', L, h0, X', hL, e1, e2, ⟨⟨r, n, M1, hv, hq, hi⟩, hF⟩, st⟩ | ⟨q, st₀, t, T', L, E, ce, h0, X', hL, e1, e2, ⟨⟨M1, hx, hi⟩, hF⟩, hce, hcv, hcl, st⟩
  · cases hv
    obtain ⟨k1, k2, k3⟩ := vx_keep h0 e1 G.2 hA hf hL hF
    have hi1 : jRep base D cA g M1 T'.heap := by rw [e1]; exact hi
    obtain ⟨t2, a1, b1⟩ := kk r n M1 T'.heap (locs ++ L) hq ⟨hi1, k3⟩ T' rfl X'
    exact ⟨t2, st t2 a1, b1⟩
  · obtain ⟨k1, k2, k3⟩ := vx_keep h0 e1 G.2 hA hf hL hF
    have hi1 : jRep base D cA g M1 T'.heap := by rw [e1]; exact hi
    obtain ⟨t2, a1, b1⟩ := kx E ce q M1 T'.heap (locs ++ L) hx ⟨hi1, k3⟩ (by rw [e1]; exact hce) hcv hcl T' rfl X'
    exact ⟨t2, st.trans a1, b1⟩
variable {y : MethodName} {ycc : ByteArray} {yL d d' : Nat} {rt : Option FieldType} {av : (Nat → Nat → Nat) → List Value} {index n : Nat} {As : List Value}
theorem jr_pre (C : jCx p l s m args meth c own cc nL D cA base g) (G : jG base D cA g M s H locs) {avs : List Value} (U : State) (hU : U.heap = H) (hW : s.WarmedH U.vm) : va_Pc avs (jIn base D cA g M) avs.toArray U :=
  ⟨rfl, by rw [hU]; exact G.1, C.K.moved hW.alike, by rw [hU]; exact Nat.le_trans C.bs G.2.1, C.st.step G.2 hU hW⟩
theorem jr_room {rest : List Value} (h : (rest.map fun v => v.category).sum ≤ 8) {gg : JFrame} (hg : gg.monitorRoom = 0) : 2 * gg.monitorRoom + (rest.map fun v => v.category).sum ≤ 8 := by rw [hg]; omega
/-- a call of a method of an object of the memory -/
theorem jr_runV (C : jCx p l s m args meth c own cc nL D cA base g) (G : jG base D cA g M s H locs) {Cn : String} {R i : Nat} {T : u_T} {ty : Nat → FieldType} (K : jCl R Cn T ty)
    (h : jOk y ycc yL rt rk d mc ms av M Q' X') (hav : av g = .ref (g R i) :: As) (hi : i < jCnt M R) (hR : R < 12)
    (w1 : Cond.methodLink own index y ∈ WT) (w2 : Cond.instanceMethod y ∈ WT) (w3 : Cond.selects Cn y y ∈ WT) (w4 : Cond.initialized Cn ∈ WT) (w5 : Cond.code y ycc yL rt ∈ WT)
    (hd : y.cls = Cn ∧ y.cls ≠ "java/lang/invoke/MethodHandle" ∧ y.cls ≠ "java/lang/invoke/VarHandle" ∧ (parseMethodDescriptor y.desc).map (fun d => d.parameters.length) = some n)
    (hn : As.length = n) (hd1 : d + 1 ≤ d') (hyL : yL ≤ 31) (hc : cells + mc ≤ R0.cells) (hs : slots + ms ≤ R0.slots) (hR0 : R0.frames = d' ∧ R0.locals = 50 * d')
    (hsz : ls.size = nL) (hrest : (rest.map fun v => v.category).sum ≤ 8) (dc : decode cc pc = .ok (.invokevirtual index, 3)) :
    vx_Run p l e R0 s m args below meth c H locs cells slots mc ms (F0 m pc ls (As.reverse ++ .ref (g R i) :: rest)) rest (jQ rk Q' base D cA g (Value.ref (g R i) :: As).toArray) (jXC X' base D cA g) (jA base) := by
  have hM := h l C.fl D cA base g
  rw [hav] at hM
  have hcw := cwV (R := R0) (rm := jRm d mc ms) n C.w (wt_V w1 w2 w3 w4 w5) rfl rfl rfl hd ⟨by rw [hR0.1]; exact hd1, by rw [hR0.2]; show 8 + (yL + 11) + 50 * d ≤ _; omega⟩
  have hrecv := va_recv C.K.1 (G.1.obj hi hR) K.1 (q0 := 0) rfl
  exact vx_runV ⟨C.x, C.b, C.ml, C.ow, C.w⟩ hM hcw ⟨jIn.blind, hrecv, fun U hU hW => jr_pre C G U hU hW⟩ rfl hn hsz rfl (jr_room hrest rfl) dc ⟨hc, hs⟩
/-- a call of a static method -/
theorem jr_runS (C : jCx p l s m args meth c own cc nL D cA base g) (G : jG base D cA g M s H locs)
    (h : jOk y ycc yL rt rk d mc ms av M Q' X') (hav : av g = As)
    (w1 : Cond.methodLink own index y ∈ WT) (w2 : Cond.static y ∈ WT) (w4 : Cond.initialized y.cls ∈ WT) (w5 : Cond.code y ycc yL rt ∈ WT)
    (hd : y.cls ≠ "java/lang/invoke/MethodHandle" ∧ y.cls ≠ "java/lang/invoke/VarHandle" ∧ (parseMethodDescriptor y.desc).map (fun d => d.parameters.length) = some n)
    (hn : As.length = n) (hd1 : d + 1 ≤ d') (hyL : yL ≤ 31) (hc : cells + mc ≤ R0.cells) (hs : slots + ms ≤ R0.slots) (hR0 : R0.frames = d' ∧ R0.locals = 50 * d')
    (hsz : ls.size = nL) (hrest : (rest.map fun v => v.category).sum ≤ 8) (dc : decode cc pc = .ok (.invokestatic index, 3)) :
    vx_Run p l e R0 s m args below meth c H locs cells slots mc ms (F0 m pc ls (As.reverse ++ rest)) rest (jQ rk Q' base D cA g As.toArray) (jXC X' base D cA g) (jA base) := by
  have hM := h l C.fl D cA base g
  rw [hav] at hM
  have hcw := va_cwS (R := R0) (rm := jRm d mc ms) n C.w (wt_S w1 w2 w4 w5) rfl rfl rfl hd ⟨by rw [hR0.1]; exact hd1, by rw [hR0.2]; show 8 + (yL + 11) + 50 * d ≤ _; omega⟩
  exact vx_runS ⟨C.x, C.b, C.ml, C.ow, C.w⟩ hM hcw ⟨jIn.blind, fun U hU hW => jr_pre C G U hU hW⟩ rfl hn hsz rfl (jr_room hrest rfl) dc ⟨hc, hs⟩
/-- what a callee throws goes on to the caller -/
theorem jr_prop (C : jCx p l s m args meth c own cc nL D cA base g) (htb : ∀ x ∈ c.exceptionTable.toList, False) {X : String → jM → Prop} {Q : Int32 → Nat → jM → Prop} {rk mc0 ms0 : Nat} {E : String} {ce : Cell} {q9 : Addr} {M1 : jM} {H1 : Heap} {locs1 : List Loc} {cs sl : Nat} (hX : X E M1) (G1 : jG base D cA g M1 s H1 locs1)
    (h1 : H1[q9]? = some ce) (h2 : ce.vm = .none) (h3 : s.vm.findClass E = some ce.cls) (hcs : cs ≤ mc0) (hsl : sl ≤ ms0) :
    vx_W p l e R0 s m args below meth c H1 locs1 cs sl (vx_MQ below (jQ rk Q base D cA g) (jXC X base D cA g) args s mc0 ms0 (jA base)) (F0 m pc ls rest) q9 := by
  intro T hT Xs
  exact vx_out (fun x hx => (htb x hx).elim) C.lk h1 h2 h3 (fun t ht hv => ⟨⟨M1, hX, by rw [ht]; exact G1.1⟩, G1.2.F ht⟩) G1.2.2.2 hcs hsl T hT Xs
variable {Q : Int32 → Nat → jM → Prop} {X : String → jM → Prop} {mc0 ms0 : Nat}
/-- ends -/
theorem jr_retI (C : jCx p l s m args meth c own cc nL D cA base g) (hr : meth.sig.returnType = some .int) (G : jG base D cA g M s H locs) {v : Int32} (hQ : Q v 0 M) (hc : cells ≤ mc0) (hs : slots ≤ ms0) (dc : decode cc pc = .ok (.ireturn, 1)) :
    W p l e R0 s m args below meth c H locs cells slots (vx_MQ below (jQ 1 Q base D cA g) (jXC X base D cA g) args s mc0 ms0 (jA base)) (F0 m pc ls [.int v]) :=
  W.widen hc hs (vx_ret (W.iret C.x C.b hr (fun t ht _ => ⟨⟨v, 0, M, rfl, hQ, by rw [ht]; exact G.1⟩, G.2.F ht⟩) G.2.2.2 dc C.lk))
theorem jr_retZ (C : jCx p l s m args meth c own cc nL D cA base g) {rt : FieldType} (hr : meth.sig.returnType = some rt) (G : jG base D cA g M s H locs) {v : Int32} (hn : narrow rt (.int v) = .int v) (hQ : Q v 0 M) (hc : cells ≤ mc0) (hs : slots ≤ ms0) (dc : decode cc pc = .ok (.ireturn, 1)) :
    W p l e R0 s m args below meth c H locs cells slots (vx_MQ below (jQ 1 Q base D cA g) (jXC X base D cA g) args s mc0 ms0 (jA base)) (F0 m pc ls [.int v]) :=
  W.widen hc hs (vx_ret (W.zret C.x C.b hr hn (fun t ht _ => ⟨⟨v, 0, M, rfl, hQ, by rw [ht]; exact G.1⟩, G.2.F ht⟩) G.2.2.2 dc C.lk))
theorem jr_retV (C : jCx p l s m args meth c own cc nL D cA base g) (hr : meth.sig.returnType = none) (G : jG base D cA g M s H locs) (hQ : Q 0 0 M) (hc : cells ≤ mc0) (hs : slots ≤ ms0) (dc : decode cc pc = .ok (.return_, 1)) :
    W p l e R0 s m args below meth c H locs cells slots (vx_MQ below (jQ 0 Q base D cA g) (jXC X base D cA g) args s mc0 ms0 (jA base)) (F0 m pc ls []) :=
  W.widen hc hs (vx_ret (W.vret C.x C.b hr (fun t ht _ => ⟨⟨0, 0, M, rfl, hQ, by rw [ht]; exact G.1⟩, G.2.F ht⟩) G.2.2.2 dc C.lk))
theorem jr_retR (C : jCx p l s m args meth c own cc nL D cA base g) {R i : Nat} {ct : String} (hr : meth.sig.returnType = some (.object ct)) (G : jG base D cA g M s H locs) (hQ : Q 0 i M) (hc : cells ≤ mc0) (hs : slots ≤ ms0) (dc : decode cc pc = .ok (.areturn, 1)) :
    W p l e R0 s m args below meth c H locs cells slots (vx_MQ below (jQ (R + 2) Q base D cA g) (jXC X base D cA g) args s mc0 ms0 (jA base)) (F0 m pc ls [.ref (g R i)]) :=
  W.widen hc hs (vx_ret (W.aret C.x C.b hr (Or.inl ⟨_, rfl⟩) (Or.inr ⟨_, rfl⟩) (fun t ht _ => ⟨⟨0, i, M, rfl, hQ, by rw [ht]; exact G.1⟩, G.2.F ht⟩) G.2.2.2 dc C.lk))
end JR3
/-- a method's entry -/
theorem jr_enter {y : MethodName} {cc : ByteArray} {nL : Nat} {rt : Option FieldType} {rk d mc ms : Nat} {av : (Nat → Nat → Nat) → List Value} {M : jM} {Q : Int32 → Nat → jM → Prop} {X : String → jM → Prop} {lv : (Nat → Nat → Nat) → List (Nat × Value)}
    (hy : plainName y.cls = true) (hlv : ∀ g, lv_args 0 (av g) = lv g) (hsz : ∀ g, (lg_sl (av g)).length ≤ nL)
    (h : jAt y.cls cc nL rt rk d mc ms 0 0 0 lv (fun _ => []) M Q X) : jOk y cc nL rt rk d mc ms av M Q X := by
  intro l hfl D cA base g
  refine vx_ofW (cc := cc) (maxL := nL) (ret := rt) hy rfl ?_
  intro p e s m args below meth c s₁ B hml htb hv
  obtain ⟨rfl, hR, hK, hbs, hst⟩ := hv
  have hts : ∀ w ∈ WT, w.before (av g).toArray s = true := fun w hw => atoms_spec (ws := Cond.code y cc nL rt :: WT) B.pre w (List.mem_cons_of_mem _ hw)
  have hl := lv_entry (av g) (n := nL) (hsz g)
  rw [lg_entry_eq]
  generalize (lg_sl (av g) ++ List.replicate (nL - (lg_sl (av g)).length) Slot.unset).toArray = ls at hl ⊢
  rw [hlv g] at hl
  exact h p l e s m _ below meth c D cA base g ⟨B.exec, B.bytes, hml, findClass_of_methodNamed B.named, B.notSynchronized, hts, hK, hbs, hst, hfl⟩ B.returns htb s.heap [] ⟨hR, va_S.rf⟩ ls hl
