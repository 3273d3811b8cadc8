/-! ===== the law's wrappers: methods with handlers ===== -/
def jOkH (y : MethodName) (cc : ByteArray) (mL : Nat) (hh : List (Nat × Nat × Nat × Nat)) (d mc ms : Nat) (av : (Nat → Nat → Nat) → List Value) (M : jM) (Q : Int32 → Nat → jM → Prop) : Prop :=
  ∀ (l : Launch), l.flags = flags0 → ∀ (D : va_G) (cA : Nat → ClassId) (base : Nat) (g : Nat → Nat → Nat), vx_Met l y (Cond.codeWith y cc mL (some .int) hh :: WT) (jRm d mc ms) (va_Pc (av g) (jIn base D cA g M)) (jQ 1 Q base D cA g) (jXC jF base D cA g) mc ms (jA base)
def jOkHA (y : MethodName) (cc : ByteArray) (mL : Nat) (hh : List (Nat × Nat × Nat × Nat)) (d mc ms : Nat) (av : (Nat → Nat → Nat) → List Value) (M : jM) (Q : Int32 → Nat → jM → Prop) : Prop :=
  ∀ (l : Launch), l.flags = flags0 → ∀ (D : va_G) (cA : Nat → ClassId) (base : Nat) (g : Nat → Nat → Nat), vx_Met l y (Cond.codeWith y cc mL (some .int) hh :: WT) (jRm d mc ms) (va_Pc (av g) (jIn base D cA g M)) (jQA 1 Q base D cA (jnb M) g) (jXA jF base D cA (jnb M) g) mc ms (jA base)
theorem jr_enterH {y : MethodName} {cc : ByteArray} {nL d mc ms : Nat} {hh : List (Nat × Nat × Nat × Nat)} {av : (Nat → Nat → Nat) → List Value} {M : jM} {Q : Int32 → Nat → jM → Prop} {lv : (Nat → Nat → Nat) → List (Nat × Value)}
    (hy : plainName y.cls = true) (hlv : ∀ g, lv_args 0 (av g) = lv g) (hsz : ∀ g, (lg_sl (av g)).length ≤ nL)
    (h : ∀ (p : Program) (l : Launch) (e : Env) (s : State) (m : MethodId) (args : Array Value) (below : List Frame) (meth : Method) (c : Code) (D : va_G) (cA : Nat → ClassId) (base : Nat) (g : Nat → Nat → Nat), jCx p l s m args meth c y.cls cc nL D cA base g → meth.sig.returnType = some .int → c.exceptionTable.toList = tableOf hh →
      ∀ (H : Heap) (locs : List Loc), jG base D cA g M s H locs → ∀ ls : Array Slot, lv_has ls nL (lv g) → W p l e (jRm d mc ms) s m args below meth c H locs 0 0 (vx_MQ below (jQ 1 Q base D cA g) (jXC jF base D cA g) args s mc ms (jA base)) (F0 m 0 ls [])) : jOkH y cc nL hh d mc ms av M Q := by
  intro l hfl D cA base g
  refine vx_ofWH (cc := cc) (maxL := nL) (ret := some .int) (hh := hh) hy rfl ?_
  intro p e s m args below meth c s₁ B hml hv
  obtain ⟨rfl, hR, hK, hbs, hst⟩ := hv
  have hws := atoms_spec (ws := Cond.codeWith y cc nL (some .int) hh :: WT) B.pre
  have hts : ∀ w ∈ WT, w.before (av g).toArray s = true := fun w hw => hws w (List.mem_cons_of_mem _ hw)
  have htab := vx_table (x := y) B (hws _ List.mem_cons_self)
  have hl := lv_entry (av g) (n := nL) (hsz g)
  rw [lg_entry_eq]
  generalize (lg_sl (av g) ++ List.replicate (nL - (lg_sl (av g)).length) Slot.unset).toArray = ls at hl ⊢
  rw [hlv g] at hl
  exact h p l e s m _ below meth c D cA base g ⟨B.exec, B.bytes, hml, findClass_of_methodNamed B.named, B.notSynchronized, hts, hK, hbs, hst, hfl⟩ B.returns htab s.heap [] ⟨hR, va_S.rf⟩ ls hl
theorem jr_enterHA {y : MethodName} {cc : ByteArray} {nL d mc ms : Nat} {hh : List (Nat × Nat × Nat × Nat)} {av : (Nat → Nat → Nat) → List Value} {M : jM} {Q : Int32 → Nat → jM → Prop} {lv : (Nat → Nat → Nat) → List (Nat × Value)}
    (hy : plainName y.cls = true) (hlv : ∀ g, lv_args 0 (av g) = lv g) (hsz : ∀ g, (lg_sl (av g)).length ≤ nL)
    (h : ∀ (p : Program) (l : Launch) (e : Env) (s : State) (m : MethodId) (args : Array Value) (below : List Frame) (meth : Method) (c : Code) (D : va_G) (cA : Nat → ClassId) (base : Nat) (n0 : Nat) (g0 g : Nat → Nat → Nat), jX n0 g0 g → n0 ≤ jnb M → jCx p l s m args meth c y.cls cc nL D cA base g → meth.sig.returnType = some .int → c.exceptionTable.toList = tableOf hh →
      ∀ (H : Heap) (locs : List Loc), jG base D cA g M s H locs → ∀ ls : Array Slot, lv_has ls nL (lv g) → W p l e (jRm d mc ms) s m args below meth c H locs 0 0 (vx_MQ below (jQA 1 Q base D cA n0 g0) (jXA jF base D cA n0 g0) args s mc ms (jA base)) (F0 m 0 ls [])) : jOkHA y cc nL hh d mc ms av M Q := by
  intro l hfl D cA base g
  refine vx_ofWH (cc := cc) (maxL := nL) (ret := some .int) (hh := hh) hy rfl ?_
  intro p e s m args below meth c s₁ B hml hv
  obtain ⟨rfl, hR, hK, hbs, hst⟩ := hv
  have hws := atoms_spec (ws := Cond.codeWith y cc nL (some .int) hh :: WT) B.pre
  have hts : ∀ w ∈ WT, w.before (av g).toArray s = true := fun w hw => hws w (List.mem_cons_of_mem _ hw)
  have htab := vx_table (x := y) B (hws _ List.mem_cons_self)
  have hl := lv_entry (av g) (n := nL) (hsz g)
  rw [lg_entry_eq]
  generalize (lg_sl (av g) ++ List.replicate (nL - (lg_sl (av g)).length) Slot.unset).toArray = ls at hl ⊢
  rw [hlv g] at hl
  exact h p l e s m _ below meth c D cA base (jnb M) g g jX.rf (Nat.le_refl _) ⟨B.exec, B.bytes, hml, findClass_of_methodNamed B.named, B.notSynchronized, hts, hK, hbs, hst, hfl⟩ B.returns htab s.heap [] ⟨hR, va_S.rf⟩ ls hl
section JRW
variable {p : Program} {l : Launch} {e : Env} {R0 : Room} {s : State} {m : MethodId} {args : Array Value} {below : List Frame} {meth : Method} {c : Code} {H : Heap} {locs : List Loc} {cells slots : Nat} {Qf : State → Prop}
variable {own : String} {cc : ByteArray} {nL base : Nat} {D : va_G} {cA : Nat → ClassId} {g : Nat → Nat → Nat} {M : jM} {pc : Nat} {ls : Array Slot} {rest st0 : List Value}
variable {rk mc ms : Nat} {Q' : Int32 → Nat → jM → Prop} {X' : String → jM → Prop}
variable {y : MethodName} {ycc : ByteArray} {yL d d' : Nat} {rt : Option FieldType} {av : (Nat → Nat → Nat) → List Value} {index n : Nat} {As : List Value}
/-- a method that may throw is called, whatever becomes of it -/
theorem jr_VH (C : jCx p l s m args meth c own cc nL D cA base g) (G : jG base D cA g M s H locs) {Cn : String} {R i : Nat} {T : u_T} {ty : Nat → FieldType} (K : jCl R Cn T ty) (mw : jMV Cn y ycc yL rt n) (w1 : Cond.methodLink own index y ∈ WT)
    (h : jOk y ycc yL rt rk d mc ms av M Q' X') (hav : av g = .ref (g R i) :: As) (hi : i < jCnt M R) (hR : R < 12) (hn : As.length = n) (hst : st0 = As.reverse ++ .ref (g R i) :: rest) (hd1 : d + 1 ≤ d') (hc : cells + mc ≤ R0.cells) (hs : slots + ms ≤ R0.slots) (hR0 : R0.frames = d' ∧ R0.locals = 50 * d')
    (hsz : ls.size = nL) (hrest : (rest.map fun v => v.category).sum ≤ 8) (dc : decode cc pc = .ok (.invokevirtual index, 3))
    (kx : ∀ (E : String) (ce : Cell) (q9 : Addr) (M1 : jM) (H : Heap) (locs : List Loc), X' E M1 → jG base D cA g M1 s H locs → H[q9]? = some ce → ce.vm = .none → s.vm.findClass E = some ce.cls → vx_W p l e R0 s m args below meth c H locs (cells + mc) (slots + ms) Qf (F0 m pc ls rest) q9)
    (kk : ∀ (r : Int32) (n : Nat) (M1 : jM) (H : Heap) (locs : List Loc), Q' r n M1 → jG base D cA g M1 s H locs → W p l e R0 s m args below meth c H locs (cells + mc) (slots + ms) Qf (F0 m (pc + 3) ls ((jRv rk g r n).toList ++ rest))) : W p l e R0 s m args below meth c H locs cells slots Qf (F0 m pc ls st0) := by
  subst hst
  exact jr_call G C.bs (jr_runV C G K h hav hi hR w1 mw.1 mw.2.1 mw.2.2.1 mw.2.2.2.1 mw.2.2.2.2.1 hn hd1 mw.2.2.2.2.2 hc hs hR0 hsz hrest dc) kx kk
theorem jr_VHA (C : jCx p l s m args meth c own cc nL D cA base g) (G : jG base D cA g M s H locs) {Cn : String} {R i : Nat} {T : u_T} {ty : Nat → FieldType} (K : jCl R Cn T ty) (mw : jMV Cn y ycc yL rt n) (w1 : Cond.methodLink own index y ∈ WT)
    (h : jOkA y ycc yL rt rk d mc ms av M Q' X') (hav : av g = .ref (g R i) :: As) (hi : i < jCnt M R) (hR : R < 12) (hn : As.length = n) (hst : st0 = As.reverse ++ .ref (g R i) :: rest) (hd1 : d + 1 ≤ d') (hc : cells + mc ≤ R0.cells) (hs : slots + ms ≤ R0.slots) (hR0 : R0.frames = d' ∧ R0.locals = 50 * d')
    (hsz : ls.size = nL) (hrest : (rest.map fun v => v.category).sum ≤ 8) (dc : decode cc pc = .ok (.invokevirtual index, 3))
    (kx : ∀ (E : String) (ce : Cell) (q9 : Addr) (M1 : jM) (g1 : Nat → Nat → Nat) (H : Heap) (locs : List Loc), jX (jnb M) g g1 → jnb M ≤ jnb M1 → X' E M1 → jG base D cA g1 M1 s H locs → H[q9]? = some ce → ce.vm = .none → s.vm.findClass E = some ce.cls → vx_W p l e R0 s m args below meth c H locs (cells + mc) (slots + ms) Qf (F0 m pc ls rest) q9)
    (kk : ∀ (r : Int32) (n : Nat) (M1 : jM) (g1 : Nat → Nat → Nat) (H : Heap) (locs : List Loc), jX (jnb M) g g1 → jnb M ≤ jnb M1 → Q' r n M1 → jG base D cA g1 M1 s H locs → W p l e R0 s m args below meth c H locs (cells + mc) (slots + ms) Qf (F0 m (pc + 3) ls ((jRv rk g1 r n).toList ++ rest))) : W p l e R0 s m args below meth c H locs cells slots Qf (F0 m pc ls st0) := by
  subst hst
  have hM := h l C.fl D cA base g
  rw [hav] at hM
  have hcw := cwV (R := R0) (rm := jRm d mc ms) n C.w (wt_V w1 mw.1 mw.2.1 mw.2.2.1 mw.2.2.2.1) rfl rfl rfl mw.2.2.2.2.1 ⟨by rw [hR0.1]; exact hd1, by rw [hR0.2]; show 8 + (yL + 11) + 50 * d ≤ _; have := mw.2.2.2.2.2; omega⟩
  have hrecv := va_recv C.K.1 (G.1.obj hi hR) K.1 (q0 := 0) rfl
  have hr := vx_runV (p := p) (l := l) (e := e) (m := m) (below := below) (meth := meth) (locs := locs) (cells := cells) (slots := slots) (rest := rest) (g := F0 m pc ls (As.reverse ++ .ref (g R i) :: rest)) ⟨C.x, C.b, C.ml, C.ow, C.w⟩ hM hcw ⟨jIn.blind, hrecv, fun U hU hW => jr_pre C G U hU hW⟩ rfl hn hsz rfl (jr_room hrest rfl) dc ⟨hc, hs⟩
  intro T hT X
  have hA : ∀ q, q < H.size → jA base q → jA base q := fun _ _ h => h
  have hf : ∀ q, jA base q → jA base q := fun _ h => h
  rcases hr T hT X with ⟨v, st₀, t, T', L, h0, X1, hL, e1, e2, ⟨⟨r, n, M1, g1, hv, hq, hx1, hn1, hi1⟩, hF⟩, st⟩ | ⟨q, st₀, t, T', L, E, ce, h0, X1, hL, e1, e2, ⟨⟨M1, g1, hx, hx1, hn1, hi1⟩, hF⟩, hce, hcv, hcl, st⟩
  · cases hv
    obtain ⟨k1, k2, k3⟩ := vx_keep h0 e1 G.2 hA hf hL hF
    have hi2 : jRep base D cA g1 M1 T'.heap := by rw [e1]; exact hi1
    obtain ⟨t2, a1, b1⟩ := kk r n M1 g1 T'.heap (locs ++ L) hx1 hn1 hq ⟨hi2, k3⟩ T' rfl X1
    exact ⟨t2, st t2 a1, b1⟩
  · obtain ⟨k1, k2, k3⟩ := vx_keep h0 e1 G.2 hA hf hL hF
    have hi2 : jRep base D cA g1 M1 T'.heap := by rw [e1]; exact hi1
    obtain ⟨t2, a1, b1⟩ := kx E ce q M1 g1 T'.heap (locs ++ L) hx1 hn1 hx ⟨hi2, k3⟩ (by rw [e1]; exact hce) hcv hcl T' rfl X1
    exact ⟨t2, st.trans a1, b1⟩
end JRW
