/-! ===== methods that make bodies: addresses come on ===== -/
def jX (n0 : Nat) (g0 g : Nat → Nat → Nat) : Prop := (∀ R i, i < jCntN n0 R → g R i = g0 R i) ∧ ∀ R, 62 ≤ R → g R = g0 R
theorem jX.rf {n0 : Nat} {g : Nat → Nat → Nat} : jX n0 g g := ⟨fun _ _ _ => rfl, fun _ _ => rfl⟩
theorem jCntN_mono {a b : Nat} (h : a ≤ b) (R : Nat) : jCntN a R ≤ jCntN b R := by
  unfold jCntN
  split <;> omega
theorem jX.tr {n0 n1 : Nat} {g0 g1 g2 : Nat → Nat → Nat} (h : jX n0 g0 g1) (h2 : jX n1 g1 g2) (hn : n0 ≤ n1) : jX n0 g0 g2 :=
  ⟨fun R i hi => (h2.1 R i (Nat.lt_of_lt_of_le hi (jCntN_mono hn R))).trans (h.1 R i hi), fun R hR => (h2.2 R hR).trans (h.2 R hR)⟩
theorem jSt.ext {base : Nat} {n0 : Nat} {g0 g : Nat → Nat → Nat} {U : State} (hx : jX n0 g0 g) (h : jSt base g0 U) : jSt base g U := by
  obtain ⟨h1, h2, h3, h4, h5, h6, h7, h8, h9⟩ := h
  exact ⟨h1, h2, h3, h4, fun k q hq => by rw [hx.2 70 (by decide)]; exact h5 k q hq, by rw [hx.2 70 (by decide), hx.2 71 (by decide)]; exact h6, h7, h8, h9⟩
theorem jCx.ext {p : Program} {l : Launch} {s : State} {m : MethodId} {args : Array Value} {meth : Method} {c : Code} {own : String} {cc : ByteArray} {nL base : Nat} {D : va_G} {cA : Nat → ClassId} {n0 : Nat} {g0 g : Nat → Nat → Nat} (hx : jX n0 g0 g) (C : jCx p l s m args meth c own cc nL D cA base g0) : jCx p l s m args meth c own cc nL D cA base g :=
  ⟨C.1, C.2.1, C.2.2.1, C.2.2.2.1, C.2.2.2.2.1, C.2.2.2.2.2.1, C.2.2.2.2.2.2.1, C.2.2.2.2.2.2.2.1, C.st.ext hx, C.fl⟩
def jQA (rk : Nat) (Q : Int32 → Nat → jM → Prop) (base : Nat) (D : va_G) (cA : Nat → ClassId) (n0 : Nat) (g0 : Nat → Nat → Nat) : Array Value → State → Outcome → State → Prop := fun _ st oc t =>
  (∃ (r : Int32) (n : Nat) (M : jM) (g : Nat → Nat → Nat), oc = .returned (jRv rk g r n) ∧ Q r n M ∧ jX n0 g0 g ∧ n0 ≤ jnb M ∧ jRep base D cA g M t.heap) ∧ va_F (jA base) st t
def jXA (X : String → jM → Prop) (base : Nat) (D : va_G) (cA : Nat → ClassId) (n0 : Nat) (g0 : Nat → Nat → Nat) : String → State → State → Prop := fun E st t => (∃ (M : jM) (g : Nat → Nat → Nat), X E M ∧ jX n0 g0 g ∧ n0 ≤ jnb M ∧ jRep base D cA g M t.heap) ∧ va_F (jA base) st t
def jOkA (y : MethodName) (cc : ByteArray) (mL : Nat) (rt : Option FieldType) (rk d mc ms : Nat) (av : (Nat → Nat → Nat) → List Value) (M : jM) (Q : Int32 → Nat → jM → Prop) (X : String → jM → Prop) : Prop :=
  ∀ (l : Launch), l.flags = flags0 → ∀ (D : va_G) (cA : Nat → ClassId) (base : Nat) (g : Nat → Nat → Nat), vx_Met l y (Cond.code y cc mL rt :: WT) (jRm d mc ms) (va_Pc (av g) (jIn base D cA g M)) (jQA rk Q base D cA (jnb M) g) (jXA X base D cA (jnb M) g) mc ms (jA base)
def jAtA (own : String) (cc : ByteArray) (nL : Nat) (rt : Option FieldType) (rk d mc ms cells slots : Nat) (pc : Nat) (lv : (Nat → Nat → Nat) → List (Nat × Value)) (st : (Nat → Nat → Nat) → List Value) (M : jM) (Q : Int32 → Nat → jM → Prop) (X : String → jM → Prop) : Prop :=
  ∀ (p : Program) (l : Launch) (e : Env) (s : State) (m : MethodId) (args : Array Value) (below : List Frame) (meth : Method) (c : Code) (D : va_G) (cA : Nat → ClassId) (base : Nat) (n0 : Nat) (g0 g : Nat → Nat → Nat), jX n0 g0 g → n0 ≤ jnb M → jCx p l s m args meth c own cc nL D cA base g → meth.sig.returnType = rt → (∀ x ∈ c.exceptionTable.toList, False) →
    ∀ (H : Heap) (locs : List Loc), jG base D cA g M s H locs → ∀ ls : Array Slot, lv_has ls nL (lv g) → W p l e (jRm d mc ms) s m args below meth c H locs cells slots (vx_MQ below (jQA rk Q base D cA n0 g0) (jXA X base D cA n0 g0) args s mc ms (jA base)) (F0 m pc ls (st g))
section JRA
variable {p : Program} {l : Launch} {e : Env} {R0 : Room} {s : State} {m : MethodId} {args : Array Value} {below : List Frame} {meth : Method} {c : Code} {H : Heap} {locs : List Loc} {cells slots : Nat} {Qf : State → Prop}
variable {own : String} {cc : ByteArray} {nL base : Nat} {D : va_G} {cA : Nat → ClassId} {g : Nat → Nat → Nat} {M : jM} {pc : Nat} {ls : Array Slot} {rest st0 : List Value}
variable {rk mc ms n0 : Nat} {Q : Int32 → Nat → jM → Prop} {X : String → jM → Prop} {mc0 ms0 : Nat} {g0 : Nat → Nat → Nat}
theorem jr_retIA (C : jCx p l s m args meth c own cc nL D cA base g) (hr : meth.sig.returnType = some .int) (G : jG base D cA g M s H locs) (hx : jX n0 g0 g) (hn : n0 ≤ jnb M) {v : Int32} (hQ : Q v 0 M) (hc : cells ≤ mc0) (hs : slots ≤ ms0) (dc : decode cc pc = .ok (.ireturn, 1)) :
    W p l e R0 s m args below meth c H locs cells slots (vx_MQ below (jQA 1 Q base D cA n0 g0) (jXA X base D cA n0 g0) args s mc0 ms0 (jA base)) (F0 m pc ls [.int v]) :=
  W.widen hc hs (vx_ret (W.iret C.x C.b hr (fun t ht _ => ⟨⟨v, 0, M, g, rfl, hQ, hx, hn, by rw [ht]; exact G.1⟩, G.2.F ht⟩) G.2.2.2 dc C.lk))
theorem jr_retZA (C : jCx p l s m args meth c own cc nL D cA base g) {rt : FieldType} (hr : meth.sig.returnType = some rt) (G : jG base D cA g M s H locs) (hx : jX n0 g0 g) (hn : n0 ≤ jnb M) {v : Int32} (hnr : narrow rt (.int v) = .int v) (hQ : Q v 0 M) (hc : cells ≤ mc0) (hs : slots ≤ ms0) (dc : decode cc pc = .ok (.ireturn, 1)) :
    W p l e R0 s m args below meth c H locs cells slots (vx_MQ below (jQA 1 Q base D cA n0 g0) (jXA X base D cA n0 g0) args s mc0 ms0 (jA base)) (F0 m pc ls [.int v]) :=
  W.widen hc hs (vx_ret (W.zret C.x C.b hr hnr (fun t ht _ => ⟨⟨v, 0, M, g, rfl, hQ, hx, hn, by rw [ht]; exact G.1⟩, G.2.F ht⟩) G.2.2.2 dc C.lk))
theorem jr_retVA (C : jCx p l s m args meth c own cc nL D cA base g) (hr : meth.sig.returnType = none) (G : jG base D cA g M s H locs) (hx : jX n0 g0 g) (hn : n0 ≤ jnb M) (hQ : Q 0 0 M) (hc : cells ≤ mc0) (hs : slots ≤ ms0) (dc : decode cc pc = .ok (.return_, 1)) :
    W p l e R0 s m args below meth c H locs cells slots (vx_MQ below (jQA 0 Q base D cA n0 g0) (jXA X base D cA n0 g0) args s mc0 ms0 (jA base)) (F0 m pc ls []) :=
  W.widen hc hs (vx_ret (W.vret C.x C.b hr (fun t ht _ => ⟨⟨0, 0, M, g, rfl, hQ, hx, hn, by rw [ht]; exact G.1⟩, G.2.F ht⟩) G.2.2.2 dc C.lk))
variable {y : MethodName} {ycc : ByteArray} {yL d d' : Nat} {rt : Option FieldType} {av : (Nat → Nat → Nat) → List Value} {index n : Nat} {As : List Value} {Q' : Int32 → Nat → jM → Prop}
/-- a method that may make bodies, and doesn't throw, is called -/
theorem jr_VA (C : jCx p l s m args meth c own cc nL D cA base g) (G : jG base D cA g M s H locs) {Cn : String} {R i : Nat} {T : u_T} {ty : Nat → FieldType} (K : jCl R Cn T ty) (mw : jMV Cn y ycc yL rt n) (w1 : Cond.methodLink own index y ∈ WT)
    (h : jOkA y ycc yL rt rk d mc ms av M Q' jF) (hav : av g = .ref (g R i) :: As) (hi : i < jCnt M R) (hR : R < 12) (hn : As.length = n) (hst : st0 = As.reverse ++ .ref (g R i) :: rest) (hd1 : d + 1 ≤ d') (hc : cells + mc ≤ R0.cells) (hs : slots + ms ≤ R0.slots) (hR0 : R0.frames = d' ∧ R0.locals = 50 * d')
    (hsz : ls.size = nL) (hrest : (rest.map fun v => v.category).sum ≤ 8) (dc : decode cc pc = .ok (.invokevirtual index, 3))
    (kk : ∀ (r : Int32) (n : Nat) (M1 : jM) (g1 : Nat → Nat → Nat) (H : Heap) (locs : List Loc), jX (jnb M) g g1 → jnb M ≤ jnb M1 → Q' r n M1 → jG base D cA g1 M1 s H locs → W p l e R0 s m args below meth c H locs (cells + mc) (slots + ms) Qf (F0 m (pc + 3) ls ((jRv rk g1 r n).toList ++ rest))) : W p l e R0 s m args below meth c H locs cells slots Qf (F0 m pc ls st0) := by
  subst hst
  have hM := h l C.fl D cA base g
  rw [hav] at hM
  have hcw := cwV (R := R0) (rm := jRm d mc ms) n C.w (wt_V w1 mw.1 mw.2.1 mw.2.2.1 mw.2.2.2.1) rfl rfl rfl mw.2.2.2.2.1 ⟨by rw [hR0.1]; exact hd1, by rw [hR0.2]; show 8 + (yL + 11) + 50 * d ≤ _; have := mw.2.2.2.2.2; omega⟩
  have hrecv := va_recv C.K.1 (G.1.obj hi hR) K.1 (q0 := 0) rfl
  have hr := vx_runV (p := p) (l := l) (e := e) (m := m) (below := below) (meth := meth) (locs := locs) (cells := cells) (slots := slots) (rest := rest) (g := F0 m pc ls (As.reverse ++ .ref (g R i) :: rest)) ⟨C.x, C.b, C.ml, C.ow, C.w⟩ hM hcw ⟨jIn.blind, hrecv, fun U hU hW => jr_pre C G U hU hW⟩ rfl hn hsz rfl (jr_room hrest rfl) dc ⟨hc, hs⟩
  intro T hT X
  have hA : ∀ q, q < H.size → jA base q → jA base q := fun _ _ h => h
  have hf : ∀ q, jA base q → jA base q := fun _ h => h
  rcases hr T hT X with ⟨v, st₀, t, T', L, h0, X', hL, e1, e2, ⟨⟨r, n, M1, g1, hv, hq, hx1, hn1, hi1⟩, hF⟩, st⟩ | ⟨q, st₀, t, T', L, E, ce, h0, X', hL, e1, e2, ⟨⟨M1, g1, hx, -⟩, -⟩, -⟩
  · cases hv
    obtain ⟨k1, k2, k3⟩ := vx_keep h0 e1 G.2 hA hf hL hF
    have hi2 : jRep base D cA g1 M1 T'.heap := by rw [e1]; exact hi1
    obtain ⟨t2, a1, b1⟩ := kk r n M1 g1 T'.heap (locs ++ L) hx1 hn1 hq ⟨hi2, k3⟩ T' rfl X'
    exact ⟨t2, st t2 a1, b1⟩
  · exact hx.elim
end JRA
theorem jr_enterA {y : MethodName} {cc : ByteArray} {nL : Nat} {rt : Option FieldType} {rk d mc ms : Nat} {av : (Nat → Nat → Nat) → List Value} {M : jM} {Q : Int32 → Nat → jM → Prop} {X : String → jM → Prop} {lv : (Nat → Nat → Nat) → List (Nat × Value)}
    (hy : plainName y.cls = true) (hlv : ∀ g, lv_args 0 (av g) = lv g) (hsz : ∀ g, (lg_sl (av g)).length ≤ nL)
    (h : jAtA y.cls cc nL rt rk d mc ms 0 0 0 lv (fun _ => []) M Q X) : jOkA y cc nL rt rk d mc ms av M Q X := by
  intro l hfl D cA base g
  refine vx_ofW (cc := cc) (maxL := nL) (ret := rt) hy rfl ?_
  intro p e s m args below meth c s₁ B hml htb hv
  obtain ⟨rfl, hR, hK, hbs, hst⟩ := hv
  have hts : ∀ w ∈ WT, w.before (av g).toArray s = true := fun w hw => atoms_spec (ws := Cond.code y cc nL rt :: WT) B.pre w (List.mem_cons_of_mem _ hw)
  have hl := lv_entry (av g) (n := nL) (hsz g)
  rw [lg_entry_eq]
  generalize (lg_sl (av g) ++ List.replicate (nL - (lg_sl (av g)).length) Slot.unset).toArray = ls at hl ⊢
  rw [hlv g] at hl
  exact h p l e s m _ below meth c D cA base (jnb M) g g jX.rf (Nat.le_refl _) ⟨B.exec, B.bytes, hml, findClass_of_methodNamed B.named, B.notSynchronized, hts, hK, hbs, hst, hfl⟩ B.returns htb s.heap [] ⟨hR, va_S.rf⟩ ls hl
/-- a new body, all zero -/
def jnB (M : jM) : jM := fun R i k =>
  if R = 99 ∧ i = 0 ∧ k = 0 then nI (jnb M + 1)
  else if ((R = 0 ∨ (20 ≤ R ∧ R ≤ 25)) ∧ i = jnb M) ∨ ((R = 7 ∨ R = 26) ∧ i / 4 = jnb M) then 0
  else M R i k
theorem jnb_nB {M : jM} (h : jnb M + 1 < 2 ^ 31) : jnb (jnB M) = jnb M + 1 := by
  have e : jnB M 99 0 0 = nI (jnb M + 1) := if_pos ⟨rfl, rfl, rfl⟩
  show (jnB M 99 0 0).toNatClampNeg = _
  rw [e, nI_clamp h]
