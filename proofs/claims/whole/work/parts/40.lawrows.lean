/-! ===== calls by the law: its room is the claim's ===== -/
section JLR
variable {p : Program} {l : Launch} {e : Env} {R0 : Room} {s : State} {m : MethodId} {args : Array Value} {below : List Frame} {meth : Method} {c : Code} {H : Heap} {locs : List Loc} {cells slots : Nat} {Qf : State → Prop}
variable {own : String} {cc : ByteArray} {nL base : Nat} {D : va_G} {cA : Nat → ClassId} {g : Nat → Nat → Nat} {M : jM} {pc : Nat} {ls : Array Slot} {rest st0 : List Value}
variable {rk mc ms : Nat} {Q' : Int32 → Nat → jM → Prop}
variable {y : MethodName} {ycc : ByteArray} {yL d : Nat} {rt : Option FieldType} {av : (Nat → Nat → Nat) → List Value} {index n : Nat} {As : List Value}
theorem jl_V (C : jCx p l s m args meth c own cc nL D cA base g) (G : jG base D cA g M s H locs) {Cn : String} {R i : Nat} {T : u_T} {ty : Nat → FieldType} (K : jCl R Cn T ty) (mw : jMV Cn y ycc yL rt n) (w1 : Cond.methodLink own index y ∈ WT)
    (h : jOk y ycc yL rt rk d mc ms av M Q' jF) (hav : av g = .ref (g R i) :: As) (hi : i < jCnt M R) (hR : R < 12) (hn : As.length = n) (hst : st0 = As.reverse ++ .ref (g R i) :: rest) (hd1 : d + 1 ≤ R0.frames) (hlo : 8 + (yL + 11) + 50 * d ≤ R0.locals) (hc : cells + mc ≤ R0.cells) (hs : slots + ms ≤ R0.slots)
    (hsz : ls.size = nL) (hrest : (rest.map fun v => v.category).sum ≤ 8) (dc : decode cc pc = .ok (.invokevirtual index, 3))
    (kk : ∀ (r : Int32) (n : Nat) (M1 : jM) (H : Heap) (locs : List Loc), Q' r n M1 → jG base D cA g M1 s H locs → W p l e R0 s m args below meth c H locs (cells + mc) (slots + ms) Qf (F0 m (pc + 3) ls ((jRv rk g r n).toList ++ rest))) : W p l e R0 s m args below meth c H locs cells slots Qf (F0 m pc ls st0) := by
  subst hst
  have hM := h l C.fl D cA base g
  rw [hav] at hM
  have hcw := cwV (R := R0) (rm := jRm d mc ms) n C.w (wt_V w1 mw.1 mw.2.1 mw.2.2.1 mw.2.2.2.1) rfl rfl rfl mw.2.2.2.2.1 ⟨hd1, hlo⟩
  have hrecv := va_recv C.K.1 (G.1.obj hi hR) K.1 (q0 := 0) rfl
  have hr := vx_runV (p := p) (l := l) (e := e) (m := m) (below := below) (meth := meth) (locs := locs) (cells := cells) (slots := slots) (rest := rest) (g := F0 m pc ls (As.reverse ++ .ref (g R i) :: rest)) ⟨C.x, C.b, C.ml, C.ow, C.w⟩ hM hcw ⟨jIn.blind, hrecv, fun U hU hW => jr_pre C G U hU hW⟩ rfl hn hsz rfl (jr_room hrest rfl) dc ⟨hc, hs⟩
  intro T hT X
  have hA : ∀ q, q < H.size → jA base q → jA base q := fun _ _ h => h
  have hf : ∀ q, jA base q → jA base q := fun _ h => h
  rcases hr T hT X with ⟨v, st₀, t, T', L, h0, X', hL, e1, e2, ⟨⟨r, n, M1, hv, hq, hi1⟩, hF⟩, st⟩ | ⟨q, st₀, t, T', L, E, ce, h0, X', hL, e1, e2, ⟨⟨M1, hx, -⟩, -⟩, -⟩
  · cases hv
    obtain ⟨k1, k2, k3⟩ := vx_keep h0 e1 G.2 hA hf hL hF
    have hi2 : jRep base D cA g M1 T'.heap := by rw [e1]; exact hi1
    obtain ⟨t2, a1, b1⟩ := kk r n M1 T'.heap (locs ++ L) hq ⟨hi2, k3⟩ T' rfl X'
    exact ⟨t2, st t2 a1, b1⟩
  · exact hx.elim
variable {hh : List (Nat × Nat × Nat × Nat)}
/-- a wrapper is called -/
theorem jl_H (C : jCx p l s m args meth c own cc nL D cA base g) (G : jG base D cA g M s H locs) (w1 : Cond.methodLink own index y ∈ WT) (w2 : Cond.static y ∈ WT) (w4 : Cond.initialized y.cls ∈ WT) (w5 : Cond.codeWith y ycc yL (some .int) hh ∈ WT)
    (hd : y.cls ≠ "java/lang/invoke/MethodHandle" ∧ y.cls ≠ "java/lang/invoke/VarHandle" ∧ (parseMethodDescriptor y.desc).map (fun d => d.parameters.length) = some n)
    (h : jOkH y ycc yL hh d mc ms av M Q') (hav : av g = As) (hn : As.length = n) (hst : st0 = As.reverse ++ rest) (hd1 : d + 1 ≤ R0.frames) (hlo : 8 + (yL + 11) + 50 * d ≤ R0.locals) (hc : cells + mc ≤ R0.cells) (hs : slots + ms ≤ R0.slots)
    (hsz : ls.size = nL) (hrest : (rest.map fun v => v.category).sum ≤ 8) (dc : decode cc pc = .ok (.invokestatic index, 3))
    (kk : ∀ (r : Int32) (n : Nat) (M1 : jM) (H : Heap) (locs : List Loc), Q' r n M1 → jG base D cA g M1 s H locs → W p l e R0 s m args below meth c H locs (cells + mc) (slots + ms) Qf (F0 m (pc + 3) ls (.int r :: rest))) : W p l e R0 s m args below meth c H locs cells slots Qf (F0 m pc ls st0) := by
  subst hst
  have hM := h l C.fl D cA base g
  rw [hav] at hM
  have hcw := vx_cwSW (R := R0) (rm := jRm d mc ms) (hh := hh) n C.w (wt_S w1 w2 w4 w5) rfl rfl rfl hd ⟨hd1, hlo⟩
  have hr := vx_runSX (p := p) (l := l) (e := e) (m := m) (below := below) (meth := meth) (locs := locs) (cells := cells) (slots := slots) (rest := rest) (g := F0 m pc ls (As.reverse ++ rest)) ⟨C.x, C.b, C.ml, C.ow, C.w⟩ hM hcw ⟨jIn.blind, fun U hU hW => jr_pre C G U hU hW⟩ rfl hn hsz rfl (jr_room hrest rfl) dc ⟨hc, hs⟩
  intro T hT X
  have hA : ∀ q, q < H.size → jA base q → jA base q := fun _ _ h => h
  have hf : ∀ q, jA base q → jA base q := fun _ h => h
  rcases hr T hT X with ⟨v, st₀, t, T', L, h0, X', hL, e1, e2, ⟨⟨r, n, M1, hv, hq, hi1⟩, hF⟩, st⟩ | ⟨q, st₀, t, T', L, E, ce, h0, X', hL, e1, e2, ⟨⟨M1, hx, -⟩, -⟩, -⟩
  · cases hv
    obtain ⟨k1, k2, k3⟩ := vx_keep h0 e1 G.2 hA hf hL hF
    have hi2 : jRep base D cA g M1 T'.heap := by rw [e1]; exact hi1
    obtain ⟨t2, a1, b1⟩ := kk r n M1 T'.heap (locs ++ L) hq ⟨hi2, k3⟩ T' rfl X'
    exact ⟨t2, st t2 a1, b1⟩
  · exact hx.elim
/-- .. that may make bodies -/
theorem jl_HA (C : jCx p l s m args meth c own cc nL D cA base g) (G : jG base D cA g M s H locs) (w1 : Cond.methodLink own index y ∈ WT) (w2 : Cond.static y ∈ WT) (w4 : Cond.initialized y.cls ∈ WT) (w5 : Cond.codeWith y ycc yL (some .int) hh ∈ WT)
    (hd : y.cls ≠ "java/lang/invoke/MethodHandle" ∧ y.cls ≠ "java/lang/invoke/VarHandle" ∧ (parseMethodDescriptor y.desc).map (fun d => d.parameters.length) = some n)
    (h : jOkHA y ycc yL hh d mc ms av M Q') (hav : av g = As) (hn : As.length = n) (hst : st0 = As.reverse ++ rest) (hd1 : d + 1 ≤ R0.frames) (hlo : 8 + (yL + 11) + 50 * d ≤ R0.locals) (hc : cells + mc ≤ R0.cells) (hs : slots + ms ≤ R0.slots)
    (hsz : ls.size = nL) (hrest : (rest.map fun v => v.category).sum ≤ 8) (dc : decode cc pc = .ok (.invokestatic index, 3))
    (kk : ∀ (r : Int32) (n : Nat) (M1 : jM) (g1 : Nat → Nat → Nat) (H : Heap) (locs : List Loc), jX (jnb M) g g1 → jnb M ≤ jnb M1 → Q' r n M1 → jG base D cA g1 M1 s H locs → W p l e R0 s m args below meth c H locs (cells + mc) (slots + ms) Qf (F0 m (pc + 3) ls (.int r :: rest))) : W p l e R0 s m args below meth c H locs cells slots Qf (F0 m pc ls st0) := by
  subst hst
  have hM := h l C.fl D cA base g
  rw [hav] at hM
  have hcw := vx_cwSW (R := R0) (rm := jRm d mc ms) (hh := hh) n C.w (wt_S w1 w2 w4 w5) rfl rfl rfl hd ⟨hd1, hlo⟩
  have hr := vx_runSX (p := p) (l := l) (e := e) (m := m) (below := below) (meth := meth) (locs := locs) (cells := cells) (slots := slots) (rest := rest) (g := F0 m pc ls (As.reverse ++ rest)) ⟨C.x, C.b, C.ml, C.ow, C.w⟩ hM hcw ⟨jIn.blind, fun U hU hW => jr_pre C G U hU hW⟩ rfl hn hsz rfl (jr_room hrest rfl) dc ⟨hc, hs⟩
  intro T hT X
  have hA : ∀ q, q < H.size → jA base q → jA base q := fun _ _ h => h
  have hf : ∀ q, jA base q → jA base q := fun _ h => h
  rcases hr T hT X with ⟨v, st₀, t, T', L, h0, X', hL, e1, e2, ⟨⟨r, n, M1, g1, hv, hq, hx1, hn1, hi1⟩, hF⟩, st⟩ | ⟨q, st₀, t, T', L, E, ce, h0, X', hL, e1, e2, ⟨⟨M1, g1, hx, -⟩, -⟩, -⟩
  · cases hv
    obtain ⟨k1, k2, k3⟩ := vx_keep h0 e1 G.2 hA hf hL hF
    have hi2 : jRep base D cA g1 M1 T'.heap := by rw [e1]; exact hi1
    obtain ⟨t2, a1, b1⟩ := kk r n M1 g1 T'.heap (locs ++ L) hx1 hn1 hq ⟨hi2, k3⟩ T' rfl X'
    exact ⟨t2, st t2 a1, b1⟩
  · exact hx.elim
end JLR
