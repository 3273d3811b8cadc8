theorem vp_lt {x : Int32} {n : Nat} (h : vp_in x n) : x.toNatClampNeg < n := Nat.not_le.mp fun q => h (Or.inr q)
theorem jz_n {v : Int32} (h : v = 0 ∨ v = 1) : narrow .boolean (.int v) = .int v := by rcases h with rfl | rfl <;> rfl
theorem jz_f {v : Int32} (h : v = 0 ∨ v = 1) : fits .boolean (.int v) = true := by rcases h with rfl | rfl <;> rfl
section JR4
variable {p : Program} {l : Launch} {e : Env} {R0 : Room} {s : State} {m : MethodId} {args : Array Value} {below : List Frame} {meth : Method} {c : Code} {H : Heap} {locs : List Loc} {cells slots : Nat} {Qf : State → Prop}
variable {own : String} {cc : ByteArray} {nL base : Nat} {D : va_G} {cA : Nat → ClassId} {g : Nat → Nat → Nat} {M : jM} {pc : Nat} {ls : Array Slot} {rest st0 : List Value}
variable {rk mc ms : Nat} {Q' : Int32 → Nat → jM → Prop} {X' : String → jM → Prop} {a : Array Value}
variable {y : MethodName} {ycc : ByteArray} {yL d d' : Nat} {rt : Option FieldType} {av : (Nat → Nat → Nat) → List Value} {index n : Nat} {As : List Value}
/-- what the tables say of a method: instance, static -/
def jMV (Cn : String) (y : MethodName) (ycc : ByteArray) (yL : Nat) (rt : Option FieldType) (n : Nat) : Prop :=
  Cond.instanceMethod y ∈ WT ∧ Cond.selects Cn y y ∈ WT ∧ Cond.initialized Cn ∈ WT ∧ Cond.code y ycc yL rt ∈ WT ∧ (y.cls = Cn ∧ y.cls ≠ "java/lang/invoke/MethodHandle" ∧ y.cls ≠ "java/lang/invoke/VarHandle" ∧ (parseMethodDescriptor y.desc).map (fun d => d.parameters.length) = some n) ∧ yL ≤ 31
def jMS (y : MethodName) (ycc : ByteArray) (yL : Nat) (rt : Option FieldType) (n : Nat) : Prop :=
  Cond.static y ∈ WT ∧ Cond.initialized y.cls ∈ WT ∧ Cond.code y ycc yL rt ∈ WT ∧ (y.cls ≠ "java/lang/invoke/MethodHandle" ∧ y.cls ≠ "java/lang/invoke/VarHandle" ∧ (parseMethodDescriptor y.desc).map (fun d => d.parameters.length) = some n) ∧ yL ≤ 31
/-- an instance method that doesn't throw is called -/
theorem jr_V (C : jCx p l s m args meth c own cc nL D cA base g) (G : jG base D cA g M s H locs) {Cn : String} {R i : Nat} {T : u_T} {ty : Nat → FieldType} (K : jCl R Cn T ty) (mw : jMV Cn y ycc yL rt n) (w1 : Cond.methodLink own index y ∈ WT)
    (h : jOk y ycc yL rt rk d mc ms av M Q' jF) (hav : av g = .ref (g R i) :: As) (hi : i < jCnt M R) (hR : R < 12) (hn : As.length = n) (hst : st0 = As.reverse ++ .ref (g R i) :: rest) (hd1 : d + 1 ≤ d') (hc : cells + mc ≤ R0.cells) (hs : slots + ms ≤ R0.slots) (hR0 : R0.frames = d' ∧ R0.locals = 50 * d')
    (hsz : ls.size = nL) (hrest : (rest.map fun v => v.category).sum ≤ 8) (dc : decode cc pc = .ok (.invokevirtual index, 3))
    (kk : ∀ (r : Int32) (n : Nat) (M1 : jM) (H : Heap) (locs : List Loc), Q' r n M1 → jG base D cA g M1 s H locs → W p l e R0 s m args below meth c H locs (cells + mc) (slots + ms) Qf (F0 m (pc + 3) ls ((jRv rk g r n).toList ++ rest))) : W p l e R0 s m args below meth c H locs cells slots Qf (F0 m pc ls st0) := by
  subst hst
  exact jr_call G C.bs (jr_runV C G K h hav hi hR w1 mw.1 mw.2.1 mw.2.2.1 mw.2.2.2.1 mw.2.2.2.2.1 hn hd1 mw.2.2.2.2.2 hc hs hR0 hsz hrest dc) (fun _ _ _ _ _ _ hx => hx.elim) kk
/-- .. one that may throw what its caller may throw -/
theorem jr_VX {X : String → jM → Prop} {Q : Int32 → Nat → jM → Prop} {rk0 mc0 ms0 : Nat} (C : jCx p l s m args meth c own cc nL D cA base g) (htb : ∀ x ∈ c.exceptionTable.toList, False) (G : jG base D cA g M s H locs) {Cn : String} {R i : Nat} {T : u_T} {ty : Nat → FieldType} (K : jCl R Cn T ty) (mw : jMV Cn y ycc yL rt n) (w1 : Cond.methodLink own index y ∈ WT)
    (h : jOk y ycc yL rt rk d mc ms av M Q' X) (hav : av g = .ref (g R i) :: As) (hi : i < jCnt M R) (hR : R < 12) (hn : As.length = n) (hst : st0 = As.reverse ++ .ref (g R i) :: rest) (hd1 : d + 1 ≤ d') (hc : cells + mc ≤ R0.cells) (hs : slots + ms ≤ R0.slots) (hR0 : R0.frames = d' ∧ R0.locals = 50 * d') (hc0 : cells + mc ≤ mc0) (hs0 : slots + ms ≤ ms0)
    (hsz : ls.size = nL) (hrest : (rest.map fun v => v.category).sum ≤ 8) (dc : decode cc pc = .ok (.invokevirtual index, 3))
    (kk : ∀ (r : Int32) (n : Nat) (M1 : jM) (H : Heap) (locs : List Loc), Q' r n M1 → jG base D cA g M1 s H locs → W p l e R0 s m args below meth c H locs (cells + mc) (slots + ms) (vx_MQ below (jQ rk0 Q base D cA g) (jXC X base D cA g) args s mc0 ms0 (jA base)) (F0 m (pc + 3) ls ((jRv rk g r n).toList ++ rest))) : W p l e R0 s m args below meth c H locs cells slots (vx_MQ below (jQ rk0 Q base D cA g) (jXC X base D cA g) args s mc0 ms0 (jA base)) (F0 m pc ls st0) := by
  subst hst
  exact jr_call G C.bs (jr_runV C G K h hav hi hR w1 mw.1 mw.2.1 mw.2.2.1 mw.2.2.2.1 mw.2.2.2.2.1 hn hd1 mw.2.2.2.2.2 hc hs hR0 hsz hrest dc) (fun _ _ _ _ _ _ hx G1 h1 h2 h3 => jr_prop C htb hx G1 h1 h2 h3 hc0 hs0) kk
/-- a static method is called -/
theorem jr_S (C : jCx p l s m args meth c own cc nL D cA base g) (G : jG base D cA g M s H locs) (mw : jMS y ycc yL rt n) (w1 : Cond.methodLink own index y ∈ WT)
    (h : jOk y ycc yL rt rk d mc ms av M Q' jF) (hav : av g = As) (hn : As.length = n) (hst : st0 = As.reverse ++ rest) (hd1 : d + 1 ≤ d') (hc : cells + mc ≤ R0.cells) (hs : slots + ms ≤ R0.slots) (hR0 : R0.frames = d' ∧ R0.locals = 50 * d')
    (hsz : ls.size = nL) (hrest : (rest.map fun v => v.category).sum ≤ 8) (dc : decode cc pc = .ok (.invokestatic index, 3))
    (kk : ∀ (r : Int32) (n : Nat) (M1 : jM) (H : Heap) (locs : List Loc), Q' r n M1 → jG base D cA g M1 s H locs → W p l e R0 s m args below meth c H locs (cells + mc) (slots + ms) Qf (F0 m (pc + 3) ls ((jRv rk g r n).toList ++ rest))) : W p l e R0 s m args below meth c H locs cells slots Qf (F0 m pc ls st0) := by
  subst hst
  exact jr_call G C.bs (jr_runS C G h hav w1 mw.1 mw.2.1 mw.2.2.1 mw.2.2.2.1 hn hd1 mw.2.2.2.2 hc hs hR0 hsz hrest dc) (fun _ _ _ _ _ _ hx => hx.elim) kk
end JR4
/-- greater and less, as Math has them -/
def jmax (x y : Int32) : Int32 := if x < y then y else x
def jmin (x y : Int32) : Int32 := if y < x then y else x
/-- a truth value, as an int -/
def jb (P : Prop) [Decidable P] : Int32 := if P then 1 else 0
theorem jb_0 {P : Prop} [Decidable P] (h : jb P = 0) : ¬ P := fun q => by
  rw [jb, if_pos q] at h
  exact absurd h (by decide)
theorem jb_1 {P : Prop} [Decidable P] (h : ¬ jb P = 0) : P := by
  by_cases q : P
  · exact q
  · exact absurd (if_neg q) h
theorem jb_01 {P : Prop} [Decidable P] : jb P = 0 ∨ jb P = 1 := by
  by_cases q : P
  · exact Or.inr (if_pos q)
  · exact Or.inl (if_neg q)
theorem jb_t {P : Prop} [Decidable P] (h : P) : jb P = 1 := if_pos h
theorem jb_f {P : Prop} [Decidable P] (h : ¬ P) : jb P = 0 := if_neg h
theorem jin_of {x : Int32} {n : Nat} (h0 : 0 ≤ x) (h1 : x < Int32.ofNat n) (hn : n < 2 ^ 31 := by decide) : vp_in x n := by
  rw [vp_in_iff]
  rw [Int32.le_iff_toInt_le] at h0
  rw [Int32.lt_iff_toInt_lt] at h1
  have e : (Int32.ofNat n).toInt = (n : Int) := nI_toInt hn
  rw [e] at h1
  exact ⟨h0, h1⟩
theorem sp_open4 {x : Int32} (h : 0 ≤ x) : (if x < 4 then x else 3).toNatClampNeg < 4 := by
  split
  · rename_i q
    exact vp_lt (jin_of (n := 4) h q)
  · decide
/-- the char at the reader's place; what the reference's here answers; the signs are chars -/
def jpk (M : jM) : Int32 := if 0 ≤ M 8 0 3 ∧ M 8 0 3 < M 8 0 2 ∧ M 8 0 3 < 120 then M 41 0 (M 8 0 3).toNatClampNeg else 0
def jhr (M : jM) : Int32 := if M 11 0 12 < M 11 0 11 then M 54 0 (M 11 0 12).toNatClampNeg else (-1)
def jch (M : jM) : Prop := ∀ j : Nat, narrow .char (.int (M 41 0 j)) = .int (M 41 0 j)
theorem jSlen_lt (k : Nat) : jSlen.getD k 0 < 2 ^ 31 := by
  have h : ∀ k, k < 32 → jSlen.getD k 0 < 2 ^ 31 := by decide
  by_cases q : k < 32
  · exact h k q
  · have e : jSlen.getD k 0 = 0 := by
      rw [List.getD_eq_getElem?_getD, List.getElem?_eq_none_iff.mpr (by simpa [jSlen] using Nat.not_lt.mp q)]
      rfl
    rw [e]; decide
