/-! ===== the words that all methods share ===== -/
def WT : List Cond := lw_tbl.filter goodWord
theorem wt_of {i : Nat} {w : Cond} (h : lw_tbl[i]? = some w) (hg : goodWord w = true) : w ∈ WT := List.mem_filter.mpr ⟨List.mem_of_getElem? h, hg⟩
theorem wt_good {w : Cond} (h : w ∈ WT) : goodWord w = true := (List.mem_filter.mp h).2
theorem wt_in {ws : List Cond} (h : ∀ w ∈ ws, w ∈ WT) : GoodIn WT ws := fun w hw => ⟨h w hw, good_of_word (wt_good (h w hw))⟩
theorem wt_cons {c : Cond} (h : c ∈ WT) : ∀ w ∈ c :: WT, w ∈ WT := fun w hw => (List.mem_cons.mp hw).elim (fun e => by rw [e]; exact h) id
theorem wt_V {own C : String} {idx : Nat} {y : MethodName} {k : Cond} (h1 : Cond.methodLink own idx y ∈ WT) (h2 : Cond.instanceMethod y ∈ WT) (h3 : Cond.selects C y y ∈ WT) (h4 : Cond.initialized C ∈ WT) (h5 : k ∈ WT) : GoodIn WT (wsV own idx C y (k :: WT)) := wt_in (fun w hw => by
  unfold wsV at hw
  rcases List.mem_append.mp hw with h | h
  · simp only [List.mem_cons, List.not_mem_nil, or_false] at h
    rcases h with rfl | rfl | rfl | rfl <;> assumption
  · exact wt_cons h5 w h)
theorem wt_S {own : String} {idx : Nat} {y : MethodName} {k : Cond} (h1 : Cond.methodLink own idx y ∈ WT) (h2 : Cond.static y ∈ WT) (h4 : Cond.initialized y.cls ∈ WT) (h5 : k ∈ WT) : GoodIn WT (va_wsS own idx y (k :: WT)) := wt_in (fun w hw => by
  unfold va_wsS at hw
  rcases List.mem_append.mp hw with h | h
  · simp only [List.mem_cons, List.not_mem_nil, or_false] at h
    rcases h with rfl | rfl | rfl <;> assumption
  · exact wt_cons h5 w h)
/-! ===== what holds beside the memory: String constants, statics, words that aren't carried by themselves ===== -/
def jCD (w : Cond) : Bool := match w with
  | .castable _ _ => true
  | .declares _ => true
  | .methodLinkNest _ _ _ _ => true
  | .arrayOver (.object _) => true
  | .arrayOver (.array _) => true
  | _ => false
theorem jCD_warm {w : Cond} (hc : jCD w = true) {s U : State} (hW : s.WarmedH U.vm) (h : va_Nw w s) : va_Nw w U := by
  cases w with
  | castable a b => exact va_Nw.warmC hW h
  | declares x => exact va_Nw.warmD hW h
  | methodLinkNest a i x hst => exact va_Nw.warmM hW h
  | arrayOver t =>
    cases t with
    | object C => exact Cond.arrayOver_alike hW.alike h
    | array t => exact arrayOver_alikeB hW.alike h
    | _ => simp [jCD] at hc
  | _ => simp [jCD] at hc
theorem jCD_same {w : Cond} (hc : jCD w = true) {s U : State} {A A' : Array Value} (hv : s.vm = U.vm) (h : w.before A s = true) : w.before A' U = true := by
  cases w with
  | castable a b => exact va_tabs rfl hv h
  | declares x => exact va_tabs rfl hv h
  | methodLinkNest a i x hst => exact va_tabs rfl hv h
  | arrayOver t =>
    cases t with
    | object C => exact Cond.arrayOver_alike (hv ▸ Vm.Alike.refl s.vm) h
    | array t => exact arrayOver_alikeB (hv ▸ Vm.Alike.refl s.vm) h
    | _ => simp [jCD] at hc
  | _ => simp [jCD] at hc
theorem jCD_use {w : Cond} (hc : jCD w = true) {U : State} {A : Array Value} (h : va_Nw w U) : w.before A U = true := jCD_same hc rfl h
/-- the String constants: owner, place, text -/
def jStrs : List (String × Nat × String) := [("LoopFuser", 71, "a byte is not a character of a text"), ("LoopFuser", 82, "the buffer would be too long"), ("LoopFuser$TextReader", 48, "for("), ("LoopFuser$TextReader", 61, ","), ("LoopFuser$TextReader", 66, "){"), ("LoopFuser$TextReader", 139, "[i"), ("LoopFuser$TextReader", 141, "]"), ("LoopFuser$TextReader", 88, "="), ("LoopFuser$TextReader", 125, ")"), ("LoopFuser$TextReader", 76, "}"), ("LoopFuser", 95, "the text has a fault"), ("LoopFuser", 103, "there would be too many loops"), ("LoopFuser", 337, "there is no such loop"), ("LoopFuser", 349, "side is neither 0 nor 1"), ("LoopFuser", 133, "the bounds would not be allowed"), ("LoopFuser", 157, "there is no such reference"), ("LoopFuser", 171, "what is not from 0 to 3"), ("LoopFuser", 343, "there is no such statement"), ("LoopFuser", 177, "there is no such operator"), ("LoopFuser", 190, "the loop has no such iteration"), ("LoopFuser", 202, "there is no such option"), ("LoopFuser", 204, "the value is out of range"), ("LoopFuser", 351, "p is not before q"), ("LoopFuser", 228, "what is not from 0 to 2"), ("LoopFuser", 232, "there is no such dependence"), ("LoopFuser", 244, "the loops have no dependence"), ("LoopFuser", 353, "last is before first"), ("LoopFuser", 357, "there is no such arrangement"), ("LoopFuser", 355, "there is no such group"), ("LoopFuser", 287, "the main part is empty"), ("LoopFuser", 326, "there is no such array or cell"), ("LoopFuser", 332, "there is no snapshot")]
def jSlen : List Nat := [35, 28, 4, 1, 2, 2, 1, 1, 1, 1, 20, 29, 21, 23, 31, 26, 23, 26, 25, 30, 23, 25, 17, 23, 27, 28, 20, 28, 22, 22, 30, 20]
def jSbyt : List (List Int32) := [[97, 32, 98, 121, 116, 101, 32, 105, 115, 32, 110, 111, 116, 32, 97, 32, 99, 104, 97, 114, 97, 99, 116, 101, 114, 32, 111, 102, 32, 97, 32, 116, 101, 120, 116], [116, 104, 101, 32, 98, 117, 102, 102, 101, 114, 32, 119, 111, 117, 108, 100, 32, 98, 101, 32, 116, 111, 111, 32, 108, 111, 110, 103], [102, 111, 114, 40], [44], [41, 123], [91, 105], [93], [61], [41], [125], [116, 104, 101, 32, 116, 101, 120, 116, 32, 104, 97, 115, 32, 97, 32, 102, 97, 117, 108, 116], [116, 104, 101, 114, 101, 32, 119, 111, 117, 108, 100, 32, 98, 101, 32, 116, 111, 111, 32, 109, 97, 110, 121, 32, 108, 111, 111, 112, 115], [116, 104, 101, 114, 101, 32, 105, 115, 32, 110, 111, 32, 115, 117, 99, 104, 32, 108, 111, 111, 112], [115, 105, 100, 101, 32, 105, 115, 32, 110, 101, 105, 116, 104, 101, 114, 32, 48, 32, 110, 111, 114, 32, 49], [116, 104, 101, 32, 98, 111, 117, 110, 100, 115, 32, 119, 111, 117, 108, 100, 32, 110, 111, 116, 32, 98, 101, 32, 97, 108, 108, 111, 119, 101, 100], [116, 104, 101, 114, 101, 32, 105, 115, 32, 110, 111, 32, 115, 117, 99, 104, 32, 114, 101, 102, 101, 114, 101, 110, 99, 101], [119, 104, 97, 116, 32, 105, 115, 32, 110, 111, 116, 32, 102, 114, 111, 109, 32, 48, 32, 116, 111, 32, 51], [116, 104, 101, 114, 101, 32, 105, 115, 32, 110, 111, 32, 115, 117, 99, 104, 32, 115, 116, 97, 116, 101, 109, 101, 110, 116], [116, 104, 101, 114, 101, 32, 105, 115, 32, 110, 111, 32, 115, 117, 99, 104, 32, 111, 112, 101, 114, 97, 116, 111, 114], [116, 104, 101, 32, 108, 111, 111, 112, 32, 104, 97, 115, 32, 110, 111, 32, 115, 117, 99, 104, 32, 105, 116, 101, 114, 97, 116, 105, 111, 110], [116, 104, 101, 114, 101, 32, 105, 115, 32, 110, 111, 32, 115, 117, 99, 104, 32, 111, 112, 116, 105, 111, 110], [116, 104, 101, 32, 118, 97, 108, 117, 101, 32, 105, 115, 32, 111, 117, 116, 32, 111, 102, 32, 114, 97, 110, 103, 101], [112, 32, 105, 115, 32, 110, 111, 116, 32, 98, 101, 102, 111, 114, 101, 32, 113], [119, 104, 97, 116, 32, 105, 115, 32, 110, 111, 116, 32, 102, 114, 111, 109, 32, 48, 32, 116, 111, 32, 50], [116, 104, 101, 114, 101, 32, 105, 115, 32, 110, 111, 32, 115, 117, 99, 104, 32, 100, 101, 112, 101, 110, 100, 101, 110, 99, 101], [116, 104, 101, 32, 108, 111, 111, 112, 115, 32, 104, 97, 118, 101, 32, 110, 111, 32, 100, 101, 112, 101, 110, 100, 101, 110, 99, 101], [108, 97, 115, 116, 32, 105, 115, 32, 98, 101, 102, 111, 114, 101, 32, 102, 105, 114, 115, 116], [116, 104, 101, 114, 101, 32, 105, 115, 32, 110, 111, 32, 115, 117, 99, 104, 32, 97, 114, 114, 97, 110, 103, 101, 109, 101, 110, 116], [116, 104, 101, 114, 101, 32, 105, 115, 32, 110, 111, 32, 115, 117, 99, 104, 32, 103, 114, 111, 117, 112], [116, 104, 101, 32, 109, 97, 105, 110, 32, 112, 97, 114, 116, 32, 105, 115, 32, 101, 109, 112, 116, 121], [116, 104, 101, 114, 101, 32, 105, 115, 32, 110, 111, 32, 115, 117, 99, 104, 32, 97, 114, 114, 97, 121, 32, 111, 114, 32, 99, 101, 108, 108], [116, 104, 101, 114, 101, 32, 105, 115, 32, 110, 111, 32, 115, 110, 97, 112, 115, 104, 111, 116]]
def jNcs : List (String × String) := [("java/lang/IllegalArgumentException", "java/lang/IllegalStateException"), ("java/lang/IllegalArgumentException", "java/lang/IndexOutOfBoundsException"), ("java/lang/IllegalArgumentException", "java/util/NoSuchElementException"), ("java/lang/IllegalStateException", "java/lang/IllegalArgumentException"), ("java/lang/IllegalStateException", "java/lang/IndexOutOfBoundsException"), ("java/lang/IllegalStateException", "java/util/NoSuchElementException"), ("java/lang/IndexOutOfBoundsException", "java/lang/IllegalArgumentException"), ("java/lang/IndexOutOfBoundsException", "java/lang/IllegalStateException"), ("java/lang/IndexOutOfBoundsException", "java/util/NoSuchElementException"), ("java/util/NoSuchElementException", "java/lang/IllegalArgumentException"), ("java/util/NoSuchElementException", "java/lang/IllegalStateException"), ("java/util/NoSuchElementException", "java/lang/IndexOutOfBoundsException")]
abbrev jWk : MethodName := ⟨"LoopFuser$Worker", "iterate", "(ILLoopFuser$Body;I)V"⟩
def jSt (base : Nat) (g : Nat → Nat → Nat) (U : State) : Prop :=
  vx_Zq Bundle.tN "UNASSIGNED_STACK" Bundle.steD (jA base) U U.heap ∧ vx_Zq Bundle.tN "SUPPRESSED_SENTINEL" Bundle.listD (jA base) U U.heap ∧
  (∀ w ∈ lw_tbl, jCD w = true → va_Nw w U) ∧ (va_Fw RX4 jWk yX4_iterate U ∧ va_Fw RX9 jWk yX9_iterate U) ∧
  (∀ (k : Nat) (q : String × Nat × String), jStrs[k]? = some q → vk_R q.1 q.2.1 q.2.2 (g 70 k) U) ∧
  vk_S 32 jSlen jSbyt (g 70) (g 71) (jA base) U U.heap ∧
  va_Z "java/lang/String" "COMPACT_STRINGS" "Z" (.int 1) (jA base) U U.heap ∧
  va_Zq "jdk/internal/util/Preconditions" "SIOOBE_FORMATTER" "Ljava/util/function/BiFunction;" (jA base) U U.heap ∧
  ∀ q ∈ jNcs, va_Nc q.1 q.2 U
theorem jSt.step {base : Nat} {g : Nat → Nat → Nat} {s U : State} {H : Heap} {locs : List Loc} (h : jSt base g s) (hS : va_S (jA base) s.heap H locs) (hH : U.heap = H) (hW : s.WarmedH U.vm) : jSt base g U := by
  subst hH
  obtain ⟨h1, h2, h3, h4, h5, h6, h7, h8, h9⟩ := h
  have hk : ∀ a : Nat, a < s.heap.size → ¬ jA base a → U.heap[a]? = s.heap[a]? := hS.2.1
  have hv := hW.alike
  exact ⟨(vx_Zq.moved hv h1).kept hk, (vx_Zq.moved hv h2).kept hk, fun w hw hc => jCD_warm hc hW (h3 w hw hc), ⟨va_Fw.moved ⟨by decide, by decide⟩ hv h4.1, va_Fw.moved ⟨by decide, by decide⟩ hv h4.2⟩, fun k q hq => vk_R.warm hW (h5 k q hq),
    (vk_S.moved hv h6).kept hk, (va_Z.moved hv h7).kept hk, (va_Zq.moved hv h8).kept hk, fun q hq => va_Nc.moved hv (h9 q hq)⟩
theorem jSt.same {base : Nat} {g : Nat → Nat → Nat} {u U : State} (h : jSt base g u) (hv : u.vm = U.vm) (hH : U.heap = u.heap) : jSt base g U := by
  obtain ⟨h1, h2, h3, h4, h5, h6, h7, h8, h9⟩ := h
  have ha : u.vm.Alike U.vm := hv ▸ Vm.Alike.refl u.vm
  refine ⟨?_, ?_, fun w hw hc => jCD_same hc hv (h3 w hw hc), ⟨va_Fw.moved ⟨by decide, by decide⟩ ha h4.1, va_Fw.moved ⟨by decide, by decide⟩ ha h4.2⟩, fun k q hq => vk_R.same hv.symm (h5 k q hq), ?_, ?_, ?_, fun q hq => va_Nc.moved ha (h9 q hq)⟩
  · rw [hH]; exact vx_Zq.moved ha h1
  · rw [hH]; exact vx_Zq.moved ha h2
  · rw [hH]; exact vk_S.moved ha h6
  · rw [hH]; exact va_Z.moved ha h7
  · rw [hH]; exact va_Zq.moved ha h8
/-- what the tables say of the classes and array classes -/
def jK (D : va_G) (cA : Nat → ClassId) (U : State) : Prop := va_K D vwCl [] U ∧ ∀ R : Nat, 20 ≤ R → R < 62 → jL R ≠ 0 → ArrOfT U (cA R) (jTy R) ∧ va_RA U (cA R) (jTy R)
theorem jK.moved {D : va_G} {cA : Nat → ClassId} {u U : State} (hvm : u.vm.Alike U.vm) (h : jK D cA u) : jK D cA U :=
  ⟨va_K.moved hvm h.1, fun R h1 h2 h3 => ⟨arrOfT_moved hvm (h.2 R h1 h2 h3).1, (h.2 R h1 h2 h3).2.moved hvm⟩⟩
theorem jK.arr {D : va_G} {cA : Nat → ClassId} {U : State} (h : jK D cA U) {R : Nat} (h1 : 20 ≤ R) (h2 : R < 62) (h3 : jL R ≠ 0) : va_K D vwCl [(cA R, jTy R)] U :=
  ⟨h.1.1, fun k q hq => by
    cases k with
    | zero => cases hq; exact h.2 R h1 h2 h3
    | succ k => simp at hq⟩
/-- a class of the memory: its place, its fields, its words -/
def jCl (R : Nat) (C : String) (T : u_T) (ty : Nat → FieldType) : Prop := vwCl[R]? = some (C, T, jN R) ∧ (∀ w ∈ u_ws C T (jN R), w ∈ WT) ∧ (∀ k, k < jN R → parseFieldDescriptor (T k).2.2.1 = some (ty k)) ∧ ∀ a, a < jN R → ∀ b, b < jN R → a ≠ b → (T a).2.1 ≠ (T b).2.1
/-- the place of a walk -/
def jCx (p : Program) (l : Launch) (s : State) (m : MethodId) (args : Array Value) (meth : Method) (c : Code) (own : String) (cc : ByteArray) (nL : Nat) (D : va_G) (cA : Nat → ClassId) (base : Nat) (g : Nat → Nat → Nat) : Prop :=
  p.tables.exec = Jvm.exec ∧ c.code = cc ∧ c.maxLocals = nL ∧ s.vm.findClass own = some m.cls ∧ meth.locks = false ∧ (∀ w ∈ WT, w.before args s = true) ∧ jK D cA s ∧ base ≤ s.heap.size ∧ jSt base g s ∧ l.flags = flags0
def jG (base : Nat) (D : va_G) (cA : Nat → ClassId) (g : Nat → Nat → Nat) (M : jM) (s : State) (H : Heap) (locs : List Loc) : Prop := jRep base D cA g M H ∧ va_S (jA base) s.heap H locs
def jIn (base : Nat) (D : va_G) (cA : Nat → ClassId) (g : Nat → Nat → Nat) (M : jM) (U : State) : Prop := jRep base D cA g M U.heap ∧ jK D cA U ∧ base ≤ U.heap.size ∧ jSt base g U
def jRv (rk : Nat) (g : Nat → Nat → Nat) (r : Int32) (n : Nat) : Option Value := match rk with
  | 0 => none
  | 1 => some (.int r)
  | R + 2 => some (.ref (g R n))
def jQ (rk : Nat) (Q : Int32 → Nat → jM → Prop) (base : Nat) (D : va_G) (cA : Nat → ClassId) (g : Nat → Nat → Nat) : Array Value → State → Outcome → State → Prop := fun _ st oc t =>
  (∃ (r : Int32) (n : Nat) (M : jM), oc = .returned (jRv rk g r n) ∧ Q r n M ∧ jRep base D cA g M t.heap) ∧ va_F (jA base) st t
def jXC (X : String → jM → Prop) (base : Nat) (D : va_G) (cA : Nat → ClassId) (g : Nat → Nat → Nat) : String → State → State → Prop := fun E st t => (∃ M : jM, X E M ∧ jRep base D cA g M t.heap) ∧ va_F (jA base) st t
def jRm (d mc ms : Nat) : Room := { frames := d, cells := mc, slots := ms, locals := 50 * d }
/-- the method, called with av in the memory M, comes back with Q, or throws with X -/
def jOk (y : MethodName) (cc : ByteArray) (mL : Nat) (rt : Option FieldType) (rk d mc ms : Nat) (av : (Nat → Nat → Nat) → List Value) (M : jM) (Q : Int32 → Nat → jM → Prop) (X : String → jM → Prop) : Prop :=
  ∀ (l : Launch), l.flags = flags0 → ∀ (D : va_G) (cA : Nat → ClassId) (base : Nat) (g : Nat → Nat → Nat), vx_Met l y (Cond.code y cc mL rt :: WT) (jRm d mc ms) (va_Pc (av g) (jIn base D cA g M)) (jQ rk Q base D cA g) (jXC X base D cA g) mc ms (jA base)
def jF : String → jM → Prop := fun _ _ => False
/-- the machine at pc, in the memory M, comes to an end with Q or X -/
def jAt (own : String) (cc : ByteArray) (nL : Nat) (rt : Option FieldType) (rk d mc ms cells slots : Nat) (pc : Nat) (lv : (Nat → Nat → Nat) → List (Nat × Value)) (st : (Nat → Nat → Nat) → List Value) (M : jM) (Q : Int32 → Nat → jM → Prop) (X : String → jM → Prop) : Prop :=
  ∀ (p : Program) (l : Launch) (e : Env) (s : State) (m : MethodId) (args : Array Value) (below : List Frame) (meth : Method) (c : Code) (D : va_G) (cA : Nat → ClassId) (base : Nat) (g : Nat → Nat → Nat), jCx p l s m args meth c own cc nL D cA base g → meth.sig.returnType = rt → (∀ x ∈ c.exceptionTable.toList, False) →
    ∀ (H : Heap) (locs : List Loc), jG base D cA g M s H locs → ∀ ls : Array Slot, lv_has ls nL (lv g) → W p l e (jRm d mc ms) s m args below meth c H locs cells slots (vx_MQ below (jQ rk Q base D cA g) (jXC X base D cA g) args s mc ms (jA base)) (F0 m pc ls (st g))
theorem jFlags {l : Launch} (h : l.flags = flags0) : l.stackTraces = false := by
  unfold Launch.stackTraces
  rw [h]
  decide +kernel
theorem jIn.blind {base : Nat} {D : va_G} {cA : Nat → ClassId} {g : Nat → Nat → Nat} {M : jM} {av : List Value} : FrameBlind (va_Pc av (jIn base D cA g M)) := fun a U gg mk q =>
  ⟨q.1, q.2.1, jK.moved (u := U) (U := U.calling gg mk a) (Vm.Alike.refl U.vm) q.2.2.1, q.2.2.2.1, jSt.same (u := U) (U := U.calling gg mk a) q.2.2.2.2 rfl rfl⟩
section JR
variable {p : Program} {l : Launch} {e : Env} {R0 : Room} {s : State} {m : MethodId} {args : Array Value} {below : List Frame} {meth : Method} {c : Code} {H : Heap} {locs : List Loc} {cells slots : Nat} {Q : State → Prop}
variable {own : String} {cc : ByteArray} {nL base : Nat} {D : va_G} {cA : Nat → ClassId} {g : Nat → Nat → Nat} {M : jM} {pc : Nat} {ls : Array Slot} {rest : List Value}
theorem jCx.x (C : jCx p l s m args meth c own cc nL D cA base g) : p.tables.exec = Jvm.exec := C.1
theorem jCx.b (C : jCx p l s m args meth c own cc nL D cA base g) : c.code = cc := C.2.1
theorem jCx.ml (C : jCx p l s m args meth c own cc nL D cA base g) : c.maxLocals = nL := C.2.2.1
theorem jCx.ow (C : jCx p l s m args meth c own cc nL D cA base g) : s.vm.findClass own = some m.cls := C.2.2.2.1
theorem jCx.lk (C : jCx p l s m args meth c own cc nL D cA base g) : meth.locks = false := C.2.2.2.2.1
theorem jCx.w (C : jCx p l s m args meth c own cc nL D cA base g) : ∀ w ∈ WT, w.before args s = true := C.2.2.2.2.2.1
theorem jCx.K (C : jCx p l s m args meth c own cc nL D cA base g) : jK D cA s := C.2.2.2.2.2.2.1
theorem jCx.bs (C : jCx p l s m args meth c own cc nL D cA base g) : base ≤ s.heap.size := C.2.2.2.2.2.2.2.1
theorem jCx.st (C : jCx p l s m args meth c own cc nL D cA base g) : jSt base g s := C.2.2.2.2.2.2.2.2.1
theorem jCx.fl (C : jCx p l s m args meth c own cc nL D cA base g) : l.flags = flags0 := C.2.2.2.2.2.2.2.2.2
/-- a field is read -/
theorem jr_get (C : jCx p l s m args meth c own cc nL D cA base g) (G : jG base D cA g M s H locs) {R : Nat} {Cn : String} {T : u_T} {ty : Nat → FieldType} (K : jCl R Cn T ty) {i : Nat} (k : Nat) {v : Value} (hi : i < jCnt M R) (hR : R < 12) (hk : k < jN R) (hv : jV g M R i k = v) {index : Nat} (hl : Cond.fieldLink own index (T k).1 (T k).2.1 (T k).2.2.1 ∈ WT) (d : decode cc pc = .ok (.getfield index, 3))
    (kk : W p l e R0 s m args below meth c H locs cells slots Q (F0 m (pc + 3) ls (v :: rest))) : W p l e R0 s m args below meth c H locs cells slots Q (F0 m pc ls (.ref (g R i) :: rest)) :=
  va_get C.x C.b C.w K.2.1 C.ow C.K.1 (G.1.obj hi hR) 0 rfl K.1 k hk (C.w _ hl) (fun _ h => h) (by rw [jFs_get hk, hv]) d kk
/-- an int field is written -/
theorem jr_put (C : jCx p l s m args meth c own cc nL D cA base g) (G : jG base D cA g M s H locs) {R : Nat} {Cn : String} {T : u_T} {ty : Nat → FieldType} (K : jCl R Cn T ty) {i : Nat} (k : Nat) {v : Int32} (hi : i < jCnt M R) (hR : R < 12) (hk : k < jN R) (hT : jT R k i = none) (hb : ¬ (R = 3 ∧ k = 0)) {index : Nat} (hl : Cond.fieldLink own index (T k).1 (T k).2.1 (T k).2.2.1 ∈ WT) (hfin : (T k).2.2.2 = false) {ft : FieldType} (hd : parseFieldDescriptor (T k).2.2.1 = some ft) (hn : narrow ft (.int v) = .int v) (hfit : fits ft (.int v) = true) (d : decode cc pc = .ok (.putfield index, 3))
    (kk : ∀ (H : Heap) (locs : List Loc), jG base D cA g (jup M R i k v) s H locs → W p l e R0 s m args below meth c H locs cells slots Q (F0 m (pc + 3) ls rest)) : W p l e R0 s m args below meth c H locs cells slots Q (F0 m pc ls (.int v :: .ref (g R i) :: rest)) := by
  have hts := C.w
  have hP := G.1.obj hi hR
  have hap := va_apart (own := own) hts K.2.1 ty K.2.2.1 K.2.2.2 C.K.1 K.1
  obtain ⟨r, h1, cell, q1, q2, q3, q4⟩ := hP 0 _ rfl
  have hr : r = (Cn, T, jN R) := Option.some.inj (h1.symm.trans K.1)
  subst hr
  obtain ⟨hS, hfc, kC, hkC, hkind⟩ := C.K.1.1 R _ K.1
  obtain ⟨cf, kf, fi, f, hf, hsl⟩ := hS k hk
  have hlay := hts _ (K.2.1 _ (u_in_lay hk))
  unfold u_lay at hlay
  rw [if_neg (by rw [hfin]; decide)] at hlay
  have hst := (u_facts hfc hkC (u_lays hts K.2.1 hk) hf).1
  have h6 := u_store hfc hkC hkind hlay hf hd hn hfit
  refine W.putK C.x C.b (f := f) ⟨C.ow, hts _ hl, ⟨_, _, _, hf⟩, hst⟩ (by rw [q2]; exact h6) q1 q3 (by rw [hsl]; exact k2_hasslot (q4 k hk)) rfl rfl d fun H' e1 e2 e3 => ?_
  rw [hsl] at e1
  refine kk H' _ ⟨G.1.set (fun q => by rw [q] at hR; exact absurd hR (by decide)) hi ?_ e3 (jb_keep hb G.1.2.2), G.2.put e2 e3 (G.1.1 R i hi).2⟩
  rw [jC, if_pos hR, ← jFs_up (jV_at hT hb)]
  exact ⟨_, K.1, t_OB.to (V := updV (vp_V (jFs g M R i)) k (.int v)) ⟨_, e1, q2, q3, t_set q4 hap hk (.int v)⟩ (fun j _ => vp_updV_set (by rw [jFs_len]; exact hk) (.int v) j)⟩
/-- the field Loop.body is written -/
theorem jr_putB (C : jCx p l s m args meth c own cc nL D cA base g) (G : jG base D cA g M s H locs) {Cn : String} {T : u_T} {ty : Nat → FieldType} (K : jCl 3 Cn T ty) {i b : Nat} (hi : i < 20) (hbn : b < jnb M) {index : Nat} (hl : Cond.fieldLink own index (T 0).1 (T 0).2.1 (T 0).2.2.1 ∈ WT) (hfin : (T 0).2.2.2 = false) {ft : FieldType} (hd : parseFieldDescriptor (T 0).2.2.1 = some ft) (hn : ∀ a, narrow ft (.ref a) = .ref a) (hfit : ∀ a, fits ft (.ref a) = true) (d : decode cc pc = .ok (.putfield index, 3))
    (kk : ∀ (H : Heap) (locs : List Loc), jG base D cA g (jup M 3 i 0 (nI b)) s H locs → W p l e R0 s m args below meth c H locs cells slots Q (F0 m (pc + 3) ls rest)) : W p l e R0 s m args below meth c H locs cells slots Q (F0 m pc ls (.ref (g 0 b) :: .ref (g 3 i) :: rest)) := by
  have hts := C.w
  have hR : (3 : Nat) < 12 := by decide
  have hk : (0 : Nat) < jN 3 := by decide
  have hi3 : i < jCnt M 3 := hi
  have hb31 : b < 2 ^ 31 := by
    have h1 : jnb M < 2 ^ 31 := by
      unfold jnb
      have := Int32.toInt_lt (M 99 0 0)
      unfold Int32.toNatClampNeg
      omega
    omega
  have hcl : (nI b).toNatClampNeg = b := nI_clamp hb31
  have hP := G.1.obj hi3 hR
  have hap := va_apart (own := own) hts K.2.1 ty K.2.2.1 K.2.2.2 C.K.1 K.1
  obtain ⟨r, h1, cell, q1, q2, q3, q4⟩ := hP 0 _ rfl
  have hr : r = (Cn, T, jN 3) := Option.some.inj (h1.symm.trans K.1)
  subst hr
  obtain ⟨hS, hfc, kC, hkC, hkind⟩ := C.K.1.1 3 _ K.1
  obtain ⟨cf, kf, fi, f, hf, hsl⟩ := hS 0 hk
  have hlay := hts _ (K.2.1 _ (u_in_lay hk))
  unfold u_lay at hlay
  rw [if_neg (by rw [hfin]; decide)] at hlay
  have hst := (u_facts hfc hkC (u_lays hts K.2.1 hk) hf).1
  have h6 := u_store hfc hkC hkind hlay hf hd (hn (g 0 b)) (hfit (g 0 b))
  refine W.putK C.x C.b (f := f) ⟨C.ow, hts _ hl, ⟨_, _, _, hf⟩, hst⟩ (by rw [q2]; exact h6) q1 q3 (by rw [hsl]; exact k2_hasslot (q4 0 hk)) rfl rfl d fun H' e1 e2 e3 => ?_
  rw [hsl] at e1
  have hV : jV g (jup M 3 i 0 (nI b)) 3 i 0 = .ref (g 0 b) := by
    show Value.ref (g 0 (jup M 3 i 0 (nI b) 3 i 0).toNatClampNeg) = _
    rw [jup_self, hcl]
  refine kk H' _ ⟨G.1.set (by decide) hi3 ?_ e3 (fun j hj => ?_), G.2.put e2 e3 (G.1.1 3 i hi3).2⟩
  · rw [jC, if_pos hR, ← jFs_up hV]
    exact ⟨_, K.1, t_OB.to (V := updV (vp_V (jFs g M 3 i)) 0 (.ref (g 0 b))) ⟨_, e1, q2, q3, t_set q4 hap hk (.ref (g 0 b))⟩ (fun j _ => vp_updV_set (by rw [jFs_len]; exact hk) (.ref (g 0 b)) j)⟩
  · by_cases e : j = i
    · rw [e, jup_self, hcl]; exact hbn
    · rw [jup_ne (fun q => e q.2.1)]; exact G.1.2.2 j hj
end JR
