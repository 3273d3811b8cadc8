/-! ===== constructors: the receiver at a, and the cells that come, one behind another, from n on ===== -/
def kFree (a n : Nat) : Nat → Prop := fun q => q = a ∨ n ≤ q
def kB (D : va_G) (n a R : Nat) (fs : List Value) (L : List va_E) (H0 H : Heap) : Prop :=
  H.size = n + L.length ∧ va_at D vwCl (a, .inr (R, fs)) H ∧ (∀ (j : Nat) (e : va_E), L[j]? = some e → va_at D vwCl (n + j, e) H) ∧ ∀ q : Nat, q < n → q ≠ a → H[q]? = H0[q]?
def kNW (w : Cond) : Bool := match w with
  | .methodLinkNest _ _ _ _ => true
  | .arrayOver (.object _) => true
  | .arrayOver (.array _) => true
  | _ => false
def kNest (U : State) : Prop := ∀ w ∈ lw_tbl, kNW w = true → w.before #[] U = true
theorem kNW.warm {w : Cond} (hc : kNW w = true) {s U : State} {A A' : Array Value} (hW : s.WarmedH U.vm) (h : w.before A s = true) : w.before A' U = true := by
  cases w with
  | methodLinkNest a i x hst => exact va_tabs rfl rfl (va_Nw.warmM hW (va_tabs rfl rfl h))
  | arrayOver t =>
    cases t with
    | object C => exact Cond.arrayOver_alike hW.alike h
    | array t => exact arrayOver_alikeB hW.alike h
    | _ => simp [kNW] at hc
  | _ => simp [kNW] at hc
theorem kNest.step {s U : State} (hW : s.WarmedH U.vm) (h : kNest s) : kNest U := fun w hw hc => kNW.warm hc hW (h w hw hc)
theorem kNW.same {w : Cond} (hc : kNW w = true) {s U : State} {A A' : Array Value} (hv : s.vm = U.vm) (h : w.before A s = true) : w.before A' U = true := by
  cases w with
  | methodLinkNest a i x hst => exact va_tabs rfl hv h
  | arrayOver t =>
    cases t with
    | object C => exact Cond.arrayOver_alike (hv ▸ Vm.Alike.refl s.vm) h
    | array t => exact arrayOver_alikeB (hv ▸ Vm.Alike.refl s.vm) h
    | _ => simp [kNW] at hc
  | _ => simp [kNW] at hc
theorem kNest.same {u U : State} (hv : u.vm = U.vm) (h : kNest u) : kNest U := fun w hw hc => kNW.same hc hv (h w hw hc)
def kPre (D : va_G) (cA : Nat → ClassId) (n a R : Nat) (fs : List Value) (U : State) : Prop := U.heap.size = n ∧ a < n ∧ va_at D vwCl (a, .inr (R, fs)) U.heap ∧ jK D cA U ∧ kNest U
def kPost (D : va_G) (n a R : Nat) (fs : List Value) (L : List va_E) : Array Value → State → Outcome → State → Prop := fun _ st oc t => oc = .returned none ∧ kB D n a R fs L st.heap t.heap
/-- the constructor, on a receiver at a in a heap of n cells, fills it and makes the cells L -/
def kOk (y : MethodName) (cc : ByteArray) (mL d mc ms : Nat) (R : Nat) (df : List Value) (As : List Value) (fin : Nat → List Value) (L : (Nat → ClassId) → Nat → List va_E) : Prop :=
  ∀ (l : Launch) (D : va_G) (cA : Nat → ClassId) (n a : Nat), Met l y (Cond.code y cc mL none :: WT) (jRm d mc ms) (va_Pc (.ref a :: As) (kPre D cA n a R df)) (kPost D n a R (fin n) (L cA n)) mc ms (kFree a n)
def kCx (p : Program) (s : State) (m : MethodId) (args : Array Value) (meth : Method) (c : Code) (own : String) (cc : ByteArray) (nL : Nat) (D : va_G) (cA : Nat → ClassId) : Prop :=
  p.tables.exec = Jvm.exec ∧ c.code = cc ∧ c.maxLocals = nL ∧ s.vm.findClass own = some m.cls ∧ meth.locks = false ∧ (∀ w ∈ WT, w.before args s = true) ∧ jK D cA s ∧ kNest s ∧ meth.name = "<init>"
def kG (D : va_G) (n a R : Nat) (fs : List Value) (L : List va_E) (s : State) (H : Heap) (locs : List Loc) : Prop := kB D n a R fs L s.heap H ∧ n = s.heap.size ∧ a < n ∧ ∀ z ∈ locs, kFree a n z.base
section KR
variable {p : Program} {l : Launch} {e : Env} {R0 : Room} {s : State} {m : MethodId} {args : Array Value} {below : List Frame} {meth : Method} {c : Code} {H : Heap} {locs : List Loc} {cells slots : Nat} {Q : State → Prop}
variable {own : String} {cc : ByteArray} {nL : Nat} {D : va_G} {cA : Nat → ClassId} {pc n a R : Nat} {fs : List Value} {L : List va_E} {ls : Array Slot} {rest : List Value}
theorem kG.one (G : kG D n a R fs L s H locs) : va_P D vwCl [(a, .inr (R, fs))] H := fun k q hk => by
  cases k with
  | zero => cases hk; exact G.1.2.1
  | succ k => simp at hk
theorem kG.cell (G : kG D n a R fs L s H locs) {j : Nat} {e : va_E} (hj : L[j]? = some e) : va_P D vwCl [(n + j, e)] H := fun k q hk => by
  cases k with
  | zero => cases hk; exact G.1.2.2.1 j e hj
  | succ k => simp at hk
/-- one more cell -/
theorem kG.push {G0 : kG D n a R fs L s H locs} {H1 : Heap} {e0 : va_E} (hz : H1.size = H.size + 1) (ho : ∀ q, q < H.size → H1[q]? = H[q]?) (he : va_at D vwCl (n + L.length, e0) H1) : kG D n a R fs (L ++ [e0]) s H1 locs := by
  obtain ⟨⟨h1, h2, h3, h4⟩, h5, h6, h7⟩ := G0
  refine ⟨⟨by rw [hz, h1, List.length_append]; simp; omega, h2.kept (ho _ (by omega)), fun j e hj => ?_, fun q hq hne => ?_⟩, h5, h6, h7⟩
  · by_cases hl : j < L.length
    · rw [List.getElem?_append_left hl] at hj
      exact (h3 j e hj).kept (ho _ (by rw [h1]; omega))
    · rw [List.getElem?_append_right (by omega)] at hj
      have h0 : j - L.length < 1 := (List.getElem?_eq_some_iff.mp hj).1
      rw [show j - L.length = 0 by omega] at hj
      cases hj
      rw [show j = L.length by omega]
      exact he
  · rw [ho q (by omega)]; exact h4 q hq hne
/-- more cells -/
theorem kG.pushes {G0 : kG D n a R fs L s H locs} {H1 : Heap} {es : List va_E} (hz : H1.size = H.size + es.length) (ho : ∀ q, q < H.size → H1[q]? = H[q]?) (he : ∀ (j : Nat) (e0 : va_E), es[j]? = some e0 → va_at D vwCl (n + L.length + j, e0) H1) : kG D n a R fs (L ++ es) s H1 locs := by
  obtain ⟨⟨h1, h2, h3, h4⟩, h5, h6, h7⟩ := G0
  refine ⟨⟨by rw [hz, h1, List.length_append]; omega, h2.kept (ho _ (by omega)), fun j e hj => ?_, fun q hq hne => ?_⟩, h5, h6, h7⟩
  · by_cases hl : j < L.length
    · rw [List.getElem?_append_left hl] at hj
      exact (h3 j e hj).kept (ho _ (by rw [h1]; omega))
    · rw [List.getElem?_append_right (by omega)] at hj
      have h9 := he _ e hj
      rw [show n + L.length + (j - L.length) = n + j by omega] at h9
      exact h9
  · rw [ho q (by omega)]; exact h4 q hq hne
/-- the receiver is written -/
theorem kG.recv {G0 : kG D n a R fs L s H locs} {H1 : Heap} {fs1 : List Value} {i : Nat} (hz : H1.size = H.size) (ho : ∀ q, q ≠ a → H1[q]? = H[q]?) (he : va_at D vwCl (a, .inr (R, fs1)) H1) : kG D n a R fs1 L s H1 (locs ++ [⟨a, i⟩]) := by
  obtain ⟨⟨h1, h2, h3, h4⟩, h5, h6, h7⟩ := G0
  refine ⟨⟨by rw [hz]; exact h1, he, fun j e hj => (h3 j e hj).kept (ho _ (by show n + j ≠ a; omega)), fun q hq hne => ?_⟩, h5, h6, fun z hz => ?_⟩
  · rw [ho q hne]; exact h4 q hq hne
  · rcases List.mem_append.mp hz with h | h
    · exact h7 z h
    · rw [List.mem_singleton.mp h]; exact Or.inl rfl
/-- a cell is written -/
theorem kG.at {G0 : kG D n a R fs L s H locs} {H1 : Heap} {e0 e1 : va_E} {j i : Nat} (hj : L[j]? = some e0) (hz : H1.size = H.size) (ho : ∀ q, q ≠ n + j → H1[q]? = H[q]?) (he : va_at D vwCl (n + j, e1) H1) : kG D n a R fs (L.set j e1) s H1 (locs ++ [⟨n + j, i⟩]) := by
  obtain ⟨⟨h1, h2, h3, h4⟩, h5, h6, h7⟩ := G0
  refine ⟨⟨by rw [hz, List.length_set]; exact h1, h2.kept (ho _ (by show a ≠ n + j; omega)), fun k e hk => ?_, fun q hq hne => ?_⟩, h5, h6, fun z hz => ?_⟩
  · rw [List.getElem?_set] at hk
    by_cases hjk : j = k
    · subst hjk
      have hl : j < L.length := (List.getElem?_eq_some_iff.mp hj).1
      rw [if_pos rfl, if_pos hl] at hk
      cases hk
      exact he
    · rw [if_neg hjk] at hk
      exact (h3 k e hk).kept (ho _ (by show n + k ≠ n + j; omega))
  · rw [ho q (by omega)]; exact h4 q hq hne
  · rcases List.mem_append.mp hz with h | h
    · exact h7 z h
    · rw [List.mem_singleton.mp h]; exact Or.inr (Nat.le_add_right n j)
theorem k_new (C : kCx p s m args meth c own cc nL D cA) (G : kG D n a R fs L s H locs) {N1 : Nat} (hN1 : L.length = N1) {R1 : Nat} {Cn : String} {T : u_T} {ty : Nat → FieldType} (K : jCl R1 Cn T ty) {index : Nat} (w1 : Cond.classLink own index Cn ∈ WT) (w2 : Cond.instantiable Cn (jN R1) ∈ WT) (w3 : Cond.initialized Cn ∈ WT) (df : List Value) (hfs : ∀ j, j < jN R1 → defaultValue (ty j) = vp_V df j)
    (hcells : cells + 1 ≤ R0.cells) (hslots : slots + jN R1 ≤ R0.slots) (d : decode cc pc = .ok (.new index, 3))
    (kk : ∀ H : Heap, kG D n a R fs (L ++ [.inr (R1, df)]) s H locs → W p l e R0 s m args below meth c H locs (cells + 1) (slots + jN R1) Q (F0 m (pc + 3) ls (.ref (n + N1) :: rest))) : W p l e R0 s m args below meth c H locs cells slots Q (F0 m pc ls rest) := by
  subst hN1
  obtain ⟨hx, hb, hml, hown, hlk, hts, hK, hN, hin⟩ := C
  have hKn := hK.1.1 R1 _ K.1
  refine W.newcK hx hb hown (hts _ w1) (hts _ w2) (hts _ w3) rfl d hcells hslots hKn.2.1 G.1.1 fun H1 kC hkC e1 z1 o1 => ?_
  refine kk H1 (kG.push (G0 := G) (by rw [z1, G.1.1]) (fun q hq => o1 q (by rw [← G.1.1]; exact hq)) ⟨_, K.1, (u_born ty hts K.2.1 hKn hkC e1 K.2.2.1).to hfs⟩)
theorem k_newa (C : kCx p s m args meth c own cc nL D cA) (G : kG D n a R fs L s H locs) {N1 : Nat} (hN1 : L.length = N1) {atype : ArrayType} {ty : FieldType} (R1 : Nat) (w1 : Cond.arrayClass ty ∈ WT) (hty : newarray.typeOf atype = ty) (h1 : 20 ≤ R1) (h2 : R1 < 62) (h3 : jL R1 ≠ 0) (h5 : jTy R1 = ty) {k : Int32} {N : Nat} {a0 : vp_A} (ha : ∀ cA : ClassId, vp_cell cA a0 = arrV cA N (fun _ => defaultValue ty)) (hra : ∀ (U : State) (cB : ClassId), va_RA U cB ty → U.vm.findClass ("[" ++ ty.toString) = some cB)
    (hk : ¬ k < 0) (hN : k.toNatClampNeg = N) (hb : N * componentBytes ty ≤ 536870912) (hcells : cells + 1 ≤ R0.cells) (hslots : slots + N ≤ R0.slots) (d : decode cc pc = .ok (.newarray atype, 2))
    (kk : ∀ H : Heap, kG D n a R fs (L ++ [.inl (cA R1, a0)]) s H locs → W p l e R0 s m args below meth c H locs (cells + 1) (slots + N) Q (F0 m (pc + 2) ls (.ref (n + N1) :: rest))) : W p l e R0 s m args below meth c H locs cells slots Q (F0 m pc ls (.int k :: rest)) := by
  subst hN1
  obtain ⟨hx, hbb, hml, hown, hlk, hts, hK, hNs, hin⟩ := C
  subst hty
  refine va_newaK hx hbb (hts _ w1) rfl d rfl hk hN hb hcells hslots G.1.1 fun H1 cB e1 z1 o1 hAr hNm => ?_
  have hcB : cB = cA R1 := by
    have h9 := hra s (cA R1) (by rw [← h5]; exact (hK.2 R1 h1 h2 h3).2)
    exact Option.some.inj (hNm.symm.trans h9)
  subst hcB
  refine kk H1 (kG.push (G0 := G) (by rw [z1, G.1.1]) (fun q hq => o1 q (by rw [← G.1.1]; exact hq)) ?_)
  show H1[n + L.length]? = some (vp_cell _ _)
  rw [ha]; exact e1
theorem k_newq (C : kCx p s m args meth c own cc nL D cA) (G : kG D n a R fs L s H locs) {N1 : Nat} (hN1 : L.length = N1) {Cn : String} (R1 : Nat) {index : Nat} (w1 : Cond.classLink own index Cn ∈ WT) (w2 : Cond.arrayOver (.object Cn) ∈ lw_tbl) (h1 : 20 ≤ R1) (h2 : R1 < 62) (h3 : jL R1 ≠ 0) (h5 : jTy R1 = .object Cn) {k : Int32} {N : Nat} (hk : ¬ k < 0) (hN : k.toNatClampNeg = N) (hb : N * 4 ≤ 536870912) (hcells : cells + 1 ≤ R0.cells) (hslots : slots + N ≤ R0.slots) (d : decode cc pc = .ok (.anewarray index, 3))
    (kk : ∀ H : Heap, kG D n a R fs (L ++ [.inl (cA R1, N, .inr (.inr (.inr (.inr (fun _ => none)))))]) s H locs → W p l e R0 s m args below meth c H locs (cells + 1) (slots + N) Q (F0 m (pc + 3) ls (.ref (n + N1) :: rest))) : W p l e R0 s m args below meth c H locs cells slots Q (F0 m pc ls (.int k :: rest)) := by
  subst hN1
  obtain ⟨hx, hbb, hml, hown, hlk, hts, hK, hNs, hin⟩ := C
  subst hN
  refine W.anew hx hbb hown (hts _ w1) (kNW.same (hc := rfl) rfl (hNs _ w2 rfl)) rfl d rfl hk hb hcells hslots fun cB kA comp f1 f2 f3 f4 => ?_
  have hcB : cB = cA R1 := by
    have h9 := (hK.2 R1 h1 h2 h3).2
    rw [h5] at h9
    obtain ⟨kA9, comp9, -, -, -, q4⟩ := h9
    exact Option.some.inj (f1.symm.trans q4)
  subst hcB
  generalize hH1 : H.push ({ cls := cA R1, slots := Array.replicate k.toNatClampNeg .null, vm := .none } : Cell) = H1
  have z1 : H1.size = H.size + 1 := by rw [← hH1, Array.size_push]
  have e1 : H1[H.size]? = some (arrV (cA R1) k.toNatClampNeg (fun _ => .null)) := by rw [← hH1, Array.getElem?_push_size, ← arrV_new]
  have o1 : ∀ q, q < H.size → H1[q]? = H[q]? := fun q hq => by rw [← hH1, Array.getElem?_push, if_neg (Nat.ne_of_lt hq)]
  have K := kk H1 (kG.push (G0 := G) z1 o1 (by show H1[n + L.length]? = some (vp_cell _ _); rw [← G.1.1, e1]; rfl))
  rw [← G.1.1] at K
  exact K
theorem k_mna (C : kCx p s m args meth c own cc nL D cA) (G : kG D n a R fs L s H locs) {N1 : Nat} (hN1 : L.length = N1) (R1 R2 : Nat) {index : Nat} (w1 : Cond.classLink own index "[[I" ∈ WT) (w2 : Cond.arrayOver (.array .int) ∈ lw_tbl) (w3 : Cond.arrayClass .int ∈ WT) (h1 : 20 ≤ R1) (h2 : R1 < 62) (h3 : jL R1 ≠ 0) (h5 : jTy R1 = .array .int) (k1 : 20 ≤ R2) (k2 : R2 < 62) (k3 : jL R2 ≠ 0) (k5 : jTy R2 = .int)
    {x y : Int32} (hx : ¬ x < 0) (hy : ¬ y < 0) {N K : Nat} (hN : x.toNatClampNeg = N) (hK : y.toNatClampNeg = K) (hb1 : N * 4 ≤ 536870912) (hb2 : K * 4 ≤ 536870912) (hcells : cells + (1 + N) ≤ R0.cells) (hslots : slots + (N + N * K) ≤ R0.slots) (d : decode cc pc = .ok (.multianewarray index 2, 4))
    (kk : ∀ H : Heap, kG D n a R fs (L ++ (.inl (cA R1, N, .inr (.inr (.inr (.inr (fun i => if i < N then some (n + N1 + 1 + i) else none))))) :: List.replicate N (.inl (cA R2, K, .inl (fun _ => 0))))) s H locs → W p l e R0 s m args below meth c H locs (cells + 1 + N) (slots + N + N * K) Q (F0 m (pc + 4) ls (.ref (n + N1) :: rest))) : W p l e R0 s m args below meth c H locs cells slots Q (F0 m pc ls (.int y :: .int x :: rest)) := by
  subst hN1
  obtain ⟨hxx, hbb, hml, hown, hlk, hts, hKK, hNs, hin⟩ := C
  subst hN
  subst hK
  intro T hT Xs
  obtain ⟨vm₁, cA1, comp, -, fA, fC, hO, -, X', step⟩ := Xs.multianewarray2F hxx (own := own) (index := index) (ty := .int) hown (hts _ w1) (kNW.same (hc := rfl) rfl (hNs _ w2 rfl)) (hts _ w3) (g := F0 m pc ls (.int y :: .int x :: rest)) rfl (by rw [hbb]; exact d) rfl hx hy hb1 (by show _ * 4 ≤ _; exact hb2) (by omega) rfl rfl hcells hslots
  have e1 : cA1 = cA R1 := by
    have h9 := (hKK.2 R1 h1 h2 h3).2
    rw [h5] at h9
    exact Option.some.inj (fA.symm.trans h9)
  have e2 : comp = cA R2 := by
    have h9 := (hKK.2 R2 k1 k2 k3).2
    rw [k5] at h9
    exact Option.some.inj (fC.symm.trans h9)
  subst e1
  subst e2
  generalize hF : Jvm.Free.Multi.fill (T.setVm vm₁) (cA R1) (cA R2) x.toNatClampNeg y.toNatClampNeg (defaultValue .int) x.toNatClampNeg = F at X' step
  have hTh : (T.setVm vm₁).heap = H := hT
  obtain ⟨f1, f2, -, -⟩ := Jvm.Free.Multi.fill_facts (T.setVm vm₁) (cA R1) (cA R2) x.toNatClampNeg y.toNatClampNeg (defaultValue .int) x.toNatClampNeg
  rw [hF, hTh] at f1 f2
  have hold : ∀ q : Nat, q < H.size → F.heap[q]? = H[q]? := fun q hq => by
    have := Jvm.Free.Multi.fill_old (T.setVm vm₁) (cA R1) (cA R2) x.toNatClampNeg y.toNatClampNeg (defaultValue .int) (a := q) (by rw [hTh]; exact hq) x.toNatClampNeg
    rw [hF, hTh] at this
    exact this
  have hz : Jvm.Free.Multi.innerC (cA R2) y.toNatClampNeg (defaultValue .int) = vp_cell (cA R2) (y.toNatClampNeg, .inl (fun _ => 0)) := arrV_new _ _ _
  have hrow : ∀ j : Nat, j < x.toNatClampNeg → F.heap[H.size + 1 + j]? = some (vp_cell (cA R2) (y.toNatClampNeg, .inl (fun _ => 0))) := fun j hj => by
    have := Jvm.Free.Multi.fill_inner (T.setVm vm₁) (cA R1) (cA R2) x.toNatClampNeg y.toNatClampNeg (defaultValue .int) x.toNatClampNeg j hj
    rw [hF, hTh, hz] at this
    exact this
  rw [vr_outer] at f2
  have hn := G.1.1
  obtain ⟨t2, a1, b1⟩ := kk F.heap (kG.pushes (G0 := G) (by rw [f1, List.length_cons, List.length_replicate]; omega) hold (fun j e0 hj => by
    cases j with
    | zero =>
      cases hj
      show F.heap[n + L.length]? = some (vp_cell _ _)
      rw [← hn, vp_cell_q, f2, hn]
    | succ j =>
      rw [List.getElem?_cons_succ, List.getElem?_replicate] at hj
      by_cases hjl : j < x.toNatClampNeg
      · rw [if_pos hjl] at hj
        cases hj
        show F.heap[n + L.length + (j + 1)]? = some (vp_cell _ _)
        rw [show n + L.length + (j + 1) = H.size + 1 + j by omega]
        exact hrow j hjl
      · rw [if_neg hjl] at hj; cases hj)) F rfl X'
  refine ⟨t2, step t2 ?_, b1⟩
  have hq : T.heap.size = n + L.length := by rw [hT]; exact hn
  rw [hq]
  exact a1
/-- a field of the receiver is read -/
theorem k_get (C : kCx p s m args meth c own cc nL D cA) (G : kG D n a R fs L s H locs) {Cn : String} {T : u_T} {ty : Nat → FieldType} (K : jCl R Cn T ty) (k : Nat) {v : Value} (hk : k < jN R) (hv : fs[k]? = some v) {index : Nat} (hl : Cond.fieldLink own index (T k).1 (T k).2.1 (T k).2.2.1 ∈ WT) (d : decode cc pc = .ok (.getfield index, 3))
    (kk : W p l e R0 s m args below meth c H locs cells slots Q (F0 m (pc + 3) ls (v :: rest))) : W p l e R0 s m args below meth c H locs cells slots Q (F0 m pc ls (.ref a :: rest)) :=
  va_get C.1 C.2.1 C.2.2.2.2.2.1 K.2.1 C.2.2.2.1 C.2.2.2.2.2.2.1.1 G.one 0 rfl K.1 k hk (C.2.2.2.2.2.1 _ hl) (fun _ h => h) hv d kk
/-- a field of the receiver is written, in its constructor -/
theorem k_put (C : kCx p s m args meth c own cc nL D cA) (G : kG D n a R fs L s H locs) {Cn : String} {T : u_T} {ty : Nat → FieldType} (K : jCl R Cn T ty) (k : Nat) {v : Value} (hk : k < jN R) {index : Nat} (hl : Cond.fieldLink own index (T k).1 (T k).2.1 (T k).2.2.1 ∈ WT) (hfin : (T k).2.2.2 = false ∨ (T k).1 = own) {ft : FieldType} (hd : parseFieldDescriptor (T k).2.2.1 = some ft) (hnr : narrow ft v = v) (hfit : fits ft v = true) (hlen : fs.length = jN R) (d : decode cc pc = .ok (.putfield index, 3))
    (kk : ∀ (H : Heap) (locs : List Loc), kG D n a R (fs.set k v) L s H locs → W p l e R0 s m args below meth c H locs cells slots Q (F0 m (pc + 3) ls rest)) : W p l e R0 s m args below meth c H locs cells slots Q (F0 m pc ls (v :: .ref a :: rest)) := by
  obtain ⟨hx, hb, hml, hown, hlk, hts, hKK, hNs, hin⟩ := C
  have hap := va_apart (own := own) hts K.2.1 ty K.2.2.1 K.2.2.2 hKK.1 K.1
  obtain ⟨r, h1, cell, q1, q2, q3, q4⟩ := G.one 0 _ rfl
  have hr : r = (Cn, T, jN R) := Option.some.inj (h1.symm.trans K.1)
  subst hr
  obtain ⟨hS, hfc, kC, hkC, hkind⟩ := hKK.1.1 R _ K.1
  obtain ⟨cf, kf, fi, f, hf, hsl⟩ := hS k hk
  have hlay := hts _ (K.2.1 _ (u_in_lay hk))
  unfold u_lay at hlay
  have hst := (u_facts hfc hkC (u_lays hts K.2.1 hk) hf).1
  have fin : ∀ H' : Heap, H'[a]? = some (cell.setSlot f.slot v) → H'.size = H.size → (∀ q, q ≠ a → H'[q]? = H[q]?) → W p l e R0 s m args below meth c H' (locs ++ [⟨a, f.slot⟩]) cells slots Q (F0 m (pc + 3) ls rest) := by
    intro H' e1 e2 e3
    rw [hsl] at e1
    exact kk H' _ (kG.recv (G0 := G) e2 e3 ⟨_, K.1, t_OB.to (V := updV (vp_V fs) k v) ⟨_, e1, q2, q3, t_set q4 hap hk v⟩ (fun j _ => vp_updV_set (by rw [hlen]; exact hk) v j)⟩)
  by_cases hF : (T k).2.2.2 = true
  · rw [if_pos hF] at hlay
    have hdecl : (T k).1 = own := hfin.elim (fun h => by rw [hF] at h; cases h) id
    have hcf : m.cls = cf := by
      obtain ⟨_, _, c', _, _, _, -, -, hf', -, -, -, hown2, -⟩ := Cond.laysFinal_spec hlay
      have e1 : c' = cf := by have := hf.symm.trans hf'; simp at this; exact this.1.symm
      rw [hdecl] at hown2
      rw [← e1]; exact Option.some.inj (hown.symm.trans hown2)
    have h6 := u_fits hfc hkC hkind (Or.inr hlay) hf hd hnr hfit
    exact W.putFinK hx hb hown (hts _ hl) hf hst hcf hin (by rw [q2]; exact h6) q1 q3 (by rw [hsl]; exact k2_hasslot (q4 k hk)) rfl rfl d fin
  · rw [if_neg hF] at hlay
    have h6 := u_store hfc hkC hkind hlay hf hd hnr hfit
    exact W.putK hx hb (f := f) ⟨hown, hts _ hl, ⟨_, _, _, hf⟩, hst⟩ (by rw [q2]; exact h6) q1 q3 (by rw [hsl]; exact k2_hasslot (q4 k hk)) rfl rfl d fin
/-- an int of a new array is written -/
theorem k_iast (C : kCx p s m args meth c own cc nL D cA) (G : kG D n a R fs L s H locs) {R1 j N : Nat} {f : Nat → Int32} {x v : Int32} (hj : L[j]? = some (.inl (cA R1, N, .inl f))) (h1 : 20 ≤ R1) (h2 : R1 < 62) (h3 : jL R1 ≠ 0) (h5 : jTy R1 = .int) (hx : vp_in x N) (d : decode cc pc = .ok (.iastore, 1))
    (kk : ∀ (H : Heap) (locs : List Loc), kG D n a R fs (L.set j (.inl (cA R1, N, .inl (upd f x.toNatClampNeg v)))) s H locs → W p l e R0 s m args below meth c H locs cells slots Q (F0 m (pc + 1) ls rest)) : W p l e R0 s m args below meth c H locs cells slots Q (F0 m pc ls (.int v :: .int x :: .ref (n + j) :: rest)) := by
  have hK := (C.2.2.2.2.2.2.1.2 R1 h1 h2 h3).1
  rw [h5] at hK
  refine W.iast C.1 C.2.1 (G.cell hj 0 _ rfl) (hK N (fun i => .int (f i))) (fun q => by cases q) (by show ¬ (x < 0 ∨ (arrV _ _ _).slots.size ≤ _); rw [arrV_size]; exact hx) rfl rfl d fun H1 e1 z oq => ?_
  refine kk H1 _ (kG.at (G0 := G) hj z oq ?_)
  show H1[n + j]? = some (vp_cell _ _)
  rw [e1, vp_cell_i, vp_cell_i, arrV_store]
  congr 2
  funext q
  by_cases hq : q = x.toNatClampNeg
  · subst hq; simp [updV, upd]
  · simp [updV, upd, hq]
/-- a reference of a new array is written: a new object -/
theorem k_aast (C : kCx p s m args meth c own cc nL D cA) (G : kG D n a R fs L s H locs) {R1 R2 j jo N : Nat} {Cn : String} {T : u_T} {ty : Nat → FieldType} (K : jCl R2 Cn T ty) {f : Nat → Option Nat} {vs : List Value} {x : Int32} (hj : L[j]? = some (.inl (cA R1, N, .inr (.inr (.inr (.inr f)))))) (ho : L[jo]? = some (.inr (R2, vs))) (h1 : 20 ≤ R1) (h2 : R1 < 62) (h3 : jL R1 ≠ 0) (h5 : jTy R1 = .object Cn) (hx : vp_in x N) (d : decode cc pc = .ok (.aastore, 1))
    (kk : ∀ (H : Heap) (locs : List Loc), kG D n a R fs (L.set j (.inl (cA R1, N, .inr (.inr (.inr (.inr (va_up f x.toNatClampNeg (some (n + jo)))))))) ) s H locs → W p l e R0 s m args below meth c H locs cells slots Q (F0 m (pc + 1) ls rest)) : W p l e R0 s m args below meth c H locs cells slots Q (F0 m pc ls (.ref (n + jo) :: .int x :: .ref (n + j) :: rest)) := by
  have hKK := C.2.2.2.2.2.2.1
  have hRA := (hKK.2 R1 h1 h2 h3).2
  rw [h5] at hRA
  obtain ⟨kA, comp, k1, k2, k3, -⟩ := hRA
  have hcls := (hKK.1.1 R2 _ K.1).2
  have hcomp : comp = D.1 R2 := Option.some.inj (k3.symm.trans hcls.1)
  subst hcomp
  obtain ⟨kC, hkC, -⟩ := hcls.2
  obtain ⟨r, hr, cv, g1, g2, g3, -⟩ := G.cell ho 0 _ rfl
  have hlt : x.toNatClampNeg < N := Nat.not_le.mp fun q => hx (Or.inr q)
  refine W.aast C.1 C.2.1 (G.cell hj 0 _ rfl) (fun q h => by cases h) (fun h => by cases h) k1 k2 rfl hkC ⟨fun q => hx (Or.inl q), by show _ < (arrV _ _ _).slots.size; rw [arrV_size]; exact hlt⟩ g1 (fun q h => by rw [g3] at h; cases h) (by rw [g2]; exact hkC) (by rw [g2]; exact va_assign hcls) rfl rfl d fun H1 e1 z oq => ?_
  refine kk H1 _ (kG.at (G0 := G) hj z oq ?_)
  show H1[n + j]? = some (vp_cell _ _)
  rw [e1, vp_cell_q, vp_cell_q, arrV_store]
  congr 2
  funext q
  by_cases hq : q = x.toNatClampNeg
  · subst hq; simp [updV, va_up, va_rf]
  · simp [updV, va_up, hq]
theorem k_alen (C : kCx p s m args meth c own cc nL D cA) (G : kG D n a R fs L s H locs) {R1 j : Nat} {x : vp_A} {v : Int32} (hj : L[j]? = some (.inl (cA R1, x))) (h1 : 20 ≤ R1) (h2 : R1 < 62) (h3 : jL R1 ≠ 0) (hv : Int32.ofNat x.1 = v) (d : decode cc pc = .ok (.arraylength, 1))
    (kk : W p l e R0 s m args below meth c H locs cells slots Q (F0 m (pc + 1) ls (.int v :: rest))) : W p l e R0 s m args below meth c H locs cells slots Q (F0 m pc ls (.ref (n + j) :: rest)) :=
  va_alen C.1 C.2.1 (C.2.2.2.2.2.2.1.arr h1 h2 h3) (G.cell hj) 0 0 rfl rfl hv d kk
theorem k_ret (C : kCx p s m args meth c own cc nL D cA) (hr : meth.sig.returnType = none) (G : kG D n a R fs L s H locs) {mc ms : Nat} (hc : cells ≤ mc) (hs : slots ≤ ms) (d : decode cc pc = .ok (.return_, 1)) :
    W p l e R0 s m args below meth c H locs cells slots (MQ below (kPost D n a R fs L) args s mc ms (kFree a n)) (F0 m pc ls []) :=
  W.widen hc hs (W.vret C.1 C.2.1 hr (fun t ht _ => ⟨rfl, by rw [ht]; exact G.1⟩) G.2.2.2 d C.2.2.2.2.1)
/-- Object() -/
theorem k_obj (C : kCx p s m args meth c own cc nL D cA) {index : Nat} (w1 : Cond.methodLink own index Lib.objectInit ∈ WT) (w2 : Cond.instanceMethod Lib.objectInit ∈ WT) (w3 : Cond.code Lib.objectInit ⟨#[0xb1]⟩ 1 none ∈ WT) (hsz : ls.size = nL) (hf : 1 ≤ R0.frames) (hlo : (rest.map fun v => v.category).sum + 12 ≤ R0.locals) (d : decode cc pc = .ok (.invokespecial index, 3))
    (kk : W p l e R0 s m args below meth c H locs cells slots Q (F0 m (pc + 3) ls rest)) : W p l e R0 s m args below meth c H locs cells slots Q (F0 m pc ls (.ref a :: rest)) :=
  W.objInit C.1 C.2.1 C.2.2.2.1 (C.2.2.2.2.2.1 _ w1) (C.2.2.2.2.2.1 _ w2) (C.2.2.2.2.2.1 _ w3) rfl (hsz.trans C.2.2.1.symm) rfl d hf (by show 2 * 0 + _ + 12 ≤ _; omega) kk
theorem kPre.blind {fs : List Value} {av : List Value} : FrameBlind (va_Pc av (kPre D cA n a R fs)) := fun x U gg mk q =>
  ⟨q.1, q.2.1, q.2.2.1, q.2.2.2.1, jK.moved (u := U) (U := U.calling gg mk x) (Vm.Alike.refl U.vm) q.2.2.2.2.1, kNest.same (u := U) (U := U.calling gg mk x) rfl q.2.2.2.2.2⟩
/-- behind the call of a constructor on a new object -/
theorem k_after (G : kG D n a R fs L s H locs) {R2 jo mc ms : Nat} {df2 fin2 : List Value} {L2 : List va_E} {st0 : List Value} {ar : Array Value} (ho : L[jo]? = some (.inr (R2, df2)))
    (hr : va_Run p l e R0 s m args below meth c H locs cells slots mc ms (F0 m pc ls st0) rest (kPost D H.size (n + jo) R2 fin2 L2 ar) (kFree (n + jo) H.size))
    (kk : ∀ (H : Heap) (locs : List Loc), kG D n a R fs (L.set jo (.inr (R2, fin2)) ++ L2) s H locs → W p l e R0 s m args below meth c H locs (cells + mc) (slots + ms) Q (F0 m (pc + 3) ls rest)) : W p l e R0 s m args below meth c H locs cells slots Q (F0 m pc ls st0) := by
  intro T hT X
  obtain ⟨v, st₀, t, T', L9, h0, X', hL, e1, e2, ⟨hv, hB⟩, st⟩ := hr T hT X
  cases hv
  obtain ⟨⟨h1, h2, h3, h4⟩, h5, h6, h7⟩ := G
  obtain ⟨b1, b2, b3, b4⟩ := hB
  rw [h0] at b4
  have hjo : jo < L.length := (List.getElem?_eq_some_iff.mp ho).1
  have G9 : kG D n a R fs (L.set jo (.inr (R2, fin2)) ++ L2) s T'.heap (locs ++ L9) := by
    refine ⟨⟨by rw [e1, b1, h1, List.length_append, List.length_set]; omega, by rw [e1]; exact h2.kept (b4 a (by omega) (by omega)), fun j e0 hj => ?_, fun q hq hne => by rw [e1, b4 q (by omega) (by omega)]; exact h4 q hq hne⟩, h5, h6, fun z hz => ?_⟩
    · rw [e1]
      by_cases hl : j < L.length
      · rw [List.getElem?_append_left (by rw [List.length_set]; exact hl), List.getElem?_set] at hj
        by_cases hjj : jo = j
        · subst hjj
          rw [if_pos rfl, if_pos hl] at hj
          cases hj
          exact b2
        · rw [if_neg hjj] at hj
          exact (h3 j e0 hj).kept (b4 _ (by show n + j < H.size; omega) (by show n + j ≠ n + jo; omega))
      · rw [List.getElem?_append_right (by rw [List.length_set]; omega), List.length_set] at hj
        have h9 := b3 (j - L.length) e0 hj
        rw [h1, show n + L.length + (j - L.length) = n + j by omega] at h9
        exact h9
    · rcases List.mem_append.mp hz with h | h
      · exact h7 z h
      · rcases hL z h with h8 | h8
        · rw [h8]; exact Or.inr (by omega)
        · exact Or.inr (by omega)
  obtain ⟨t2, a1, c1⟩ := kk T'.heap (locs ++ L9) G9 T' rfl X'
  exact ⟨t2, st t2 a1, c1⟩
variable {y : MethodName} {ycc : ByteArray} {yL d d' : Nat} {index ar : Nat} {As : List Value}
theorem k_call (C : kCx p s m args meth c own cc nL D cA) (G : kG D n a R fs L s H locs) {N1 : Nat} (hN1 : L.length = N1) {R2 jo mc ms : Nat} {df2 : List Value} {fin2 : Nat → List Value} {L2 : (Nat → ClassId) → Nat → List va_E} {st0 : List Value} (h : kOk y ycc yL d mc ms R2 df2 As fin2 L2) (ho : L[jo]? = some (.inr (R2, df2)))
    (w1 : Cond.methodLink own index y ∈ WT) (w2 : Cond.instanceMethod y ∈ WT) (w4 : Cond.initialized y.cls ∈ WT) (w5 : Cond.code y ycc yL none ∈ WT)
    (hd : y.name = "<init>" ∧ y.cls ≠ "java/lang/invoke/MethodHandle" ∧ y.cls ≠ "java/lang/invoke/VarHandle" ∧ (parseMethodDescriptor y.desc).map (fun d => d.parameters.length) = some ar) (hn : As.length = ar) (hst : st0 = As.reverse ++ .ref (n + jo) :: rest)
    (hd1 : d + 1 ≤ d') (hyL : yL ≤ 31) (hc : cells + mc ≤ R0.cells) (hs : slots + ms ≤ R0.slots) (hR0 : R0.frames = d' ∧ R0.locals = 50 * d') (hsz : ls.size = nL) (hrest : (rest.map fun v => v.category).sum ≤ 8) (dc : decode cc pc = .ok (.invokespecial index, 3))
    (kk : ∀ (H : Heap) (locs : List Loc), kG D n a R fs (L.set jo (.inr (R2, fin2 (n + N1))) ++ L2 cA (n + N1)) s H locs → W p l e R0 s m args below meth c H locs (cells + mc) (slots + ms) Q (F0 m (pc + 3) ls rest)) : W p l e R0 s m args below meth c H locs cells slots Q (F0 m pc ls st0) := by
  subst hN1
  subst hst
  obtain ⟨hx, hb, hml, hown, hlk, hts, hK, hNs, hin⟩ := C
  have hjo : jo < L.length := (List.getElem?_eq_some_iff.mp ho).1
  have hcw := cwI (R := R0) (rm := jRm d mc ms) ar hts (wt_in (wt_cons w5)) rfl rfl rfl (hts _ w4) (hts _ w1) (hts _ w2) hd.1 hd.2 ⟨by rw [hR0.1]; exact hd1, by rw [hR0.2]; show 8 + (yL + 11) + 50 * d ≤ _; omega⟩
  have hr := va_runI (p := p) (l := l) (e := e) (m := m) (below := below) (meth := meth) (locs := locs) (cells := cells) (slots := slots) (rest := rest) (H := H) (g := F0 m pc ls (As.reverse ++ .ref (n + jo) :: rest)) ⟨hx, hb, hml, hown, hts⟩ (h l D cA H.size (n + jo)) hcw
    ⟨kPre.blind, fun U hU hW => ⟨rfl, by rw [hU], by rw [G.1.1]; omega, by rw [hU]; exact G.1.2.2.1 jo _ ho, hK.moved hW.alike, hNs.step hW⟩⟩ rfl hn hsz rfl (jr_room hrest rfl) dc ⟨hc, hs⟩
  refine k_after G ho hr ?_
  rw [G.1.1]
  exact kk
/-- .. by a nest mate -/
theorem k_callN (C : kCx p s m args meth c own cc nL D cA) (G : kG D n a R fs L s H locs) {N1 : Nat} (hN1 : L.length = N1) {R2 jo mc ms : Nat} {df2 : List Value} {fin2 : Nat → List Value} {L2 : (Nat → ClassId) → Nat → List va_E} {st0 : List Value} {host : String} (h : kOk y ycc yL d mc ms R2 df2 As fin2 L2) (ho : L[jo]? = some (.inr (R2, df2)))
    (w1 : Cond.methodLinkNest own index y host ∈ lw_tbl) (w2 : Cond.instanceMethod y ∈ WT) (w4 : Cond.initialized y.cls ∈ WT) (w5 : Cond.code y ycc yL none ∈ WT)
    (hd : y.name = "<init>" ∧ y.cls ≠ "java/lang/invoke/MethodHandle" ∧ y.cls ≠ "java/lang/invoke/VarHandle" ∧ (parseMethodDescriptor y.desc).map (fun d => d.parameters.length) = some ar) (hn : As.length = ar) (hst : st0 = As.reverse ++ .ref (n + jo) :: rest)
    (hd1 : d + 1 ≤ d') (hyL : yL ≤ 31) (hc : cells + mc ≤ R0.cells) (hs : slots + ms ≤ R0.slots) (hR0 : R0.frames = d' ∧ R0.locals = 50 * d') (hsz : ls.size = nL) (hrest : (rest.map fun v => v.category).sum ≤ 8) (dc : decode cc pc = .ok (.invokespecial index, 3))
    (kk : ∀ (H : Heap) (locs : List Loc), kG D n a R fs (L.set jo (.inr (R2, fin2 (n + N1))) ++ L2 cA (n + N1)) s H locs → W p l e R0 s m args below meth c H locs (cells + mc) (slots + ms) Q (F0 m (pc + 3) ls rest)) : W p l e R0 s m args below meth c H locs cells slots Q (F0 m pc ls st0) := by
  subst hN1
  subst hst
  obtain ⟨hx, hb, hml, hown, hlk, hts, hK, hNs, hin⟩ := C
  have hjo : jo < L.length := (List.getElem?_eq_some_iff.mp ho).1
  have hcw := va_cnB (R := R0) (args := args) (own := own) (index := index) (rm := jRm d mc ms) ar hts (wt_in (wt_cons w5)) rfl rfl rfl (hNs _ w1 rfl) (hts _ w4) hd.2 ⟨by rw [hR0.1]; exact hd1, by rw [hR0.2]; show 8 + (yL + 11) + 50 * d ≤ _; omega⟩
  have hr := va_runIN (p := p) (l := l) (e := e) (m := m) (below := below) (meth := meth) (locs := locs) (cells := cells) (slots := slots) (rest := rest) (H := H) (g := F0 m pc ls (As.reverse ++ .ref (n + jo) :: rest)) ⟨hx, hb, hml, hown, hts⟩ (h l D cA H.size (n + jo)) ⟨hcw, hd.1, hts _ w2⟩
    ⟨kPre.blind, fun U hU hW => ⟨rfl, by rw [hU], by rw [G.1.1]; omega, by rw [hU]; exact G.1.2.2.1 jo _ ho, hK.moved hW.alike, hNs.step hW⟩⟩ rfl hn hsz rfl (jr_room hrest rfl) dc ⟨hc, hs⟩
  refine k_after G ho hr ?_
  rw [G.1.1]
  exact kk
end KR
theorem k_enter {y : MethodName} {cc : ByteArray} {nL d mc ms R : Nat} {df As : List Value} {fin : Nat → List Value} {L : (Nat → ClassId) → Nat → List va_E} (hy : plainName y.cls = true) (hyn : y.name = "<init>") {lv : Nat → List (Nat × Value)} (hlv : ∀ a, lv_args 0 (.ref a :: As) = lv a) (hsz : (lg_sl (.ref 0 :: As)).length ≤ nL)
    (h : ∀ (p : Program) (l : Launch) (e : Env) (s : State) (m : MethodId) (args : Array Value) (below : List Frame) (meth : Method) (c : Code) (D : va_G) (cA : Nat → ClassId) (n a : Nat), kCx p s m args meth c y.cls cc nL D cA → meth.sig.returnType = none → ∀ (H : Heap), kG D n a R df [] s H [] → ∀ ls : Array Slot, lv_has ls nL (lv a) →
      W p l e (jRm d mc ms) s m args below meth c H [] 0 0 (MQ below (kPost D n a R (fin n) (L cA n)) args s mc ms (kFree a n)) (F0 m 0 ls [])) : kOk y cc nL d mc ms R df As fin L := by
  intro l D cA n a
  refine Met.ofW (cc := cc) (maxL := nL) (ret := none) hy rfl ?_
  intro p e s m args below meth c s₁ B hml hv
  obtain ⟨rfl, hH, han, hat, hK, hN⟩ := hv
  have hts : ∀ w ∈ WT, w.before (.ref a :: As).toArray s = true := fun w hw => atoms_spec (ws := Cond.code y cc nL none :: WT) B.pre w (List.mem_cons_of_mem _ hw)
  have hsz2 : (lg_sl (.ref a :: As)).length ≤ nL := hsz
  have hl := lv_entry (.ref a :: As) (n := nL) hsz2
  rw [lg_entry_eq]
  generalize (lg_sl (.ref a :: As) ++ List.replicate (nL - (lg_sl (.ref a :: As)).length) Slot.unset).toArray = ls at hl ⊢
  rw [hlv a] at hl
  exact h p l e s m _ below meth c D cA n a ⟨B.exec, B.bytes, hml, findClass_of_methodNamed B.named, B.notSynchronized, hts, hK, hN, (name_of_methodNamed B.named B.method).1.trans hyn⟩ B.returns s.heap ⟨⟨by simpa using hH, hat, fun j e0 hj => by simp at hj, fun q _ _ => rfl⟩, hH.symm, han, fun z hz => by cases hz⟩ ls hl
