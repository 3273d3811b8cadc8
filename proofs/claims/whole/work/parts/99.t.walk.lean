/-! ===== the law's head: three makings ===== -/
section
variable {p : Program} {l : Launch} {e : Env} {R0 : Room} {s : State} {m : MethodId} {args : Array Value} {below : List Frame} {meth : Method} {c : Code} {H : Heap} {locs : List Loc} {cells slots : Nat} {Qf : State → Prop}
variable {cc : ByteArray} {nL d mc ms yL : Nat} {D : va_G} {cA : Nat → ClassId} {pc i1 i2 R1 n : Nat} {ls : Array Slot} {rest : List Value} {own Cn : String} {T : u_T} {ty : Nat → FieldType} {df : List Value} {fin : Nat → List Value} {L2 : (Nat → ClassId) → Nat → List va_E} {y : MethodName} {ycc : ByteArray}
theorem s_obj (hx : p.tables.exec = Jvm.exec) (hb : c.code = cc) (hml : c.maxLocals = nL) (hown : s.vm.findClass own = some m.cls) (hw : ∀ w ∈ WT, w.before args s = true) (hK : jK D cA s) (hN : kNest s) (K : jCl R1 Cn T ty) (k : kOk y ycc yL d mc ms R1 df [] fin L2)
    (w1 : Cond.classLink own i1 Cn ∈ WT) (w2 : Cond.instantiable Cn (jN R1) ∈ WT) (w3 : Cond.initialized Cn ∈ WT) (w4 : Cond.methodLink own i2 y ∈ WT) (w5 : Cond.instanceMethod y ∈ WT) (w6 : Cond.code y ycc yL none ∈ WT) (hy : y.cls = Cn)
    (hd : y.name = "<init>" ∧ y.cls ≠ "java/lang/invoke/MethodHandle" ∧ y.cls ≠ "java/lang/invoke/VarHandle" ∧ (parseMethodDescriptor y.desc).map (fun d => d.parameters.length) = some 0) (hfs : ∀ j, j < jN R1 → defaultValue (ty j) = vp_V df j)
    (hc : cells + 1 + mc ≤ R0.cells) (hs : slots + jN R1 + ms ≤ R0.slots) (hd1 : d + 1 ≤ R0.frames) (hlo : 8 + (yL + 11) + 50 * d ≤ R0.locals) (hsz : ls.size = nL) (hrest : (rest.map fun v => v.category).sum ≤ 6) (hH : H.size = n)
    (d0 : decode cc pc = .ok (.new i1, 3)) (d3 : decode cc (pc + 3) = .ok (.dup, 1)) (d4 : decode cc (pc + 4) = .ok (.invokespecial i2, 3))
    (kk : ∀ (H1 : Heap) (locs1 : List Loc), H1.size = n + 1 + (L2 cA (n + 1)).length → va_at D vwCl (n, .inr (R1, fin (n + 1))) H1 → (∀ (j : Nat) (e : va_E), (L2 cA (n + 1))[j]? = some e → va_at D vwCl (n + 1 + j, e) H1) → (∀ q : Nat, q < n → H1[q]? = H[q]?) → (∀ z ∈ locs1, z ∈ locs ∨ n ≤ z.base) → W p l e R0 s m args below meth c H1 locs1 (cells + 1 + mc) (slots + jN R1 + ms) Qf (F0 m (pc + 7) ls (.ref n :: rest))) : W p l e R0 s m args below meth c H locs cells slots Qf (F0 m pc ls rest) := by
  subst hH
  subst hy
  have hKn := hK.1.1 R1 _ K.1
  have d4' : decode cc (pc + 3 + 1) = .ok (.invokespecial i2, 3) := d4
  refine W.newcK hx hb hown (hw _ w1) (hw _ w2) (hw _ w3) rfl d0 (by omega) (show slots + jN R1 ≤ _ by omega) hKn.2.1 rfl fun H1 kC hkC e1 z1 o1 => ?_
  refine lv_dup hx hb d3 rfl ?_
  have hr2 : ((Value.ref H.size :: rest).map fun v => v.category).sum ≤ 8 := by
    rw [List.map_cons, List.sum_cons]
    show 1 + _ ≤ 8
    omega
  have hcw := cwI (R := R0) (rm := jRm d mc ms) (own := own) (index := i2) (y := y) 0 hw (wt_in (wt_cons w6)) rfl rfl rfl (hw _ w3) (hw _ w4) (hw _ w5) hd.1 hd.2 ⟨hd1, hlo⟩
  have hr := va_runI (p := p) (l := l) (e := e) (m := m) (below := below) (meth := meth) (locs := locs) (cells := cells + 1) (slots := slots + jN R1) (rest := .ref H.size :: rest) (H := H1) (g := F0 m (pc + 3 + 1) ls (.ref H.size :: .ref H.size :: rest)) ⟨hx, hb, hml, hown, hw⟩ (k l D cA H1.size H.size) hcw
    ⟨kPre.blind, fun U hU hW => ⟨rfl, by rw [hU], by rw [z1]; exact Nat.lt_succ_self _, by rw [hU]; exact ⟨_, K.1, (u_born ty hw K.2.1 hKn hkC e1 K.2.2.1).to hfs⟩, hK.moved hW.alike, hN.step hW⟩⟩ rfl rfl hsz rfl (jr_room hr2 rfl) d4' ⟨by omega, by omega⟩
  intro T hT X
  obtain ⟨v, st₀, t, T', L9, h0, X', hL, e2, e3, ⟨hv, hB⟩, st⟩ := hr T hT X
  cases hv
  obtain ⟨b1, b2, b3, b4⟩ := hB
  rw [h0] at b4
  rw [z1] at b1 b2 b3 b4 hL
  have K9 := kk T'.heap (locs ++ L9) (by rw [e2]; exact b1) (by rw [e2]; exact b2) (by rw [e2]; exact b3) (fun q hq => by rw [e2, b4 q (by omega) (by omega), o1 q hq]) (fun z hz => by
    rcases List.mem_append.mp hz with h | h
    · exact Or.inl h
    · rcases hL z h with h8 | h8
      · exact Or.inr (by rw [h8]; exact Nat.le_refl _)
      · exact Or.inr (by omega)) T' rfl X'
  obtain ⟨t2, a1, c1⟩ := K9
  exact ⟨t2, st t2 a1, c1⟩
end
theorem wd97 : Cond.classLink "LoopFuserLaw" 8 "LoopFuser" ∈ WT := wt_of (i := 97) (by decide +kernel) (by decide +kernel)
theorem wd1185 : Cond.classLink "LoopFuserLaw" 112 "LoopFuserModel" ∈ WT := wt_of (i := 1185) (by decide +kernel) (by decide +kernel)
theorem wd98 : Cond.instantiable "LoopFuser" 9 ∈ WT := wt_of (i := 98) (by decide +kernel) (by decide +kernel)
theorem wd1186 : Cond.instantiable "LoopFuserModel" 31 ∈ WT := wt_of (i := 1186) (by decide +kernel) (by decide +kernel)
theorem wd99 : Cond.methodLink "LoopFuserLaw" 111 ⟨"LoopFuser", "<init>", "()V"⟩ ∈ WT := wt_of (i := 99) (by decide +kernel) (by decide +kernel)
theorem wd1187 : Cond.methodLink "LoopFuserLaw" 114 ⟨"LoopFuserModel", "<init>", "()V"⟩ ∈ WT := wt_of (i := 1187) (by decide +kernel) (by decide +kernel)
theorem wd100 : Cond.instanceMethod ⟨"LoopFuser", "<init>", "()V"⟩ ∈ WT := wt_of (i := 100) (by decide +kernel) (by decide +kernel)
theorem wd1188 : Cond.instanceMethod ⟨"LoopFuserModel", "<init>", "()V"⟩ ∈ WT := wt_of (i := 1188) (by decide +kernel) (by decide +kernel)
theorem wd101 : Cond.code ⟨"LoopFuser", "<init>", "()V"⟩ prog_1_method_1_code 2 (Option.none : Option Jvm.ClassFile.FieldType) ∈ WT := wt_of (i := 101) (by decide +kernel) (by decide +kernel)
theorem wd1189 : Cond.code ⟨"LoopFuserModel", "<init>", "()V"⟩ prog_14_method_1_code 1 (Option.none : Option Jvm.ClassFile.FieldType) ∈ WT := wt_of (i := 1189) (by decide +kernel) (by decide +kernel)
theorem wd1616 : Cond.arrayClass .long ∈ WT := wt_of (i := 1616) (by decide +kernel) (by decide +kernel)
set_option maxHeartbeats 4000000 in
set_option maxRecDepth 100000 in
theorem whole_start {p : Program} {e : Env} {s : State} {m : MethodId} {below : List Frame} {meth : Method} {c : Code} (l : Launch) (hfl : l.flags = flags0) {b L : Nat} {xs : Nat → Int32} (hL : L ≤ 2560) (C0 : lw_At p s m meth c b L xs) : W p l e room_1 s m #[Value.ref b] below meth c s.heap [] 0 0 (lw_Z below #[Value.ref b] s) (entryFrame m ([Value.ref b] : List Value).toArray 7) := by
  obtain ⟨hx, hb, hr, hml, hown, hts, hX, hbl, hlocks, hgv⟩ := id C0
  obtain ⟨D, cA, hK⟩ := jK_start hts
  obtain ⟨sA, sB, hSt⟩ := jSt_start hts hgv
  have hw : ∀ w ∈ WT, w.before #[Value.ref b] s = true := fun w h => hts w (List.mem_filter.mp h).1
  have hN : kNest s := fun w h hc => kNW.same hc rfl (hts w h)
  have hl := lv_entry ([.ref b]) (n := 7) (Nat.le_of_ble_eq_true rfl)
  rw [lg_entry_eq]
  generalize (lg_sl ([.ref b]) ++ List.replicate (7 - (lg_sl ([.ref b])).length) Slot.unset).toArray = ls at hl ⊢
  have hl : lv_has ls 7 [(0, .ref b)] := hl
  refine s_obj (cc := cL_law) (R1 := 10) (n := s.heap.size) hx hb hml hown hw hK hN jc10 ko_X11 wd97 wd98 wd73 wd99 wd100 wd101 rfl ⟨rfl, by decide +kernel, by decide +kernel, by decide +kernel⟩ (by decide) (by decide) (Nat.le_of_ble_eq_true rfl) (by decide) (Nat.le_of_ble_eq_true rfl) hl.1 (Nat.le_of_ble_eq_true rfl) rfl dL_law_0 dL_law_3 dL_law_4 (fun H1 locs1 a1 a2 a3 a4 a5 => ?_)
  refine lv_astore_n (lv' := [(1, .ref s.heap.size), (0, .ref b)]) hx hb dL_law_7 rfl hl (by decide) rfl (fun ls hl => ?_)
  have z1 : H1.size = s.heap.size + 118 := a1
  refine s_obj (cc := cL_law) (R1 := 11) (n := s.heap.size + 118) hx hb hml hown hw hK hN jc11 ko_X12 wd1185 wd1186 wd84 wd1187 wd1188 wd1189 rfl ⟨rfl, by decide +kernel, by decide +kernel, by decide +kernel⟩ (by decide) (by decide) (Nat.le_of_ble_eq_true rfl) (by decide) (Nat.le_of_ble_eq_true rfl) hl.1 (Nat.le_of_ble_eq_true rfl) z1 dL_law_8 dL_law_11 dL_law_12 (fun H2 locs2 b1 b2 b3 b4 b5 => ?_)
  refine lv_astore_n (lv' := [(2, .ref (s.heap.size + 118)), (1, .ref s.heap.size), (0, .ref b)]) hx hb dL_law_15 rfl hl (by decide) rfl (fun ls hl => ?_)
  have z2 : H2.size = s.heap.size + 130 := b1
  refine lv_iconst (v := 1) hx hb dL_law_16 (by decide) ?_
  refine va_newaK (atype := .long) hx hb (hw _ wd1616) rfl dL_law_17 rfl (by decide) (N := 1) (by decide) (by decide) (by decide) (Nat.le_of_ble_eq_true rfl) z2 fun H3 cB e3 z3 o3 hAr hNm => ?_
  have hcB : cB = cA 61 := by
    have h9 : s.vm.findClass ("[" ++ (FieldType.long).toString) = some (cA 61) := (hK.2 61 (by decide) (by decide) (by decide)).2
    exact Option.some.inj (hNm.symm.trans h9)
  subst hcB
  refine lv_astore_n (lv' := [(3, .ref (s.heap.size + 130)), (2, .ref (s.heap.size + 118)), (1, .ref s.heap.size), (0, .ref b)]) hx hb dL_law_19 rfl hl (by decide) rfl (fun ls hl => ?_)
  refine lv_iconst (v := 0) hx hb dL_law_20 (by decide) ?_
  refine lv_istore (lv' := [(4, .int 0), (3, .ref (s.heap.size + 130)), (2, .ref (s.heap.size + 118)), (1, .ref s.heap.size), (0, .ref b)]) hx hb dL_law_21 hl (by decide) rfl (fun ls hl => ?_)
  have o2 : ∀ q : Nat, q < s.heap.size → H3[q]? = s.heap[q]? := fun q hq => by rw [o3 q (by omega), b4 q (by omega), a4 q hq]
  have o1 : ∀ q : Nat, q < s.heap.size + 118 → H3[q]? = H1[q]? := fun q hq => by rw [o3 q (by omega), b4 q hq]
  have hg70 : jg0 s.heap.size sA sB 70 = sA := rfl
  have hg71 : jg0 s.heap.size sA sB 71 = sB := rfl
  have C : jCx p l s m #[Value.ref b] meth c R_law cL_law 7 D cA s.heap.size (jg0 s.heap.size sA sB) := ⟨hx, hb, hml, hown, hlocks, hw, hK, Nat.le_refl _, hSt _ hg70 hg71, hfl⟩
  have hlen : (kl_X11 cA (s.heap.size + 1)).length = 117 := rfl
  have hlen2 : (kl_X12 cA (s.heap.size + 119)).length = 11 := rfl
  have hrep : jRep s.heap.size D cA (jg0 s.heap.size sA sB) jM0 H3 := by
    refine jRep0 (a2.kept (o1 _ (by omega))) (fun j e0 hj => ?_) (b2.kept (o3 _ (by omega))) (fun j e0 hj => ?_) ?_
    · have hj1 := (List.getElem?_eq_some_iff.mp hj).1
      exact (a3 j e0 hj).kept (o1 _ (by omega))
    · have hj1 := (List.getElem?_eq_some_iff.mp hj).1
      exact (b3 j e0 hj).kept (o3 _ (by omega))
    · show H3[s.heap.size + 130]? = some (vp_cell _ _)
      exact e3
  have hS : va_S (jA s.heap.size) s.heap H3 locs2 := by
    refine ⟨by omega, fun q hq _ => o2 q hq, fun z hz => ?_⟩
    rcases b5 z hz with h | h
    · rcases a5 z h with h | h
      · simp at h
      · exact h
    · show s.heap.size ≤ z.base
      omega
  have K := law_ok (xs := xs) hL 513 0 jM0 (by omega) Rz_0 p l e s m below meth c b D cA (jg0 s.heap.size sA sB) C0 C H3 locs2 ⟨hrep, hS⟩ ls (lv_sub hl [4, 3, 2, 1, 0] rfl)
  exact K
