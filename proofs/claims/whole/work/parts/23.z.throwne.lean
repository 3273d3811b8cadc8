/-! ===== throw new NoSuchElementException("text"): a constructor whose call of its superclass's lies at another place of its pool; no traces ===== -/
section JNE
variable {p : Program} {l : Launch} {e : Env} {R : Room} {s : State} {m : MethodId} {args : Array Value} {below : List Frame} {meth : Method} {c : Code} {W0 : State} {cells slots : Nat}
set_option maxHeartbeats 2000000 in
theorem jne_ctor (X : Stand p l e R s m args below meth c W0 [] cells slots) (hx : p.tables.exec = Jvm.exec) (htr : e.platform.stackTraces = false) {own cls : String} {names : List String} {ic ix : Nat} {rx : ByteArray}
    (x0 : decode rx 0 = .ok (.aload_n 0, 1)) (x1 : decode rx 1 = .ok (.aload_n 1, 1)) (x2 : decode rx 2 = .ok (.invokespecial ix, 3)) (x5 : decode rx 5 = .ok (.return_, 1))
    (hown : s.vm.findClass own = some m.cls) (hc : Bundle.fit cls = true) (hn : ∀ n ∈ names, Bundle.fit n = true) (hw : ∀ w ∈ Bundle.ownAtomsX own ic cls ix rx names, w.before args s = true) (hcode : (Cond.code (Bundle.initS cls) rx 2 none).before args s = true) (hins : (Cond.instanceMethod (Bundle.initS cls)).before args s = true)
    {a : Addr} {cX : ClassId} {kX : Class} (hf : s.vm.findClass cls = some cX) (hk : s.vm.classes[cX]? = some kX) (hcell : W0.heap[a]? = some (freshCell cX kX)) (hnew : s.heap.size ≤ a) {msg : Value} (hmsg : msg.isRef = true)
    {g : JFrame} (hg : g.method = m) (hz : g.locals.size = c.maxLocals) (hlk : g.locked = none) (hen : g.entered = []) {rest : List Value} (hst : g.stack = msg :: .ref a :: .ref a :: rest)
    (d6 : decode c.code g.pc = .ok (.invokespecial ic, 3)) (d9 : decode c.code (g.pc + 3) = .ok (.athrow, 1)) (hout : ∀ x ∈ c.exceptionTable.toList, covers x (g.pc + 3) = false)
    (hR1 : names.length + 3 < R.frames) (hR2 : 2 * g.monitorRoom + ((Value.ref a :: rest).map fun v => v.category).sum + (13 * (names.length + 1) + 42) ≤ R.locals) (hlocks : meth.locks = false) :
    ∃ U : State, Steps p.tables e below (W0.setTop g) U ∧ U.status = .running ∧ Ended U below (.threw a) ∧ s.WarmedH U.vm ∧ s.sameButNew ({ U with vm := s.vm } : State) [] cells slots ∧ ∃ ce, U.heap[a]? = some ce ∧ ce.cls = cX ∧ ce.vm = .none := by
  have pl1 : e.platform.frameOwnsMonitors = true := by rw [X.admits.platform]
  have pl2 : e.platform.finalization = false := by rw [X.admits.platform]
  have pl3 : e.platform.magicAccessors = ({} : Platform).magicAccessors := by rw [X.admits.platform]
  have sub : ∀ w, w ∈ [Cond.methodLink own ic (Bundle.initS cls), .instantiable cls 6, .castable cls cls, .selects cls Bundle.tFill0 Bundle.tFill0, .selects cls Bundle.tFill Bundle.tFill,
      .lays cls Bundle.tN "cause" "Ljava/lang/Throwable;", .lays cls Bundle.tN "stackTrace" Bundle.steD, .lays cls Bundle.tN "suppressedExceptions" Bundle.listD, .lays cls Bundle.tN "detailMessage" "Ljava/lang/String;",
      .isRef (.static Bundle.tN "UNASSIGNED_STACK" Bundle.steD), .isRef (.static Bundle.tN "SUPPRESSED_SENTINEL" Bundle.listD),
      .fieldLink Bundle.tN 198 Bundle.tN "backtrace" "Ljava/lang/Object;", .lays Bundle.tN Bundle.tN "backtrace" "Ljava/lang/Object;", .lays cls Bundle.tN "backtrace" "Ljava/lang/Object;"] → w.before args s = true := fun w h => hw w (List.mem_append_right _ h)
  have at4 : ∀ (k : Nat) (w : Cond), ([Cond.methodLink own ic (Bundle.initS cls), .instantiable cls 6, .castable cls cls, .selects cls Bundle.tFill0 Bundle.tFill0, .selects cls Bundle.tFill Bundle.tFill,
      .lays cls Bundle.tN "cause" "Ljava/lang/Throwable;", .lays cls Bundle.tN "stackTrace" Bundle.steD, .lays cls Bundle.tN "suppressedExceptions" Bundle.listD, .lays cls Bundle.tN "detailMessage" "Ljava/lang/String;",
      .isRef (.static Bundle.tN "UNASSIGNED_STACK" Bundle.steD), .isRef (.static Bundle.tN "SUPPRESSED_SENTINEL" Bundle.listD),
      .fieldLink Bundle.tN 198 Bundle.tN "backtrace" "Ljava/lang/Object;", .lays Bundle.tN Bundle.tN "backtrace" "Ljava/lang/Object;", .lays cls Bundle.tN "backtrace" "Ljava/lang/Object;"] : List Cond)[k]? = some w → w.before args s = true := fun k w h => sub w (List.mem_of_getElem? h)
  have up : ∀ w ∈ Bundle.throwableAtoms ++ Bundle.throwableSAtoms ++ Bundle.chainSAtomsX cls ix rx names, w.before args s = true := fun w h => hw w (List.mem_append_left _ h)
  obtain ⟨T, Z0, L, -, Y⟩ := ThrowableC.of_atoms (args := args) (s := s) pl1 pl2 pl3 (fun w h => up w (List.mem_append_left _ (List.mem_append_left _ h)))
  obtain ⟨Z, N, LZ, LN, htop⟩ := Init0T.ofS_atoms (args := args) (s := s) pl3 L Y (fun w h => up w (List.mem_append_left _ (List.mem_append_right _ h)))
  obtain ⟨P, Ps, hlen, LP, LPs, hnm, hl1, hl2⟩ := Bundle.chainSX (args := args) (s := s) pl3 htop x0 x1 x2 x5 names cls hc hn (fun w h => up w (List.mem_append_right _ h))
  have hcl : s.vm.findClass cls = some P.m.cls := findClass_of_methodNamed hnm
  obtain rfl : cX = P.m.cls := Option.some.inj (hf.symm.trans hcl)
  obtain ⟨c1, k1, hc1, hk1, hord, -⟩ := Cond.instantiable_spec (at4 1 _ rfl)
  obtain rfl : P.m.cls = c1 := Option.some.inj (hcl.symm.trans hc1)
  obtain rfl : kX = k1 := Option.some.inj (hk.symm.trans hk1)
  have pick : ∀ (y : MethodName) (i : MethodId), (Cond.selects cls y y).before args s = true → s.methodNamed? y = some i → s.methodFound? y.cls y.name y.desc = some i → selectMethod e.platform s.vm P.m.cls i = .method i := fun y i h h1 h2 => by
    obtain ⟨c2, r2, m2, q1, q2, q3, q4, -⟩ := Cond.selects_spec h
    cases Option.some.inj (q1.symm.trans hcl)
    cases Option.some.inj (q2.symm.trans h2)
    cases Option.some.inj (q3.symm.trans h1)
    rw [Launch.admits_selectMethod X.admits]
    exact q4
  have s0 := pick _ _ (at4 3 _ rfl) Y.fill0 (State.methodFound?_of_named Y.fill0 (by decide))
  have s1 := pick _ _ (at4 4 _ rfl) Y.fill (State.methodFound?_of_named Y.fill (by decide))
  obtain ⟨cS0, hcS0, hiss⟩ := Y.statics
  obtain ⟨u0, hu0⟩ := Cond.staticRefV Y.unassigned L.unassignedStatic L.statics hcS0 hiss (at4 9 _ rfl)
  obtain ⟨sen, hsen⟩ := Cond.staticRefV Y.sentinel L.sentinelStatic L.statics hcS0 hiss (at4 10 _ rfl)
  obtain ⟨ci, ib, fB, b1, b2, b3, b4, -, b5, b6, b7⟩ := Cond.ownField (t := .object "java/lang/Object") Y.found L.cls (by decide +kernel) (at4 11 _ rfl) (at4 12 _ rfl) e.platform pl3
  obtain ⟨cS, hcS, heS, -, hkeep⟩ := X.same.2.2.2.2.2 T.aS cS0 hcS0
  have hkeep' : ∀ i, cS.slots[i]? = cS0.slots[i]? := fun i => hkeep i (fun h => nomatch h)
  have hknown : cS.vm ≠ .unknown := fun hu => by
    rw [heS] at hu
    rw [show cS0.vm = .unknown from hu] at hiss
    cases hiss
  have hne : T.aS ≠ a := Nat.ne_of_lt (Nat.lt_of_lt_of_le (Array.getElem?_eq_some_iff.mp hcS0).1 hnew)
  obtain ⟨iM, hM⟩ := Y.msg
  obtain ⟨tC, dC, fC, nC⟩ := Cond.laysAt hcl hk Y.cause (at4 5 _ rfl)
  obtain ⟨tS, dS, fS, nS⟩ := Cond.laysAt hcl hk Y.stack (at4 6 _ rfl)
  obtain ⟨tP, dP, fP, nP⟩ := Cond.laysAt hcl hk Y.supp (at4 7 _ rfl)
  obtain ⟨tM, dM, fM, nM⟩ := Cond.laysAt hcl hk hM (at4 8 _ rfl)
  obtain ⟨tB, dB, fBB, nB⟩ := Cond.laysAt hcl hk b7 (at4 13 _ rfl)
  have aC := Cond.laysApart fBB fC nB nC (by rw [b5, Y.causeName]; decide)
  have aS := Cond.laysApart fBB fS nB nS (by rw [b5, Y.stackName]; decide)
  have aP := Cond.laysApart fBB fP nB nP (by rw [b5, Y.suppName]; decide)
  have skip : SkipFacts T e.platform s (fun u => u) u0 ((preparedCellV T.toThrowableT (freshCell P.m.cls kX) a u0 sen).withEntry W0.cur) := by
    refine ⟨{ ci198 := ci, i198 := ib, fBack := fB }, ⟨b1, b2, b3, b4⟩, ?_, fun _ _ => rfl⟩
    have h9 := fresh_default (c := P.m.cls) tB
    rw [b6] at h9
    simpa [preparedCellV, Cell.setSlot, Cell.withEntry, Array.getElem?_setIfInBounds, aC, aS, aP, aC.symm, aS.symm, aP.symm, defaultValue] using h9
  obtain ⟨mi, -, -, -, vm1, hmi, -, -, -, -, -, -, -, hW1, st1⟩ := Steps.initColdS (tb := p.tables) (e := e) (below := below) (s := s) (U := W0) X.here hx X.warmed pl3 hown (t := Bundle.initS cls) rfl rfl (Bundle.fit_spec hc).2 (at4 0 _ rfl) hins hcode
    (f := g) hg (a := a) (msg := msg) (rest := .ref a :: rest) hst d6
  obtain rfl : mi = P.m := Option.some.inj (hmi.symm.trans hnm)
  obtain ⟨vm2, X2, st2⟩ := (X.noted hW1).ctorMessageOffV hx (g := { g with stack := .ref a :: rest }) hg hz T L Z LZ N LN (P :: Ps)
    (fun Q hQ => by rcases List.mem_cons.mp hQ with rfl | hQ; exact LP; exact LPs Q hQ) ⟨hl1, hl2⟩ (u0 := u0) (sen := sen) (self := a) hmsg (cell := freshCell P.m.cls kX) (cellS := cS)
    hcell (fun _ => by simp) (by simp) rfl rfl s0 s1 hcS hne hknown (by rw [hkeep']; exact hu0) (by rw [hkeep']; exact hsen)
    (Takes.of_laid hk hord tC (by rw [Y.causeType]; rfl)) (Takes.of_laid hk hord tS (by rw [Y.stackType]; exact fits_refV_array _ u0)) (Takes.of_laid hk hord tP (by rw [Y.suppType]; exact fits_refV_object _ sen))
    (Takes.of_laid hk hord tM (by rw [Y.msgType]; exact fits_refV_object _ ⟨msg, hmsg⟩)) Y.objLocals skip htr [] d6
    (by simp only [List.length_cons, hlen]; omega) (by simp only [List.length_cons, hlen]; exact hR2)
  obtain ⟨w1, w2, w3, w4, w5⟩ := X2.athrowLeaves hx (g := { g with stack := .ref a :: rest, pc := g.pc + 3 }) hg hlk hen hout (a := a) (rest := rest) rfl d9
  have hlt : a < ((W0.setVm vm1).setVm vm2).heap.size := (Array.getElem?_eq_some_iff.mp hcell).1
  refine ⟨_, st1 _ (fun acts => ?_), w2, w3, w4, w5.weaken (fun y hy hlt2 => ?_) (Nat.le_refl _) (Nat.le_refl _), _, heapAt_setCell_self (s := (W0.setVm vm1).setVm vm2) (plainBareV T.toThrowableT (freshCell P.m.cls kX) a u0 sen msg) hlt, rfl, rfl⟩
  · rw [doInvoke_state]
    exact st2 _ w1
  · rw [List.nil_append] at hy
    have hb : y.base = a := by
      simp only [List.mem_cons, List.not_mem_nil, or_false] at hy
      rcases hy with rfl | rfl | rfl | rfl | rfl <;> rfl
    rw [hb] at hlt2
    exact absurd hlt2 (Nat.not_lt.mpr hnew)
end JNE
section JRNE
variable {p : Program} {l : Launch} {e : Env} {R0 : Room} {s : State} {m : MethodId} {args : Array Value} {below : List Frame} {meth : Method} {c : Code} {H : Heap} {locs : List Loc} {cells slots : Nat} {Qf : State → Prop}
variable {cc : ByteArray} {nL base : Nat} {D : va_G} {cA : Nat → ClassId} {g : Nat → Nat → Nat} {M : jM} {pc : Nat} {ls : Array Slot}
variable {Q : Int32 → Nat → jM → Prop} {X : String → jM → Prop} {rk mc0 ms0 : Nat}
abbrev jNE : String := "java/util/NoSuchElementException"
theorem jne_w1 : ∀ w ∈ (Bundle.ownAtomsX RX11 234 jNE 13 prog_30_method_4_code jNm).filter vx_no, w ∈ lw_tbl := by decide +kernel
theorem jne_w2 : ∀ w ∈ (Bundle.ownAtomsX RX11 234 jNE 13 prog_30_method_4_code jNm).filter vx_no, (goodWord w || jCD w) = true := by decide +kernel
theorem jne_w3 : ∀ w ∈ (Bundle.ownAtomsX RX11 234 jNE 13 prog_30_method_4_code jNm).filter vx_no, vx_ot w = true := by decide +kernel
theorem jne_w4 : Cond.classLink RX11 230 jNE ∈ WT := wt_of (i := 961) (by decide +kernel) (by decide +kernel)
theorem jne_w5 : Cond.initialized jNE ∈ WT := wt_of (i := 96) (by decide +kernel) (by decide +kernel)
theorem jne_throw (C : jCx p l s m args meth c RX11 cc nL D cA base g) (htb : ∀ x ∈ c.exceptionTable.toList, False) (G : jG base D cA g M s H locs) {text : String} {is n : Nat} (h : X jNE M) (k : Nat) (hk : jStrs[k]? = some (RX11, is, text))
    (hf : 5 < R0.frames) (hlo : 82 ≤ R0.locals) (hc : cells + 1 ≤ R0.cells) (hs : slots + 6 ≤ R0.slots) (hc0 : cells + 1 ≤ mc0) (hs0 : slots + 6 ≤ ms0) (hsz : ls.size = nL)
    (d0 : decode cc pc = .ok (.new 230, 3)) (d3 : decode cc (pc + 3) = .ok (.dup, 1)) (d4 : (n = 2 ∧ decode cc (pc + 4) = .ok (.ldc is, 2)) ∨ (n = 3 ∧ decode cc (pc + 4) = .ok (.ldc_w is, 3))) (d6 : decode cc (pc + 4 + n) = .ok (.invokespecial 234, 3)) (d9 : decode cc (pc + 4 + n + 3) = .ok (.athrow, 1)) :
    W p l e R0 s m args below meth c H locs cells slots (vx_MQ below (jQ rk Q base D cA g) (jXC X base D cA g) args s mc0 ms0 (jA base)) (F0 m pc ls []) := by
  intro T hT X1
  have hb := C.b
  have htr : e.platform.stackTraces = false := (show e.platform.stackTraces = l.stackTraces by rw [X1.admits.platform]).trans (jFlags C.fl)
  have Y := vx_rebase X1 (R' := { frames := R0.frames, locals := R0.locals, cells := 1, slots := 6 }) (Nat.le_refl _) (Nat.le_refl _) hc hs
  obtain ⟨z, hz⟩ : ∃ z, z = (T.setVm s.vm).setFrames (.invoking m args :: below) := ⟨_, rfl⟩
  rw [← hz] at Y
  have hvm : z.vm = s.vm := by rw [hz]; rfl
  have hhp : z.heap = H := by rw [hz]; exact hT
  have hW0 : s.WarmedH z.vm := by rw [hvm]; exact State.WarmedH.refl s
  have hold : ∀ w ∈ (Bundle.ownAtomsX RX11 234 jNE 13 prog_30_method_4_code jNm).filter vx_no, w.before args z = true := fun w hw => vx_ot_at hW0 hvm.symm (jne_w3 w hw) (by
    rcases Bool.or_eq_true _ _ ▸ jne_w2 w hw with q | q
    · exact C.w w (List.mem_filter.mpr ⟨jne_w1 w hw, q⟩)
    · exact jCD_use q (C.st.2.2.1 w (jne_w1 w hw) q))
  have hU : vx_Zq Bundle.tN "UNASSIGNED_STACK" Bundle.steD (jA base) z z.heap := by rw [hhp]; exact vx_Zq.moved hW0.alike (C.st.1.kept G.2.2.1)
  have hN : vx_Zq Bundle.tN "SUPPRESSED_SENTINEL" Bundle.listD (jA base) z z.heap := by rw [hhp]; exact vx_Zq.moved hW0.alike (C.st.2.1.kept G.2.2.1)
  have hall : ∀ w ∈ Bundle.ownAtomsX RX11 234 jNE 13 prog_30_method_4_code jNm, w.before args z = true := vx_own hold (vx_isRefq hU.1) (vx_isRefq hN.1) hU.2.word hN.2.word
  have hown : z.vm.findClass RX11 = some m.cls := by rw [hvm]; exact C.ow
  have k1 : (Cond.classLink RX11 230 jNE).before args z = true := vx_ot_at hW0 hvm.symm (by decide) (C.w _ jne_w4)
  have k2 : (Cond.initialized jNE).before args z = true := vx_ot_at hW0 hvm.symm (by decide) (C.w _ jne_w5)
  have k3 : (Cond.instantiable jNE 6).before args z = true := hall _ (by decide +kernel)
  obtain ⟨vm1, cX, kX, hfX, hkX, -, -, X2, st1⟩ := Y.newCold C.x (own := RX11) (C := jNE) (index := 230) (n := 6) hown k1 k3 k2
    (g := F0 m pc ls []) rfl (by rw [hb]; exact d0) (Nat.le_refl _) (Nat.le_refl _)
  generalize hT1 : (T.setVm vm1).pushCell { cls := cX, slots := kX.instanceTypes.map defaultValue, vm := .none } = T1 at X2 st1
  have hcat : (Value.ref T.heap.size).category = 1 := rfl
  have hcell : T1.heap[T.heap.size]? = some (freshCell cX kX) := by rw [← hT1]; exact State.heap_pushCell_size _ _
  have d3' : decode c.code (pc + 3) = .ok (.dup, 1) := by rw [hb]; exact d3
  have hstr := vk_R.warm hW0 (C.st.2.2.2.2.1 k _ hk)
  obtain ⟨U, hsteps, hrun, hend, hW, hsame, ce, hce, hcl, hcv⟩ := jne_ctor X2 C.x htr (own := RX11) (cls := jNE) (names := jNm) (ic := 234) (ix := 13) (rx := prog_30_method_4_code) (by decide +kernel) (by decide +kernel) (by decide +kernel) (by decide +kernel) hown (by decide +kernel) jNm_fit hall (hall _ (by decide +kernel)) (hall _ (by decide +kernel)) hfX hkX hcell (by rw [hhp, hT]; exact Nat.le_refl _) (msg := .ref (g 70 k)) rfl
    (g := { method := m, pc := pc + 4 + n, locals := ls, stack := .ref (g 70 k) :: .ref T.heap.size :: .ref T.heap.size :: [], locked := none }) rfl (hsz.trans C.ml.symm) rfl rfl (rest := []) rfl
    (by rw [hb]; exact d6) (by rw [hb]; exact d9) (fun x hx => (htb x hx).elim) hf (by simp only [List.map_cons, List.sum_cons, hcat]; exact hlo) C.lk
  obtain ⟨f1, f2⟩ := vx_frame hsame
  rw [hhp] at f1 f2
  have hWs : s.WarmedH U.vm := State.WarmedH.trans hW0 hW
  have hce2 : s.vm.findClass jNE = some ce.cls := by rw [hcl, ← hvm]; exact hfX
  have hsm : s.sameButNew ({ U with vm := s.vm } : State) locs mc0 ms0 := by
    subst hz
    obtain ⟨q1, q2⟩ := hsame
    rw [State.setFrames_setFrames] at q1
    have h2 : (T.setVm s.vm).sameButNew ({ U with vm := s.vm } : State) [] (0 + 1) (0 + 6) := ⟨q1, q2⟩
    have h3 := X1.same.trans h2
    rw [List.append_nil] at h3
    exact h3.mono hc0 hs0
  refine ⟨U, ?_, .threw T.heap.size, hrun, hend, Or.inr ⟨T.heap.size, rfl, jNE, ce, locs, jr_thx C G h U f1 (fun q hq => f2 q hq (fun z hz => nomatch hz)), hce, hcv, hce2, hWs, hsm, G.2.2.2⟩⟩
  refine st1 _ ?_
  show Steps p.tables e below (T1.setTop { method := m, pc := pc + 3, locals := ls, stack := .ref T.heap.size :: [], locked := none }) _
  jvm_step X2.here [X2.here.top, C.x, d3', Value.category]
  rcases d4 with ⟨rfl, d4⟩ | ⟨rfl, d4⟩
  · exact X2.ldcString C.x (own := RX11) (text := text) (index := is) (a := g 70 k) hown hstr.1 hstr.2
      (g := { method := m, pc := pc + 4, locals := ls, stack := .ref T.heap.size :: .ref T.heap.size :: [], locked := none }) rfl (by rw [hb]; exact d4) _ hsteps
  · exact X2.ldcStringW C.x (own := RX11) (text := text) (index := is) (a := g 70 k) hown hstr.1 hstr.2
      (g := { method := m, pc := pc + 4, locals := ls, stack := .ref T.heap.size :: .ref T.heap.size :: [], locked := none }) rfl (by rw [hb]; exact d4) _ hsteps
theorem jr_throwNE (C : jCx p l s m args meth c RX11 cc nL D cA base g) (htb : ∀ x ∈ c.exceptionTable.toList, False) (G : jG base D cA g M s H locs) {text : String} {is : Nat} (h : X "java/util/NoSuchElementException" M) (k : Nat) (hk : jStrs[k]? = some (RX11, is, text))
    (hf : 5 < R0.frames) (hlo : 82 ≤ R0.locals) (hc : cells + 1 ≤ R0.cells) (hs : slots + 6 ≤ R0.slots) (hc0 : cells + 1 ≤ mc0) (hs0 : slots + 6 ≤ ms0) (hsz : ls.size = nL)
    (d0 : decode cc pc = .ok (.new 230, 3)) (d3 : decode cc (pc + 3) = .ok (.dup, 1)) (d4 : decode cc (pc + 4) = .ok (.ldc is, 2)) (d6 : decode cc (pc + 6) = .ok (.invokespecial 234, 3)) (d9 : decode cc (pc + 9) = .ok (.athrow, 1)) :
    W p l e R0 s m args below meth c H locs cells slots (vx_MQ below (jQ rk Q base D cA g) (jXC X base D cA g) args s mc0 ms0 (jA base)) (F0 m pc ls []) :=
  jne_throw C htb G h k hk hf hlo hc hs hc0 hs0 hsz d0 d3 (n := 2) (Or.inl ⟨rfl, d4⟩) d6 d9
theorem jr_throwWNE (C : jCx p l s m args meth c RX11 cc nL D cA base g) (htb : ∀ x ∈ c.exceptionTable.toList, False) (G : jG base D cA g M s H locs) {text : String} {is : Nat} (h : X "java/util/NoSuchElementException" M) (k : Nat) (hk : jStrs[k]? = some (RX11, is, text))
    (hf : 5 < R0.frames) (hlo : 82 ≤ R0.locals) (hc : cells + 1 ≤ R0.cells) (hs : slots + 6 ≤ R0.slots) (hc0 : cells + 1 ≤ mc0) (hs0 : slots + 6 ≤ ms0) (hsz : ls.size = nL)
    (d0 : decode cc pc = .ok (.new 230, 3)) (d3 : decode cc (pc + 3) = .ok (.dup, 1)) (d4 : decode cc (pc + 4) = .ok (.ldc_w is, 3)) (d7 : decode cc (pc + 7) = .ok (.invokespecial 234, 3)) (d10 : decode cc (pc + 10) = .ok (.athrow, 1)) :
    W p l e R0 s m args below meth c H locs cells slots (vx_MQ below (jQ rk Q base D cA g) (jXC X base D cA g) args s mc0 ms0 (jA base)) (F0 m pc ls []) :=
  jne_throw C htb G h k hk hf hlo hc hs hc0 hs0 hsz d0 d3 (n := 3) (Or.inr ⟨rfl, d4⟩) d7 d10
end JRNE
