section JR2
variable {p : Program} {l : Launch} {e : Env} {R0 : Room} {s : State} {m : MethodId} {args : Array Value} {below : List Frame} {meth : Method} {c : Code} {H : Heap} {locs : List Loc} {cells slots : Nat} {Q : State → Prop}
variable {own : String} {cc : ByteArray} {nL base : Nat} {D : va_G} {cA : Nat → ClassId} {g : Nat → Nat → Nat} {M : jM} {pc : Nat} {ls : Array Slot} {rest : List Value}
theorem jAr_int {R i : Nat} (h : jAK R ≠ 4) (h2 : jAK R ≠ 5) : jAr g M R i = (jL R, .inl (M R i)) := by
  unfold jAr
  split
  · rename_i h9; exact absurd h9 h
  · rename_i h9; exact absurd h9 h2
  · rfl
theorem jUpd {R i j : Nat} {v : Int32} : upd (M R i) j v = jup M R i j v R i := by
  funext q
  by_cases h : q = j
  · subst h; simp [upd, jup]
  · simp [upd, jup, h]
/-- an int of an array is read -/
theorem jr_ald (C : jCx p l s m args meth c own cc nL D cA base g) (G : jG base D cA g M s H locs) {R i : Nat} {x : Int32} (hi : i < jCnt M R) (h1 : 20 ≤ R) (h2 : R < 62) (h3 : jL R ≠ 0) (h4 : jAK R = 1) (h5 : jTy R = .int) (hx : vp_in x (jL R)) (d : decode cc pc = .ok (.iaload, 1))
    (kk : W p l e R0 s m args below meth c H locs cells slots Q (F0 m (pc + 1) ls (.int (M R i x.toNatClampNeg) :: rest))) : W p l e R0 s m args below meth c H locs cells slots Q (F0 m pc ls (.int x :: .ref (g R i) :: rest)) := by
  have hP := G.1.arr hi (by omega)
  rw [jAr_int (by rw [h4]; decide) (by rw [h4]; decide)] at hP
  have hK := C.K.arr h1 h2 h3
  rw [h5] at hK
  exact va_iald C.x C.b hK hP 0 0 rfl rfl hx d kk
theorem jr_zald (C : jCx p l s m args meth c own cc nL D cA base g) (G : jG base D cA g M s H locs) {R i : Nat} {x : Int32} (hi : i < jCnt M R) (h1 : 20 ≤ R) (h2 : R < 62) (h3 : jL R ≠ 0) (h4 : jAK R = 2) (h5 : jTy R = .boolean) (hx : vp_in x (jL R)) (d : decode cc pc = .ok (.baload, 1))
    (kk : W p l e R0 s m args below meth c H locs cells slots Q (F0 m (pc + 1) ls (.int (M R i x.toNatClampNeg) :: rest))) : W p l e R0 s m args below meth c H locs cells slots Q (F0 m pc ls (.int x :: .ref (g R i) :: rest)) := by
  have hP := G.1.arr hi (by omega)
  rw [jAr_int (by rw [h4]; decide) (by rw [h4]; decide)] at hP
  have hK := C.K.arr h1 h2 h3
  rw [h5] at hK
  exact va_zald C.x C.b hK hP 0 0 rfl rfl hx d kk
theorem jr_cald (C : jCx p l s m args meth c own cc nL D cA base g) (G : jG base D cA g M s H locs) {R i : Nat} {x : Int32} (hi : i < jCnt M R) (h1 : 20 ≤ R) (h2 : R < 62) (h3 : jL R ≠ 0) (h4 : jAK R = 3) (h5 : jTy R = .char) (hx : vp_in x (jL R)) (d : decode cc pc = .ok (.caload, 1))
    (kk : W p l e R0 s m args below meth c H locs cells slots Q (F0 m (pc + 1) ls (.int (M R i x.toNatClampNeg) :: rest))) : W p l e R0 s m args below meth c H locs cells slots Q (F0 m pc ls (.int x :: .ref (g R i) :: rest)) := by
  have hP := G.1.arr hi (by omega)
  rw [jAr_int (by rw [h4]; decide) (by rw [h4]; decide)] at hP
  have hK := C.K.arr h1 h2 h3
  rw [h5] at hK
  exact va_cald C.x C.b hK hP 0 0 rfl rfl hx d kk
theorem jr_lald (C : jCx p l s m args meth c own cc nL D cA base g) (G : jG base D cA g M s H locs) {x : Int32} (hx : vp_in x 1) (d : decode cc pc = .ok (.laload, 1))
    (kk : W p l e R0 s m args below meth c H locs cells slots Q (F0 m (pc + 1) ls (.long (M 61 0 x.toNatClampNeg).toInt64 :: rest))) : W p l e R0 s m args below meth c H locs cells slots Q (F0 m pc ls (.int x :: .ref (g 61 0) :: rest)) := by
  have hP : va_P D vwCl [(g 61 0, .inl (cA 61, jAr g M 61 0))] H := G.1.arr (R := 61) (i := 0) (show 0 < 1 by decide) (by decide)
  exact va_lald C.x C.b (C.K.arr (R := 61) (by decide) (by decide) (by decide)) hP 0 0 (f := fun j => (M 61 0 j).toInt64) rfl rfl hx d kk
/-- a reference of an array is read -/
theorem jr_aald (C : jCx p l s m args meth c own cc nL D cA base g) (G : jG base D cA g M s H locs) {R i R' i' : Nat} {x : Int32} (hi : i < jCnt M R) (h1 : 20 ≤ R) (h2 : R < 62) (h3 : jL R ≠ 0) (h4 : jAK R = 5) (h6 : (jTy R).isReference = true) (hx : vp_in x (jL R)) (hr : jRX R i x.toNatClampNeg = (R', i')) (d : decode cc pc = .ok (.aaload, 1))
    (kk : W p l e R0 s m args below meth c H locs cells slots Q (F0 m (pc + 1) ls (.ref (g R' i') :: rest))) : W p l e R0 s m args below meth c H locs cells slots Q (F0 m pc ls (.int x :: .ref (g R i) :: rest)) := by
  have hP := G.1.arr hi (by omega)
  have hA : jAr g M R i = (jL R, .inr (.inr (.inr (.inr (fun j => some (g (jRX R i j).1 (jRX R i j).2)))))) := by
    unfold jAr
    rw [h4]
    rfl
  rw [hA] at hP
  have hK := (C.K.2 R h1 h2 h3).1
  have hlt : x.toNatClampNeg < jL R := Nat.not_le.mp fun q => hx (Or.inr q)
  have hv : va_rf (some (g (jRX R i x.toNatClampNeg).1 (jRX R i x.toNatClampNeg).2)) = .ref (g R' i') := by rw [hr]; rfl
  refine W.aald (v := .ref (g R' i')) (ty := jTy R) C.x C.b (hP 0 _ rfl) (hK (jL R) (fun j => va_rf (some (g (jRX R i j).1 (jRX R i j).2)))) h6 (fun q => by cases q) (by show ¬ (x < 0 ∨ (arrV _ _ _).slots.size ≤ _); rw [arrV_size]; exact hx) ?_ rfl rfl d kk
  show (arrV _ _ _).slots[_]? = _
  rw [arrV_read _ _ hlt, hv]
/-- an int of an array is written -/
theorem jr_ast (C : jCx p l s m args meth c own cc nL D cA base g) (G : jG base D cA g M s H locs) {R i : Nat} {x v : Int32} (hi : i < jCnt M R) (h1 : 20 ≤ R) (h2 : R < 62) (h3 : jL R ≠ 0) (h4 : jAK R = 1) (h5 : jTy R = .int) (hx : vp_in x (jL R)) (d : decode cc pc = .ok (.iastore, 1))
    (kk : ∀ (H : Heap) (locs : List Loc), jG base D cA g (jup M R i x.toNatClampNeg v) s H locs → W p l e R0 s m args below meth c H locs cells slots Q (F0 m (pc + 1) ls rest)) : W p l e R0 s m args below meth c H locs cells slots Q (F0 m pc ls (.int v :: .int x :: .ref (g R i) :: rest)) := by
  have hP := G.1.arr hi (by omega)
  rw [jAr_int (by rw [h4]; decide) (by rw [h4]; decide)] at hP
  have hK := (C.K.2 R h1 h2 h3).1
  rw [h5] at hK
  refine W.iast C.x C.b (hP 0 _ rfl) (hK (jL R) (fun j => .int (M R i j))) (fun q => by cases q) (by show ¬ (x < 0 ∨ (arrV _ _ _).slots.size ≤ _); rw [arrV_size]; exact hx) rfl rfl d fun H1 e1 z oq => ?_
  refine kk H1 _ ⟨G.1.set (by omega) hi ?_ oq (jb_keep (by omega) G.1.2.2), G.2.put z oq (G.1.1 R i hi).2⟩
  rw [jC, if_neg (by omega), jAr_int (by rw [h4]; decide) (by rw [h4]; decide), ← jUpd]
  show H1[g R i]? = some (vp_cell _ _)
  rw [e1, vp_cell_i, vp_cell_i, arrV_store]
  congr 2
  funext q
  by_cases hq : q = x.toNatClampNeg
  · subst hq
    simp [updV, upd]
  · simp [updV, upd, hq]
theorem jr_zast (C : jCx p l s m args meth c own cc nL D cA base g) (G : jG base D cA g M s H locs) {R i : Nat} {x v : Int32} (hi : i < jCnt M R) (h1 : 20 ≤ R) (h2 : R < 62) (h3 : jL R ≠ 0) (h4 : jAK R = 2) (h5 : jTy R = .boolean) (hx : vp_in x (jL R)) (hv : narrow .boolean (.int v) = .int v) (d : decode cc pc = .ok (.bastore, 1))
    (kk : ∀ (H : Heap) (locs : List Loc), jG base D cA g (jup M R i x.toNatClampNeg v) s H locs → W p l e R0 s m args below meth c H locs cells slots Q (F0 m (pc + 1) ls rest)) : W p l e R0 s m args below meth c H locs cells slots Q (F0 m pc ls (.int v :: .int x :: .ref (g R i) :: rest)) := by
  have hP := G.1.arr hi (by omega)
  rw [jAr_int (by rw [h4]; decide) (by rw [h4]; decide)] at hP
  have hK := (C.K.2 R h1 h2 h3).1
  rw [h5] at hK
  refine W.zast C.x C.b (hP 0 _ rfl) (hK (jL R) (fun j => .int (M R i j))) (fun q => by cases q) (by show ¬ (x < 0 ∨ (arrV _ _ _).slots.size ≤ _); rw [arrV_size]; exact hx) rfl rfl d fun H1 e1 z oq => ?_
  refine kk H1 _ ⟨G.1.set (by omega) hi ?_ oq (jb_keep (by omega) G.1.2.2), G.2.put z oq (G.1.1 R i hi).2⟩
  rw [jC, if_neg (by omega), jAr_int (by rw [h4]; decide) (by rw [h4]; decide), ← jUpd]
  show H1[g R i]? = some (vp_cell _ _)
  rw [e1, hv, vp_cell_i, vp_cell_i, arrV_store]
  congr 2
  funext q
  by_cases hq : q = x.toNatClampNeg
  · subst hq
    simp [updV, upd]
  · simp [updV, upd, hq]
theorem jr_cast (C : jCx p l s m args meth c own cc nL D cA base g) (G : jG base D cA g M s H locs) {R i : Nat} {x v : Int32} (hi : i < jCnt M R) (h1 : 20 ≤ R) (h2 : R < 62) (h3 : jL R ≠ 0) (h4 : jAK R = 3) (h5 : jTy R = .char) (hx : vp_in x (jL R)) (hv : narrow .char (.int v) = .int v) (d : decode cc pc = .ok (.castore, 1))
    (kk : ∀ (H : Heap) (locs : List Loc), jG base D cA g (jup M R i x.toNatClampNeg v) s H locs → W p l e R0 s m args below meth c H locs cells slots Q (F0 m (pc + 1) ls rest)) : W p l e R0 s m args below meth c H locs cells slots Q (F0 m pc ls (.int v :: .int x :: .ref (g R i) :: rest)) := by
  have hP := G.1.arr hi (by omega)
  rw [jAr_int (by rw [h4]; decide) (by rw [h4]; decide)] at hP
  have hK := (C.K.2 R h1 h2 h3).1
  rw [h5] at hK
  refine W.cast C.x C.b (hP 0 _ rfl) (hK (jL R) (fun j => .int (M R i j))) (fun q => by cases q) (by show ¬ (x < 0 ∨ (arrV _ _ _).slots.size ≤ _); rw [arrV_size]; exact hx) rfl rfl d fun H1 e1 z oq => ?_
  refine kk H1 _ ⟨G.1.set (by omega) hi ?_ oq (jb_keep (by omega) G.1.2.2), G.2.put z oq (G.1.1 R i hi).2⟩
  rw [jC, if_neg (by omega), jAr_int (by rw [h4]; decide) (by rw [h4]; decide), ← jUpd]
  show H1[g R i]? = some (vp_cell _ _)
  rw [e1, hv, vp_cell_i, vp_cell_i, arrV_store]
  congr 2
  funext q
  by_cases hq : q = x.toNatClampNeg
  · subst hq
    simp [updV, upd]
  · simp [updV, upd, hq]
/-- the law's row of one long: what is stored comes from an int -/
theorem jr_last (C : jCx p l s m args meth c own cc nL D cA base g) (G : jG base D cA g M s H locs) {x v : Int32} (hx : vp_in x 1) (d : decode cc pc = .ok (.lastore, 1))
    (kk : ∀ (H : Heap) (locs : List Loc), jG base D cA g (jup M 61 0 x.toNatClampNeg v) s H locs → W p l e R0 s m args below meth c H locs cells slots Q (F0 m (pc + 1) ls rest)) : W p l e R0 s m args below meth c H locs cells slots Q (F0 m pc ls (.long v.toInt64 :: .int x :: .ref (g 61 0) :: rest)) := by
  have hi : 0 < jCnt M 61 := (show 0 < 1 by decide)
  have hP : va_P D vwCl [(g 61 0, .inl (cA 61, jAr g M 61 0))] H := G.1.arr (R := 61) (i := 0) hi (by decide)
  have hK := (C.K.2 61 (by decide) (by decide) (by decide)).1
  refine W.last C.x C.b (hP 0 _ rfl) (hK 1 (fun j => .long (M 61 0 j).toInt64)) (fun q => by cases q) (by show ¬ (x < 0 ∨ (arrV _ _ _).slots.size ≤ _); rw [arrV_size]; exact hx) rfl rfl d fun H1 e1 z oq => ?_
  refine kk H1 _ ⟨G.1.set (by decide) hi ?_ oq (jb_keep (by omega) G.1.2.2), G.2.put z oq (G.1.1 61 0 hi).2⟩
  rw [jC, if_neg (by decide)]
  show H1[g 61 0]? = some (vp_cell _ (1, .inr (.inl (fun j => (jup M 61 0 x.toNatClampNeg v 61 0 j).toInt64))))
  have e2 : vp_cell (cA 61) (jAr g M 61 0) = arrV (cA 61) 1 (fun j => .long (M 61 0 j).toInt64) := rfl
  rw [e1, e2, vp_cell_l, arrV_store]
  congr 2
  funext q
  by_cases hq : q = x.toNatClampNeg
  · subst hq
    simp [updV, jup]
  · simp [updV, jup, hq]
theorem jr_alen (C : jCx p l s m args meth c own cc nL D cA base g) (G : jG base D cA g M s H locs) {R i : Nat} {v : Int32} (hi : i < jCnt M R) (h1 : 20 ≤ R) (h2 : R < 62) (h3 : jL R ≠ 0) (hv : Int32.ofNat (jL R) = v) (d : decode cc pc = .ok (.arraylength, 1))
    (kk : W p l e R0 s m args below meth c H locs cells slots Q (F0 m (pc + 1) ls (.int v :: rest))) : W p l e R0 s m args below meth c H locs cells slots Q (F0 m pc ls (.ref (g R i) :: rest)) :=
  va_alen C.x C.b (C.K.arr h1 h2 h3) (G.1.arr hi (by omega)) 0 0 rfl rfl hv d kk
end JR2
