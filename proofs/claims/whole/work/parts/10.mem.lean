/-! ===== the abstract memory: a region, a number in it, a place: an int ===== -/
abbrev jM : Type := Nat → Nat → Nat → Int32
def jup (M : jM) (R i k : Nat) (v : Int32) : jM := fun R' i' k' => if R' = R ∧ i' = i ∧ k' = k then v else M R' i' k'
theorem jup_self (M : jM) (R i k : Nat) (v : Int32) : jup M R i k v R i k = v := if_pos ⟨rfl, rfl, rfl⟩
theorem jup_ne {M : jM} {R i k R' i' k' : Nat} {v : Int32} (h : ¬ (R' = R ∧ i' = i ∧ k' = k)) : jup M R i k v R' i' k' = M R' i' k' := if_neg h
theorem jup_R {M : jM} {R i k R' i' k' : Nat} {v : Int32} (h : R' ≠ R) : jup M R i k v R' i' k' = M R' i' k' := if_neg (fun q => h q.1)
/-- how many bodies there are -/
def jnb (M : jM) : Nat := (M 99 0 0).toNatClampNeg
/-- slots of an object -/
def jN (R : Nat) : Nat := match R with
  | 0 => 9
  | 1 => 11
  | 2 => 5
  | 3 => 4
  | 4 => 2
  | 5 => 12
  | 6 => 4
  | 7 => 6
  | 8 => 6
  | 9 => 5
  | 10 => 9
  | 11 => 31
  | _ => 0
def jT0 (k i : Nat) : Option (Nat × Nat) := match k with
  | 0 => some (20, i)
  | 1 => some (21, i)
  | 2 => some (22, i)
  | 3 => some (23, i)
  | 4 => some (24, i)
  | 5 => some (25, i)
  | _ => none
def jT1 (k i : Nat) : Option (Nat × Nat) := match k with
  | 0 => some (6, 0)
  | 1 => some (2, 0)
  | 2 => some (27, i)
  | 3 => some (28, i)
  | _ => none
def jT2 (k i : Nat) : Option (Nat × Nat) := match k with
  | 0 => some (30, i)
  | 1 => some (31, i)
  | 2 => some (32, i)
  | _ => none
def jT4 (k i : Nat) : Option (Nat × Nat) := match k with
  | 0 => some (33, i)
  | 1 => some (34, i)
  | _ => none
def jT5 (k i : Nat) : Option (Nat × Nat) := match k with
  | 1 => some (6, 0)
  | 2 => some (1, 0)
  | 3 => some (9, 0)
  | 4 => some (4, (i + 1))
  | 5 => some (35, i)
  | 6 => some (36, i)
  | 7 => some (37, i)
  | 8 => some (38, i)
  | _ => none
def jT6 (k i : Nat) : Option (Nat × Nat) := match k with
  | 0 => some (39, i)
  | 1 => some (40, i)
  | _ => none
def jT7 (k i : Nat) : Option (Nat × Nat) := match k with
  | 0 => some (26, i)
  | _ => none
def jT8 (k i : Nat) : Option (Nat × Nat) := match k with
  | 0 => some (41, i)
  | 1 => some (42, i)
  | _ => none
def jT9 (k i : Nat) : Option (Nat × Nat) := match k with
  | 0 => some (43, i)
  | _ => none
def jT10 (k i : Nat) : Option (Nat × Nat) := match k with
  | 0 => some (8, 0)
  | 1 => some (6, 0)
  | 2 => some (6, 1)
  | 3 => some (2, 0)
  | 4 => some (1, 0)
  | 5 => some (9, 0)
  | 6 => some (4, 0)
  | 7 => some (44, 0)
  | _ => none
def jT11 (k i : Nat) : Option (Nat × Nat) := match k with
  | 1 => some (50, i)
  | 2 => some (51, i)
  | 4 => some (52, i)
  | 5 => some (53, i)
  | 9 => some (54, i)
  | 15 => some (55, i)
  | 16 => some (56, i)
  | 20 => some (57, i)
  | 21 => some (58, i)
  | 25 => some (59, i)
  | 26 => some (60, i)
  | _ => none
/-- what a final field refers to -/
def jT (R k i : Nat) : Option (Nat × Nat) := match R with
  | 0 => jT0 k i
  | 1 => jT1 k i
  | 2 => jT2 k i
  | 4 => jT4 k i
  | 5 => jT5 k i
  | 6 => jT6 k i
  | 7 => jT7 k i
  | 8 => jT8 k i
  | 9 => jT9 k i
  | 10 => jT10 k i
  | 11 => jT11 k i
  | _ => none
/-- kinds of arrays: 1 int, 2 boolean, 3 char, 4 long, 5 references -/
def jAK (R : Nat) : Nat := match R with
  | 20 => 1
  | 21 => 2
  | 22 => 1
  | 23 => 5
  | 24 => 1
  | 25 => 1
  | 26 => 1
  | 27 => 1
  | 28 => 5
  | 29 => 1
  | 30 => 1
  | 31 => 1
  | 32 => 1
  | 33 => 1
  | 34 => 1
  | 35 => 1
  | 36 => 1
  | 37 => 1
  | 38 => 1
  | 39 => 5
  | 40 => 1
  | 41 => 3
  | 42 => 5
  | 43 => 1
  | 44 => 5
  | 50 => 1
  | 51 => 1
  | 52 => 1
  | 53 => 1
  | 54 => 1
  | 55 => 1
  | 56 => 1
  | 57 => 1
  | 58 => 1
  | 59 => 1
  | 60 => 1
  | 61 => 4
  | _ => 0
/-- lengths of arrays -/
def jL (R : Nat) : Nat := match R with
  | 20 => 24
  | 21 => 24
  | 22 => 24
  | 23 => 4
  | 24 => 120
  | 25 => 120
  | 26 => 3
  | 27 => 6
  | 28 => 6
  | 29 => 6
  | 30 => 576
  | 31 => 576
  | 32 => 576
  | 33 => 245
  | 34 => 9
  | 35 => 7
  | 36 => 7
  | 37 => 7
  | 38 => 7
  | 39 => 6
  | 40 => 3
  | 41 => 120
  | 42 => 8
  | 43 => 245
  | 44 => 3
  | 50 => 3510
  | 51 => 3
  | 52 => 3510
  | 53 => 3
  | 54 => 120
  | 55 => 11700
  | 56 => 120
  | 57 => 120
  | 58 => 245
  | 59 => 6
  | 60 => 245
  | 61 => 1
  | _ => 0
/-- element types -/
def jTy (R : Nat) : FieldType := match R with
  | 21 => .boolean
  | 23 => .object "LoopFuser$Statement"
  | 28 => .array .int
  | 39 => .object "LoopFuser$Loop"
  | 41 => .char
  | 42 => .object "LoopFuser$Loop"
  | 44 => .object "LoopFuser$Plan"
  | 61 => .long
  | _ => .int
/-- what a place of an array of references refers to -/
def jRX (R i j : Nat) : Nat × Nat := match R with
  | 23 => (7, 4 * i + j)
  | 28 => (29, j)
  | 39 => (3, 6 * i + j)
  | 42 => (3, 12 + j)
  | 44 => (5, j)
  | _ => (0, 0)
def jCntN (n : Nat) (R : Nat) : Nat := match R with
  | 0 => n
  | 1 => 1
  | 2 => 1
  | 3 => 20
  | 4 => 4
  | 5 => 3
  | 6 => 2
  | 7 => 4 * n
  | 8 => 1
  | 9 => 1
  | 10 => 1
  | 11 => 1
  | 20 => n
  | 21 => n
  | 22 => n
  | 23 => n
  | 24 => n
  | 25 => n
  | 26 => 4 * n
  | 27 => 1
  | 28 => 1
  | 29 => 6
  | 30 => 1
  | 31 => 1
  | 32 => 1
  | 33 => 4
  | 34 => 4
  | 35 => 3
  | 36 => 3
  | 37 => 3
  | 38 => 3
  | 39 => 2
  | 40 => 2
  | 41 => 1
  | 42 => 1
  | 43 => 1
  | 44 => 1
  | 50 => 1
  | 51 => 1
  | 52 => 1
  | 53 => 1
  | 54 => 1
  | 55 => 1
  | 56 => 1
  | 57 => 1
  | 58 => 1
  | 59 => 1
  | 60 => 1
  | 61 => 1
  | _ => 0
abbrev jCnt (M : jM) (R : Nat) : Nat := jCntN (jnb M) R
theorem jCnt_up {M : jM} {R i k : Nat} {v : Int32} (h : R ≠ 99) (R' : Nat) : jCnt (jup M R i k v) R' = jCnt M R' := by
  have e : jnb (jup M R i k v) = jnb M := by
    unfold jnb
    rw [jup_R (fun q => h q.symm)]
  unfold jCnt
  rw [e]
theorem jnb_up {M : jM} {R i k : Nat} {v : Int32} (h : R ≠ 99) : jnb (jup M R i k v) = jnb M := by
  unfold jnb
  rw [jup_R (fun q => h q.symm)]
/-- the value of a slot -/
def jV (g : Nat → Nat → Nat) (M : jM) (R i k : Nat) : Value := match jT R k i with
  | some q => .ref (g q.1 q.2)
  | none => if R = 3 ∧ k = 0 then .ref (g 0 (M 3 i 0).toNatClampNeg) else .int (M R i k)
def jFs (g : Nat → Nat → Nat) (M : jM) (R i : Nat) : List Value := (List.range (jN R)).map (jV g M R i)
def jAr (g : Nat → Nat → Nat) (M : jM) (R i : Nat) : vp_A := (jL R, match jAK R with
  | 4 => .inr (.inl (fun j => (M R i j).toInt64))
  | 5 => .inr (.inr (.inr (.inr (fun j => some (g (jRX R i j).1 (jRX R i j).2)))))
  | _ => .inl (M R i))
/-- what a cell holds -/
def jC (cA : Nat → ClassId) (g : Nat → Nat → Nat) (M : jM) (R i : Nat) : va_E := if R < 12 then .inr (R, jFs g M R i) else .inl (cA R, jAr g M R i)
def jA (base : Nat) : Nat → Prop := fun q => base ≤ q
/-- the heap holds the memory -/
def jRep (base : Nat) (D : va_G) (cA : Nat → ClassId) (g : Nat → Nat → Nat) (M : jM) (H : Heap) : Prop :=
  (∀ R i, i < jCnt M R → va_at D vwCl (g R i, jC cA g M R i) H ∧ base ≤ g R i) ∧
  (∀ R i R' i', i < jCnt M R → i' < jCnt M R' → g R i = g R' i' → R = R' ∧ i = i') ∧
  ∀ i, i < 20 → (M 3 i 0).toNatClampNeg < jnb M
theorem jRep.obj {base : Nat} {D : va_G} {cA : Nat → ClassId} {g : Nat → Nat → Nat} {M : jM} {H : Heap} (h : jRep base D cA g M H) {R i : Nat} (hi : i < jCnt M R) (hR : R < 12) : va_P D vwCl [(g R i, .inr (R, jFs g M R i))] H := by
  intro k q hk
  cases k with
  | zero =>
    cases hk
    have h1 := (h.1 R i hi).1
    rw [jC, if_pos hR] at h1
    exact h1
  | succ k => simp at hk
theorem jRep.arr {base : Nat} {D : va_G} {cA : Nat → ClassId} {g : Nat → Nat → Nat} {M : jM} {H : Heap} (h : jRep base D cA g M H) {R i : Nat} (hi : i < jCnt M R) (hR : ¬ R < 12) : va_P D vwCl [(g R i, .inl (cA R, jAr g M R i))] H := by
  intro k q hk
  cases k with
  | zero =>
    cases hk
    have h1 := (h.1 R i hi).1
    rw [jC, if_neg hR] at h1
    exact h1
  | succ k => simp at hk
theorem jFs_get {g : Nat → Nat → Nat} {M : jM} {R i k : Nat} (hk : k < jN R) : (jFs g M R i)[k]? = some (jV g M R i k) := by
  simp [jFs, hk]
theorem jFs_len {g : Nat → Nat → Nat} {M : jM} {R i : Nat} : (jFs g M R i).length = jN R := by simp [jFs]
theorem jV_up {g : Nat → Nat → Nat} {M : jM} {R i k R' i' k' : Nat} {v : Int32} (h : ¬ (R' = R ∧ i' = i ∧ k' = k)) : jV g (jup M R i k v) R' i' k' = jV g M R' i' k' := by
  unfold jV
  split
  · rfl
  · by_cases h3 : R' = 3 ∧ k' = 0
    · obtain ⟨rfl, rfl⟩ := h3
      simp only [and_self, if_true]
      rw [jup_ne h]
    · rw [if_neg h3, if_neg h3, jup_ne h]
theorem jV_at {g : Nat → Nat → Nat} {M : jM} {R i k : Nat} {v : Int32} (hT : jT R k i = none) (hb : ¬ (R = 3 ∧ k = 0)) : jV g (jup M R i k v) R i k = .int v := by
  unfold jV
  rw [hT]
  simp only [if_neg hb, jup_self]
theorem jFs_up {g : Nat → Nat → Nat} {M : jM} {R i k : Nat} {v : Int32} {w : Value} (hw : jV g (jup M R i k v) R i k = w) : (jFs g M R i).set k w = jFs g (jup M R i k v) R i := by
  apply List.ext_getElem?
  intro j
  rw [List.getElem?_set]
  by_cases h : k = j
  · subst h
    rw [if_pos rfl, jFs_len]
    by_cases hk : k < jN R
    · rw [if_pos hk, jFs_get hk, hw]
    · rw [if_neg hk]
      symm
      rw [List.getElem?_eq_none_iff, jFs_len]
      omega
  · rw [if_neg h]
    by_cases hj : j < jN R
    · rw [jFs_get hj, jFs_get hj, jV_up (fun q => h q.2.2.symm)]
    · rw [List.getElem?_eq_none_iff.mpr (by rw [jFs_len]; omega), List.getElem?_eq_none_iff.mpr (by rw [jFs_len]; omega)]
theorem jFs_ne {g : Nat → Nat → Nat} {M : jM} {R i k R' i' : Nat} {v : Int32} (h : ¬ (R' = R ∧ i' = i)) : jFs g (jup M R i k v) R' i' = jFs g M R' i' := by
  unfold jFs
  apply List.map_congr_left
  intro j _
  exact jV_up (fun q => h ⟨q.1, q.2.1⟩)
theorem jAr_ne {g : Nat → Nat → Nat} {M : jM} {R i k R' i' : Nat} {v : Int32} (h : ¬ (R' = R ∧ i' = i)) : jAr g (jup M R i k v) R' i' = jAr g M R' i' := by
  unfold jAr
  have e : ∀ j, jup M R i k v R' i' j = M R' i' j := fun j => jup_ne (fun q => h ⟨q.1, q.2.1⟩)
  have e2 : jup M R i k v R' i' = M R' i' := funext e
  simp only [e2]
theorem jC_ne {cA : Nat → ClassId} {g : Nat → Nat → Nat} {M : jM} {R i k R' i' : Nat} {v : Int32} (h : ¬ (R' = R ∧ i' = i)) : jC cA g (jup M R i k v) R' i' = jC cA g M R' i' := by
  unfold jC
  rw [jFs_ne h, jAr_ne h]
/-- one cell is written -/
theorem jRep.set {base : Nat} {D : va_G} {cA : Nat → ClassId} {g : Nat → Nat → Nat} {M : jM} {H H1 : Heap} (h : jRep base D cA g M H) {R i k : Nat} {v : Int32} (hR : R ≠ 99) (hi : i < jCnt M R) (hat : va_at D vwCl (g R i, jC cA g (jup M R i k v) R i) H1) (ho : ∀ q : Nat, q ≠ g R i → H1[q]? = H[q]?) (hb : ∀ j, j < 20 → (jup M R i k v 3 j 0).toNatClampNeg < jnb M) : jRep base D cA g (jup M R i k v) H1 := by
  refine ⟨fun R' i' hi' => ?_, fun R1 i1 R2 i2 h1 h2 e => ?_, fun j hj => ?_⟩
  · rw [jCnt_up hR] at hi'
    refine ⟨?_, (h.1 R' i' hi').2⟩
    by_cases e : R' = R ∧ i' = i
    · obtain ⟨rfl, rfl⟩ := e
      exact hat
    · rw [jC_ne e]
      exact (h.1 R' i' hi').1.kept (ho _ (fun q => e (h.2.1 R' i' R i hi' hi q)))
  · rw [jCnt_up hR] at h1 h2
    exact h.2.1 R1 i1 R2 i2 h1 h2 e
  · rw [jnb_up hR]
    exact hb j hj
theorem jb_keep {M : jM} {R i k : Nat} {v : Int32} (hb : ¬ (R = 3 ∧ k = 0)) (h : ∀ j, j < 20 → (M 3 j 0).toNatClampNeg < jnb M) : ∀ j, j < 20 → (jup M R i k v 3 j 0).toNatClampNeg < jnb M := by
  intro j hj
  rw [jup_ne (fun q => hb ⟨q.1.symm, q.2.2.symm⟩)]
  exact h j hj
/-- the heap moves on outside of the memory -/
theorem jRep.kept {base : Nat} {D : va_G} {cA : Nat → ClassId} {g : Nat → Nat → Nat} {M : jM} {H H1 : Heap} (h : jRep base D cA g M H) (ho : ∀ q : Nat, q < H.size → H1[q]? = H[q]?) : jRep base D cA g M H1 :=
  ⟨fun R i hi => ⟨(h.1 R i hi).1.kept (ho _ (h.1 R i hi).1.lt), (h.1 R i hi).2⟩, h.2.1, h.2.2⟩
