/-! ===== classes and arrays at the law's start ===== -/
def j0K (s : State) (ty : FieldType) : Prop := ∃ c : ClassId, ArrOfT s c ty ∧ va_RA s c ty
theorem j0_arr {s : State} {ty : FieldType} {c : ClassId} {k : Class} {comp : ClassId} (h2 : s.vm.classes[c]? = some k) (h3 : k.kind = .array comp ty) : ArrOfT s c ty := fun n z => ⟨fun q h => (by cases h), k, h2, comp, h3⟩
theorem j0_int {s : State} {A : Array Value} (h : (Cond.arrayClass .int).before A s = true) : j0K s .int := by
  obtain ⟨c, k, comp, h1, h2, h3⟩ := Cond.arrayClass_spec h
  exact ⟨c, j0_arr h2 h3, h1⟩
theorem j0_bool {s : State} {A : Array Value} (h : (Cond.arrayClass .boolean).before A s = true) : j0K s .boolean := by
  obtain ⟨c, k, comp, h1, h2, h3⟩ := Cond.arrayClass_spec h
  exact ⟨c, j0_arr h2 h3, h1⟩
theorem j0_char {s : State} {A : Array Value} (h : (Cond.arrayClass .char).before A s = true) : j0K s .char := by
  obtain ⟨c, k, comp, h1, h2, h3⟩ := Cond.arrayClass_spec h
  exact ⟨c, j0_arr h2 h3, h1⟩
theorem j0_long {s : State} {A : Array Value} (h : (Cond.arrayClass .long).before A s = true) : j0K s .long := by
  obtain ⟨c, k, comp, h1, h2, h3⟩ := Cond.arrayClass_spec h
  exact ⟨c, j0_arr h2 h3, h1⟩
theorem j0_arrI {s : State} {A : Array Value} (h : (Cond.arrayOver (.array .int)).before A s = true) : j0K s (.array .int) := by
  obtain ⟨comp, c, k, h1, h2, h3, h4, h5⟩ := arrayOverA_spec h
  exact ⟨c, j0_arr h3 h4, h5⟩
theorem j0_obj {s : State} {A : Array Value} {Cn : String} (h : (Cond.arrayOver (.object Cn)).before A s = true) : j0K s (.object Cn) := by
  obtain ⟨comp, c, k, h1, h2, h3, h4, h5⟩ := Cond.arrayOver_spec h
  exact ⟨c, j0_arr h3 h4, k, comp, h3, h4, h1, h5⟩
theorem jK_start {s : State} {A : Array Value} (hts : ∀ w ∈ lw_tbl, w.before A s = true) : ∃ (D : va_G) (cA : Nat → ClassId), jK D cA s := by
  have hw : ∀ w ∈ WT, w.before A s = true := fun w h => hts w (List.mem_filter.mp h).1
  have hty : ∀ R, ∃ c : ClassId, ArrOfT s c (jTy R) ∧ va_RA s c (jTy R) := by
    intro R
    have h1 := j0_int (hts (.arrayClass .int) (List.mem_of_getElem? (i := 153) (by decide +kernel)))
    have h2 := j0_bool (hts (.arrayClass .boolean) (List.mem_of_getElem? (i := 154) (by decide +kernel)))
    have h3 := j0_char (hts (.arrayClass .char) (List.mem_of_getElem? (i := 152) (by decide +kernel)))
    have h4 := j0_long (hts (.arrayClass .long) (List.mem_of_getElem? (i := 1616) (by decide +kernel)))
    have h5 := j0_arrI (hts (.arrayOver (.array .int)) (List.mem_of_getElem? (i := 327) (by decide +kernel)))
    have h6 := j0_obj (hts (.arrayOver (.object "LoopFuser$Statement")) (List.mem_of_getElem? (i := 120) (by decide +kernel)))
    have h7 := j0_obj (hts (.arrayOver (.object "LoopFuser$Loop")) (List.mem_of_getElem? (i := 112) (by decide +kernel)))
    have h8 := j0_obj (hts (.arrayOver (.object "LoopFuser$Plan")) (List.mem_of_getElem? (i := 408) (by decide +kernel)))
    unfold jTy
    split <;> assumption
  obtain ⟨cA, hcA⟩ := Classical.axiomOfChoice hty
  have hk : ∀ k : Nat, ∃ q : ClassId × (Nat → Nat), ∀ r : vw_C, vwCl[k]? = some r → u_Kn s r.1 r.2.1 r.2.2 q.1 q.2 := by
    intro k
    have one : ∀ (R : Nat) (Cn : String) (T : u_T) (ty : Nat → FieldType), jCl R Cn T ty → Cond.instantiable Cn (jN R) ∈ lw_tbl → ∃ q : ClassId × (Nat → Nat), ∀ r : vw_C, vwCl[R]? = some r → u_Kn s r.1 r.2.1 r.2.2 q.1 q.2 := fun R Cn T ty K hi => by
      obtain ⟨c, iS, h⟩ := u_known (N := jN R) hw K.2.1 (hts _ hi)
      exact ⟨(c, iS), fun r hr => by rw [K.1] at hr; cases hr; exact h⟩
    by_cases h : k < 12
    · rcases (show k = 0 ∨ k = 1 ∨ k = 2 ∨ k = 3 ∨ k = 4 ∨ k = 5 ∨ k = 6 ∨ k = 7 ∨ k = 8 ∨ k = 9 ∨ k = 10 ∨ k = 11 by omega) with rfl | rfl | rfl | rfl | rfl | rfl | rfl | rfl | rfl | rfl | rfl | rfl
      · exact one 0 _ _ _ jc0 (List.mem_of_getElem? (i := 114) (by decide +kernel))
      · exact one 1 _ _ _ jc1 (List.mem_of_getElem? (i := 321) (by decide +kernel))
      · exact one 2 _ _ _ jc2 (List.mem_of_getElem? (i := 291) (by decide +kernel))
      · exact one 3 _ _ _ jc3 (List.mem_of_getElem? (i := 199) (by decide +kernel))
      · exact one 4 _ _ _ jc4 (List.mem_of_getElem? (i := 394) (by decide +kernel))
      · exact one 5 _ _ _ jc5 (List.mem_of_getElem? (i := 409) (by decide +kernel))
      · exact one 6 _ _ _ jc6 (List.mem_of_getElem? (i := 258) (by decide +kernel))
      · exact one 7 _ _ _ jc7 (List.mem_of_getElem? (i := 121) (by decide +kernel))
      · exact one 8 _ _ _ jc8 (List.mem_of_getElem? (i := 106) (by decide +kernel))
      · exact one 9 _ _ _ jc9 (List.mem_of_getElem? (i := 368) (by decide +kernel))
      · exact one 10 _ _ _ jc10 (List.mem_of_getElem? (i := 98) (by decide +kernel))
      · exact one 11 _ _ _ jc11 (List.mem_of_getElem? (i := 1186) (by decide +kernel))
    · exact ⟨(0, fun _ => 0), fun r hr => by
        have := (List.getElem?_eq_some_iff.mp hr).1
        exact absurd this h⟩
  obtain ⟨q, hq⟩ := Classical.axiomOfChoice hk
  exact ⟨(fun k => (q k).1, fun k => (q k).2), cA, ⟨fun k r hr => hq k r hr, fun k ty h => by simp at h⟩, fun R _ _ _ => hcA R⟩
