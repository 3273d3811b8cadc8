/-! ===== the world at the law's start ===== -/
abbrev jAll : List Cond := flatC (Jvm.Cond.and given_1 narrow_1)
def jTm (i : Nat) : Term := Term.string ((jStrs.getD i ("", 0, "")).1) ((jStrs.getD i ("", 0, "")).2.1)
def jTv (i : Nat) : Term := .field (jTm i) "java/lang/String" "value" "[B"
def jSW (i : Nat) : List Cond := [Cond.exactly (jTm i) "java/lang/String", Cond.eq (.field (jTm i) "java/lang/String" "coder" "B") (.int 0), Cond.arrayOf (jTv i) .byte, Cond.eq (.length (jTv i)) (.int (Int32.ofNat (jSlen.getD i 0)))] ++ (List.range (jSlen.getD i 0)).map (fun j => Cond.eq (.elem (jTv i) (.int (Int32.ofNat j))) (.int ((jSbyt.getD i []).getD j 0)))
set_option maxRecDepth 100000 in
theorem jSW_all : (List.range 32).flatMap jSW = jAll.drop 71 := by decide +kernel
theorem jSW_mem {i : Nat} (hi : i < 32) {c : Cond} (hc : c ∈ jSW i) : c ∈ jAll :=
  List.mem_of_mem_drop (i := 71) (by rw [← jSW_all]; exact List.mem_flatMap.mpr ⟨i, List.mem_range.mpr hi, hc⟩)
set_option maxRecDepth 100000 in
theorem jS_dist : ∀ i, i < 32 → ∀ j, j < 32 → jSlen.getD i 0 = jSlen.getD j 0 → (List.range (jSlen.getD i 0)).all (fun k => decide ((jSbyt.getD i []).getD k 0 = (jSbyt.getD j []).getD k 0)) = true → i = j := by decide +kernel
theorem jS_len : ∀ i, i < 32 → jSlen.getD i 0 < 2 ^ 31 := by decide +kernel
theorem OF_u {o n d : String} {t a b : Nat} {A : Nat → Prop} {U : State} {H : Heap} (h : va_OF o n d (.ref a) t A U H) (g : va_OF o n d (.ref b) t A U H) : a = b := by
  obtain ⟨cf, k, i, f, cell, h1, _, h3, _, h5, _⟩ := h
  obtain ⟨cf', k', i', f', cell', g1, _, g3, _, g5, _⟩ := g
  rw [h1] at g1
  rw [h3] at g3
  cases g1
  cases g3
  rw [h5] at g5
  cases g5
  rfl
theorem T_u {ty : FieldType} {t N N' : Nat} {f f' : Nat → Value} {A : Nat → Prop} {U : State} {H : Heap} (h : va_T ty t N f A U H) (g : va_T ty t N' f' A U H) (hN : N < 2 ^ 31) (hN' : N' < 2 ^ 31) : N = N' ∧ ∀ j, j < N → f j = f' j := by
  obtain ⟨cell, h1, _, _, h4, h5, h6, _⟩ := h
  obtain ⟨cell', g1, _, _, g4, g5, g6, _⟩ := g
  rw [h1] at g1
  cases g1
  have e : N = N' := by
    have q := h5.symm.trans g5
    rw [lI, lI] at q
    have := z_inj q (by omega)
    omega
  subst e
  exact ⟨rfl, fun j hj => Option.some.inj ((h6 j hj).symm.trans (g6 j hj))⟩
theorem jS_start {s : State} {A : Array Value} {P : Nat → Prop} (hs : ∀ c ∈ jAll, c.before A s = true) (hP : ∀ a : Nat, a < s.heap.size → ¬ P a) : ∃ adK adV : Nat → Nat, vk_S 32 jSlen jSbyt adK adV P s s.heap ∧ ∀ i : Nat, i < 32 → (jTm i).eval A s none [] s = some (.ref (adK i)) := by
  have one : ∀ i : Nat, ∃ q : Nat × Nat, i < 32 → (jTm i).eval A s none [] s = some (.ref q.1) ∧ va_O "java/lang/String" q.1 P s s.heap ∧ va_OF "java/lang/String" "coder" "B" (.int 0) q.1 P s s.heap ∧ va_OF "java/lang/String" "value" "[B" (.ref q.2) q.1 P s s.heap ∧ va_T .byte q.2 (jSlen.getD i 0) (fun j => .int ((jSbyt.getD i []).getD j 0)) P s s.heap := by
    intro i
    by_cases hi : i < 32
    · have m : ∀ c, c ∈ jSW i → c.before A s = true := fun c hc => hs c (jSW_mem hi hc)
      obtain ⟨a1, a2, h1, h2⟩ := vk_Sof (args := A) (s := s) (N := 1) (tm := fun _ => jTm i) (len := [jSlen.getD i 0]) (byt := [jSbyt.getD i []]) (A := P)
        (fun i' hi' => by obtain rfl : i' = 0 := by omega
                          exact jS_len i hi)
        (fun _ _ => m _ (by unfold jSW; simp)) (fun _ _ => m _ (by unfold jSW; simp)) (fun _ _ => m _ (by unfold jSW jTv; simp))
        (fun i' hi' => by obtain rfl : i' = 0 := by omega
                          exact m (Cond.eq (.length (jTv i)) (.int (Int32.ofNat (jSlen.getD i 0)))) (by unfold jSW; simp))
        (fun i' hi' j hj => by obtain rfl : i' = 0 := by omega
                               exact m (Cond.eq (.elem (jTv i) (.int (Int32.ofNat j))) (.int ((jSbyt.getD i []).getD j 0))) (by unfold jSW; exact List.mem_append_right _ (List.mem_map.mpr ⟨j, List.mem_range.mpr hj, rfl⟩)))
        (fun i' j' hi' hj' hne => absurd (show i' = j' by omega) hne) hP
      have h10 := h1.1 0 (by decide)
      exact ⟨(a1 0, a2 0), fun _ => ⟨h2 0 (by decide), h10.1, h10.2.1, h10.2.2.1, h10.2.2.2⟩⟩
    · exact ⟨(0, 0), fun h => absurd h hi⟩
  obtain ⟨ad, had⟩ := Classical.axiomOfChoice one
  refine ⟨fun i => (ad i).1, fun i => (ad i).2, ⟨fun i hi => (had i hi).2, fun i j hi hj e => ?_⟩, fun i hi => (had i hi).1⟩
  obtain ⟨_, _, _, i4, i5⟩ := had i hi
  obtain ⟨_, _, _, j4, j5⟩ := had j hj
  have e : (ad i).1 = (ad j).1 := e
  rw [e] at i4
  have ev := OF_u i4 j4
  rw [ev] at i5
  obtain ⟨q1, q2⟩ := T_u i5 j5 (jS_len i hi) (jS_len j hj)
  refine jS_dist i hi j hj q1 (List.all_eq_true.mpr (fun k hk => decide_eq_true ?_))
  have := q2 k (List.mem_range.mp hk)
  injection this
set_option maxRecDepth 100000 in
theorem sr_mem : ∀ q ∈ jStrs, Cond.stringRef q.1 q.2.1 q.2.2 ∈ lw_tbl := by decide +kernel
set_option maxRecDepth 100000 in
theorem nc_mem : ∀ q ∈ jNcs, Cond.not (.castable q.1 q.2) ∈ jAll := by decide +kernel
theorem jSt_start {s : State} {b : Addr} (hts : ∀ w ∈ lw_tbl, w.before #[Value.ref b] s = true) (hgv : (Jvm.Cond.and given_1 narrow_1).before #[Value.ref b] s = true) : ∃ sA sB : Nat → Nat, ∀ g : Nat → Nat → Nat, g 70 = sA → g 71 = sB → jSt s.heap.size g s := by
  have hs : ∀ c ∈ jAll, c.before #[Value.ref b] s = true := flat_of_before _ hgv
  have hA : ∀ a : Nat, a < s.heap.size → ¬ jA s.heap.size a := fun a h => Nat.not_le.mpr h
  obtain ⟨sA, sB, h1, h2⟩ := jS_start hs hA
  refine ⟨sA, sB, fun g g1 g2 => ?_⟩
  have t : ∀ (i : Nat) (w : Cond), lw_tbl[i]? = some w → w.before #[Value.ref b] s = true := fun i w h => hts w (List.mem_of_getElem? h)
  have u : ∀ (i : Nat) (w : Cond), jAll[i]? = some w → w.before #[Value.ref b] s = true := fun i w h => hs w (List.mem_of_getElem? h)
  refine ⟨vx_Zqof (t 539 _ (by decide +kernel)) (t 85 _ (by decide +kernel)) (u 4 _ (by decide +kernel)) hA, vx_Zqof (t 541 _ (by decide +kernel)) (t 85 _ (by decide +kernel)) (u 5 _ (by decide +kernel)) hA, fun w hw hc => jCD_same hc rfl (hts w hw), ⟨?_, ?_⟩, fun k q hq => ?_, ?_, ?_, ?_, fun q hq => va_Nc.of (hs _ (nc_mem q hq))⟩
  · exact va_Fw.of (t 1055 _ (by decide +kernel)) (t 1054 _ (by decide +kernel)) (t 1060 _ (by decide +kernel)) (t 1058 _ (by decide +kernel)) (t 1056 _ (by decide +kernel))
  · exact va_Fw.of (t 1055 _ (by decide +kernel)) (t 1054 _ (by decide +kernel)) (t 1067 _ (by decide +kernel)) (t 1065 _ (by decide +kernel)) (t 1063 _ (by decide +kernel))
  · have hk : k < 32 := by
      have := (List.getElem?_eq_some_iff.mp hq).1
      exact this
    have e := h2 k hk
    unfold jTm at e
    rw [show jStrs.getD k ("", 0, "") = q by rw [List.getD_eq_getElem?_getD, hq]; rfl] at e
    rw [g1]
    exact vk_R.of (hts _ (sr_mem q (List.mem_of_getElem? hq))) e
  · rw [g1, g2]; exact h1
  · exact va_Zof (t 630 _ (by decide +kernel)) (t 90 _ (by decide +kernel)) (va_eqt (u 6 _ (by decide +kernel))) hA
  · exact va_Zqof (t 650 _ (by decide +kernel)) (t 92 _ (by decide +kernel)) (u 7 _ (by decide +kernel)) hA
/-! ===== what holds of the memory then ===== -/
def o00 : Int → Int := fun j => if j = 0 then 9 else if j = 1 then 3 else 1
set_option maxRecDepth 100000 in
theorem Rz_0 : Rz jM0 0 := by
  refine ⟨0, fun _ _ => 0, o00, 0, ⟨⟨by omega, by omega⟩, ⟨by decide, by decide, by decide⟩, fun l l0 l1 => by omega⟩, ⟨by decide, ⟨by decide, by decide, by decide⟩, fun l l0 l1 => by omega⟩, ⟨by decide, ⟨by decide, by decide, by decide⟩, fun l j l0 l1 => by omega⟩, ⟨by decide, ⟨-1, by decide, by omega, fun z => by omega⟩, fun k hk => ?_⟩, by omega, ?_⟩
  · rcases (show k = 0 ∨ k = 1 ∨ k = 2 by omega) with rfl | rfl | rfl
    · exact ⟨by decide, ⟨-1, by decide, by omega, fun z => by omega⟩, -1, by decide, by omega, fun z => by omega⟩
    · exact ⟨by decide, ⟨-1, by decide, by omega, fun z => by omega⟩, -1, by decide, by omega, fun z => by omega⟩
    · exact ⟨by decide, ⟨-1, by decide, by omega, fun z => by omega⟩, -1, by decide, by omega, fun z => by omega⟩
  · refine ⟨Or.inl ⟨by decide, by decide⟩, ⟨0, fun _ => 0, by decide, by decide, by omega, fun j j0 j1 => by omega⟩, fun j => ?_, by decide, ⟨0, by omega, by decide⟩, by rw [jnb_0]; omega, ?_⟩
    · show narrow .char (.int 0) = .int 0
      decide
    · intro x hx
      left
      show jM0 3 x 3 = zI 0
      unfold jM0
      simp only [show ¬ ((3 : Nat) = 0) by omega, and_false, ↓reduceIte]
      decide
