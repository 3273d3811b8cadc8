/-! ===== the class reads: a whole loop ===== -/
theorem CO_e {M M1 : jM} {b : Nat} {v : Int → Int} {s f0 : Int} (h : CO M b v s f0) (e : ∀ R, R ≠ 8 → R ≠ 3 → M1 R = M R) : CO M1 b v s f0 := by
  unfold CO CS jnb at *
  rw [e 99 (by decide) (by decide), e 0 (by decide) (by decide), e 20 (by decide) (by decide), e 21 (by decide) (by decide), e 22 (by decide) (by decide), e 7 (by decide) (by decide), e 26 (by decide) (by decide), e 24 (by decide) (by decide), e 25 (by decide) (by decide)]
  exact h
theorem CO_BR {M : jM} {b : Nat} {v : Int → Int} {s e f0 : Int} (h : CO M b v s f0) (hP : PO v s e f0) : BR M b v := by
  obtain ⟨c1, c2, c3, c4, c5⟩ := h
  have h3 := hP.1.2.2
  refine ⟨⟨c2.1, by rw [h3]; exact c2.2.1⟩, c3, fun j j0 j1 => CS_BRs (c4 j j0 (by omega)) (by have := hP.2.2.1; omega)⟩
theorem PO_OKL {v : Int → Int} {s e f0 : Int} (hP : PO v s e f0) (hs : 1 ≤ s) (h0 : 0 ≤ v 0 ∧ v 0 ≤ v 1 ∧ v 1 ≤ 30) (h2 : v 2 = 0) : OKL v := by
  obtain ⟨⟨s0, s1, s2⟩, h4, hf, ⟨hR, rs, r1, r2, r3⟩, hC, hZ, hO⟩ := hP
  refine ⟨⟨h0.1, h0.2.1, h0.2.2, Or.inl h2⟩, by omega, fun r r0 r1 => ?_, fun j j0 j1 => ?_, rs, fun j j0 j1 => r1 j j0 (by omega), fun j j0 j1 => r2 j j0 (by omega), fun r r0 r1 hw => (r3 r r0 r1 hw).2⟩
  · have a := hR r r0 r1
    have b := hO r r0 r1
    exact ⟨a.1, a.2.1, a.2.2.1, a.2.2.2.1, by omega⟩
  · obtain ⟨g1, h, g2, g3⟩ := hC j j0 (by omega)
    have gh := g3 h (by simp)
    exact ⟨g1.1, ⟨h, by have := g1.1; omega, g2⟩, g1.2⟩
def wF (i : Int) : Int := if i = 0 then 102 else if i = 1 then 111 else if i = 2 then 114 else 40
def v0 (lo hi : Int) (j : Int) : Int := if j = 0 then lo else if j = 1 then hi else 0
def hd1 (c : Int → Int) (p : Int) : Prop := ∀ i, 0 ≤ i → i < 4 → c (p + i) = wF i
def hd2 (c : Int → Int) (p : Int) : Prop := hd1 c p ∧ isD (c (p + 4)) ∧ 0 ≤ nX c (p + 4) ∧ nX c (p + 4) ≤ 30
def hd3 (c : Int → Int) (p : Int) : Prop := hd2 c p ∧ c (nP c (p + 4)) = 44
def hd4 (c : Int → Int) (p : Int) : Prop := hd3 c p ∧ isD (c (nP c (p + 4) + 1)) ∧ nX c (p + 4) ≤ nX c (nP c (p + 4) + 1) ∧ nX c (nP c (p + 4) + 1) ≤ 30
def hq (c : Int → Int) (p : Int) : Int := nP c (nP c (p + 4) + 1)
def hd5 (c : Int → Int) (p : Int) : Prop := hd4 c p ∧ c (hq c p) = 41 ∧ c (hq c p + 1) = 123
def hv (c : Int → Int) (p : Int) : Int → Int := v0 (nX c (p + 4)) (nX c (nP c (p + 4) + 1))
def LpG (c : Int → Int) (p p' : Int) (v' : Int → Int) : Prop := hd5 c p ∧ LsG c 4 0 (hq c p + 2) (hv c p) (p' - 1) v' ∧ c (p' - 1) = 125
def LpB (c : Int → Int) (p f : Int) : Prop :=
  (∃ i, 0 ≤ i ∧ i < 4 ∧ (∀ j, 0 ≤ j → j < i → c (p + j) = wF j) ∧ c (p + i) ≠ wF i ∧ f = p + i) ∨ (hd1 c p ∧ ¬ (isD (c (p + 4)) ∧ 0 ≤ nX c (p + 4) ∧ nX c (p + 4) ≤ 30) ∧ f = p + 4) ∨ (hd2 c p ∧ c (nP c (p + 4)) ≠ 44 ∧ f = nP c (p + 4)) ∨
  (hd3 c p ∧ ¬ (isD (c (nP c (p + 4) + 1)) ∧ nX c (p + 4) ≤ nX c (nP c (p + 4) + 1) ∧ nX c (nP c (p + 4) + 1) ≤ 30) ∧ f = nP c (p + 4) + 1) ∨
  (hd4 c p ∧ c (hq c p) ≠ 41 ∧ f = hq c p) ∨ (hd4 c p ∧ c (hq c p) = 41 ∧ c (hq c p + 1) ≠ 123 ∧ f = hq c p + 1) ∨
  (hd5 c p ∧ LsB c 4 0 (hq c p + 2) (hv c p) f) ∨ (hd5 c p ∧ (∃ v', LsG c 4 0 (hq c p + 2) (hv c p) f v') ∧ c f ≠ 125)
def cL (b0 x R i f : Nat) : Prop := cE R i f ∨ ((R = 0 ∨ (20 ≤ R ∧ R ≤ 25)) ∧ b0 ≤ i) ∨ ((R = 7 ∨ R = 26) ∧ 4 * b0 ≤ i) ∨ (R = 3 ∧ i = x ∧ f ≤ 2) ∨ R = 99
theorem cF_L {b0 x R i f : Nat} (h : cF b0 R i f) : cL b0 x R i f := by
  unfold cF cB cP at h
  unfold cL
  rcases h with (h | ⟨h1, h2⟩ | ⟨h1, h2, h3⟩) | h
  · exact Or.inl ⟨h.1, h.2.1, Or.inl h.2.2⟩
  · exact Or.inr (Or.inl ⟨by omega, by omega⟩)
  · exact Or.inr (Or.inr (Or.inl ⟨h1, by omega⟩))
  · exact Or.inl h
theorem cE_L {b0 x R i f : Nat} (h : cE R i f) : cL b0 x R i f := Or.inl h
theorem fq_PL {b0 x : Nat} {M M1 : jM} (h : fq cP M M1) : fq (cL b0 x) M M1 := fq_mono h (fun _ _ _ q => Or.inl (cP_E q))
theorem fq_EL {b0 x : Nat} {M M1 : jM} (h : fq cE M M1) : fq (cL b0 x) M M1 := fq_mono h (fun _ _ _ q => Or.inl q)
theorem fq_FL {b0 x : Nat} {M M1 : jM} (h : fq (cF b0) M M1) : fq (cL b0 x) M M1 := fq_mono h (fun _ _ _ q => cF_L q)
theorem CT_L {M M1 : jM} {b0 x : Nat} {len : Int} {tx : Int → Int} {p p' : Int} (h : CT M len tx p) (hf : fq (cL b0 x) M M1) (hp : 0 ≤ p' ∧ p' ≤ len) (e3 : M1 8 0 3 = zI p') : CT M1 len tx p' :=
  CT_p h hp (hf 8 0 2 (fun z => by unfold cL cE at z; omega)) (fun j => hf 41 0 j (fun z => by unfold cL cE at z; omega)) e3
theorem pb0_ok {len : Int} {tx : Int → Int} {p : Int} {M : jM} {Q : Int32 → Nat → jM → Prop} (hT : CT M len tx p)
    (hg : isD (chr len tx p) → 0 ≤ nX (chr len tx) p → nX (chr len tx) p ≤ 30 → ∀ M1, fq cP M M1 → CT M1 len tx (nP (chr len tx) p) → Q (zI (nX (chr len tx) p)) 0 M1) (hb : ¬ (isD (chr len tx p) ∧ 0 ≤ nX (chr len tx) p ∧ nX (chr len tx) p ≤ 30) → ∀ M1, fq cE M M1 → M1 8 0 5 = zI p → Q (-1) 0 M1) : ok_X8_parseBound 0 M Q := by
  rw [z_0]
  exact pb_ok hT (by omega) hg hb
theorem jnB_e {M : jM} {R i f : Nat} (h : ¬ cL (jnb M) 0 R i f) : jnB M R i f = M R i f := by
  unfold cL at h
  unfold jnB
  rw [if_neg (by omega), if_neg (by omega)]
set_option maxHeartbeats 4000000 in
set_option maxRecDepth 100000 in
theorem pl_ok {x : Nat} {len : Int} {tx : Int → Int} {p : Int} {M : jM} {Q : Int32 → Nat → jM → Prop} (hx : 12 ≤ x ∧ x < 20) (hT : CT M len tx p) (hnb : jnb M ≤ 100000) (h3 : M 3 x 3 = zI 0)
    (hA : ∀ M1 p' v', fq (cL (jnb M) x) M M1 → CT M1 len tx p' → M1 8 0 5 = M 8 0 5 → jnb M1 = jnb M + 1 → LR M1 x v' → OKL v' → p + 15 < p' → LpG (chr len tx) p p' v' → Q 1 0 M1)
    (hB : ∀ M1 f, fq (cL (jnb M) x) M M1 → M1 8 0 5 = zI f → jnb M1 = jnb M + 1 → LpB (chr len tx) p f → Q 0 0 M1) : ok_X8_parseLoop x M Q := by
  refine en_X8_parseLoop (bl_X8_parseLoop_0 _ _ _ (by omega) ⟨by omega, ?_⟩)
  rintro M1 rfl M3 hM3
  have nbB := jnb_nB (M := M) (by omega)
  have nb3 : jnb M3 = jnb M + 1 := by rw [hM3, jnb_up (by decide), nbB]
  have f3 : fq (cL (jnb M) x) M M3 := fun R i f q => by
    have q2 : ¬ (R = 3 ∧ i = x ∧ f = 0) := fun z => q (Or.inr (Or.inr (Or.inr (Or.inl ⟨z.1, z.2.1, by omega⟩))))
    rw [hM3, jup_ne q2]
    unfold cL at q
    unfold jnB
    rw [if_neg (by omega), if_neg (by omega)]
  have e83 : M3 8 0 3 = M 8 0 3 := by
    rw [hM3, jup_R (by decide)]
    unfold jnB
    rw [if_neg (by omega), if_neg (by omega)]
  have e85 : M3 8 0 5 = M 8 0 5 := by
    rw [hM3, jup_R (by decide)]
    unfold jnB
    rw [if_neg (by omega), if_neg (by omega)]
  have T3 : CT M3 len tx p := CT_L hT f3 hT.2.1 (by rw [e83]; exact hT.2.2.2.1)
  have z3 : ∀ R i f, ((R = 0 ∨ (20 ≤ R ∧ R ≤ 25)) ∧ i = jnb M) ∨ ((R = 7 ∨ R = 26) ∧ i / 4 = jnb M) → M3 R i f = zI 0 := fun R i f h => by
    rw [hM3, jup_R (by omega)]
    unfold jnB
    rw [if_neg (by omega), if_pos h, z_0]
  have C3 : ∀ v : Int → Int, v 4 = 0 → CO M3 (jnb M) v 0 0 := fun v hv => ⟨by omega, ⟨by rw [z3 _ _ _ (by omega), hv], z3 _ _ _ (by omega), z3 _ _ _ (by omega)⟩, fun r r0 r1 => by omega, fun j j0 j1 => by omega, fun j j0 j1 => ⟨z3 _ _ _ (by omega), fun q q0 q1 => z3 _ _ _ (by omega)⟩⟩
  have hl := hT.1.1
  have hp := hT.2.1
  have nbE : ∀ M5, fq cE M3 M5 → jnb M5 = jnb M + 1 := fun M5 h => by rw [fq_nbE h, nb3]
  have up3 : ∀ (M7 M8 : jM) (f : Nat) (y : Int32), f ≤ 2 → fq (cL (jnb M) x) M M7 → M8 = jup M7 3 x f y → fq (cL (jnb M) x) M M8 := fun M7 M8 f y hf h hM => by
    rw [hM]; exact fq_up h (Or.inr (Or.inr (Or.inr (Or.inl ⟨rfl, rfl, hf⟩))))
  refine xp_ok (L := 4) (g := wF) (by decide) rfl (by decide) (fun i hi => ?_) T3 (fun h1 M5 f5 T5 => ⟨fq_nbP f5, fun w => absurd w (by decide), fun _ => ?_⟩) (fun i i0 i1 hj h M5 f5 g5 => ⟨fq_nbE f5, fun _ => hB M5 _ (fq_tr f3 (fq_EL f5)) g5 (by rw [fq_nbE f5, nb3]) (Or.inl ⟨i, i0, i1, hj, h, rfl⟩), fun w => absurd rfl w⟩)
  · rcases (show i = 0 ∨ i = 1 ∨ i = 2 ∨ i = 3 by omega) with rfl | rfl | rfl | rfl
    · exact ⟨by decide +kernel, by decide, by decide⟩
    · exact ⟨by decide +kernel, by decide, by decide⟩
    · exact ⟨by decide +kernel, by decide, by decide⟩
    · exact ⟨by decide +kernel, by decide, by decide⟩
  have T5 : CT M5 len tx (p + 4) := T5
  have F5 := fq_tr f3 (fq_PL (b0 := jnb M) (x := x) f5)
  have nb5 : jnb M5 = jnb M + 1 := by rw [fq_nbP f5, nb3]
  have g85 : M5 8 0 5 = M 8 0 5 := by rw [fq_5P f5, e85]
  refine pb0_ok T5 (fun d1 d2 d3 M7 f7 T7 => ⟨fq_nbP f7, ?_⟩) (fun hn M7 f7 g7 => ⟨fq_nbE f7, ?_⟩)
  rotate_left
  · intro M8 hM8
    refine ⟨fun _ => hB M8 (p + 4) (up3 M7 M8 1 _ (by decide) (fq_tr F5 (fq_EL f7)) hM8) (by rw [hM8, jup_R (by decide)]; exact g7) (by rw [hM8, jnb_up (by decide), fq_nbE f7, nb5]) (Or.inr (Or.inl ⟨h1, hn, rfl⟩)), fun w => absurd (by rw [hM8, jup_self]) w⟩
  intro M8 hM8
  have H2 : hd2 (chr len tx) p := ⟨h1, d1, d2, d3⟩
  have F8 := up3 M7 M8 1 _ (by decide) (fq_tr F5 (fq_PL f7)) hM8
  have nb8 : jnb M8 = jnb M + 1 := by rw [hM8, jnb_up (by decide), fq_nbP f7, nb5]
  have e81 : M8 3 x 1 = zI (nX (chr len tx) (p + 4)) := by rw [hM8, jup_self]
  have g88 : M8 8 0 5 = M 8 0 5 := by rw [hM8, jup_R (by decide), fq_5P f7, g85]
  have T8 : CT M8 len tx (nP (chr len tx) (p + 4)) := CT_p T7 T7.2.1 (by rw [hM8, jup_R (by decide)]) (fun j => by rw [hM8, jup_R (by decide)]) (by rw [hM8, jup_R (by decide)]; exact T7.2.2.2.1)
  have np1 := nP_r (chr len tx) (p + 4)
  refine ⟨fun w => absurd (by rw [← e81]; exact w) (ne1 (by omega)), fun _ => ?_⟩
  refine x1_ok (g := 44) (by decide) rfl (by decide +kernel) (by decide) T8 (fun c5 M10 f10 T10 => ⟨fq_nbP f10, fun w => absurd w (by decide), fun _ => ?_⟩) (fun c5 M10 f10 g10 => ⟨fq_nbE f10, fun _ => hB M10 _ (fq_tr F8 (fq_EL f10)) g10 (by rw [fq_nbE f10, nb8]) (Or.inr (Or.inr (Or.inl ⟨H2, c5, rfl⟩))), fun w => absurd rfl w⟩)
  have H3 : hd3 (chr len tx) p := ⟨H2, c5⟩
  have e101 : M10 3 x 1 = zI (nX (chr len tx) (p + 4)) := by rw [f10 3 x 1 (fun z => by have := z.1; omega), e81]
  have F10 := fq_tr F8 (fq_PL f10)
  have nb10 : jnb M10 = jnb M + 1 := by rw [fq_nbP f10, nb8]
  rw [e101]
  refine pb_ok T10 (by omega) (fun d4 d5 d6 M12 f12 T12 => ⟨fq_nbP f12, ?_⟩) (fun hn M12 f12 g12 => ⟨fq_nbE f12, ?_⟩)
  rotate_left
  · intro M13 hM13
    refine ⟨fun _ => hB M13 _ (up3 M12 M13 2 _ (by decide) (fq_tr F10 (fq_EL f12)) hM13) (by rw [hM13, jup_R (by decide)]; exact g12) (by rw [hM13, jnb_up (by decide), fq_nbE f12, nb10]) (Or.inr (Or.inr (Or.inr (Or.inl ⟨H3, hn, rfl⟩)))), fun w => absurd (by rw [hM13, jup_self]) w⟩
  intro M13 hM13
  have H4 : hd4 (chr len tx) p := ⟨H3, d4, d5, d6⟩
  have np2 := nP_r (chr len tx) (nP (chr len tx) (p + 4) + 1)
  have F13 := up3 M12 M13 2 _ (by decide) (fq_tr F10 (fq_PL f12)) hM13
  have nb13 : jnb M13 = jnb M + 1 := by rw [hM13, jnb_up (by decide), fq_nbP f12, nb10]
  have e132 : M13 3 x 2 = zI (nX (chr len tx) (nP (chr len tx) (p + 4) + 1)) := by rw [hM13, jup_self]
  have e131 : M13 3 x 1 = zI (nX (chr len tx) (p + 4)) := by rw [hM13, jup_ne (by omega), f12 3 x 1 (fun z => by have := z.1; omega), e101]
  have g138 : M13 8 0 5 = M 8 0 5 := by rw [hM13, jup_R (by decide), fq_5P f12, fq_5P f10, g88]
  have T13 : CT M13 len tx (hq (chr len tx) p) := CT_p T12 T12.2.1 (by rw [hM13, jup_R (by decide)]) (fun j => by rw [hM13, jup_R (by decide)]) (by rw [hM13, jup_R (by decide)]; exact T12.2.2.2.1)
  refine ⟨fun w => absurd (by rw [← e132]; exact w) (ne1 (by have := nX_r d4; omega)), fun _ => ?_⟩
  have hq1 : p + 7 ≤ hq (chr len tx) p := by unfold hq; omega
  refine xp_ok (L := 2) (g := fun i => if i = 0 then 41 else 123) (by decide) rfl (by decide) (fun i hi => ?_) T13 (fun h2 M15 f15 T15 => ⟨fq_nbP f15, fun w => absurd w (by decide), fun _ => ?_⟩) (fun i i0 i1 hj h M15 f15 g15 => ⟨fq_nbE f15, fun _ => hB M15 _ (fq_tr F13 (fq_EL f15)) g15 (by rw [fq_nbE f15, nb13]) ?_, fun w => absurd rfl w⟩)
  · rcases (show i = 0 ∨ i = 1 by omega) with rfl | rfl
    · exact ⟨by decide +kernel, by decide, by decide⟩
    · exact ⟨by decide +kernel, by decide, by decide⟩
  rotate_left
  · rcases (show i = 0 ∨ i = 1 by omega) with rfl | rfl
    · rw [Int.add_zero, if_pos rfl] at h
      exact Or.inr (Or.inr (Or.inr (Or.inr (Or.inl ⟨H4, h, Int.add_zero _⟩))))
    · rw [if_neg (by omega)] at h
      have a := hj 0 (by omega) (by omega)
      rw [Int.add_zero, if_pos rfl] at a
      exact Or.inr (Or.inr (Or.inr (Or.inr (Or.inr (Or.inl ⟨H4, a, h, rfl⟩)))))
  have T15 : CT M15 len tx (hq (chr len tx) p + 2) := T15
  have H5 : hd5 (chr len tx) p := by
    have a := h2 0 (by omega) (by omega)
    have b := h2 1 (by omega) (by omega)
    rw [Int.add_zero, if_pos rfl] at a
    rw [if_neg (by omega)] at b
    exact ⟨H4, a, b⟩
  have F15 := fq_tr F13 (fq_PL (b0 := jnb M) (x := x) f15)
  have nb15 : jnb M15 = jnb M + 1 := by rw [fq_nbP f15, nb13]
  have hv4 : hv (chr len tx) p 4 = 0 := rfl
  have C15 : CO M15 (jnb M) (hv (chr len tx) p) 0 0 := by
    have a := C3 (hv (chr len tx) p) hv4
    have e5 : ∀ R, R ≠ 8 → R ≠ 3 → M15 R = M3 R := fun R r8 r3 => by
      funext i f
      rw [f15 R i f (fun z => r8 z.1), hM13, jup_R r3, f12 R i f (fun z => r8 z.1), f10 R i f (fun z => r8 z.1), hM8, jup_R r3, f7 R i f (fun z => r8 z.1), f5 R i f (fun z => r8 z.1)]
    exact CO_e a e5
  have hp15 := T15.2.1
  have P15 : PO (hv (chr len tx) p) 0 (hq (chr len tx) p + 2) 0 := ⟨⟨by omega, by omega, rfl⟩, ⟨by rw [hv4]; omega, by rw [hv4]; omega⟩, by omega, ⟨fun r r0 r1 => by rw [hv4] at r1; omega, fun _ => 0, fun j j0 j1 => by omega, fun j j0 j1 => by omega, fun r r0 r1 => by rw [hv4] at r1; omega⟩, fun j j0 j1 => by omega, fun j j0 j1 => by unfold hv v0; rw [if_neg (by omega), if_neg (by omega)], fun r r0 r1 => by rw [hv4] at r1; omega⟩
  have k15 : ∀ f, f = 1 ∨ f = 2 ∨ f = 3 ∨ f = 0 → M15 3 x f = M13 3 x f := fun f _ => f15 3 x f (fun z => by have := z.1; omega)
  have e30 : M13 3 x 0 = zI (jnb M : Int) := by
    rw [hM13, jup_ne (by omega), f12 3 x 0 (fun z => by have := z.1; omega), f10 3 x 0 (fun z => by have := z.1; omega), hM8, jup_ne (by omega), f7 3 x 0 (fun z => by have := z.1; omega), f5 3 x 0 (fun z => by have := z.1; omega), hM3, jup_self, z_nI]
  have e33 : M13 3 x 3 = zI 0 := by rw [F13 3 x 3 (fun z => by unfold cL cE at z; omega)]; exact h3
  rw [show (1 : Int32) = zI (0 + 1) from z_1]
  refine ls_ok8 4 0 (hq (chr len tx) p + 2) 0 _ M15 (by omega) (by omega) (by omega) T15 C15 P15 (fun M17 p' v' s' f1 k1 k2 k3 k4 k5 k6 k7 k8 k9 k10 => ?_) (fun M17 p' v' k1 k2 k3 k4 => ?_) (fun M17 f k1 k2 k3 => ?_)
  · have w0 : v' 0 = nX (chr len tx) (p + 4) := by rw [k8 0 (by omega) (by omega)]; rfl
    have w1 : v' 1 = nX (chr len tx) (nP (chr len tx) (p + 4) + 1) := by rw [k8 1 (by omega) (by omega)]; rfl
    have w2 : v' 2 = 0 := by rw [k8 2 (by omega) (by omega)]; rfl
    have k17 : ∀ f, M17 3 x f = M15 3 x f := fun f => k1 3 x f (fun z => by unfold cB cP at z; omega)
    have n17 : jnb M17 = jnb M + 1 := by rw [fq_nbB k1, nb15]
    refine hA M17 p' v' (fq_tr F15 (fq_FL (fq_BF k1))) k2 (by rw [k3, fq_5P f15, g138]) n17 ⟨⟨?_, ?_, ?_⟩, jnb M, by omega, ?_, CO_BR k4 k5⟩ (PO_OKL k5 k6 (by rw [w0, w1]; omega) w2) (by omega) ⟨H5, k9, k10⟩
    · rw [k17, k15 1 (by omega), e131, w0]
    · rw [k17, k15 2 (by omega), e132, w1]
    · rw [k17, k15 3 (by omega), e33, w2]
    · rw [k17, k15 0 (by omega), e30]
  · exact hB M17 p' (fq_tr F15 (fq_FL k1)) k2 (by rw [fq_nbF k1, nb15]) (Or.inr (Or.inr (Or.inr (Or.inr (Or.inr (Or.inr (Or.inr ⟨H5, ⟨v', k3⟩, k4⟩)))))))
  · exact hB M17 f (fq_tr F15 (fq_FL k1)) k2 (by rw [fq_nbF k1, nb15]) (Or.inr (Or.inr (Or.inr (Or.inr (Or.inr (Or.inr (Or.inl ⟨H5, k3⟩)))))))
