/-! ===== new Body() ===== -/
theorem arrV_ext {c : ClassId} {N : Nat} {f f' : Nat → Value} (h : ∀ j, j < N → f j = f' j) : arrV c N f = arrV c N f' := by
  unfold arrV
  have e : (fun j : Fin N => f j.val) = fun j : Fin N => f' j.val := funext fun j => h j.val j.isLt
  rw [e]
def jNew (b R i : Nat) : Prop := ((R = 0 ∨ (20 ≤ R ∧ R ≤ 25)) ∧ i = b) ∨ ((R = 7 ∨ R = 26) ∧ i / 4 = b)
def jg1 (b z : Nat) (g : Nat → Nat → Nat) : Nat → Nat → Nat := fun R i =>
  if R = 0 ∧ i = b then z else if (20 ≤ R ∧ R ≤ 25) ∧ i = b then z + 1 + (R - 20) else if R = 7 ∧ i / 4 = b then z + 7 + 2 * (i % 4) else if R = 26 ∧ i / 4 = b then z + 8 + 2 * (i % 4) else g R i
theorem jNew_old {b R i : Nat} (h : i < jCntN b R) : ¬ jNew b R i := by
  unfold jCntN at h
  unfold jNew
  split at h <;> omega
theorem jNew_or {b R i : Nat} (h : i < jCntN (b + 1) R) : i < jCntN b R ∨ jNew b R i := by
  unfold jCntN at h ⊢
  unfold jNew
  split at h <;> first | omega | (dsimp only; omega)
theorem jT_alive {b R k i : Nat} {q : Nat × Nat} (h : jT R k i = some q) (hi : i < jCntN b R) : q.2 < jCntN b q.1 := by
  unfold jT at h
  split at h
  all_goals first | (cases h; done) | skip
  all_goals first | unfold jT0 at h | unfold jT1 at h | unfold jT2 at h | unfold jT4 at h | unfold jT5 at h | unfold jT6 at h | unfold jT7 at h | unfold jT8 at h | unfold jT9 at h | unfold jT10 at h | unfold jT11 at h
  all_goals (split at h <;> first | (cases h; done) | (cases h; simp only [jCntN] at hi ⊢; omega))
theorem jRX_alive {b R i j : Nat} (h5 : jAK R = 5) (hi : i < jCntN b R) (hj : j < jL R) : (jRX R i j).2 < jCntN b (jRX R i j).1 := by
  unfold jAK at h5
  split at h5 <;> first | omega | (simp only [jRX, jL, jCntN] at hi hj ⊢; omega)
theorem jAt_ext {D : va_G} {cA : Nat → ClassId} {H : Heap} {b R i q : Nat} {g g1 : Nat → Nat → Nat} {M M1 : jM} (hg : ∀ R i, i < jCntN b R → g1 R i = g R i) (hM : ∀ k, M1 R i k = M R i k) (hb : R = 3 → (M 3 i 0).toNatClampNeg < b) (hi : i < jCntN b R) (h : va_at D vwCl (q, jC cA g M R i) H) : va_at D vwCl (q, jC cA g1 M1 R i) H := by
  have e : va_at D vwCl (q, jC cA g1 M1 R i) H = va_at D vwCl (q, jC cA g M R i) H := by
    by_cases hR : R < 12
    · have e : jFs g1 M1 R i = jFs g M R i := by
        unfold jFs
        apply List.map_congr_left
        intro k _
        unfold jV
        cases hq : jT R k i with
        | some q => simp only; rw [hg _ _ (jT_alive hq hi)]
        | none =>
          simp only
          by_cases h3 : R = 3 ∧ k = 0
          · obtain ⟨rfl, rfl⟩ := h3
            rw [if_pos ⟨rfl, rfl⟩, if_pos ⟨rfl, rfl⟩, hM 0, hg 0 _ (hb rfl)]
          · rw [if_neg h3, if_neg h3, hM k]
      unfold jC
      rw [if_pos hR, if_pos hR, e]
    · have eM : M1 R i = M R i := funext hM
      have e : vp_cell (cA R) (jAr g1 M1 R i) = vp_cell (cA R) (jAr g M R i) := by
        by_cases h5 : jAK R = 5
        · have e1 : ∀ (g : Nat → Nat → Nat) (M : jM), jAr g M R i = (jL R, .inr (.inr (.inr (.inr (fun j => some (g (jRX R i j).1 (jRX R i j).2)))))) := fun g M => by
            unfold jAr
            rw [h5]
            rfl
          rw [e1, e1, vp_cell_q, vp_cell_q]
          refine arrV_ext fun j hj => ?_
          show va_rf (some _) = va_rf (some _)
          rw [hg _ _ (jRX_alive h5 hi hj)]
        · unfold jAr
          rw [eM]
          generalize jAK R = t at h5 ⊢
          rcases t with _ | _ | _ | _ | _ | _ | t <;> first | rfl | exact absurd rfl h5
      unfold jC
      rw [if_neg hR, if_neg hR]
      show (H[q]? = some (vp_cell _ _)) = (H[q]? = some (vp_cell _ _))
      rw [e]
  rw [e]
  exact h
theorem jg1_new {b z R i : Nat} {g : Nat → Nat → Nat} (h : jNew b R i) : (R = 0 ∧ i = b ∧ jg1 b z g R i = z) ∨ ((20 ≤ R ∧ R ≤ 25) ∧ i = b ∧ jg1 b z g R i = z + 1 + (R - 20)) ∨ (R = 7 ∧ i / 4 = b ∧ jg1 b z g R i = z + 7 + 2 * (i % 4)) ∨ (R = 26 ∧ i / 4 = b ∧ jg1 b z g R i = z + 8 + 2 * (i % 4)) := by
  unfold jNew at h
  by_cases h0 : R = 0
  · have hi : i = b := by omega
    exact Or.inl ⟨h0, hi, if_pos ⟨h0, hi⟩⟩
  by_cases h1 : 20 ≤ R ∧ R ≤ 25
  · have hi : i = b := by omega
    refine Or.inr (Or.inl ⟨h1, hi, ?_⟩)
    unfold jg1
    rw [if_neg (by omega), if_pos ⟨h1, hi⟩]
  by_cases h2 : R = 7
  · have hi : i / 4 = b := by omega
    refine Or.inr (Or.inr (Or.inl ⟨h2, hi, ?_⟩))
    unfold jg1
    rw [if_neg (by omega), if_neg (by omega), if_pos ⟨h2, hi⟩]
  · have h3 : R = 26 := by omega
    have hi : i / 4 = b := by omega
    refine Or.inr (Or.inr (Or.inr ⟨h3, hi, ?_⟩))
    unfold jg1
    rw [if_neg (by omega), if_neg (by omega), if_neg (by omega), if_pos ⟨h3, hi⟩]
theorem jRep.newBody {base : Nat} {D : va_G} {cA : Nat → ClassId} {g : Nat → Nat → Nat} {M : jM} {H H2 : Heap} (h : jRep base D cA g M H) (hnb : jnb M + 1 < 2 ^ 31) (hbs : base ≤ H.size) (ho : ∀ q : Nat, q < H.size → H2[q]? = H[q]?) (hr : va_at D vwCl (H.size, .inr (0, kf_X0 (H.size + 1))) H2)
    (hc : ∀ (j : Nat) (e : va_E), (kl_X0 cA (H.size + 1))[j]? = some e → va_at D vwCl (H.size + 1 + j, e) H2) : jRep base D cA (jg1 (jnb M) H.size g) (jnB M) H2 := by
  have e1 := jnb_nB hnb
  have hold : ∀ R i, i < jCntN (jnb M) R → jg1 (jnb M) H.size g R i = g R i := fun R i hi => by
    have h1 := jNew_old hi
    unfold jNew at h1
    unfold jg1
    rw [if_neg (by omega), if_neg (by omega), if_neg (by omega), if_neg (by omega)]
  have hMold : ∀ R i, i < jCntN (jnb M) R → ∀ k, jnB M R i k = M R i k := fun R i hi k => by
    have h1 := jNew_old hi
    have h99 : R ≠ 99 := by
      rintro rfl
      simp [jCntN] at hi
    unfold jnB
    unfold jNew at h1
    rw [if_neg (fun q => h99 q.1), if_neg h1]
  have hMnew : ∀ R i, jNew (jnb M) R i → ∀ k, jnB M R i k = 0 := fun R i hi k => by
    have h99 : R ≠ 99 := by unfold jNew at hi; omega
    unfold jnB
    unfold jNew at hi
    rw [if_neg (fun q => h99 q.1), if_pos hi]
  have hlt : ∀ R i, i < jCntN (jnb M) R → g R i < H.size := fun R i hi => (h.1 R i hi).1.lt
  generalize hG : jg1 (jnb M) H.size g = g1 at hold
  have hnew : ∀ R i, jNew (jnb M) R i → (R = 0 ∧ i = jnb M ∧ g1 R i = H.size) ∨ ((20 ≤ R ∧ R ≤ 25) ∧ i = jnb M ∧ g1 R i = H.size + 1 + (R - 20)) ∨ (R = 7 ∧ i / 4 = jnb M ∧ g1 R i = H.size + 7 + 2 * (i % 4)) ∨ (R = 26 ∧ i / 4 = jnb M ∧ g1 R i = H.size + 8 + 2 * (i % 4)) := fun R i hi => by
    rw [← hG]
    exact jg1_new hi
  have g20 : ∀ R, 20 ≤ R → R ≤ 25 → g1 R (jnb M) = H.size + 1 + (R - 20) := fun R a b => by
    have := hnew R (jnb M) (Or.inl ⟨Or.inr ⟨a, b⟩, rfl⟩)
    omega
  have g7 : ∀ i, i / 4 = jnb M → g1 7 i = H.size + 7 + 2 * (i % 4) := fun i hi => by
    have := hnew 7 i (Or.inr ⟨Or.inl rfl, hi⟩)
    omega
  have g26 : ∀ i, i / 4 = jnb M → g1 26 i = H.size + 8 + 2 * (i % 4) := fun i hi => by
    have := hnew 26 i (Or.inr ⟨Or.inr rfl, hi⟩)
    omega
  have hz : ∀ R i, jNew (jnb M) R i → jnB M R i = fun _ => 0 := fun R i hi => funext (hMnew R i hi)
  refine ⟨fun R i hi => ?_, fun R i R' i' hi hi' e => ?_, fun i hi => ?_⟩
  · have hi : i < jCntN (jnb M + 1) R := by rw [← e1]; exact hi
    rcases jNew_or hi with hi | hn
    · rw [hold R i hi]
      exact ⟨jAt_ext hold (hMold R i hi) (fun e => h.2.2 i (by subst e; exact hi)) hi ((h.1 R i hi).1.kept (ho _ (hlt R i hi))), (h.1 R i hi).2⟩
    · have hzz := hz R i hn
      rcases hnew R i hn with ⟨rfl, rfl, e⟩ | ⟨hR, rfl, e⟩ | ⟨rfl, hi4, e⟩ | ⟨rfl, hi4, e⟩
      · rw [e]
        refine ⟨?_, hbs⟩
        have ef : jFs g1 (jnB M) 0 (jnb M) = kf_X0 (H.size + 1) := by
          show [Value.ref (g1 20 (jnb M)), .ref (g1 21 (jnb M)), .ref (g1 22 (jnb M)), .ref (g1 23 (jnb M)), .ref (g1 24 (jnb M)), .ref (g1 25 (jnb M)), .int (jnB M 0 (jnb M) 6), .int (jnB M 0 (jnb M) 7), .int (jnB M 0 (jnb M) 8)] = _
          rw [hzz, g20 20 (by decide) (by decide), g20 21 (by decide) (by decide), g20 22 (by decide) (by decide), g20 23 (by decide) (by decide), g20 24 (by decide) (by decide), g20 25 (by decide) (by decide)]
          rfl
        show va_at D vwCl (H.size, .inr (0, jFs g1 (jnB M) 0 (jnb M))) H2
        rw [ef]
        exact hr
      · rw [e]
        refine ⟨?_, by omega⟩
        have hR6 : R = 20 ∨ R = 21 ∨ R = 22 ∨ R = 23 ∨ R = 24 ∨ R = 25 := by omega
        rcases hR6 with rfl | rfl | rfl | rfl | rfl | rfl
        · show va_at D vwCl (H.size + 1 + 0, .inl (cA 20, 24, .inl (jnB M 20 (jnb M)))) H2
          rw [hzz]; exact hc 0 _ rfl
        · show va_at D vwCl (H.size + 1 + 1, .inl (cA 21, 24, .inl (jnB M 21 (jnb M)))) H2
          rw [hzz]; exact hc 1 _ rfl
        · show va_at D vwCl (H.size + 1 + 2, .inl (cA 22, 24, .inl (jnB M 22 (jnb M)))) H2
          rw [hzz]; exact hc 2 _ rfl
        · have h9 := hc 3 _ rfl
          show H2[H.size + 1 + 3]? = some (vp_cell (cA 23) (4, .inr (.inr (.inr (.inr (fun j => some (g1 7 (4 * jnb M + j))))))))
          refine (show H2[H.size + 1 + 3]? = some (vp_cell (cA 23) (4, _)) from h9).trans ?_
          rw [vp_cell_q, vp_cell_q]
          refine congrArg some (arrV_ext fun j hj => ?_)
          rw [g7 (4 * jnb M + j) (by omega), show (4 * jnb M + j) % 4 = j by omega]
          have hj4 : j = 0 ∨ j = 1 ∨ j = 2 ∨ j = 3 := by omega
          rcases hj4 with rfl | rfl | rfl | rfl <;> rfl
        · show va_at D vwCl (H.size + 1 + 4, .inl (cA 24, 120, .inl (jnB M 24 (jnb M)))) H2
          rw [hzz]; exact hc 4 _ rfl
        · show va_at D vwCl (H.size + 1 + 5, .inl (cA 25, 120, .inl (jnB M 25 (jnb M)))) H2
          rw [hzz]; exact hc 5 _ rfl
      · have ef : jFs g1 (jnB M) 7 i = [.ref (H.size + 8 + 2 * (i % 4)), .int 0, .int 0, .int 0, .int 0, .int 0] := by
          show [Value.ref (g1 26 i), .int (jnB M 7 i 1), .int (jnB M 7 i 2), .int (jnB M 7 i 3), .int (jnB M 7 i 4), .int (jnB M 7 i 5)] = _
          rw [hzz, g26 i hi4]
        rw [e]
        refine ⟨?_, by omega⟩
        show va_at D vwCl (H.size + 7 + 2 * (i % 4), .inr (7, jFs g1 (jnB M) 7 i)) H2
        rw [ef]
        have hr4 : i % 4 = 0 ∨ i % 4 = 1 ∨ i % 4 = 2 ∨ i % 4 = 3 := by omega
        rcases hr4 with q | q | q | q <;> rw [q]
        · exact hc 6 _ rfl
        · exact hc 8 _ rfl
        · exact hc 10 _ rfl
        · exact hc 12 _ rfl
      · rw [e]
        refine ⟨?_, by omega⟩
        show va_at D vwCl (H.size + 8 + 2 * (i % 4), .inl (cA 26, 3, .inl (jnB M 26 i))) H2
        rw [hzz]
        have hr4 : i % 4 = 0 ∨ i % 4 = 1 ∨ i % 4 = 2 ∨ i % 4 = 3 := by omega
        rcases hr4 with q | q | q | q <;> rw [q]
        · exact hc 7 _ rfl
        · exact hc 9 _ rfl
        · exact hc 11 _ rfl
        · exact hc 13 _ rfl
  · have hi : i < jCntN (jnb M + 1) R := by rw [← e1]; exact hi
    have hi' : i' < jCntN (jnb M + 1) R' := by rw [← e1]; exact hi'
    rcases jNew_or hi with h1 | h1 <;> rcases jNew_or hi' with h2 | h2
    · rw [hold R i h1, hold R' i' h2] at e
      exact h.2.1 R i R' i' h1 h2 e
    · have a1 := hlt R i h1
      have a2 := hnew R' i' h2
      rw [hold R i h1] at e
      omega
    · have a1 := hlt R' i' h2
      have a2 := hnew R i h1
      rw [hold R' i' h2] at e
      omega
    · have a1 := hnew R i h1
      have a2 := hnew R' i' h2
      omega
  · rw [hMold 3 i (show i < 20 from hi), e1]
    exact Nat.lt_succ_of_lt (h.2.2 i hi)
theorem kNW_jCD {w : Cond} (h : kNW w = true) : jCD w = true := by
  cases w with
  | methodLinkNest a i x hst => rfl
  | arrayOver t => cases t <;> first | rfl | (simp [kNW] at h)
  | _ => simp [kNW] at h
section JRB
variable {p : Program} {l : Launch} {e : Env} {R0 : Room} {s : State} {m : MethodId} {args : Array Value} {below : List Frame} {meth : Method} {c : Code} {H : Heap} {locs : List Loc} {cells slots : Nat} {Qf : State → Prop}
variable {cc : ByteArray} {nL base d' : Nat} {D : va_G} {cA : Nat → ClassId} {g : Nat → Nat → Nat} {M : jM} {pc : Nat} {ls : Array Slot} {rest : List Value}
theorem jr_newBody (C : jCx p l s m args meth c RX8 cc nL D cA base g) (G : jG base D cA g M s H locs) (hnb : jnb M + 1 < 2 ^ 31) (hc : cells + 15 ≤ R0.cells) (hs : slots + 361 ≤ R0.slots) (hR0 : R0.frames = d' ∧ R0.locals = 50 * d') (hd : 3 ≤ d') (hsz : ls.size = nL) (hrest : (rest.map fun v => v.category).sum ≤ 6)
    (d0 : decode cc pc = .ok (.new 25, 3)) (d3 : decode cc (pc + 3) = .ok (.dup, 1)) (d4 : decode cc (pc + 4) = .ok (.invokespecial 27, 3))
    (kk : ∀ (g1 : Nat → Nat → Nat) (H : Heap) (locs : List Loc), jX (jnb M) g g1 → jG base D cA g1 (jnB M) s H locs → W p l e R0 s m args below meth c H locs (cells + 15) (slots + 361) Qf (F0 m (pc + 7) ls (.ref (g1 0 (jnb M)) :: rest))) : W p l e R0 s m args below meth c H locs cells slots Qf (F0 m pc ls rest) := by
  have hKn := C.K.1.1 0 _ jc0.1
  have d4' : decode cc (pc + 3 + 1) = .ok (.invokespecial 27, 3) := d4
  refine W.newcK C.x C.b C.ow (C.w _ wd113) (C.w _ wd114) (C.w _ wd75) rfl d0 (by omega) (show slots + 9 ≤ _ by omega) hKn.2.1 rfl fun H1 kC hkC e1 z1 o1 => ?_
  refine lv_dup C.x C.b d3 rfl ?_
  have hr2 : ((Value.ref H.size :: rest).map fun v => v.category).sum ≤ 8 := by
    rw [List.map_cons, List.sum_cons]
    show 1 + _ ≤ 8
    omega
  have hcw := cwI (R := R0) (rm := jRm 2 14 352) (own := RX8) (index := 27) (y := yX0_init) 0 C.w (wt_in (wt_cons wd117)) rfl rfl rfl (C.w _ wd75) (C.w _ wd115) (C.w _ wd116) rfl ⟨by decide +kernel, by decide +kernel, by decide +kernel⟩ ⟨by rw [hR0.1]; exact hd, by rw [hR0.2]; show 8 + (2 + 11) + 50 * 2 ≤ _; omega⟩
  have hr := va_runI (p := p) (l := l) (e := e) (m := m) (below := below) (meth := meth) (locs := locs) (cells := cells + 1) (slots := slots + 9) (rest := .ref H.size :: rest) (H := H1) (g := F0 m (pc + 3 + 1) ls (.ref H.size :: .ref H.size :: rest)) ⟨C.x, C.b, C.ml, C.ow, C.w⟩ (ko_X0 l D cA H1.size H.size) hcw
    ⟨kPre.blind, fun U hU hW => ⟨rfl, by rw [hU], by rw [z1]; exact Nat.lt_succ_self _, by rw [hU]; exact ⟨_, jc0.1, (u_born tyX0 C.w jc0.2.1 hKn hkC e1 jc0.2.2.1).to (by decide)⟩, C.K.moved hW.alike, fun w hw hq => jCD_warm (kNW_jCD hq) hW (C.st.2.2.1 w hw (kNW_jCD hq))⟩⟩ rfl rfl hsz rfl (jr_room hr2 rfl) d4' ⟨by omega, by omega⟩
  intro T hT X
  obtain ⟨v, st₀, t, T', L9, h0, X', hL, e2, e3, ⟨hv, hB⟩, st⟩ := hr T hT X
  cases hv
  obtain ⟨b1, b2, b3, b4⟩ := hB
  rw [h0] at b4
  rw [z1] at b1 b2 b3 b4 hL
  have hoo : ∀ q : Nat, q < H.size → T'.heap[q]? = H[q]? := fun q hq => by rw [e2, b4 q (by omega) (by omega), o1 q hq]
  have hrep : jRep base D cA (jg1 (jnb M) H.size g) (jnB M) T'.heap := G.1.newBody hnb (Nat.le_trans C.bs G.2.1) hoo (by rw [e2]; exact b2) (by rw [e2]; exact b3)
  have hx : jX (jnb M) g (jg1 (jnb M) H.size g) := ⟨fun R i hi => by
    have h1 := jNew_old hi
    unfold jNew at h1
    unfold jg1
    rw [if_neg (by omega), if_neg (by omega), if_neg (by omega), if_neg (by omega)], fun R hR => funext fun i => by
    unfold jg1
    rw [if_neg (by omega), if_neg (by omega), if_neg (by omega), if_neg (by omega)]⟩
  have hbs := C.bs
  have hS : va_S (jA base) s.heap T'.heap (locs ++ L9) := by
    refine ⟨?_, fun q hq hA => (hoo q (Nat.lt_of_lt_of_le hq G.2.1)).trans (G.2.2.1 q hq hA), fun z hz => ?_⟩
    · rw [e2, b1]
      have := G.2.1
      omega
    · rcases List.mem_append.mp hz with h | h
      · exact G.2.2.2 z h
      · have := G.2.1
        rcases hL z h with h8 | h8
        · show base ≤ z.base
          rw [h8]; omega
        · show base ≤ z.base
          omega
  have e0 : jg1 (jnb M) H.size g 0 (jnb M) = H.size := if_pos ⟨rfl, rfl⟩
  have K := kk (jg1 (jnb M) H.size g) T'.heap (locs ++ L9) hx ⟨hrep, hS⟩ T' rfl X'
  rw [e0] at K
  obtain ⟨t2, a1, c1⟩ := K
  exact ⟨t2, st t2 a1, c1⟩
end JRB
