/-! ===== the class reads: statements ===== -/
def clV (s : Int) (v : Int → Int) (a d : Int) : Int → Int := fun j => if j = 3 then s + 1 else rfV s v a d 1 j
/-- a row between two statements; a body then -/
def PO (v : Int → Int) (s e f0 : Int) : Prop :=
  (0 ≤ s ∧ s ≤ 4 ∧ v 3 = s) ∧ (0 ≤ v 4 ∧ v 4 ≤ 6 * s) ∧ (0 ≤ f0 ∧ f0 ≤ e ∧ e ≤ 120) ∧ RFo v s ∧ (∀ j, 0 ≤ j → j < s → TKo v j ∧ ∃ h, HTo v j [h]) ∧ (∀ j, s ≤ j → j < 4 → v (101 + j) = 0) ∧ ∀ r, 0 ≤ r → r < v 4 → v (77 + r) < s
def CO (M : jM) (b : Nat) (v : Int → Int) (s f0 : Int) : Prop :=
  b < jnb M ∧ (M 0 b 6 = zI (v 4) ∧ M 0 b 7 = zI s ∧ M 0 b 8 = zI f0) ∧
  (∀ r, 0 ≤ r → r < v 4 → M 20 b r.toNat = zI (plc v r) ∧ M 21 b r.toNat = zI (v (53 + r)) ∧ M 22 b r.toNat = zI (v (77 + r))) ∧
  (∀ j, 0 ≤ j → j < s → CS M b v j f0) ∧
  ∀ j, s ≤ j → j ≤ 3 → M 7 (4 * b + j.toNat) 3 = zI 0 ∧ ∀ q : Int, 0 ≤ q → q ≤ 2 → M 26 (4 * b + j.toNat) q.toNat = zI 0
theorem PO_PI {v : Int → Int} {s p f0 : Int} (h : PO v s p f0) (hs : s ≤ 3) : PI v s p f0 0 [] := by
  obtain ⟨h1, h2, h3, h4, h5, h6, _⟩ := h
  have hz := h6 s (by omega) (by omega)
  refine ⟨by omega, by omega, by omega, by rw [hz]; simp; omega, h4, h5, ⟨⟨by omega, fun k k0 k1 => by omega⟩, ?_, fun x hx => by simp at hx⟩, fun j j0 j1 => h6 j (by omega) j1⟩
  rw [hz]; exact hgN_0
theorem CS_cg {M : jM} {b : Nat} {v v' : Int → Int} {s e e' : Int} (hs : 0 ≤ s) (h : ∀ j, 4 ≤ j → v' j = v j) (he : e ≤ e') (hC : CS M b v s e) : CS M b v' s e' := by
  obtain ⟨f, hh, r, g1, g2, g3, g4, g5, g6⟩ := hC
  have ec : v' (101 + s) = v (101 + s) := h _ (by omega)
  have et : ∀ k, 0 ≤ k → k < v (101 + s) → v' ((105 + 120 * s) + k) = v ((105 + 120 * s) + k) := fun k k0 k1 => h _ (by omega)
  have ep : ∀ r, 0 ≤ r → r < v 4 → plc v' r = plc v r := fun r r0 r1 => by unfold plc; rw [h _ (by omega), h _ (by omega)]
  have e4 : v' 4 = v 4 := h 4 (by omega)
  refine ⟨f, hh, r, by rw [ec]; omega, ⟨g2.1, by rw [e4]; exact g2.2.1, by rw [h _ (by omega)]; exact g2.2.2.1, by rw [h _ (by omega)]; exact g2.2.2.2⟩, by rw [ec, hgN_co et]; exact g3, by rw [ec, ep r g2.1 g2.2.1]; exact g4, fun q q0 q1 => ?_, fun k k0 k1 => ?_⟩
  · rw [ec, cnN_co et]; exact g5 q q0 q1
  · rw [ec] at k1
    rw [et k k0 k1]
    exact tkR_cg (by omega) ep (g6 k k0 k1)
set_option maxHeartbeats 4000000 in
set_option maxRecDepth 100000 in
theorem PO_cl {v : Int → Int} {s p f0 rd a d h : Int} (hP : PI v s (p + 1) f0 rd [h]) (hp : p ≤ 120) (ha : 0 ≤ a ∧ a ≤ 4) (hd : -9 ≤ d ∧ d ≤ 9) : PO (clV s v a d) (s + 1) p (f0 + v (101 + s)) := by
  obtain ⟨⟨s0, s1, s2⟩, hrd, h4, hf, hR, hC, ⟨hT, hH⟩, hZ⟩ := hP
  simp at hf
  have hn := hT.1
  have v4 : 0 ≤ v 4 ∧ v 4 < 24 := by omega
  have e4 : clV s v a d 4 = v 4 + 1 := by unfold clV; rw [if_neg (by omega), rf_4]
  have hi : ∀ j, 101 ≤ j → clV s v a d j = v j := fun j hj => by unfold clV; rw [if_neg (by omega), rf_hi v4 (Or.inl hj)]
  have o : ∀ B r, (B = 5 ∨ B = 29 ∨ B = 53 ∨ B = 77) → 0 ≤ r → r < v 4 → clV s v a d (B + r) = v (B + r) := fun B r hB r0 r1 => by unfold clV; rw [if_neg (by omega), rf_o v4 hB ⟨r0, r1⟩]
  have n5 : clV s v a d (5 + v 4) = a := by unfold clV; rw [if_neg (by omega), rf_5 v4]
  have n29 : clV s v a d (29 + v 4) = d := by unfold clV; rw [if_neg (by omega), rf_29 v4]
  have n53 : clV s v a d (53 + v 4) = 1 := by unfold clV; rw [if_neg (by omega), rf_53 v4]
  have n77 : clV s v a d (77 + v 4) = s := by unfold clV; rw [if_neg (by omega), rf_77 v4]
  refine ⟨⟨by omega, by omega, by unfold clV; rw [if_pos rfl]⟩, by rw [e4]; omega, by omega, ⟨fun r r0 r1 => ?_, ?_⟩, fun j j0 j1 => ?_, fun j j0 j1 => by rw [hi _ (by omega)]; exact hZ j (by omega) j1, fun r r0 r1 => ?_⟩
  · rw [e4] at r1
    by_cases q : r = v 4
    · rw [q, n5, n29, n53, n77]; omega
    · rw [o 5 r (by omega) r0 (by omega), o 29 r (by omega) r0 (by omega), o 53 r (by omega) r0 (by omega), o 77 r (by omega) r0 (by omega)]
      have := hR.1 r r0 (by omega)
      omega
  · obtain ⟨_, rs, g1, g2, g3⟩ := hR
    refine ⟨fun j => if j = s then v 4 else rs j, fun j j0 j1 => ?_, fun j j0 j1 => ?_, fun r r0 r1 hw => ?_⟩
    · by_cases q : j = s
      · simp only [q, ↓reduceIte]
        rw [e4, n53, n77]; omega
      · simp only [if_neg q]
        obtain ⟨k1, k2, k3, k4⟩ := g1 j j0 (by omega)
        rw [e4, o 53 _ (by omega) k1 k2, o 77 _ (by omega) k1 k2]
        exact ⟨k1, by omega, k3, k4⟩
    · simp only [if_neg (show ¬ j = s by omega)]
      by_cases q : j + 1 = s
      · simp only [if_pos q]
        exact (g1 j j0 (by omega)).2.1
      · simp only [if_neg q]
        exact g2 j j0 (by omega)
    · rw [e4] at r1
      by_cases q : r = v 4
      · rw [q, n77]
        exact ⟨by omega, by show v 4 = if s = s then v 4 else rs s; rw [if_pos rfl]⟩
      · rw [o 53 r (by omega) r0 (by omega)] at hw
        rw [o 77 r (by omega) r0 (by omega)]
        have := g3 r r0 (by omega) hw
        exact ⟨by omega, by show r = if v (77 + r) = s then v 4 else rs (v (77 + r)); rw [if_neg (by omega)]; exact this.2⟩
  · by_cases q : j = s
    · subst q
      exact ⟨TKo_cg (by omega) (hi _ (by omega)) (fun k k0 k1 => hi _ (by omega)) hT, h, HTo_cg (hi _ (by omega)) (fun k k0 k1 => hi _ (by omega)) hH⟩
    · obtain ⟨g1, hh, g2⟩ := hC j j0 (by omega)
      exact ⟨TKo_cg (by omega) (hi _ (by omega)) (fun k k0 k1 => hi _ (by omega)) g1, hh, HTo_cg (hi _ (by omega)) (fun k k0 k1 => hi _ (by omega)) g2⟩
  · rw [e4] at r1
    by_cases q : r = v 4
    · rw [q, n77]; omega
    · rw [o 77 r (by omega) r0 (by omega)]
      have := hR.1 r r0 (by omega)
      omega
theorem CB_7 {M : jM} {b f : Nat} {v : Int → Int} {s f0 rd : Int} {x : Int32} (hs : 0 ≤ s ∧ s ≤ 3) (hf : f ≠ 1 ∧ f ≠ 3) (hC : CB M b v s f0 rd) : CB (jup M 7 (4 * b + s.toNat) f x) b v s f0 rd := by
  obtain ⟨c1, c2, c3, c4, c5, c6, c7, c8⟩ := hC
  have e : ∀ R, R ≠ 7 → jup M 7 (4 * b + s.toNat) f x R = M R := fun R h => jup_o h
  refine ⟨by unfold jnb; rw [e 99 (by decide)]; exact c1, by rw [e 0 (by decide)]; exact c2, by rw [e 20 (by decide), e 21 (by decide), e 22 (by decide)]; exact c3, fun j j0 j1 => ?_, ⟨by rw [jup_ne (by omega)]; exact c5.1, by rw [jup_ne (by omega)]; exact c5.2⟩, by rw [e 26 (by decide)]; exact c6, by rw [e 24 (by decide), e 25 (by decide)]; exact c7, fun j j0 j1 => ⟨by rw [jup_ne (by omega)]; exact (c8 j j0 j1).1, by rw [e 26 (by decide)]; exact (c8 j j0 j1).2⟩⟩
  obtain ⟨f, h, r, g1, g2, g3, g4, g5, g6⟩ := c4 j j0 j1
  refine ⟨f, h, r, g1, g2, g3, ?_, by rw [e 26 (by decide)]; exact g5, by rw [e 24 (by decide), e 25 (by decide)]; exact g6⟩
  rw [jup_ne (by omega), jup_ne (by omega), jup_ne (by omega), jup_ne (by omega)]
  exact g4
/-- a statement, purely -/
def StG (c : Int → Int) (s p : Int) (v : Int → Int) (p' : Int) (v' : Int → Int) : Prop := ∃ p1 a d rd2 v2, rfG c p p1 a d ∧ c p1 = 61 ∧ Fin c s (p1 + 1) true [] 0 0 v (.inr (p', rd2, v2)) ∧ v' = clV s v2 a d
def StB (c : Int → Int) (s p : Int) (v : Int → Int) (f : Int) : Prop := rfB c p f ∨ ∃ p1 a d, rfG c p p1 a d ∧ ((c p1 ≠ 61 ∧ f = p1) ∨ (c p1 = 61 ∧ Fin c s (p1 + 1) true [] 0 0 v (.inl f)))
set_option maxHeartbeats 4000000 in
set_option maxRecDepth 100000 in
theorem bg_ok {M : jM} {b : Nat} {v : Int → Int} {s f0 : Int} {Q : Int32 → Nat → jM → Prop} (hs : 0 ≤ s ∧ s ≤ 3) (hz : v (101 + s) = 0) (hC : CO M b v s f0) (hQ : ∀ M1, fq (cB b) M M1 → M1 8 = M 8 → CB M1 b v s f0 0 → Q 0 0 M1) : ok_X0_begin b M Q := by
  obtain ⟨c1, c2, c3, c4, c5⟩ := hC
  refine en_X0_begin (bl_X0_begin_0 _ _ _ c1 ?_)
  rw [c2.2.1]
  refine ⟨by rw [z_0, z_leT (by omega)]; trivial, ?_⟩
  rintro M1 rfl
  rw [if_pos (by rw [z_4, z_ltT (by omega)]; trivial), z_clamp (by omega), c2.2.2]
  have e : ∀ R, R ≠ 7 → jup M 7 (4 * b + s.toNat) 1 (zI f0) R = M R := fun R h => jup_o h
  have c50 := c5 s (by omega) hs.2
  refine hQ _ (fq_up (fq_rf _ _) (Or.inr (Or.inr ⟨Or.inl rfl, by omega, by omega⟩))) (e 8 (by decide)) ⟨by unfold jnb; rw [e 99 (by decide)]; exact c1, by rw [e 0 (by decide), hz, Int.add_zero]; exact c2, by rw [e 20 (by decide), e 21 (by decide), e 22 (by decide)]; exact c3, fun j j0 j1 => ?_, ⟨jup_self _ _ _ _ _, by rw [jup_ne (by omega)]; exact c50.1⟩, fun q q0 q1 => ?_, fun k k0 k1 => by omega, fun j j0 j1 => ⟨by rw [jup_ne (by omega)]; exact (c5 j (by omega) j1).1, by rw [e 26 (by decide)]; exact (c5 j (by omega) j1).2⟩⟩
  · obtain ⟨f, h, r, g1, g2, g3, g4, g5, g6⟩ := c4 j j0 j1
    refine ⟨f, h, r, g1, g2, g3, ?_, by rw [e 26 (by decide)]; exact g5, by rw [e 24 (by decide), e 25 (by decide)]; exact g6⟩
    rw [jup_ne (by omega), jup_ne (by omega), jup_ne (by omega), jup_ne (by omega)]
    exact g4
  · rw [e 26 (by decide), hz, cnN_0]; exact c50.2 q q0 q1
set_option maxHeartbeats 4000000 in
set_option maxRecDepth 100000 in
theorem cl_ok {M : jM} {b : Nat} {v : Int → Int} {s p f0 rd a d h : Int} {Q : Int32 → Nat → jM → Prop} (hP : PI v s (p + 1) f0 rd [h]) (hC : CB M b v s f0 rd)
    (hQ : ∀ M1, fq (cB b) M M1 → M1 8 = M 8 → CO M1 b (clV s v a d) (s + 1) (f0 + v (101 + s)) → Q 0 0 M1) : ok_X0_close b (zI (49 * a + d + 9)) (zI h) M Q := by
  have hs := hP.1
  have h4 := hP.2.2.1
  have hrd := hP.2.1
  have hf := hP.2.2.2.1
  have hn := hP.2.2.2.2.2.2.1.1.1
  have v4 : 0 ≤ v 4 ∧ v 4 < 24 := by omega
  refine en_X0_close (bl_X0_close_0 _ _ _ _ _ hC.1 ?_)
  rw [hC.2.1.2.1]
  refine ⟨by rw [z_0, z_leT (by omega)]; trivial, ?_⟩
  rw [if_pos (by rw [z_4, z_ltT (by omega)]; trivial), z_clamp (by omega)]
  rintro M5 rfl M6 rfl M7 rfl
  rw [jup_R (by decide), jup_R (by decide), hC.2.1.2.2, z_1]
  have C7 := CB_7 (f := 2) (x := zI (f0 + v (101 + s))) ⟨hs.1, hs.2.1⟩ ⟨by decide, by decide⟩ (CB_7 (f := 4) (x := zI h) ⟨hs.1, hs.2.1⟩ ⟨by decide, by decide⟩ (CB_7 (f := 5) (x := zI (49 * a + d + 9)) ⟨hs.1, hs.2.1⟩ ⟨by decide, by decide⟩ hC))
  have f7 : fq (cB b) M (jup (jup (jup M 7 (4 * b + s.toNat) 5 (zI (49 * a + d + 9))) 7 (4 * b + s.toNat) 4 (zI h)) 7 (4 * b + s.toNat) 2 (zI (f0 + v (101 + s)))) := fq_up (fq_up (fq_up (fq_rf _ _) (Or.inr (Or.inr ⟨Or.inl rfl, by omega, by omega⟩))) (Or.inr (Or.inr ⟨Or.inl rfl, by omega, by omega⟩))) (Or.inr (Or.inr ⟨Or.inl rfl, by omega, by omega⟩))
  refine ar_ok hP C7 v4.2 (Or.inr rfl) (fun M9 a1 a2 a3 a4 => ⟨fq_nbB a1, ?_⟩)
  rintro M10 rfl
  obtain ⟨c1, c2, c3, c4, c5, c6, c7, c8⟩ := a4
  rw [c2.2.1, z_add]
  have eh : ∀ j, 101 ≤ j → rfV s v a d 1 j = v j := fun j hj => rf_hi v4 (Or.inl hj)
  have ecl : ∀ j, 4 ≤ j → clV s v a d j = rfV s v a d 1 j := fun j hj => by unfold clV; rw [if_neg (by omega)]
  have e : ∀ R, R ≠ 0 → jup M9 0 b 7 (zI (s + 1)) R = M9 R := fun R hR => jup_o hR
  have CSe : ∀ j, CS M9 b (rfV s v a d 1) j f0 → CS (jup M9 0 b 7 (zI (s + 1))) b (rfV s v a d 1) j f0 := fun j hj => by
    unfold CS at *
    rw [e 7 (by decide), e 26 (by decide), e 24 (by decide), e 25 (by decide)]
    exact hj
  refine hQ _ (fq_up (fq_tr f7 a1) (Or.inr (Or.inl ⟨rfl, by omega⟩))) (by rw [e 8 (by decide), a2, jup_o (by decide), jup_o (by decide), jup_o (by decide)]) ⟨by unfold jnb; rw [e 99 (by decide)]; exact c1, ⟨by rw [jup_ne (by omega), ecl 4 (by omega)]; exact c2.1, jup_self _ _ _ _ _, by rw [jup_ne (by omega), c2.2.2, eh _ (by omega)]⟩, fun r r0 r1 => ?_, fun j j0 j1 => ?_, fun j j0 j1 => by rw [e 7 (by decide), e 26 (by decide)]; exact c8 j (by omega) j1⟩
  · rw [ecl 4 (by omega)] at r1
    have ep : plc (clV s v a d) r = plc (rfV s v a d 1) r := by unfold plc; rw [ecl _ (by omega), ecl _ (by omega)]
    rw [e 20 (by decide), e 21 (by decide), e 22 (by decide), ep, ecl _ (by omega), ecl _ (by omega)]
    exact c3 r r0 r1
  · by_cases q : j = s
    · subst q
      have ec : clV j v a d (101 + j) = v (101 + j) := by rw [ecl _ (by omega), eh _ (by omega)]
      have et : ∀ k, 0 ≤ k → k < v (101 + j) → clV j v a d ((105 + 120 * j) + k) = v ((105 + 120 * j) + k) := fun k k0 k1 => by rw [ecl _ (by omega), eh _ (by omega)]
      have et2 : ∀ k, 0 ≤ k → k < v (101 + j) → rfV j v a d 1 ((105 + 120 * j) + k) = v ((105 + 120 * j) + k) := fun k k0 k1 => eh _ (by omega)
      have e51 := c5.1
      have ep : ∀ r, 0 ≤ r → plc (clV j v a d) r = plc (rfV j v a d 1) r := fun r r0 => by unfold plc; rw [ecl _ (by omega), ecl _ (by omega)]
      refine ⟨f0, h, v 4, by rw [ec]; omega, ⟨by omega, by rw [ecl 4 (by omega), rf_4]; omega, by rw [ecl _ (by omega), rf_53 v4], by rw [ecl _ (by omega), rf_77 v4]⟩, by rw [ec, hgN_co et]; exact hP.2.2.2.2.2.2.1.2.1, ?_, fun q q0 q1 => ?_, fun k k0 k1 => ?_⟩
      · rw [e 7 (by decide), ec, ep _ (by omega), rf_pln v4]
        refine ⟨e51, ?_, ?_, ?_⟩
        · rw [a3, jup_self]
        · rw [a3, jup_ne (by omega), jup_self]
        · rw [a3, jup_ne (by omega), jup_ne (by omega), jup_self]; exact zc (by omega)
      · rw [e 26 (by decide), ec, cnN_co et, c6 q q0 q1, eh _ (by omega), cnN_co et2]
      · rw [ec] at k1
        have g := c7 k k0 (by rw [eh _ (by omega)]; exact k1)
        rw [et2 k k0 k1] at g
        rw [e 24 (by decide), e 25 (by decide), et k k0 k1]
        exact tkR_cg (by rw [ecl 4 (by omega)]; omega) (fun r r0 _ => ep r r0) g
    · exact CS_cg j0 ecl (by omega) (CSe j (c4 j j0 (by omega)))
set_option maxHeartbeats 4000000 in
set_option maxRecDepth 100000 in
theorem st_ok {M : jM} {b : Nat} {len : Int} {tx : Int → Int} {v : Int → Int} {s p f0 : Int} {Q : Int32 → Nat → jM → Prop} (hs : s ≤ 3) (hT : CT M len tx p) (hC : CO M b v s f0) (hP : PO v s p f0)
    (hA : ∀ M1 p' v' f1, fq (cB b) M M1 → CT M1 len tx p' → M1 8 0 5 = M 8 0 5 → CO M1 b v' (s + 1) f1 → PO v' (s + 1) p' f1 → p + 5 < p' → (∀ j, 0 ≤ j → j ≤ 2 → v' j = v j) → StG (chr len tx) s p v p' v' → Q 1 0 M1)
    (hB : ∀ M1 f, fq (cF b) M M1 → M1 8 0 5 = zI f → StB (chr len tx) s p v f → Q 0 0 M1) : ok_X8_parseStatement b M Q := by
  have c1 := hC.1
  have hl := hT.1.1
  have h0 := hP.1.1
  have hz := hP.2.2.2.2.2.1 s (by omega) (by omega)
  refine en_X8_parseStatement (bl_X8_parseStatement_0 _ _ _ c1 ?_)
  refine bg_ok ⟨h0, hs⟩ (hP.2.2.2.2.2.1 s (by omega) (by omega)) hC (fun M2 a1 a2 a3 => ⟨fq_nbB a1, ?_⟩)
  refine pr_ok (CT_8 hT a1 a2) (fun p1 a d hg M4 b1 b2 => ⟨fq_nbP b1, ?_⟩) (fun f hb M4 b1 b2 => ⟨fq_nbE b1, fun _ => hB M4 f (fq_tr (fq_BF a1) (fq_EF b1)) b2 (Or.inl hb), fun w => absurd rfl w⟩)
  obtain ⟨r1, r2, r3, r4⟩ := rfG_r hg
  have hp1 := b2.2.1
  have ne : ¬ (zI (49 * a + d + 9) = -1) := fun w => by rw [z_1, z_neg, z_eqF (by omega)] at w; exact w
  refine ⟨fun w => absurd w ne, fun _ => ?_⟩
  refine x1_ok (g := 61) (by decide) rfl (by decide +kernel) (by decide) b2 (fun c5 M6 f6 T6 => ⟨fq_nbP f6, fun w => absurd w (by decide), fun _ => ?_⟩) (fun c5 M6 f6 e6 => ⟨fq_nbE f6, fun _ => ?_, fun w => absurd rfl w⟩)
  · have hP6 : PI v s (p1 + 1) f0 0 [] := by
      have := PO_PI hP hs
      have h3 := this.2.2.2.1
      exact PI_mono this (by omega)
    have hp6 := T6.2.1
    have S0 := ps_all (len := len) (tx := tx) (b := b) (s := s) (f0 := f0) 3 0 (by omega) (by omega)
    refine S0 M6 (p1 + 1) 0 v [] _ T6 (CB_P (CB_P a3 b1) f6) hP6 (by simp) (fun M8 p' v2 rd2 h g1 g2 g3 g4 g5 g6 g7 g8 => ⟨fq_nbB g1, ?_⟩) (fun M8 f g1 g2 g3 => ⟨fq_nbF g1, fun _ => ?_, fun w => absurd rfl w⟩)
    · have hp' := g2.2.1
      have hF : Fin (chr len tx) s (p1 + 1) true [] 0 0 v (.inr (p', rd2, v2)) := g8 [] _ (Or.inl rfl) (Fin_enG ⟨g7.1, g7.2.1, g7.2.2⟩ (by omega))
      have hv4 := g5.2.2.1
      have hrd2 := g5.2.1
      have hPv := hP.2.1
      refine ⟨fun w => absurd w (ne1 (PI_h g5)), fun _ => ?_⟩
      refine cl_ok (p := p') g5 g4 (fun M10 k1 k2 k3 => ⟨fq_nbB k1, ?_⟩)
      refine hA M10 p' _ _ (fq_tr (fq_tr (fq_tr (fq_tr a1 (fq_PB b1)) (fq_PB f6)) g1) k1) (CT_8 g2 k1 k2) (by rw [k2, g3, fq_5P f6, fq_5P b1, fq_5B a1]) k3 (PO_cl g5 (by omega) r1 r2) (by omega) (fun j j0 j1 => ?_) ⟨p1, a, d, rd2, v2, hg, c5, hF, rfl⟩
      obtain ⟨n, hn⟩ := hF
      have e := Fn_lo ⟨h0, hs⟩ n _ _ _ _ _ _ hn (by rw [hz]; omega) (by omega) (by omega) j (by omega)
      unfold clV
      rw [if_neg (by omega), rf_hi (by omega) (Or.inr (by omega))]
      exact e
    · exact hB M8 f (fq_tr (fq_tr (fq_tr (fq_BF a1) (fq_PF b1)) (fq_PF f6)) g1) g2 (Or.inr ⟨p1, a, d, hg, Or.inr ⟨c5, g3 [] (Or.inl rfl)⟩⟩)
  · exact hB M6 p1 (fq_tr (fq_tr (fq_BF a1) (fq_PF b1)) (fq_EF f6)) e6 (Or.inr ⟨p1, a, d, hg, Or.inl ⟨c5, rfl⟩⟩)
