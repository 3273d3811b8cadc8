/-! ===== the class reads: operators and reads of a body ===== -/
set_option maxHeartbeats 4000000 in
set_option maxRecDepth 100000 in
theorem ao_ok {M : jM} {b : Nat} {v : Int → Int} {s p f0 rd rd' q : Int} {st : List Int} {Q : Int32 → Nat → jM → Prop} (hPI : PI v s p f0 rd' st) (hC : CB M b v s f0 rd) (hp : f0 + v (101 + s) < 120) (hq : 0 ≤ q ∧ q ≤ 2)
    (hQ : ∀ M1, fq (cB b) M M1 → M1 8 = M 8 → CB M1 b (tkV s v (101 + q)) s f0 rd → Q 0 0 M1) : ok_X0_addOperator b (zI q) M Q := by
  have hf := hPI.2.2.2.1
  have hn := hPI.2.2.2.2.2.2.1.1.1
  have hs := hPI.1
  obtain ⟨c1, c2, c3, c4, c5, c6, c7, c8⟩ := hC
  refine en_X0_addOperator (bl_X0_addOperator_0 _ _ _ _ c1 ?_)
  refine ⟨fun w => (by rw [z_0, z_ltF (by omega)] at w; exact w.elim), fun _ => ⟨fun w => (by rw [z_2, z_ltF (by omega)] at w; exact w.elim), fun _ => ?_⟩⟩
  refine en_X0_addToken (bl_X0_addToken_0 _ _ _ _ _ c1 ?_)
  rw [c2.2.2]
  refine ⟨fun w => (by rw [z_120, z_leF (by omega)] at w; exact w.elim), fun _ => ⟨by rw [z_inT (by omega)]; trivial, ?_⟩⟩
  rintro M1 rfl
  rw [z_clamp (by omega), jup_R (by decide), c2.2.2]
  refine ⟨by rw [z_inT (by omega)]; trivial, ?_⟩
  rintro M2 rfl M3 rfl
  rw [z_clamp (by omega), jup_R (by decide), jup_R (by decide), c2.2.2, z_1, z_add]
  have e : ∀ R, R ≠ 0 → R ≠ 24 → R ≠ 25 → jup (jup (jup M 24 b (f0 + v (101 + s)).toNat (zI q)) 25 b (f0 + v (101 + s)).toNat 0) 0 b 8 (zI (f0 + v (101 + s) + 1)) R = M R := fun R r1 r2 r3 => by rw [jup_o r1, jup_o r3, jup_o r2]
  have e7 : jup (jup (jup M 24 b (f0 + v (101 + s)).toNat (zI q)) 25 b (f0 + v (101 + s)).toNat 0) 0 b 8 (zI (f0 + v (101 + s) + 1)) 0 b 7 = zI s := by rw [jup_ne (by omega), jup_R (by decide), jup_R (by decide)]; exact c2.2.1
  rw [e7]
  refine ⟨by unfold jnb; rw [e 99 (by decide) (by decide) (by decide)], by rw [z_0, z_leT (by omega)]; trivial, by rw [z_inT (by omega)]; trivial, by rw [z_inT (by omega)]; trivial, ?_⟩
  rintro M4 rfl
  rw [if_pos (by rw [z_4, z_ltT (by omega)]; trivial), z_clamp (by omega), z_clamp (by omega), e 26 (by decide) (by decide) (by decide)]
  generalize hM3 : jup (jup (jup M 24 b (f0 + v (101 + s)).toNat (zI q)) 25 b (f0 + v (101 + s)).toNat 0) 0 b 8 (zI (f0 + v (101 + s) + 1)) = M3 at *
  have f3 : fq (cB b) M M3 := by rw [← hM3]; exact fq_up (fq_up (fq_up (fq_rf _ _) (Or.inr (Or.inl ⟨rfl, by omega⟩))) (Or.inr (Or.inl ⟨rfl, by omega⟩))) (Or.inr (Or.inl ⟨rfl, by omega⟩))
  have d6 : M3 0 b 6 = M 0 b 6 := by rw [← hM3, jup_ne (by omega), jup_R (by decide), jup_R (by decide)]
  have d8 : M3 0 b 8 = zI (f0 + v (101 + s) + 1) := by rw [← hM3, jup_self]
  have d24 : ∀ j, j ≠ (f0 + v (101 + s)).toNat → M3 24 b j = M 24 b j := fun j hj => by rw [← hM3, jup_R (by decide), jup_R (by decide), jup_ne (by omega)]
  have d25 : ∀ j, j ≠ (f0 + v (101 + s)).toNat → M3 25 b j = M 25 b j := fun j hj => by rw [← hM3, jup_R (by decide), jup_ne (by omega), jup_R (by decide)]
  have dt : M3 24 b (f0 + v (101 + s)).toNat = zI q := by rw [← hM3, jup_R (by decide), jup_R (by decide), jup_self]
  refine hQ _ (fq_up f3 (Or.inr (Or.inr ⟨Or.inr rfl, by omega, by omega⟩))) (by rw [jup_o (by decide)]; exact e 8 (by decide) (by decide) (by decide)) (CB_tk hPI ⟨c1, c2, c3, c4, c5, c6, c7, c8⟩ ⟨?_, ?_, ?_⟩ ?_ ?_ ?_ ?_ (fun j hj => ?_) (fun j hj => ?_) (Or.inr (Or.inr (Or.inl ⟨by omega, by omega, ?_⟩))) (fun i q2 hi => ?_) (fun q2 q0 q1 => ?_) ?_)
  · rw [jup_R (by decide)]; exact d6
  · rw [jup_R (by decide), e7]; exact c2.2.1.symm
  · rw [jup_R (by decide)]; exact d8
  · rw [jup_o (by decide), e 20 (by decide) (by decide) (by decide)]
  · rw [jup_o (by decide), e 21 (by decide) (by decide) (by decide)]
  · rw [jup_o (by decide), e 22 (by decide) (by decide) (by decide)]
  · rw [jup_o (by decide), e 7 (by decide) (by decide) (by decide)]
  · rw [jup_R (by decide)]; exact d24 j hj
  · rw [jup_R (by decide)]; exact d25 j hj
  · rw [jup_R (by decide), dt]; exact zc (by omega)
  · rw [jup_ne (by omega), e 26 (by decide) (by decide) (by decide)]
  · by_cases z : q2 = q
    · rw [z, jup_self, if_pos rfl, z_1]
    · rw [jup_ne (by omega), if_neg (by omega), e 26 (by decide) (by decide) (by decide)]
  · unfold jnb; rw [jup_R (by decide), e 99 (by decide) (by decide) (by decide)]
set_option maxHeartbeats 4000000 in
set_option maxRecDepth 100000 in
theorem CB_rf {M M4 : jM} {b : Nat} {v : Int → Int} {s p f0 rd rd' a d w : Int} {st : List Int} (hPI : PI v s p f0 rd' st) (hC : CB M b v s f0 rd) (h4 : 0 ≤ v 4 ∧ v 4 < 24)
    (h0 : M4 0 b 6 = zI (v 4 + 1) ∧ M4 0 b 7 = M 0 b 7 ∧ M4 0 b 8 = M 0 b 8) (h20 : M4 20 b (v 4).toNat = zI (49 * a + (d + 9)) ∧ M4 21 b (v 4).toNat = zI w ∧ M4 22 b (v 4).toNat = zI s)
    (ho : ∀ R, R = 20 ∨ R = 21 ∨ R = 22 → ∀ j, j ≠ (v 4).toNat → M4 R b j = M R b j) (he : ∀ R, R ≠ 0 → R ≠ 20 → R ≠ 21 → R ≠ 22 → M4 R = M R) : CB M4 b (rfV s v a d w) s f0 rd := by
  obtain ⟨⟨s0, s1, s2⟩, hrd, _, hf, hR, hCl, ⟨hT, hH⟩, hZ⟩ := hPI
  obtain ⟨c1, c2, c3, c4, c5, c6, c7, c8⟩ := hC
  have hn := hT.1
  have ep : ∀ r, 0 ≤ r → r < v 4 → plc (rfV s v a d w) r = plc v r := fun r r0 r1 => rf_plc h4 ⟨r0, r1⟩
  have hi : ∀ j, 101 ≤ j → rfV s v a d w j = v j := fun j hj => rf_hi h4 (Or.inl hj)
  have e7 := he 7 (by decide) (by decide) (by decide) (by decide)
  have e26 := he 26 (by decide) (by decide) (by decide) (by decide)
  have e24 := he 24 (by decide) (by decide) (by decide) (by decide)
  have e25 := he 25 (by decide) (by decide) (by decide) (by decide)
  have v4' : v 4 ≤ rfV s v a d w 4 := by rw [rf_4]; omega
  refine ⟨by unfold jnb; rw [he 99 (by decide) (by decide) (by decide) (by decide)]; exact c1, ⟨by rw [h0.1, rf_4], by rw [h0.2.1]; exact c2.2.1, by rw [h0.2.2, hi _ (by omega)]; exact c2.2.2⟩, fun r r0 r1 => ?_, fun j j0 j1 => ?_, by rw [e7]; exact c5, fun q q0 q1 => ?_, fun k k0 k1 => ?_, by rw [e7, e26]; exact c8⟩
  · rw [rf_4] at r1
    by_cases q : r = v 4
    · rw [q, rf_pln h4, rf_53 h4, rf_77 h4]; exact h20
    · rw [ho 20 (by omega) _ (by omega), ho 21 (by omega) _ (by omega), ho 22 (by omega) _ (by omega), ep r r0 (by omega), rf_o h4 (by omega) ⟨r0, by omega⟩, rf_o h4 (by omega) ⟨r0, by omega⟩]
      exact c3 r r0 (by omega)
  · obtain ⟨f, h, r, g1, g2, g3, g4, g5, g6⟩ := c4 j j0 j1
    have gj := (hCl j j0 j1).1.1
    have ec : rfV s v a d w (101 + j) = v (101 + j) := hi _ (by omega)
    have et : ∀ k, 0 ≤ k → k < v (101 + j) → rfV s v a d w ((105 + 120 * j) + k) = v ((105 + 120 * j) + k) := fun k k0 k1 => hi _ (by omega)
    refine ⟨f, h, r, by rw [ec]; exact g1, ⟨g2.1, by rw [rf_4]; omega, by rw [rf_o h4 (by omega) ⟨g2.1, g2.2.1⟩]; exact g2.2.2.1, by rw [rf_o h4 (by omega) ⟨g2.1, g2.2.1⟩]; exact g2.2.2.2⟩, by rw [ec, hgN_co et]; exact g3, by rw [e7, ec, ep r g2.1 g2.2.1]; exact g4, fun q q0 q1 => ?_, fun k k0 k1 => ?_⟩
    · rw [e26, ec, cnN_co et]; exact g5 q q0 q1
    · rw [ec] at k1
      rw [e24, e25, et k k0 k1]
      exact tkR_cg v4' ep (g6 k k0 k1)
  · rw [e26, hi _ (by omega), cnN_co (fun j j0 j1 => hi _ (by omega))]; exact c6 q q0 q1
  · rw [hi _ (by omega)] at k1
    rw [e24, e25, hi _ (by omega)]
    exact tkR_cg v4' ep (c7 k k0 k1)
set_option maxHeartbeats 4000000 in
set_option maxRecDepth 100000 in
theorem ar_ok {M : jM} {b : Nat} {v : Int → Int} {s p f0 rd rd' a d w : Int} {st : List Int} {Q : Int32 → Nat → jM → Prop} (hPI : PI v s p f0 rd' st) (hC : CB M b v s f0 rd) (h4 : v 4 < 24) (hw : w = 0 ∨ w = 1)
    (hQ : ∀ M1, fq (cB b) M M1 → M1 8 = M 8 → M1 7 = M 7 → CB M1 b (rfV s v a d w) s f0 rd → Q 0 0 M1) : ok_X0_addReference b (zI (49 * a + d + 9)) (zI w) M Q := by
  have h40 := hPI.2.2.1.1
  have c1 := hC.1
  have c2 := hC.2.1
  refine en_X0_addReference (bl_X0_addReference_0 _ _ _ _ _ c1 ?_)
  rw [c2.1]
  refine ⟨fun w => (by rw [z_24, z_leF (by omega)] at w; exact w.elim), fun _ => ⟨by rw [z_inT (by omega)]; trivial, ?_⟩⟩
  rintro M1 rfl
  rw [z_clamp (by omega), jup_R (by decide), c2.1]
  refine ⟨by rw [z_inT (by omega)]; trivial, by rw [z_0, z_1]; exact hw.imp (fun h => zc h) (fun h => zc h), ?_⟩
  rintro M2 rfl
  rw [z_clamp (by omega), jup_R (by decide), jup_R (by decide), jup_R (by decide), jup_R (by decide), c2.1]
  refine ⟨by rw [z_inT (by omega)]; trivial, ?_⟩
  rintro M3 rfl M4 rfl
  rw [z_clamp (by omega), jup_R (by decide), jup_R (by decide), jup_R (by decide), c2.1, c2.2.1, z_1, z_add]
  have e : ∀ R, R ≠ 0 → R ≠ 20 → R ≠ 21 → R ≠ 22 → jup (jup (jup (jup M 20 b (v 4).toNat (zI (49 * a + d + 9))) 21 b (v 4).toNat (zI w)) 22 b (v 4).toNat (zI s)) 0 b 6 (zI (v 4 + 1)) R = M R := fun R r1 r2 r3 r4 => by rw [jup_o r1, jup_o r4, jup_o r3, jup_o r2]
  refine hQ _ (fq_up (fq_up (fq_up (fq_up (fq_rf _ _) (Or.inr (Or.inl ⟨rfl, by omega⟩))) (Or.inr (Or.inl ⟨rfl, by omega⟩))) (Or.inr (Or.inl ⟨rfl, by omega⟩))) (Or.inr (Or.inl ⟨rfl, by omega⟩))) (e 8 (by decide) (by decide) (by decide) (by decide)) (e 7 (by decide) (by decide) (by decide) (by decide)) (CB_rf hPI hC ⟨h40, h4⟩ ⟨jup_self _ _ _ _ _, ?_, ?_⟩ ⟨?_, ?_, ?_⟩ (fun R hR j hj => ?_) e)
  · rw [jup_ne (by omega), jup_R (by decide), jup_R (by decide), jup_R (by decide)]
  · rw [jup_ne (by omega), jup_R (by decide), jup_R (by decide), jup_R (by decide)]
  · rw [jup_R (by decide), jup_R (by decide), jup_R (by decide), jup_self]; exact zc (by omega)
  · rw [jup_R (by decide), jup_R (by decide), jup_self]
  · rw [jup_R (by decide), jup_self]
  · rw [jup_ne (by omega), jup_ne (by omega), jup_ne (by omega), jup_ne (by omega)]
theorem CB_rd {M M4 : jM} {b : Nat} {v : Int → Int} {s f0 rd rd2 : Int} (hs : 0 ≤ s ∧ s ≤ 3) (hC : CB M b v s f0 rd) (h7 : M4 = jup M 7 (4 * b + s.toNat) 3 (zI rd2)) : CB M4 b v s f0 rd2 := by
  subst h7
  obtain ⟨c1, c2, c3, c4, c5, c6, c7, c8⟩ := hC
  have e : ∀ R, R ≠ 7 → jup M 7 (4 * b + s.toNat) 3 (zI rd2) R = M R := fun R h => jup_o h
  refine ⟨by unfold jnb; rw [e 99 (by decide)]; exact c1, by rw [e 0 (by decide)]; exact c2, by rw [e 20 (by decide), e 21 (by decide), e 22 (by decide)]; exact c3, fun j j0 j1 => ?_, ⟨by rw [jup_ne (by omega)]; exact c5.1, jup_self _ _ _ _ _⟩, by rw [e 26 (by decide)]; exact c6, by rw [e 24 (by decide), e 25 (by decide)]; exact c7, fun j j0 j1 => ⟨by rw [jup_ne (by omega)]; exact (c8 j j0 j1).1, by rw [e 26 (by decide)]; exact (c8 j j0 j1).2⟩⟩
  obtain ⟨f, h, r, g1, g2, g3, g4, g5, g6⟩ := c4 j j0 j1
  refine ⟨f, h, r, g1, g2, g3, ?_, by rw [e 26 (by decide)]; exact g5, by rw [e 24 (by decide), e 25 (by decide)]; exact g6⟩
  rw [jup_ne (by omega), jup_ne (by omega), jup_ne (by omega), jup_ne (by omega)]
  exact g4
set_option maxHeartbeats 4000000 in
set_option maxRecDepth 100000 in
theorem ad_ok {M : jM} {b : Nat} {v : Int → Int} {s p f0 rd a d : Int} {st : List Int} {Q : Int32 → Nat → jM → Prop} (hPI : PI v s p f0 rd st) (hC : CB M b v s f0 rd) (hr : rd < 5) (hp : f0 + v (101 + s) < 120) (ha : 0 ≤ a ∧ a ≤ 4) (hd : -9 ≤ d ∧ d ≤ 9)
    (hQ : ∀ M1, fq (cB b) M M1 → M1 8 = M 8 → CB M1 b (tkV s (rfV s v a d 0) (200 + v 4)) s f0 (rd + 1) → Q 0 0 M1) : ok_X0_addRead b (zI (49 * a + d + 9)) M Q := by
  have c1 := hC.1
  have hs := hPI.1
  have h4 := hPI.2.2.1
  obtain ⟨hPI2, e4⟩ := PI_rf hPI hr ha hd
  have eh : ∀ j, 101 ≤ j → rfV s v a d 0 j = v j := fun j hj => rf_hi (by omega) (Or.inl hj)
  refine en_X0_addRead (bl_X0_addRead_0 _ _ _ _ c1 ?_)
  rw [z_0, z_5]
  refine ar_ok hPI hC (by omega) (Or.inl rfl) (fun M2 a1 a2 _ a3 => ⟨fq_nbB a1, ?_⟩)
  refine at_ok (t := 200 + v 4) hPI2 a3 (by rw [eh _ (by omega)]; exact hp) (Or.inr (Or.inr (Or.inr ⟨by omega, by rw [e4]; omega, rfl, ?_⟩))) (by omega) (fun M4 b1 b2 b3 => ⟨fq_nbB b1, ?_⟩)
  · rw [show 200 + v 4 - 200 = v 4 by omega, rf_pln (by omega)]; exact zc (by omega)
  · have e7 := b3.2.1.2.1
    have e73 := b3.2.2.2.2.1.2
    rw [e7]
    refine ⟨by rw [z_leT (by omega)]; trivial, ?_⟩
    rintro M9 rfl
    rw [if_pos (by rw [z_4, z_ltT (by omega)]; trivial), z_clamp (by omega), e73, z_1, z_add]
    refine hQ _ (fq_up (fq_tr a1 b1) (Or.inr (Or.inr ⟨Or.inl rfl, by omega, by omega⟩))) (by rw [jup_o (by decide), b2, a2]) (CB_rd ⟨hs.1, hs.2.1⟩ b3 rfl)
