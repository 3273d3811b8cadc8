/-! ===== the class reads: a body as it grows ===== -/
section
variable {s t : Int} {v : Int → Int}
theorem tk_lo {j : Int} (hs : 0 ≤ s ∧ s ≤ 3) (hn : 0 ≤ v (101 + s)) (hj : j < 101) : tkV s v t j = v j := by unfold tkV; rw [if_neg (by omega), if_neg (by omega)]
theorem tk_cn {j : Int} (hs : 0 ≤ s ∧ s ≤ 3) (hn : 0 ≤ v (101 + s)) (hj : 0 ≤ j ∧ j ≤ 3 ∧ j ≠ s) : tkV s v t (101 + j) = v (101 + j) := by unfold tkV; rw [if_neg (by omega), if_neg (by omega)]
theorem tk_c : tkV s v t (101 + s) = v (101 + s) + 1 := by unfold tkV; rw [if_pos rfl]
theorem tk_tk {j k : Int} (hs : 0 ≤ s ∧ s ≤ 3) (hn : 0 ≤ v (101 + s)) (hj : 0 ≤ j ∧ j < s) (hk : 0 ≤ k ∧ k < 120) : tkV s v t ((105 + 120 * j) + k) = v ((105 + 120 * j) + k) := by unfold tkV; rw [if_neg (by omega), if_neg (by omega)]
theorem tk_s {k : Int} (hs : 0 ≤ s ∧ s ≤ 3) (hk : 0 ≤ k ∧ k < v (101 + s)) : tkV s v t ((105 + 120 * s) + k) = v ((105 + 120 * s) + k) := by unfold tkV; rw [if_neg (by omega), if_neg (by omega)]
theorem tk_n (hs : 0 ≤ s ∧ s ≤ 3) (hn : 0 ≤ v (101 + s)) : tkV s v t ((105 + 120 * s) + v (101 + s)) = t := by unfold tkV; rw [if_neg (by omega), if_pos rfl]
variable {a d w : Int}
theorem rf_hi {j : Int} (h4 : 0 ≤ v 4 ∧ v 4 < 24) (hj : 101 ≤ j ∨ j ≤ 3) : rfV s v a d w j = v j := by unfold rfV; rw [if_neg (by omega), if_neg (by omega), if_neg (by omega), if_neg (by omega), if_neg (by omega)]
theorem rf_4 : rfV s v a d w 4 = v 4 + 1 := by unfold rfV; rw [if_pos rfl]
theorem rf_o {B r : Int} (h4 : 0 ≤ v 4 ∧ v 4 < 24) (hB : B = 5 ∨ B = 29 ∨ B = 53 ∨ B = 77) (hr : 0 ≤ r ∧ r < v 4) : rfV s v a d w (B + r) = v (B + r) := by unfold rfV; rw [if_neg (by omega), if_neg (by omega), if_neg (by omega), if_neg (by omega), if_neg (by omega)]
theorem rf_5 (h4 : 0 ≤ v 4 ∧ v 4 < 24) : rfV s v a d w (5 + v 4) = a := by unfold rfV; rw [if_neg (by omega), if_neg (by omega), if_neg (by omega), if_neg (by omega), if_pos rfl]
theorem rf_29 (h4 : 0 ≤ v 4 ∧ v 4 < 24) : rfV s v a d w (29 + v 4) = d := by unfold rfV; rw [if_neg (by omega), if_neg (by omega), if_neg (by omega), if_pos rfl]
theorem rf_53 (h4 : 0 ≤ v 4 ∧ v 4 < 24) : rfV s v a d w (53 + v 4) = w := by unfold rfV; rw [if_neg (by omega), if_neg (by omega), if_pos rfl]
theorem rf_77 (h4 : 0 ≤ v 4 ∧ v 4 < 24) : rfV s v a d w (77 + v 4) = s := by unfold rfV; rw [if_neg (by omega), if_pos rfl]
theorem rf_plc {r : Int} (h4 : 0 ≤ v 4 ∧ v 4 < 24) (hr : 0 ≤ r ∧ r < v 4) : plc (rfV s v a d w) r = plc v r := by unfold plc; rw [rf_o h4 (by omega) hr, rf_o h4 (by omega) hr]
theorem rf_pln (h4 : 0 ≤ v 4 ∧ v 4 < 24) : plc (rfV s v a d w) (v 4) = 49 * a + (d + 9) := by unfold plc; rw [rf_5 h4, rf_29 h4]
end
/-- a statement that is closed: its signs end at e or before -/
def CS (M : jM) (b : Nat) (v : Int → Int) (s e : Int) : Prop :=
  ∃ f h r : Int, (0 ≤ f ∧ f + v (101 + s) ≤ e) ∧ (0 ≤ r ∧ r < v 4 ∧ v (53 + r) = 1 ∧ v (77 + r) = s) ∧ hgN v s (v (101 + s)) = some [h] ∧
    (M 7 (4 * b + s.toNat) 1 = zI f ∧ M 7 (4 * b + s.toNat) 2 = zI (f + v (101 + s)) ∧ M 7 (4 * b + s.toNat) 4 = zI h ∧ M 7 (4 * b + s.toNat) 5 = zI (plc v r)) ∧
    (∀ q, 0 ≤ q → q ≤ 2 → M 26 (4 * b + s.toNat) q.toNat = zI (cnN v s q (v (101 + s)))) ∧
    ∀ k, 0 ≤ k → k < v (101 + s) → tkR (M 24 b (f + k).toNat) (M 25 b (f + k).toNat) v (v ((105 + 120 * s) + k))
theorem CS_BRs {M : jM} {b : Nat} {v : Int → Int} {s e : Int} (h : CS M b v s e) (he : e ≤ 120) : BRs M b v s := by
  obtain ⟨f, h, r, h1, h2, h3, h4, h5, h6⟩ := h
  exact ⟨f, h, r, ⟨h1.1, by omega⟩, h2, h3, h4, h5, h6⟩
/-- a body while its statement s is read -/
def CB (M : jM) (b : Nat) (v : Int → Int) (s f0 rd : Int) : Prop :=
  b < jnb M ∧ (M 0 b 6 = zI (v 4) ∧ M 0 b 7 = zI s ∧ M 0 b 8 = zI (f0 + v (101 + s))) ∧
  (∀ r, 0 ≤ r → r < v 4 → M 20 b r.toNat = zI (plc v r) ∧ M 21 b r.toNat = zI (v (53 + r)) ∧ M 22 b r.toNat = zI (v (77 + r))) ∧
  (∀ j, 0 ≤ j → j < s → CS M b v j f0) ∧
  (M 7 (4 * b + s.toNat) 1 = zI f0 ∧ M 7 (4 * b + s.toNat) 3 = zI rd) ∧
  (∀ q, 0 ≤ q → q ≤ 2 → M 26 (4 * b + s.toNat) q.toNat = zI (cnN v s q (v (101 + s)))) ∧
  (∀ k, 0 ≤ k → k < v (101 + s) → tkR (M 24 b (f0 + k).toNat) (M 25 b (f0 + k).toNat) v (v ((105 + 120 * s) + k))) ∧
  ∀ j, s < j → j ≤ 3 → M 7 (4 * b + j.toNat) 3 = zI 0 ∧ ∀ q : Int, 0 ≤ q → q ≤ 2 → M 26 (4 * b + j.toNat) q.toNat = zI 0
/-- what the class writes while it reads a body -/
def cB (b R i f : Nat) : Prop := cP R i f ∨ (i = b ∧ (R = 0 ∨ R = 20 ∨ R = 21 ∨ R = 22 ∨ R = 24 ∨ R = 25)) ∨ ((R = 7 ∨ R = 26) ∧ 4 * b ≤ i ∧ i < 4 * b + 4)
def cF (b R i f : Nat) : Prop := cB b R i f ∨ cE R i f
theorem cP_B {b R i f : Nat} (h : cP R i f) : cB b R i f := Or.inl h
theorem cB_F {b R i f : Nat} (h : cB b R i f) : cF b R i f := Or.inl h
theorem cE_F {b R i f : Nat} (h : cE R i f) : cF b R i f := Or.inr h
theorem fq_nbF {b : Nat} {M M1 : jM} (h : fq (cF b) M M1) : jnb M1 = jnb M := by
  unfold jnb
  rw [h 99 0 0 (fun z => by unfold cF cB cP cE at z; omega)]
theorem fq_nbB {b : Nat} {M M1 : jM} (h : fq (cB b) M M1) : jnb M1 = jnb M := fq_nbF (fq_mono h (fun _ _ _ => cB_F))
theorem CB_P {M M1 : jM} {b : Nat} {v : Int → Int} {s f0 rd : Int} (h : CB M b v s f0 rd) (hf : fq cP M M1) : CB M1 b v s f0 rd := by
  have e : ∀ R, R ≠ 8 → M1 R = M R := fun R hR => by funext i f; exact hf R i f (fun z => hR z.1)
  have en := fq_nbP hf
  unfold CB CS at *
  rw [en, e 0 (by decide), e 20 (by decide), e 21 (by decide), e 22 (by decide), e 7 (by decide), e 26 (by decide), e 24 (by decide), e 25 (by decide)]
  exact h
theorem CT_B {M M1 : jM} {b : Nat} {len : Int} {tx : Int → Int} {p p' : Int} (h : CT M len tx p) (hf : fq (cB b) M M1) (hp : 0 ≤ p' ∧ p' ≤ len) (e3 : M1 8 0 3 = zI p') : CT M1 len tx p' :=
  CT_p h hp (hf 8 0 2 (fun z => by unfold cB cP at z; omega)) (fun j => hf 41 0 j (fun z => by unfold cB cP at z; omega)) e3
theorem tkR_cg {kd dt : Int32} {v v' : Int → Int} {t : Int} (h4 : v 4 ≤ v' 4) (hp : ∀ r, 0 ≤ r → r < v 4 → plc v' r = plc v r) (h : tkR kd dt v t) : tkR kd dt v' t := by
  unfold tkR at *
  rcases h with h | h | h | ⟨h1, h2, h3, h5⟩
  · exact Or.inl h
  · exact Or.inr (Or.inl h)
  · exact Or.inr (Or.inr (Or.inl h))
  · exact Or.inr (Or.inr (Or.inr ⟨h1, by omega, h3, by rw [hp _ (by omega) (by omega)]; exact h5⟩))
set_option maxHeartbeats 4000000 in
set_option maxRecDepth 100000 in
theorem CB_tk {M M4 : jM} {b : Nat} {v : Int → Int} {s p f0 rd rd' t : Int} {st : List Int} (hPI : PI v s p f0 rd' st) (hC : CB M b v s f0 rd)
    (h0 : M4 0 b 6 = M 0 b 6 ∧ M4 0 b 7 = M 0 b 7 ∧ M4 0 b 8 = zI (f0 + v (101 + s) + 1)) (h20 : M4 20 b = M 20 b) (h21 : M4 21 b = M 21 b) (h22 : M4 22 b = M 22 b) (h7 : M4 7 = M 7)
    (h24 : ∀ j, j ≠ (f0 + v (101 + s)).toNat → M4 24 b j = M 24 b j) (h25 : ∀ j, j ≠ (f0 + v (101 + s)).toNat → M4 25 b j = M 25 b j) (ht : tkR (M4 24 b (f0 + v (101 + s)).toNat) (M4 25 b (f0 + v (101 + s)).toNat) v t)
    (h26o : ∀ i q, i ≠ 4 * b + s.toNat → M4 26 i q = M 26 i q) (h26 : ∀ q : Int, 0 ≤ q → q ≤ 2 → M4 26 (4 * b + s.toNat) q.toNat = if t = 101 + q then M 26 (4 * b + s.toNat) q.toNat + 1 else M 26 (4 * b + s.toNat) q.toNat) (hnb : jnb M4 = jnb M) : CB M4 b (tkV s v t) s f0 rd := by
  obtain ⟨⟨s0, s1, s2⟩, hrd, h4, hf, hR, hCl, ⟨hT, hH⟩, hZ⟩ := hPI
  obtain ⟨c1, c2, c3, c4, c5, c6, c7, c8⟩ := hC
  have hs : 0 ≤ s ∧ s ≤ 3 := ⟨s0, s1⟩
  have hn := hT.1.1
  have e4 : tkV s v t 4 = v 4 := tk_lo hs hn (by omega)
  have ep : ∀ r, 0 ≤ r → r < v 4 → plc (tkV s v t) r = plc v r := fun r r0 r1 => by unfold plc; rw [tk_lo hs hn (by omega), tk_lo hs hn (by omega)]
  refine ⟨by rw [hnb]; exact c1, ⟨by rw [h0.1, e4]; exact c2.1, by rw [h0.2.1]; exact c2.2.1, by rw [h0.2.2, tk_c]; exact zc (by omega)⟩, fun r r0 r1 => ?_, fun j j0 j1 => ?_, by rw [h7]; exact c5, fun q q0 q1 => ?_, fun k k0 k1 => ?_, fun j j0 j1 => ⟨by rw [h7]; exact (c8 j j0 j1).1, fun q q0 q1 => by rw [h26o _ _ (by omega)]; exact (c8 j j0 j1).2 q q0 q1⟩⟩
  · rw [e4] at r1
    rw [h20, h21, h22, ep r r0 r1, tk_lo hs hn (by omega), tk_lo hs hn (by omega)]
    exact c3 r r0 r1
  · obtain ⟨f, h, r, g1, g2, g3, g4, g5, g6⟩ := c4 j j0 j1
    have gj := (hCl j j0 j1).1.1
    have ec : tkV s v t (101 + j) = v (101 + j) := tk_cn hs hn (by omega)
    have et : ∀ k, 0 ≤ k → k < v (101 + j) → tkV s v t ((105 + 120 * j) + k) = v ((105 + 120 * j) + k) := fun k k0 k1 => tk_tk hs hn ⟨j0, j1⟩ (by omega)
    refine ⟨f, h, r, by rw [ec]; exact g1, ⟨g2.1, by rw [e4]; exact g2.2.1, by rw [tk_lo hs hn (by omega)]; exact g2.2.2.1, by rw [tk_lo hs hn (by omega)]; exact g2.2.2.2⟩, by rw [ec, hgN_co et]; exact g3, by rw [h7, ec, ep r (by omega) (by omega)]; exact g4, fun q q0 q1 => ?_, fun k k0 k1 => ?_⟩
    · rw [h26o _ _ (by omega), ec, cnN_co et]; exact g5 q q0 q1
    · rw [ec] at k1
      rw [h24 _ (by omega), h25 _ (by omega), et k k0 k1]
      exact tkR_cg (by omega) ep (g6 k k0 k1)
  · rw [h26 q q0 q1, tk_c, cnN_s hn, tk_n hs hn, cnN_co (fun j j0 j1 => tk_s hs ⟨j0, j1⟩), c6 q q0 q1]
    split
    · rw [z_1, z_add]
    · rfl
  · rw [tk_c] at k1
    by_cases q : k = v (101 + s)
    · rw [q, tk_n hs hn]; exact tkR_cg (by omega) ep ht
    · rw [h24 _ (by omega), h25 _ (by omega), tk_s hs ⟨k0, by omega⟩]
      exact tkR_cg (by omega) ep (c7 k k0 (by omega))
set_option maxHeartbeats 4000000 in
set_option maxRecDepth 100000 in
theorem at_ok {M : jM} {b : Nat} {v : Int → Int} {s p f0 rd rd' t : Int} {kd dt : Int32} {st : List Int} {Q : Int32 → Nat → jM → Prop} (hPI : PI v s p f0 rd' st) (hC : CB M b v s f0 rd) (hp : f0 + v (101 + s) < 120) (ht : tkR kd dt v t) (hno : ¬ (101 ≤ t ∧ t ≤ 103))
    (hQ : ∀ M1, fq (cB b) M M1 → M1 8 = M 8 → CB M1 b (tkV s v t) s f0 rd → Q 0 0 M1) : ok_X0_addToken b kd dt M Q := by
  have hf := hPI.2.2.2.1
  have hn := hPI.2.2.2.2.2.2.1.1.1
  obtain ⟨c1, c2, c3, c4, c5, c6, c7, c8⟩ := hC
  refine en_X0_addToken (bl_X0_addToken_0 _ _ _ _ _ c1 ?_)
  rw [c2.2.2]
  refine ⟨fun w => (by rw [z_120, z_leF (by omega)] at w; exact w.elim), fun _ => ⟨by rw [z_inT (by omega)]; trivial, ?_⟩⟩
  rintro M1 rfl
  rw [z_clamp (by omega), jup_R (by decide), c2.2.2]
  refine ⟨by rw [z_inT (by omega)]; trivial, ?_⟩
  rintro M2 rfl M3 rfl
  rw [z_clamp (by omega), jup_R (by decide), jup_R (by decide), c2.2.2, z_1, z_add]
  have e : ∀ R, R ≠ 0 → R ≠ 24 → R ≠ 25 → jup (jup (jup M 24 b (f0 + v (101 + s)).toNat kd) 25 b (f0 + v (101 + s)).toNat dt) 0 b 8 (zI (f0 + v (101 + s) + 1)) R = M R := fun R r1 r2 r3 => by rw [jup_o r1, jup_o r3, jup_o r2]
  refine hQ _ (fq_up (fq_up (fq_up (fq_rf _ _) (Or.inr (Or.inl ⟨rfl, by omega⟩))) (Or.inr (Or.inl ⟨rfl, by omega⟩))) (Or.inr (Or.inl ⟨rfl, by omega⟩))) (e 8 (by decide) (by decide) (by decide)) (CB_tk hPI ⟨c1, c2, c3, c4, c5, c6, c7, c8⟩ ⟨?_, ?_, ?_⟩ ?_ ?_ ?_ (e 7 (by decide) (by decide) (by decide)) (fun j hj => ?_) (fun j hj => ?_) ?_ (fun i q _ => by rw [e 26 (by decide) (by decide) (by decide)]) (fun q q0 q1 => ?_) ?_)
  · rw [jup_ne (by omega), jup_R (by decide), jup_R (by decide)]
  · rw [jup_ne (by omega), jup_R (by decide), jup_R (by decide)]
  · rw [jup_self]
  · rw [e 20 (by decide) (by decide) (by decide)]
  · rw [e 21 (by decide) (by decide) (by decide)]
  · rw [e 22 (by decide) (by decide) (by decide)]
  · rw [jup_R (by decide), jup_R (by decide), jup_ne (by omega)]
  · rw [jup_R (by decide), jup_ne (by omega), jup_R (by decide)]
  · rw [jup_R (by decide), jup_R (by decide), jup_self, jup_R (by decide), jup_self]; exact ht
  · rw [e 26 (by decide) (by decide) (by decide), if_neg (by omega)]
  · unfold jnb; rw [e 99 (by decide) (by decide) (by decide)]
