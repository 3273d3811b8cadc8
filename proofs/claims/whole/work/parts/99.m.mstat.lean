/-! ===== the reference reads: statements ===== -/
/-- a row between two statements -/
def MO (v : Int → Int) (s : Int) : Prop := (0 ≤ s ∧ s ≤ 4 ∧ v 3 = s) ∧ (0 ≤ v 4 ∧ v 4 ≤ 6 * s) ∧ ∀ j, s ≤ j → j < 4 → v (101 + j) = 0
theorem MO_MI {v : Int → Int} {s : Int} (h : MO v s) (hs : s ≤ 3) : MI v s 0 ∧ v (101 + s) = 0 := by
  have hz := h.2.2 s (by omega) (by omega)
  have h1 := h.1
  have h2 := h.2.1
  exact ⟨⟨⟨h1.1, hs, h1.2.2⟩, by omega, by omega, by omega, fun j j0 j1 => h.2.2 j (by omega) j1⟩, hz⟩
theorem MI_cl {v : Int → Int} {s rd a d : Int} (h : MI v s rd) : MO (clV s v a d) (s + 1) := by
  obtain ⟨h1, h2, h3, h4, h5⟩ := h
  have v4 : 0 ≤ v 4 ∧ v 4 < 24 := by omega
  refine ⟨⟨by omega, by omega, by unfold clV; rw [if_pos rfl]⟩, ?_, fun j j0 j1 => ?_⟩
  · unfold clV
    rw [if_neg (by omega), rf_4]
    omega
  · unfold clV
    rw [if_neg (by omega), rf_hi v4 (by omega)]
    exact h5 j (by omega) j1
theorem ix_e {M : jM} {rw i : Int} {y : Int32} (hr : 0 ≤ rw ∧ rw ≤ 19) (h : M 11 0 14 = zI rw) (hi : 0 ≤ i ∧ i < 585) (hy : y = zI i) : vp_in (585 * M 11 0 14 + y) 11700 ∧ (585 * M 11 0 14 + y).toNatClampNeg = (585 * rw + i).toNat := by
  subst hy
  rw [h, z_585, z_mul, z_add]
  exact ⟨by rw [z_inT (by omega)]; trivial, z_clamp (by omega)⟩
def Sn (c : Int → Int) (s p : Int) (v : Int → Int) (r : Int ⊕ (Int × (Int → Int))) : Prop := (∃ p' v', StG c s p v p' v' ∧ r = .inr (p', v')) ∨ ∃ f, StB c s p v f ∧ r = .inl f
set_option maxHeartbeats 4000000 in
set_option maxRecDepth 100000 in
theorem ms_ok {M : jM} {len p rw s : Int} {tx v : Int → Int} {r : Int ⊕ (Int × (Int → Int))} {Q : Int32 → Nat → jM → Prop} (hT : MT M len tx p) (hR : RWr M rw v) (hM : MO v s) (hs : s ≤ 3) (H : Sn (chr len tx) s p v r)
    (hA : ∀ M1 p' v', r = .inr (p', v') → fm [55, 56] [12, 17, 18, 19] M M1 → lo55 rw M M1 → MT M1 len tx p' → RWr M1 rw v' → MO v' (s + 1) → Q 0 0 M1)
    (hB : ∀ M1 f, r = .inl f → fm [55, 56] [10, 12, 13, 17, 18, 19] M M1 → lo55 rw M M1 → MB M1 len f → Q 0 0 M1) : ok_X12_statement M Q := by
  obtain ⟨hI, hz⟩ := MO_MI hM hs
  refine en_X12_statement (bl_X12_statement_0 _ _ ?_)
  rw [z_61]
  refine mr_ok hT (fun p1 a d hg M2 f2 T2 => ⟨fm_n f2, ?_⟩) (fun f r0 hb M2 f2 b2 => ⟨fm_n f2, tb_ok b2 ⟨rfl, fun w => absurd w (MB_n0 b2), fun _ => ?_⟩⟩)
  rotate_left
  · refine hB M2 f ?_ (fm_mono f2) (lo_fm f2) b2
    rcases H with ⟨p', v', ⟨p1, a, d, rd2, v2, g, _⟩, _⟩ | ⟨f', hf | ⟨p1, a, d, g, _⟩, e⟩
    · exact (rf_x g hb).elim
    · rw [e, rfB_u hf hb]
    · exact (rf_x g hb).elim
  obtain ⟨r1, r2, r3, r4⟩ := rfG_r hg
  have hp := hT.2.1
  refine tk_ok T2 (by omega) (fun c1 M4 f4 T4 => ⟨fm_n f4, fun _ => ?_, fun w => absurd (MT_0 T4) w⟩) (fun c1 M4 f4 b4 => ⟨fm_n f4, fun w => absurd w (MB_n0 b4), fun _ => ?_⟩)
  rotate_left
  · have F : fm [] [10, 12, 13] M M4 := fm_tr f2 f4
    refine hB M4 p1 ?_ (fm_mono F) (lo_fm F) b4
    rcases H with ⟨p', v', ⟨p1', a', d', rd2, v2, g, c2, _⟩, _⟩ | ⟨f', hf | ⟨p1', a', d', g, w⟩, e⟩
    · obtain ⟨rfl, _, _⟩ := rfG_u hg g
      exact absurd c2 c1
    · exact (rf_x hg hf).elim
    · obtain ⟨rfl, _, _⟩ := rfG_u hg g
      rcases w with ⟨_, w⟩ | ⟨w, _⟩
      · rw [e, w]
      · exact absurd w c1
  have hF : ∃ n rr, Fn (chr len tx) s n (p1 + 1) true [] 0 0 v rr ∧ (∀ p' rd' v', rr = .inr (p', rd', v') → r = .inr (p', clV s v' a d)) ∧ (∀ f, rr = .inl f → r = .inl f) := by
    rcases H with ⟨p', v', ⟨p1', a', d', rd2, v2, g, c2, ⟨n, hn⟩, ev⟩, e⟩ | ⟨f', hf | ⟨p1', a', d', g, w⟩, e⟩
    · obtain ⟨rfl, rfl, rfl⟩ := rfG_u hg g
      refine ⟨n, _, hn, fun q rd' v'' e2 => ?_, fun f e2 => (by cases e2)⟩
      have e3 := Sum.inr.inj e2
      rw [e, ev, (Prod.mk.inj e3).1, (Prod.mk.inj (Prod.mk.inj e3).2).2]
    · exact (rf_x hg hf).elim
    · obtain ⟨rfl, rfl, rfl⟩ := rfG_u hg g
      rcases w with ⟨w, _⟩ | ⟨_, n, hn⟩
      · exact absurd c1 w
      · refine ⟨n, _, hn, fun q rd' v'' e2 => (by cases e2), fun f e2 => ?_⟩
        rw [e, Sum.inl.inj e2]
  obtain ⟨n, rr, hn, hrG, hrB⟩ := hF
  have F4 : fm [] [12] M M4 := fm_tr f2 f4
  have R4 : RWr M4 rw v := RWr_f2 hR F4
  refine en_X12_sum (bl_X12_sum_0 _ _ ?_)
  intro M1 e1 M3 e3 M5 e5
  have f5 : fm [] [17, 18, 19] M4 M5 := by rw [e5, e3, e1]; exact fm_f (fm_f (fm_f (fm_rf _ _ _)))
  have n5 : jnb M5 = jnb M4 := fm_n f5
  have F5 : fm [] [12, 17, 18, 19] M M5 := fm_tr F4 f5
  have U5 : US M5 len tx (p1 + 1) rw s v [] 0 0 := by
    refine ⟨MT_fm T4 f5, RWr_f2 R4 f5, ⟨?_, trivial, by simp, fun x hx => by simp at hx⟩, hI, ⟨?_, rfl, by omega⟩, ?_, ?_, ?_⟩
    · rw [e5, e3, e1, jup_ne (by omega), jup_ne (by omega), jup_self, z_0]; rfl
    · rw [e5, e3, jup_ne (by omega), jup_self, z_0]
    · rw [e5, jup_self, z_0]
    · simp only [nz]; omega
    · simp only [List.length_nil]; omega
  refine su_ok n M5 (p1 + 1) true 1 [] 0 0 v rr hn (fun _ => rfl) (fun w => by cases w) U5 (fun M6 p' rd' v' e g1 g2 T6 R6 I6 => ⟨by rw [fm_n g1, n5], fun _ => ?_, fun w => absurd (MT_0 T6) w⟩) (fun M6 f e g1 g2 b6 => ⟨by rw [fm_n g1, n5], fun w => absurd w (MB_n0 b6), fun _ => hB M6 f (hrB f e) (fm_tr F5 g1) (lo_tr (lo_fm F5) g2) b6⟩)
  have I1 := I6.1
  have I2 := I6.2.1
  have I3 := I6.2.2.1
  refine rn_ok8 (a := a) (d := d) (w := 1) R6 rfl z_1 r1 r2 I1 (by omega) (fun M8 k1 k2 k3 => ⟨fm_n k1, ?_⟩)
  have k3r := k3.1
  have e8 : M8 55 0 (585 * rw + 3).toNat = zI s := by
    rw [k3.2.2 3 (by omega) (by omega), rf_hi (by omega) (by omega), I1.2.2]
  obtain ⟨x1, x2⟩ := ix_e k3r k3.2.1 (i := 3) (by omega) z_3
  rw [x2, e8, z_1, z_add]
  refine ⟨x1, x1, ?_⟩
  intro M13 hM
  have R13 := RWr_set (i := 3) (x := s + 1) k3 (by omega)
  rw [← hM] at R13
  have f13 : fm [55] [] M8 M13 := by rw [hM]; exact fm_up (fm_rf _ _ _)
  have l13 : lo55 rw M8 M13 := by rw [hM]; exact lo_set (by omega) (by omega)
  have F8 : fm [55, 56] [12, 17, 18, 19] M M8 := fm_tr (fm_tr F5 g1 (S2 := [55, 56]) (F2 := [12, 17, 18, 19])) k1
  have f813 : fm [55] [] M6 M13 := fm_tr k1 f13
  exact hA M13 p' _ (hrG p' rd' v' e) (fm_tr F8 f13) (lo_tr (lo_tr (lo_tr (lo_fm F5) g2) k2) l13) (MT_fm T6 f813) (RWr_cg R13 (fun j _ _ => rfl)) (MI_cl I6)
/-! statements one after another, with the sign behind them -/
def Ln (c : Int → Int) : Nat → Int → Int → (Int → Int) → (Int ⊕ (Int × (Int → Int))) → Prop
  | 0, _, _, _, _ => False
  | n + 1, s, p, v, r => (∃ f, StB c s p v f ∧ r = .inl f) ∨ ∃ p1 v1, StG c s p v p1 v1 ∧ ((c p1 = 59 ∧ s < 3 ∧ Ln c n (s + 1) (p1 + 1) v1 r) ∨ (¬ (c p1 = 59 ∧ s < 3) ∧ ((c p1 = 125 ∧ r = .inr (p1, v1)) ∨ (c p1 ≠ 125 ∧ r = .inl p1))))
theorem LsG_Ln {c : Int → Int} : ∀ (n : Nat) (s p : Int) (v : Int → Int) (p' : Int) (v' : Int → Int), LsG c n s p v p' v' → (c p' = 125 → Ln c n s p v (.inr (p', v'))) ∧ (c p' ≠ 125 → Ln c n s p v (.inl p')) := by
  intro n
  induction n with
  | zero => intro s p v p' v' h; exact h.elim
  | succ n ih =>
    intro s p v p' v' h
    obtain ⟨p1, v1, h1, h2⟩ := h
    rcases h2 with ⟨a1, a2, a3⟩ | ⟨a1, rfl, rfl⟩
    · obtain ⟨g1, g2⟩ := ih _ _ _ _ _ a3
      exact ⟨fun q => Or.inr ⟨p1, v1, h1, Or.inl ⟨a1, a2, g1 q⟩⟩, fun q => Or.inr ⟨p1, v1, h1, Or.inl ⟨a1, a2, g2 q⟩⟩⟩
    · exact ⟨fun q => Or.inr ⟨_, _, h1, Or.inr ⟨a1, Or.inl ⟨q, rfl⟩⟩⟩, fun q => Or.inr ⟨_, _, h1, Or.inr ⟨a1, Or.inr ⟨q, rfl⟩⟩⟩⟩
theorem LsB_Ln {c : Int → Int} : ∀ (n : Nat) (s p : Int) (v : Int → Int) (f : Int), LsB c n s p v f → Ln c n s p v (.inl f) := by
  intro n
  induction n with
  | zero => intro s p v f h; exact h.elim
  | succ n ih =>
    intro s p v f h
    rcases h with h | ⟨p1, v1, h1, a1, a2, a3⟩
    · exact Or.inl ⟨f, h, rfl⟩
    · exact Or.inr ⟨p1, v1, h1, Or.inl ⟨a1, a2, ih _ _ _ _ a3⟩⟩
theorem add0_12 {M : jM} {i : Nat} : jup M 11 0 i (M 11 0 i + 0) = M := by
  rw [show M 11 0 i + 0 = M 11 0 i from Int32.add_zero _]
  exact jup_same
/-! the end of a loop: a brace, and one more loop is read -/
set_option maxHeartbeats 4000000 in
set_option maxRecDepth 100000 in
theorem me_ok {M : jM} {len p rw : Int} {tx v : Int → Int} {Q : Int32 → Nat → jM → Prop} (hT : MT M len tx p) (hR : RWr M rw v)
    (hA : chr len tx p = 125 → ∀ M1, fm [] [12, 14] M M1 → MT M1 len tx (p + 1) → M1 11 0 14 = zI (rw + 1) → Q 0 0 M1)
    (hB : chr len tx p ≠ 125 → ∀ M1, fm [] [10, 13, 14] M M1 → MB M1 len p → Q 0 0 M1) : at_X12_loop_100 0 M Q := by
  have hrw := hR.1
  refine bl_X12_loop_100 _ _ _ ⟨fun _ => ?_, fun w => absurd rfl w⟩
  rw [z_125]
  refine tk_ok hT (by omega) (fun c1 M2 f2 T2 => ⟨fm_n f2, ?_⟩) (fun c1 M2 f2 b2 => ⟨fm_n f2, ?_⟩)
  · intro M3 e3
    rw [f2.2 14 (by decide), hR.2.1, z_1, z_add] at e3
    have f3 : fm [] [14] M2 M3 := by rw [e3]; exact fm_f (fm_rf _ _ _)
    exact hA c1 M3 (fm_tr f2 f3) (MT_fm T2 f3) (by rw [e3, jup_self])
  · intro M3 e3
    have f3 : fm [] [14] M2 M3 := by rw [e3]; exact fm_f (fm_rf _ _ _)
    exact hB c1 M3 (fm_tr f2 f3) (MB_fm b2 f3)
theorem meb_ok {M : jM} {len f : Int} {Q : Int32 → Nat → jM → Prop} (hB : MB M len f) (hQ : ∀ M1, fm [] [14] M M1 → MB M1 len f → Q 0 0 M1) : at_X12_loop_100 0 M Q := by
  refine bl_X12_loop_100 _ _ _ ⟨fun _ => tb_ok hB ⟨rfl, ?_⟩, fun w => absurd rfl w⟩
  intro M3 e3
  have f3 : fm [] [14] M M3 := by rw [e3]; exact fm_f (fm_rf _ _ _)
  exact hQ M3 f3 (MB_fm hB f3)
set_option maxHeartbeats 4000000 in
set_option maxRecDepth 100000 in
theorem mlS_ok {len rw : Int} {tx : Int → Int} {Q : Int32 → Nat → jM → Prop} : ∀ (n : Nat) (s p : Int) (v : Int → Int) (M : jM) (r : Int ⊕ (Int × (Int → Int))), s ≤ 3 → MT M len tx p → RWr M rw v → MO v s → Ln (chr len tx) n s p v r →
    (∀ M1 p' v', r = .inr (p', v') → fm [55, 56] [12, 14, 17, 18, 19] M M1 → lo55 rw M M1 → MT M1 len tx (p' + 1) → M1 11 0 14 = zI (rw + 1) → (∀ j, 0 ≤ j → j < 585 → M1 55 0 (585 * rw + j).toNat = zI (v' j)) → Q 0 0 M1) →
    (∀ M1 f, r = .inl f → fm [55, 56] [10, 12, 13, 14, 17, 18, 19] M M1 → MB M1 len f → Q 0 0 M1) → at_X12_loop_100 1 M Q := by
  intro n
  induction n with
  | zero => intro s p v M r hs hT hR hM h; exact h.elim
  | succ n ih =>
    intro s p v M r hs hT hR hM h hA hB
    have hs0 := hM.1.1
    refine bl_X12_loop_100 _ _ _ ⟨fun w => absurd w (by decide), fun _ => ?_⟩
    have hS : ∃ r1, Sn (chr len tx) s p v r1 ∧ (∀ f, r1 = .inl f → r = .inl f) ∧ ∀ p1 v1, r1 = .inr (p1, v1) → ((chr len tx p1 = 59 ∧ s < 3 ∧ Ln (chr len tx) n (s + 1) (p1 + 1) v1 r) ∨ (¬ (chr len tx p1 = 59 ∧ s < 3) ∧ ((chr len tx p1 = 125 ∧ r = .inr (p1, v1)) ∨ (chr len tx p1 ≠ 125 ∧ r = .inl p1)))) := by
      rcases h with ⟨f, h1, h2⟩ | ⟨p1, v1, h1, h2⟩
      · exact ⟨.inl f, Or.inr ⟨f, h1, rfl⟩, fun f' e => by rw [h2, Sum.inl.inj e], fun p1 v1 e => by cases e⟩
      · refine ⟨.inr (p1, v1), Or.inl ⟨p1, v1, h1, rfl⟩, fun f' e => (by cases e), fun p2 v2 e => ?_⟩
        have e2 := Sum.inr.inj e
        rw [← (Prod.mk.inj e2).1, ← (Prod.mk.inj e2).2]
        exact h2
    obtain ⟨r1, S1, SB, SG⟩ := hS
    refine ms_ok hT hR hM hs S1 (fun M5 p1 v1 e f5 l5 T5 R5 O5 => ⟨fm_n f5, fun _ => ⟨MT_in T5, ?_⟩, fun w => absurd (MT_0 T5) w⟩) (fun M5 f e f5 l5 b5 => ⟨fm_n f5, fun w => absurd w (MB_n0 b5), fun _ => ?_⟩)
    rotate_left
    · intro M6 e6
      rw [add0_12] at e6
      subst e6
      exact meb_ok b5 (fun M7 f7 b7 => hB M7 f (SB f e) (fm_tr f5 f7) b7)
    obtain ⟨ej, hj⟩ := jhr_e T5
    have hl := T5.1.1
    have hp1 := T5.2.1
    have hrw := R5.1
    have e3 : M5 55 0 (585 * rw + 3).toNat = zI (s + 1) := by rw [R5.2.2 3 (by omega) (by omega), O5.1.2.2]
    have stop : ¬ (chr len tx p1 = 59 ∧ s < 3) → at_X12_loop_100 0 M5 Q := fun q => by
      rcases SG p1 v1 e with ⟨a1, a2, _⟩ | ⟨_, a⟩
      · exact absurd ⟨a1, a2⟩ q
      · refine me_ok T5 R5 (fun c1 M7 f7 T7 g7 => ?_) (fun c1 M7 f7 b7 => ?_)
        · rcases a with ⟨_, a⟩ | ⟨a, _⟩
          · exact hA M7 p1 v1 a (fm_tr f5 f7) (lo_tr l5 (lo_fm f7)) T7 g7 (fun j j0 j1 => by rw [f7.1 55 (by decide) (by decide)]; exact R5.2.2 j j0 j1)
          · exact absurd c1 a
        · rcases a with ⟨a, _⟩ | ⟨_, a⟩
          · exact absurd a c1
          · exact hB M7 p1 a (fm_tr f5 f7) b7
    obtain ⟨hir, x2⟩ := ix_e hrw R5.2.1 (i := 3) (by omega) z_3
    have eir : M5 55 0 (585 * M5 11 0 14 + 3).toNatClampNeg = zI (s + 1) := by rw [x2]; exact e3
    rw [ej, z_59, z_eqI (by omega), eir, z_4, z_leI (by omega)]
    refine ⟨fun w => ⟨hir, fun w2 => ?_, fun w2 => ?_⟩, fun w => ?_⟩
    · intro M14 e14
      rw [add0_12] at e14
      subst e14
      exact stop (fun q => by omega)
    · intro M15 e15
      rw [T5.2.2.2.1, z_1, z_add] at e15
      have f15 : fm [] [12] M5 M15 := by rw [e15]; exact fm_f (fm_rf _ _ _)
      have T15 : MT M15 len tx (p1 + 1) := MT_p T5 (by omega) (f15.2 11 (by decide)) (f15.2 13 (by decide)) (fun j => by rw [f15.1 54 (by decide) (by decide)]) (by rw [e15, jup_self])
      rcases SG p1 v1 e with ⟨_, _, a⟩ | ⟨a, _⟩
      · exact ih (s + 1) (p1 + 1) v1 M15 r (by omega) T15 (RWr_f2 R5 f15) O5 a (fun M7 p' v' e7 f7 l7 T7 g7 w7 => hA M7 p' v' e7 (fm_tr (fm_tr f5 f15 (S2 := [55, 56]) (F2 := [12, 17, 18, 19])) f7) (lo_tr (lo_tr l5 (lo_fm f15)) l7) T7 g7 w7) (fun M7 f e7 f7 b7 => hB M7 f e7 (fm_tr (fm_tr f5 f15 (S2 := [55, 56]) (F2 := [12, 17, 18, 19])) f7) b7)
      · exact absurd ⟨w, by omega⟩ a
    · intro M10 e10
      rw [add0_12] at e10
      subst e10
      exact stop (fun q => w q.1)
