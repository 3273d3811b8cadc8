/-! ===== the class reads: loops ===== -/
/-- statements one after another -/
def LsG (c : Int → Int) : Nat → Int → Int → (Int → Int) → Int → (Int → Int) → Prop
  | 0, _, _, _, _, _ => False
  | n + 1, s, p, v, p', v' => ∃ p1 v1, StG c s p v p1 v1 ∧ ((c p1 = 59 ∧ s < 3 ∧ LsG c n (s + 1) (p1 + 1) v1 p' v') ∨ (¬ (c p1 = 59 ∧ s < 3) ∧ p' = p1 ∧ v' = v1))
def LsB (c : Int → Int) : Nat → Int → Int → (Int → Int) → Int → Prop
  | 0, _, _, _, _ => False
  | n + 1, s, p, v, f => StB c s p v f ∨ ∃ p1 v1, StG c s p v p1 v1 ∧ c p1 = 59 ∧ s < 3 ∧ LsB c n (s + 1) (p1 + 1) v1 f
set_option maxHeartbeats 4000000 in
set_option maxRecDepth 100000 in
theorem ls_ok8 {b : Nat} {len : Int} {tx : Int → Int} {Q : Int32 → Nat → jM → Prop} : ∀ (n : Nat) (s p f0 : Int) (v : Int → Int) (M : jM), (n : Int) + s = 4 → 0 ≤ s → s ≤ 3 → CT M len tx p → CO M b v s f0 → PO v s p f0 →
    (∀ M1 p' v' s' f1, fq (cB b) M M1 → CT M1 len tx p' → M1 8 0 5 = M 8 0 5 → CO M1 b v' s' f1 → PO v' s' (p' - 1) f1 → 1 ≤ s' → p + 6 < p' → (∀ j, 0 ≤ j → j ≤ 2 → v' j = v j) → LsG (chr len tx) n s p v (p' - 1) v' → chr len tx (p' - 1) = 125 → Q 1 0 M1) →
    (∀ M1 p' v' , fq (cF b) M M1 → M1 8 0 5 = zI p' → LsG (chr len tx) n s p v p' v' → chr len tx p' ≠ 125 → Q 0 0 M1) →
    (∀ M1 f, fq (cF b) M M1 → M1 8 0 5 = zI f → LsB (chr len tx) n s p v f → Q 0 0 M1) → at_X8_parseLoop_88 b 1 (zI (s + 1)) M Q := by
  have en : ∀ (y p' : Int) (M : jM), 1 ≤ y → y ≤ 6 → b < jnb M → CT M len tx p' → (chr len tx p' = 125 → ∀ M2, fq cP M M2 → CT M2 len tx (p' + 1) → Q 1 0 M2) → (chr len tx p' ≠ 125 → ∀ M2, fq cE M M2 → M2 8 0 5 = zI p' → Q 0 0 M2) → at_X8_parseLoop_88 b 0 (zI y) M Q := by
    intro y p' M y0 y1 hb hT hA hB
    have key : ∀ (K : Int32 → Nat → jM → Prop), (∀ r n M2, (r = 0 ∨ r = 1) → jnb M2 = jnb M → Q r 0 M2 → K r n M2) → ok_X8_expect 9 M K := fun K hK =>
      x1_ok (g := 125) (by decide) rfl (by decide +kernel) (by decide) hT (fun c5 M2 f2 T2 => hK 1 0 M2 (Or.inr rfl) (fq_nbP f2) (hA c5 M2 f2 T2)) (fun c5 M2 f2 e2 => hK 0 0 M2 (Or.inl rfl) (fq_nbE f2) (hB c5 M2 f2 e2))
    refine bl_X8_parseLoop_88 _ _ _ _ _ hb ⟨fun _ => key _ (fun r m M2 h1 h2 h3 => ⟨h2, h1, ?_⟩), fun _ => ⟨fun _ => key _ (fun r m M2 h1 h2 h3 => ⟨h2, h1, ?_⟩), fun w => absurd rfl w⟩⟩
    · exact h3
    · exact h3
  intro n
  induction n with
  | zero => intro s p f0 v M hn h0 h3; omega
  | succ n ih =>
    intro s p f0 v M hn h0 h3 hT hC hP hA hE hB
    refine bl_X8_parseLoop_88 _ _ _ _ _ hC.1 ?_
    refine ⟨fun w => (by rw [z_4, z_ltF (by omega)] at w; exact w.elim), fun _ => ⟨fun w => absurd w (by decide), fun _ => ?_⟩⟩
    refine st_ok h3 hT hC hP (fun M6 p1 v1 f1 g1 g2 g3 g4 g5 g6 g7 g8 => ⟨fq_nbB g1, fun w => absurd w (by decide), fun _ => ?_⟩) (fun M6 f g1 g2 g3 => ⟨fq_nbF g1, fun _ => hB M6 f g1 g2 (Or.inl g3), fun w => absurd rfl w⟩)
    have hl := hT.1.1
    have hp1 := g2.2.1
    have stop : ¬ (chr len tx p1 = 59 ∧ s < 3) → ∀ M7, M7 = jup M6 8 0 3 (M6 8 0 3 + 0) → at_X8_parseLoop_88 b 0 (zI (s + 1) + 1) M7 Q := fun q M7 hM => by
      have e0 : jup M6 8 0 3 (M6 8 0 3 + 0) = M6 := by rw [show M6 8 0 3 + 0 = M6 8 0 3 by rw [g2.2.2.2.1, z_0, z_add, Int.add_zero]]; exact jup_same
      subst hM
      rw [e0, z_1, z_add]
      refine en (s + 1 + 1) p1 M6 (by omega) (by omega) g4.1 g2 (fun c5 M2 f2 T2 => ?_) (fun c5 M2 f2 e2 => ?_)
      · have ep : p1 + 1 - 1 = p1 := by omega
        exact hA M2 (p1 + 1) v1 (s + 1) f1 (fq_tr g1 (fq_PB f2)) T2 (by rw [fq_5P f2, g3]) (by
          have e : ∀ R, R ≠ 8 → M2 R = M6 R := fun R hR => by funext i f; exact f2 R i f (fun z => hR z.1)
          have en2 := fq_nbP f2
          unfold CO CS at *
          rw [en2, e 0 (by decide), e 20 (by decide), e 21 (by decide), e 22 (by decide), e 7 (by decide), e 26 (by decide), e 24 (by decide), e 25 (by decide)]
          exact g4) (by rw [ep]; exact g5) (by omega) (by omega) g7 (by rw [ep]; exact ⟨p1, v1, g8, Or.inr ⟨q, rfl, rfl⟩⟩) (by rw [ep]; exact c5)
      · exact hE M2 p1 v1 (fq_tr (fq_BF g1) (fq_EF f2)) e2 ⟨p1, v1, g8, Or.inr ⟨q, rfl, rfl⟩⟩ c5
    obtain ⟨z, ez, hz⟩ := jpk_e g2
    refine ⟨fun w => stop (fun q => by rw [z_4, z_leF (by omega)] at w; exact w), fun w4 => ⟨g2.2.2.2.2.2, ?_⟩⟩
    rw [z_4, z_leI (by omega)] at w4
    rw [ez, z_59, z_eqI (by omega)]
    refine ⟨fun w => ?_, fun w => stop (fun q => by omega)⟩
    rintro M12 rfl
    have hc : chr len tx p1 = 59 := by omega
    rw [g2.2.2.2.1, z_1, z_add, z_add]
    have f4 : fq cP M6 (jup M6 8 0 3 (zI (p1 + 1))) := fq_up (fq_rf _ _) ⟨rfl, rfl, rfl⟩
    have T4 : CT (jup M6 8 0 3 (zI (p1 + 1))) len tx (p1 + 1) := CT_P g2 f4 (by omega) (jup_self _ _ _ _ _)
    have C4 : CO (jup M6 8 0 3 (zI (p1 + 1))) b v1 (s + 1) f1 := by
      have e : ∀ R, R ≠ 8 → jup M6 8 0 3 (zI (p1 + 1)) R = M6 R := fun R hR => jup_o hR
      have en2 := fq_nbP f4
      unfold CO CS at *
      rw [en2, e 0 (by decide), e 20 (by decide), e 21 (by decide), e 22 (by decide), e 7 (by decide), e 26 (by decide), e 24 (by decide), e 25 (by decide)]
      exact g4
    have P4 : PO v1 (s + 1) (p1 + 1) f1 := ⟨g5.1, g5.2.1, ⟨g5.2.2.1.1, by have := g5.2.2.1.2.1; omega, by omega⟩, g5.2.2.2⟩
    have a := ih (s + 1) (p1 + 1) f1 v1 _ (by omega) (by omega) (by omega) T4 C4 P4 (fun M1 p' v' s' f2 k1 k2 k3 k4 k5 k6 k7 k8 k9 k10 => hA M1 p' v' s' f2 (fq_tr (fq_tr g1 (fq_PB f4)) k1) k2 (by rw [k3, fq_5P f4, g3]) k4 k5 k6 (by omega) (fun j j0 j1 => by rw [k8 j j0 j1, g7 j j0 j1]) ⟨p1, v1, g8, Or.inl ⟨hc, by omega, k9⟩⟩ k10) (fun M1 p' v' k1 k2 k3 k4 => hE M1 p' v' (fq_tr (fq_tr (fq_BF g1) (fq_PF f4)) k1) k2 ⟨p1, v1, g8, Or.inl ⟨hc, by omega, k3⟩⟩ k4) (fun M1 f k1 k2 k3 => hB M1 f (fq_tr (fq_tr (fq_BF g1) (fq_PF f4)) k1) k2 (Or.inr ⟨p1, v1, g8, hc, by omega, k3⟩))
    rw [← z_1]
    exact a
