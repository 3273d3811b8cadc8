/-! ===== the reference reads: a text ===== -/
def Tn (c : Int → Int) (len : Int) (R : Int → Int → Int) : Nat → Int → Int → (Int ⊕ Int) → Prop
  | 0, _, _, _ => False
  | n + 1, i, p, r => (∃ f, LpB c p f ∧ r = .inl f) ∨ ∃ p' v', LpG c p p' v' ∧ ((∃ f, r = .inl f) ∨ v' = R i) ∧ ((len ≤ p' ∧ r = .inr (i + 1)) ∨ (p' < len ∧ Tn c len R n (i + 1) p' r))
theorem TxG_Tn {c : Int → Int} {len m : Int} {R : Int → Int → Int} : ∀ (n : Nat) (i p : Int), TxG c len m R n i p → Tn c len R n i p (.inr m) := by
  intro n
  induction n with
  | zero => intro i p h; exact h.elim
  | succ n ih =>
    intro i p h
    obtain ⟨p', h1, h2⟩ := h
    rcases h2 with ⟨a, b⟩ | ⟨a, b⟩
    · exact Or.inr ⟨p', _, h1, Or.inr rfl, Or.inl ⟨a, by rw [b]⟩⟩
    · exact Or.inr ⟨p', _, h1, Or.inr rfl, Or.inr ⟨a, ih _ _ b⟩⟩
theorem TxB_Tn {c : Int → Int} {len f : Int} {R : Int → Int → Int} : ∀ (n : Nat) (i p : Int), TxB c len f n p → Tn c len R n i p (.inl f) := by
  intro n
  induction n with
  | zero => intro i p h; exact h.elim
  | succ n ih =>
    intro i p h
    rcases h with h | ⟨p', v', h1, a, b⟩
    · exact Or.inl ⟨f, h, rfl⟩
    · exact Or.inr ⟨p', v', h1, Or.inl ⟨f, rfl⟩, Or.inr ⟨a, ih _ _ b⟩⟩
abbrev FR : List Nat := [7, 8, 10, 11, 12, 13, 14, 17, 18, 19]
abbrev FQ : List Nat := [10, 12, 13, 14, 17, 18, 19]
set_option maxHeartbeats 4000000 in
set_option maxRecDepth 100000 in
theorem tl_ok {len : Int} {tx : Int → Int} {R : Int → Int → Int} {Q : Int32 → Nat → jM → Prop} : ∀ (n : Nat) (i p : Int) (M : jM) (r : Int ⊕ Int), 0 ≤ i → i + n ≤ 10 → MT M len tx p → M 11 0 14 = zI i → M 11 0 10 = zI (-1) → ((∃ f, r = .inl f) ∨ ∀ l j, 0 ≤ l → l < i → 0 ≤ j → j < 585 → M 55 0 (585 * l + j).toNat = zI (R l j)) → Tn (chr len tx) len R n i p r →
    (∀ M1 m, r = .inr m → i < m ∧ m ≤ i + n → fm [55, 56] FQ M M1 → M1 11 0 13 = 0 → M1 11 0 14 = zI m → M1 11 0 10 = zI (-1) → (∀ l j, 0 ≤ l → l < m → 0 ≤ j → j < 585 → M1 55 0 (585 * l + j).toNat = zI (R l j)) → at_X12_read_40 0 M1 Q) →
    (∀ M1 f, r = .inl f → fm [55, 56] FQ M M1 → MB M1 len f → at_X12_read_40 0 M1 Q) → at_X12_read_40 1 M Q := by
  intro n
  induction n with
  | zero => intro i p M r i0 i1 hT h14 h10 hrow h; exact h.elim
  | succ n ih =>
    intro i p M r i0 i1 hT h14 h10 hrow h hA hB
    refine bl_X12_read_40 _ _ _ ⟨fun w => absurd w (by decide), fun _ => ?_⟩
    rcases h with ⟨f, h1, e⟩ | ⟨p', v', h1, h2, h3⟩
    · refine mlp_ok (r := .inl f) hT ⟨i0, by omega⟩ h14 h10 (Or.inr ⟨f, h1, rfl⟩) (fun M1 p' v' e1 => by cases e1) (fun M1 f1 e1 g1 g2 => ⟨fm_n g1, fun w => absurd w (MB_n0 g2), fun _ => ?_⟩)
      rw [← Sum.inl.inj e1] at g2
      exact hB M1 f e (fm_mono g1) g2
    · refine mlp_ok (r := .inr (p', v')) hT ⟨i0, by omega⟩ h14 h10 (Or.inl ⟨p', v', h1, rfl⟩) (fun M1 p1 v1 e1 g1 g2 g3 g4 g5 g6 => ⟨fm_n g1, fun _ => ?_, fun w => absurd (MT_0 g3) w⟩) (fun M1 f1 e1 => by cases e1)
      have e2 := Sum.inr.inj e1
      obtain ⟨rfl, rfl⟩ := Prod.mk.inj e2
      have hl := g3.1.1
      have hp := g3.2.1
      rw [g3.2.2.1, g3.2.2.2.1, z_leI (by omega)]
      have row1 : (∃ f, r = .inl f) ∨ ∀ l j, 0 ≤ l → l < i + 1 → 0 ≤ j → j < 585 → M1 55 0 (585 * l + j).toNat = zI (R l j) := by
        rcases hrow with q | hrow
        · exact Or.inl q
        · rcases h2 with q | h2
          · exact Or.inl q
          · refine Or.inr (fun l j l0 l1 j0 j1 => ?_)
            by_cases q : l = i
            · rw [q, g6 j j0 j1, h2]
            · rw [g2 _ (by omega)]; exact hrow l j l0 (by omega) j0 j1
      refine ⟨fun w => ?_, fun w => ?_⟩
      · rcases h3 with ⟨_, e⟩ | ⟨w2, _⟩
        · rcases row1 with ⟨f, q⟩ | row1
          · rw [e] at q; cases q
          · exact hA M1 (i + 1) e (by omega) (fm_mono g1) (MT_0 g3) g4 g5 row1
        · omega
      · rcases h3 with ⟨w2, _⟩ | ⟨_, h3⟩
        · omega
        · exact ih (i + 1) p' M1 r (by omega) (by omega) g3 g4 g5 row1 h3 (fun M2 m e f2 k1 k2 k3 k4 k5 => hA M2 m e (by omega) (fm_tr g1 k1) k2 k3 k4 k5) (fun M2 f e k1 k2 => hB M2 f e (fm_tr g1 k1) k2)
set_option maxHeartbeats 4000000 in
set_option maxRecDepth 100000 in
theorem cpr_ok {M0 : jM} {N m : Nat} {Q : Int32 → Nat → jM → Prop} (hN : N + m ≤ 6) (h0 : M0 11 0 0 = zI (N : Int)) (h14 : M0 11 0 14 = zI (m : Int)) (hQ : ∀ M1, fm [50] [0] M0 M1 → M1 11 0 0 = zI ((N : Int) + m) → (∀ k : Nat, k < 585 * N → M1 50 0 k = M0 50 0 k) → (∀ k : Nat, k < 585 * m → M1 50 0 (585 * N + k) = M0 55 0 k) → Q (zI (m : Int)) 0 M1) : at_X12_read_110 0 M0 Q := by
  have go : ∀ (d i : Nat) (v1 : Int32) (M : jM), i + d = 585 * m → v1 = zI (i : Int) → fm [50] [] M0 M → (∀ k : Nat, k < 585 * N → M 50 0 k = M0 50 0 k) → (∀ k : Nat, k < i → M 50 0 (585 * N + k) = M0 55 0 k) → at_X12_read_110 v1 M Q := by
    intro d
    induction d with
    | zero =>
      intro i v1 M hd hv hf lo hi
      subst hv
      have e14 : M 11 0 14 = zI (m : Int) := by rw [hf.2 14 (by decide)]; exact h14
      have e0 : M 11 0 0 = zI (N : Int) := by rw [hf.2 0 (by decide)]; exact h0
      refine bl_X12_read_110 _ _ _ ?_
      rw [e14, e0, z_585, z_mul]
      refine ⟨fun _ => ?_, fun w => absurd (by rw [z_leT (by omega)]; trivial) w⟩
      intro M1 e1
      rw [z_add] at e1
      have f1 : fm [50] [0] M0 M1 := by rw [e1]; exact fm_f (fm_mono hf)
      rw [f1.2 14 (by decide), h14]
      exact hQ M1 f1 (by rw [e1, jup_self]) (fun k hk => by rw [e1, jup_R (by decide)]; exact lo k hk) (fun k hk => by rw [e1, jup_R (by decide)]; exact hi k (by omega))
    | succ d ih =>
      intro i v1 M hd hv hf lo hi
      subst hv
      have e14 : M 11 0 14 = zI (m : Int) := by rw [hf.2 14 (by decide)]; exact h14
      have e0 : M 11 0 0 = zI (N : Int) := by rw [hf.2 0 (by decide)]; exact h0
      refine bl_X12_read_110 _ _ _ ?_
      rw [e14, e0, z_585, z_mul, z_mul]
      refine ⟨fun w => (by rw [z_leF (by omega)] at w; exact w.elim), fun _ => ?_⟩
      rw [z_add, z_clamp (by omega), z_clamp (by omega)]
      refine ⟨by rw [z_inT (by omega)]; trivial, by rw [z_inT (by omega)]; trivial, ?_⟩
      intro M2 e2
      rw [show ((i : Nat) : Int).toNat = i by omega, show (585 * (N : Int) + (i : Int)).toNat = 585 * N + i by omega, hf.1 55 (by decide) (by decide)] at e2
      rw [z_1, z_add]
      refine ih (i + 1) _ M2 (by omega) (zc (by omega)) (by rw [e2]; exact fm_up hf) (fun k hk => by rw [e2, jup_ne (by omega)]; exact lo k hk) (fun k hk => ?_)
      by_cases q : k = i
      · rw [q, e2, jup_self]
      · rw [e2, jup_ne (by omega)]; exact hi k (by omega)
  exact go (585 * m) 0 0 M0 (by omega) z_0 (fm_rf _ _ _) (fun k hk => rfl) (fun k hk => by omega)
set_option maxHeartbeats 4000000 in
set_option maxRecDepth 100000 in
theorem mrd_ok {M : jM} {len : Int} {tx : Int → Int} {N : Nat} {R : Int → Int → Int} {r : Int ⊕ Int} {Q : Int32 → Nat → jM → Prop} (hG : TG len tx) (hN : N ≤ 6) (h0 : M 11 0 0 = zI (N : Int)) (h8 : M 11 0 8 = zI len) (h54 : ∀ j, 0 ≤ j → j < len → M 54 0 j.toNat = zI (tx j)) (hT : Tn (chr len tx) len R 8 0 0 r)
    (hA : ∀ M1 (m : Nat), r = .inr (m : Int) → N + m ≤ 6 → fm [50, 55, 56] (0 :: FR) M M1 → M1 11 0 7 = 0 → M1 11 0 8 = zI 0 → M1 11 0 10 = zI (-1) → M1 11 0 0 = zI ((N : Int) + m) → (∀ k : Nat, k < 585 * N → M1 50 0 k = M 50 0 k) → (∀ (l : Nat) j, l < m → 0 ≤ j → j < 585 → M1 50 0 (585 * ((N : Int) + l) + j).toNat = zI (R (l : Int) j)) → Q (zI (m : Int)) 0 M1)
    (hC : ∀ M1 (m : Int), r = .inr m → ¬ (N + m ≤ 6) → fm [55, 56] FR M M1 → M1 11 0 7 = 2 → M1 11 0 8 = zI 0 → M1 11 0 10 = zI (-1) → Q 0 0 M1)
    (hB : ∀ M1 f, r = .inl f → fm [55, 56] FR M M1 → M1 11 0 7 = 1 → M1 11 0 8 = zI 0 → M1 11 0 10 = zI f → Q 0 0 M1) : ok_X12_read M Q := by
  have hl := hG.1
  refine en_X12_read (bl_X12_read_0 _ _ ?_)
  intro M1 e1 M2 e2 M3 e3 M4 e4 M5 e5 M6 e6 M7 e7
  have em1 : (-1 : Int32) = zI (-1) := by rw [z_1, z_neg]
  have e8 : M1 11 0 8 = zI len := by rw [e1, jup_ne (by omega)]; exact h8
  rw [e8] at e2
  have F7 : fm [] FR M M7 := by rw [e7, e6, e5, e4, e3, e2, e1]; exact fm_f (fm_f (fm_f (fm_f (fm_f (fm_f (fm_f (fm_rf _ _ _)))))))
  have k8 : M7 11 0 8 = zI 0 := by rw [e7, jup_ne (by omega), e6, jup_ne (by omega), e5, jup_ne (by omega), e4, jup_ne (by omega), e3, jup_self, z_0]
  have k7 : M7 11 0 7 = 0 := by rw [e7, jup_ne (by omega), e6, jup_ne (by omega), e5, jup_ne (by omega), e4, jup_ne (by omega), e3, jup_ne (by omega), e2, jup_ne (by omega), e1, jup_self]
  have k11 : M7 11 0 11 = zI len := by rw [e7, jup_ne (by omega), e6, jup_ne (by omega), e5, jup_ne (by omega), e4, jup_ne (by omega), e3, jup_ne (by omega), e2, jup_self]
  have k12 : M7 11 0 12 = zI 0 := by rw [e7, jup_ne (by omega), e6, jup_ne (by omega), e5, jup_ne (by omega), e4, jup_self, z_0]
  have k13 : M7 11 0 13 = zI 0 := by rw [e7, jup_ne (by omega), e6, jup_ne (by omega), e5, jup_self, z_0]
  have k10 : M7 11 0 10 = zI (-1) := by rw [e7, jup_ne (by omega), e6, jup_self, em1]
  have k14 : M7 11 0 14 = zI 0 := by rw [e7, jup_self, z_0]
  have T7 : MT M7 len tx 0 := ⟨hG, by omega, k11, k12, fun j j0 j1 => by rw [F7.1 54 (by decide) (by decide)]; exact h54 j j0 j1, k13⟩
  refine tl_ok 8 0 0 M7 r (by omega) (by omega) T7 k14 k10 (Or.inr (fun l j l0 l1 => by omega)) hT (fun M8 m e hm f8 g13 g14 g10 grow => ?_) (fun M8 f e f8 b8 => ?_)
  · obtain ⟨m', rfl⟩ : ∃ m' : Nat, m = (m' : Int) := ⟨m.toNat, by omega⟩
    have F8 : fm [55, 56] FR M M8 := fm_tr F7 f8
    have e0 : M8 11 0 0 = zI (N : Int) := by rw [F8.2 0 (by decide)]; exact h0
    have q7 : M8 11 0 7 = 0 := by rw [f8.2 7 (by decide)]; exact k7
    have q8 : M8 11 0 8 = zI 0 := by rw [f8.2 8 (by decide)]; exact k8
    refine bl_X12_read_40 _ _ _ ⟨fun _ => ⟨fun _ => ?_, fun w => absurd g13 w⟩, fun w => absurd rfl w⟩
    rw [e0, g14, z_add, z_6, z_leI (by omega)]
    refine ⟨fun w => ?_, fun w => ?_⟩
    · refine cpr_ok (N := N) (m := m') (by omega) e0 g14 (fun M9 f9 a0 lo hi => ?_)
      refine hA M9 m' e (by omega) (fm_tr F8 f9) (by rw [f9.2 7 (by decide)]; exact q7) (by rw [f9.2 8 (by decide)]; exact q8) (by rw [f9.2 10 (by decide)]; exact g10) a0 (fun k hk => by rw [lo k hk, F8.1 50 (by decide) (by decide)]) (fun l j l1 j0 j1 => ?_)
      have a := hi (585 * l + j.toNat) (by omega)
      rw [show (585 * ((N : Int) + (l : Int)) + j).toNat = 585 * N + (585 * l + j.toNat) by omega, a, show 585 * l + j.toNat = (585 * (l : Int) + j).toNat by omega]
      exact grow l j (by omega) (by omega) j0 j1
    · intro M2 e2
      have f2 : fm [] [7] M8 M2 := by rw [e2]; exact fm_f (fm_rf _ _ _)
      exact hC M2 m' e w (fm_tr F8 f2) (by rw [e2, jup_self]) (by rw [f2.2 8 (by decide)]; exact q8) (by rw [f2.2 10 (by decide)]; exact g10)
  · have F8 : fm [55, 56] FR M M8 := fm_tr F7 f8
    refine bl_X12_read_40 _ _ _ ⟨fun _ => ⟨fun w => absurd w (MB_n0 b8), fun _ => ?_⟩, fun w => absurd rfl w⟩
    intro M2 e2
    have f2 : fm [] [7] M8 M2 := by rw [e2]; exact fm_f (fm_rf _ _ _)
    exact hB M2 f e (fm_tr F8 f2) (by rw [e2, jup_self]) (by rw [f2.2 8 (by decide), f8.2 8 (by decide)]; exact k8) (by rw [f2.2 10 (by decide)]; exact b8.2.2.2.2)
