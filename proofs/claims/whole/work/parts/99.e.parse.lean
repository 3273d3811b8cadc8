/-! ===== the class reads: a text ===== -/
theorem BR_b {M M1 : jM} {b : Nat} {v : Int → Int} (h3 : v 3 ≤ 4) (hB : BR M b v) (h0 : ∀ R, (R = 0 ∨ (20 ≤ R ∧ R ≤ 25)) → M1 R b = M R b) (h7 : ∀ j : Nat, j < 4 → M1 7 (4 * b + j) = M 7 (4 * b + j) ∧ M1 26 (4 * b + j) = M 26 (4 * b + j)) : BR M1 b v := by
  obtain ⟨c1, c2, c3⟩ := hB
  refine ⟨by rw [h0 0 (by omega)]; exact c1, by rw [h0 20 (by omega), h0 21 (by omega), h0 22 (by omega)]; exact c2, fun s s0 s1 => ?_⟩
  obtain ⟨f, h, r, g1, g2, g3, g4, g5, g6⟩ := c3 s s0 s1
  obtain ⟨e7, e26⟩ := h7 s.toNat (by omega)
  exact ⟨f, h, r, g1, g2, g3, by rw [e7]; exact g4, by rw [e26]; exact g5, by rw [h0 24 (by omega), h0 25 (by omega)]; exact g6⟩
/-- what the class writes while it reads a text -/
def cM (b0 R i f : Nat) : Prop := (R = 8 ∧ i = 0 ∧ 2 ≤ f ∧ f ≤ 5) ∨ ((R = 0 ∨ (20 ≤ R ∧ R ≤ 25)) ∧ b0 ≤ i) ∨ ((R = 7 ∨ R = 26) ∧ 4 * b0 ≤ i) ∨ (R = 3 ∧ 12 ≤ i ∧ i < 20 ∧ f ≤ 2) ∨ R = 99
theorem cL_M {b0 b1 x R i f : Nat} (hb : b0 ≤ b1) (hx : 12 ≤ x ∧ x < 20) (h : cL b1 x R i f) : cM b0 R i f := by
  unfold cL cE at h
  unfold cM
  omega
theorem LR_M {M M1 : jM} {x : Nat} {v : Int → Int} (hL : LR M x v) (hv : v 3 ≤ 4) (hf : fq (cM (jnb M)) M M1) (h3 : ∀ f, f ≤ 3 → M1 3 x f = M 3 x f) (hn : jnb M ≤ jnb M1) : LR M1 x v := by
  obtain ⟨⟨a1, a2, a3⟩, b, hb, a0, hB⟩ := hL
  refine ⟨⟨by rw [h3 1 (by omega)]; exact a1, by rw [h3 2 (by omega)]; exact a2, by rw [h3 3 (by omega)]; exact a3⟩, b, by omega, by rw [h3 0 (by omega)]; exact a0, BR_b hv hB (fun R hR => ?_) (fun j hj => ⟨?_, ?_⟩)⟩
  · funext f; exact hf R b f (fun z => by unfold cM at z; omega)
  · funext f; exact hf _ _ f (fun z => by unfold cM at z; omega)
  · funext f; exact hf _ _ f (fun z => by unfold cM at z; omega)
/-- texts: loops one after another, i of them before; m of them in all -/
def TxG (c : Int → Int) (len : Int) (m : Int) (R : Int → Int → Int) : Nat → Int → Int → Prop
  | 0, _, _ => False
  | n + 1, i, p => ∃ p', LpG c p p' (R i) ∧ ((len ≤ p' ∧ m = i + 1) ∨ (p' < len ∧ TxG c len m R n (i + 1) p'))
def TxB (c : Int → Int) (len : Int) (f : Int) : Nat → Int → Prop
  | 0, _ => False
  | n + 1, p => LpB c p f ∨ ∃ p' v', LpG c p p' v' ∧ p' < len ∧ TxB c len f n p'
theorem TxG_cg {c : Int → Int} {len m : Int} {R R' : Int → Int → Int} : ∀ (n : Nat) (i p : Int), (∀ l, i ≤ l → R' l = R l) → TxG c len m R n i p → TxG c len m R' n i p := by
  intro n
  induction n with
  | zero => intro i p _ h; exact h
  | succ n ih =>
    intro i p h ⟨p', h1, h2⟩
    refine ⟨p', by rw [h i (Int.le_refl _)]; exact h1, h2.imp id (fun ⟨h3, h4⟩ => ⟨h3, ih (i + 1) p' (fun l hl => h l (by omega)) h4⟩)⟩
set_option maxHeartbeats 4000000 in
set_option maxRecDepth 100000 in
theorem pa_ok {len : Int} {tx : Int → Int} {Q : Int32 → Nat → jM → Prop} {M : jM} (hG : TG len tx) (h82 : M 8 0 2 = zI len) (h41 : ∀ j, 0 ≤ j → j < len → M 41 0 j.toNat = zI (tx j)) (hj : jch M) (hnb : jnb M ≤ 90000) (h3 : ∀ x, 12 ≤ x → x < 20 → M 3 x 3 = zI 0)
    (hA : ∀ M1 (m : Nat) R, fq (cM (jnb M)) M M1 → M1 8 0 2 = zI 0 → M1 8 0 4 = zI (m : Int) → M1 8 0 5 = zI (-1) → 1 ≤ m → m ≤ 8 → jnb M1 = jnb M + m → (∀ l : Nat, l < m → LR M1 (12 + l) (R (l : Int)) ∧ OKL (R (l : Int))) → TxG (chr len tx) len (m : Int) R 8 0 0 → Q 0 0 M1)
    (hB : ∀ M1 f, fq (cM (jnb M)) M M1 → M1 8 0 2 = zI 0 → M1 8 0 5 = zI f → jnb M1 ≤ jnb M + 8 → jnb M ≤ jnb M1 → TxB (chr len tx) len f 8 0 → Q 0 0 M1) : ok_X8_parse M Q := by
  have hl := hG.1
  have em1 : (-1 : Int32) = zI (-1) := by rw [z_1, z_neg]
  have stop : ∀ (kc : Nat) (y : Int) (M1 : jM), kc ≤ 8 → 0 ≤ y → y ≤ 8 → Q 0 0 (jup M1 8 0 2 0) → at_X8_parse_19 kc 0 (zI y) M1 Q := fun kc y M1 hk y0 y1 h => by
    refine bl_X8_parse_19 _ _ _ _ _ hk ⟨fun _ => ?_, fun _ => ⟨fun _ => ?_, fun w => absurd rfl w⟩⟩
    · rintro M2 rfl; exact h
    · rintro M2 rfl; exact h
  have fin : ∀ M1, fq (cM (jnb M)) M M1 → fq (cM (jnb M)) M (jup M1 8 0 2 0) := fun M1 hf => fq_up hf (Or.inl ⟨rfl, rfl, by omega, by omega⟩)
  have loop : ∀ (d i : Nat) (p : Int) (R : Int → Int → Int) (M1 : jM), d + i = 8 → 16 * (i : Int) ≤ p → (i = 0 ∨ p < len) → fq (cM (jnb M)) M M1 → CT M1 len tx p → M1 8 0 4 = zI (i : Int) → M1 8 0 5 = zI (-1) → jnb M1 = jnb M + i → (∀ l : Nat, l < i → LR M1 (12 + l) (R (l : Int)) ∧ OKL (R (l : Int))) →
      (∀ m R', (∀ l : Int, l < i → R' l = R l) → TxG (chr len tx) len m R' d i p → TxG (chr len tx) len m R' 8 0 0) → (∀ f, TxB (chr len tx) len f d p → TxB (chr len tx) len f 8 0) → at_X8_parse_19 i 1 (zI (i : Int)) M1 Q := by
    intro d
    induction d with
    | zero => intro i p R M1 hd hp hpl; omega
    | succ d ih =>
      intro i p R M1 hd hp hpl hf hT1 g4 g5 gn gL gG gB
      refine bl_X8_parse_19 _ _ _ _ _ (by omega) ⟨fun w => (by rw [z_8, z_leF (by omega)] at w; exact w.elim), fun _ => ⟨fun w => absurd w (by decide), fun _ => ⟨by rw [z_inT (by omega)]; trivial, by omega, ?_⟩⟩⟩
      rw [z_clamp (by omega), show ((i : Nat) : Int).toNat = i by omega]
      refine pl_ok (by omega) hT1 (by omega) (by rw [hf 3 _ 3 (fun z => by unfold cM at z; omega)]; exact h3 _ (by omega) (by omega)) (fun M5 p' v' k1 k2 k3 k4 k5 k6 k7 k8 => ⟨fun w => absurd w (by decide), fun _ => ?_⟩) (fun M5 f k1 k2 k3 k4 => ⟨fun _ => ?_, fun w => absurd rfl w⟩)
      · rintro M7 rfl
        have kM : fq (cM (jnb M1)) M1 M5 := fq_mono k1 (fun _ _ _ q => cL_M (Nat.le_refl _) (by omega) q)
        have kM0 : fq (cM (jnb M)) M M5 := fq_tr hf (fq_mono k1 (fun _ _ _ q => cL_M (by omega) (by omega) q))
        have f7 : fq (cM (jnb M)) M (jup M5 8 0 4 (M5 8 0 4 + 1)) := fq_up kM0 (Or.inl ⟨rfl, rfl, by omega, by omega⟩)
        have e4 : M5 8 0 4 + 1 = zI ((i : Int) + 1) := by rw [k1 8 0 4 (fun z => by unfold cL cE at z; omega), g4, z_1, z_add]
        rw [e4] at f7 ⊢
        have L5 : ∀ l : Nat, l < i + 1 → LR M5 (12 + l) ((fun j : Int => if j = i then v' else R j) (l : Int)) ∧ OKL ((fun j : Int => if j = i then v' else R j) (l : Int)) := fun l hli => by
          by_cases q : l = i
          · subst q
            simp only [↓reduceIte]
            exact ⟨k5, k6⟩
          · have q2 : ¬ (l : Int) = i := by omega
            simp only [if_neg q2]
            obtain ⟨a, b⟩ := gL l (by omega)
            exact ⟨LR_M a b.2.1.2.1 kM (fun f hf3 => k1 3 _ f (fun z => by unfold cL cE at z; omega)) (by omega), b⟩
        have L7 : ∀ (M9 : jM), (∀ R, R ≠ 8 → M9 R = M5 R) → ∀ l : Nat, l < i + 1 → LR M9 (12 + l) ((fun j : Int => if j = i then v' else R j) (l : Int)) ∧ OKL ((fun j : Int => if j = i then v' else R j) (l : Int)) := fun M9 h9 l hli => by
          obtain ⟨a, b⟩ := L5 l hli
          refine ⟨?_, b⟩
          unfold LR BR BRs jnb at *
          rw [h9 3 (by decide), h9 0 (by decide), h9 7 (by decide), h9 20 (by decide), h9 21 (by decide), h9 22 (by decide), h9 24 (by decide), h9 25 (by decide), h9 26 (by decide), h9 99 (by decide)]
          exact a
        have o9 : ∀ R, R ≠ 8 → jup M5 8 0 4 (zI ((i : Int) + 1)) R = M5 R := fun R hR => jup_o hR
        have o10 : ∀ R, R ≠ 8 → jup (jup M5 8 0 4 (zI ((i : Int) + 1))) 8 0 2 0 R = M5 R := fun R hR => by rw [jup_o hR, jup_o hR]
        have T5 := k2
        rw [jup_ne (by omega), jup_ne (by omega), k2.2.2.1, k2.2.2.2.1, z_1, z_add]
        have hp' := k2.2.1
        refine ⟨fun w => ?_, fun w => ?_⟩
        · rw [z_leI (by omega)] at w
          refine stop _ _ _ (by omega) (by omega) (by omega) (hA _ (i + 1) (fun j : Int => if j = i then v' else R j) (fin _ f7) (by rw [jup_self, z_0]) ?_ ?_ (by omega) (by omega) ?_ (L7 _ o10) (gG _ _ (fun l hl2 => if_neg (by omega)) ⟨p', ?_, Or.inl ⟨w, by omega⟩⟩))
          · rw [jup_ne (by omega), jup_self]; exact zc (by omega)
          · rw [jup_ne (by omega), jup_ne (by omega), k3, g5]
          · have e : jnb (jup (jup M5 8 0 4 (zI ((i : Int) + 1))) 8 0 2 0) = jnb M5 := by unfold jnb; rw [o10 99 (by decide)]
            rw [e, k4, gn]; omega
          · simp only [↓reduceIte]; exact k8
        · rw [z_leI (by omega)] at w
          have a := ih (i + 1) p' (fun j : Int => if j = i then v' else R j) (jup M5 8 0 4 (zI ((i : Int) + 1))) (by omega) (by omega) (Or.inr (by omega)) f7 (CT_p k2 hp' (by rw [jup_ne (by omega)]) (fun j => by rw [jup_R (by decide)]) (by rw [jup_ne (by omega)]; exact k2.2.2.2.1)) (by rw [jup_self]; exact zc (by omega)) (by rw [jup_ne (by omega), k3, g5]) (by
            have e : jnb (jup M5 8 0 4 (zI ((i : Int) + 1))) = jnb M5 := by unfold jnb; rw [o9 99 (by decide)]
            rw [e, k4, gn]; omega) (L7 _ o9) (fun m R' hR hh => gG m R' (fun l hl2 => by rw [hR l (by omega)]; exact if_neg (by omega)) ⟨p', by rw [hR i (by omega)]; simp only [↓reduceIte]; exact k8, Or.inr ⟨by omega, by rw [show (i : Int) + 1 = ((i + 1 : Nat) : Int) by omega]; exact hh⟩⟩) (fun f hh => gB f (Or.inr ⟨p', v', k8, by omega, hh⟩))
          rw [show ((i + 1 : Nat) : Int) = (i : Int) + 1 by omega] at a
          rw [← z_1]
          exact a
      · have kM0 : fq (cM (jnb M)) M M5 := fq_tr hf (fq_mono k1 (fun _ _ _ q => cL_M (by omega) (by omega) q))
        rw [z_1, z_add]
        have en : jnb (jup M5 8 0 2 0) = jnb M5 := by unfold jnb; rw [jup_R (by decide)]
        exact stop _ _ _ (by omega) (by omega) (by omega) (hB _ f (fin _ kM0) (by rw [jup_self, z_0]) (by rw [jup_ne (by omega)]; exact k2) (by rw [en, k3, gn]; omega) (by rw [en, k3, gn]; omega) (gB f (Or.inl k4)))
  refine en_X8_parse (bl_X8_parse_0 _ _ ?_)
  rintro M1 rfl M2 rfl M3 rfl
  have f3 : fq (cM (jnb M)) M (jup (jup (jup M 8 0 3 0) 8 0 4 0) 8 0 5 (-1)) := fq_up (fq_up (fq_up (fq_rf _ _) (Or.inl ⟨rfl, rfl, by omega, by omega⟩)) (Or.inl ⟨rfl, rfl, by omega, by omega⟩)) (Or.inl ⟨rfl, rfl, by omega, by omega⟩)
  have a := loop 8 0 0 (fun _ _ => 0) _ (by omega) (by omega) (Or.inl rfl) f3 ⟨hG, by omega, by rw [jup_ne (by omega), jup_ne (by omega), jup_ne (by omega)]; exact h82, by rw [jup_ne (by omega), jup_ne (by omega), jup_self, z_0], fun j j0 j1 => by rw [jup_R (by decide), jup_R (by decide), jup_R (by decide)]; exact h41 j j0 j1, fun j => by rw [jup_R (by decide), jup_R (by decide), jup_R (by decide)]; exact hj j⟩ (by rw [jup_ne (by omega), jup_self, z_0]; rfl) (by rw [jup_self, em1]) (by unfold jnb; rw [jup_R (by decide), jup_R (by decide), jup_R (by decide)]; rfl) (fun l hl2 => by omega) (fun m R' _ h => h) (fun f h => h)
  exact a
