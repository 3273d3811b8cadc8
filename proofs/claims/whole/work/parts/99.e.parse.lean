/-! ===== the class reads: a text ===== -/
theorem BR_b {M M1 : jM} {b : Nat} {v : Int → Int} (h3 : v 3 ≤ 4) (hB : BR M b v) (h0 : ∀ R, (R = 0 ∨ (20 ≤ R ∧ R ≤ 25)) → M1 R b = M R b) (h7 : ∀ j : Nat, j < 4 → M1 7 (4 * b + j) = M 7 (4 * b + j) ∧ M1 26 (4 * b + j) = M 26 (4 * b + j)) : BR M1 b v := by
  obtain ⟨c1, c2, c3⟩ := hB
  refine ⟨by rw [h0 0 (by omega)]; exact c1, by rw [h0 20 (by omega), h0 21 (by omega), h0 22 (by omega)]; exact c2, fun s s0 s1 => ?_⟩
  obtain ⟨f, h, r, g1, g2, g3, g4, g5, g6⟩ := c3 s s0 s1
  obtain ⟨e7, e26⟩ := h7 s.toNat (by omega)
  exact ⟨f, h, r, g1, g2, g3, by rw [e7]; exact g4, by rw [e26]; exact g5, by rw [h0 24 (by omega), h0 25 (by omega)]; exact g6⟩
/-- what the class writes while it reads a text -/
def cM (b0 R i f : Nat) : Prop := (R = 8 ∧ i = 0 ∧ 2 ≤ f ∧ f ≤ 5) ∨ ((R = 0 ∨ (20 ≤ R ∧ R ≤ 25)) ∧ b0 ≤ i) ∨ ((R = 7 ∨ R = 26) ∧ 4 * b0 ≤ i) ∨ (R = 3 ∧ 12 ≤ i ∧ i < 20 ∧ f ≤ 2) ∨ R = 99
theorem cL_M {b0 b1 x R i f : Nat} (hb : b0 ≤ b1) (hx : 12 ≤ x ∧ x < 20) (h : cL b1 x R i f) : cM b0 R i f := by
  unfold cL cE at h
  unfold cM
  omega
theorem LR_M {M M1 : jM} {x : Nat} {v : Int → Int} (hL : LR M x v) (hv : v 3 ≤ 4) (hf : fq (cM (jnb M)) M M1) (h3 : ∀ f, f ≤ 3 → M1 3 x f = M 3 x f) (hn : jnb M ≤ jnb M1) : LR M1 x v := by
  obtain ⟨⟨a1, a2, a3⟩, b, hb, a0, hB⟩ := hL
  refine ⟨⟨by rw [h3 1 (by omega)]; exact a1, by rw [h3 2 (by omega)]; exact a2, by rw [h3 3 (by omega)]; exact a3⟩, b, by omega, by rw [h3 0 (by omega)]; exact a0, BR_b hv hB (fun R hR => ?_) (fun j hj => ⟨?_, ?_⟩)⟩
  · funext f; exact hf R b f (fun z => by unfold cM at z; omega)
  · funext f; exact hf _ _ f (fun z => by unfold cM at z; omega)
  · funext f; exact hf _ _ f (fun z => by unfold cM at z; omega)
/-- texts: loops one after another, i of them before; m of them in all -/
def TxG (c : Int → Int) (len : Int) (m : Int) (R : Int → Int → Int) : Nat → Int → Int → Prop
  | 0, _, _ => False
  | n + 1, i, p => ∃ p', LpG c p p' (R i) ∧ ((len ≤ p' ∧ m = i + 1) ∨ (p' < len ∧ TxG c len m R n (i + 1) p'))
def TxB (c : Int → Int) (len : Int) (f : Int) : Nat → Int → Prop
  | 0, _ => False
  | n + 1, p => LpB c p f ∨ ∃ p' v', LpG c p p' v' ∧ p' < len ∧ TxB c len f n p'
theorem TxG_cg {c : Int → Int} {len m : Int} {R R' : Int → Int → Int} : ∀ (n : Nat) (i p : Int), (∀ l, i ≤ l → R' l = R l) → TxG c len m R n i p → TxG c len m R' n i p := by
  intro n
  induction n with
  | zero => intro i p _ h; exact h
  | succ n ih =>
    intro i p h ⟨p', h1, h2⟩
    refine ⟨p', by rw [h i (Int.le_refl _)]; exact h1, h2.imp id (fun ⟨h3, h4⟩ => ⟨h3, ih (i + 1) p' (fun l hl => h l (by omega)) h4⟩)⟩
