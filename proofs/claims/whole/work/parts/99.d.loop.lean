/-! ===== the class reads: a whole loop ===== -/
theorem CO_e {M M1 : jM} {b : Nat} {v : Int → Int} {s f0 : Int} (h : CO M b v s f0) (e : ∀ R, R ≠ 8 → R ≠ 3 → M1 R = M R) : CO M1 b v s f0 := by
  unfold CO CS jnb at *
  rw [e 99 (by decide) (by decide), e 0 (by decide) (by decide), e 20 (by decide) (by decide), e 21 (by decide) (by decide), e 22 (by decide) (by decide), e 7 (by decide) (by decide), e 26 (by decide) (by decide), e 24 (by decide) (by decide), e 25 (by decide) (by decide)]
  exact h
theorem CO_BR {M : jM} {b : Nat} {v : Int → Int} {s e f0 : Int} (h : CO M b v s f0) (hP : PO v s e f0) : BR M b v := by
  obtain ⟨c1, c2, c3, c4, c5⟩ := h
  have h3 := hP.1.2.2
  refine ⟨⟨c2.1, by rw [h3]; exact c2.2.1⟩, c3, fun j j0 j1 => CS_BRs (c4 j j0 (by omega)) (by have := hP.2.2.1; omega)⟩
theorem PO_OKL {v : Int → Int} {s e f0 : Int} (hP : PO v s e f0) (hs : 1 ≤ s) (h0 : 0 ≤ v 0 ∧ v 0 ≤ v 1 ∧ v 1 ≤ 30) (h2 : v 2 = 0) : OKL v := by
  obtain ⟨⟨s0, s1, s2⟩, h4, hf, ⟨hR, rs, r1, r2, r3⟩, hC, hZ, hO⟩ := hP
  refine ⟨⟨h0.1, h0.2.1, h0.2.2, Or.inl h2⟩, by omega, fun r r0 r1 => ?_, fun j j0 j1 => ?_, rs, fun j j0 j1 => r1 j j0 (by omega), fun j j0 j1 => r2 j j0 (by omega), fun r r0 r1 hw => (r3 r r0 r1 hw).2⟩
  · have a := hR r r0 r1
    have b := hO r r0 r1
    exact ⟨a.1, a.2.1, a.2.2.1, a.2.2.2.1, by omega⟩
  · obtain ⟨g1, h, g2, g3⟩ := hC j j0 (by omega)
    have gh := g3 h (by simp)
    exact ⟨g1.1, ⟨h, by have := g1.1; omega, g2⟩, g1.2⟩
def wF (i : Int) : Int := if i = 0 then 102 else if i = 1 then 111 else if i = 2 then 114 else 40
def v0 (lo hi : Int) (j : Int) : Int := if j = 0 then lo else if j = 1 then hi else 0
def hd1 (c : Int → Int) (p : Int) : Prop := ∀ i, 0 ≤ i → i < 4 → c (p + i) = wF i
def hd2 (c : Int → Int) (p : Int) : Prop := hd1 c p ∧ isD (c (p + 4)) ∧ 0 ≤ nX c (p + 4) ∧ nX c (p + 4) ≤ 30
def hd3 (c : Int → Int) (p : Int) : Prop := hd2 c p ∧ c (nP c (p + 4)) = 44
def hd4 (c : Int → Int) (p : Int) : Prop := hd3 c p ∧ isD (c (nP c (p + 4) + 1)) ∧ nX c (p + 4) ≤ nX c (nP c (p + 4) + 1) ∧ nX c (nP c (p + 4) + 1) ≤ 30
def hq (c : Int → Int) (p : Int) : Int := nP c (nP c (p + 4) + 1)
def hd5 (c : Int → Int) (p : Int) : Prop := hd4 c p ∧ c (hq c p) = 41 ∧ c (hq c p + 1) = 123
def hv (c : Int → Int) (p : Int) : Int → Int := v0 (nX c (p + 4)) (nX c (nP c (p + 4) + 1))
def LpG (c : Int → Int) (p p' : Int) (v' : Int → Int) : Prop := hd5 c p ∧ LsG c 4 0 (hq c p + 2) (hv c p) (p' - 1) v' ∧ c (p' - 1) = 125
def LpB (c : Int → Int) (p f : Int) : Prop :=
  (∃ i, 0 ≤ i ∧ i < 4 ∧ (∀ j, 0 ≤ j → j < i → c (p + j) = wF j) ∧ c (p + i) ≠ wF i ∧ f = p + i) ∨ (hd1 c p ∧ ¬ (isD (c (p + 4)) ∧ 0 ≤ nX c (p + 4) ∧ nX c (p + 4) ≤ 30) ∧ f = p + 4) ∨ (hd2 c p ∧ c (nP c (p + 4)) ≠ 44 ∧ f = nP c (p + 4)) ∨
  (hd3 c p ∧ ¬ (isD (c (nP c (p + 4) + 1)) ∧ nX c (p + 4) ≤ nX c (nP c (p + 4) + 1) ∧ nX c (nP c (p + 4) + 1) ≤ 30) ∧ f = nP c (p + 4) + 1) ∨
  (hd4 c p ∧ c (hq c p) ≠ 41 ∧ f = hq c p) ∨ (hd4 c p ∧ c (hq c p) = 41 ∧ c (hq c p + 1) ≠ 123 ∧ f = hq c p + 1) ∨
  (hd5 c p ∧ LsB c 4 0 (hq c p + 2) (hv c p) f) ∨ (hd5 c p ∧ (∃ v', LsG c 4 0 (hq c p + 2) (hv c p) f v') ∧ c f ≠ 125)
def cL (b0 x R i f : Nat) : Prop := cE R i f ∨ ((R = 0 ∨ (20 ≤ R ∧ R ≤ 25)) ∧ b0 ≤ i) ∨ ((R = 7 ∨ R = 26) ∧ 4 * b0 ≤ i) ∨ (R = 3 ∧ i = x ∧ f ≤ 2) ∨ R = 99
theorem cF_L {b0 x R i f : Nat} (h : cF b0 R i f) : cL b0 x R i f := by
  unfold cF cB cP at h
  unfold cL
  rcases h with (h | ⟨h1, h2⟩ | ⟨h1, h2, h3⟩) | h
  · exact Or.inl ⟨h.1, h.2.1, Or.inl h.2.2⟩
  · exact Or.inr (Or.inl ⟨by omega, by omega⟩)
  · exact Or.inr (Or.inr (Or.inl ⟨h1, by omega⟩))
  · exact Or.inl h
theorem cE_L {b0 x R i f : Nat} (h : cE R i f) : cL b0 x R i f := Or.inl h
theorem fq_PL {b0 x : Nat} {M M1 : jM} (h : fq cP M M1) : fq (cL b0 x) M M1 := fq_mono h (fun _ _ _ q => Or.inl (cP_E q))
theorem fq_EL {b0 x : Nat} {M M1 : jM} (h : fq cE M M1) : fq (cL b0 x) M M1 := fq_mono h (fun _ _ _ q => Or.inl q)
theorem fq_FL {b0 x : Nat} {M M1 : jM} (h : fq (cF b0) M M1) : fq (cL b0 x) M M1 := fq_mono h (fun _ _ _ q => cF_L q)
theorem CT_L {M M1 : jM} {b0 x : Nat} {len : Int} {tx : Int → Int} {p p' : Int} (h : CT M len tx p) (hf : fq (cL b0 x) M M1) (hp : 0 ≤ p' ∧ p' ≤ len) (e3 : M1 8 0 3 = zI p') : CT M1 len tx p' :=
  CT_p h hp (hf 8 0 2 (fun z => by unfold cL cE at z; omega)) (fun j => hf 41 0 j (fun z => by unfold cL cE at z; omega)) e3
