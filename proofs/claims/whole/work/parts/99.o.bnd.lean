/-! ===== faults lie within a text ===== -/
section
variable {len : Int} {tx : Int → Int}
theorem ch_c (h : TG len tx) {p : Int} (hp : 0 ≤ p) : (p < len ∧ 33 ≤ chr len tx p) ∨ (len ≤ p ∧ chr len tx p = -1) := by
  rcases chr_c h hp with ⟨a, b, c, _⟩ | ⟨a, b⟩
  · exact Or.inl ⟨a, by omega⟩
  · exact Or.inr ⟨a, b⟩
theorem nP_b (h : TG len tx) {p : Int} (hp : 0 ≤ p) (hd : isD (chr len tx p)) : p + 1 ≤ nP (chr len tx) p ∧ nP (chr len tx) p ≤ len := by
  have h0 := ch_c h hp
  have h1 := ch_c h (p := p + 1) (by omega)
  unfold nP isD at *
  split <;> omega
theorem rfG_b (h : TG len tx) {p p' a d : Int} (hp : 0 ≤ p) (hg : rfG (chr len tx) p p' a d) : p + 4 ≤ p' ∧ p' ≤ len := by
  have h3 := ch_c h (p := p + 3) (by omega)
  have h5 := ch_c h (p := p + 5) (by omega)
  unfold rfG isD at hg
  omega
theorem rfB_b (h : TG len tx) {p f : Int} (hp : 0 ≤ p ∧ p ≤ len) (hg : rfB (chr len tx) p f) : p ≤ f ∧ f ≤ len := by
  have h0 := ch_c h (p := p) (by omega)
  have h1 := ch_c h (p := p + 1) (by omega)
  have h2 := ch_c h (p := p + 2) (by omega)
  have h3 := ch_c h (p := p + 3) (by omega)
  have h4 := ch_c h (p := p + 4) (by omega)
  unfold rfB isD at hg
  omega
theorem Fc_b (h : TG len tx) {s p rd p' rd' : Int} {v v' : Int → Int} (hp : 0 ≤ p) (hf : Fc (chr len tx) s p rd v p' rd' v') : p ≤ p' ∧ p' ≤ len := by
  have h0 := ch_c h hp
  rcases hf with ⟨x0, x1, _⟩ | ⟨x0, x1, _⟩ | ⟨_, _, a, d, g, _⟩
  · have := nP_b h hp x0
    omega
  · omega
  · have := rfG_b h hp g
    omega
theorem Fb_b (h : TG len tx) {p rd f : Int} (hp : 0 ≤ p ∧ p ≤ len) (hf : Fb (chr len tx) p rd f) : p ≤ f ∧ f ≤ len := by
  rcases hf with ⟨_, _, _, e⟩ | ⟨_, _, e⟩ | ⟨_, _, g⟩
  · omega
  · omega
  · exact rfB_b h hp g
theorem Fn_b (h : TG len tx) {s : Int} : ∀ (n : Nat) (p : Int) (b : Bool) (W : List Int) (o rd : Int) (v : Int → Int) (r : Int ⊕ (Int × Int × (Int → Int))), Fn (chr len tx) s n p b W o rd v r → 0 ≤ p ∧ p ≤ len → (∀ f, r = .inl f → 0 ≤ f ∧ f ≤ len) ∧ ∀ p' rd' v', r = .inr (p', rd', v') → p ≤ p' ∧ p' ≤ len := by
  intro n
  induction n with
  | zero => intro p b W o rd v r hF; exact hF.elim
  | succ n ih =>
    intro p b W o rd v r hF hp
    have h0 := ch_c h hp.1
    have go : ∀ (b2 : Bool) (W2 : List Int) (o2 rd2 : Int) (v2 : Int → Int) (p2 : Int), Fn (chr len tx) s n p2 b2 W2 o2 rd2 v2 r → p ≤ p2 → p2 ≤ len → (∀ f, r = .inl f → 0 ≤ f ∧ f ≤ len) ∧ ∀ p' rd' v', r = .inr (p', rd', v') → p ≤ p' ∧ p' ≤ len := fun b2 W2 o2 rd2 v2 p2 hF2 k1 k2 => by
      obtain ⟨g1, g2⟩ := ih p2 b2 W2 o2 rd2 v2 r hF2 ⟨by omega, k2⟩
      exact ⟨g1, fun p' rd' v' e => by have := g2 p' rd' v' e; omega⟩
    cases b with
    | true =>
      unfold Fn at hF
      rcases hF with ⟨c, _, hF⟩ | ⟨_, p1, rd1, v1, hc, hF⟩ | ⟨_, f, hb, e⟩
      · exact go _ _ _ _ _ _ hF (by omega) (by omega)
      · have := Fc_b h hp.1 hc
        exact go _ _ _ _ _ _ hF this.1 this.2
      · have := Fb_b h hp hb
        exact ⟨fun f' e' => by rw [e] at e'; have := Sum.inl.inj e'; omega, fun p' rd' v' e' => by rw [e] at e'; cases e'⟩
    | false =>
      unfold Fn at hF
      rcases hF with ⟨c, hF⟩ | ⟨c, hF⟩ | ⟨c, hF⟩ | ⟨c, _, hF⟩ | ⟨_, ⟨_, e⟩ | ⟨_, e⟩⟩
      · exact go _ _ _ _ _ _ hF (by omega) (by omega)
      · exact go _ _ _ _ _ _ hF (by omega) (by omega)
      · exact go _ _ _ _ _ _ hF (by omega) (by omega)
      · exact go _ _ _ _ _ _ hF (by omega) (by omega)
      · exact ⟨fun f' e' => by rw [e] at e'; have := Sum.inl.inj e'; omega, fun p' rd' v' e' => by rw [e] at e'; cases e'⟩
      · exact ⟨fun f' e' => (by rw [e] at e'; cases e'), fun p' rd' v' e' => by rw [e] at e'; have := (Prod.mk.inj (Sum.inr.inj e')).1; omega⟩
theorem StG_b (h : TG len tx) {s p p' : Int} {v v' : Int → Int} (hp : 0 ≤ p ∧ p ≤ len) (hS : StG (chr len tx) s p v p' v') : p ≤ p' ∧ p' ≤ len := by
  obtain ⟨p1, a, d, rd2, v2, g, c, ⟨n, hn⟩, _⟩ := hS
  have h1 := rfG_b h hp.1 g
  have h2 := ch_c h (p := p1) (by omega)
  have h3 := (Fn_b h n _ _ _ _ _ _ _ hn (by omega)).2 _ _ _ rfl
  omega
theorem StB_b (h : TG len tx) {s p f : Int} {v : Int → Int} (hp : 0 ≤ p ∧ p ≤ len) (hS : StB (chr len tx) s p v f) : 0 ≤ f ∧ f ≤ len := by
  rcases hS with g | ⟨p1, a, d, g, w⟩
  · have := rfB_b h hp g
    omega
  · have h1 := rfG_b h hp.1 g
    rcases w with ⟨_, e⟩ | ⟨c, n, hn⟩
    · omega
    · have h2 := ch_c h (p := p1) (by omega)
      exact (Fn_b h n _ _ _ _ _ _ _ hn (by omega)).1 _ rfl
theorem LsG_b (h : TG len tx) : ∀ (n : Nat) (s p : Int) (v : Int → Int) (p' : Int) (v' : Int → Int), LsG (chr len tx) n s p v p' v' → 0 ≤ p ∧ p ≤ len → p ≤ p' ∧ p' ≤ len := by
  intro n
  induction n with
  | zero => intro s p v p' v' hL; exact hL.elim
  | succ n ih =>
    intro s p v p' v' hL hp
    obtain ⟨p1, v1, h1, h2⟩ := hL
    have g1 := StG_b h hp h1
    rcases h2 with ⟨c, _, hL⟩ | ⟨_, e, _⟩
    · have h2 := ch_c h (p := p1) (by omega)
      have := ih _ _ _ _ _ hL (by omega)
      omega
    · omega
theorem LsB_b (h : TG len tx) : ∀ (n : Nat) (s p : Int) (v : Int → Int) (f : Int), LsB (chr len tx) n s p v f → 0 ≤ p ∧ p ≤ len → 0 ≤ f ∧ f ≤ len := by
  intro n
  induction n with
  | zero => intro s p v f hL; exact hL.elim
  | succ n ih =>
    intro s p v f hL hp
    rcases hL with hS | ⟨p1, v1, h1, c, _, hL⟩
    · exact StB_b h hp hS
    · have g1 := StG_b h hp h1
      have h2 := ch_c h (p := p1) (by omega)
      exact ih _ _ _ _ hL (by omega)
theorem hd1_b (h : TG len tx) {p : Int} (hp : 0 ≤ p) (g : hd1 (chr len tx) p) : p + 4 ≤ len := by
  have a := g 3 (by omega) (by omega)
  have h3 := ch_c h (p := p + 3) (by omega)
  have e : wF 3 = 40 := by decide
  omega
theorem hd3_b (h : TG len tx) {p : Int} (hp : 0 ≤ p) (g : hd3 (chr len tx) p) : p ≤ nP (chr len tx) (p + 4) ∧ nP (chr len tx) (p + 4) + 1 ≤ len := by
  have h1 := nP_b h (p := p + 4) (by omega) g.1.2.1
  have h2 := ch_c h (p := nP (chr len tx) (p + 4)) (by omega)
  have := g.2
  omega
theorem hd4_b (h : TG len tx) {p : Int} (hp : 0 ≤ p) (g : hd4 (chr len tx) p) : p ≤ hq (chr len tx) p ∧ hq (chr len tx) p ≤ len := by
  have h1 := hd3_b h hp g.1
  have h2 := nP_b h (p := nP (chr len tx) (p + 4) + 1) (by omega) g.2.1
  unfold hq
  omega
theorem hd5_b (h : TG len tx) {p : Int} (hp : 0 ≤ p) (g : hd5 (chr len tx) p) : p ≤ hq (chr len tx) p ∧ hq (chr len tx) p + 2 ≤ len := by
  have h1 := hd4_b h hp g.1
  have h2 := ch_c h (p := hq (chr len tx) p + 1) (by omega)
  have := g.2.2
  omega
theorem LpG_b (h : TG len tx) {p p' : Int} {v' : Int → Int} (hp : 0 ≤ p) (g : LpG (chr len tx) p p' v') : p ≤ p' ∧ p' ≤ len := by
  have h1 := hd5_b h hp g.1
  have h2 := LsG_b h 4 _ _ _ _ _ g.2.1 (by omega)
  have h3 := ch_c h (p := p' - 1) (by omega)
  have := g.2.2
  omega
theorem LpB_b (h : TG len tx) {p f : Int} (hp : 0 ≤ p ∧ p ≤ len) (g : LpB (chr len tx) p f) : 0 ≤ f ∧ f ≤ len := by
  rcases g with ⟨i, i0, i1, hj, hn, ef⟩ | ⟨h1, hn, ef⟩ | ⟨h2, hn, ef⟩ | ⟨h3, hn, ef⟩ | ⟨h4, hn, ef⟩ | ⟨h4, g, hn, ef⟩ | ⟨h5, hL⟩ | ⟨h5, ⟨v', hL⟩, hn⟩
  · by_cases q : i = 0
    · omega
    · have a := hj (i - 1) (by omega) (by omega)
      have h2 := ch_c h (p := p + (i - 1)) (by omega)
      have e : 0 < wF (i - 1) := by unfold wF; split <;> (try split) <;> (try split) <;> omega
      omega
  · have := hd1_b h hp.1 h1
    omega
  · have := nP_b h (p := p + 4) (by omega) h2.2.1
    omega
  · have := hd3_b h hp.1 h3
    omega
  · have := hd4_b h hp.1 h4
    omega
  · have := hd4_b h hp.1 h4
    have h2 := ch_c h (p := hq (chr len tx) p) (by omega)
    omega
  · have := hd5_b h hp.1 h5
    exact LsB_b h 4 _ _ _ _ hL (by omega)
  · have h1 := hd5_b h hp.1 h5
    have := LsG_b h 4 _ _ _ _ _ hL (by omega)
    omega
theorem TxB_b (h : TG len tx) {f : Int} : ∀ (n : Nat) (p : Int), TxB (chr len tx) len f n p → 0 ≤ p ∧ p ≤ len → 0 ≤ f ∧ f ≤ len := by
  intro n
  induction n with
  | zero => intro p hB; exact hB.elim
  | succ n ih =>
    intro p hB hp
    rcases hB with hB | ⟨p', v', h1, h2, hB⟩
    · exact LpB_b h hp hB
    · have := LpG_b h hp.1 h1
      exact ih p' hB (by omega)
end
