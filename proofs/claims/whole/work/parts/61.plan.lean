/-! ===== arrangements ===== -/
def gs (z : Int → Int) (j : Int) : Int := ni j (fun _ x => x + z x) 0
theorem gs_0 {z : Int → Int} : gs z 0 = 0 := ni_0 (Int.le_refl 0)
theorem gs_s {z : Int → Int} {j : Int} (h : 0 ≤ j) : gs z (j + 1) = gs z j + z (gs z j) := ni_s h
def zok (z : Int → Int) (n : Int) : Prop := ∀ f, 0 ≤ f → f < n → 1 ≤ z f ∧ f + z f ≤ n
def isNG (z : Int → Int) (n T : Int) : Prop := 0 ≤ T ∧ gs z T = n ∧ ∀ j, 0 ≤ j → j < T → gs z j < n
theorem gs_in {z : Int → Int} {n T : Int} (hz : zok z n) (hn : 0 ≤ n) (hb : ∀ j, 0 ≤ j → j < T → gs z j < n) : ∀ d : Nat, (d : Int) ≤ T → 0 ≤ gs z d ∧ gs z d ≤ n ∧ (d : Int) ≤ gs z d := by
  intro d
  induction d with
  | zero => intro _; rw [show ((0 : Nat) : Int) = 0 from rfl, gs_0]; omega
  | succ d ih =>
    intro hd
    have h1 := ih (by omega)
    have h2 := hb d (by omega) (by omega)
    have h3 := hz (gs z d) h1.1 h2
    rw [show ((d + 1 : Nat) : Int) = (d : Int) + 1 by omega, gs_s (by omega)]
    omega
theorem gs_at {z : Int → Int} {n T j : Int} (hz : zok z n) (hn : 0 ≤ n) (hT : isNG z n T) (h0 : 0 ≤ j) (hj : j ≤ T) : 0 ≤ gs z j ∧ gs z j ≤ n ∧ j ≤ gs z j := by
  have := gs_in hz hn hT.2.2 j.toNat (by omega)
  rw [show (j.toNat : Int) = j by omega] at this
  exact this
theorem gs_mono {z : Int → Int} {n T : Int} (hz : zok z n) (hn : 0 ≤ n) (hT : isNG z n T) {a : Int} (h0 : 0 ≤ a) : ∀ d : Nat, a + d ≤ T → gs z a + d ≤ gs z (a + d) := by
  intro d
  induction d with
  | zero => intro _; rw [show a + ((0 : Nat) : Int) = a by omega]; omega
  | succ d ih =>
    intro hd
    have h1 := ih (by omega)
    have h2 := hT.2.2 (a + d) (by omega) (by omega)
    have h4 := gs_at hz hn hT (show 0 ≤ a + (d : Int) by omega) (by omega)
    have h3 := hz (gs z (a + d)) h4.1 h2
    rw [show a + ((d + 1 : Nat) : Int) = (a + d) + 1 by omega, gs_s (by omega)]
    omega
theorem isNG_u {z : Int → Int} {n T T' : Int} (h : isNG z n T) (h' : isNG z n T') : T = T' := by
  obtain ⟨a1, a2, a3⟩ := h
  obtain ⟨b1, b2, b3⟩ := h'
  by_cases q : T < T'
  · have := b3 T a1 q; omega
  · by_cases q2 : T' < T
    · have := a3 T' b1 q2; omega
    · omega
/-- the hits of a group alone -/
def Hh (w : Int → Int → Int) (o : Int → Int) (f l : Int) : Int := (trG (o 1) w f l (lat0, 0, 0, 0)).2.2.1
abbrev D3 : Type := Int × Int × Int
def dpS (w : Int → Int → Int) (o : Int → Int) (T : Int → D3) (f s : Int) (a : D3) : D3 :=
  if a.2.2 = 0 ∨ a.1 < Hh w o f (f + s - 1) + (T (f + s)).1 ∨ (Hh w o f (f + s - 1) + (T (f + s)).1 = a.1 ∧ 1 + (T (f + s)).2.1 < a.2.1) then (Hh w o f (f + s - 1) + (T (f + s)).1, 1 + (T (f + s)).2.1, s) else a
def dpI (w : Int → Int → Int) (o : Int → Int) (n : Int) (T : Int → D3) (f k : Int) : D3 := ni k (fun b a => dpS w o T f (lg w o n f - b) a) (0, 0, 0)
def dpN (w : Int → Int → Int) (o : Int → Int) (n : Int) : Nat → Int → D3
  | 0, _ => (0, 0, 0)
  | d + 1, f => if f = n - ((d + 1 : Nat) : Int) then dpI w o n (dpN w o n d) f (lg w o n f) else dpN w o n d f
def dp (w : Int → Int → Int) (o : Int → Int) (n f : Int) : D3 := dpN w o n (n - f).toNat f
theorem dpN_st {w : Int → Int → Int} {o : Int → Int} {n : Int} : ∀ (d : Nat) (f : Int), n - d ≤ f → f ≤ n → dpN w o n d f = dp w o n f := by
  intro d
  induction d with
  | zero => intro f h1 h2; unfold dp; rw [show (n - f).toNat = 0 by omega]
  | succ d ih =>
    intro f h1 h2
    by_cases e : f = n - ((d + 1 : Nat) : Int)
    · unfold dp
      rw [show (n - f).toNat = d + 1 by omega]
    · rw [← ih f (by omega) h2]
      show (if f = n - ((d + 1 : Nat) : Int) then _ else dpN w o n d f) = _
      rw [if_neg e]
theorem dp_n {w : Int → Int → Int} {o : Int → Int} {n : Int} : dp w o n n = (0, 0, 0) := by
  unfold dp
  rw [show (n - n).toNat = 0 by omega]
  rfl
theorem dp_eq {w : Int → Int → Int} {o : Int → Int} {n f : Int} (h : f < n) : dp w o n f = dpI w o n (dp w o n) f (lg w o n f) := by
  have hl := lg_is (w := w) (o := o) h
  unfold dp dpI
  rw [show (n - f).toNat = (n - f - 1).toNat + 1 by omega]
  show (if f = n - (((n - f - 1).toNat + 1 : Nat) : Int) then _ else _) = _
  rw [if_pos (by omega)]
  unfold dpI
  refine ni_congr (fun j x h1 h2 => ?_)
  have e := dpN_st (w := w) (o := o) (n := n) (n - f - 1).toNat (f + (lg w o n f - j)) (by omega) (by have := hl.2.1; omega)
  unfold dpS
  rw [e]
  rfl
/-- the sizes of the groups of an arrangement -/
def az (w : Int → Int → Int) (o : Int → Int) (n k f : Int) : Int := if k = 0 then 1 else if k = 1 then lg w o n f else (dp w o n f).2.2
theorem dpI_k {w : Int → Int → Int} {o : Int → Int} {n : Int} {T : Int → D3} {f k : Int} (h1 : 1 ≤ k) (h2 : k ≤ lg w o n f) : lg w o n f - k + 1 ≤ (dpI w o n T f k).2.2 ∧ (dpI w o n T f k).2.2 ≤ lg w o n f := by
  unfold dpI
  have := ni_inv (f := fun b a => dpS w o T f (lg w o n f - b) a) (s := ((0, 0, 0) : D3)) (k := k) (P := fun j x => (j = 0 → x.2.2 = 0) ∧ (1 ≤ j → lg w o n f - j + 1 ≤ x.2.2 ∧ x.2.2 ≤ lg w o n f)) ⟨fun _ => rfl, fun z => by omega⟩ (by omega) (fun j x h3 h4 hx => by
    refine ⟨fun z => by omega, fun _ => ?_⟩
    show _ ≤ (dpS w o T f (lg w o n f - j) x).2.2 ∧ (dpS w o T f (lg w o n f - j) x).2.2 ≤ _
    unfold dpS
    split
    · exact ⟨by show _ ≤ lg w o n f - j; omega, by show lg w o n f - j ≤ _; omega⟩
    · rename_i q
      by_cases e : j = 0
      · exact absurd (Or.inl (hx.1 e)) q
      · have := hx.2 (by omega); omega)
  exact this.2 h1
theorem az_ok {w : Int → Int → Int} {o : Int → Int} {n k : Int} : zok (az w o n k) n := by
  intro f h0 hf
  have hl := lg_is (w := w) (o := o) hf
  unfold az
  by_cases q : k = 0
  · rw [if_pos q]; omega
  · rw [if_neg q]
    by_cases q2 : k = 1
    · rw [if_pos q2]; exact ⟨hl.1, hl.2.1⟩
    · rw [if_neg q2, dp_eq hf]
      have := dpI_k (w := w) (o := o) (n := n) (T := dp w o n) (f := f) (k := lg w o n f) hl.1 (Int.le_refl _)
      have := hl.2.1
      omega
/-- hits and groups are small -/
theorem trR_hits {win : Int} {v : Int → Int} {t i r : Int} {x : TRs} : x.2.2.1 ≤ (trR win v t i r x).2.2.1 ∧ (trR win v t i r x).2.2.1 ≤ x.2.2.1 + 1 := by
  unfold trR
  by_cases q : v (53 + r) = 1
  · rw [if_pos q]; exact ⟨Int.le_refl _, by show x.2.2.1 ≤ _; omega⟩
  · rw [if_neg q]
    by_cases q2 : t - x.1 (plc v r + i) ≤ win
    · rw [if_pos q2]; exact ⟨by show _ ≤ x.2.2.1 + 1; omega, Int.le_refl _⟩
    · rw [if_neg q2]; exact ⟨Int.le_refl _, by show x.2.2.1 ≤ _; omega⟩
theorem trT_hits {win : Int} {w : Int → Int → Int} {f t k : Int} {x : TRs} (hk : 0 ≤ k) (h4 : ∀ b, 0 ≤ b → b < k → 0 ≤ w (f + b) 4 ∧ w (f + b) 4 ≤ 24) : x.2.2.1 ≤ (trT win w f t k x).2.2.1 ∧ (trT win w f t k x).2.2.1 ≤ x.2.2.1 + 24 * k := by
  unfold trT
  refine ni_inv (P := fun j y => x.2.2.1 ≤ (y : TRs).2.2.1 ∧ y.2.2.1 ≤ x.2.2.1 + 24 * j) (by omega) hk (fun j y h1 h2 hy => ?_)
  show _ ≤ (if _ then trB win (w (f + j)) t (t - sh w f (f + j)) (w (f + j) 4) y else y).2.2.1 ∧ (if _ then trB win (w (f + j)) t (t - sh w f (f + j)) (w (f + j) 4) y else y).2.2.1 ≤ _
  split
  · have h5 := h4 j h1 h2
    unfold trB
    have := ni_inv (f := fun r x => trR win (w (f + j)) t (t - sh w f (f + j)) r x) (s := y) (k := w (f + j) 4) (P := fun r z => y.2.2.1 ≤ (z : TRs).2.2.1 ∧ z.2.2.1 ≤ y.2.2.1 + r) (by omega) h5.1 (fun r z h6 h7 hz => by
      have := trR_hits (win := win) (v := w (f + j)) (t := t) (i := t - sh w f (f + j)) (r := r) (x := z)
      omega)
    omega
  · omega
theorem Hh_in {n : Int} {w : Int → Int → Int} {o : Int → Int} (hG : GH n w o) {f l : Int} (hf : 0 ≤ f) (hfl : f ≤ l) (hl : l < n) : 0 ≤ Hh w o f l ∧ Hh w o f l ≤ 20000 := by
  have hn := hG.1
  have hst := st_in hG hf (show 0 ≤ l - f + 1 by omega) (by omega)
  unfold Hh trG trK
  by_cases q : 0 ≤ tL w f (l - f + 1) - tF w f (l - f + 1) + 1
  · have := ni_inv (f := fun b x => trT (o 1) w f (tF w f (l - f + 1) + b) (l - f + 1) x) (s := ((lat0, 0, 0, 0) : TRs)) (k := tL w f (l - f + 1) - tF w f (l - f + 1) + 1) (P := fun j y => 0 ≤ (y : TRs).2.2.1 ∧ y.2.2.1 ≤ 144 * j) ⟨Int.le_refl _, Int.le_refl _⟩ q (fun j y h1 h2 hy => by
      have := trT_hits (win := o 1) (w := w) (f := f) (t := tF w f (l - f + 1) + j) (k := l - f + 1) (x := y) (by omega) (fun b h3 h4 => by have := (hG.2.2 (f + b) (by omega) (by omega)).2.1; omega)
      omega)
    omega
  · rw [ni_0 (by omega)]
    show 0 ≤ (0 : Int) ∧ (0 : Int) ≤ 20000
    omega
theorem dpI_in {n : Int} {w : Int → Int → Int} {o : Int → Int} (hG : GH n w o) {T : Int → D3} {f : Int} (hf : 0 ≤ f) (hfn : f < n) (hT : ∀ g, f < g → g ≤ n → (0 ≤ (T g).1 ∧ (T g).1 ≤ 20000 * (n - g)) ∧ 0 ≤ (T g).2.1 ∧ (T g).2.1 ≤ n - g) {k : Int} (h0 : 0 ≤ k) (hk : k ≤ lg w o n f) : (0 ≤ (dpI w o n T f k).1 ∧ (dpI w o n T f k).1 ≤ 20000 * (n - f)) ∧ 0 ≤ (dpI w o n T f k).2.1 ∧ (dpI w o n T f k).2.1 ≤ n - f := by
  have hl := lg_is (w := w) (o := o) hfn
  have hl2 := hl.2.1
  have hn := hG.1
  unfold dpI
  refine ni_inv (P := fun _ x => (0 ≤ (x : D3).1 ∧ x.1 ≤ 20000 * (n - f)) ∧ 0 ≤ x.2.1 ∧ x.2.1 ≤ n - f) ⟨⟨Int.le_refl _, by show (0 : Int) ≤ _; omega⟩, Int.le_refl _, by show (0 : Int) ≤ _; omega⟩ h0 (fun j x h1 h2 hx => ?_)
  have h3 := hT (f + (lg w o n f - j)) (by omega) (by omega)
  have h4 := Hh_in hG (f := f) (l := f + (lg w o n f - j) - 1) hf (by omega) (by omega)
  show (0 ≤ (dpS w o T f (lg w o n f - j) x).1 ∧ (dpS w o T f (lg w o n f - j) x).1 ≤ _) ∧ 0 ≤ (dpS w o T f (lg w o n f - j) x).2.1 ∧ (dpS w o T f (lg w o n f - j) x).2.1 ≤ _
  unfold dpS
  split
  · exact ⟨⟨by show 0 ≤ _ + _; omega, by show _ + _ ≤ _; omega⟩, by show 0 ≤ 1 + _; omega, by show 1 + _ ≤ _; omega⟩
  · exact hx
theorem dp_in {n : Int} {w : Int → Int → Int} {o : Int → Int} (hG : GH n w o) : ∀ (d : Nat) (f : Int), n - f = d → 0 ≤ f → (0 ≤ (dp w o n f).1 ∧ (dp w o n f).1 ≤ 20000 * (n - f)) ∧ 0 ≤ (dp w o n f).2.1 ∧ (dp w o n f).2.1 ≤ n - f := by
  intro d
  induction d using Nat.strongRecOn with
  | _ d ih =>
    intro f hd h0
    by_cases e : f = n
    · rw [e, dp_n]
      exact ⟨⟨Int.le_refl _, by show (0 : Int) ≤ _; omega⟩, Int.le_refl _, by show (0 : Int) ≤ _; omega⟩
    · rw [dp_eq (by omega)]
      have hl := lg_is (w := w) (o := o) (show f < n by omega)
      exact dpI_in hG h0 (by omega) (fun g h1 h2 => ih (n - g).toNat (by omega) g (by omega) (by omega)) (by have := hl.1; omega) (Int.le_refl _)
