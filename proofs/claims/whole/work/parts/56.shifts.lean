/-! ===== shifts and time steps ===== -/
def nd (a b : Int → Int) : Int := dGr a b (-1000) (dps a b)
theorem dGr_in {a b : Int → Int} : ∀ (L : List (Int × Int)) (m : Int), (∀ p ∈ L, -18 ≤ dSh a b p ∧ dSh a b p ≤ 18) → m ≤ 18 → m ≤ dGr a b m L ∧ dGr a b m L ≤ 18 := by
  intro L
  induction L with
  | nil => intro m _ h; exact ⟨Int.le_refl _, h⟩
  | cons p L ih =>
    intro m h hm
    have hp := h p (by simp)
    have := ih (max m (dSh a b p)) (fun q hq => h q (by simp [hq])) (by omega)
    show m ≤ dGr a b (max m (dSh a b p)) L ∧ dGr a b (max m (dSh a b p)) L ≤ 18
    omega
theorem dSh_in {a b : Int → Int} (ha : OKL a) (hb : OKL b) : ∀ p ∈ dps a b, -18 ≤ dSh a b p ∧ dSh a b p ≤ 18 := by
  intro p hp
  obtain ⟨⟨h1, h2⟩, ⟨h3, h4⟩, _⟩ := dps_all (by have := ha.2.1; omega) (by have := hb.2.1; omega) p hp
  obtain ⟨_, ⟨m3, m4⟩, _⟩ := ha.2.2.1 p.1 h1 h2
  obtain ⟨_, ⟨n3, n4⟩, _⟩ := hb.2.2.1 p.2 h3 h4
  unfold dSh
  omega
theorem nd_in {a b : Int → Int} (ha : OKL a) (hb : OKL b) : -1000 ≤ nd a b ∧ nd a b ≤ 18 := dGr_in _ _ (dSh_in ha hb) (by omega)
theorem nd_no {a b : Int → Int} (h : dps a b = []) : nd a b = -1000 := by unfold nd; rw [h]; rfl
theorem nd_m {a b : Int → Int} (ha : OKL a) (hb : OKL b) (h : dps a b ≠ []) : dGr a b (-100) (dps a b) = nd a b := by
  have hin := dSh_in ha hb
  unfold nd
  cases hd : dps a b with
  | nil => exact absurd hd h
  | cons p L =>
    rw [hd] at hin
    have hp := hin p (by simp)
    show dGr a b (max (-100) (dSh a b p)) L = dGr a b (max (-1000) (dSh a b p)) L
    rw [show max (-100) (dSh a b p) = max (-1000) (dSh a b p) by omega]
def shN (w : Int → Int → Int) (f : Int) : Nat → Int → Int
  | 0, _ => 0
  | k + 1, q => if q = f + (k : Int) then ni k (fun b x => max x (shN w f k (f + b) + nd (w (f + b)) (w q))) 0 else shN w f k q
/-- the shift of loop q in a group that begins with f -/
def sh (w : Int → Int → Int) (f q : Int) : Int := shN w f (q - f + 1).toNat q
/-- .. as far as the loops before f + k ask for it -/
def shP (w : Int → Int → Int) (f q k : Int) : Int := ni k (fun b x => max x (sh w f (f + b) + nd (w (f + b)) (w q))) 0
theorem shN_st {w : Int → Int → Int} {f : Int} : ∀ (k : Nat) (q : Int), f ≤ q → q < f + k → shN w f k q = sh w f q := by
  intro k
  induction k with
  | zero => intro q h1 h2; omega
  | succ k ih =>
    intro q h1 h2
    by_cases e : q = f + k
    · unfold sh
      rw [show (q - f + 1).toNat = k + 1 by omega]
    · rw [← ih q h1 (by omega)]
      show (if q = f + (k : Int) then _ else shN w f k q) = _
      rw [if_neg e]
theorem sh_eq {w : Int → Int → Int} {f q : Int} (h : f ≤ q) : sh w f q = shP w f q (q - f) := by
  unfold sh shP
  rw [show (q - f + 1).toNat = (q - f).toNat + 1 by omega]
  show (if q = f + ((q - f).toNat : Int) then _ else _) = _
  rw [if_pos (by omega), show (((q - f).toNat : Nat) : Int) = q - f by omega]
  refine ni_congr (fun j x h1 h2 => ?_)
  rw [shN_st _ _ (by omega) (by omega)]
theorem shP_0 {w : Int → Int → Int} {f q : Int} : shP w f q 0 = 0 := ni_0 (Int.le_refl 0)
theorem shP_s {w : Int → Int → Int} {f q k : Int} (h : 0 ≤ k) : shP w f q (k + 1) = max (shP w f q k) (sh w f (f + k) + nd (w (f + k)) (w q)) := ni_s h
theorem shP_in {n : Int} {w : Int → Int → Int} {o : Int → Int} (hG : GH n w o) {f : Int} (hf : 0 ≤ f) : ∀ (d : Nat) (q k : Int), q - f = d → q < n → 0 ≤ k → k ≤ q - f → 0 ≤ shP w f q k ∧ shP w f q k ≤ 18 * (q - f) := by
  intro d
  induction d using Nat.strongRecOn with
  | _ d ih =>
    intro q k hd hq h0 hk
    unfold shP
    refine ni_inv (P := fun j x => 0 ≤ x ∧ x ≤ 18 * (q - f)) ⟨by omega, by omega⟩ h0 (fun j x h1 h2 hx => ?_)
    have h3 := ih j.toNat (by omega) (f + j) (f + j - f) (by omega) (by omega) (by omega) (by omega)
    rw [← sh_eq (by omega)] at h3
    have h4 := nd_in (hG.2.2 (f + j) (by omega) (by omega)) (hG.2.2 q (by omega) hq)
    show 0 ≤ max x (sh w f (f + j) + nd (w (f + j)) (w q)) ∧ max x (sh w f (f + j) + nd (w (f + j)) (w q)) ≤ _
    omega
theorem sh_in {n : Int} {w : Int → Int → Int} {o : Int → Int} (hG : GH n w o) {f q : Int} (hf : 0 ≤ f) (h1 : f ≤ q) (h2 : q < n) : 0 ≤ sh w f q ∧ sh w f q ≤ 90 := by
  have h := shP_in hG hf (q - f).toNat q (q - f) (by omega) h2 (by omega) (by omega)
  rw [← sh_eq h1] at h
  have := hG.1
  omega
theorem sh_f {w : Int → Int → Int} {f : Int} : sh w f f = 0 := by
  rw [sh_eq (Int.le_refl f), show f - f = 0 by omega, shP_0]
/-- least and greatest steps over the first k loops of a group -/
def tF (w : Int → Int → Int) (f k : Int) : Int := ni k (fun b x => min x (sh w f (f + b) + w (f + b) 0)) 1000
def tL (w : Int → Int → Int) (f k : Int) : Int := ni k (fun b x => max x (sh w f (f + b) + w (f + b) 1)) (-1000)
def mF (w : Int → Int → Int) (f k : Int) : Int := ni k (fun b x => max x (sh w f (f + b) + w (f + b) 0)) (-1000)
def mL (w : Int → Int → Int) (f k : Int) : Int := ni k (fun b x => min x (sh w f (f + b) + w (f + b) 1)) 1000
theorem tF_0 {w : Int → Int → Int} {f : Int} : tF w f 0 = 1000 := ni_0 (Int.le_refl 0)
theorem tL_0 {w : Int → Int → Int} {f : Int} : tL w f 0 = -1000 := ni_0 (Int.le_refl 0)
theorem mF_0 {w : Int → Int → Int} {f : Int} : mF w f 0 = -1000 := ni_0 (Int.le_refl 0)
theorem mL_0 {w : Int → Int → Int} {f : Int} : mL w f 0 = 1000 := ni_0 (Int.le_refl 0)
theorem tF_s {w : Int → Int → Int} {f k : Int} (h : 0 ≤ k) : tF w f (k + 1) = min (tF w f k) (sh w f (f + k) + w (f + k) 0) := ni_s h
theorem tL_s {w : Int → Int → Int} {f k : Int} (h : 0 ≤ k) : tL w f (k + 1) = max (tL w f k) (sh w f (f + k) + w (f + k) 1) := ni_s h
theorem mF_s {w : Int → Int → Int} {f k : Int} (h : 0 ≤ k) : mF w f (k + 1) = max (mF w f k) (sh w f (f + k) + w (f + k) 0) := ni_s h
theorem mL_s {w : Int → Int → Int} {f k : Int} (h : 0 ≤ k) : mL w f (k + 1) = min (mL w f k) (sh w f (f + k) + w (f + k) 1) := ni_s h
theorem st_in {n : Int} {w : Int → Int → Int} {o : Int → Int} (hG : GH n w o) {f k : Int} (hf : 0 ≤ f) (h0 : 0 ≤ k) (hk : f + k ≤ n) : (0 ≤ tF w f k ∧ tF w f k ≤ 1000) ∧ (-1000 ≤ tL w f k ∧ tL w f k ≤ 120) ∧ (-1000 ≤ mF w f k ∧ mF w f k ≤ 120) ∧ (0 ≤ mL w f k ∧ mL w f k ≤ 1000) := by
  have hs : ∀ j, 0 ≤ j → j < k → (0 ≤ sh w f (f + j) ∧ sh w f (f + j) ≤ 90) ∧ 0 ≤ w (f + j) 0 ∧ w (f + j) 0 ≤ 30 ∧ 0 ≤ w (f + j) 1 ∧ w (f + j) 1 ≤ 30 := fun j h1 h2 => by
    have h3 := sh_in hG hf (show f ≤ f + j by omega) (by omega)
    have h4 := (hG.2.2 (f + j) (by omega) (by omega)).1
    omega
  refine ⟨?_, ?_, ?_, ?_⟩
  · exact ni_inv (P := fun j x => 0 ≤ x ∧ x ≤ 1000) ⟨by omega, by omega⟩ h0 (fun j x h1 h2 hx => by
      have := hs j h1 h2
      show 0 ≤ min x _ ∧ min x _ ≤ _
      omega)
  · exact ni_inv (P := fun j x => -1000 ≤ x ∧ x ≤ 120) ⟨by omega, by omega⟩ h0 (fun j x h1 h2 hx => by
      have := hs j h1 h2
      show -1000 ≤ max x _ ∧ max x _ ≤ _
      omega)
  · exact ni_inv (P := fun j x => -1000 ≤ x ∧ x ≤ 120) ⟨by omega, by omega⟩ h0 (fun j x h1 h2 hx => by
      have := hs j h1 h2
      show -1000 ≤ max x _ ∧ max x _ ≤ _
      omega)
  · exact ni_inv (P := fun j x => 0 ≤ x ∧ x ≤ 1000) ⟨by omega, by omega⟩ h0 (fun j x h1 h2 hx => by
      have := hs j h1 h2
      show 0 ≤ min x _ ∧ min x _ ≤ _
      omega)
