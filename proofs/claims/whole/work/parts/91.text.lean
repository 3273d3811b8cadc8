/-! ===== texts: what is read, purely ===== -/
abbrev isD (x : Int) : Prop := 48 ≤ x ∧ x ≤ 57
/-- a number at p: where it ends, and its value -/
def nP (c : Int → Int) (p : Int) : Int := if c p ≠ 48 ∧ isD (c (p + 1)) then p + 2 else p + 1
def nX (c : Int → Int) (p : Int) : Int := if c p ≠ 48 ∧ isD (c (p + 1)) then 10 * (c p - 48) + c (p + 1) - 48 else c p - 48
theorem nX_r {c : Int → Int} {p : Int} (h : isD (c p)) : 0 ≤ nX c p ∧ nX c p ≤ 99 := by
  unfold nX isD at *
  split <;> omega
theorem nP_r (c : Int → Int) (p : Int) : p + 1 ≤ nP c p ∧ nP c p ≤ p + 2 := by
  unfold nP
  split <;> omega
/-- a reference at p -/
def rfG (c : Int → Int) (p p' a d : Int) : Prop :=
  a = c p - 97 ∧ (0 ≤ a ∧ a ≤ 4) ∧ c (p + 1) = 91 ∧ c (p + 2) = 105 ∧ ((c (p + 3) = 93 ∧ d = 0 ∧ p' = p + 4) ∨ (c (p + 3) = 43 ∧ isD (c (p + 4)) ∧ c (p + 5) = 93 ∧ d = c (p + 4) - 48 ∧ p' = p + 6) ∨ (c (p + 3) = 45 ∧ isD (c (p + 4)) ∧ c (p + 5) = 93 ∧ d = 48 - c (p + 4) ∧ p' = p + 6))
def rfB (c : Int → Int) (p f : Int) : Prop :=
  (¬ (97 ≤ c p ∧ c p ≤ 101) ∧ f = p) ∨ ((97 ≤ c p ∧ c p ≤ 101) ∧ ((c (p + 1) ≠ 91 ∧ f = p + 1) ∨ (c (p + 1) = 91 ∧ c (p + 2) ≠ 105 ∧ f = p + 2) ∨ (c (p + 1) = 91 ∧ c (p + 2) = 105 ∧
    ((c (p + 3) ≠ 43 ∧ c (p + 3) ≠ 45 ∧ c (p + 3) ≠ 93 ∧ f = p + 3) ∨ ((c (p + 3) = 43 ∨ c (p + 3) = 45) ∧ ¬ isD (c (p + 4)) ∧ f = p + 4) ∨ ((c (p + 3) = 43 ∨ c (p + 3) = 45) ∧ isD (c (p + 4)) ∧ c (p + 5) ≠ 93 ∧ f = p + 5)))))
theorem rfG_r {c : Int → Int} {p p' a d : Int} (h : rfG c p p' a d) : (0 ≤ a ∧ a ≤ 4) ∧ (-9 ≤ d ∧ d ≤ 9) ∧ p + 4 ≤ p' ∧ p' ≤ p + 6 := by
  unfold rfG isD at h
  omega
/-- rows as they are read -/
def tkV (s : Int) (v : Int → Int) (t : Int) : Int → Int := fun j => if j = 101 + s then v (101 + s) + 1 else if j = 105 + 120 * s + v (101 + s) then t else v j
def rfV (s : Int) (v : Int → Int) (a d w : Int) : Int → Int := fun j => if j = 4 then v 4 + 1 else if j = 77 + v 4 then s else if j = 53 + v 4 then w else if j = 29 + v 4 then d else if j = 5 + v 4 then a else v j
/-- what waits, is settled -/
def stA (s : Int) : List Int → (Int → Int) → List Int × (Int → Int)
  | [], v => ([], v)
  | x :: W, v => if x = 0 then (x :: W, v) else stA s W (tkV s v x)
def stT (s : Int) : List Int → (Int → Int) → List Int × (Int → Int)
  | [], v => ([], v)
  | x :: W, v => if x = 103 then stT s W (tkV s v x) else (x :: W, v)
def Fc (c : Int → Int) (s p rd : Int) (v : Int → Int) (p' rd' : Int) (v' : Int → Int) : Prop :=
  (isD (c p) ∧ p' = nP c p ∧ rd' = rd ∧ v' = tkV s v (nX c p)) ∨ (c p = 105 ∧ p' = p + 1 ∧ rd' = rd ∧ v' = tkV s v 100) ∨
  (rd < 5 ∧ rd' = rd + 1 ∧ ∃ a d, rfG c p p' a d ∧ v' = tkV s (rfV s v a d 0) (200 + v 4))
def Fb (c : Int → Int) (p rd f : Int) : Prop :=
  (¬ isD (c p) ∧ c p ≠ 105 ∧ ¬ (97 ≤ c p ∧ c p ≤ 101) ∧ f = p) ∨ ((97 ≤ c p ∧ c p ≤ 101) ∧ 5 ≤ rd ∧ f = p) ∨ ((97 ≤ c p ∧ c p ≤ 101) ∧ rd < 5 ∧ rfB c p f)
/-- a sum, sign by sign, from a state to its end: a fault, or a place and a row -/
def Fn (c : Int → Int) (s : Int) : Nat → Int → Bool → List Int → Int → Int → (Int → Int) → (Int ⊕ (Int × Int × (Int → Int))) → Prop
  | 0, _, _, _, _, _, _, _ => False
  | n + 1, p, true, W, o, rd, v, r => (c p = 40 ∧ o < 3 ∧ Fn c s n (p + 1) true (0 :: W) (o + 1) rd v r) ∨
    (¬ (c p = 40 ∧ o < 3) ∧ ∃ p' rd' v', Fc c s p rd v p' rd' v' ∧ Fn c s n p' false W o rd' v' r) ∨ (¬ (c p = 40 ∧ o < 3) ∧ ∃ f, Fb c p rd f ∧ r = .inl f)
  | n + 1, p, false, W, o, rd, v, r => (c p = 42 ∧ Fn c s n (p + 1) true (103 :: (stT s W v).1) o rd (stT s W v).2 r) ∨
    (c p = 43 ∧ Fn c s n (p + 1) true (101 :: (stA s W v).1) o rd (stA s W v).2 r) ∨ (c p = 45 ∧ Fn c s n (p + 1) true (102 :: (stA s W v).1) o rd (stA s W v).2 r) ∨
    (c p = 41 ∧ 0 < o ∧ Fn c s n (p + 1) false (stA s W v).1.tail (o - 1) rd (stA s W v).2 r) ∨
    ((c p ≠ 42 ∧ c p ≠ 43 ∧ c p ≠ 45 ∧ ¬ (c p = 41 ∧ 0 < o)) ∧ ((0 < o ∧ r = .inl p) ∨ (¬ (0 < o) ∧ r = .inr (p, rd, (stA s W v).2))))
def Fin (c : Int → Int) (s p : Int) (b : Bool) (W : List Int) (o rd : Int) (v : Int → Int) (r : Int ⊕ (Int × Int × (Int → Int))) : Prop := ∃ n, Fn c s n p b W o rd v r
section
variable {c : Int → Int} {s p o rd : Int} {W : List Int} {v : Int → Int} {r : Int ⊕ (Int × Int × (Int → Int))}
theorem Fin_opn (h1 : c p = 40) (h2 : o < 3) (h : Fin c s (p + 1) true (0 :: W) (o + 1) rd v r) : Fin c s p true W o rd v r := by
  obtain ⟨n, h⟩ := h; exact ⟨n + 1, Or.inl ⟨h1, h2, h⟩⟩
theorem Fin_fac {p' rd' : Int} {v' : Int → Int} (h1 : ¬ (c p = 40 ∧ o < 3)) (h2 : Fc c s p rd v p' rd' v') (h : Fin c s p' false W o rd' v' r) : Fin c s p true W o rd v r := by
  obtain ⟨n, h⟩ := h; exact ⟨n + 1, Or.inr (Or.inl ⟨h1, p', rd', v', h2, h⟩)⟩
theorem Fin_bad {f : Int} (h1 : ¬ (c p = 40 ∧ o < 3)) (h2 : Fb c p rd f) : Fin c s p true W o rd v (.inl f) := ⟨1, Or.inr (Or.inr ⟨h1, f, h2, rfl⟩)⟩
theorem Fin_mul (h1 : c p = 42) (h : Fin c s (p + 1) true (103 :: (stT s W v).1) o rd (stT s W v).2 r) : Fin c s p false W o rd v r := by
  obtain ⟨n, h⟩ := h; exact ⟨n + 1, Or.inl ⟨h1, h⟩⟩
theorem Fin_pls (h1 : c p = 43) (h : Fin c s (p + 1) true (101 :: (stA s W v).1) o rd (stA s W v).2 r) : Fin c s p false W o rd v r := by
  obtain ⟨n, h⟩ := h; exact ⟨n + 1, Or.inr (Or.inl ⟨h1, h⟩)⟩
theorem Fin_mns (h1 : c p = 45) (h : Fin c s (p + 1) true (102 :: (stA s W v).1) o rd (stA s W v).2 r) : Fin c s p false W o rd v r := by
  obtain ⟨n, h⟩ := h; exact ⟨n + 1, Or.inr (Or.inr (Or.inl ⟨h1, h⟩))⟩
theorem Fin_cls (h1 : c p = 41) (h2 : 0 < o) (h : Fin c s (p + 1) false (stA s W v).1.tail (o - 1) rd (stA s W v).2 r) : Fin c s p false W o rd v r := by
  obtain ⟨n, h⟩ := h; exact ⟨n + 1, Or.inr (Or.inr (Or.inr (Or.inl ⟨h1, h2, h⟩)))⟩
theorem Fin_enB (h : c p ≠ 42 ∧ c p ≠ 43 ∧ c p ≠ 45 ∧ c p ≠ 41) (h2 : 0 < o) : Fin c s p false W o rd v (.inl p) := ⟨1, Or.inr (Or.inr (Or.inr (Or.inr ⟨⟨h.1, h.2.1, h.2.2.1, fun q => h.2.2.2 q.1⟩, Or.inl ⟨h2, rfl⟩⟩)))⟩
theorem Fin_enG (h : c p ≠ 42 ∧ c p ≠ 43 ∧ c p ≠ 45) (h2 : ¬ 0 < o) : Fin c s p false W o rd v (.inr (p, rd, (stA s W v).2)) := ⟨1, Or.inr (Or.inr (Or.inr (Or.inr ⟨⟨h.1, h.2.1, h.2.2, fun q => h2 q.2⟩, Or.inr ⟨h2, rfl⟩⟩)))⟩
end
theorem stA_c {s x : Int} {W : List Int} {v : Int → Int} (h : x ≠ 0) : stA s (x :: W) v = stA s W (tkV s v x) := by
  simp only [stA, if_neg h]
theorem stT_c {s : Int} {W : List Int} {v : Int → Int} : stT s (103 :: W) v = stT s W (tkV s v 103) := by
  simp only [stT, ↓reduceIte]
theorem Fin_L1 {c : Int → Int} {s p o rd : Int} {W : List Int} {v : Int → Int} {r} (h : Fin c s p false W o rd (tkV s v 103) r) : Fin c s p false (103 :: W) o rd v r := by
  have e := stA_c (s := s) (W := W) (v := v) (x := 103) (by decide)
  have e2 := stT_c (s := s) (W := W) (v := v)
  obtain ⟨n, h⟩ := h
  refine ⟨n, ?_⟩
  match n, h with
  | n + 1, h =>
    unfold Fn at h ⊢
    rw [e, e2]
    exact h
theorem Fin_L2 {c : Int → Int} {s p o rd x : Int} {W : List Int} {v : Int → Int} {r} (hx : x ≠ 0) (hc : c p ≠ 42) (h : Fin c s p false W o rd (tkV s v x) r) : Fin c s p false (x :: W) o rd v r := by
  have e := stA_c (s := s) (W := W) (v := v) hx
  obtain ⟨n, h⟩ := h
  refine ⟨n, ?_⟩
  match n, h with
  | n + 1, h =>
    unfold Fn at h ⊢
    rw [e]
    rcases h with h | h
    · exact absurd h.1 hc
    · exact Or.inr h
/-! what stays true of a row -/
def RFo (v : Int → Int) (s : Int) : Prop :=
  (∀ r, 0 ≤ r → r < v 4 → (0 ≤ v (5 + r) ∧ v (5 + r) ≤ 4) ∧ (-9 ≤ v (29 + r) ∧ v (29 + r) ≤ 9) ∧ (v (53 + r) = 0 ∨ v (53 + r) = 1) ∧ 0 ≤ v (77 + r) ∧ v (77 + r) ≤ s) ∧
  ∃ rs : Int → Int, (∀ j, 0 ≤ j → j < s → 0 ≤ rs j ∧ rs j < v 4 ∧ v (53 + rs j) = 1 ∧ v (77 + rs j) = j) ∧ (∀ j, 0 ≤ j → j + 1 < s → rs j < rs (j + 1)) ∧ (∀ r, 0 ≤ r → r < v 4 → v (53 + r) = 1 → v (77 + r) < s ∧ r = rs (v (77 + r)))
def TKo (v : Int → Int) (s : Int) : Prop :=
  (0 ≤ v (101 + s) ∧ v (101 + s) ≤ 120) ∧ ∀ k, 0 ≤ k → k < v (101 + s) → (0 ≤ v ((105 + 120 * s) + k) ∧ v ((105 + 120 * s) + k) ≤ 103) ∨ (200 ≤ v ((105 + 120 * s) + k) ∧ v ((105 + 120 * s) + k) < 200 + v 4)
def HTo (v : Int → Int) (s : Int) (st : List Int) : Prop := hgN v s (v (101 + s)) = some st ∧ ∀ x ∈ st, 0 ≤ x ∧ x ≤ v (101 + s)
theorem hgN_co {v v' : Int → Int} {s k : Int} (h : ∀ j, 0 ≤ j → j < k → v' ((105 + 120 * s) + j) = v ((105 + 120 * s) + j)) : hgN v' s k = hgN v s k := ni_congr (fun j x j0 j1 => by rw [h j j0 j1])
theorem cnN_co {v v' : Int → Int} {s q k : Int} (h : ∀ j, 0 ≤ j → j < k → v' ((105 + 120 * s) + j) = v ((105 + 120 * s) + j)) : cnN v' s q k = cnN v s q k := ni_congr (fun j x j0 j1 => by rw [h j j0 j1])
theorem RFo_cg {v v' : Int → Int} {s : Int} (h4 : v 4 ≤ 24) (h : ∀ j, 4 ≤ j → j < 101 → v' j = v j) (hv : RFo v s) : RFo v' s := by
  obtain ⟨h1, rs, h2, h3, h5⟩ := hv
  have e4 : v' 4 = v 4 := h 4 (by omega) (by omega)
  refine ⟨fun r r0 r1 => ?_, rs, fun j j0 j1 => ?_, h3, fun r r0 r1 hw => ?_⟩
  · rw [e4] at r1
    rw [h _ (by omega) (by omega), h _ (by omega) (by omega), h _ (by omega) (by omega), h _ (by omega) (by omega)]
    exact h1 r r0 r1
  · obtain ⟨g1, g2, g3, g4⟩ := h2 j j0 j1
    rw [e4, h _ (by omega) (by omega), h _ (by omega) (by omega)]
    exact ⟨g1, g2, g3, g4⟩
  · rw [e4] at r1
    rw [h _ (by omega) (by omega)] at hw ⊢
    exact h5 r r0 r1 hw
theorem TKo_cg {v v' : Int → Int} {s : Int} (h4 : v 4 ≤ v' 4) (h1 : v' (101 + s) = v (101 + s)) (h : ∀ k, 0 ≤ k → k < v (101 + s) → v' ((105 + 120 * s) + k) = v ((105 + 120 * s) + k)) (hv : TKo v s) : TKo v' s := by
  refine ⟨by rw [h1]; exact hv.1, fun k k0 k1 => ?_⟩
  rw [h1] at k1
  rw [h k k0 k1]
  have := hv.2 k k0 k1
  omega
theorem HTo_cg {v v' : Int → Int} {s : Int} {st : List Int} (h1 : v' (101 + s) = v (101 + s)) (h : ∀ k, 0 ≤ k → k < v (101 + s) → v' ((105 + 120 * s) + k) = v ((105 + 120 * s) + k)) (hv : HTo v s st) : HTo v' s st := by
  unfold HTo at *
  rw [h1, hgN_co h]
  exact hv
/-- a row while statement s is read; e bounds its signs and what waits -/
def PI (v : Int → Int) (s e f0 rd : Int) (st : List Int) : Prop :=
  (0 ≤ s ∧ s ≤ 3 ∧ v 3 = s) ∧ (0 ≤ rd ∧ rd ≤ 5) ∧ (0 ≤ v 4 ∧ v 4 ≤ 6 * s + rd) ∧ (0 ≤ f0 ∧ f0 + v (101 + s) + st.length ≤ e ∧ e ≤ 121) ∧
  RFo v s ∧ (∀ j, 0 ≤ j → j < s → TKo v j ∧ ∃ h, HTo v j [h]) ∧ (TKo v s ∧ HTo v s st) ∧ (∀ j, s < j → j < 4 → v (101 + j) = 0)
set_option maxHeartbeats 4000000 in
set_option maxRecDepth 100000 in
theorem PI_tk {v : Int → Int} {s p p' f0 rd t : Int} {st st' : List Int} (h : PI v s p f0 rd st) (hp : f0 + (v (101 + s) + 1) + st'.length ≤ p' ∧ p' ≤ 121) (ht : (0 ≤ t ∧ t ≤ 103) ∨ (200 ≤ t ∧ t < 200 + v 4)) (hs : hst (some st) t = some st') : PI (tkV s v t) s p' f0 rd st' := by
  obtain ⟨⟨s0, s1, s2⟩, hrd, h4, hf, hR, hC, ⟨hT, hH⟩, hZ⟩ := h
  have hn := hT.1
  have hl1 : 1 ≤ st'.length := by
    by_cases q : 101 ≤ t ∧ t ≤ 103
    · obtain ⟨b, a, r, rfl, rfl⟩ := hst_op q hs
      simp
    · obtain ⟨_, rfl⟩ := hst_va q hs
      simp
  have e4 : tkV s v t 4 = v 4 := by unfold tkV; rw [if_neg (by omega), if_neg (by omega)]
  have e1 : tkV s v t (101 + s) = v (101 + s) + 1 := by unfold tkV; rw [if_pos rfl]
  have lo : ∀ j, j < 101 → tkV s v t j = v j := fun j hj => by unfold tkV; rw [if_neg (by omega), if_neg (by omega)]
  have cn : ∀ j, 0 ≤ j → j < 4 → j ≠ s → tkV s v t (101 + j) = v (101 + j) := fun j j0 j1 j2 => by unfold tkV; rw [if_neg (by omega), if_neg (by omega)]
  have tk : ∀ j k, 0 ≤ j → j < s → 0 ≤ k → k < 120 → tkV s v t ((105 + 120 * j) + k) = v ((105 + 120 * j) + k) := fun j k j0 j1 k0 k1 => by unfold tkV; rw [if_neg (by omega), if_neg (by omega)]
  have tks : ∀ k, 0 ≤ k → k < v (101 + s) → tkV s v t ((105 + 120 * s) + k) = v ((105 + 120 * s) + k) := fun k k0 k1 => by unfold tkV; rw [if_neg (by omega), if_neg (by omega)]
  have tkn : tkV s v t ((105 + 120 * s) + v (101 + s)) = t := by unfold tkV; rw [if_neg (by omega), if_pos rfl]
  refine ⟨⟨s0, s1, by rw [lo 3 (by omega)]; exact s2⟩, hrd, by rw [e4]; exact h4, by rw [e1]; omega, RFo_cg (by omega) (fun j _ j1 => lo j j1) hR, fun j j0 j1 => ?_, ⟨⟨by rw [e1]; omega, fun k k0 k1 => ?_⟩, ?_, fun x hx => ?_⟩, fun j j0 j1 => ?_⟩
  · obtain ⟨g1, hh, g2⟩ := hC j j0 j1
    have gl := g1.1
    exact ⟨TKo_cg (by omega) (cn j j0 (by omega) (by omega)) (fun k k0 k1 => tk j k j0 j1 k0 (by omega)) g1, hh, HTo_cg (cn j j0 (by omega) (by omega)) (fun k k0 k1 => tk j k j0 j1 k0 (by omega)) g2⟩
  · rw [e1] at k1
    rw [e4]
    by_cases q : k = v (101 + s)
    · rw [q, tkn]; exact ht
    · rw [tks k k0 (by omega)]; exact hT.2 k k0 (by omega)
  · rw [e1, hgN_s (by omega), hgN_co tks, hH.1, tkn]; exact hs
  · rw [e1]
    by_cases q : 101 ≤ t ∧ t ≤ 103
    · obtain ⟨b, a, r, rfl, rfl⟩ := hst_op q hs
      have hb := hH.2 b (by simp)
      have ha := hH.2 a (by simp)
      rcases List.mem_cons.mp hx with e | e
      · rw [e]; omega
      · have := hH.2 x (by simp [e]); omega
    · obtain ⟨_, rfl⟩ := hst_va q hs
      rcases List.mem_cons.mp hx with e | e
      · rw [e]; omega
      · have := hH.2 x e; omega
  · rw [cn j (by omega) j1 (by omega)]; exact hZ j j0 j1
set_option maxHeartbeats 4000000 in
set_option maxRecDepth 100000 in
theorem PI_rf {v : Int → Int} {s p f0 rd a d : Int} {st : List Int} (h : PI v s p f0 rd st) (hr : rd < 5) (ha : 0 ≤ a ∧ a ≤ 4) (hd : -9 ≤ d ∧ d ≤ 9) : PI (rfV s v a d 0) s p f0 (rd + 1) st ∧ rfV s v a d 0 4 = v 4 + 1 := by
  obtain ⟨⟨s0, s1, s2⟩, hrd, h4, hf, hR, hC, ⟨hT, hH⟩, hZ⟩ := h
  have e4 : rfV s v a d 0 4 = v 4 + 1 := by unfold rfV; rw [if_pos rfl]
  have hi : ∀ j, 101 ≤ j → rfV s v a d 0 j = v j := fun j hj => by unfold rfV; rw [if_neg (by omega), if_neg (by omega), if_neg (by omega), if_neg (by omega), if_neg (by omega)]
  have e3 : rfV s v a d 0 3 = v 3 := by unfold rfV; rw [if_neg (by omega), if_neg (by omega), if_neg (by omega), if_neg (by omega), if_neg (by omega)]
  have o : ∀ B r, (B = 5 ∨ B = 29 ∨ B = 53 ∨ B = 77) → 0 ≤ r → r < v 4 → rfV s v a d 0 (B + r) = v (B + r) := fun B r hB r0 r1 => by unfold rfV; rw [if_neg (by omega), if_neg (by omega), if_neg (by omega), if_neg (by omega), if_neg (by omega)]
  have n5 : rfV s v a d 0 (5 + v 4) = a := by unfold rfV; rw [if_neg (by omega), if_neg (by omega), if_neg (by omega), if_neg (by omega), if_pos rfl]
  have n29 : rfV s v a d 0 (29 + v 4) = d := by unfold rfV; rw [if_neg (by omega), if_neg (by omega), if_neg (by omega), if_pos rfl]
  have n53 : rfV s v a d 0 (53 + v 4) = 0 := by unfold rfV; rw [if_neg (by omega), if_neg (by omega), if_pos rfl]
  have n77 : rfV s v a d 0 (77 + v 4) = s := by unfold rfV; rw [if_neg (by omega), if_pos rfl]
  refine ⟨⟨⟨s0, s1, by rw [e3]; exact s2⟩, by omega, by rw [e4]; omega, by rw [hi _ (by omega)]; exact hf, ⟨fun r r0 r1 => ?_, ?_⟩, fun j j0 j1 => ?_, ⟨?_, ?_⟩, fun j j0 j1 => by rw [hi _ (by omega)]; exact hZ j j0 j1⟩, e4⟩
  · rw [e4] at r1
    by_cases q : r = v 4
    · rw [q, n5, n29, n53, n77]; omega
    · rw [o 5 r (by omega) r0 (by omega), o 29 r (by omega) r0 (by omega), o 53 r (by omega) r0 (by omega), o 77 r (by omega) r0 (by omega)]
      exact hR.1 r r0 (by omega)
  · obtain ⟨_, rs, g1, g2, g3⟩ := hR
    refine ⟨rs, fun j j0 j1 => ?_, g2, fun r r0 r1 hw => ?_⟩
    · obtain ⟨k1, k2, k3, k4⟩ := g1 j j0 j1
      rw [e4, o 53 _ (by omega) k1 k2, o 77 _ (by omega) k1 k2]
      exact ⟨k1, by omega, k3, k4⟩
    · rw [e4] at r1
      by_cases q : r = v 4
      · rw [q, n53] at hw; omega
      · rw [o 53 r (by omega) r0 (by omega)] at hw
        rw [o 77 r (by omega) r0 (by omega)]
        exact g3 r r0 (by omega) hw
  · obtain ⟨g1, hh, g2⟩ := hC j j0 j1
    have gl := g1.1
    exact ⟨TKo_cg (by omega) (hi _ (by omega)) (fun k k0 k1 => hi _ (by omega)) g1, hh, HTo_cg (hi _ (by omega)) (fun k k0 k1 => hi _ (by omega)) g2⟩
  · exact TKo_cg (by omega) (hi _ (by omega)) (fun k k0 k1 => hi _ (by omega)) hT
  · exact HTo_cg (hi _ (by omega)) (fun k k0 k1 => hi _ (by omega)) hH
theorem PI_mono {v : Int → Int} {s e e' f0 rd : Int} {st : List Int} (h : PI v s e f0 rd st) (he : f0 + v (101 + s) + st.length ≤ e' ∧ e' ≤ 121) : PI v s e' f0 rd st :=
  ⟨h.1, h.2.1, h.2.2.1, ⟨h.2.2.2.1.1, he.1, he.2⟩, h.2.2.2.2⟩
theorem hst_v {st : List Int} {t : Int} (ht : ¬ (101 ≤ t ∧ t ≤ 103)) (hl : st.length < 9) : hst (some st) t = some (1 :: st) := by
  unfold hst
  simp only [if_neg ht, if_pos hl]
theorem hst_o {st : List Int} {t a b : Int} (ht : 101 ≤ t ∧ t ≤ 103) : hst (some (b :: a :: st)) t = some ((1 + max a b) :: st) := by
  unfold hst
  simp only [if_pos ht]
