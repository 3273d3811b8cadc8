/-! ===== expressions, operators behind their operands ===== -/
def hst (o : Option (List Int)) (t : Int) : Option (List Int) :=
  match o with
  | none => none
  | some st => if 101 ≤ t ∧ t ≤ 103 then (match st with
      | b :: a :: r => some ((1 + max a b) :: r)
      | _ => none) else (if st.length < 9 then some (1 :: st) else none)
def hgN (v : Int → Int) (s k : Int) : Option (List Int) := ni k (fun j o => hst o (v ((105 + 120 * s) + j))) (some [])
def apI (t : Int) (a b : Int32) : Int32 := if t = 101 then a + b else if t = 102 then a - b else a * b
def evst (val : Int → Int32) (st : List Int32) (t : Int) : List Int32 :=
  if 101 ≤ t ∧ t ≤ 103 then (match st with
    | b :: a :: r => apI t a b :: r
    | _ => st) else val t :: st
def valC (C : Nat → Int32) (v : Int → Int) (i t : Int) : Int32 := if t < 100 then zI t else if t = 100 then zI i else C (49 * v (5 + (t - 200)) + i + v (29 + (t - 200)) + 9).toNat
def evN (C : Nat → Int32) (v : Int → Int) (s i k : Int) : List Int32 := ni k (fun j st => evst (valC C v i) st (v ((105 + 120 * s) + j))) []
theorem hgN_0 {v : Int → Int} {s : Int} : hgN v s 0 = some [] := ni_0 (Int.le_refl 0)
theorem hgN_s {v : Int → Int} {s k : Int} (h : 0 ≤ k) : hgN v s (k + 1) = hst (hgN v s k) (v ((105 + 120 * s) + k)) := ni_s h
theorem evN_0 {C : Nat → Int32} {v : Int → Int} {s i : Int} : evN C v s i 0 = [] := ni_0 (Int.le_refl 0)
theorem evN_s {C : Nat → Int32} {v : Int → Int} {s i k : Int} (h : 0 ≤ k) : evN C v s i (k + 1) = evst (valC C v i) (evN C v s i k) (v ((105 + 120 * s) + k)) := ni_s h
theorem hst_some {o : Option (List Int)} {t : Int} {st : List Int} (h : hst o t = some st) : ∃ st0, o = some st0 := by
  cases o with
  | none => simp [hst] at h
  | some st0 => exact ⟨st0, rfl⟩
theorem hst_op {st st1 : List Int} {t : Int} (ht : 101 ≤ t ∧ t ≤ 103) (h : hst (some st) t = some st1) : ∃ b a r, st = b :: a :: r ∧ st1 = (1 + max a b) :: r := by
  unfold hst at h
  simp only [if_pos ht] at h
  match st, h with
  | b :: a :: r, h => exact ⟨b, a, r, rfl, (Option.some.inj h).symm⟩
  | [a], h => simp at h
  | [], h => simp at h
theorem hst_va {st st1 : List Int} {t : Int} (ht : ¬ (101 ≤ t ∧ t ≤ 103)) (h : hst (some st) t = some st1) : st.length < 9 ∧ st1 = 1 :: st := by
  unfold hst at h
  simp only [if_neg ht] at h
  by_cases q : st.length < 9
  · rw [if_pos q] at h; exact ⟨q, (Option.some.inj h).symm⟩
  · rw [if_neg q] at h; cases h
theorem hgN_pre {v : Int → Int} {s len : Int} {st : List Int} (h : hgN v s len = some st) : ∀ (d : Nat) (k : Int), k + d = len → 0 ≤ k → ∃ st, hgN v s k = some st := by
  intro d
  induction d with
  | zero => intro k hk _; exact ⟨st, by rw [show k = len by omega]; exact h⟩
  | succ d ih =>
    intro k hk h0
    obtain ⟨st1, e⟩ := ih (k + 1) (by omega) (by omega)
    rw [hgN_s h0] at e
    exact hst_some e
/-- one step of an expression -/
theorem hgN_at {v : Int → Int} {s len : Int} {st : List Int} (h : hgN v s len = some st) {k : Int} (h0 : 0 ≤ k) (hk : k < len) : ∃ st0 st1, hgN v s k = some st0 ∧ hgN v s (k + 1) = some st1 ∧ ((101 ≤ v ((105 + 120 * s) + k) ∧ v ((105 + 120 * s) + k) ≤ 103) → ∃ b a r, st0 = b :: a :: r ∧ st1 = (1 + max a b) :: r) ∧ (¬ (101 ≤ v ((105 + 120 * s) + k) ∧ v ((105 + 120 * s) + k) ≤ 103) → st0.length < 9 ∧ st1 = 1 :: st0) := by
  obtain ⟨st0, e0⟩ := hgN_pre h (len - k).toNat k (by omega) h0
  obtain ⟨st1, e1⟩ := hgN_pre h (len - (k + 1)).toNat (k + 1) (by omega) (by omega)
  have e := e1
  rw [hgN_s h0, e0] at e
  exact ⟨st0, st1, e0, e1, fun q => hst_op q e, fun q => hst_va q e⟩
theorem hgN_le {v : Int → Int} {s : Int} : ∀ (d : Nat) (st : List Int), hgN v s d = some st → st.length ≤ 9 := by
  intro d
  induction d with
  | zero => intro st e; rw [show ((0 : Nat) : Int) = 0 from rfl, hgN_0] at e; cases e; simp
  | succ d ih =>
    intro st e
    rw [show ((d + 1 : Nat) : Int) = (d : Int) + 1 by omega, hgN_s (by omega)] at e
    obtain ⟨st0, e0⟩ := hst_some e
    rw [e0] at e
    have h0 := ih st0 e0
    by_cases q : 101 ≤ v ((105 + 120 * s) + d) ∧ v ((105 + 120 * s) + d) ≤ 103
    · obtain ⟨b, a, r, e3, e4⟩ := hst_op q e
      subst e3 e4
      simp at h0 ⊢
      omega
    · obtain ⟨h1, e4⟩ := hst_va q e
      subst e4
      simp
      omega
theorem evst_op {val : Int → Int32} {t : Int} (ht : 101 ≤ t ∧ t ≤ 103) {b a : Int32} {r : List Int32} : evst val (b :: a :: r) t = apI t a b :: r := by
  unfold evst
  rw [if_pos ht]
theorem evst_va {val : Int → Int32} {t : Int} (ht : ¬ (101 ≤ t ∧ t ≤ 103)) {st : List Int32} : evst val st t = val t :: st := by
  unfold evst
  rw [if_neg ht]
theorem evN_len {C : Nat → Int32} {v : Int → Int} {s i len : Int} {st : List Int} (h : hgN v s len = some st) : ∀ (d : Nat) (hs : List Int), (d : Int) ≤ len → hgN v s d = some hs → (evN C v s i d).length = hs.length := by
  intro d
  induction d with
  | zero => intro hs _ e; rw [show ((0 : Nat) : Int) = 0 from rfl, hgN_0] at e; cases e; rw [show ((0 : Nat) : Int) = 0 from rfl, evN_0]; rfl
  | succ d ih =>
    intro hs hd e
    obtain ⟨st0, st1, e0, e1, ho, hv⟩ := hgN_at h (k := (d : Int)) (by omega) (by omega)
    have e2 : st1 = hs := by
      rw [show ((d + 1 : Nat) : Int) = (d : Int) + 1 by omega, e1] at e
      exact Option.some.inj e
    subst e2
    have hl := ih st0 (by omega) e0
    rw [show ((d + 1 : Nat) : Int) = (d : Int) + 1 by omega, evN_s (by omega)]
    by_cases q : 101 ≤ v ((105 + 120 * s) + d) ∧ v ((105 + 120 * s) + d) ≤ 103
    · obtain ⟨b, a, r, e3, e4⟩ := ho q
      subst e3 e4
      match hh : evN C v s i d, hl with
      | y :: x :: u, hl => rw [evst_op q]; simpa using hl
      | [x], hl => simp at hl
      | [], hl => simp at hl
    · obtain ⟨_, e4⟩ := hv q
      subst e4
      rw [evst_va q]
      simp [hl]
/-- a stack in memory, its top first -/
def skI (f : Nat → Int32) : List Int32 → Prop
  | [] => True
  | x :: r => f r.length = x ∧ skI f r
theorem skI_congr {f g : Nat → Int32} : ∀ st : List Int32, (∀ j, j < st.length → g j = f j) → skI f st → skI g st
  | [], _, _ => trivial
  | x :: r, h, hs => ⟨(h r.length (by simp)).trans hs.1, skI_congr r (fun j hj => h j (by simp; omega)) hs.2⟩
def skZ (f : Nat → Int32) : List Int → Prop
  | [] => True
  | x :: r => f r.length = zI x ∧ skZ f r
theorem skZ_congr {f g : Nat → Int32} : ∀ st : List Int, (∀ j, j < st.length → g j = f j) → skZ f st → skZ g st
  | [], _, _ => trivial
  | x :: r, h, hs => ⟨(h r.length (by simp)).trans hs.1, skZ_congr r (fun j hj => h j (by simp; omega)) hs.2⟩
/-- how many operators of a sort -/
def cnN (v : Int → Int) (s q k : Int) : Int := ni k (fun j c => if v ((105 + 120 * s) + j) = 101 + q then c + 1 else c) 0
theorem cnN_0 {v : Int → Int} {s q : Int} : cnN v s q 0 = 0 := ni_0 (Int.le_refl 0)
theorem cnN_s {v : Int → Int} {s q k : Int} (h : 0 ≤ k) : cnN v s q (k + 1) = if v ((105 + 120 * s) + k) = 101 + q then cnN v s q k + 1 else cnN v s q k := ni_s h
theorem cnN_in {v : Int → Int} {s q k : Int} (h : 0 ≤ k) : 0 ≤ cnN v s q k ∧ cnN v s q k ≤ k := by
  unfold cnN
  exact ni_inv (P := fun j x => 0 ≤ x ∧ x ≤ j) ⟨by omega, by omega⟩ h (fun j x h1 h2 hx => by
    show 0 ≤ (if _ then x + 1 else x) ∧ (if _ then x + 1 else x) ≤ j + 1
    by_cases q2 : v ((105 + 120 * s) + j) = 101 + q
    · rw [if_pos q2]; omega
    · rw [if_neg q2]; omega)
/-! ===== what a loop is: a row of 585 ints ===== -/
def OKb (v : Int → Int) : Prop :=
  (1 ≤ v 3 ∧ v 3 ≤ 4 ∧ 0 ≤ v 4 ∧ v 4 ≤ 24) ∧
  (∀ r, 0 ≤ r → r < v 4 → (0 ≤ v (5 + r) ∧ v (5 + r) ≤ 4) ∧ (-9 ≤ v (29 + r) ∧ v (29 + r) ≤ 9) ∧ (v (53 + r) = 0 ∨ v (53 + r) = 1) ∧ 0 ≤ v (77 + r) ∧ v (77 + r) < v 3) ∧
  (∀ s, 0 ≤ s → s < v 3 → (0 ≤ v (101 + s) ∧ v (101 + s) ≤ 120) ∧ (∃ h, (0 ≤ h ∧ h ≤ 1000) ∧ hgN v s (v (101 + s)) = some [h]) ∧
    ∀ k, 0 ≤ k → k < v (101 + s) → (0 ≤ v ((105 + 120 * s) + k) ∧ v ((105 + 120 * s) + k) ≤ 103) ∨ (200 ≤ v ((105 + 120 * s) + k) ∧ v ((105 + 120 * s) + k) < 200 + v 4)) ∧
  ∃ rs : Int → Int, (∀ s, 0 ≤ s → s < v 3 → 0 ≤ rs s ∧ rs s < v 4 ∧ v (53 + rs s) = 1 ∧ v (77 + rs s) = s) ∧ (∀ s, 0 ≤ s → s + 1 < v 3 → rs s < rs (s + 1)) ∧ (∀ r, 0 ≤ r → r < v 4 → v (53 + r) = 1 → r = rs (v (77 + r)))
def OKL (v : Int → Int) : Prop := (0 ≤ v 0 ∧ v 0 ≤ v 1 ∧ v 1 ≤ 30 ∧ (v 2 = 0 ∨ v 2 = 1)) ∧ OKb v
/-- a reference's place for i = 0 -/
def plc (v : Int → Int) (r : Int) : Int := 49 * v (5 + r) + (v (29 + r) + 9)
def tkR (kd dt : Int32) (v : Int → Int) (t : Int) : Prop :=
  (0 ≤ t ∧ t < 100 ∧ kd = zI 3 ∧ dt = zI t) ∨ (t = 100 ∧ kd = zI 4) ∨ (101 ≤ t ∧ t ≤ 103 ∧ kd = zI (t - 101)) ∨ (200 ≤ t ∧ t < 200 + v 4 ∧ kd = zI 5 ∧ dt = zI (plc v (t - 200)))
/-- a statement of a Body -/
def BRs (M : jM) (b : Nat) (v : Int → Int) (s : Int) : Prop :=
  ∃ f h r : Int, (0 ≤ f ∧ f + v (101 + s) ≤ 120) ∧ (0 ≤ r ∧ r < v 4 ∧ v (53 + r) = 1 ∧ v (77 + r) = s) ∧ hgN v s (v (101 + s)) = some [h] ∧
    (M 7 (4 * b + s.toNat) 1 = zI f ∧ M 7 (4 * b + s.toNat) 2 = zI (f + v (101 + s)) ∧ M 7 (4 * b + s.toNat) 4 = zI h ∧ M 7 (4 * b + s.toNat) 5 = zI (plc v r)) ∧
    (∀ q, 0 ≤ q → q ≤ 2 → M 26 (4 * b + s.toNat) q.toNat = zI (cnN v s q (v (101 + s)))) ∧
    ∀ k, 0 ≤ k → k < v (101 + s) → tkR (M 24 b (f + k).toNat) (M 25 b (f + k).toNat) v (v ((105 + 120 * s) + k))
/-- a Body -/
def BR (M : jM) (b : Nat) (v : Int → Int) : Prop :=
  (M 0 b 6 = zI (v 4) ∧ M 0 b 7 = zI (v 3)) ∧
  (∀ r, 0 ≤ r → r < v 4 → M 20 b r.toNat = zI (plc v r) ∧ M 21 b r.toNat = zI (v (53 + r)) ∧ M 22 b r.toNat = zI (v (77 + r))) ∧
  ∀ s, 0 ≤ s → s < v 3 → BRs M b v s
def OPT (o : Int → Int) : Prop := (0 ≤ o 0 ∧ o 0 ≤ 20) ∧ (0 ≤ o 1 ∧ o 1 ≤ 9) ∧ -2147483648 ≤ o 2 ∧ o 2 < 2147483648
/-- a loop of the class -/
def LR (M : jM) (x : Nat) (v : Int → Int) : Prop := (M 3 x 1 = zI (v 0) ∧ M 3 x 2 = zI (v 1) ∧ M 3 x 3 = zI (v 2)) ∧ ∃ b : Nat, b < jnb M ∧ M 3 x 0 = zI (b : Int) ∧ BR M b v
/-- a program of the class -/
def PR (M : jM) (P : Nat) (n : Int) (w : Int → Int → Int) (o : Int → Int) : Prop :=
  M 6 P 2 = zI n ∧ (M 40 P 0 = zI (o 0) ∧ M 40 P 1 = zI (o 1) ∧ M 40 P 2 = zI (o 2)) ∧ ∀ l, 0 ≤ l → l < n → LR M (6 * P + l.toNat) (w l)
/-- what is true of loops and options -/
def GH (n : Int) (w : Int → Int → Int) (o : Int → Int) : Prop := (0 ≤ n ∧ n ≤ 6) ∧ OPT o ∧ ∀ l, 0 ≤ l → l < n → OKL (w l)
/-- loops and options of the reference -/
def MR (M : jM) (n : Int) (w : Int → Int → Int) (o : Int → Int) : Prop :=
  M 11 0 0 = zI n ∧ (M 51 0 0 = zI (o 0) ∧ M 51 0 1 = zI (o 1) ∧ M 51 0 2 = zI (o 2)) ∧ ∀ l j, 0 ≤ l → l < n → 0 ≤ j → j < 585 → M 50 0 (585 * l + j).toNat = zI (w l j)
theorem PR_fr {M M1 : jM} {P : Nat} {n : Int} {w : Int → Int → Int} {o : Int → Int} (h : PR M P n w o) (h0 : M1 0 = M 0) (h3 : M1 3 = M 3) (h6 : M1 6 P 2 = M 6 P 2) (h7 : M1 7 = M 7) (h20 : M1 20 = M 20) (h21 : M1 21 = M 21) (h22 : M1 22 = M 22) (h24 : M1 24 = M 24) (h25 : M1 25 = M 25) (h26 : M1 26 = M 26) (h40 : M1 40 = M 40) (hn : jnb M1 = jnb M) : PR M1 P n w o := by
  unfold PR LR BR BRs at *
  rw [h0, h3, h6, h7, h20, h21, h22, h24, h25, h26, h40, hn]
  exact h
theorem MR_fr {M M1 : jM} {n : Int} {w : Int → Int → Int} {o : Int → Int} (h : MR M n w o) (h0 : M1 11 0 0 = M 11 0 0) (h50 : M1 50 = M 50) (h51 : M1 51 = M 51) : MR M1 n w o := by
  unfold MR at *
  rw [h0, h50, h51]
  exact h
