/-! ===== sets of ends of groups ===== -/
def sbit (S x : Int) : Bool := S.toNat.testBit x.toNat
def eS (S n f : Int) : Int := ni (n - f) (fun _ x => if x + 1 < n ∧ sbit S x = false then x + 1 else x) f
/-- the size of the group that begins with f -/
def zS (S n f : Int) : Int := eS S n f - f + 1
def isE (S n f e : Int) : Prop := f ≤ e ∧ e < n ∧ (∀ x, f ≤ x → x < e → sbit S x = false) ∧ (e + 1 = n ∨ sbit S e = true)
theorem isE_u {S n f e e' : Int} (h : isE S n f e) (h' : isE S n f e') : e = e' := by
  obtain ⟨a1, a2, a3, a4⟩ := h
  obtain ⟨b1, b2, b3, b4⟩ := h'
  by_cases q : e < e'
  · rcases a4 with a4 | a4
    · omega
    · rw [b3 e a1 q] at a4; cases a4
  · by_cases q2 : e' < e
    · rcases b4 with b4 | b4
      · omega
      · rw [a3 e' b1 q2] at b4; cases b4
    · omega
theorem eS_is {S n f : Int} (h : f < n) : isE S n f (eS S n f) := by
  have main : ∀ d : Nat, (d : Int) ≤ n - f → ∃ e, e = ni (d : Int) (fun _ x => if x + 1 < n ∧ sbit S x = false then x + 1 else x) f ∧ f ≤ e ∧ e < n ∧ (∀ x, f ≤ x → x < e → sbit S x = false) ∧ ((e + 1 = n ∨ sbit S e = true) ∨ e = f + d) := by
    intro d
    induction d with
    | zero => intro _; exact ⟨f, (ni_0 (Int.le_refl 0)).symm, by omega, h, fun x h1 h2 => by omega, Or.inr (by omega)⟩
    | succ d ih =>
      intro hd
      obtain ⟨e, e0, e1, e2, e3, e4⟩ := ih (by omega)
      rw [show ((d + 1 : Nat) : Int) = (d : Int) + 1 by omega, ni_s (by omega), ← e0]
      by_cases q : e + 1 < n ∧ sbit S e = false
      · rw [if_pos q]
        refine ⟨e + 1, rfl, by omega, q.1, fun x h1 h2 => ?_, Or.inr ?_⟩
        · by_cases q2 : x = e
          · rw [q2]; exact q.2
          · exact e3 x h1 (by omega)
        · rcases e4 with (e4 | e4) | e4
          · omega
          · rw [q.2] at e4; cases e4
          · omega
      · rw [if_neg q]
        refine ⟨e, rfl, e1, e2, e3, Or.inl ?_⟩
        by_cases q2 : e + 1 = n
        · exact Or.inl q2
        · right
          cases hb : sbit S e with
          | true => rfl
          | false => exact absurd ⟨by omega, hb⟩ q
  obtain ⟨e, e0, e1, e2, e3, e4⟩ := main (n - f).toNat (by omega)
  rw [show ((n - f).toNat : Int) = n - f by omega] at e0 e4
  have : eS S n f = e := e0.symm
  rw [this]
  refine ⟨e1, e2, e3, ?_⟩
  rcases e4 with e4 | e4
  · exact e4
  · omega
theorem zS_ok {S n : Int} : zok (zS S n) n := by
  intro f h0 hf
  have := eS_is (S := S) hf
  unfold zS
  have := this.1
  have := (eS_is (S := S) hf).2.1
  omega
/-- the set of an arrangement -/
def isSet (S : Int) (z : Int → Int) (n T : Int) : Prop := (0 ≤ S ∧ S < 32) ∧ ∀ x, 0 ≤ x → x + 1 < n → (sbit S x = true ↔ ∃ j, 1 ≤ j ∧ j < T ∧ gs z j = x + 1)
theorem isSet_ag {S n T : Int} {z : Int → Int} (hz : zok z n) (hn : 0 ≤ n) (hT : isNG z n T) (hS : isSet S z n T) : ∀ d : Nat, (d : Int) ≤ T → gs (zS S n) d = gs z d := by
  intro d
  induction d with
  | zero => intro _; rw [show ((0 : Nat) : Int) = 0 from rfl, gs_0, gs_0]
  | succ d ih =>
    intro hd
    rw [show ((d + 1 : Nat) : Int) = (d : Int) + 1 by omega, gs_s (by omega), gs_s (by omega), ih (by omega)]
    have b1 := gs_at hz hn hT (show 0 ≤ (d : Int) by omega) (by omega)
    have b2 := hT.2.2 d (by omega) (by omega)
    have b3 := hz _ b1.1 b2
    have b4 := gs_s (z := z) (j := (d : Int)) (by omega)
    have e : eS S n (gs z d) = gs z d + z (gs z d) - 1 := by
      refine isE_u (eS_is b2) ⟨by omega, by omega, fun x h1 h2 => ?_, ?_⟩
      · cases hb : sbit S x with
        | false => rfl
        | true =>
          obtain ⟨j, j1, j2, j3⟩ := (hS.2 x (by omega) (by omega)).mp hb
          by_cases q : j ≤ d
          · have := gs_mono hz hn hT (show 0 ≤ j by omega) ((d : Int) - j).toNat (by omega)
            rw [show j + (((d : Int) - j).toNat : Int) = d by omega] at this
            omega
          · have := gs_mono hz hn hT (show 0 ≤ (d : Int) + 1 by omega) (j - (d + 1)).toNat (by omega)
            rw [show (d : Int) + 1 + ((j - (d + 1)).toNat : Int) = j by omega] at this
            omega
      · by_cases q : (d : Int) + 1 = T
        · left
          have := hT.2.1
          rw [← q] at this
          omega
        · right
          have b5 := hT.2.2 ((d : Int) + 1) (by omega) (by omega)
          exact (hS.2 (gs z d + z (gs z d) - 1) (by omega) (by omega)).mpr ⟨(d : Int) + 1, by omega, by omega, by omega⟩
    unfold zS
    rw [e]
    omega
theorem isSet_gs {S n T j : Int} {z : Int → Int} (hz : zok z n) (hn : 0 ≤ n) (hT : isNG z n T) (hS : isSet S z n T) (h0 : 0 ≤ j) (hj : j ≤ T) : gs (zS S n) j = gs z j := by
  have := isSet_ag hz hn hT hS j.toNat (by omega)
  rw [show (j.toNat : Int) = j by omega] at this
  exact this
theorem isSet_NG {S n T : Int} {z : Int → Int} (hz : zok z n) (hn : 0 ≤ n) (hT : isNG z n T) (hS : isSet S z n T) : isNG (zS S n) n T :=
  ⟨hT.1, by rw [isSet_gs hz hn hT hS hT.1 (Int.le_refl T)]; exact hT.2.1, fun j h0 hj => by rw [isSet_gs hz hn hT hS h0 (by omega)]; exact hT.2.2 j h0 hj⟩
/-- the set with given ends -/
def mkS (P : Int → Bool) : Int := (if P 0 then 1 else 0) + (if P 1 then 2 else 0) + (if P 2 then 4 else 0) + (if P 3 then 8 else 0) + (if P 4 then 16 else 0)
theorem mkS_bit (P : Int → Bool) : (0 ≤ mkS P ∧ mkS P < 32) ∧ ∀ x, 0 ≤ x → x < 5 → sbit (mkS P) x = P x := by
  have h : ∀ b0 b1 b2 b3 b4 : Bool, ((0 : Int) ≤ (if b0 then 1 else 0) + (if b1 then 2 else 0) + (if b2 then 4 else 0) + (if b3 then 8 else 0) + (if b4 then 16 else 0) ∧ (if b0 then 1 else 0) + (if b1 then 2 else 0) + (if b2 then 4 else 0) + (if b3 then 8 else 0) + (if b4 then 16 else 0) < (32 : Int)) ∧
      sbit ((if b0 then 1 else 0) + (if b1 then 2 else 0) + (if b2 then 4 else 0) + (if b3 then 8 else 0) + (if b4 then 16 else 0)) 0 = b0 ∧ sbit ((if b0 then 1 else 0) + (if b1 then 2 else 0) + (if b2 then 4 else 0) + (if b3 then 8 else 0) + (if b4 then 16 else 0)) 1 = b1 ∧ sbit ((if b0 then 1 else 0) + (if b1 then 2 else 0) + (if b2 then 4 else 0) + (if b3 then 8 else 0) + (if b4 then 16 else 0)) 2 = b2 ∧ sbit ((if b0 then 1 else 0) + (if b1 then 2 else 0) + (if b2 then 4 else 0) + (if b3 then 8 else 0) + (if b4 then 16 else 0)) 3 = b3 ∧ sbit ((if b0 then 1 else 0) + (if b1 then 2 else 0) + (if b2 then 4 else 0) + (if b3 then 8 else 0) + (if b4 then 16 else 0)) 4 = b4 := by decide +kernel
  obtain ⟨h0, h1, h2, h3, h4, h5⟩ := h (P 0) (P 1) (P 2) (P 3) (P 4)
  refine ⟨h0, fun x hx1 hx2 => ?_⟩
  rcases (show x = 0 ∨ x = 1 ∨ x = 2 ∨ x = 3 ∨ x = 4 by omega) with q | q | q | q | q
  · rw [q]; exact h1
  · rw [q]; exact h2
  · rw [q]; exact h3
  · rw [q]; exact h4
  · rw [q]; exact h5
noncomputable def chS (z : Int → Int) (n T : Int) : Int := mkS (fun x => @decide (x + 1 < n ∧ ∃ j, 1 ≤ j ∧ j < T ∧ gs z j = x + 1) (Classical.propDecidable _))
theorem chS_is {z : Int → Int} {n T : Int} (hn : n ≤ 6) : isSet (chS z n T) z n T := by
  obtain ⟨h1, h2⟩ := mkS_bit (fun x => @decide (x + 1 < n ∧ ∃ j, 1 ≤ j ∧ j < T ∧ gs z j = x + 1) (Classical.propDecidable _))
  refine ⟨h1, fun x hx1 hx2 => ?_⟩
  unfold chS
  rw [h2 x hx1 (by omega)]
  constructor
  · intro h; exact (@of_decide_eq_true _ (Classical.propDecidable _) h).2
  · intro h; exact @decide_eq_true _ (Classical.propDecidable _) ⟨hx2, h⟩
/-- how many groups, by bits -/
def pcS (S : Int) : Int := (if sbit S 0 then 1 else 0) + (if sbit S 1 then 1 else 0) + (if sbit S 2 then 1 else 0) + (if sbit S 3 then 1 else 0) + (if sbit S 4 then 1 else 0)
def rvS (S : Int) : Int := (if sbit S 0 then 16 else 0) + (if sbit S 1 then 8 else 0) + (if sbit S 2 then 4 else 0) + (if sbit S 3 then 2 else 0) + (if sbit S 4 then 1 else 0)
/-- values of the groups from f on: hits, how many -/
def vzN (w : Int → Int → Int) (o : Int → Int) (n : Int) (z : Int → Int) : Nat → Int → Int × Int
  | 0, _ => (0, 0)
  | d + 1, f => if f < n then (Hh w o f (f + z f - 1) + (vzN w o n z d (f + z f)).1, 1 + (vzN w o n z d (f + z f)).2) else (0, 0)
def czN (n : Int) (z : Int → Int) : Nat → Int → Int
  | 0, _ => 0
  | d + 1, f => if f < n then 1 + czN n z d (f + z f) else 0
def alN (w : Int → Int → Int) (o : Int → Int) (n : Int) (z : Int → Int) : Nat → Int → Prop
  | 0, _ => True
  | d + 1, f => f < n → alw w o f (f + z f - 1) ∧ alN w o n z d (f + z f)
def lxN (n : Int) (z b : Int → Int) : Nat → Int → Bool
  | 0, _ => true
  | d + 1, f => if f < n then (decide (z f < b f) || (decide (z f = b f) && lxN n z b d (f + z f))) else true
theorem vzN_c {w : Int → Int → Int} {o : Int → Int} {n : Int} {z : Int → Int} : ∀ (d : Nat) (f : Int), (vzN w o n z d f).2 = czN n z d f := by
  intro d
  induction d with
  | zero => intro f; rfl
  | succ d ih =>
    intro f
    show (if f < n then _ else _ : Int × Int).2 = (if f < n then _ else _)
    split
    · show 1 + (vzN w o n z d (f + z f)).2 = _
      rw [ih]
    · rfl
theorem fin_cz : ∀ n : Nat, n < 7 → ∀ S : Nat, S < 32 → (S < 2 ^ (n - 1)) → 0 < n → czN (n : Int) (zS (S : Int) (n : Int)) 7 0 = 1 + pcS (S : Int) := by decide +kernel
def lxB (n S R : Nat) : Bool := !(decide (S < 2 ^ (n - 1)) && decide (R < 2 ^ (n - 1)) && lxN (n : Int) (zS (S : Int) (n : Int)) (zS (R : Int) (n : Int)) 7 0) || decide (rvS (R : Int) ≤ rvS (S : Int))
theorem fin_lxB : ∀ n : Nat, n < 7 → ∀ S : Nat, S < 32 → ∀ R : Nat, R < 32 → lxB n S R = true := by decide +kernel
theorem fin_lx {n S R : Nat} (hn : n < 7) (hS : S < 32) (hR : R < 32) (hS2 : S < 2 ^ (n - 1)) (hR2 : R < 2 ^ (n - 1)) (h : lxN (n : Int) (zS (S : Int) (n : Int)) (zS (R : Int) (n : Int)) 7 0 = true) : rvS (R : Int) ≤ rvS (S : Int) := by
  have := fin_lxB n hn S hS R hR
  unfold lxB at this
  rw [h, decide_eq_true hS2, decide_eq_true hR2] at this
  simpa using this
theorem fin_rv : ∀ S : Nat, S < 32 → ∀ R : Nat, R < 32 → rvS (S : Int) = rvS (R : Int) → S = R := by decide +kernel
