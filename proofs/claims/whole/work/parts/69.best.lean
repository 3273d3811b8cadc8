/-! ===== the best arrangement ===== -/
def cdH (w : Int → Int → Int) (o : Int → Int) (n f s : Int) : Int := Hh w o f (f + s - 1) + (dp w o n (f + s)).1
def cdG (w : Int → Int → Int) (o : Int → Int) (n f s : Int) : Int := 1 + (dp w o n (f + s)).2.1
theorem dp_opt {w : Int → Int → Int} {o : Int → Int} {n f : Int} (hf : f < n) : (1 ≤ (dp w o n f).2.2 ∧ (dp w o n f).2.2 ≤ lg w o n f) ∧ (dp w o n f).1 = cdH w o n f (dp w o n f).2.2 ∧ (dp w o n f).2.1 = cdG w o n f (dp w o n f).2.2 ∧ ∀ s, 1 ≤ s → s ≤ lg w o n f → cdH w o n f s < (dp w o n f).1 ∨ (cdH w o n f s = (dp w o n f).1 ∧ ((dp w o n f).2.1 < cdG w o n f s ∨ ((dp w o n f).2.1 = cdG w o n f s ∧ s ≤ (dp w o n f).2.2))) := by
  have hl := lg_is (w := w) (o := o) hf
  have hl1 := hl.1
  have key := ni_inv (f := fun b a => dpS w o (dp w o n) f (lg w o n f - b) a) (s := ((0, 0, 0) : D3)) (k := lg w o n f) (P := fun j a => (j = 0 → (a : D3).2.2 = 0) ∧ (1 ≤ j → (lg w o n f - j + 1 ≤ a.2.2 ∧ a.2.2 ≤ lg w o n f) ∧ a.1 = cdH w o n f a.2.2 ∧ a.2.1 = cdG w o n f a.2.2 ∧ ∀ s, lg w o n f - j + 1 ≤ s → s ≤ lg w o n f → cdH w o n f s < a.1 ∨ (cdH w o n f s = a.1 ∧ (a.2.1 < cdG w o n f s ∨ (a.2.1 = cdG w o n f s ∧ s ≤ a.2.2))))) ⟨fun _ => rfl, fun z => by omega⟩ (by omega) (fun j a h1 h2 ha => by
    refine ⟨fun z => by omega, fun _ => ?_⟩
    have eS : dpS w o (dp w o n) f (lg w o n f - j) a = if a.2.2 = 0 ∨ a.1 < cdH w o n f (lg w o n f - j) ∨ (cdH w o n f (lg w o n f - j) = a.1 ∧ cdG w o n f (lg w o n f - j) < a.2.1) then (cdH w o n f (lg w o n f - j), cdG w o n f (lg w o n f - j), lg w o n f - j) else a := rfl
    show (_ ≤ (dpS w o (dp w o n) f (lg w o n f - j) a).2.2 ∧ (dpS w o (dp w o n) f (lg w o n f - j) a).2.2 ≤ _) ∧ (dpS w o (dp w o n) f (lg w o n f - j) a).1 = cdH w o n f (dpS w o (dp w o n) f (lg w o n f - j) a).2.2 ∧ (dpS w o (dp w o n) f (lg w o n f - j) a).2.1 = cdG w o n f (dpS w o (dp w o n) f (lg w o n f - j) a).2.2 ∧ ∀ s, lg w o n f - (j + 1) + 1 ≤ s → s ≤ lg w o n f → cdH w o n f s < (dpS w o (dp w o n) f (lg w o n f - j) a).1 ∨ (cdH w o n f s = (dpS w o (dp w o n) f (lg w o n f - j) a).1 ∧ ((dpS w o (dp w o n) f (lg w o n f - j) a).2.1 < cdG w o n f s ∨ ((dpS w o (dp w o n) f (lg w o n f - j) a).2.1 = cdG w o n f s ∧ s ≤ (dpS w o (dp w o n) f (lg w o n f - j) a).2.2)))
    rw [eS]
    by_cases q : a.2.2 = 0 ∨ a.1 < cdH w o n f (lg w o n f - j) ∨ (cdH w o n f (lg w o n f - j) = a.1 ∧ cdG w o n f (lg w o n f - j) < a.2.1)
    · rw [if_pos q]
      refine ⟨⟨by show _ ≤ lg w o n f - j; omega, by show lg w o n f - j ≤ _; omega⟩, rfl, rfl, fun s s1 s2 => ?_⟩
      show cdH w o n f s < cdH w o n f (lg w o n f - j) ∨ (cdH w o n f s = cdH w o n f (lg w o n f - j) ∧ (cdG w o n f (lg w o n f - j) < cdG w o n f s ∨ (cdG w o n f (lg w o n f - j) = cdG w o n f s ∧ s ≤ lg w o n f - j)))
      by_cases e : s = lg w o n f - j
      · rw [e]; right; exact ⟨rfl, Or.inr ⟨rfl, Int.le_refl _⟩⟩
      · by_cases j0 : j = 0
        · omega
        · obtain ⟨a1, a2, a3, a4⟩ := ha.2 (by omega)
          have := a4 s (by omega) s2
          omega
    · rw [if_neg q]
      have j0 : j ≠ 0 := fun z => q (Or.inl (ha.1 z))
      obtain ⟨a1, a2, a3, a4⟩ := ha.2 (by omega)
      refine ⟨⟨by omega, a1.2⟩, a2, a3, fun s s1 s2 => ?_⟩
      by_cases e : s = lg w o n f - j
      · rw [e]
        omega
      · exact a4 s (by omega) s2)
  have := key.2 hl1
  have ed : dp w o n f = ni (lg w o n f) (fun b a => dpS w o (dp w o n) f (lg w o n f - b) a) ((0, 0, 0) : D3) := dp_eq hf
  rw [← ed] at this
  obtain ⟨t1, t2, t3, t4⟩ := this
  exact ⟨⟨by omega, t1.2⟩, t2, t3, fun s s1 s2 => t4 s (by omega) s2⟩
theorem alw_lg {w : Int → Int → Int} {o : Int → Int} {n f t : Int} (hf : f < n) (ht : 1 ≤ t) (htn : f + t ≤ n) (h : alw w o f (f + t - 1)) : t ≤ lg w o n f := by
  obtain ⟨a1, a2, a3, a4⟩ := lg_is (w := w) (o := o) hf
  by_cases q : t ≤ lg w o n f
  · exact q
  · exact absurd (alw_le h (by omega)) (a4 (by omega))
theorem opt_all {w : Int → Int → Int} {o : Int → Int} {n : Int} {z : Int → Int} (hz : zok z n) : ∀ (d : Nat) (f : Int), n - f ≤ d → 0 ≤ f → f ≤ n → alN w o n z d f → (vzN w o n z d f).1 < (dp w o n f).1 ∨ ((vzN w o n z d f).1 = (dp w o n f).1 ∧ ((dp w o n f).2.1 < (vzN w o n z d f).2 ∨ ((dp w o n f).2.1 = (vzN w o n z d f).2 ∧ lxN n z (az w o n 2) d f = true))) := by
  intro d
  induction d with
  | zero =>
    intro f h1 h2 h3 _
    have : f = n := by omega
    rw [this, dp_n]
    exact Or.inr ⟨rfl, Or.inr ⟨rfl, rfl⟩⟩
  | succ d ih =>
    intro f h1 h2 h3 ha
    by_cases q : f < n
    · obtain ⟨b1, b2⟩ := hz f h2 q
      obtain ⟨c1, c2⟩ := ha q
      have h4 := ih (f + z f) (by omega) (by omega) b2 c2
      obtain ⟨d1, d2, d3, d4⟩ := dp_opt (w := w) (o := o) q
      have d5 := d4 (z f) b1 (alw_lg q b1 b2 c1)
      have ev : vzN w o n z (d + 1) f = (Hh w o f (f + z f - 1) + (vzN w o n z d (f + z f)).1, 1 + (vzN w o n z d (f + z f)).2) := by
        show (if f < n then _ else _) = _
        rw [if_pos q]
      have el : lxN n z (az w o n 2) (d + 1) f = (decide (z f < az w o n 2 f) || (decide (z f = az w o n 2 f) && lxN n z (az w o n 2) d (f + z f))) := by
        show (if f < n then _ else _) = _
        rw [if_pos q]
      have ea : az w o n 2 f = (dp w o n f).2.2 := by unfold az; rw [if_neg (by omega), if_neg (by omega)]
      rw [ev, el, ea]
      have g1 : cdH w o n f (z f) = Hh w o f (f + z f - 1) + (dp w o n (f + z f)).1 := rfl
      have g2 : cdG w o n f (z f) = 1 + (dp w o n (f + z f)).2.1 := rfl
      show Hh w o f (f + z f - 1) + (vzN w o n z d (f + z f)).1 < (dp w o n f).1 ∨ (Hh w o f (f + z f - 1) + (vzN w o n z d (f + z f)).1 = (dp w o n f).1 ∧ ((dp w o n f).2.1 < 1 + (vzN w o n z d (f + z f)).2 ∨ ((dp w o n f).2.1 = 1 + (vzN w o n z d (f + z f)).2 ∧ _)))
      rcases h4 with h4 | ⟨h4, h5 | ⟨h5, h6⟩⟩
      · omega
      · omega
      · rcases d5 with d5 | ⟨d5, d6 | ⟨d6, d7⟩⟩
        · omega
        · omega
        · right
          refine ⟨by omega, Or.inr ⟨by omega, ?_⟩⟩
          by_cases e : z f < (dp w o n f).2.2
          · rw [decide_eq_true e]; rfl
          · rw [decide_eq_true (show z f = (dp w o n f).2.2 by omega), h6]
            simp
    · have e : f = n := by omega
      have ev : vzN w o n z (d + 1) f = (0, 0) := by
        show (if f < n then _ else _) = _
        rw [if_neg q]
      have el : lxN n z (az w o n 2) (d + 1) f = true := by
        show (if f < n then _ else _) = _
        rw [if_neg q]
      rw [ev, el, e, dp_n]
      exact Or.inr ⟨rfl, Or.inr ⟨rfl, rfl⟩⟩
theorem opt_own {w : Int → Int → Int} {o : Int → Int} {n : Int} : ∀ (d : Nat) (f : Int), n - f ≤ d → 0 ≤ f → f ≤ n → alN w o n (az w o n 2) d f ∧ vzN w o n (az w o n 2) d f = ((dp w o n f).1, (dp w o n f).2.1) := by
  intro d
  induction d with
  | zero =>
    intro f h1 h2 h3
    have : f = n := by omega
    rw [this, dp_n]
    exact ⟨trivial, rfl⟩
  | succ d ih =>
    intro f h1 h2 h3
    by_cases q : f < n
    · obtain ⟨⟨d0, d1⟩, d2, d3, d4⟩ := dp_opt (w := w) (o := o) q
      have ea : az w o n 2 f = (dp w o n f).2.2 := by unfold az; rw [if_neg (by omega), if_neg (by omega)]
      obtain ⟨a1, a2, a3, a4⟩ := lg_is (w := w) (o := o) q
      have h4 := ih (f + az w o n 2 f) (by omega) (by omega) (by omega)
      have ev : vzN w o n (az w o n 2) (d + 1) f = (Hh w o f (f + az w o n 2 f - 1) + (vzN w o n (az w o n 2) d (f + az w o n 2 f)).1, 1 + (vzN w o n (az w o n 2) d (f + az w o n 2 f)).2) := by
        show (if f < n then _ else _) = _
        rw [if_pos q]
      refine ⟨fun _ => ⟨alw_le a3 (by omega), h4.1⟩, ?_⟩
      rw [ev, h4.2, ea]
      exact Prod.ext d2.symm d3.symm
    · have e : f = n := by omega
      refine ⟨fun z => absurd z q, ?_⟩
      have ev : vzN w o n (az w o n 2) (d + 1) f = (0, 0) := by
        show (if f < n then _ else _) = _
        rw [if_neg q]
      rw [ev, e, dp_n]
/-- arrangements that agree on a chain -/
theorem vz_ag {w : Int → Int → Int} {o : Int → Int} {n T : Int} {z z' : Int → Int} (hT : isNG z n T) (hA : ∀ j, 0 ≤ j → j < T → z' (gs z j) = z (gs z j)) : ∀ (d : Nat) (j : Int), 0 ≤ j → j ≤ T → vzN w o n z' d (gs z j) = vzN w o n z d (gs z j) ∧ (alN w o n z' d (gs z j) ↔ alN w o n z d (gs z j)) := by
  intro d
  induction d with
  | zero => intro j _ _; exact ⟨rfl, Iff.rfl⟩
  | succ d ih =>
    intro j h0 hj
    by_cases q : gs z j < n
    · have hj2 : j < T := by
        by_cases e : j = T
        · rw [e, hT.2.1] at q; omega
        · omega
      have h1 := ih (j + 1) (by omega) (by omega)
      rw [gs_s h0] at h1
      have ez := hA j h0 hj2
      constructor
      · show (if gs z j < n then _ else _) = (if gs z j < n then _ else _)
        rw [if_pos q, if_pos q, ez, h1.1]
      · show (gs z j < n → _) ↔ (gs z j < n → _)
        rw [ez, h1.2]
    · constructor
      · show (if gs z j < n then _ else _) = (if gs z j < n then _ else _)
        rw [if_neg q, if_neg q]
      · exact ⟨fun _ z => absurd z q, fun _ z => absurd z q⟩
theorem lx_ag {n T : Int} {y b b' : Int → Int} (hT : isNG b n T) (hA : ∀ j, 0 ≤ j → j < T → b' (gs b j) = b (gs b j)) : ∀ (d : Nat) (j : Int), 0 ≤ j → j ≤ T → lxN n y b' d (gs b j) = lxN n y b d (gs b j) := by
  intro d
  induction d with
  | zero => intro j _ _; rfl
  | succ d ih =>
    intro j h0 hj
    show (if gs b j < n then _ else _) = (if gs b j < n then _ else _)
    by_cases q : gs b j < n
    · have hj2 : j < T := by
        by_cases e : j = T
        · rw [e, hT.2.1] at q; omega
        · omega
      rw [if_pos q, if_pos q, hA j h0 hj2]
      by_cases e : y (gs b j) = b (gs b j)
      · rw [e, ← gs_s h0, ih (j + 1) (by omega) (by omega)]
      · rw [decide_eq_false e]
        simp
    · rw [if_neg q, if_neg q]
theorem isSet_z {S n T : Int} {z : Int → Int} (hz : zok z n) (hn : 0 ≤ n) (hT : isNG z n T) (hS : isSet S z n T) : ∀ j, 0 ≤ j → j < T → zS S n (gs z j) = z (gs z j) := by
  intro j h0 hj
  have h1 := isSet_gs hz hn hT hS h0 (show j ≤ T by omega)
  have h2 := isSet_gs hz hn hT hS (show 0 ≤ j + 1 by omega) (by omega)
  rw [gs_s h0, gs_s h0, h1] at h2
  omega
theorem fin_lt : ∀ n : Nat, n < 7 → ∀ S : Nat, S < 32 → (∀ x : Nat, x < 5 → n ≤ x + 1 → sbit (S : Int) (x : Int) = false) → S < 2 ^ (n - 1) := by decide +kernel
theorem chS_lt {z : Int → Int} {n T : Int} (hn : 0 ≤ n ∧ n ≤ 6) : (chS z n T).toNat < 2 ^ (n.toNat - 1) := by
  obtain ⟨h1, h2⟩ := mkS_bit (fun x => @decide (x + 1 < n ∧ ∃ j, 1 ≤ j ∧ j < T ∧ gs z j = x + 1) (Classical.propDecidable _))
  have h1' : 0 ≤ chS z n T ∧ chS z n T < 32 := h1
  refine fin_lt n.toNat (by omega) (chS z n T).toNat (by omega) (fun x hx hx2 => ?_)
  rw [show (((chS z n T).toNat : Nat) : Int) = chS z n T by omega]
  have h3 := h2 (x : Int) (by omega) (by omega)
  unfold chS
  rw [h3]
  exact @decide_eq_false _ (Classical.propDecidable _) (fun q => by have := q.1; omega)
/-- the set of the best arrangement is better than every other allowed one -/
def bVal (w : Int → Int → Int) (o : Int → Int) (n S : Int) : Int := (vzN w o n (zS S n) 7 0).1
def bAl (w : Int → Int → Int) (o : Int → Int) (n S : Int) : Prop := alN w o n (zS S n) 7 0
def better (w : Int → Int → Int) (o : Int → Int) (n S R : Int) : Prop := bVal w o n R < bVal w o n S ∨ (bVal w o n R = bVal w o n S ∧ (pcS S < pcS R ∨ (pcS S = pcS R ∧ rvS S < rvS R)))
theorem best_is {w : Int → Int → Int} {o : Int → Int} {n T : Int} (hn : 1 ≤ n ∧ n ≤ 6) (hT : isNG (az w o n 2) n T) : bAl w o n (chS (az w o n 2) n T) ∧ ∀ R, 0 ≤ R → R.toNat < 2 ^ (n.toNat - 1) → R < 32 → bAl w o n R → R = chS (az w o n 2) n T ∨ better w o n (chS (az w o n 2) n T) R := by
  have hz := az_ok (w := w) (o := o) (n := n) (k := 2)
  have hS := chS_is (z := az w o n 2) (n := n) (T := T) hn.2
  have hA := isSet_z hz (by omega) hT hS
  have own := opt_own (w := w) (o := o) (n := n) 7 0 (by omega) (by omega) (by omega)
  have v0 := vz_ag (w := w) (o := o) hT hA 7 0 (by omega) hT.1
  rw [gs_0] at v0
  have hSt := hS.1
  have hlt := chS_lt (z := az w o n 2) (n := n) (T := T) (by omega)
  generalize chS (az w o n 2) n T = B at *
  refine ⟨v0.2.mpr own.1, fun R r0 r1 r2 ra => ?_⟩
  have h1 := opt_all (w := w) (o := o) (zS_ok (S := R) (n := n)) 7 0 (by omega) (by omega) (by omega) ra
  have l0 := lx_ag (y := zS R n) hT hA 7 0 (by omega) hT.1
  rw [gs_0] at l0
  rw [← l0] at h1
  have c1 := vzN_c (w := w) (o := o) (n := n) (z := zS R n) 7 0
  have c2 := vzN_c (w := w) (o := o) (n := n) (z := zS B n) 7 0
  have f1 := fin_cz n.toNat (by omega) R.toNat (by omega) r1 (by omega)
  have f2 := fin_cz n.toNat (by omega) B.toNat (by omega) hlt (by omega)
  rw [show ((n.toNat : Nat) : Int) = n by omega, show ((R.toNat : Nat) : Int) = R by omega] at f1
  rw [show ((n.toNat : Nat) : Int) = n by omega, show ((B.toNat : Nat) : Int) = B by omega] at f2
  have e1 : (dp w o n 0).1 = bVal w o n B := by unfold bVal; rw [v0.1, own.2]
  have e2 : (dp w o n 0).2.1 = 1 + pcS B := by rw [← f2, ← c2, v0.1, own.2]
  have e3 : (vzN w o n (zS R n) 7 0).2 = 1 + pcS R := by rw [c1, f1]
  rw [e1, e2, e3] at h1
  by_cases q : R = B
  · exact Or.inl q
  · right
    unfold better
    have e4 : bVal w o n R = (vzN w o n (zS R n) 7 0).1 := rfl
    rw [e4]
    rcases h1 with h1 | ⟨h1, h2 | ⟨h2, h3⟩⟩
    · exact Or.inl h1
    · exact Or.inr ⟨h1, Or.inl (by omega)⟩
    · refine Or.inr ⟨h1, Or.inr ⟨by omega, ?_⟩⟩
      have f3 := fin_lx (n := n.toNat) (S := R.toNat) (R := B.toNat) (by omega) (by omega) (by omega) r1 hlt (by rw [show ((n.toNat : Nat) : Int) = n by omega, show ((R.toNat : Nat) : Int) = R by omega, show ((B.toNat : Nat) : Int) = B by omega]; exact h3)
      have f4 := fin_rv R.toNat (by omega) B.toNat (by omega)
      rw [show ((R.toNat : Nat) : Int) = R by omega, show ((B.toNat : Nat) : Int) = B by omega] at f3 f4
      have : rvS R ≠ rvS B := fun z => q (by have := f4 z; omega)
      omega
