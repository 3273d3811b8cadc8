/-! ===== ints as whole numbers ===== -/
def zI (z : Int) : Int32 := Int32.ofInt z
theorem zI_toInt (x : Int32) : zI x.toInt = x := Int32.ofInt_toInt x
theorem zI_of (x : Int32) : ∃ a : Int, -2147483648 ≤ a ∧ a < 2147483648 ∧ x = zI a := ⟨x.toInt, by have := x.le_toInt; omega, by have := x.toInt_lt; omega, (zI_toInt x).symm⟩
theorem zc {a b : Int} (h : a = b) : zI a = zI b := by rw [h]
theorem z_val {a : Int} (h : -2147483648 ≤ a ∧ a < 2147483648) : (zI a).toInt = a := Int32.toInt_ofInt_of_le (by omega) (by omega)
theorem z_add (a b : Int) : zI a + zI b = zI (a + b) := (Int32.ofInt_add a b).symm
theorem z_sub (a b : Int) : zI a - zI b = zI (a - b) := (Int32.ofInt_sub a b).symm
theorem z_mul (a b : Int) : zI a * zI b = zI (a * b) := (Int32.ofInt_mul a b).symm
theorem z_neg (a : Int) : -zI a = zI (-a) := Int32.neg_ofInt
theorem z_nI (n : Nat) : nI n = zI (n : Int) := Int32.ofInt_eq_ofNat.symm
theorem z_leI {a b : Int} (h : -2147483648 ≤ a ∧ a < 2147483648 ∧ -2147483648 ≤ b ∧ b < 2147483648) : (zI a ≤ zI b) = (a ≤ b) := by
  rw [Int32.le_iff_toInt_le, z_val (by omega), z_val (by omega)]
theorem z_ltI {a b : Int} (h : -2147483648 ≤ a ∧ a < 2147483648 ∧ -2147483648 ≤ b ∧ b < 2147483648) : (zI a < zI b) = (a < b) := by
  rw [Int32.lt_iff_toInt_lt, z_val (by omega), z_val (by omega)]
theorem z_eqI {a b : Int} (h : -2147483648 ≤ a ∧ a < 2147483648 ∧ -2147483648 ≤ b ∧ b < 2147483648) : (zI a = zI b) = (a = b) := by
  rw [← Int32.toInt_inj, z_val (by omega), z_val (by omega)]
theorem z_leT {a b : Int} (h : a ≤ b ∧ -2147483648 ≤ a ∧ b < 2147483648) : (zI a ≤ zI b) = True := by
  rw [z_leI (by omega)]; exact eq_true h.1
theorem z_leF {a b : Int} (h : b < a ∧ -2147483648 ≤ b ∧ a < 2147483648) : (zI a ≤ zI b) = False := by
  rw [z_leI (by omega)]; exact eq_false (by omega)
theorem z_ltT {a b : Int} (h : a < b ∧ -2147483648 ≤ a ∧ b < 2147483648) : (zI a < zI b) = True := by
  rw [z_ltI (by omega)]; exact eq_true h.1
theorem z_ltF {a b : Int} (h : b ≤ a ∧ -2147483648 ≤ b ∧ a < 2147483648) : (zI a < zI b) = False := by
  rw [z_ltI (by omega)]; exact eq_false (by omega)
theorem z_eqT {a b : Int} (h : a = b) : (zI a = zI b) = True := eq_true (zc h)
theorem z_eqF {a b : Int} (h : (a < b ∨ b < a) ∧ -2147483648 ≤ a ∧ a < 2147483648 ∧ -2147483648 ≤ b ∧ b < 2147483648) : (zI a = zI b) = False := by
  rw [z_eqI (by omega)]; exact eq_false (by omega)
theorem z_inT {a : Int} {n : Nat} (h : 0 ≤ a ∧ a < (n : Int) ∧ a < 2147483648) : vp_in (zI a) n = True := eq_true (vp_in_iff.mpr (by rw [z_val (by omega)]; omega))
theorem z_inI {a : Int} {n : Nat} (h : -2147483648 ≤ a ∧ a < 2147483648) : vp_in (zI a) n = (0 ≤ a ∧ a < (n : Int)) := by rw [vp_in_iff, z_val h]
theorem z_clamp {a : Int} (h : -2147483648 ≤ a ∧ a < 2147483648) : (zI a).toNatClampNeg = a.toNat := by
  show (zI a).toInt.toNat = _
  rw [z_val h]
theorem z_inj {a b : Int} (h : zI a = zI b) (h1 : -2147483648 ≤ a ∧ a < 2147483648 ∧ -2147483648 ≤ b ∧ b < 2147483648) : a = b := by
  rw [z_eqI h1] at h; exact h
theorem z_max {a b : Int} (h : -2147483648 ≤ a ∧ a < 2147483648 ∧ -2147483648 ≤ b ∧ b < 2147483648) : jmax (zI a) (zI b) = zI (max a b) := by
  unfold jmax
  by_cases q : a < b
  · rw [if_pos (by rw [z_ltI h]; exact q)]; exact zc (by omega)
  · rw [if_neg (by rw [z_ltI h]; exact q)]; exact zc (by omega)
theorem z_min {a b : Int} (h : -2147483648 ≤ a ∧ a < 2147483648 ∧ -2147483648 ≤ b ∧ b < 2147483648) : jmin (zI a) (zI b) = zI (min a b) := by
  unfold jmin
  have h' : -2147483648 ≤ b ∧ b < 2147483648 ∧ -2147483648 ≤ a ∧ a < 2147483648 := ⟨h.2.2.1, h.2.2.2, h.1, h.2.1⟩
  by_cases q : b < a
  · rw [if_pos (by rw [z_ltI h']; exact q)]; exact zc (by omega)
  · rw [if_neg (by rw [z_ltI h']; exact q)]; exact zc (by omega)
theorem z_0 : (0 : Int32) = zI 0 := by decide
theorem z_1 : (1 : Int32) = zI 1 := by decide
theorem z_2 : (2 : Int32) = zI 2 := by decide
theorem z_3 : (3 : Int32) = zI 3 := by decide
theorem z_4 : (4 : Int32) = zI 4 := by decide
theorem z_5 : (5 : Int32) = zI 5 := by decide
theorem z_6 : (6 : Int32) = zI 6 := by decide
theorem z_7 : (7 : Int32) = zI 7 := by decide
theorem z_8 : (8 : Int32) = zI 8 := by decide
theorem z_9 : (9 : Int32) = zI 9 := by decide
theorem z_10 : (10 : Int32) = zI 10 := by decide
theorem z_11 : (11 : Int32) = zI 11 := by decide
theorem z_12 : (12 : Int32) = zI 12 := by decide
theorem z_13 : (13 : Int32) = zI 13 := by decide
theorem z_14 : (14 : Int32) = zI 14 := by decide
theorem z_15 : (15 : Int32) = zI 15 := by decide
theorem z_16 : (16 : Int32) = zI 16 := by decide
theorem z_17 : (17 : Int32) = zI 17 := by decide
theorem z_18 : (18 : Int32) = zI 18 := by decide
theorem z_19 : (19 : Int32) = zI 19 := by decide
theorem z_20 : (20 : Int32) = zI 20 := by decide
theorem z_21 : (21 : Int32) = zI 21 := by decide
theorem z_22 : (22 : Int32) = zI 22 := by decide
theorem z_23 : (23 : Int32) = zI 23 := by decide
theorem z_24 : (24 : Int32) = zI 24 := by decide
theorem z_25 : (25 : Int32) = zI 25 := by decide
theorem z_26 : (26 : Int32) = zI 26 := by decide
theorem z_27 : (27 : Int32) = zI 27 := by decide
theorem z_28 : (28 : Int32) = zI 28 := by decide
theorem z_29 : (29 : Int32) = zI 29 := by decide
theorem z_30 : (30 : Int32) = zI 30 := by decide
theorem z_31 : (31 : Int32) = zI 31 := by decide
theorem z_32 : (32 : Int32) = zI 32 := by decide
theorem z_33 : (33 : Int32) = zI 33 := by decide
theorem z_34 : (34 : Int32) = zI 34 := by decide
theorem z_35 : (35 : Int32) = zI 35 := by decide
theorem z_36 : (36 : Int32) = zI 36 := by decide
theorem z_37 : (37 : Int32) = zI 37 := by decide
theorem z_38 : (38 : Int32) = zI 38 := by decide
theorem z_39 : (39 : Int32) = zI 39 := by decide
theorem z_40 : (40 : Int32) = zI 40 := by decide
theorem z_41 : (41 : Int32) = zI 41 := by decide
theorem z_42 : (42 : Int32) = zI 42 := by decide
theorem z_43 : (43 : Int32) = zI 43 := by decide
theorem z_44 : (44 : Int32) = zI 44 := by decide
theorem z_45 : (45 : Int32) = zI 45 := by decide
theorem z_46 : (46 : Int32) = zI 46 := by decide
theorem z_47 : (47 : Int32) = zI 47 := by decide
theorem z_48 : (48 : Int32) = zI 48 := by decide
theorem z_49 : (49 : Int32) = zI 49 := by decide
theorem z_50 : (50 : Int32) = zI 50 := by decide
theorem z_51 : (51 : Int32) = zI 51 := by decide
theorem z_52 : (52 : Int32) = zI 52 := by decide
theorem z_53 : (53 : Int32) = zI 53 := by decide
theorem z_54 : (54 : Int32) = zI 54 := by decide
theorem z_55 : (55 : Int32) = zI 55 := by decide
theorem z_56 : (56 : Int32) = zI 56 := by decide
theorem z_57 : (57 : Int32) = zI 57 := by decide
theorem z_58 : (58 : Int32) = zI 58 := by decide
theorem z_59 : (59 : Int32) = zI 59 := by decide
theorem z_60 : (60 : Int32) = zI 60 := by decide
theorem z_61 : (61 : Int32) = zI 61 := by decide
theorem z_77 : (77 : Int32) = zI 77 := by decide
theorem z_91 : (91 : Int32) = zI 91 := by decide
theorem z_93 : (93 : Int32) = zI 93 := by decide
theorem z_97 : (97 : Int32) = zI 97 := by decide
theorem z_100 : (100 : Int32) = zI 100 := by decide
theorem z_101 : (101 : Int32) = zI 101 := by decide
theorem z_102 : (102 : Int32) = zI 102 := by decide
theorem z_103 : (103 : Int32) = zI 103 := by decide
theorem z_105 : (105 : Int32) = zI 105 := by decide
theorem z_111 : (111 : Int32) = zI 111 := by decide
theorem z_114 : (114 : Int32) = zI 114 := by decide
theorem z_120 : (120 : Int32) = zI 120 := by decide
theorem z_123 : (123 : Int32) = zI 123 := by decide
theorem z_125 : (125 : Int32) = zI 125 := by decide
theorem z_126 : (126 : Int32) = zI 126 := by decide
theorem z_200 : (200 : Int32) = zI 200 := by decide
theorem z_245 : (245 : Int32) = zI 245 := by decide
theorem z_255 : (255 : Int32) = zI 255 := by decide
theorem z_576 : (576 : Int32) = zI 576 := by decide
theorem z_585 : (585 : Int32) = zI 585 := by decide
theorem z_1000 : (1000 : Int32) = zI 1000 := by decide
theorem z_2000 : (2000 : Int32) = zI 2000 := by decide
theorem z_3510 : (3510 : Int32) = zI 3510 := by decide
theorem z_11700 : (11700 : Int32) = zI 11700 := by decide
theorem z_divp {a b : Int} (h : 0 ≤ a) (h1 : a < 2147483648) (hb : 0 < b) (hb1 : b < 2147483648) (h2 : 0 ≤ a / b) (h3 : a / b < 2147483648) : zI a / zI b = zI (a / b) := by
  have hne : zI b ≠ -1 := fun q => by
    have q2 := congrArg Int32.toInt q
    rw [z_val (by omega)] at q2
    have : (-1 : Int32).toInt = -1 := by decide
    omega
  rw [← Int32.toInt_inj, Int32.toInt_div_of_ne_right _ _ hne, z_val (by omega), z_val (by omega), z_val (by omega)]
  exact Int.tdiv_eq_ediv_of_nonneg h
theorem z_div49 {a : Int} (h : 0 ≤ a ∧ a < 2147483648) : zI a / zI 49 = zI (a / 49) := z_divp h.1 h.2 (by omega) (by omega) (by omega) (by omega)
theorem z_div20 {a : Int} (h : 0 ≤ a ∧ a < 2147483648) : zI a / zI 20 = zI (a / 20) := z_divp h.1 h.2 (by omega) (by omega) (by omega) (by omega)
/-! ===== loops ===== -/
def nf {σ : Type} (f : Int → σ → σ) : Nat → σ → σ
  | 0, s => s
  | k + 1, s => f (k : Int) (nf f k s)
def ni {σ : Type} (k : Int) (f : Int → σ → σ) (s : σ) : σ := nf f k.toNat s
theorem ni_0 {σ : Type} {f : Int → σ → σ} {s : σ} {k : Int} (h : k ≤ 0) : ni k f s = s := by
  unfold ni
  rw [show k.toNat = 0 by omega]
  rfl
theorem ni_s {σ : Type} {f : Int → σ → σ} {s : σ} {k : Int} (h : 0 ≤ k) : ni (k + 1) f s = f k (ni k f s) := by
  unfold ni
  rw [show (k + 1).toNat = k.toNat + 1 by omega]
  show f (k.toNat : Int) _ = _
  rw [show (k.toNat : Int) = k by omega]
theorem ni_inv {σ : Type} {f : Int → σ → σ} {s : σ} {k : Int} (P : Int → σ → Prop) (h0 : P 0 s) (hk : 0 ≤ k) (hs : ∀ j x, 0 ≤ j → j < k → P j x → P (j + 1) (f j x)) : P k (ni k f s) := by
  have h : ∀ n : Nat, (n : Int) ≤ k → P n (ni n f s) := by
    intro n
    induction n with
    | zero => intro _; rw [show ((0 : Nat) : Int) = 0 from rfl, ni_0 (Int.le_refl 0)]; exact h0
    | succ n ih =>
      intro hn
      rw [show ((n + 1 : Nat) : Int) = (n : Int) + 1 by omega, ni_s (by omega)]
      exact hs n _ (by omega) (by omega) (ih (by omega))
  have := h k.toNat (by omega)
  rw [show (k.toNat : Int) = k by omega] at this
  exact this
theorem ni_congr {σ : Type} {f g : Int → σ → σ} {s : σ} {k : Int} (h : ∀ j x, 0 ≤ j → j < k → f j x = g j x) : ni k f s = ni k g s := by
  by_cases hk : 0 ≤ k
  · exact ni_inv (f := f) (P := fun j x => x = ni j g s) (by rw [ni_0 (Int.le_refl 0)]) hk (fun j x h1 h2 hx => by rw [ni_s h1, hx]; exact h j _ h1 h2)
  · rw [ni_0 (by omega), ni_0 (by omega)]
/-! ===== regions that stay ===== -/
def fr (S : List Nat) (M M1 : jM) : Prop := ∀ R, R ∉ S → M1 R = M R
theorem fr_rf (S : List Nat) (M : jM) : fr S M M := fun _ _ => rfl
theorem fr_tr {S T U : List Nat} {M M1 M2 : jM} (h : fr S M M1) (h2 : fr T M1 M2) (hS : ∀ R ∈ S, R ∈ U := by decide) (hT : ∀ R ∈ T, R ∈ U := by decide) : fr U M M2 := fun R hR => (h2 R (fun q => hR (hT R q))).trans (h R (fun q => hR (hS R q)))
theorem fr_up {S : List Nat} {M M1 : jM} {R i k : Nat} {v : Int32} (h : fr S M M1) (hR : R ∈ S := by decide) : fr S M (jup M1 R i k v) := fun R' hR' => by
  rw [← h R' hR']
  funext i' k'
  exact jup_R (fun q => hR' (q ▸ hR))
theorem fr_mono {S T : List Nat} {M M1 : jM} (h : fr S M M1) (hS : ∀ R ∈ S, R ∈ T := by decide) : fr T M M1 := fun R hR => h R (fun q => hR (hS R q))
theorem jup_o {M : jM} {R i k R' : Nat} {v : Int32} (h : R' ≠ R) : jup M R i k v R' = M R' := by
  funext i' k'
  exact jup_R h
theorem fr_nb {S : List Nat} {M M1 : jM} (h : fr S M M1) (hS : 99 ∉ S := by decide) : jnb M1 = jnb M := by
  unfold jnb
  rw [h 99 hS]
