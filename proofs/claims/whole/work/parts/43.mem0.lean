def jg0 (z : Nat) (sA sB : Nat → Nat) : Nat → Nat → Nat := fun R i => match R with
  | 0 => z + [4, 30, 54].getD i 0
  | 1 => z + [79].getD i 0
  | 2 => z + [75].getD i 0
  | 3 => z + [45, 46, 47, 48, 49, 50, 69, 70, 71, 72, 73, 74, 19, 20, 21, 22, 23, 24, 25, 26].getD i 0
  | 4 => z + [90, 95, 103, 111].getD i 0
  | 5 => z + [94, 102, 110].getD i 0
  | 6 => z + [27, 51].getD i 0
  | 7 => z + [11, 13, 15, 17, 37, 39, 41, 43, 61, 63, 65, 67].getD i 0
  | 8 => z + [1].getD i 0
  | 9 => z + [88].getD i 0
  | 10 => z + [0].getD i 0
  | 11 => z + [118].getD i 0
  | 20 => z + [5, 31, 55].getD i 0
  | 21 => z + [6, 32, 56].getD i 0
  | 22 => z + [7, 33, 57].getD i 0
  | 23 => z + [8, 34, 58].getD i 0
  | 24 => z + [9, 35, 59].getD i 0
  | 25 => z + [10, 36, 60].getD i 0
  | 26 => z + [12, 14, 16, 18, 38, 40, 42, 44, 62, 64, 66, 68].getD i 0
  | 27 => z + [80].getD i 0
  | 28 => z + [81].getD i 0
  | 29 => z + [82, 83, 84, 85, 86, 87].getD i 0
  | 30 => z + [76].getD i 0
  | 31 => z + [77].getD i 0
  | 32 => z + [78].getD i 0
  | 33 => z + [91, 96, 104, 112].getD i 0
  | 34 => z + [92, 97, 105, 113].getD i 0
  | 35 => z + [98, 106, 114].getD i 0
  | 36 => z + [99, 107, 115].getD i 0
  | 37 => z + [100, 108, 116].getD i 0
  | 38 => z + [101, 109, 117].getD i 0
  | 39 => z + [28, 52].getD i 0
  | 40 => z + [29, 53].getD i 0
  | 41 => z + [2].getD i 0
  | 42 => z + [3].getD i 0
  | 43 => z + [89].getD i 0
  | 44 => z + [93].getD i 0
  | 50 => z + [119].getD i 0
  | 51 => z + [120].getD i 0
  | 52 => z + [121].getD i 0
  | 53 => z + [122].getD i 0
  | 54 => z + [123].getD i 0
  | 55 => z + [124].getD i 0
  | 56 => z + [125].getD i 0
  | 57 => z + [126].getD i 0
  | 58 => z + [127].getD i 0
  | 59 => z + [128].getD i 0
  | 60 => z + [129].getD i 0
  | 61 => z + [130].getD i 0
  | 70 => sA i
  | 71 => sB i
  | _ => 0
def jM0 : jM := fun R i k => match R with
  | 1 => if i = 0 ∧ k = 4 then (-1) else 0
  | 3 => if i = 0 ∧ k = 0 then 1 else if i = 1 ∧ k = 0 then 1 else if i = 2 ∧ k = 0 then 1 else if i = 3 ∧ k = 0 then 1 else if i = 4 ∧ k = 0 then 1 else if i = 5 ∧ k = 0 then 1 else if i = 6 ∧ k = 0 then 2 else if i = 7 ∧ k = 0 then 2 else if i = 8 ∧ k = 0 then 2 else if i = 9 ∧ k = 0 then 2 else if i = 10 ∧ k = 0 then 2 else if i = 11 ∧ k = 0 then 2 else if i = 12 ∧ k = 0 then 0 else if i = 13 ∧ k = 0 then 0 else if i = 14 ∧ k = 0 then 0 else if i = 15 ∧ k = 0 then 0 else if i = 16 ∧ k = 0 then 0 else if i = 17 ∧ k = 0 then 0 else if i = 18 ∧ k = 0 then 0 else if i = 19 ∧ k = 0 then 0 else 0
  | 5 => if i = 0 ∧ k = 10 then (-1) else if i = 0 ∧ k = 11 then (-1) else if i = 1 ∧ k = 0 then 1 else if i = 1 ∧ k = 10 then (-1) else if i = 1 ∧ k = 11 then (-1) else if i = 2 ∧ k = 0 then 2 else if i = 2 ∧ k = 10 then (-1) else if i = 2 ∧ k = 11 then (-1) else 0
  | 8 => if i = 0 ∧ k = 5 then (-1) else 0
  | 11 => if i = 0 ∧ k = 10 then (-1) else 0
  | 40 => (upd (upd (upd (fun _ => 0) (0 : Int32).toNatClampNeg 9) (1 : Int32).toNatClampNeg 3) (2 : Int32).toNatClampNeg 1) k
  | 51 => (upd (upd (upd (fun _ => 0) (0 : Int32).toNatClampNeg 9) (1 : Int32).toNatClampNeg 3) (2 : Int32).toNatClampNeg 1) k
  | 99 => if i = 0 ∧ k = 0 then 3 else 0
  | _ => 0
def jg1inv (q : Nat) : Nat × Nat := [(10, 0), (8, 0), (41, 0), (42, 0), (0, 0), (20, 0), (21, 0), (22, 0), (23, 0), (24, 0), (25, 0), (7, 0), (26, 0), (7, 1), (26, 1), (7, 2), (26, 2), (7, 3), (26, 3), (3, 12), (3, 13), (3, 14), (3, 15), (3, 16), (3, 17), (3, 18), (3, 19), (6, 0), (39, 0), (40, 0), (0, 1), (20, 1), (21, 1), (22, 1), (23, 1), (24, 1), (25, 1), (7, 4), (26, 4), (7, 5), (26, 5), (7, 6), (26, 6), (7, 7), (26, 7), (3, 0), (3, 1), (3, 2), (3, 3), (3, 4), (3, 5), (6, 1), (39, 1), (40, 1), (0, 2), (20, 2), (21, 2), (22, 2), (23, 2), (24, 2), (25, 2), (7, 8), (26, 8), (7, 9), (26, 9), (7, 10), (26, 10), (7, 11), (26, 11), (3, 6), (3, 7), (3, 8), (3, 9), (3, 10), (3, 11), (2, 0), (30, 0), (31, 0), (32, 0), (1, 0), (27, 0), (28, 0), (29, 0), (29, 1), (29, 2), (29, 3), (29, 4), (29, 5), (9, 0), (43, 0), (4, 0), (33, 0), (34, 0), (44, 0), (5, 0), (4, 1), (33, 1), (34, 1), (35, 0), (36, 0), (37, 0), (38, 0), (5, 1), (4, 2), (33, 2), (34, 2), (35, 1), (36, 1), (37, 1), (38, 1), (5, 2), (4, 3), (33, 3), (34, 3), (35, 2), (36, 2), (37, 2), (38, 2), (11, 0), (50, 0), (51, 0), (52, 0), (53, 0), (54, 0), (55, 0), (56, 0), (57, 0), (58, 0), (59, 0), (60, 0), (61, 0)].getD q (0, 0)
theorem jnb_0 : jnb jM0 = 3 := by decide
theorem k_rf {D : va_G} {H : Heap} {q N : Nat} {c : ClassId} {f f' : Nat → Option Nat} (e : ∀ j, j < N → f j = f' j) (h : va_at D vwCl (q, .inl (c, N, .inr (.inr (.inr (.inr f))))) H) : va_at D vwCl (q, .inl (c, N, .inr (.inr (.inr (.inr f'))))) H := by
  have h1 : H[q]? = some (vp_cell c (N, .inr (.inr (.inr (.inr f))))) := h
  show H[q]? = some (vp_cell c (N, .inr (.inr (.inr (.inr f')))))
  rw [h1, vp_cell_q, vp_cell_q]
  exact congrArg some (arrV_ext fun j hj => by rw [e j hj])
set_option maxHeartbeats 4000000 in
set_option maxRecDepth 100000 in
theorem jRep0 {D : va_G} {cA : Nat → ClassId} {H : Heap} {z : Nat} {sA sB : Nat → Nat} (h1 : va_at D vwCl (z, .inr (10, kf_X11 (z + 1))) H) (h2 : ∀ (j : Nat) (e : va_E), (kl_X11 cA (z + 1))[j]? = some e → va_at D vwCl (z + 1 + j, e) H)
    (h3 : va_at D vwCl (z + 118, .inr (11, kf_X12 (z + 119))) H) (h4 : ∀ (j : Nat) (e : va_E), (kl_X12 cA (z + 119))[j]? = some e → va_at D vwCl (z + 119 + j, e) H) (h5 : va_at D vwCl (z + 130, .inl (cA 61, 1, .inr (.inl (fun _ => 0)))) H) : jRep z D cA (jg0 z sA sB) jM0 H := by
  have hc : ∀ R i, i < jCnt jM0 R → va_at D vwCl (jg0 z sA sB R i, jC cA (jg0 z sA sB) jM0 R i) H ∧ z ≤ jg0 z sA sB R i := by
    intro R i hi
    have hi : i < jCntN 3 R := by rw [← jnb_0]; exact hi
    by_cases hR : R < 62
    · have hR2 : R = 0 ∨ R = 1 ∨ R = 2 ∨ R = 3 ∨ R = 4 ∨ R = 5 ∨ R = 6 ∨ R = 7 ∨ R = 8 ∨ R = 9 ∨ R = 10 ∨ R = 11 ∨ R = 20 ∨ R = 21 ∨ R = 22 ∨ R = 23 ∨ R = 24 ∨ R = 25 ∨ R = 26 ∨ R = 27 ∨ R = 28 ∨ R = 29 ∨ R = 30 ∨ R = 31 ∨ R = 32 ∨ R = 33 ∨ R = 34 ∨ R = 35 ∨ R = 36 ∨ R = 37 ∨ R = 38 ∨ R = 39 ∨ R = 40 ∨ R = 41 ∨ R = 42 ∨ R = 43 ∨ R = 44 ∨ R = 50 ∨ R = 51 ∨ R = 52 ∨ R = 53 ∨ R = 54 ∨ R = 55 ∨ R = 56 ∨ R = 57 ∨ R = 58 ∨ R = 59 ∨ R = 60 ∨ R = 61 ∨ ((R = 12 ∨ R = 13 ∨ R = 14 ∨ R = 15 ∨ R = 16 ∨ R = 17 ∨ R = 18 ∨ R = 19 ∨ R = 45 ∨ R = 46 ∨ R = 47 ∨ R = 48 ∨ R = 49)) := by omega
      rcases hR2 with rfl | rfl | rfl | rfl | rfl | rfl | rfl | rfl | rfl | rfl | rfl | rfl | rfl | rfl | rfl | rfl | rfl | rfl | rfl | rfl | rfl | rfl | rfl | rfl | rfl | rfl | rfl | rfl | rfl | rfl | rfl | rfl | rfl | rfl | rfl | rfl | rfl | rfl | rfl | rfl | rfl | rfl | rfl | rfl | rfl | rfl | rfl | rfl | rfl | hR2
      · have hi : i < 3 := hi
        rcases (show i = 0 ∨ i = 1 ∨ i = 2 by omega) with rfl | rfl | rfl
        · refine ⟨?_, Nat.le_add_right z _⟩
          exact h2 3 _ rfl
        · refine ⟨?_, Nat.le_add_right z _⟩
          exact h2 29 _ rfl
        · refine ⟨?_, Nat.le_add_right z _⟩
          exact h2 53 _ rfl
      · have hi : i < 1 := hi
        have hi : i = 0 := by omega
        subst hi
        refine ⟨?_, Nat.le_add_right z _⟩
        exact h2 78 _ rfl
      · have hi : i < 1 := hi
        have hi : i = 0 := by omega
        subst hi
        refine ⟨?_, Nat.le_add_right z _⟩
        exact h2 74 _ rfl
      · have hi : i < 20 := hi
        rcases (show i = 0 ∨ i = 1 ∨ i = 2 ∨ i = 3 ∨ i = 4 ∨ i = 5 ∨ i = 6 ∨ i = 7 ∨ i = 8 ∨ i = 9 ∨ i = 10 ∨ i = 11 ∨ i = 12 ∨ i = 13 ∨ i = 14 ∨ i = 15 ∨ i = 16 ∨ i = 17 ∨ i = 18 ∨ i = 19 by omega) with rfl | rfl | rfl | rfl | rfl | rfl | rfl | rfl | rfl | rfl | rfl | rfl | rfl | rfl | rfl | rfl | rfl | rfl | rfl | rfl
        · refine ⟨?_, Nat.le_add_right z _⟩
          exact h2 44 _ rfl
        · refine ⟨?_, Nat.le_add_right z _⟩
          exact h2 45 _ rfl
        · refine ⟨?_, Nat.le_add_right z _⟩
          exact h2 46 _ rfl
        · refine ⟨?_, Nat.le_add_right z _⟩
          exact h2 47 _ rfl
        · refine ⟨?_, Nat.le_add_right z _⟩
          exact h2 48 _ rfl
        · refine ⟨?_, Nat.le_add_right z _⟩
          exact h2 49 _ rfl
        · refine ⟨?_, Nat.le_add_right z _⟩
          exact h2 68 _ rfl
        · refine ⟨?_, Nat.le_add_right z _⟩
          exact h2 69 _ rfl
        · refine ⟨?_, Nat.le_add_right z _⟩
          exact h2 70 _ rfl
        · refine ⟨?_, Nat.le_add_right z _⟩
          exact h2 71 _ rfl
        · refine ⟨?_, Nat.le_add_right z _⟩
          exact h2 72 _ rfl
        · refine ⟨?_, Nat.le_add_right z _⟩
          exact h2 73 _ rfl
        · refine ⟨?_, Nat.le_add_right z _⟩
          exact h2 18 _ rfl
        · refine ⟨?_, Nat.le_add_right z _⟩
          exact h2 19 _ rfl
        · refine ⟨?_, Nat.le_add_right z _⟩
          exact h2 20 _ rfl
        · refine ⟨?_, Nat.le_add_right z _⟩
          exact h2 21 _ rfl
        · refine ⟨?_, Nat.le_add_right z _⟩
          exact h2 22 _ rfl
        · refine ⟨?_, Nat.le_add_right z _⟩
          exact h2 23 _ rfl
        · refine ⟨?_, Nat.le_add_right z _⟩
          exact h2 24 _ rfl
        · refine ⟨?_, Nat.le_add_right z _⟩
          exact h2 25 _ rfl
      · have hi : i < 4 := hi
        rcases (show i = 0 ∨ i = 1 ∨ i = 2 ∨ i = 3 by omega) with rfl | rfl | rfl | rfl
        · refine ⟨?_, Nat.le_add_right z _⟩
          exact h2 89 _ rfl
        · refine ⟨?_, Nat.le_add_right z _⟩
          exact h2 94 _ rfl
        · refine ⟨?_, Nat.le_add_right z _⟩
          exact h2 102 _ rfl
        · refine ⟨?_, Nat.le_add_right z _⟩
          exact h2 110 _ rfl
      · have hi : i < 3 := hi
        rcases (show i = 0 ∨ i = 1 ∨ i = 2 by omega) with rfl | rfl | rfl
        · refine ⟨?_, Nat.le_add_right z _⟩
          exact h2 93 _ rfl
        · refine ⟨?_, Nat.le_add_right z _⟩
          exact h2 101 _ rfl
        · refine ⟨?_, Nat.le_add_right z _⟩
          exact h2 109 _ rfl
      · have hi : i < 2 := hi
        rcases (show i = 0 ∨ i = 1 by omega) with rfl | rfl
        · refine ⟨?_, Nat.le_add_right z _⟩
          exact h2 26 _ rfl
        · refine ⟨?_, Nat.le_add_right z _⟩
          exact h2 50 _ rfl
      · have hi : i < 12 := hi
        rcases (show i = 0 ∨ i = 1 ∨ i = 2 ∨ i = 3 ∨ i = 4 ∨ i = 5 ∨ i = 6 ∨ i = 7 ∨ i = 8 ∨ i = 9 ∨ i = 10 ∨ i = 11 by omega) with rfl | rfl | rfl | rfl | rfl | rfl | rfl | rfl | rfl | rfl | rfl | rfl
        · refine ⟨?_, Nat.le_add_right z _⟩
          exact h2 10 _ rfl
        · refine ⟨?_, Nat.le_add_right z _⟩
          exact h2 12 _ rfl
        · refine ⟨?_, Nat.le_add_right z _⟩
          exact h2 14 _ rfl
        · refine ⟨?_, Nat.le_add_right z _⟩
          exact h2 16 _ rfl
        · refine ⟨?_, Nat.le_add_right z _⟩
          exact h2 36 _ rfl
        · refine ⟨?_, Nat.le_add_right z _⟩
          exact h2 38 _ rfl
        · refine ⟨?_, Nat.le_add_right z _⟩
          exact h2 40 _ rfl
        · refine ⟨?_, Nat.le_add_right z _⟩
          exact h2 42 _ rfl
        · refine ⟨?_, Nat.le_add_right z _⟩
          exact h2 60 _ rfl
        · refine ⟨?_, Nat.le_add_right z _⟩
          exact h2 62 _ rfl
        · refine ⟨?_, Nat.le_add_right z _⟩
          exact h2 64 _ rfl
        · refine ⟨?_, Nat.le_add_right z _⟩
          exact h2 66 _ rfl
      · have hi : i < 1 := hi
        have hi : i = 0 := by omega
        subst hi
        refine ⟨?_, Nat.le_add_right z _⟩
        exact h2 0 _ rfl
      · have hi : i < 1 := hi
        have hi : i = 0 := by omega
        subst hi
        refine ⟨?_, Nat.le_add_right z _⟩
        exact h2 87 _ rfl
      · have hi : i < 1 := hi
        have hi : i = 0 := by omega
        subst hi
        refine ⟨?_, Nat.le_add_right z _⟩
        exact h1
      · have hi : i < 1 := hi
        have hi : i = 0 := by omega
        subst hi
        refine ⟨?_, Nat.le_add_right z _⟩
        exact h3
      · have hi : i < 3 := hi
        rcases (show i = 0 ∨ i = 1 ∨ i = 2 by omega) with rfl | rfl | rfl
        · refine ⟨?_, Nat.le_add_right z _⟩
          exact h2 4 _ rfl
        · refine ⟨?_, Nat.le_add_right z _⟩
          exact h2 30 _ rfl
        · refine ⟨?_, Nat.le_add_right z _⟩
          exact h2 54 _ rfl
      · have hi : i < 3 := hi
        rcases (show i = 0 ∨ i = 1 ∨ i = 2 by omega) with rfl | rfl | rfl
        · refine ⟨?_, Nat.le_add_right z _⟩
          exact h2 5 _ rfl
        · refine ⟨?_, Nat.le_add_right z _⟩
          exact h2 31 _ rfl
        · refine ⟨?_, Nat.le_add_right z _⟩
          exact h2 55 _ rfl
      · have hi : i < 3 := hi
        rcases (show i = 0 ∨ i = 1 ∨ i = 2 by omega) with rfl | rfl | rfl
        · refine ⟨?_, Nat.le_add_right z _⟩
          exact h2 6 _ rfl
        · refine ⟨?_, Nat.le_add_right z _⟩
          exact h2 32 _ rfl
        · refine ⟨?_, Nat.le_add_right z _⟩
          exact h2 56 _ rfl
      · have hi : i < 3 := hi
        rcases (show i = 0 ∨ i = 1 ∨ i = 2 by omega) with rfl | rfl | rfl
        · refine ⟨?_, Nat.le_add_right z _⟩
          exact k_rf (fun j hj => by have hj : j < 4 := hj; rcases (show j = 0 ∨ j = 1 ∨ j = 2 ∨ j = 3 by omega) with rfl | rfl | rfl | rfl <;> rfl) (h2 7 _ rfl)
        · refine ⟨?_, Nat.le_add_right z _⟩
          exact k_rf (fun j hj => by have hj : j < 4 := hj; rcases (show j = 0 ∨ j = 1 ∨ j = 2 ∨ j = 3 by omega) with rfl | rfl | rfl | rfl <;> rfl) (h2 33 _ rfl)
        · refine ⟨?_, Nat.le_add_right z _⟩
          exact k_rf (fun j hj => by have hj : j < 4 := hj; rcases (show j = 0 ∨ j = 1 ∨ j = 2 ∨ j = 3 by omega) with rfl | rfl | rfl | rfl <;> rfl) (h2 57 _ rfl)
      · have hi : i < 3 := hi
        rcases (show i = 0 ∨ i = 1 ∨ i = 2 by omega) with rfl | rfl | rfl
        · refine ⟨?_, Nat.le_add_right z _⟩
          exact h2 8 _ rfl
        · refine ⟨?_, Nat.le_add_right z _⟩
          exact h2 34 _ rfl
        · refine ⟨?_, Nat.le_add_right z _⟩
          exact h2 58 _ rfl
      · have hi : i < 3 := hi
        rcases (show i = 0 ∨ i = 1 ∨ i = 2 by omega) with rfl | rfl | rfl
        · refine ⟨?_, Nat.le_add_right z _⟩
          exact h2 9 _ rfl
        · refine ⟨?_, Nat.le_add_right z _⟩
          exact h2 35 _ rfl
        · refine ⟨?_, Nat.le_add_right z _⟩
          exact h2 59 _ rfl
      · have hi : i < 12 := hi
        rcases (show i = 0 ∨ i = 1 ∨ i = 2 ∨ i = 3 ∨ i = 4 ∨ i = 5 ∨ i = 6 ∨ i = 7 ∨ i = 8 ∨ i = 9 ∨ i = 10 ∨ i = 11 by omega) with rfl | rfl | rfl | rfl | rfl | rfl | rfl | rfl | rfl | rfl | rfl | rfl
        · refine ⟨?_, Nat.le_add_right z _⟩
          exact h2 11 _ rfl
        · refine ⟨?_, Nat.le_add_right z _⟩
          exact h2 13 _ rfl
        · refine ⟨?_, Nat.le_add_right z _⟩
          exact h2 15 _ rfl
        · refine ⟨?_, Nat.le_add_right z _⟩
          exact h2 17 _ rfl
        · refine ⟨?_, Nat.le_add_right z _⟩
          exact h2 37 _ rfl
        · refine ⟨?_, Nat.le_add_right z _⟩
          exact h2 39 _ rfl
        · refine ⟨?_, Nat.le_add_right z _⟩
          exact h2 41 _ rfl
        · refine ⟨?_, Nat.le_add_right z _⟩
          exact h2 43 _ rfl
        · refine ⟨?_, Nat.le_add_right z _⟩
          exact h2 61 _ rfl
        · refine ⟨?_, Nat.le_add_right z _⟩
          exact h2 63 _ rfl
        · refine ⟨?_, Nat.le_add_right z _⟩
          exact h2 65 _ rfl
        · refine ⟨?_, Nat.le_add_right z _⟩
          exact h2 67 _ rfl
      · have hi : i < 1 := hi
        have hi : i = 0 := by omega
        subst hi
        refine ⟨?_, Nat.le_add_right z _⟩
        exact h2 79 _ rfl
      · have hi : i < 1 := hi
        have hi : i = 0 := by omega
        subst hi
        refine ⟨?_, Nat.le_add_right z _⟩
        exact k_rf (fun j hj => by have hj : j < 6 := hj; rcases (show j = 0 ∨ j = 1 ∨ j = 2 ∨ j = 3 ∨ j = 4 ∨ j = 5 by omega) with rfl | rfl | rfl | rfl | rfl | rfl <;> rfl) (h2 80 _ rfl)
      · have hi : i < 6 := hi
        rcases (show i = 0 ∨ i = 1 ∨ i = 2 ∨ i = 3 ∨ i = 4 ∨ i = 5 by omega) with rfl | rfl | rfl | rfl | rfl | rfl
        · refine ⟨?_, Nat.le_add_right z _⟩
          exact h2 81 _ rfl
        · refine ⟨?_, Nat.le_add_right z _⟩
          exact h2 82 _ rfl
        · refine ⟨?_, Nat.le_add_right z _⟩
          exact h2 83 _ rfl
        · refine ⟨?_, Nat.le_add_right z _⟩
          exact h2 84 _ rfl
        · refine ⟨?_, Nat.le_add_right z _⟩
          exact h2 85 _ rfl
        · refine ⟨?_, Nat.le_add_right z _⟩
          exact h2 86 _ rfl
      · have hi : i < 1 := hi
        have hi : i = 0 := by omega
        subst hi
        refine ⟨?_, Nat.le_add_right z _⟩
        exact h2 75 _ rfl
      · have hi : i < 1 := hi
        have hi : i = 0 := by omega
        subst hi
        refine ⟨?_, Nat.le_add_right z _⟩
        exact h2 76 _ rfl
      · have hi : i < 1 := hi
        have hi : i = 0 := by omega
        subst hi
        refine ⟨?_, Nat.le_add_right z _⟩
        exact h2 77 _ rfl
      · have hi : i < 4 := hi
        rcases (show i = 0 ∨ i = 1 ∨ i = 2 ∨ i = 3 by omega) with rfl | rfl | rfl | rfl
        · refine ⟨?_, Nat.le_add_right z _⟩
          exact h2 90 _ rfl
        · refine ⟨?_, Nat.le_add_right z _⟩
          exact h2 95 _ rfl
        · refine ⟨?_, Nat.le_add_right z _⟩
          exact h2 103 _ rfl
        · refine ⟨?_, Nat.le_add_right z _⟩
          exact h2 111 _ rfl
      · have hi : i < 4 := hi
        rcases (show i = 0 ∨ i = 1 ∨ i = 2 ∨ i = 3 by omega) with rfl | rfl | rfl | rfl
        · refine ⟨?_, Nat.le_add_right z _⟩
          exact h2 91 _ rfl
        · refine ⟨?_, Nat.le_add_right z _⟩
          exact h2 96 _ rfl
        · refine ⟨?_, Nat.le_add_right z _⟩
          exact h2 104 _ rfl
        · refine ⟨?_, Nat.le_add_right z _⟩
          exact h2 112 _ rfl
      · have hi : i < 3 := hi
        rcases (show i = 0 ∨ i = 1 ∨ i = 2 by omega) with rfl | rfl | rfl
        · refine ⟨?_, Nat.le_add_right z _⟩
          exact h2 97 _ rfl
        · refine ⟨?_, Nat.le_add_right z _⟩
          exact h2 105 _ rfl
        · refine ⟨?_, Nat.le_add_right z _⟩
          exact h2 113 _ rfl
      · have hi : i < 3 := hi
        rcases (show i = 0 ∨ i = 1 ∨ i = 2 by omega) with rfl | rfl | rfl
        · refine ⟨?_, Nat.le_add_right z _⟩
          exact h2 98 _ rfl
        · refine ⟨?_, Nat.le_add_right z _⟩
          exact h2 106 _ rfl
        · refine ⟨?_, Nat.le_add_right z _⟩
          exact h2 114 _ rfl
      · have hi : i < 3 := hi
        rcases (show i = 0 ∨ i = 1 ∨ i = 2 by omega) with rfl | rfl | rfl
        · refine ⟨?_, Nat.le_add_right z _⟩
          exact h2 99 _ rfl
        · refine ⟨?_, Nat.le_add_right z _⟩
          exact h2 107 _ rfl
        · refine ⟨?_, Nat.le_add_right z _⟩
          exact h2 115 _ rfl
      · have hi : i < 3 := hi
        rcases (show i = 0 ∨ i = 1 ∨ i = 2 by omega) with rfl | rfl | rfl
        · refine ⟨?_, Nat.le_add_right z _⟩
          exact h2 100 _ rfl
        · refine ⟨?_, Nat.le_add_right z _⟩
          exact h2 108 _ rfl
        · refine ⟨?_, Nat.le_add_right z _⟩
          exact h2 116 _ rfl
      · have hi : i < 2 := hi
        rcases (show i = 0 ∨ i = 1 by omega) with rfl | rfl
        · refine ⟨?_, Nat.le_add_right z _⟩
          exact k_rf (fun j hj => by have hj : j < 6 := hj; rcases (show j = 0 ∨ j = 1 ∨ j = 2 ∨ j = 3 ∨ j = 4 ∨ j = 5 by omega) with rfl | rfl | rfl | rfl | rfl | rfl <;> rfl) (h2 27 _ rfl)
        · refine ⟨?_, Nat.le_add_right z _⟩
          exact k_rf (fun j hj => by have hj : j < 6 := hj; rcases (show j = 0 ∨ j = 1 ∨ j = 2 ∨ j = 3 ∨ j = 4 ∨ j = 5 by omega) with rfl | rfl | rfl | rfl | rfl | rfl <;> rfl) (h2 51 _ rfl)
      · have hi : i < 2 := hi
        rcases (show i = 0 ∨ i = 1 by omega) with rfl | rfl
        · refine ⟨?_, Nat.le_add_right z _⟩
          exact h2 28 _ rfl
        · refine ⟨?_, Nat.le_add_right z _⟩
          exact h2 52 _ rfl
      · have hi : i < 1 := hi
        have hi : i = 0 := by omega
        subst hi
        refine ⟨?_, Nat.le_add_right z _⟩
        exact h2 1 _ rfl
      · have hi : i < 1 := hi
        have hi : i = 0 := by omega
        subst hi
        refine ⟨?_, Nat.le_add_right z _⟩
        exact k_rf (fun j hj => by have hj : j < 8 := hj; rcases (show j = 0 ∨ j = 1 ∨ j = 2 ∨ j = 3 ∨ j = 4 ∨ j = 5 ∨ j = 6 ∨ j = 7 by omega) with rfl | rfl | rfl | rfl | rfl | rfl | rfl | rfl <;> rfl) (h2 2 _ rfl)
      · have hi : i < 1 := hi
        have hi : i = 0 := by omega
        subst hi
        refine ⟨?_, Nat.le_add_right z _⟩
        exact h2 88 _ rfl
      · have hi : i < 1 := hi
        have hi : i = 0 := by omega
        subst hi
        refine ⟨?_, Nat.le_add_right z _⟩
        exact k_rf (fun j hj => by have hj : j < 3 := hj; rcases (show j = 0 ∨ j = 1 ∨ j = 2 by omega) with rfl | rfl | rfl <;> rfl) (h2 92 _ rfl)
      · have hi : i < 1 := hi
        have hi : i = 0 := by omega
        subst hi
        refine ⟨?_, Nat.le_add_right z _⟩
        exact h4 0 _ rfl
      · have hi : i < 1 := hi
        have hi : i = 0 := by omega
        subst hi
        refine ⟨?_, Nat.le_add_right z _⟩
        exact h4 1 _ rfl
      · have hi : i < 1 := hi
        have hi : i = 0 := by omega
        subst hi
        refine ⟨?_, Nat.le_add_right z _⟩
        exact h4 2 _ rfl
      · have hi : i < 1 := hi
        have hi : i = 0 := by omega
        subst hi
        refine ⟨?_, Nat.le_add_right z _⟩
        exact h4 3 _ rfl
      · have hi : i < 1 := hi
        have hi : i = 0 := by omega
        subst hi
        refine ⟨?_, Nat.le_add_right z _⟩
        exact h4 4 _ rfl
      · have hi : i < 1 := hi
        have hi : i = 0 := by omega
        subst hi
        refine ⟨?_, Nat.le_add_right z _⟩
        exact h4 5 _ rfl
      · have hi : i < 1 := hi
        have hi : i = 0 := by omega
        subst hi
        refine ⟨?_, Nat.le_add_right z _⟩
        exact h4 6 _ rfl
      · have hi : i < 1 := hi
        have hi : i = 0 := by omega
        subst hi
        refine ⟨?_, Nat.le_add_right z _⟩
        exact h4 7 _ rfl
      · have hi : i < 1 := hi
        have hi : i = 0 := by omega
        subst hi
        refine ⟨?_, Nat.le_add_right z _⟩
        exact h4 8 _ rfl
      · have hi : i < 1 := hi
        have hi : i = 0 := by omega
        subst hi
        refine ⟨?_, Nat.le_add_right z _⟩
        exact h4 9 _ rfl
      · have hi : i < 1 := hi
        have hi : i = 0 := by omega
        subst hi
        refine ⟨?_, Nat.le_add_right z _⟩
        exact h4 10 _ rfl
      · have hi : i < 1 := hi
        have hi : i = 0 := by omega
        subst hi
        refine ⟨?_, Nat.le_add_right z _⟩
        show va_at D vwCl (z + 130, .inl (cA 61, 1, .inr (.inl (fun _ => (0 : Int32).toInt64)))) H; rw [show (0 : Int32).toInt64 = (0 : Int64) by decide]; exact h5
      · rcases hR2 with rfl | rfl | rfl | rfl | rfl | rfl | rfl | rfl | rfl | rfl | rfl | rfl | rfl <;> exact absurd hi (Nat.not_lt_zero _)
    · exfalso
      unfold jCntN at hi
      split at hi <;> omega
  have hinv : ∀ R i, i < jCntN 3 R → z ≤ jg0 z sA sB R i ∧ jg1inv (jg0 z sA sB R i - z) = (R, i) := by
    intro R i hi
    refine ⟨(hc R i (by rw [← jnb_0] at hi; exact hi)).2, ?_⟩
    have hR : R < 62 := by
      apply Nat.lt_of_not_le
      intro q
      unfold jCntN at hi
      split at hi <;> omega
    have hR2 : R = 0 ∨ R = 1 ∨ R = 2 ∨ R = 3 ∨ R = 4 ∨ R = 5 ∨ R = 6 ∨ R = 7 ∨ R = 8 ∨ R = 9 ∨ R = 10 ∨ R = 11 ∨ R = 20 ∨ R = 21 ∨ R = 22 ∨ R = 23 ∨ R = 24 ∨ R = 25 ∨ R = 26 ∨ R = 27 ∨ R = 28 ∨ R = 29 ∨ R = 30 ∨ R = 31 ∨ R = 32 ∨ R = 33 ∨ R = 34 ∨ R = 35 ∨ R = 36 ∨ R = 37 ∨ R = 38 ∨ R = 39 ∨ R = 40 ∨ R = 41 ∨ R = 42 ∨ R = 43 ∨ R = 44 ∨ R = 50 ∨ R = 51 ∨ R = 52 ∨ R = 53 ∨ R = 54 ∨ R = 55 ∨ R = 56 ∨ R = 57 ∨ R = 58 ∨ R = 59 ∨ R = 60 ∨ R = 61 ∨ ((R = 12 ∨ R = 13 ∨ R = 14 ∨ R = 15 ∨ R = 16 ∨ R = 17 ∨ R = 18 ∨ R = 19 ∨ R = 45 ∨ R = 46 ∨ R = 47 ∨ R = 48 ∨ R = 49)) := by omega
    rcases hR2 with rfl | rfl | rfl | rfl | rfl | rfl | rfl | rfl | rfl | rfl | rfl | rfl | rfl | rfl | rfl | rfl | rfl | rfl | rfl | rfl | rfl | rfl | rfl | rfl | rfl | rfl | rfl | rfl | rfl | rfl | rfl | rfl | rfl | rfl | rfl | rfl | rfl | rfl | rfl | rfl | rfl | rfl | rfl | rfl | rfl | rfl | rfl | rfl | rfl | hR2
    · have hi : i < 3 := hi
      rcases (show i = 0 ∨ i = 1 ∨ i = 2 by omega) with rfl | rfl | rfl
      · show jg1inv (z + 4 - z) = _; rw [Nat.add_sub_cancel_left]; rfl
      · show jg1inv (z + 30 - z) = _; rw [Nat.add_sub_cancel_left]; rfl
      · show jg1inv (z + 54 - z) = _; rw [Nat.add_sub_cancel_left]; rfl
    · have hi : i < 1 := hi
      have hi : i = 0 := by omega
      subst hi
      show jg1inv (z + 79 - z) = _
      rw [Nat.add_sub_cancel_left]; rfl
    · have hi : i < 1 := hi
      have hi : i = 0 := by omega
      subst hi
      show jg1inv (z + 75 - z) = _
      rw [Nat.add_sub_cancel_left]; rfl
    · have hi : i < 20 := hi
      rcases (show i = 0 ∨ i = 1 ∨ i = 2 ∨ i = 3 ∨ i = 4 ∨ i = 5 ∨ i = 6 ∨ i = 7 ∨ i = 8 ∨ i = 9 ∨ i = 10 ∨ i = 11 ∨ i = 12 ∨ i = 13 ∨ i = 14 ∨ i = 15 ∨ i = 16 ∨ i = 17 ∨ i = 18 ∨ i = 19 by omega) with rfl | rfl | rfl | rfl | rfl | rfl | rfl | rfl | rfl | rfl | rfl | rfl | rfl | rfl | rfl | rfl | rfl | rfl | rfl | rfl
      · show jg1inv (z + 45 - z) = _; rw [Nat.add_sub_cancel_left]; rfl
      · show jg1inv (z + 46 - z) = _; rw [Nat.add_sub_cancel_left]; rfl
      · show jg1inv (z + 47 - z) = _; rw [Nat.add_sub_cancel_left]; rfl
      · show jg1inv (z + 48 - z) = _; rw [Nat.add_sub_cancel_left]; rfl
      · show jg1inv (z + 49 - z) = _; rw [Nat.add_sub_cancel_left]; rfl
      · show jg1inv (z + 50 - z) = _; rw [Nat.add_sub_cancel_left]; rfl
      · show jg1inv (z + 69 - z) = _; rw [Nat.add_sub_cancel_left]; rfl
      · show jg1inv (z + 70 - z) = _; rw [Nat.add_sub_cancel_left]; rfl
      · show jg1inv (z + 71 - z) = _; rw [Nat.add_sub_cancel_left]; rfl
      · show jg1inv (z + 72 - z) = _; rw [Nat.add_sub_cancel_left]; rfl
      · show jg1inv (z + 73 - z) = _; rw [Nat.add_sub_cancel_left]; rfl
      · show jg1inv (z + 74 - z) = _; rw [Nat.add_sub_cancel_left]; rfl
      · show jg1inv (z + 19 - z) = _; rw [Nat.add_sub_cancel_left]; rfl
      · show jg1inv (z + 20 - z) = _; rw [Nat.add_sub_cancel_left]; rfl
      · show jg1inv (z + 21 - z) = _; rw [Nat.add_sub_cancel_left]; rfl
      · show jg1inv (z + 22 - z) = _; rw [Nat.add_sub_cancel_left]; rfl
      · show jg1inv (z + 23 - z) = _; rw [Nat.add_sub_cancel_left]; rfl
      · show jg1inv (z + 24 - z) = _; rw [Nat.add_sub_cancel_left]; rfl
      · show jg1inv (z + 25 - z) = _; rw [Nat.add_sub_cancel_left]; rfl
      · show jg1inv (z + 26 - z) = _; rw [Nat.add_sub_cancel_left]; rfl
    · have hi : i < 4 := hi
      rcases (show i = 0 ∨ i = 1 ∨ i = 2 ∨ i = 3 by omega) with rfl | rfl | rfl | rfl
      · show jg1inv (z + 90 - z) = _; rw [Nat.add_sub_cancel_left]; rfl
      · show jg1inv (z + 95 - z) = _; rw [Nat.add_sub_cancel_left]; rfl
      · show jg1inv (z + 103 - z) = _; rw [Nat.add_sub_cancel_left]; rfl
      · show jg1inv (z + 111 - z) = _; rw [Nat.add_sub_cancel_left]; rfl
    · have hi : i < 3 := hi
      rcases (show i = 0 ∨ i = 1 ∨ i = 2 by omega) with rfl | rfl | rfl
      · show jg1inv (z + 94 - z) = _; rw [Nat.add_sub_cancel_left]; rfl
      · show jg1inv (z + 102 - z) = _; rw [Nat.add_sub_cancel_left]; rfl
      · show jg1inv (z + 110 - z) = _; rw [Nat.add_sub_cancel_left]; rfl
    · have hi : i < 2 := hi
      rcases (show i = 0 ∨ i = 1 by omega) with rfl | rfl
      · show jg1inv (z + 27 - z) = _; rw [Nat.add_sub_cancel_left]; rfl
      · show jg1inv (z + 51 - z) = _; rw [Nat.add_sub_cancel_left]; rfl
    · have hi : i < 12 := hi
      rcases (show i = 0 ∨ i = 1 ∨ i = 2 ∨ i = 3 ∨ i = 4 ∨ i = 5 ∨ i = 6 ∨ i = 7 ∨ i = 8 ∨ i = 9 ∨ i = 10 ∨ i = 11 by omega) with rfl | rfl | rfl | rfl | rfl | rfl | rfl | rfl | rfl | rfl | rfl | rfl
      · show jg1inv (z + 11 - z) = _; rw [Nat.add_sub_cancel_left]; rfl
      · show jg1inv (z + 13 - z) = _; rw [Nat.add_sub_cancel_left]; rfl
      · show jg1inv (z + 15 - z) = _; rw [Nat.add_sub_cancel_left]; rfl
      · show jg1inv (z + 17 - z) = _; rw [Nat.add_sub_cancel_left]; rfl
      · show jg1inv (z + 37 - z) = _; rw [Nat.add_sub_cancel_left]; rfl
      · show jg1inv (z + 39 - z) = _; rw [Nat.add_sub_cancel_left]; rfl
      · show jg1inv (z + 41 - z) = _; rw [Nat.add_sub_cancel_left]; rfl
      · show jg1inv (z + 43 - z) = _; rw [Nat.add_sub_cancel_left]; rfl
      · show jg1inv (z + 61 - z) = _; rw [Nat.add_sub_cancel_left]; rfl
      · show jg1inv (z + 63 - z) = _; rw [Nat.add_sub_cancel_left]; rfl
      · show jg1inv (z + 65 - z) = _; rw [Nat.add_sub_cancel_left]; rfl
      · show jg1inv (z + 67 - z) = _; rw [Nat.add_sub_cancel_left]; rfl
    · have hi : i < 1 := hi
      have hi : i = 0 := by omega
      subst hi
      show jg1inv (z + 1 - z) = _
      rw [Nat.add_sub_cancel_left]; rfl
    · have hi : i < 1 := hi
      have hi : i = 0 := by omega
      subst hi
      show jg1inv (z + 88 - z) = _
      rw [Nat.add_sub_cancel_left]; rfl
    · have hi : i < 1 := hi
      have hi : i = 0 := by omega
      subst hi
      show jg1inv (z + 0 - z) = _
      rw [Nat.add_sub_cancel_left]; rfl
    · have hi : i < 1 := hi
      have hi : i = 0 := by omega
      subst hi
      show jg1inv (z + 118 - z) = _
      rw [Nat.add_sub_cancel_left]; rfl
    · have hi : i < 3 := hi
      rcases (show i = 0 ∨ i = 1 ∨ i = 2 by omega) with rfl | rfl | rfl
      · show jg1inv (z + 5 - z) = _; rw [Nat.add_sub_cancel_left]; rfl
      · show jg1inv (z + 31 - z) = _; rw [Nat.add_sub_cancel_left]; rfl
      · show jg1inv (z + 55 - z) = _; rw [Nat.add_sub_cancel_left]; rfl
    · have hi : i < 3 := hi
      rcases (show i = 0 ∨ i = 1 ∨ i = 2 by omega) with rfl | rfl | rfl
      · show jg1inv (z + 6 - z) = _; rw [Nat.add_sub_cancel_left]; rfl
      · show jg1inv (z + 32 - z) = _; rw [Nat.add_sub_cancel_left]; rfl
      · show jg1inv (z + 56 - z) = _; rw [Nat.add_sub_cancel_left]; rfl
    · have hi : i < 3 := hi
      rcases (show i = 0 ∨ i = 1 ∨ i = 2 by omega) with rfl | rfl | rfl
      · show jg1inv (z + 7 - z) = _; rw [Nat.add_sub_cancel_left]; rfl
      · show jg1inv (z + 33 - z) = _; rw [Nat.add_sub_cancel_left]; rfl
      · show jg1inv (z + 57 - z) = _; rw [Nat.add_sub_cancel_left]; rfl
    · have hi : i < 3 := hi
      rcases (show i = 0 ∨ i = 1 ∨ i = 2 by omega) with rfl | rfl | rfl
      · show jg1inv (z + 8 - z) = _; rw [Nat.add_sub_cancel_left]; rfl
      · show jg1inv (z + 34 - z) = _; rw [Nat.add_sub_cancel_left]; rfl
      · show jg1inv (z + 58 - z) = _; rw [Nat.add_sub_cancel_left]; rfl
    · have hi : i < 3 := hi
      rcases (show i = 0 ∨ i = 1 ∨ i = 2 by omega) with rfl | rfl | rfl
      · show jg1inv (z + 9 - z) = _; rw [Nat.add_sub_cancel_left]; rfl
      · show jg1inv (z + 35 - z) = _; rw [Nat.add_sub_cancel_left]; rfl
      · show jg1inv (z + 59 - z) = _; rw [Nat.add_sub_cancel_left]; rfl
    · have hi : i < 3 := hi
      rcases (show i = 0 ∨ i = 1 ∨ i = 2 by omega) with rfl | rfl | rfl
      · show jg1inv (z + 10 - z) = _; rw [Nat.add_sub_cancel_left]; rfl
      · show jg1inv (z + 36 - z) = _; rw [Nat.add_sub_cancel_left]; rfl
      · show jg1inv (z + 60 - z) = _; rw [Nat.add_sub_cancel_left]; rfl
    · have hi : i < 12 := hi
      rcases (show i = 0 ∨ i = 1 ∨ i = 2 ∨ i = 3 ∨ i = 4 ∨ i = 5 ∨ i = 6 ∨ i = 7 ∨ i = 8 ∨ i = 9 ∨ i = 10 ∨ i = 11 by omega) with rfl | rfl | rfl | rfl | rfl | rfl | rfl | rfl | rfl | rfl | rfl | rfl
      · show jg1inv (z + 12 - z) = _; rw [Nat.add_sub_cancel_left]; rfl
      · show jg1inv (z + 14 - z) = _; rw [Nat.add_sub_cancel_left]; rfl
      · show jg1inv (z + 16 - z) = _; rw [Nat.add_sub_cancel_left]; rfl
      · show jg1inv (z + 18 - z) = _; rw [Nat.add_sub_cancel_left]; rfl
      · show jg1inv (z + 38 - z) = _; rw [Nat.add_sub_cancel_left]; rfl
      · show jg1inv (z + 40 - z) = _; rw [Nat.add_sub_cancel_left]; rfl
      · show jg1inv (z + 42 - z) = _; rw [Nat.add_sub_cancel_left]; rfl
      · show jg1inv (z + 44 - z) = _; rw [Nat.add_sub_cancel_left]; rfl
      · show jg1inv (z + 62 - z) = _; rw [Nat.add_sub_cancel_left]; rfl
      · show jg1inv (z + 64 - z) = _; rw [Nat.add_sub_cancel_left]; rfl
      · show jg1inv (z + 66 - z) = _; rw [Nat.add_sub_cancel_left]; rfl
      · show jg1inv (z + 68 - z) = _; rw [Nat.add_sub_cancel_left]; rfl
    · have hi : i < 1 := hi
      have hi : i = 0 := by omega
      subst hi
      show jg1inv (z + 80 - z) = _
      rw [Nat.add_sub_cancel_left]; rfl
    · have hi : i < 1 := hi
      have hi : i = 0 := by omega
      subst hi
      show jg1inv (z + 81 - z) = _
      rw [Nat.add_sub_cancel_left]; rfl
    · have hi : i < 6 := hi
      rcases (show i = 0 ∨ i = 1 ∨ i = 2 ∨ i = 3 ∨ i = 4 ∨ i = 5 by omega) with rfl | rfl | rfl | rfl | rfl | rfl
      · show jg1inv (z + 82 - z) = _; rw [Nat.add_sub_cancel_left]; rfl
      · show jg1inv (z + 83 - z) = _; rw [Nat.add_sub_cancel_left]; rfl
      · show jg1inv (z + 84 - z) = _; rw [Nat.add_sub_cancel_left]; rfl
      · show jg1inv (z + 85 - z) = _; rw [Nat.add_sub_cancel_left]; rfl
      · show jg1inv (z + 86 - z) = _; rw [Nat.add_sub_cancel_left]; rfl
      · show jg1inv (z + 87 - z) = _; rw [Nat.add_sub_cancel_left]; rfl
    · have hi : i < 1 := hi
      have hi : i = 0 := by omega
      subst hi
      show jg1inv (z + 76 - z) = _
      rw [Nat.add_sub_cancel_left]; rfl
    · have hi : i < 1 := hi
      have hi : i = 0 := by omega
      subst hi
      show jg1inv (z + 77 - z) = _
      rw [Nat.add_sub_cancel_left]; rfl
    · have hi : i < 1 := hi
      have hi : i = 0 := by omega
      subst hi
      show jg1inv (z + 78 - z) = _
      rw [Nat.add_sub_cancel_left]; rfl
    · have hi : i < 4 := hi
      rcases (show i = 0 ∨ i = 1 ∨ i = 2 ∨ i = 3 by omega) with rfl | rfl | rfl | rfl
      · show jg1inv (z + 91 - z) = _; rw [Nat.add_sub_cancel_left]; rfl
      · show jg1inv (z + 96 - z) = _; rw [Nat.add_sub_cancel_left]; rfl
      · show jg1inv (z + 104 - z) = _; rw [Nat.add_sub_cancel_left]; rfl
      · show jg1inv (z + 112 - z) = _; rw [Nat.add_sub_cancel_left]; rfl
    · have hi : i < 4 := hi
      rcases (show i = 0 ∨ i = 1 ∨ i = 2 ∨ i = 3 by omega) with rfl | rfl | rfl | rfl
      · show jg1inv (z + 92 - z) = _; rw [Nat.add_sub_cancel_left]; rfl
      · show jg1inv (z + 97 - z) = _; rw [Nat.add_sub_cancel_left]; rfl
      · show jg1inv (z + 105 - z) = _; rw [Nat.add_sub_cancel_left]; rfl
      · show jg1inv (z + 113 - z) = _; rw [Nat.add_sub_cancel_left]; rfl
    · have hi : i < 3 := hi
      rcases (show i = 0 ∨ i = 1 ∨ i = 2 by omega) with rfl | rfl | rfl
      · show jg1inv (z + 98 - z) = _; rw [Nat.add_sub_cancel_left]; rfl
      · show jg1inv (z + 106 - z) = _; rw [Nat.add_sub_cancel_left]; rfl
      · show jg1inv (z + 114 - z) = _; rw [Nat.add_sub_cancel_left]; rfl
    · have hi : i < 3 := hi
      rcases (show i = 0 ∨ i = 1 ∨ i = 2 by omega) with rfl | rfl | rfl
      · show jg1inv (z + 99 - z) = _; rw [Nat.add_sub_cancel_left]; rfl
      · show jg1inv (z + 107 - z) = _; rw [Nat.add_sub_cancel_left]; rfl
      · show jg1inv (z + 115 - z) = _; rw [Nat.add_sub_cancel_left]; rfl
    · have hi : i < 3 := hi
      rcases (show i = 0 ∨ i = 1 ∨ i = 2 by omega) with rfl | rfl | rfl
      · show jg1inv (z + 100 - z) = _; rw [Nat.add_sub_cancel_left]; rfl
      · show jg1inv (z + 108 - z) = _; rw [Nat.add_sub_cancel_left]; rfl
      · show jg1inv (z + 116 - z) = _; rw [Nat.add_sub_cancel_left]; rfl
    · have hi : i < 3 := hi
      rcases (show i = 0 ∨ i = 1 ∨ i = 2 by omega) with rfl | rfl | rfl
      · show jg1inv (z + 101 - z) = _; rw [Nat.add_sub_cancel_left]; rfl
      · show jg1inv (z + 109 - z) = _; rw [Nat.add_sub_cancel_left]; rfl
      · show jg1inv (z + 117 - z) = _; rw [Nat.add_sub_cancel_left]; rfl
    · have hi : i < 2 := hi
      rcases (show i = 0 ∨ i = 1 by omega) with rfl | rfl
      · show jg1inv (z + 28 - z) = _; rw [Nat.add_sub_cancel_left]; rfl
      · show jg1inv (z + 52 - z) = _; rw [Nat.add_sub_cancel_left]; rfl
    · have hi : i < 2 := hi
      rcases (show i = 0 ∨ i = 1 by omega) with rfl | rfl
      · show jg1inv (z + 29 - z) = _; rw [Nat.add_sub_cancel_left]; rfl
      · show jg1inv (z + 53 - z) = _; rw [Nat.add_sub_cancel_left]; rfl
    · have hi : i < 1 := hi
      have hi : i = 0 := by omega
      subst hi
      show jg1inv (z + 2 - z) = _
      rw [Nat.add_sub_cancel_left]; rfl
    · have hi : i < 1 := hi
      have hi : i = 0 := by omega
      subst hi
      show jg1inv (z + 3 - z) = _
      rw [Nat.add_sub_cancel_left]; rfl
    · have hi : i < 1 := hi
      have hi : i = 0 := by omega
      subst hi
      show jg1inv (z + 89 - z) = _
      rw [Nat.add_sub_cancel_left]; rfl
    · have hi : i < 1 := hi
      have hi : i = 0 := by omega
      subst hi
      show jg1inv (z + 93 - z) = _
      rw [Nat.add_sub_cancel_left]; rfl
    · have hi : i < 1 := hi
      have hi : i = 0 := by omega
      subst hi
      show jg1inv (z + 119 - z) = _
      rw [Nat.add_sub_cancel_left]; rfl
    · have hi : i < 1 := hi
      have hi : i = 0 := by omega
      subst hi
      show jg1inv (z + 120 - z) = _
      rw [Nat.add_sub_cancel_left]; rfl
    · have hi : i < 1 := hi
      have hi : i = 0 := by omega
      subst hi
      show jg1inv (z + 121 - z) = _
      rw [Nat.add_sub_cancel_left]; rfl
    · have hi : i < 1 := hi
      have hi : i = 0 := by omega
      subst hi
      show jg1inv (z + 122 - z) = _
      rw [Nat.add_sub_cancel_left]; rfl
    · have hi : i < 1 := hi
      have hi : i = 0 := by omega
      subst hi
      show jg1inv (z + 123 - z) = _
      rw [Nat.add_sub_cancel_left]; rfl
    · have hi : i < 1 := hi
      have hi : i = 0 := by omega
      subst hi
      show jg1inv (z + 124 - z) = _
      rw [Nat.add_sub_cancel_left]; rfl
    · have hi : i < 1 := hi
      have hi : i = 0 := by omega
      subst hi
      show jg1inv (z + 125 - z) = _
      rw [Nat.add_sub_cancel_left]; rfl
    · have hi : i < 1 := hi
      have hi : i = 0 := by omega
      subst hi
      show jg1inv (z + 126 - z) = _
      rw [Nat.add_sub_cancel_left]; rfl
    · have hi : i < 1 := hi
      have hi : i = 0 := by omega
      subst hi
      show jg1inv (z + 127 - z) = _
      rw [Nat.add_sub_cancel_left]; rfl
    · have hi : i < 1 := hi
      have hi : i = 0 := by omega
      subst hi
      show jg1inv (z + 128 - z) = _
      rw [Nat.add_sub_cancel_left]; rfl
    · have hi : i < 1 := hi
      have hi : i = 0 := by omega
      subst hi
      show jg1inv (z + 129 - z) = _
      rw [Nat.add_sub_cancel_left]; rfl
    · have hi : i < 1 := hi
      have hi : i = 0 := by omega
      subst hi
      show jg1inv (z + 130 - z) = _
      rw [Nat.add_sub_cancel_left]; rfl
    · rcases hR2 with rfl | rfl | rfl | rfl | rfl | rfl | rfl | rfl | rfl | rfl | rfl | rfl | rfl <;> exact absurd hi (Nat.not_lt_zero _)
  refine ⟨hc, fun R i R' i' hi hi' e => ?_, fun i hi => ?_⟩
  · have a1 := (hinv R i (by rw [← jnb_0]; exact hi)).2
    have a2 := (hinv R' i' (by rw [← jnb_0]; exact hi')).2
    rw [e] at a1
    have := a1.symm.trans a2
    exact ⟨congrArg Prod.fst this, congrArg Prod.snd this⟩
  · rw [jnb_0]
    rcases (show i = 0 ∨ i = 1 ∨ i = 2 ∨ i = 3 ∨ i = 4 ∨ i = 5 ∨ i = 6 ∨ i = 7 ∨ i = 8 ∨ i = 9 ∨ i = 10 ∨ i = 11 ∨ i = 12 ∨ i = 13 ∨ i = 14 ∨ i = 15 ∨ i = 16 ∨ i = 17 ∨ i = 18 ∨ i = 19 by omega) with rfl | rfl | rfl | rfl | rfl | rfl | rfl | rfl | rfl | rfl | rfl | rfl | rfl | rfl | rfl | rfl | rfl | rfl | rfl | rfl <;> decide
