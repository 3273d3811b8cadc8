/-! ===== the class reads: products and sums from factors ===== -/
set_option maxHeartbeats 4000000 in
set_option maxRecDepth 100000 in
theorem jn_ok {M : jM} {b : Nat} {len : Int} {tx : Int → Int} {v : Int → Int} {s p f0 rd q h h2 : Int} {st : List Int} {Q : Int32 → Nat → jM → Prop} (hP : PI v s (p + 1) f0 rd (h2 :: h :: st)) (hT : CT M len tx p) (hC : CB M b v s f0 rd) (hq : 0 ≤ q ∧ q ≤ 2)
    (hQ : ∀ M1, fq (cB b) M M1 → CT M1 len tx p → M1 8 0 5 = M 8 0 5 → CB M1 b (tkV s v (101 + q)) s f0 rd → PI (tkV s v (101 + q)) s (p + 1) f0 rd ((1 + max h h2) :: st) → Q (zI (1 + max h h2)) 0 M1) : ok_X8_join b (zI q) (zI h) (zI h2) M Q := by
  have hh2 := PI_h hP
  have hh : 0 ≤ h ∧ h ≤ 120 := by
    have h1 := hP.2.2.2.2.2.2.1.2.2 h (by simp)
    have h3 := hP.2.2.2.2.2.2.1.1.1
    omega
  have hf := hP.2.2.2.1
  simp at hf
  have hl2 := hT.1.1
  have hp := hT.2.1
  refine en_X8_join (bl_X8_join_0 _ _ _ _ _ _ hC.1 ?_)
  refine ⟨fun w => absurd w (ne1 hh2), fun _ => ?_⟩
  refine ao_ok hP hC (by omega) hq (fun M1 b1 b2 b3 => ⟨fq_nbB b1, ?_⟩)
  rw [z_max (by omega), z_1, z_add, zc (show max h h2 + 1 = 1 + max h h2 by omega)]
  exact hQ M1 b1 (CT_8 hT b1 b2) (by rw [b2]) b3 (PI_tk hP (by simp; omega) (Or.inl (by omega)) (hst_o (by omega)))
theorem stT_K {s : Int} {W : List Int} {v : Int → Int} (h : KP W) : stT s W v = (W, v) := by
  cases W with
  | nil => rfl
  | cons x W =>
    unfold stT
    rw [if_neg (fun e => h (by rw [e]; rfl))]
theorem stA_K {s : Int} {W : List Int} {v : Int → Int} (h : KS W) : stA s W v = (W, v) := by
  cases W with
  | nil => rfl
  | cons x W =>
    unfold stA
    rcases h with h | h
    · cases h
    · rw [if_pos (by simpa using h)]
theorem KS_P {W : List Int} (h : KS W) : KP W := by
  unfold KP
  rcases h with h | h
  · rw [h]; simp
  · rw [h]; simp
set_option maxHeartbeats 4000000 in
set_option maxRecDepth 100000 in
theorem PP_of {len : Int} {tx : Int → Int} {b : Nat} {s f0 o : Int} (ho : 0 ≤ o ∧ o ≤ 3) (hF : PFs len tx b s f0 o) : PPs len tx b s f0 o := by
  intro M p rd v st Q hT hC hP hl hA hB
  have hl2 := hT.1.1
  have hp := hT.2.1
  have stop : ∀ M1 n, fq (cF b) M M1 → 0 ≤ n → n < 120 → Q (-1) 0 M1 → at_X8_parseProduct_10 (3 - o).toNat b (zI o) (-1) (zI n) M1 Q := fun M1 n hf n0 n1 h =>
    bl_X8_parseProduct_10 _ _ _ _ _ _ _ (by rw [fq_nbF hf]; exact hC.1) ⟨fun w => (by rw [z_120, z_leF (by omega)] at w; exact w.elim), fun _ => ⟨fun _ => h, fun w => absurd rfl w⟩⟩
  have loop : ∀ (d : Nat) (p1 n rd1 h : Int) (v1 : Int → Int) (M1 : jM), len - p1 ≤ d → 0 ≤ n → n < p1 → p < p1 → fq (cB b) M M1 → CT M1 len tx p1 → M1 8 0 5 = M 8 0 5 → CB M1 b v1 s f0 rd1 → PI v1 s (p1 + 1) f0 rd1 (h :: st) → (∀ W r, KP W → Fin (chr len tx) s p1 false W o rd1 v1 r → Fin (chr len tx) s p true W o rd v r) → at_X8_parseProduct_10 (3 - o).toNat b (zI o) (zI h) (zI n) M1 Q := by
    intro d
    induction d with
    | zero =>
      intro p1 n rd1 h v1 M1 hd n0 n1 hp1 g1 g2 g3 g4 g5 g8
      have hp1l := g2.2.1
      obtain ⟨z, ez, hz⟩ := jpk_e g2
      refine bl_X8_parseProduct_10 _ _ _ _ _ _ _ g4.1 ?_
      rw [ez, z_42, z_eqI (a := z) (b := 42) (by omega)]
      refine ⟨fun w => (by rw [z_120, z_leF (by omega)] at w; exact w.elim), fun _ => ⟨fun w => absurd w (ne1 (PI_h g5)), fun _ => ⟨g2.2.2.2.2.2, fun w => by omega, fun w => ?_⟩⟩⟩
      exact hA M1 p1 v1 rd1 h g1 g2 g3 g4 g5 hp1 (show chr len tx p1 ≠ 42 by omega) g8
    | succ d ih =>
      intro p1 n rd1 h v1 M1 hd n0 n1 hp1 g1 g2 g3 g4 g5 g8
      have hp1l := g2.2.1
      have hf5 := g5.2.2.2.1
      simp at hf5
      obtain ⟨z, ez, hz⟩ := jpk_e g2
      refine bl_X8_parseProduct_10 _ _ _ _ _ _ _ g4.1 ?_
      rw [ez, z_42, z_eqI (a := z) (b := 42) (by omega)]
      refine ⟨fun w => (by rw [z_120, z_leF (by omega)] at w; exact w.elim), fun _ => ⟨fun w => absurd w (ne1 (PI_h g5)), fun _ => ⟨g2.2.2.2.2.2, fun w => ?_, fun w => ?_⟩⟩⟩
      · have hc : chr len tx p1 = 42 := by omega
        rintro M4 rfl
        rw [g2.2.2.2.1, z_1, z_add, z_add]
        have f4 : fq cP M1 (jup M1 8 0 3 (zI (p1 + 1))) := fq_up (fq_rf _ _) ⟨rfl, rfl, rfl⟩
        have T4 : CT (jup M1 8 0 3 (zI (p1 + 1))) len tx (p1 + 1) := CT_P g2 f4 (by omega) (jup_self _ _ _ _ _)
        have up : ∀ W r, KP W → Fin (chr len tx) s (p1 + 1) true (103 :: W) o rd1 v1 r → Fin (chr len tx) s p true W o rd v r := fun W r hW hh => g8 W r hW (Fin_mul hc (by rw [stT_K hW]; exact hh))
        refine hF _ (p1 + 1) rd1 v1 (h :: st) _ T4 (CB_P g4 f4) (PI_mono g5 (by simp; omega)) (by simp; omega) (fun M6 p2 v2 rd2 h2 k1 k2 k3 k4 k5 k6 k7 k8 => ⟨fq_nbB k1, ?_⟩) (fun M6 f k1 k2 k3 => ⟨fq_nbF k1, ?_⟩)
        · rw [z_2]
          refine jn_ok k5 k2 k4 (by omega) (fun M8 m1 m2 m3 m4 m5 => ⟨fq_nbB m1, ?_⟩)
          have hp2 := k2.2.1
          exact ih p2 (n + 1) rd2 _ _ M8 (by omega) (by omega) (by omega) (by omega) (fq_tr (fq_tr (fq_tr g1 (fq_PB f4)) k1) m1) m2 (by rw [m3, k3, fq_5P f4, g3]) m4 m5 (fun W r hW hh => up W r hW (k8 _ r trivial (Fin_L1 hh)))
        · have hfF : fq (cF b) M M6 := fq_tr (fq_tr (fq_BF g1) (fq_PF f4)) k1
          refine en_X8_join (bl_X8_join_0 _ _ _ _ _ _ (by rw [fq_nbF hfF]; exact hC.1) ⟨fun _ => ⟨rfl, ?_⟩, fun w => absurd rfl w⟩)
          exact stop M6 (n + 1) hfF (by omega) (by omega) (hB M6 f hfF k2 (fun W hW => up W _ hW (k3 _ trivial)))
      · exact hA M1 p1 v1 rd1 h g1 g2 g3 g4 g5 hp1 (show chr len tx p1 ≠ 42 by omega) g8
  refine en_X8_parseProduct (bl_X8_parseProduct_0 _ _ _ _ _ hC.1 ?_)
  refine hF M p rd v st _ hT hC hP (by omega) (fun M1 p' v' rd' h g1 g2 g3 g4 g5 g6 g7 g8 => ⟨fq_nbB g1, ?_⟩) (fun M1 f g1 g2 g3 => ⟨fq_nbF g1, ?_⟩)
  · rw [z_0]
    exact loop (len - p').toNat p' 0 rd' h v' M1 (by omega) (by omega) (by omega) g6 g1 g2 g3 g4 g5 (fun W r _ => g8 W r trivial)
  · rw [z_0]
    exact stop M1 0 g1 (by omega) (by omega) (hB M1 f g1 g2 (fun W _ => g3 W trivial))
set_option maxHeartbeats 4000000 in
set_option maxRecDepth 100000 in
theorem PS_of {len : Int} {tx : Int → Int} {b : Nat} {s f0 o : Int} (ho : 0 ≤ o ∧ o ≤ 3) (hF : PPs len tx b s f0 o) : PSs len tx b s f0 o := by
  intro M p rd v st Q hT hC hP hl hA hB
  have hl2 := hT.1.1
  have hp := hT.2.1
  have stop : ∀ M1 n, fq (cF b) M M1 → 0 ≤ n → n < 120 → Q (-1) 0 M1 → at_X8_parseSum_10 (3 - o).toNat b (zI o) (-1) (zI n) M1 Q := fun M1 n hf n0 n1 h =>
    bl_X8_parseSum_10 _ _ _ _ _ _ _ (by rw [fq_nbF hf]; exact hC.1) ⟨fun w => (by rw [z_120, z_leF (by omega)] at w; exact w.elim), fun _ => ⟨fun _ => h, fun w => absurd rfl w⟩⟩
  have loop : ∀ (d : Nat) (p1 n rd1 h : Int) (v1 : Int → Int) (M1 : jM), len - p1 < d → 0 ≤ n → n < p1 → p < p1 → chr len tx p1 ≠ 42 → fq (cB b) M M1 → CT M1 len tx p1 → M1 8 0 5 = M 8 0 5 → CB M1 b v1 s f0 rd1 → PI v1 s (p1 + 1) f0 rd1 (h :: st) → (∀ W r, KS W → Fin (chr len tx) s p1 false W o rd1 v1 r → Fin (chr len tx) s p true W o rd v r) → at_X8_parseSum_10 (3 - o).toNat b (zI o) (zI h) (zI n) M1 Q := by
    intro d
    induction d with
    | zero => intro p1 n rd1 h v1 M1 hd n0 n1 hp1 h42 g1 g2; have := g2.2.1; omega
    | succ d ih =>
      intro p1 n rd1 h v1 M1 hd n0 n1 hp1 h42 g1 g2 g3 g4 g5 g8
      have hp1l := g2.2.1
      have hf5 := g5.2.2.2.1
      simp at hf5
      obtain ⟨z, ez, hz⟩ := jpk_e g2
      have go : ∀ q : Int, (q = 0 ∧ chr len tx p1 = 43) ∨ (q = 1 ∧ chr len tx p1 = 45) → ok_X8_parseProduct (3 - o).toNat b (zI o) (jup M1 8 0 3 (zI (p1 + 1))) (fun r13 _ M14 => jnb M14 = jnb (jup M1 8 0 3 (zI (p1 + 1))) ∧ ok_X8_join b (zI q) (zI h) r13 M14 (fun r15 _ M16 => jnb M16 = jnb M14 ∧ at_X8_parseSum_10 (3 - o).toNat b (zI o) r15 (zI (n + 1)) M16 Q)) := by
        intro q hq
        have f4 : fq cP M1 (jup M1 8 0 3 (zI (p1 + 1))) := fq_up (fq_rf _ _) ⟨rfl, rfl, rfl⟩
        have T4 : CT (jup M1 8 0 3 (zI (p1 + 1))) len tx (p1 + 1) := CT_P g2 f4 (by omega) (jup_self _ _ _ _ _)
        have up : ∀ W r, KS W → Fin (chr len tx) s (p1 + 1) true ((101 + q) :: W) o rd1 v1 r → Fin (chr len tx) s p true W o rd v r := fun W r hW hh => g8 W r hW (by
          rcases hq with ⟨rfl, hq⟩ | ⟨rfl, hq⟩
          · exact Fin_pls hq (by rw [stA_K hW]; exact hh)
          · exact Fin_mns hq (by rw [stA_K hW]; exact hh))
        have hK : ∀ W, KP ((101 + q) :: W) := fun W => by
          unfold KP
          simp
          omega
        refine hF _ (p1 + 1) rd1 v1 (h :: st) _ T4 (CB_P g4 f4) (PI_mono g5 (by simp; omega)) (by simp; omega) (fun M6 p2 v2 rd2 h2 k1 k2 k3 k4 k5 k6 k7 k8 => ⟨fq_nbB k1, ?_⟩) (fun M6 f k1 k2 k3 => ⟨fq_nbF k1, ?_⟩)
        · refine jn_ok k5 k2 k4 (by omega) (fun M8 m1 m2 m3 m4 m5 => ⟨fq_nbB m1, ?_⟩)
          have hp2 := k2.2.1
          exact ih p2 (n + 1) rd2 _ _ M8 (by omega) (by omega) (by omega) (by omega) k7 (fq_tr (fq_tr (fq_tr g1 (fq_PB f4)) k1) m1) m2 (by rw [m3, k3, fq_5P f4, g3]) m4 m5 (fun W r hW hh => up W r hW (k8 _ r (hK W) (Fin_L2 (by omega) k7 hh)))
        · have hfF : fq (cF b) M M6 := fq_tr (fq_tr (fq_BF g1) (fq_PF f4)) k1
          refine en_X8_join (bl_X8_join_0 _ _ _ _ _ _ (by rw [fq_nbF hfF]; exact hC.1) ⟨fun _ => ⟨rfl, ?_⟩, fun w => absurd rfl w⟩)
          exact stop M6 (n + 1) hfF (by omega) (by omega) (hB M6 f hfF k2 (fun W hW => up W _ hW (k3 _ (hK W))))
      have gp := fun w : chr len tx p1 = 43 => go 0 (Or.inl ⟨rfl, w⟩)
      have gm := fun w : chr len tx p1 = 45 => go 1 (Or.inr ⟨rfl, w⟩)
      have hj := g2.2.2.2.2.2
      refine bl_X8_parseSum_10 _ _ _ _ _ _ _ g4.1 ?_
      rw [ez, z_43, z_45, z_eqI (a := z) (b := 43) (by omega), z_eqI (a := z) (b := 45) (by omega), g2.2.2.2.1, z_0, z_1, z_add, z_add]
      refine ⟨fun w => (by rw [z_120, z_leF (by omega)] at w; exact w.elim), fun _ => ⟨fun w => absurd w (ne1 (PI_h g5)), fun _ => ⟨hj, fun w => ⟨hj, fun _ => ?_, fun w2 => absurd w w2⟩, fun w => ⟨hj, fun w2 => ⟨hj, fun w3 => absurd w3 w, fun _ => ?_⟩, fun w2 => ?_⟩⟩⟩⟩
      · rintro M4 rfl
        exact gp (by omega)
      · rintro M4 rfl
        exact gm (by omega)
      · exact hA M1 p1 v1 rd1 h g1 g2 g3 g4 g5 hp1 (show chr len tx p1 ≠ 42 ∧ chr len tx p1 ≠ 43 ∧ chr len tx p1 ≠ 45 by omega) g8
  refine en_X8_parseSum (bl_X8_parseSum_0 _ _ _ _ _ hC.1 ?_)
  refine hF M p rd v st _ hT hC hP (by omega) (fun M1 p' v' rd' h g1 g2 g3 g4 g5 g6 g7 g8 => ⟨fq_nbB g1, ?_⟩) (fun M1 f g1 g2 g3 => ⟨fq_nbF g1, ?_⟩)
  · have hp' := g2.2.1
    rw [z_0]
    exact loop ((len - p').toNat + 1) p' 0 rd' h v' M1 (by omega) (by omega) (by omega) g6 g7 g1 g2 g3 g4 g5 (fun W r hW => g8 W r (KS_P hW))
  · rw [z_0]
    exact stop M1 0 g1 (by omega) (by omega) (hB M1 f g1 g2 (fun W hW => g3 W (KS_P hW)))
theorem ps_all {len : Int} {tx : Int → Int} {b : Nat} {s f0 : Int} : ∀ (d : Nat) (o : Int), o + d = 3 → 0 ≤ o → PSs len tx b s f0 o := by
  intro d
  induction d with
  | zero => intro o h h0; exact PS_of (by omega) (PP_of (by omega) (PF_of (by omega) (fun w => by omega)))
  | succ d ih => intro o h h0; exact PS_of (by omega) (PP_of (by omega) (PF_of (by omega) (fun w => ih (o + 1) (by omega) (by omega))))
