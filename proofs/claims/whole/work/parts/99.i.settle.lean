/-! ===== the reference reads: what waits ===== -/
def nz : List Int → Int
  | [] => 0
  | x :: W => (if x = 0 then 0 else 1) + nz W
theorem nz_r : ∀ W, 0 ≤ nz W ∧ nz W ≤ W.length
  | [] => ⟨by decide, by decide⟩
  | x :: W => by
    have := nz_r W
    simp only [nz, List.length_cons]
    split <;> omega
/-- the stack of what waits, its top first -/
def SW (M : jM) (W : List Int) : Prop := M 11 0 17 = zI (W.length : Int) ∧ skZ (M 56 0) W ∧ W.length ≤ 120 ∧ ∀ x ∈ W, x = 0 ∨ (101 ≤ x ∧ x ≤ 103)
theorem tkV_3 {s t : Int} {v : Int → Int} (hs : 0 ≤ s ∧ s ≤ 3 ∧ v 3 = s) (hn : 0 ≤ v (101 + s)) : tkV s v t 3 = s := by rw [tk_lo ⟨hs.1, hs.2.1⟩ hn (by omega)]; exact hs.2.2
set_option maxHeartbeats 4000000 in
set_option maxRecDepth 100000 in
theorem sA_ok {rd s : Int} {Q : Int32 → Nat → jM → Prop} : ∀ (W : List Int) (v : Int → Int) (M : jM), RWr M rd v → SW M W → (0 ≤ s ∧ s ≤ 3 ∧ v 3 = s) → 0 ≤ v (101 + s) → v (101 + s) + nz W ≤ 120 → (∀ M1, fm [55] [17] M M1 → lo55 rd M M1 → RWr M1 rd (stA s W v).2 → SW M1 (stA s W v).1 → Q 0 0 M1) → at_X12_settle_0 0 M Q := by
  intro W
  induction W with
  | nil =>
    intro v M hR hS hs hn hb hQ
    refine bl_X12_settle_0 _ _ _ ⟨fun _ => hQ M (fm_rf _ _ _) (fun _ _ => rfl) hR hS, fun w => absurd (by rw [hS.1, z_0, z_leT (by simp)]; trivial) w⟩
  | cons x W ih =>
    intro v M hR hS hs hn hb hQ
    obtain ⟨h1, h2, h3, h4⟩ := hS
    have hnz := nz_r W
    have hlen : ((x :: W).length : Int) = (W.length : Int) + 1 := by simp
    have h3' : W.length + 1 ≤ 120 := by simpa using h3
    rw [hlen] at h1
    have ex : M 56 0 W.length = zI x := h2.1
    have hx := h4 x (by simp)
    refine bl_X12_settle_0 _ _ _ ⟨fun w => (by rw [h1, z_0, z_leF (by omega)] at w; exact w.elim), fun _ => ?_⟩
    rw [h1, z_1, z_sub, z_clamp (by omega), show ((W.length : Int) + 1 - 1).toNat = W.length by omega, ex]
    refine ⟨by rw [z_inT (by omega)]; trivial, fun w => ?_, fun w => ⟨fun _ => ?_, fun w2 => absurd rfl w2⟩⟩
    · rw [z_0, z_eqI (by omega)] at w
      have e : stA s (x :: W) v = (x :: W, v) := by simp only [stA, if_pos w]
      rw [e] at hQ
      exact hQ M (fm_rf _ _ _) (fun _ _ => rfl) hR ⟨by rw [hlen]; exact h1, h2, h3, h4⟩
    · rw [z_0, z_eqI (by omega)] at w
      rw [stA_c w] at hQ
      simp only [nz, if_neg w] at hb
      rintro M1 hM1
      have e17 : M1 11 0 17 = zI (W.length : Int) := by rw [hM1, jup_self]; exact zc (by omega)
      have e56 : ∀ j, M1 56 0 j = M 56 0 j := fun j => by rw [hM1, jup_R (by decide)]
      have f1 : fm [] [17] M M1 := by rw [hM1]; exact fm_f (fm_rf _ _ _)
      rw [e17, z_clamp (by omega), e56, show ((W.length : Nat) : Int).toNat = W.length by omega]
      refine ⟨by rw [z_inT (by omega)]; trivial, tn_ok (t := x) (RWr_fm hR f1) ex hs (by omega) (fun M3 g1 g2 g3 => ⟨fm_n g1, ?_⟩)⟩
      refine ih (tkV s v x) M3 g3 ⟨by rw [g1.2 17 (by decide)]; exact e17, ?_, by omega, fun y hy => h4 y (by simp [hy])⟩ ⟨hs.1, hs.2.1, tkV_3 hs hn⟩ (by rw [tk_c]; omega) (by rw [tk_c]; omega) (fun M5 k1 k2 k3 k4 => hQ M5 (fm_tr (fm_tr f1 g1 (S2 := [55]) (F2 := [17])) k1) (lo_tr (lo_tr (fun j _ => by rw [f1.1 55 (by decide) (by decide)]) g2) k2) k3 k4)
      exact skZ_congr W (fun j _ => by rw [g1.1 56 (by decide) (by decide), e56]) h2.2
set_option maxHeartbeats 4000000 in
set_option maxRecDepth 100000 in
theorem sT_ok {rd s : Int} {Q : Int32 → Nat → jM → Prop} : ∀ (W : List Int) (v : Int → Int) (M : jM), RWr M rd v → SW M W → (0 ≤ s ∧ s ≤ 3 ∧ v 3 = s) → 0 ≤ v (101 + s) → v (101 + s) + nz W ≤ 120 → (∀ M1, fm [55] [17] M M1 → lo55 rd M M1 → RWr M1 rd (stT s W v).2 → SW M1 (stT s W v).1 → Q 0 0 M1) → at_X12_settle_0 1 M Q := by
  intro W
  induction W with
  | nil =>
    intro v M hR hS hs hn hb hQ
    refine bl_X12_settle_0 _ _ _ ⟨fun _ => hQ M (fm_rf _ _ _) (fun _ _ => rfl) hR hS, fun w => absurd (by rw [hS.1, z_0, z_leT (by simp)]; trivial) w⟩
  | cons x W ih =>
    intro v M hR hS hs hn hb hQ
    obtain ⟨h1, h2, h3, h4⟩ := hS
    have hnz := nz_r W
    have hlen : ((x :: W).length : Int) = (W.length : Int) + 1 := by simp
    have h3' : W.length + 1 ≤ 120 := by simpa using h3
    rw [hlen] at h1
    have ex : M 56 0 W.length = zI x := h2.1
    have hx := h4 x (by simp)
    have hS0 : SW M (x :: W) := ⟨by rw [hlen]; exact h1, h2, h3, h4⟩
    have stay : x ≠ 103 → Q 0 0 M := fun q => by
      have e : stT s (x :: W) v = (x :: W, v) := by simp only [stT, if_neg q]
      rw [e] at hQ
      exact hQ M (fm_rf _ _ _) (fun _ _ => rfl) hR hS0
    refine bl_X12_settle_0 _ _ _ ⟨fun w => (by rw [h1, z_0, z_leF (by omega)] at w; exact w.elim), fun _ => ?_⟩
    have e1 : M 11 0 17 - 1 = zI (W.length : Int) := by rw [h1, z_1, z_sub]; exact zc (by omega)
    rw [e1, z_clamp (by omega), show ((W.length : Nat) : Int).toNat = W.length by omega, ex]
    refine ⟨by rw [z_inT (by omega)]; trivial, fun w => ?_, fun w => ⟨fun w2 => absurd w2 (by decide), fun _ => ⟨by rw [z_inT (by omega)]; trivial, fun w3 => ?_, fun w3 => ?_⟩⟩⟩
    · rw [z_0, z_eqI (by omega)] at w
      exact stay (by omega)
    · rw [z_103, z_eqI (by omega)] at w3
      subst w3
      rw [stT_c] at hQ
      simp only [nz] at hb
      rw [if_neg (by omega)] at hb
      rintro M4 hM1
      have e17 : M4 11 0 17 = zI (W.length : Int) := by rw [hM1, jup_self]
      have e56 : ∀ j, M4 56 0 j = M 56 0 j := fun j => by rw [hM1, jup_R (by decide)]
      have f1 : fm [] [17] M M4 := by rw [hM1]; exact fm_f (fm_rf _ _ _)
      rw [e17, z_clamp (by omega), e56, show ((W.length : Nat) : Int).toNat = W.length by omega]
      refine ⟨by rw [z_inT (by omega)]; trivial, tn_ok (t := 103) (RWr_fm hR f1) ex hs (by omega) (fun M3 g1 g2 g3 => ⟨fm_n g1, ?_⟩)⟩
      refine ih (tkV s v 103) M3 g3 ⟨by rw [g1.2 17 (by decide)]; exact e17, ?_, by omega, fun y hy => h4 y (by simp [hy])⟩ ⟨hs.1, hs.2.1, tkV_3 hs hn⟩ (by rw [tk_c]; omega) (by rw [tk_c]; omega) (fun M5 k1 k2 k3 k4 => hQ M5 (fm_tr (fm_tr f1 g1 (S2 := [55]) (F2 := [17])) k1) (lo_tr (lo_tr (fun j _ => by rw [f1.1 55 (by decide) (by decide)]) g2) k2) k3 k4)
      exact skZ_congr W (fun j _ => by rw [g1.1 56 (by decide) (by decide), e56]) h2.2
    · rw [z_103, z_eqI (by omega)] at w3
      exact stay w3
