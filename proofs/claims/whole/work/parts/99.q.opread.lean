/-! ===== read: the two compared ===== -/
theorem fq_R {b R : Nat} {M M1 : jM} (h : fq (cM b) M M1) (hR : R ≠ 8 ∧ R ≠ 0 ∧ ¬ (20 ≤ R ∧ R ≤ 25) ∧ R ≠ 7 ∧ R ≠ 26 ∧ R ≠ 3 ∧ R ≠ 99 := by decide) : M1 R = M R := by
  funext i f
  exact h R i f (fun z => by unfold cM at z; omega)
theorem PR_M {M M1 : jM} {P : Nat} {n : Int} {w : Int → Int → Int} {o : Int → Int} (h : PR M P n w o) (hG : GH n w o) (hf : fq (cM (jnb M)) M M1) (hn : jnb M ≤ jnb M1) (hP : P < 2) : PR M1 P n w o := by
  have h6 := hG.1
  refine ⟨by rw [fq_R hf]; exact h.1, by rw [fq_R hf]; exact h.2.1, fun l l0 l1 => ?_⟩
  exact LR_M (h.2.2 l l0 l1) (hG.2.2 l l0 l1).2.1.2.1 hf (fun f _ => hf 3 _ f (fun z => by unfold cM at z; omega)) hn
theorem LR_cg {M M1 : jM} {x : Nat} {v : Int → Int} (h : LR M x v) (h3 : ∀ f, M1 3 x f = M 3 x f) (e : ∀ R, (R = 0 ∨ R = 7 ∨ (20 ≤ R ∧ R ≤ 26) ∨ R = 99) → M1 R = M R) : LR M1 x v := by
  unfold LR BR BRs jnb at *
  rw [h3, h3, h3, h3, e 0 (by omega), e 7 (by omega), e 20 (by omega), e 21 (by omega), e 22 (by omega), e 24 (by omega), e 25 (by omega), e 26 (by omega), e 99 (by omega)]
  exact h
theorem RD_rst {M M1 M5 : jM} {k : Nat} (hS : RST M k) (hf : fq (cM (jnb M)) M M1) (hn : jnb M ≤ jnb M1 ∧ jnb M1 ≤ jnb M + 8) (h5 : ∀ R, R ≠ 11 → R ≠ 50 → R ≠ 55 → R ≠ 56 → R ≠ 61 → R ≠ 3 → R ≠ 6 → M5 R = M1 R) (h3 : ∀ x f, 6 ≤ x → M5 3 x f = M1 3 x f) (h3b : ∀ x, x < 6 → M5 3 x 3 = zI 0 ∨ M5 3 x 3 = zI 1) (h6 : M5 6 1 = M1 6 1)
    (f3 : M5 11 0 3 = M 11 0 3) (f6 : M5 11 0 6 = M 11 0 6) (f28 : M5 11 0 28 = M 11 0 28) (t8 : M5 8 0 2 = zI 0) (t11 : M5 11 0 8 = zI 0) (tf : M5 8 0 5 = M5 11 0 10) : RST M5 (k + 1) := by
  obtain ⟨hS1, hS2, hS3, hS4, hS5, hS6, hS7⟩ := hS
  have g : ∀ R, R ≠ 11 → R ≠ 50 → R ≠ 55 → R ≠ 56 → R ≠ 61 → (R ≠ 8 ∧ R ≠ 0 ∧ ¬ (20 ≤ R ∧ R ≤ 25) ∧ R ≠ 7 ∧ R ≠ 26 ∧ R ≠ 3 ∧ R ≠ 99) → R ≠ 6 → M5 R = M R := fun R r1 r2 r3 r4 r5 r6 r7 => by rw [h5 R r1 r2 r3 r4 r5 r6.2.2.2.2.2.1 r7, fq_R hf r6]
  have n5 : jnb M5 = jnb M1 := by unfold jnb; rw [h5 99 (by decide) (by decide) (by decide) (by decide) (by decide) (by decide) (by decide)]
  refine ⟨?_, ⟨0, fun _ => 0, t8, t11, by omega, fun j j0 j1 => by omega⟩, ?_, tf, ?_, by omega, ?_⟩
  · refine SN_pt hS1 (by rw [g 10 (by decide) (by decide) (by decide) (by decide) (by decide) (by decide) (by decide)]) f6 f3 (g 52 (by decide) (by decide) (by decide) (by decide) (by decide) (by decide) (by decide)) (g 53 (by decide) (by decide) (by decide) (by decide) (by decide) (by decide) (by decide)) (fun n' w' o' hG hP => ?_)
    have P1 := PR_M hP hG hf hn.1 (by decide)
    have z : ∀ R, R ≠ 11 ∧ R ≠ 50 ∧ R ≠ 55 ∧ R ≠ 56 ∧ R ≠ 61 ∧ R ≠ 3 ∧ R ≠ 6 → M5 R = M1 R := fun R r => h5 R r.1 r.2.1 r.2.2.1 r.2.2.2.1 r.2.2.2.2.1 r.2.2.2.2.2.1 r.2.2.2.2.2.2
    exact PR_pt P1 (fun l l0 l1 => by funext f; exact h3 _ f (by omega)) (by rw [h6]) (by rw [z 40 (by decide)]) (z 0 (by decide)) (z 7 (by decide)) (z 20 (by decide)) (z 21 (by decide)) (z 22 (by decide)) (z 24 (by decide)) (z 25 (by decide)) (z 26 (by decide)) n5
  · intro j
    rw [g 41 (by decide) (by decide) (by decide) (by decide) (by decide) (by decide) (by decide)]
    exact hS3 j
  · obtain ⟨fa, a1, a2⟩ := hS5
    exact ⟨fa, a1, by rw [f28]; exact a2⟩
  · intro x hx
    by_cases q : x < 6
    · exact (h3b x q).imp id (fun a => ⟨by omega, a⟩)
    · rw [h3 x 3 (by omega), hf 3 x 3 (fun z => by unfold cM at z; omega)]
      exact hS7 x hx
theorem RD_same {M M1 M5 : jM} {k : Nat} {n : Int} {w : Int → Int → Int} {o : Int → Int} {ver : Int} (hR : RLz M k n w o ver) (hf : fq (cM (jnb M)) M M1) (hn : jnb M ≤ jnb M1 ∧ jnb M1 ≤ jnb M + 8) (h5 : fm [55, 56] FR M1 M5) (t8 : M1 8 0 2 = zI 0) (t11 : M5 11 0 8 = zI 0) (tf : M1 8 0 5 = M5 11 0 10) : RLz M5 (k + 1) n w o ver := by
  obtain ⟨hG, hPR, hMR, hCI, hv10, hS⟩ := hR
  have hB3 := hS.2.2.2.2.2.2
  have e : ∀ R, R ≠ 11 → R ≠ 55 → R ≠ 56 → M5 R = M1 R := fun R r1 r2 r3 => h5.1 R r1 (by simp; omega)
  have g : ∀ R, R ≠ 11 → R ≠ 55 → R ≠ 56 → (R ≠ 8 ∧ R ≠ 0 ∧ ¬ (20 ≤ R ∧ R ≤ 25) ∧ R ≠ 7 ∧ R ≠ 26 ∧ R ≠ 3 ∧ R ≠ 99) → M5 R = M R := fun R r1 r2 r3 r4 => by rw [e R r1 r2 r3, fq_R hf r4]
  have e11 : ∀ f, f ∉ FR → M5 11 0 f = M 11 0 f := fun f hF => by rw [h5.2 f hF, fq_R hf]
  have P1 := PR_M hPR hG hf hn.1 (by decide)
  have n5 : jnb M5 = jnb M1 := by unfold jnb; rw [e 99 (by decide) (by decide) (by decide)]
  refine ⟨hG, PR_fr P1 (e 0 (by decide) (by decide) (by decide)) (e 3 (by decide) (by decide) (by decide)) (by rw [e 6 (by decide) (by decide) (by decide)]) (e 7 (by decide) (by decide) (by decide)) (e 20 (by decide) (by decide) (by decide)) (e 21 (by decide) (by decide) (by decide)) (e 22 (by decide) (by decide) (by decide)) (e 24 (by decide) (by decide) (by decide)) (e 25 (by decide) (by decide) (by decide)) (e 26 (by decide) (by decide) (by decide)) (e 40 (by decide) (by decide) (by decide)) n5, MR_fr hMR (e11 0 (by decide)) (g 50 (by decide) (by decide) (by decide) (by decide)) (g 51 (by decide) (by decide) (by decide) (by decide)), CI_eq hCI (by rw [g 6 (by decide) (by decide) (by decide) (by decide)]) (by rw [g 1 (by decide) (by decide) (by decide) (by decide)]) (g 5 (by decide) (by decide) (by decide) (by decide)) (g 29 (by decide) (by decide) (by decide) (by decide)) (fun j => by rw [g 33 (by decide) (by decide) (by decide) (by decide)]) (g 35 (by decide) (by decide) (by decide) (by decide)), by omega, ?_⟩
  refine RD_rst hS hf hn (fun R r1 _ r2 r3 _ _ _ => e R r1 r2 r3) (fun x f _ => by rw [e 3 (by decide) (by decide) (by decide)]) (fun x hx => ?_) (by rw [e 6 (by decide) (by decide) (by decide)]) (e11 3 (by decide)) (e11 6 (by decide)) (e11 28 (by decide)) (by rw [e 8 (by decide) (by decide) (by decide)]; exact t8) t11 (by rw [e 8 (by decide) (by decide) (by decide)]; exact tf)
  rw [e 3 (by decide) (by decide) (by decide), hf 3 x 3 (fun z => by unfold cM at z; omega)]
  exact B3_01 hB3 (by omega)
/-! the loops that were read join the program -/
def cw (n : Int) (w R : Int → Int → Int) : Int → Int → Int := fun l => if l < n then w l else R (l - n)
set_option maxHeartbeats 4000000 in
set_option maxRecDepth 100000 in
theorem addl_ok {M1 : jM} {N m : Nat} {w R : Int → Int → Int} {ver : Int} {Q : Int32 → Nat → jM → Prop} {X : String → jM → Prop} (hN : N + m ≤ 6) (hver : 0 ≤ ver ∧ ver ≤ 100000) (h62 : M1 6 0 2 = zI (N : Int)) (h63 : M1 6 0 3 = zI ver) (h84 : M1 8 0 4 = zI (m : Int)) (hnb : jnb M1 ≤ 100000) (hB : ∀ x, 12 ≤ x → x < 20 → M1 3 x 3 = zI 0) (hL : ∀ l : Nat, l < N → LR M1 l (w (l : Int))) (hT : ∀ l : Nat, l < m → LR M1 (12 + l) (R (l : Int)))
    (hQ : ∀ M2, fr [3, 6] M1 M2 → (∀ x f, 6 ≤ x → M2 3 x f = M1 3 x f) → (∀ j, j ≠ 0 → M2 6 j = M1 6 j) → M2 6 0 2 = zI ((N : Int) + m) → M2 6 0 3 = zI (ver + m) → (∀ l : Nat, l < N + m → LR M2 l (cw N w R (l : Int))) → (∀ x, x < 6 → M2 3 x 3 = M1 3 x 3 ∨ M2 3 x 3 = zI 0) → Q (zI (m : Int)) 0 M2) : at_X11_read_60 0 M1 Q X := by
  have go : ∀ (d i : Nat) (v1 : Int32) (M : jM), i + d = m → v1 = zI (i : Int) → fr [3, 6] M1 M → (∀ x f, 6 ≤ x → M 3 x f = M1 3 x f) → (∀ j, j ≠ 0 → M 6 j = M1 6 j) → M 6 0 2 = zI ((N : Int) + i) → M 6 0 3 = zI (ver + i) → (∀ l : Nat, l < N + i → LR M l (cw N w R (l : Int))) → (∀ x, x < 6 → M 3 x 3 = M1 3 x 3 ∨ M 3 x 3 = zI 0) → at_X11_read_60 v1 M Q X := by
    intro d
    induction d with
    | zero =>
      intro i v1 M hd hv hf a3 a6 a62 a63 aL aB
      have ei : i = m := by omega
      subst hv ei
      have e84 : M 8 0 4 = zI (i : Int) := by rw [hf 8 (by decide)]; exact h84
      refine bl_X11_read_60 _ _ _ _ ?_
      rw [e84]
      exact ⟨fun _ => hQ M hf a3 a6 a62 a63 aL aB, fun w => absurd (Int32.le_refl _) w⟩
    | succ d ih =>
      intro i v1 M hd hv hf a3 a6 a62 a63 aL aB
      subst hv
      have e84 : M 8 0 4 = zI (m : Int) := by rw [hf 8 (by decide)]; exact h84
      refine bl_X11_read_60 _ _ _ _ ?_
      rw [e84]
      refine ⟨fun w => (by rw [z_leF (by omega)] at w; exact w.elim), fun _ => ⟨fun w => (by rw [z_8, z_leF (by omega)] at w; exact w.elim), fun _ => ⟨by rw [z_inT (by omega)]; trivial, ?_⟩⟩⟩
      rw [z_clamp (by omega), show ((i : Nat) : Int).toNat = i by omega]
      refine en_X6_add (bl_X6_add_0 _ _ _ _ (by omega) (by omega) ?_)
      rw [a62]
      refine ⟨fun w => (by rw [z_6, z_leF (by omega)] at w; exact w.elim), fun _ => ⟨by rw [z_inT (by omega)]; trivial, ?_⟩⟩
      rw [z_clamp (by omega), show 6 * 0 + ((N : Int) + (i : Int)).toNat = N + i by omega]
      refine cp3_ok (x := N + i) (y := 12 + i) (by omega) (by omega) (by omega) (Or.inl (by rw [a3 _ _ (by omega)]; exact hB _ (by omega) (by omega))) (fun M3 b0 b1 b2 b3 b4 b5 => ⟨fr_nb b0, ?_⟩)
      intro M4 e4 M5 e5
      have c62 : M3 6 0 2 + 1 = zI ((N : Int) + i + 1) := by rw [b0 6 (by decide), a62, z_1, z_add]
      rw [c62] at e4
      have c63 : M4 6 0 3 + 1 = zI (ver + i + 1) := by rw [e4, jup_ne (by omega), b0 6 (by decide), a63, z_1, z_add]
      rw [c63] at e5
      have f35 : fr [6] M3 M5 := by rw [e5, e4]; exact fr_up (fr_up (fr_rf _ _))
      have f5 : fr [3, 6] M M5 := fr_tr b0 f35
      have f5' : fr [3, 6, 40] M M5 := fr_mono f5
      have f15 : fr [3, 6] M1 M5 := fr_tr hf f5
      have e53 : ∀ x f, M5 3 x f = M3 3 x f := fun x f => by rw [f35 3 (by decide)]
      refine ⟨by rw [fr_nb f35, fr_nb b0], ?_⟩
      rw [z_1, z_add]
      refine ih (i + 1) _ M5 (by omega) (zc (by omega)) f15 (fun x f hx => by rw [e53, b1 x f (by omega)]; exact a3 x f hx) (fun j hj => ?_) ?_ ?_ (fun l hl => ?_) (fun x hx => ?_)
      · rw [e5, e4]
        funext f
        rw [jup_ne (by omega), jup_ne (by omega), b0 6 (by decide), a6 j hj]
      · rw [e5, jup_ne (by omega), e4, jup_self]; exact zc (by omega)
      · rw [e5, jup_self]; exact zc (by omega)
      · by_cases q : l = N + i
        · subst q
          have hc : cw N w R ((N + i : Nat) : Int) = R (i : Int) := by
            unfold cw
            rw [if_neg (by omega), show ((N + i : Nat) : Int) - (N : Int) = (i : Int) by omega]
          rw [hc]
          have h1 : LR M (12 + i) (R (i : Int)) := LR_cg (hT i (by omega)) (fun f => a3 _ f (by omega)) (fun R hR => hf R (by simp; omega))
          exact LR_fr h1 f5' (by rw [fr_nb hf]; exact hnb) (by rw [e53, b2]) (by rw [e53, b3]) (by rw [e53, b4]) (by rw [e53, b5])
        · exact LR_cg (aL l (by omega)) (fun f => by rw [e53, b1 l f q]) (fun R hR => f5 R (by simp; omega))
      · rw [e53]
        by_cases q : x = N + i
        · rw [q, b4, a3 _ _ (by omega)]
          exact Or.inr (hB _ (by omega) (by omega))
        · rw [b1 x 3 q]; exact aB x hx
  exact go m 0 0 M1 (by omega) z_0 (fr_rf _ _) (fun _ _ _ => rfl) (fun _ _ => rfl) (by rw [h62]; exact zc (by omega)) (by rw [h63]; exact zc (by omega)) (fun l hl => by
    have e : cw N w R (l : Int) = w (l : Int) := by unfold cw; rw [if_pos (by omega)]
    rw [e]; exact hL l (by omega)) (fun x _ => Or.inl rfl)
set_option maxHeartbeats 4000000 in
set_option maxRecDepth 100000 in
theorem op_read {M : jM} {k : Nat} {n : Int} {w : Int → Int → Int} {o : Int → Int} {ver : Int} {P : jM → Int32 → Int32 → Prop} {Q : Int32 → Nat → jM → Prop} (hR : RLz M k n w o ver) (hk : k ≤ 2000) (hP : ∀ M5 r1 r4, Rz M5 (k + 1) → M5 11 0 7 = r1 → (r1 = 0 → M5 61 0 0 = r4) → P M5 r1 r4) (hq : ∀ r1 M2, ok_X12_read M2 (fun r4 _ M5 => P M5 r1 r4) → Q r1 0 M2) : ok_L_read M Q := by
  obtain ⟨hnb, hv⟩ := RLz_n hR hk
  have hR0 := hR
  obtain ⟨hG, hPR, hMR, hCI, hv10, hS⟩ := hR
  have hS' := hS
  obtain ⟨hS1, ⟨len, tx, t8, t11, tl, tt⟩, hS3, hS4, hS5, hS6, hS7⟩ := hS'
  have hn := hG.1
  obtain ⟨N, rfl⟩ : ∃ N : Nat, n = (N : Int) := ⟨n.toNat, by omega⟩
  have hTG : TG len tx := ⟨tl, fun j j0 j1 => (tt j j0 j1).2.2⟩
  have em1 : (-1 : Int32) = zI (-1) := by rw [z_1, z_neg]
  have h312 : ∀ x, 12 ≤ x → x < 20 → M 3 x 3 = zI 0 := fun x x0 x1 => by
    rcases hS7 x x1 with a | ⟨a, _⟩
    · exact a
    · omega
  have mh : ∀ M1, fq (cM (jnb M)) M M1 → M1 11 0 0 = zI (N : Int) ∧ M1 11 0 8 = zI len ∧ ∀ j, 0 ≤ j → j < len → M1 54 0 j.toNat = zI (tx j) := fun M1 f1 => by
    rw [fq_R f1 (R := 11), fq_R f1 (R := 54)]
    exact ⟨hMR.1, t11, fun j j0 j1 => (tt j j0 j1).2.1⟩
  refine wr_read (en_X11_read (bl_X11_read_0 _ _ _ (pa_ok hTG t8 (fun j j0 j1 => (tt j j0 j1).1) hS3 (by omega) h312 (fun M1 m R f1 g2 g4 g5 m1 m8 gn gL gT => ⟨fun _ => ?_, fun w => absurd (by rw [g5, em1]) w⟩) (fun M1 f f1 g2 g5 gn gn2 gB => ⟨fun w => ?_, fun _ => Or.inl ⟨rfl, hq _ _ ?_⟩⟩))))
  rotate_left
  · have := TxB_b hTG 8 0 gB (by omega)
    rw [g5, em1, z_eqF (by omega)] at w
    exact w.elim
  · obtain ⟨c0, c8, c54⟩ := mh M1 f1
    refine mrd_ok (R := fun _ _ => 0) (r := .inl f) hTG (by omega) c0 c8 c54 (TxB_Tn 8 0 0 gB) (fun M5 m e => by cases e) (fun M5 m e => by cases e) (fun M5 f' e d1 d2 d3 d4 => ?_)
    rw [← Sum.inl.inj e] at d4
    exact hP M5 1 0 ⟨_, w, o, ver, RD_same hR0 f1 ⟨gn2, gn⟩ d1 g2 d3 (by rw [g5, d4])⟩ d2 (fun z => by rw [z_1, z_0, z_eqF (by omega)] at z; exact z.elim)
  have e62 : M1 6 0 2 = zI (N : Int) := by rw [fq_R f1]; exact hPR.1
  have e63 : M1 6 0 3 = zI ver := by rw [fq_R f1]; exact hCI.1
  rw [e62, g4, z_add, z_6, z_leI (by omega)]
  refine ⟨fun w6 => ?_, fun w6 => Or.inr ⟨rfl, hq _ _ ?_⟩⟩
  rotate_left
  · obtain ⟨c0, c8, c54⟩ := mh M1 f1
    refine mrd_ok (R := R) (r := .inr (m : Int)) hTG (by omega) c0 c8 c54 (TxG_Tn 8 0 0 gT) (fun M5 m' e hm => ?_) (fun M5 m' e hm d1 d2 d3 d4 => ?_) (fun M5 f e => by cases e)
    · have := Sum.inr.inj e
      omega
    · exact hP M5 2 0 ⟨_, w, o, ver, RD_same hR0 f1 ⟨by omega, by omega⟩ d1 g2 d3 (by rw [g5, d4])⟩ d2 (fun z => by rw [z_2, z_0, z_eqF (by omega)] at z; exact z.elim)
  have P1 := PR_M hPR hG f1 (by omega) (by decide)
  have b13 : ∀ x f, x < 12 → M1 3 x f = M 3 x f := fun x f hx => f1 3 x f (fun z => by unfold cM at z; omega)
  refine addl_ok (N := N) (m := m) (w := w) (R := R) (ver := ver) (by omega) (by omega) e62 e63 g4 (by omega) (fun x x0 x1 => by rw [f1 3 x 3 (fun z => by unfold cM at z; omega)]; exact h312 x x0 x1) (fun l hl => ?_) (fun l hl => (gL l hl).1) (fun M2 a1 a2 a3 a4 a5 a6 a7 => hq _ _ ?_)
  · have := P1.2.2 (l : Int) (by omega) (by omega)
    rw [show 6 * 0 + ((l : Nat) : Int).toNat = l by omega] at this
    exact this
  rw [z00]
  have j61 : ∀ R, R ≠ 61 → jup M2 61 0 0 (zI (m : Int)) R = M2 R := fun R hR => jup_o hR
  have c2 : ∀ R, R ≠ 61 → R ≠ 3 → R ≠ 6 → jup M2 61 0 0 (zI (m : Int)) R = M1 R := fun R r1 r2 r3 => by rw [j61 R r1, a1 R (by simp; omega)]
  obtain ⟨c0, c8, c54⟩ := mh M1 f1
  refine mrd_ok (R := R) (r := .inr (m : Int)) (N := N) hTG (by omega) (by rw [c2 11 (by decide) (by decide) (by decide)]; exact c0) (by rw [c2 11 (by decide) (by decide) (by decide)]; exact c8) (fun j j0 j1 => by rw [c2 54 (by decide) (by decide) (by decide)]; exact c54 j j0 j1) (TxG_Tn 8 0 0 gT) (fun M5 m' e hm d1 d2 d3 d4 d5 d6 d7 => ?_) (fun M5 m' e hm => ?_) (fun M5 f e => by cases e)
  rotate_left
  · have := Sum.inr.inj e
    omega
  have em : m' = m := by have := Sum.inr.inj e; omega
  subst em
  refine hP M5 0 _ ⟨(N : Int) + m', cw N w R, o, ver + m', ?_⟩ d2 (fun _ => by rw [d1.1 61 (by decide) (by decide), jup_self])
  have e5 : ∀ R, R ≠ 11 → R ≠ 50 → R ≠ 55 → R ≠ 56 → R ≠ 61 → M5 R = M2 R := fun R r1 r2 r3 r4 r5 => by rw [d1.1 R r1 (by simp; omega), j61 R r5]
  have e51 : ∀ R, R ≠ 11 → R ≠ 50 → R ≠ 55 → R ≠ 56 → R ≠ 61 → R ≠ 3 → R ≠ 6 → M5 R = M1 R := fun R r1 r2 r3 r4 r5 r6 r7 => by rw [e5 R r1 r2 r3 r4 r5, a1 R (by simp; omega)]
  have e50 : ∀ R, R ≠ 11 → R ≠ 50 → R ≠ 55 → R ≠ 56 → R ≠ 61 → (R ≠ 8 ∧ R ≠ 0 ∧ ¬ (20 ≤ R ∧ R ≤ 25) ∧ R ≠ 7 ∧ R ≠ 26 ∧ R ≠ 3 ∧ R ≠ 99) → R ≠ 6 → M5 R = M R := fun R r1 r2 r3 r4 r5 r6 r7 => by rw [e51 R r1 r2 r3 r4 r5 r6.2.2.2.2.2.1 r7, fq_R f1 r6]
  have e53 : ∀ x f, M5 3 x f = M2 3 x f := fun x f => by rw [e5 3 (by decide) (by decide) (by decide) (by decide) (by decide)]
  have e56 : M5 6 = M2 6 := e5 6 (by decide) (by decide) (by decide) (by decide) (by decide)
  have e11 : ∀ f, f ∉ (0 :: FR) → M5 11 0 f = M 11 0 f := fun f hF => by rw [d1.2 f hF, c2 11 (by decide) (by decide) (by decide), fq_R f1]
  have e40 : M5 40 = M 40 := e50 40 (by decide) (by decide) (by decide) (by decide) (by decide) (by decide) (by decide)
  refine ⟨⟨by omega, hG.2.1, fun l l0 l1 => ?_⟩, ⟨by rw [e56]; exact a4, by rw [e40]; exact hPR.2.1, fun l l0 l1 => ?_⟩, ⟨d5, by rw [e50 51 (by decide) (by decide) (by decide) (by decide) (by decide) (by decide) (by decide)]; exact hMR.2.1, fun l j l0 l1 j0 j1 => ?_⟩, CI_new hCI (by omega) (by rw [e56]; exact a5) (by rw [e50 1 (by decide) (by decide) (by decide) (by decide) (by decide) (by decide) (by decide)]) (e50 5 (by decide) (by decide) (by decide) (by decide) (by decide) (by decide) (by decide)), by omega, ?_⟩
  · unfold cw
    by_cases q : l < (N : Int)
    · rw [if_pos q]; exact hG.2.2 l l0 q
    · rw [if_neg q]
      have := (gL (l - N).toNat (by omega)).2
      rw [show (((l - (N : Int)).toNat : Nat) : Int) = l - N by omega] at this
      exact this
  · have := a6 l.toNat (by omega)
    rw [show ((l.toNat : Nat) : Int) = l by omega] at this
    rw [show 6 * 0 + l.toNat = l.toNat by omega]
    exact LR_cg this (fun f => e53 _ f) (fun R hR => e5 R (by omega) (by omega) (by omega) (by omega) (by omega))
  · unfold cw
    by_cases q : l < (N : Int)
    · rw [if_pos q, d6 _ (by omega), c2 50 (by decide) (by decide) (by decide), fq_R f1]
      exact hMR.2.2 l j l0 q j0 j1
    · rw [if_neg q]
      have := d7 (l - N).toNat j (by omega) j0 j1
      rw [show (((l - (N : Int)).toNat : Nat) : Int) = l - N by omega, show (N : Int) + (l - N) = l by omega] at this
      exact this
  · refine RD_rst hS f1 ⟨by omega, by omega⟩ e51 (fun x f hx => by rw [e53, a2 x f hx]) (fun x hx => ?_) (by rw [e56, a3 1 (by decide)]) (e11 3 (by decide)) (e11 6 (by decide)) (e11 28 (by decide)) (by rw [e51 8 (by decide) (by decide) (by decide) (by decide) (by decide) (by decide) (by decide)]; exact g2) d3 (by rw [e51 8 (by decide) (by decide) (by decide) (by decide) (by decide) (by decide) (by decide), g5, d4])
    rw [e53]
    rcases a7 x hx with a | a
    · rw [a, b13 x 3 (by omega)]; exact B3_01 hS7 (by omega)
    · exact Or.inl a
