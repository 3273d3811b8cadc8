/-! ===== the reference reads: a loop ===== -/
/-- good at a place, or a fault seen -/
def MX (M : jM) (len : Int) (tx : Int → Int) : (Int ⊕ Int) → Prop
  | .inl f => MB M len f
  | .inr p => MT M len tx p ∧ M 11 0 10 = zI (-1)
def tS (c : Int → Int) (g : Int) : (Int ⊕ Int) → (Int ⊕ Int)
  | .inl f => .inl f
  | .inr p => if c p = g then .inr (p + 1) else .inl p
def bS (c : Int → Int) (low : Int) : (Int ⊕ Int) → (Int ⊕ Int)
  | .inl f => .inl f
  | .inr p => if isD (c p) ∧ low ≤ nX c p ∧ nX c p ≤ 30 then .inr (nP c p) else .inl p
theorem tX_ok {M : jM} {len g : Int} {tx : Int → Int} {z : Int ⊕ Int} {Q : Int32 → Nat → jM → Prop} (h : MX M len tx z) (hg : 33 ≤ g ∧ g ≤ 126) (hQ : ∀ M1, fm [] [10, 12, 13] M M1 → MX M1 len tx (tS (chr len tx) g z) → Q 0 0 M1) : ok_X12_take (zI g) M Q := by
  cases z with
  | inl f => exact tb_ok h (hQ M (fm_rf _ _ _) h)
  | inr p =>
    refine tk_ok h.1 hg (fun c1 M1 f1 T1 => hQ M1 (fm_mono f1) ?_) (fun c1 M1 f1 b1 => hQ M1 (fm_mono f1) ?_)
    · simp only [tS, if_pos c1]; exact ⟨T1, by rw [f1.2 10 (by decide)]; exact h.2⟩
    · simp only [tS, if_neg c1]; exact b1
theorem bX_ok {M : jM} {len low : Int} {y : Int32} {tx : Int → Int} {z : Int ⊕ Int} {Q : Int32 → Nat → jM → Prop} (h : MX M len tx z) (hy : ∀ p, z = .inr p → y = zI low ∧ 0 ≤ low ∧ low ≤ 100)
    (hQ : ∀ M1 r, fm [] [10, 12, 13] M M1 → MX M1 len tx (bS (chr len tx) low z) → (∀ p, z = .inr p → isD (chr len tx p) → low ≤ nX (chr len tx) p → nX (chr len tx) p ≤ 30 → r = zI (nX (chr len tx) p)) → Q r 0 M1) : ok_X12_bounded y M Q := by
  cases z with
  | inl f => exact mbb_ok h (fun r => hQ M r (fm_rf _ _ _) h (fun p e => by cases e))
  | inr p =>
    obtain ⟨rfl, l0, l1⟩ := hy p rfl
    refine mb_ok h.1 ⟨l0, l1⟩ (fun d1 d2 d3 M1 f1 T1 => hQ M1 _ (fm_mono f1) ?_ (fun q e _ _ _ => by rw [Sum.inr.inj e])) (fun hn M1 r f1 b1 => hQ M1 r f1 ?_ (fun q e d1 d2 d3 => by cases e; exact absurd ⟨d1, d2, d3⟩ hn))
    · simp only [bS, if_pos (show isD (chr len tx p) ∧ low ≤ nX (chr len tx) p ∧ nX (chr len tx) p ≤ 30 from ⟨d1, d2, d3⟩)]; exact ⟨T1, by rw [f1.2 10 (by decide)]; exact h.2⟩
    · simp only [bS, if_neg hn]; exact b1
theorem tS_r {c : Int → Int} {g q : Int} {z : Int ⊕ Int} (h : tS c g z = .inr q) : ∃ p, z = .inr p ∧ c p = g ∧ q = p + 1 := by
  cases z with
  | inl f => cases h
  | inr p =>
    by_cases w : c p = g
    · simp only [tS, if_pos w] at h
      exact ⟨p, rfl, w, (Sum.inr.inj h).symm⟩
    · simp only [tS, if_neg w] at h
      cases h
theorem bS_r {c : Int → Int} {low q : Int} {z : Int ⊕ Int} (h : bS c low z = .inr q) : ∃ p, z = .inr p ∧ (isD (c p) ∧ low ≤ nX c p ∧ nX c p ≤ 30) ∧ q = nP c p := by
  cases z with
  | inl f => cases h
  | inr p =>
    by_cases w : isD (c p) ∧ low ≤ nX c p ∧ nX c p ≤ 30
    · simp only [bS, if_pos w] at h
      exact ⟨p, rfl, w, (Sum.inr.inj h).symm⟩
    · simp only [bS, if_neg w] at h
      cases h
theorem tS_p {c : Int → Int} {g p : Int} (h : c p = g) : tS c g (.inr p) = .inr (p + 1) := by simp only [tS, if_pos h]
theorem tS_n {c : Int → Int} {g p : Int} (h : c p ≠ g) : tS c g (.inr p) = .inl p := by simp only [tS, if_neg h]
theorem tS_l {c : Int → Int} {g f : Int} : tS c g (.inl f) = .inl f := rfl
theorem bS_p {c : Int → Int} {low p : Int} (h : isD (c p) ∧ low ≤ nX c p ∧ nX c p ≤ 30) : bS c low (.inr p) = .inr (nP c p) := by simp only [bS, if_pos h]
theorem bS_n {c : Int → Int} {low p : Int} (h : ¬ (isD (c p) ∧ low ≤ nX c p ∧ nX c p ≤ 30)) : bS c low (.inr p) = .inl p := by simp only [bS, if_neg h]
theorem bS_l {c : Int → Int} {low f : Int} : bS c low (.inl f) = .inl f := rfl
def z4 (c : Int → Int) (p : Int) : Int ⊕ Int := tS c (wF 3) (tS c (wF 2) (tS c (wF 1) (tS c (wF 0) (.inr p))))
def z5 (c : Int → Int) (p : Int) : Int ⊕ Int := bS c 0 (z4 c p)
def z6 (c : Int → Int) (p : Int) : Int ⊕ Int := tS c 44 (z5 c p)
def z7 (c : Int → Int) (p : Int) : Int ⊕ Int := bS c (nX c (p + 4)) (z6 c p)
def z9 (c : Int → Int) (p : Int) : Int ⊕ Int := tS c 123 (tS c 41 (z7 c p))
theorem hd1_z {c : Int → Int} {p : Int} (h : hd1 c p) : z4 c p = .inr (p + 4) := by
  have a0 := h 0 (by omega) (by omega)
  have a1 := h 1 (by omega) (by omega)
  have a2 := h 2 (by omega) (by omega)
  have a3 := h 3 (by omega) (by omega)
  rw [Int.add_zero] at a0
  unfold z4
  rw [tS_p a0, tS_p a1, show p + 1 + 1 = p + 2 by omega, tS_p a2, show p + 2 + 1 = p + 3 by omega, tS_p a3, show p + 3 + 1 = p + 4 by omega]
theorem hd2_z {c : Int → Int} {p : Int} (h : hd2 c p) : z5 c p = .inr (nP c (p + 4)) := by
  unfold z5
  rw [hd1_z h.1, bS_p h.2]
theorem hd3_z {c : Int → Int} {p : Int} (h : hd3 c p) : z6 c p = .inr (nP c (p + 4) + 1) := by
  unfold z6
  rw [hd2_z h.1, tS_p h.2]
theorem hd4_z {c : Int → Int} {p : Int} (h : hd4 c p) : z7 c p = .inr (hq c p) := by
  unfold z7
  rw [hd3_z h.1, bS_p h.2]
  rfl
theorem hd5_z {c : Int → Int} {p : Int} (h : hd5 c p) : z9 c p = .inr (hq c p + 2) := by
  unfold z9
  rw [hd4_z h.1, tS_p h.2.1, tS_p h.2.2, show hq c p + 1 + 1 = hq c p + 2 by omega]
theorem z4_r {c : Int → Int} {p q : Int} (h : z4 c p = .inr q) : q = p + 4 := by
  unfold z4 at h
  obtain ⟨q1, h, _, e1⟩ := tS_r h
  obtain ⟨q2, h, _, e2⟩ := tS_r h
  obtain ⟨q3, h, _, e3⟩ := tS_r h
  obtain ⟨q4, h, _, e4⟩ := tS_r h
  have e5 := Sum.inr.inj h
  omega
/-- what a loop does with what stands before its statements -/
def Lp (c : Int → Int) (p : Int) (r : Int ⊕ (Int × (Int → Int))) : Prop := (∃ p' v', LpG c p p' v' ∧ r = .inr (p', v')) ∨ ∃ f, LpB c p f ∧ r = .inl f
def nxt (r : Int ⊕ (Int × (Int → Int))) (r2 : Int ⊕ (Int × (Int → Int))) : Prop := (∀ f, r2 = .inl f → r = .inl f) ∧ ∀ q v', r2 = .inr (q, v') → r = .inr (q + 1, v')
theorem Lp_z {c : Int → Int} {p : Int} {r : Int ⊕ (Int × (Int → Int))} (h : Lp c p r) : (∃ f, z9 c p = .inl f ∧ r = .inl f) ∨ (z9 c p = .inr (hq c p + 2) ∧ ∃ r2, Ln c 4 0 (hq c p + 2) (hv c p) r2 ∧ nxt r r2) := by
  rcases h with ⟨p', v', ⟨h5, hL, h125⟩, e⟩ | ⟨f, h, e⟩
  · refine Or.inr ⟨hd5_z h5, _, (LsG_Ln 4 _ _ _ _ _ hL).1 h125, fun f w => (by cases w), fun q v2 w => ?_⟩
    have w2 := Sum.inr.inj w
    rw [e, ← (Prod.mk.inj w2).1, ← (Prod.mk.inj w2).2, show p' - 1 + 1 = p' by omega]
  · rcases h with ⟨i, i0, i1, hj, hn, ef⟩ | ⟨h1, hn, ef⟩ | ⟨h2, hn, ef⟩ | ⟨h3, hn, ef⟩ | ⟨h4, hn, ef⟩ | ⟨h4, g, hn, ef⟩ | ⟨h5, hL⟩ | ⟨h5, ⟨v', hL⟩, hn⟩
    · refine Or.inl ⟨f, ?_, e⟩
      have b4 : z4 c p = .inl f := by
        unfold z4
        rcases (show i = 0 ∨ i = 1 ∨ i = 2 ∨ i = 3 by omega) with rfl | rfl | rfl | rfl
        · rw [Int.add_zero] at hn ef
          rw [tS_n hn, tS_l, tS_l, tS_l, ef]
        · have a0 := hj 0 (by omega) (by omega)
          rw [Int.add_zero] at a0
          rw [tS_p a0, tS_n hn, tS_l, tS_l, ef]
        · have a0 := hj 0 (by omega) (by omega)
          have a1 := hj 1 (by omega) (by omega)
          rw [Int.add_zero] at a0
          rw [tS_p a0, tS_p a1, show p + 1 + 1 = p + 2 by omega, tS_n hn, tS_l, ef]
        · have a0 := hj 0 (by omega) (by omega)
          have a1 := hj 1 (by omega) (by omega)
          have a2 := hj 2 (by omega) (by omega)
          rw [Int.add_zero] at a0
          rw [tS_p a0, tS_p a1, show p + 1 + 1 = p + 2 by omega, tS_p a2, show p + 2 + 1 = p + 3 by omega, tS_n hn, ef]
      unfold z9 z7 z6 z5
      rw [b4, bS_l, tS_l, bS_l, tS_l, tS_l]
    · refine Or.inl ⟨f, ?_, e⟩
      unfold z9 z7 z6 z5
      rw [hd1_z h1, bS_n hn, tS_l, bS_l, tS_l, tS_l, ef]
    · refine Or.inl ⟨f, ?_, e⟩
      unfold z9 z7 z6
      rw [hd2_z h2, tS_n hn, bS_l, tS_l, tS_l, ef]
    · refine Or.inl ⟨f, ?_, e⟩
      unfold z9 z7
      rw [hd3_z h3, bS_n hn, tS_l, tS_l, ef]
    · refine Or.inl ⟨f, ?_, e⟩
      unfold z9
      rw [hd4_z h4, tS_n hn, tS_l, ef]
    · refine Or.inl ⟨f, ?_, e⟩
      unfold z9
      rw [hd4_z h4, tS_p g, tS_n hn, ef]
    · exact Or.inr ⟨hd5_z h5, _, LsB_Ln 4 _ _ _ _ hL, fun f' w => (by rw [e, Sum.inl.inj w]), fun q v2 w => (by cases w)⟩
    · exact Or.inr ⟨hd5_z h5, _, (LsG_Ln 4 _ _ _ _ _ hL).2 hn, fun f' w => (by rw [e, Sum.inl.inj w]), fun q v2 w => (by cases w)⟩
theorem MX_fm {M M1 : jM} {len : Int} {tx : Int → Int} {z : Int ⊕ Int} {S F : List Nat} (h : MX M len tx z) (hf : fm S F M M1) (hS : 54 ∉ S ∧ 10 ∉ F ∧ 11 ∉ F ∧ 12 ∉ F ∧ 13 ∉ F := by decide) : MX M1 len tx z := by
  cases z with
  | inl f => exact MB_fm h hf hS.2
  | inr p => exact ⟨MT_fm h.1 hf ⟨hS.1, hS.2.2⟩, by rw [hf.2 10 hS.2.1]; exact h.2⟩
set_option maxHeartbeats 4000000 in
set_option maxRecDepth 100000 in
theorem mlp_ok {M : jM} {len p rw : Int} {tx : Int → Int} {r : Int ⊕ (Int × (Int → Int))} {Q : Int32 → Nat → jM → Prop} (hT : MT M len tx p) (hrw : 0 ≤ rw ∧ rw ≤ 19) (h14 : M 11 0 14 = zI rw) (h10 : M 11 0 10 = zI (-1)) (H : Lp (chr len tx) p r)
    (hA : ∀ M1 p' v', r = .inr (p', v') → fm [55, 56] [10, 12, 13, 14, 17, 18, 19] M M1 → lo55 rw M M1 → MT M1 len tx p' → M1 11 0 14 = zI (rw + 1) → M1 11 0 10 = zI (-1) → (∀ j, 0 ≤ j → j < 585 → M1 55 0 (585 * rw + j).toNat = zI (v' j)) → Q 0 0 M1)
    (hB : ∀ M1 f, r = .inl f → fm [55, 56] [10, 12, 13, 14, 17, 18, 19] M M1 → MB M1 len f → Q 0 0 M1) : ok_X12_loop M Q := by
  refine en_X12_loop (bl_X12_loop_0 _ _ ?_)
  have body : ∀ M1, fm [55] [] M M1 → lo55 rw M M1 → RWr M1 rw (fun _ => 0) → at_X12_loop_2 585 M1 Q := fun M1 f1 l1 R1 => by
    have T1 : MX M1 len tx (.inr p) := ⟨MT_fm hT f1, by rw [f1.2 10 (by decide)]; exact h10⟩
    refine bl_X12_loop_2 _ _ _ ⟨fun _ => ?_, fun w => absurd (Int32.le_refl _) w⟩
    rw [z_102, z_111, z_114, z_40, z_44, z_41, z_123]
    refine tX_ok T1 (by omega) (fun M2 f2 X2 => ⟨fm_n f2, tX_ok X2 (by omega) (fun M4 f4 X4 => ⟨fm_n f4, tX_ok X4 (by omega) (fun M6 f6 X6 => ⟨fm_n f6, tX_ok X6 (by omega) (fun M8 f8 X8 => ⟨fm_n f8, ?_⟩)⟩)⟩)⟩)
    have F8 : fm [] [10, 12, 13] M1 M8 := fm_tr (fm_tr (fm_tr f2 f4 (S2 := []) (F2 := [10, 12, 13])) f6 (S2 := []) (F2 := [10, 12, 13])) f8
    have X8' : MX M8 len tx (z4 (chr len tx) p) := X8
    have R8 := RWr_fm R1 F8
    refine bX_ok (low := 0) X8' (fun q _ => ⟨z_0, by omega, by omega⟩) (fun M10 r9 f10 X10 hr9 => ⟨fm_n f10, ?_⟩)
    have X10' : MX M10 len tx (z5 (chr len tx) p) := X10
    obtain ⟨x9, x9a, x9b, rfl⟩ := zI_of r9
    have R10 := RWr_fm R8 f10
    obtain ⟨i10, j10⟩ := ix_e hrw R10.2.1 (i := 0) (by omega) z_0
    refine ⟨i10, ?_⟩
    intro M12 e12
    rw [j10] at e12
    have R12 := RWr_set (i := 0) (x := x9) R10 (by omega)
    rw [← e12] at R12
    have f12 : fm [55] [] M10 M12 := by rw [e12]; exact fm_up (fm_rf _ _ _)
    have l12 : lo55 rw M10 M12 := by rw [e12]; exact lo_set (by omega) (by omega)
    refine tX_ok (MX_fm X10' f12) (by omega) (fun M15 f15 X15 => ⟨fm_n f15, ?_⟩)
    have X15' : MX M15 len tx (z6 (chr len tx) p) := X15
    have R15 := RWr_fm R12 f15
    obtain ⟨i15, j15⟩ := ix_e hrw R15.2.1 (i := 0) (by omega) z_0
    refine ⟨i15, ?_⟩
    have e15' : M15 55 0 (585 * M15 11 0 14 + 0).toNatClampNeg = zI x9 := by
      have a := R15.2.2 0 (by omega) (by omega)
      simp only [↓reduceIte] at a
      rw [j15]
      exact a
    rw [e15']
    have low9 : ∀ q, z6 (chr len tx) p = .inr q → zI x9 = zI (nX (chr len tx) (p + 4)) ∧ 0 ≤ nX (chr len tx) (p + 4) ∧ nX (chr len tx) (p + 4) ≤ 100 := fun q hq => by
      obtain ⟨q1, h1, _, _⟩ := tS_r hq
      obtain ⟨q2, h2, ⟨w1, w2, w3⟩, _⟩ := bS_r h1
      have e2 := z4_r h2
      subst e2
      exact ⟨hr9 _ h2 w1 w2 w3, w2, by omega⟩
    refine bX_ok (low := nX (chr len tx) (p + 4)) X15' low9 (fun M20 r19 f20 X20 hr19 => ⟨fm_n f20, ?_⟩)
    have X20' : MX M20 len tx (z7 (chr len tx) p) := X20
    obtain ⟨x19, x19a, x19b, rfl⟩ := zI_of r19
    have R20 := RWr_fm R15 f20
    obtain ⟨i20, j20⟩ := ix_e hrw R20.2.1 (i := 1) (by omega) z_1
    refine ⟨i20, ?_⟩
    intro M22 e22
    rw [j20] at e22
    have R22 := RWr_set (i := 1) (x := x19) R20 (by omega)
    rw [← e22] at R22
    have f22 : fm [55] [] M20 M22 := by rw [e22]; exact fm_up (fm_rf _ _ _)
    have l22 : lo55 rw M20 M22 := by rw [e22]; exact lo_set (by omega) (by omega)
    refine tX_ok (MX_fm X20' f22) (by omega) (fun M25 f25 X25 => ⟨fm_n f25, tX_ok X25 (by omega) (fun M27 f27 X27 => ⟨fm_n f27, ?_⟩)⟩)
    have X27' : MX M27 len tx (z9 (chr len tx) p) := X27
    have R27 := RWr_fm (RWr_fm R22 f25) f27
    have F27 : fm [55] [10, 12, 13] M M27 := fm_tr (fm_tr (fm_tr (fm_tr (fm_tr (fm_tr (fm_tr (fm_tr f1 F8 (S2 := [55]) (F2 := [10, 12, 13])) f10 (S2 := [55]) (F2 := [10, 12, 13])) f12 (S2 := [55]) (F2 := [10, 12, 13])) f15 (S2 := [55]) (F2 := [10, 12, 13])) f20 (S2 := [55]) (F2 := [10, 12, 13])) f22 (S2 := [55]) (F2 := [10, 12, 13])) f25 (S2 := [55]) (F2 := [10, 12, 13])) f27
    have L27 : lo55 rw M M27 := lo_tr (lo_tr (lo_tr (lo_tr (lo_tr l1 (lo_fm F8)) (lo_fm f10)) l12) (lo_tr (lo_fm f15) (lo_fm f20))) (lo_tr l22 (lo_tr (lo_fm f25) (lo_fm f27)))
    rcases Lp_z H with ⟨f, h9, e⟩ | ⟨h9, r2, hL, n1, n2⟩
    · rw [h9] at X27'
      have b27 : MB M27 len f := X27'
      exact ⟨fun w => absurd w (MB_n0 b27), fun _ => meb_ok b27 (fun M29 f29 b29 => hB M29 f e (fm_tr F27 f29) b29)⟩
    · have h9' := h9
      rw [h9] at X27'
      have T27 : MT M27 len tx (hq (chr len tx) p + 2) := X27'.1
      have t10 : M27 11 0 10 = zI (-1) := X27'.2
      refine ⟨fun _ => ?_, fun w => absurd (MT_0 T27) w⟩
      unfold z9 at h9'
      obtain ⟨q1, h9', _, _⟩ := tS_r h9'
      obtain ⟨q2, h9', _, _⟩ := tS_r h9'
      obtain ⟨q3, h6, ⟨w1, w2, w3⟩, _⟩ := bS_r h9'
      have e9 := hr19 q3 h6 w1 w2 w3
      obtain ⟨g9, g9a, g9b⟩ := low9 q3 h6
      obtain ⟨q4, h5, _, e6⟩ := tS_r h6
      obtain ⟨q5, h4, _, e5⟩ := bS_r h5
      have e4 := z4_r h4
      subst e4 e5 e6
      have nx2 := nX_r w1
      have v9 : x9 = nX (chr len tx) (p + 4) := z_inj g9 (by omega)
      have v19 : x19 = nX (chr len tx) (nP (chr len tx) (p + 4) + 1) := z_inj e9 (by omega)
      have Rv : RWr M27 rw (hv (chr len tx) p) := RWr_cg R27 (fun j j0 j1 => by
        show (if j = 0 then nX (chr len tx) (p + 4) else if j = 1 then nX (chr len tx) (nP (chr len tx) (p + 4) + 1) else 0) = (if j = 1 then x19 else if j = 0 then x9 else 0)
        rw [v9, v19]
        by_cases q0 : j = 0
        · rw [if_pos q0, if_neg (show ¬ j = 1 by omega), if_pos q0]
        · by_cases q1 : j = 1
          · rw [if_neg q0, if_pos q1, if_pos q1]
          · rw [if_neg q0, if_neg q1, if_neg q1, if_neg q0])
      have O0 : MO (hv (chr len tx) p) 0 := ⟨⟨by omega, by omega, rfl⟩, ⟨by rw [show hv (chr len tx) p 4 = 0 from rfl]; omega, by rw [show hv (chr len tx) p 4 = 0 from rfl]; omega⟩, fun j j0 j1 => by unfold hv v0; rw [if_neg (by omega), if_neg (by omega)]⟩
      exact mlS_ok 4 0 (hq (chr len tx) p + 2) _ M27 r2 (by omega) T27 Rv O0 hL (fun M29 p' v' e f29 l29 T29 g29 w29 => hA M29 (p' + 1) v' (n2 p' v' e) (fm_tr F27 f29) (lo_tr L27 l29) T29 g29 (by rw [f29.2 10 (by decide)]; exact t10) w29) (fun M29 f e f29 b29 => hB M29 f (n1 f e) (fm_tr F27 f29) b29)
  have clr : ∀ (d i : Nat) (v1 : Int32) (M1 : jM), i + d = 585 → v1 = zI (i : Int) → fm [55] [] M M1 → lo55 rw M M1 → (∀ j : Int, 0 ≤ j → j < i → M1 55 0 (585 * rw + j).toNat = zI 0) → at_X12_loop_2 v1 M1 Q := by
    intro d
    induction d with
    | zero =>
      intro i v1 M1 hd hv1 f1 l1 h0
      have ei : i = 585 := by omega
      subst ei
      rw [hv1, show zI ((585 : Nat) : Int) = 585 from z_585.symm]
      exact body M1 f1 l1 ⟨hrw, by rw [f1.2 14 (by decide)]; exact h14, h0⟩
    | succ d ih =>
      intro i v1 M1 hd hv1 f1 l1 h0
      subst hv1
      refine bl_X12_loop_2 _ _ _ ⟨fun w => (by rw [z_585, z_leF (by omega)] at w; exact w.elim), fun _ => ?_⟩
      have e14 : M1 11 0 14 = zI rw := by rw [f1.2 14 (by decide)]; exact h14
      obtain ⟨i1, j1⟩ := ix_e hrw e14 (i := (i : Int)) (by omega) rfl
      refine ⟨i1, ?_⟩
      intro M29 e29
      rw [j1, z_0] at e29
      rw [z_1, z_add]
      refine ih (i + 1) _ M29 (by omega) (zc (by omega)) (by rw [e29]; exact fm_up f1) (lo_tr l1 (by rw [e29]; exact lo_set (by omega) (by omega))) (fun j j0 j1 => ?_)
      by_cases q : j = i
      · rw [q, e29, jup_self]
      · rw [e29, jup_ne (by omega)]; exact h0 j j0 (by omega)
  exact clr 585 0 0 M (by omega) z_0 (fm_rf _ _ _) (fun _ _ => rfl) (fun j j0 j1 => by omega)
