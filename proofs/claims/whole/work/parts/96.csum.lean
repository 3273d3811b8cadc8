/-! ===== the class reads: factors, products, sums ===== -/
/-- it went well: behind it one height more; what the signs say from there is what they say from here -/
def HG (len : Int) (tx : Int → Int) (b : Nat) (s f0 o : Int) (M : jM) (p rd : Int) (v : Int → Int) (st : List Int) (K : List Int → Prop) (C : Int → Prop) (Q : Int32 → Nat → jM → Prop) : Prop :=
  ∀ M1 p' v' rd' h, fq (cB b) M M1 → CT M1 len tx p' → M1 8 0 5 = M 8 0 5 → CB M1 b v' s f0 rd' → PI v' s (p' + 1) f0 rd' (h :: st) → p < p' → C (chr len tx p') → (∀ W r, K W → Fin (chr len tx) s p' false W o rd' v' r → Fin (chr len tx) s p true W o rd v r) → Q (zI h) 0 M1
def HB (len : Int) (tx : Int → Int) (b : Nat) (s o : Int) (M : jM) (p rd : Int) (v : Int → Int) (K : List Int → Prop) (Q : Int32 → Nat → jM → Prop) : Prop :=
  ∀ M1 f, fq (cF b) M M1 → M1 8 0 5 = zI f → (∀ W, K W → Fin (chr len tx) s p true W o rd v (.inl f)) → Q (-1) 0 M1
def KT (_ : List Int) : Prop := True
def KP (W : List Int) : Prop := W.head? ≠ some 103
def KS (W : List Int) : Prop := W = [] ∨ W.head? = some 0
def cT (_ : Int) : Prop := True
def cQ (x : Int) : Prop := x ≠ 42
def cS (x : Int) : Prop := x ≠ 42 ∧ x ≠ 43 ∧ x ≠ 45
theorem fq_PF {b : Nat} {M M1 : jM} (h : fq cP M M1) : fq (cF b) M M1 := fq_mono h (fun _ _ _ q => cB_F (cP_B q))
theorem fq_EF {b : Nat} {M M1 : jM} (h : fq cE M M1) : fq (cF b) M M1 := fq_mono h (fun _ _ _ q => cE_F q)
theorem fq_PB {b : Nat} {M M1 : jM} (h : fq cP M M1) : fq (cB b) M M1 := fq_mono h (fun _ _ _ q => cP_B q)
theorem fq_BF {b : Nat} {M M1 : jM} (h : fq (cB b) M M1) : fq (cF b) M M1 := fq_mono h (fun _ _ _ q => cB_F q)
theorem fq_5B {b : Nat} {M M1 : jM} (h : fq (cB b) M M1) : M1 8 0 5 = M 8 0 5 := h 8 0 5 (fun z => by unfold cB cP at z; omega)
theorem fq_5P {M M1 : jM} (h : fq cP M M1) : M1 8 0 5 = M 8 0 5 := h 8 0 5 (fun z => by unfold cP at z; omega)
theorem CT_8 {M M1 : jM} {b : Nat} {len : Int} {tx : Int → Int} {p : Int} (h : CT M len tx p) (hf : fq (cB b) M M1) (e : M1 8 = M 8) : CT M1 len tx p :=
  CT_B h hf h.2.1 (by rw [e]; exact h.2.2.2.1)
theorem nP_l {len : Int} {tx : Int → Int} {p : Int} (h : TG len tx) (hp : 0 ≤ p) (hd : isD (chr len tx p)) : nP (chr len tx) p ≤ len := by
  unfold nP
  have a := chr_c (p := p) h hp
  have b := chr_c (p := p + 1) h (by omega)
  split
  · next q => have := q.2; unfold isD at this hd; omega
  · unfold isD at hd; omega
set_option maxHeartbeats 4000000 in
set_option maxRecDepth 100000 in
theorem rx_ok {M : jM} {b : Nat} {len : Int} {tx : Int → Int} {v : Int → Int} {s p f0 rd o : Int} {st : List Int} {Q : Int32 → Nat → jM → Prop} (hT : CT M len tx p) (hC : CB M b v s f0 rd) (hP : PI v s p f0 rd st) (hl : st.length < 9)
    (hA : HG len tx b s f0 o M p rd v st KT cT Q) (hB : HB len tx b s o M p rd v KT Q) (h1 : ¬ isD (chr len tx p)) (h2 : chr len tx p ≠ 105) (h3 : ¬ (chr len tx p = 40 ∧ o < 3)) :
    (0 ≤ M 0 b 7) ∧ ((M 7 (4 * b + (if M 0 b 7 < 4 then M 0 b 7 else 3).toNatClampNeg) 3) < 5 → ok_X8_parseReference M (fun r10 _ M11 => jnb M11 = jnb M ∧ (r10 = (-1) → (r10 = (-1) → Q (-1) 0 M11) ∧ (¬ (r10 = (-1)) → Q 1 0 M11)) ∧ (¬ (r10 = (-1)) → ok_X0_addRead b r10 M11 (fun _ _ M13 => jnb M13 = jnb M11 ∧ (r10 = (-1) → Q (-1) 0 M13) ∧ (¬ (r10 = (-1)) → Q 1 0 M13))))) ∧ (¬ ((M 7 (4 * b + (if M 0 b 7 < 4 then M 0 b 7 else 3).toNatClampNeg) 3) < 5) → (∀ M14 : jM, M14 = jup M 8 0 5 (M 8 0 3) → Q (-1) 0 M14)) := by
  have hs := hP.1
  have hrd := hP.2.1
  have h4 := hP.2.2.1
  have hf := hP.2.2.2.1
  have hn := hP.2.2.2.2.2.2.1.1.1
  have e7 := hC.2.1.2.1
  have e73 := hC.2.2.2.2.1.2
  have e3 := hT.2.2.2.1
  have hl2 := hT.1.1
  have hp := hT.2.1
  rw [e7, if_pos (by rw [z_4, z_ltT (by omega)]; trivial), z_clamp (by omega), e73]
  refine ⟨by rw [z_0, z_leT (by omega)]; trivial, fun w => ?_, fun w => ?_⟩
  · rw [z_5, z_ltI (by omega)] at w
    refine pr_ok hT (fun p' a d hg M1 f1 T1 => ⟨fq_nbP f1, ?_⟩) (fun f hb M1 f1 g1 => ⟨fq_nbE f1, fun _ => ⟨fun _ => ?_, fun w => absurd rfl w⟩, fun w => absurd rfl w⟩)
    · obtain ⟨r1, r2, r3, r4⟩ := rfG_r hg
      have hp' := T1.2.1
      have ne : ¬ (zI (49 * a + d + 9) = -1) := fun w => by rw [z_1, z_neg, z_eqF (by omega)] at w; exact w
      refine ⟨fun w => absurd w ne, fun _ => ?_⟩
      refine ad_ok hP (CB_P hC f1) w (by omega) r1 r2 (fun M13 b1 b2 b3 => ⟨fq_nbB b1, fun w => absurd w ne, fun _ => ?_⟩)
      obtain ⟨hP2, e4⟩ := PI_rf hP w r1 r2
      have eh : rfV s v a d 0 (101 + s) = v (101 + s) := rf_hi (by omega) (Or.inl (by omega))
      have a1 := hA M13 p' _ _ 1 (fq_tr (fq_PB f1) b1) (CT_8 T1 b1 b2) (by rw [b2]; exact fq_5P f1) b3 (PI_tk hP2 (by rw [eh]; simp; omega) (Or.inr ⟨by omega, by omega⟩) (hst_v (by omega) hl)) (by omega) trivial (fun W r _ h => Fin_fac h3 (Or.inr (Or.inr ⟨w, rfl, a, d, hg, rfl⟩)) h)
      rw [z_1]; exact a1
    · refine hB M1 f (fq_EF f1) g1 (fun W _ => Fin_bad h3 ?_)
      by_cases q : 97 ≤ chr len tx p ∧ chr len tx p ≤ 101
      · exact Or.inr (Or.inr ⟨q, w, hb⟩)
      · refine Or.inl ⟨h1, h2, q, ?_⟩
        unfold rfB at hb
        omega
  · rw [z_5, z_ltI (by omega)] at w
    rintro M1 rfl
    refine hB _ p (fq_up (fq_rf _ _) (cE_F ⟨rfl, rfl, Or.inr rfl⟩)) (by rw [jup_self]; exact e3) (fun W _ => Fin_bad h3 ?_)
    by_cases q : 97 ≤ chr len tx p ∧ chr len tx p ≤ 101
    · exact Or.inr (Or.inl ⟨q, by omega, rfl⟩)
    · exact Or.inl ⟨h1, h2, q, rfl⟩
/-! the three of them, at one depth -/
def PFs (len : Int) (tx : Int → Int) (b : Nat) (s f0 o : Int) : Prop :=
  ∀ M p rd v st Q, CT M len tx p → CB M b v s f0 rd → PI v s p f0 rd st → (st.length : Int) ≤ 2 * o + 2 → HG len tx b s f0 o M p rd v st KT cT Q → HB len tx b s o M p rd v KT Q → ok_X8_parseFactor (3 - o).toNat b (zI o) M Q
def PPs (len : Int) (tx : Int → Int) (b : Nat) (s f0 o : Int) : Prop :=
  ∀ M p rd v st Q, CT M len tx p → CB M b v s f0 rd → PI v s p f0 rd st → (st.length : Int) ≤ 2 * o + 1 → HG len tx b s f0 o M p rd v st KP cQ Q → HB len tx b s o M p rd v KP Q → ok_X8_parseProduct (3 - o).toNat b (zI o) M Q
def PSs (len : Int) (tx : Int → Int) (b : Nat) (s f0 o : Int) : Prop :=
  ∀ M p rd v st Q, CT M len tx p → CB M b v s f0 rd → PI v s p f0 rd st → (st.length : Int) ≤ 2 * o → HG len tx b s f0 o M p rd v st KS cS Q → HB len tx b s o M p rd v KS Q → ok_X8_parseSum (3 - o).toNat b (zI o) M Q
theorem PI_h {v : Int → Int} {s e f0 rd h : Int} {st : List Int} (hP : PI v s e f0 rd (h :: st)) : 0 ≤ h ∧ h ≤ 120 := by
  have h1 := hP.2.2.2.2.2.2.1.2.2 h (by simp)
  have h2 := hP.2.2.2.2.2.2.1.1.1
  omega
theorem ne1 {h : Int} (hh : 0 ≤ h ∧ h ≤ 120) : ¬ (zI h = -1) := fun w => by rw [z_1, z_neg, z_eqF (by omega)] at w; exact w
set_option maxHeartbeats 4000000 in
set_option maxRecDepth 100000 in
theorem PF_of {len : Int} {tx : Int → Int} {b : Nat} {s f0 o : Int} (ho : 0 ≤ o ∧ o ≤ 3) (hS : o < 3 → PSs len tx b s f0 (o + 1)) : PFs len tx b s f0 o := by
  intro M p rd v st Q hT hC hP hl hA hB
  have c1 := hC.1
  have hf := hP.2.2.2.1
  have hn := hP.2.2.2.2.2.2.1.1.1
  have hl2 := hT.1.1
  have hp := hT.2.1
  obtain ⟨z, ez, hz⟩ := jpk_e hT
  have hj := hT.2.2.2.2.2
  have e3 := hT.2.2.2.1
  refine en_X8_parseFactor (bl_X8_parseFactor_0 _ _ _ _ _ c1 ?_)
  rw [ez, dig_e (by omega), z_105, z_40, z_eqI (a := z) (b := 105) (by omega), z_eqI (a := z) (b := 40) (by omega)]
  refine ⟨hj, fun hd => ?_, fun hd => ⟨fun q => ?_, fun q => ⟨fun q4 => ⟨fun w => ?_, fun w => ?_⟩, fun q4 => ?_⟩⟩⟩
  · have hd2 : isD (chr len tx p) := by unfold isD at hd ⊢; omega
    refine pn_ok hT (fun _ M1 f1 T1 => ⟨fq_nbP f1, ?_⟩) (fun w => absurd hd2 w)
    have hx := nX_r hd2
    have hpr := nP_r (chr len tx) p
    have hpl := nP_l hT.1 hp.1 hd2
    refine at_ok (t := nX (chr len tx) p) hP (CB_P hC f1) (by omega) (Or.inl ⟨by omega, by omega, z_3, rfl⟩) (by omega) (fun M2 b1 b2 b3 => ⟨fq_nbB b1, ?_⟩)
    have a1 := hA M2 _ _ _ 1 (fq_tr (fq_PB f1) b1) (CT_8 T1 b1 b2) (by rw [b2]; exact fq_5P f1) b3 (PI_tk hP (by simp; omega) (Or.inl (by omega)) (hst_v (by omega) (by omega))) (by omega) trivial (fun W r _ h => Fin_fac (fun w => by unfold isD at hd2; omega) (Or.inl ⟨hd2, rfl, rfl, rfl⟩) h)
    rw [z_1]; exact a1
  · have hc : chr len tx p = 105 := by omega
    rintro M1 rfl
    rw [e3, z_1, z_add]
    have f1 : fq cP M (jup M 8 0 3 (zI (p + 1))) := fq_up (fq_rf _ _) ⟨rfl, rfl, rfl⟩
    have T1 : CT (jup M 8 0 3 (zI (p + 1))) len tx (p + 1) := CT_P hT f1 (by omega) (jup_self _ _ _ _ _)
    refine at_ok (t := 100) hP (CB_P hC f1) (by omega) (Or.inr (Or.inl ⟨rfl, z_4⟩)) (by omega) (fun M2 b1 b2 b3 => ⟨by rw [fq_nbB b1], ?_⟩)
    have a1 := hA M2 _ _ _ 1 (fq_tr (fq_PB f1) b1) (CT_8 T1 b1 b2) (by rw [b2]; exact fq_5P f1) b3 (PI_tk hP (by simp; omega) (Or.inl (by omega)) (hst_v (by omega) (by omega))) (by omega) trivial (fun W r _ h => Fin_fac (fun w => by omega) (Or.inr (Or.inl ⟨hc, rfl, rfl, rfl⟩)) h)
    exact a1
  · rw [z_3, z_leI (by omega)] at w
    exact rx_ok hT hC hP (by omega) hA hB (fun w => hd (by unfold isD at w ⊢; omega)) (by omega) (by omega)
  · rw [z_3, z_leI (by omega)] at w
    have hc : chr len tx p = 40 := by omega
    have hop : ∀ W r, Fin (chr len tx) s (p + 1) true (0 :: W) (o + 1) rd v r → Fin (chr len tx) s p true W o rd v r := fun W r h => Fin_opn hc (by omega) h
    rintro M1 rfl
    rw [e3, z_1, z_add, z_add, show (3 - o).toNat - 1 = (3 - (o + 1)).toNat by omega]
    have f1 : fq cP M (jup M 8 0 3 (zI (p + 1))) := fq_up (fq_rf _ _) ⟨rfl, rfl, rfl⟩
    have T1 : CT (jup M 8 0 3 (zI (p + 1))) len tx (p + 1) := CT_P hT f1 (by omega) (jup_self _ _ _ _ _)
    refine ⟨by omega, hS (by omega) _ (p + 1) rd v st _ T1 (CB_P hC f1) (PI_mono hP (by omega)) (by omega) (fun M2 p' v' rd' h g1 g2 g3 g4 g5 g6 g7 g8 => ⟨fq_nbB g1, fun w => absurd w (ne1 (PI_h g5)), fun _ => ?_⟩) (fun M2 f g1 g2 g3 => ⟨fq_nbF g1, fun _ => hB M2 f (fq_tr (fq_PF f1) g1) g2 (fun W _ => hop W _ (g3 _ (Or.inr rfl))), fun w => absurd rfl w⟩)⟩
    have hf5 := g5.2.2.2.1
    have hp' := g2.2.1
    refine x1_ok (g := 41) (by decide) rfl (by decide +kernel) (by decide) g2 (fun c5 M3 f3 T3 => ⟨fq_nbP f3, fun w => absurd w (by decide), fun _ => ?_⟩) (fun c5 M3 f3 e5 => ⟨fq_nbE f3, fun _ => ?_, fun w => absurd rfl w⟩)
    · have hp3 := T3.2.1
      refine hA M3 (p' + 1) v' rd' h (fq_tr (fq_tr (fq_PB f1) g1) (fq_PB f3)) T3 (by rw [fq_5P f3, g3, fq_5P f1]) (CB_P g4 f3) (PI_mono g5 (by omega)) (by omega) trivial (fun W r _ hh => hop W r (g8 (0 :: W) r (Or.inr rfl) (Fin_cls c5 (by omega) ?_)))
      have e0 : stA s (0 :: W) v' = (0 :: W, v') := by simp only [stA, ↓reduceIte]
      rw [e0, show o + 1 - 1 = o by omega]
      exact hh
    · exact hB M3 p' (fq_tr (fq_tr (fq_PF f1) (fq_BF g1)) (fq_EF f3)) e5 (fun W _ => hop W _ (g8 (0 :: W) _ (Or.inr rfl) (Fin_enB ⟨g7.1, g7.2.1, g7.2.2, c5⟩ (by omega))))
  · exact rx_ok hT hC hP (by omega) hA hB (fun w => hd (by unfold isD at w ⊢; omega)) (by omega) (by omega)
