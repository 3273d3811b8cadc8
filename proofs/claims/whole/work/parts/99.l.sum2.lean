/-! ===== the reference reads: a sum, from sign to sign ===== -/
section
variable {c : Int → Int} {s p rd p1 rd1 p2 rd2 a1 d1 a2 d2 f f2 : Int} {v v1 v2 : Int → Int}
theorem rfG_u (h : rfG c p p1 a1 d1) (h2 : rfG c p p2 a2 d2) : p1 = p2 ∧ a1 = a2 ∧ d1 = d2 := by
  unfold rfG isD at *
  omega
theorem rf_x (h : rfG c p p1 a1 d1) (h2 : rfB c p f) : False := by
  unfold rfG at h
  unfold rfB at h2
  unfold isD at *
  omega
theorem rfB_u (h : rfB c p f) (h2 : rfB c p f2) : f = f2 := by
  unfold rfB isD at *
  omega
theorem rfG_97 (h : rfG c p p1 a1 d1) : 97 ≤ c p ∧ c p ≤ 101 := by
  have := h.1
  have := h.2.1
  omega
theorem Fc_u (h : Fc c s p rd v p1 rd1 v1) (h2 : Fc c s p rd v p2 rd2 v2) : p1 = p2 ∧ rd1 = rd2 ∧ v1 = v2 := by
  rcases h with ⟨x0, x1, x2, x3⟩ | ⟨x0, x1, x2, x3⟩ | ⟨x0, x2, a, d, xg, x3⟩
  · rcases h2 with ⟨y0, y1, y2, y3⟩ | ⟨y0, y1, y2, y3⟩ | ⟨y0, y2, a', d', yg, y3⟩
    · exact ⟨by omega, by omega, by rw [x3, y3]⟩
    · exfalso; unfold isD at x0; omega
    · exfalso; unfold isD at x0; have := rfG_97 yg; omega
  · rcases h2 with ⟨y0, y1, y2, y3⟩ | ⟨y0, y1, y2, y3⟩ | ⟨y0, y2, a', d', yg, y3⟩
    · exfalso; unfold isD at y0; omega
    · exact ⟨by omega, by omega, by rw [x3, y3]⟩
    · exfalso; have := rfG_97 yg; omega
  · rcases h2 with ⟨y0, y1, y2, y3⟩ | ⟨y0, y1, y2, y3⟩ | ⟨y0, y2, a', d', yg, y3⟩
    · exfalso; unfold isD at y0; have := rfG_97 xg; omega
    · exfalso; have := rfG_97 xg; omega
    · obtain ⟨e1, e2, e3⟩ := rfG_u xg yg
      exact ⟨e1, by omega, by rw [x3, y3, e2, e3]⟩
theorem Fc_x (h : Fc c s p rd v p1 rd1 v1) (h2 : Fb c p rd f) : False := by
  rcases h with ⟨x0, x1, x2, x3⟩ | ⟨x0, x1, x2, x3⟩ | ⟨x0, x2, a, d, xg, x3⟩
  · rcases h2 with ⟨y0, y1, y2, y3⟩ | ⟨y0, y1, y2⟩ | ⟨y0, y1, y2⟩
    · exact y0 x0
    · unfold isD at x0; omega
    · unfold isD at x0; omega
  · rcases h2 with ⟨y0, y1, y2, y3⟩ | ⟨y0, y1, y2⟩ | ⟨y0, y1, y2⟩
    · exact y1 x0
    · omega
    · omega
  · rcases h2 with ⟨y0, y1, y2, y3⟩ | ⟨y0, y1, y2⟩ | ⟨y0, y1, y2⟩
    · exact y2 (rfG_97 xg)
    · omega
    · exact rf_x xg y2
theorem Fb_u (h : Fb c p rd f) (h2 : Fb c p rd f2) : f = f2 := by
  rcases h with ⟨x0, x1, x2, x3⟩ | ⟨x0, x1, x2⟩ | ⟨x0, x1, x2⟩
  · rcases h2 with ⟨y0, y1, y2, y3⟩ | ⟨y0, y1, y2⟩ | ⟨y0, y1, y2⟩
    · omega
    · exact absurd y0 x2
    · exact absurd y0 x2
  · rcases h2 with ⟨y0, y1, y2, y3⟩ | ⟨y0, y1, y2⟩ | ⟨y0, y1, y2⟩
    · exact absurd x0 y2
    · omega
    · omega
  · rcases h2 with ⟨y0, y1, y2, y3⟩ | ⟨y0, y1, y2⟩ | ⟨y0, y1, y2⟩
    · exact absurd x0 y2
    · omega
    · exact rfB_u x2 y2
end
/-- a row while a statement is read -/
def MI (v : Int → Int) (s rd : Int) : Prop := (0 ≤ s ∧ s ≤ 3 ∧ v 3 = s) ∧ (0 ≤ rd ∧ rd ≤ 5) ∧ (0 ≤ v 4 ∧ v 4 ≤ 6 * s + rd) ∧ 0 ≤ v (101 + s) ∧ ∀ j, s < j → j < 4 → v (101 + j) = 0
theorem MI_tk {v : Int → Int} {s rd t : Int} (h : MI v s rd) : MI (tkV s v t) s rd := by
  obtain ⟨h1, h2, h3, h4, h5⟩ := h
  have hs : 0 ≤ s ∧ s ≤ 3 := ⟨h1.1, h1.2.1⟩
  exact ⟨⟨h1.1, h1.2.1, by rw [tk_lo hs h4 (by omega)]; exact h1.2.2⟩, h2, by rw [tk_lo hs h4 (by omega)]; exact h3, by rw [tk_c]; omega, fun j j0 j1 => by rw [tk_cn hs h4 (by omega)]; exact h5 j j0 j1⟩
theorem MI_rf {v : Int → Int} {s rd a d : Int} (h : MI v s rd) (hr : rd < 5) : MI (rfV s v a d 0) s (rd + 1) := by
  obtain ⟨h1, h2, h3, h4, h5⟩ := h
  have v4 : 0 ≤ v 4 ∧ v 4 < 24 := by omega
  exact ⟨⟨h1.1, h1.2.1, by rw [rf_hi v4 (by omega)]; exact h1.2.2⟩, by omega, by rw [rf_4]; omega, by rw [rf_hi v4 (by omega)]; exact h4, fun j j0 j1 => by rw [rf_hi v4 (by omega)]; exact h5 j j0 j1⟩
theorem MI_fc {c : Int → Int} {v v' : Int → Int} {s p p' rd rd' : Int} (h : MI v s rd) (hf : Fc c s p rd v p' rd' v') : MI v' s rd' ∧ v' (101 + s) = v (101 + s) + 1 ∧ p + 1 ≤ p' := by
  have h1 := h.1
  have h3 := h.2.2.1
  have h2 := h.2.1
  rcases hf with ⟨_, e1, rfl, rfl⟩ | ⟨_, e1, rfl, rfl⟩ | ⟨r1, rfl, a, d, hg, rfl⟩
  · exact ⟨MI_tk h, tk_c, by have := nP_r c p; omega⟩
  · exact ⟨MI_tk h, tk_c, by omega⟩
  · exact ⟨MI_tk (MI_rf h r1), by rw [tk_c, rf_hi (by omega) (by omega)], by have := rfG_r hg; omega⟩
theorem MI_stA {s rd : Int} : ∀ (W : List Int) (v : Int → Int), MI v s rd → MI (stA s W v).2 s rd
  | [], v, h => h
  | x :: W, v, h => by
    by_cases q : x = 0
    · have e : stA s (x :: W) v = (x :: W, v) := by simp only [stA, if_pos q]
      rw [e]; exact h
    · rw [stA_c q]
      exact MI_stA W _ (MI_tk h)
theorem MI_stT {s rd : Int} : ∀ (W : List Int) (v : Int → Int), MI v s rd → MI (stT s W v).2 s rd
  | [], v, h => h
  | x :: W, v, h => by
    by_cases q : x = 103
    · subst q
      rw [stT_c]
      exact MI_stT W _ (MI_tk h)
    · have e : stT s (x :: W) v = (x :: W, v) := by simp only [stT, if_neg q]
      rw [e]; exact h
theorem MT_fm {M M1 : jM} {len : Int} {tx : Int → Int} {p : Int} {S F : List Nat} (h : MT M len tx p) (hf : fm S F M M1) (hS : 54 ∉ S ∧ 11 ∉ F ∧ 12 ∉ F ∧ 13 ∉ F := by decide) : MT M1 len tx p :=
  MT_p h h.2.1 (hf.2 11 hS.2.1) (hf.2 13 hS.2.2.2) (fun j => by rw [hf.1 54 (by decide) hS.1]) (by rw [hf.2 12 hS.2.2.1]; exact h.2.2.2.1)
theorem MB_fm {M M1 : jM} {len f : Int} {S F : List Nat} (h : MB M len f) (hf : fm S F M M1) (hF : 10 ∉ F ∧ 11 ∉ F ∧ 12 ∉ F ∧ 13 ∉ F := by decide) : MB M1 len f := by
  obtain ⟨h1, h2, ⟨p, h3, h4⟩, h5, h6⟩ := h
  exact ⟨h1, by rw [hf.2 11 hF.2.1]; exact h2, ⟨p, by rw [hf.2 12 hF.2.2.1]; exact h3, h4⟩, by rw [hf.2 13 hF.2.2.2]; exact h5, by rw [hf.2 10 hF.1]; exact h6⟩
theorem SW_fm {M M1 : jM} {W : List Int} {S F : List Nat} (h : SW M W) (hf : fm S F M M1) (hS : 56 ∉ S ∧ 17 ∉ F := by decide) : SW M1 W := by
  unfold SW at *
  rw [hf.1 56 (by decide) hS.1, hf.2 17 hS.2]
  exact h
theorem RWr_f2 {M M1 : jM} {rd : Int} {v : Int → Int} {S F : List Nat} (h : RWr M rd v) (hf : fm S F M M1) (hS : 55 ∉ S ∧ 14 ∉ F := by decide) : RWr M1 rd v := ⟨h.1, by rw [hf.2 14 hS.2]; exact h.2.1, fun j j0 j1 => by rw [hf.1 55 (by decide) hS.1]; exact h.2.2 j j0 j1⟩
theorem lo_fm {M M1 : jM} {rd : Int} {S F : List Nat} (hf : fm S F M M1) (hS : 55 ∉ S := by decide) : lo55 rd M M1 := fun j _ => by rw [hf.1 55 (by decide) hS]
/-- the reference within a sum -/
def US (M : jM) (len : Int) (tx : Int → Int) (p rw s : Int) (v : Int → Int) (W : List Int) (o rd : Int) : Prop :=
  MT M len tx p ∧ RWr M rw v ∧ SW M W ∧ MI v s rd ∧ (M 11 0 18 = zI o ∧ o = zn W ∧ o ≤ 3) ∧ M 11 0 19 = zI rd ∧ v (101 + s) + nz W + 1 ≤ p ∧ (W.length : Int) + 1 ≤ p
section
variable {M : jM} {len p rw s o rd : Int} {tx v : Int → Int} {W : List Int} {K : Int32 → Nat → jM → Prop}
theorem uA_ok (h : US M len tx p rw s v W o rd) (hQ : ∀ M1, fm [55] [17] M M1 → lo55 rw M M1 → US M1 len tx p rw s (stA s W v).2 (stA s W v).1 o rd → K 0 0 M1) : ok_X12_settle 0 M K := by
  obtain ⟨h1, h2, h3, h4, h5, h6, h7, h8⟩ := h
  have hl := h1.1.1
  have hp := h1.2.1
  obtain ⟨n1, n2, n3⟩ := stA_nz (s := s) W v
  refine en_X12_settle (sA_ok W v M h2 h3 h4.1 h4.2.2.2.1 (by omega) (fun M1 g1 g2 g3 g4 => hQ M1 g1 g2 ⟨MT_fm h1 g1, g3, g4, MI_stA W v h4, ⟨by rw [g1.2 18 (by decide)]; exact h5.1, by rw [stA_zn]; exact h5.2.1, h5.2.2⟩, by rw [g1.2 19 (by decide)]; exact h6, by omega, by omega⟩))
theorem uT_ok (h : US M len tx p rw s v W o rd) (hQ : ∀ M1, fm [55] [17] M M1 → lo55 rw M M1 → US M1 len tx p rw s (stT s W v).2 (stT s W v).1 o rd → K 0 0 M1) : ok_X12_settle 1 M K := by
  obtain ⟨h1, h2, h3, h4, h5, h6, h7, h8⟩ := h
  have hl := h1.1.1
  have hp := h1.2.1
  obtain ⟨n1, n2⟩ := stT_nz (s := s) W v
  refine en_X12_settle (sT_ok W v M h2 h3 h4.1 h4.2.2.2.1 (by omega) (fun M1 g1 g2 g3 g4 => hQ M1 g1 g2 ⟨MT_fm h1 g1, g3, g4, MI_stT W v h4, ⟨by rw [g1.2 18 (by decide)]; exact h5.1, by rw [stT_zn]; exact h5.2.1, h5.2.2⟩, by rw [g1.2 19 (by decide)]; exact h6, by omega, by omega⟩))
/-- after a fault what waits is settled once more -/
theorem sb_ok {f : Int} {y : Int32} (hB : MB M len f) (hR : RWr M rw v) (hS : SW M W) (hM : MI v s rd) (hb : v (101 + s) + nz W ≤ 120) (hQ : ∀ M1, fm [55] [17] M M1 → lo55 rw M M1 → MB M1 len f → K 0 0 M1) : at_X12_sum_19 y 1 M K := by
  refine bl_X12_sum_19 _ _ _ _ ⟨fun w => absurd w (by decide), fun _ => ⟨fun w => absurd w (MB_n0 hB), fun _ => ?_⟩⟩
  refine en_X12_settle (sA_ok W v M hR hS hM.1 hM.2.2.2.1 hb (fun M1 g1 g2 g3 g4 => ⟨fm_n g1, fun _ => hQ M1 g1 g2 (MB_fm hB g1), fun _ => bb_ok (MB_fm hB g1) ⟨rfl, hQ M1 g1 g2 (MB_fm hB g1)⟩⟩))
theorem US_psh {M1 M2 M3 : jM} {x : Int} {y : Int32} (h : US M len tx p rw s v W o rd) (hp : p < len) (hx : 101 ≤ x ∧ x ≤ 103) (hy : y = zI x) (e1 : M1 = jup M 56 0 (M 11 0 17).toNatClampNeg y) (e2 : M2 = jup M1 11 0 17 (M1 11 0 17 + 1)) (e3 : M3 = jup M2 11 0 12 (M2 11 0 12 + 1)) :
    US M3 len tx (p + 1) rw s v (x :: W) o rd ∧ fm [55, 56] [12, 17, 18, 19] M M3 ∧ lo55 rw M M3 := by
  obtain ⟨h1, h2, h3, h4, h5, h6, h7, h8⟩ := h
  have hl := h1.1.1
  have hp0 := h1.2.1
  have e17 := h3.1
  rw [e17, z_clamp (by omega), show ((W.length : Nat) : Int).toNat = W.length by omega] at e1
  have e17' : M1 11 0 17 + 1 = zI ((W.length : Int) + 1) := by rw [e1, jup_R (by decide), e17, z_1, z_add]
  have e12' : M2 11 0 12 + 1 = zI (p + 1) := by rw [e2, e1, jup_ne (by omega), jup_R (by decide), h1.2.2.2.1, z_1, z_add]
  rw [e17'] at e2
  rw [e12'] at e3
  have S2 : SW M2 (x :: W) := by rw [e2, e1]; exact SW_psh h3 (by omega) hy (Or.inr hx)
  have f2 : fm [56] [17] M M2 := by rw [e2, e1]; exact fm_f (fm_up (fm_rf _ _ _))
  have f3 : fm [] [12] M2 M3 := by rw [e3]; exact fm_f (fm_rf _ _ _)
  have F : fm [56] [12, 17] M M3 := fm_tr f2 f3
  refine ⟨⟨MT_p h1 (by omega) (F.2 11 (by decide)) (F.2 13 (by decide)) (fun j => by rw [F.1 54 (by decide) (by decide)]) (by rw [e3, jup_self]), RWr_f2 h2 F, SW_fm S2 f3, h4, ⟨by rw [F.2 18 (by decide)]; exact h5.1, ?_, h5.2.2⟩, by rw [F.2 19 (by decide)]; exact h6, ?_, ?_⟩, fm_mono F, lo_fm F⟩
  · simp only [zn]
    rw [if_neg (by omega)]
    omega
  · simp only [nz]
    rw [if_neg (by omega)]
    omega
  · simp only [List.length_cons]
    omega
theorem US_opn {M1 M2 M3 M4 : jM} (h : US M len tx p rw s v W o rd) (hp : p < len) (ho : o < 3) (e1 : M1 = jup M 56 0 (M 11 0 17).toNatClampNeg 0) (e2 : M2 = jup M1 11 0 17 (M1 11 0 17 + 1)) (e3 : M3 = jup M2 11 0 18 (M2 11 0 18 + 1)) (e4 : M4 = jup M3 11 0 12 (M3 11 0 12 + 1)) :
    US M4 len tx (p + 1) rw s v (0 :: W) (o + 1) rd ∧ fm [55, 56] [12, 17, 18, 19] M M4 ∧ lo55 rw M M4 := by
  obtain ⟨h1, h2, h3, h4, h5, h6, h7, h8⟩ := h
  have hl := h1.1.1
  have hp0 := h1.2.1
  have e17 := h3.1
  rw [e17, z_clamp (by omega), show ((W.length : Nat) : Int).toNat = W.length by omega] at e1
  have e17' : M1 11 0 17 + 1 = zI ((W.length : Int) + 1) := by rw [e1, jup_R (by decide), e17, z_1, z_add]
  rw [e17'] at e2
  have e18' : M2 11 0 18 + 1 = zI (o + 1) := by rw [e2, e1, jup_ne (by omega), jup_R (by decide), h5.1, z_1, z_add]
  rw [e18'] at e3
  have e12' : M3 11 0 12 + 1 = zI (p + 1) := by rw [e3, e2, e1, jup_ne (by omega), jup_ne (by omega), jup_R (by decide), h1.2.2.2.1, z_1, z_add]
  rw [e12'] at e4
  have S2 : SW M2 (0 :: W) := by rw [e2, e1]; exact SW_psh h3 (by omega) z_0 (Or.inl rfl)
  have f2 : fm [56] [17] M M2 := by rw [e2, e1]; exact fm_f (fm_up (fm_rf _ _ _))
  have f3 : fm [] [12, 18] M2 M4 := by rw [e4, e3]; exact fm_f (fm_f (fm_rf _ _ _))
  have F : fm [56] [12, 17, 18] M M4 := fm_tr f2 f3
  refine ⟨⟨MT_p h1 (by omega) (F.2 11 (by decide)) (F.2 13 (by decide)) (fun j => by rw [F.1 54 (by decide) (by decide)]) (by rw [e4, jup_self]), RWr_f2 h2 F, SW_fm S2 f3, h4, ⟨by rw [e4, jup_ne (by omega), e3, jup_self], ?_, by omega⟩, by rw [F.2 19 (by decide)]; exact h6, ?_, ?_⟩, fm_mono F, lo_fm F⟩
  · simp only [zn, ↓reduceIte]
    omega
  · simp only [nz, ↓reduceIte]
    omega
  · simp only [List.length_cons]
    omega
theorem US_cls {M1 M2 M3 : jM} (h : US M len tx p rw s v (0 :: W) o rd) (hp : p < len) (e1 : M1 = jup M 11 0 17 (M 11 0 17 - 1)) (e2 : M2 = jup M1 11 0 18 (M1 11 0 18 - 1)) (e3 : M3 = jup M2 11 0 12 (M2 11 0 12 + 1)) :
    US M3 len tx (p + 1) rw s v W (o - 1) rd ∧ fm [55, 56] [12, 17, 18, 19] M M3 ∧ lo55 rw M M3 := by
  obtain ⟨h1, h2, h3, h4, h5, h6, h7, h8⟩ := h
  have hl := h1.1.1
  have hp0 := h1.2.1
  obtain ⟨e17, k2, k3, k4⟩ := h3
  have hlen : ((0 :: W : List Int).length : Int) = (W.length : Int) + 1 := by simp
  rw [hlen] at e17 h8
  have e17' : M 11 0 17 - 1 = zI (W.length : Int) := by rw [e17, z_1, z_sub]; exact zc (by omega)
  rw [e17'] at e1
  have e18' : M1 11 0 18 - 1 = zI (o - 1) := by rw [e1, jup_ne (by omega), h5.1, z_1, z_sub]
  rw [e18'] at e2
  have e12' : M2 11 0 12 + 1 = zI (p + 1) := by rw [e2, e1, jup_ne (by omega), jup_ne (by omega), h1.2.2.2.1, z_1, z_add]
  rw [e12'] at e3
  have F : fm [] [12, 17, 18] M M3 := by rw [e3, e2, e1]; exact fm_f (fm_f (fm_f (fm_rf _ _ _)))
  have hz : zn (0 :: W) = zn W + 1 := by simp only [zn, ↓reduceIte]; omega
  have hn : nz (0 :: W) = nz W := by simp only [nz, ↓reduceIte]; omega
  have k3' : W.length + 1 ≤ 120 := by simpa using k3
  refine ⟨⟨MT_p h1 (by omega) (F.2 11 (by decide)) (F.2 13 (by decide)) (fun j => by rw [F.1 54 (by decide) (by decide)]) (by rw [e3, jup_self]), RWr_f2 h2 F, ⟨by rw [e3, e2, e1, jup_ne (by omega), jup_ne (by omega), jup_self], ?_, by omega, fun y hy => k4 y (by simp [hy])⟩, h4, ⟨by rw [e3, e2, jup_ne (by omega), jup_self], by omega, by omega⟩, by rw [F.2 19 (by decide)]; exact h6, by omega, by omega⟩, fm_mono F, lo_fm F⟩
  exact skZ_congr W (fun j _ => by rw [F.1 56 (by decide) (by decide)]) k2.2
end
set_option maxHeartbeats 4000000 in
set_option maxRecDepth 100000 in
theorem su_ok {len rw s : Int} {tx : Int → Int} {Q : Int32 → Nat → jM → Prop} : ∀ (n : Nat) (M : jM) (p : Int) (b : Bool) (y : Int32) (W : List Int) (o rd : Int) (v : Int → Int) (r : Int ⊕ (Int × Int × (Int → Int))), Fn (chr len tx) s n p b W o rd v r → (b = true → y = 1) → (b = false → y = 0) → US M len tx p rw s v W o rd →
    (∀ M1 p' rd' v', r = .inr (p', rd', v') → fm [55, 56] [12, 17, 18, 19] M M1 → lo55 rw M M1 → MT M1 len tx p' → RWr M1 rw v' → MI v' s rd' → Q 0 0 M1) →
    (∀ M1 f, r = .inl f → fm [55, 56] [10, 12, 13, 17, 18, 19] M M1 → lo55 rw M M1 → MB M1 len f → Q 0 0 M1) → at_X12_sum_19 y 1 M Q := by
  intro n
  induction n with
  | zero => intro M p b y W o rd v r h; exact h.elim
  | succ n ih =>
    intro M p b y W o rd v r h hy1 hy0 hU hA hB
    have hU' := hU
    obtain ⟨h1, h2, h3, h4, h5, h6, h7, h8⟩ := hU'
    have hl := h1.1.1
    have hp := h1.2.1
    have hz := zn_r W
    have hnz := nz_r W
    have hn := h4.2.2.2.1
    obtain ⟨ej, hj⟩ := jhr_e h1
    have next : ∀ (M2 : jM) (p2 : Int) (b2 : Bool) (y2 : Int32) (W2 : List Int) (o2 rd2 : Int) (v2 : Int → Int), fm [55, 56] [12, 17, 18, 19] M M2 → lo55 rw M M2 → US M2 len tx p2 rw s v2 W2 o2 rd2 → Fn (chr len tx) s n p2 b2 W2 o2 rd2 v2 r → (b2 = true → y2 = 1) → (b2 = false → y2 = 0) → at_X12_sum_19 y2 1 M2 Q := fun M2 p2 b2 y2 W2 o2 rd2 v2 f2 l2 u2 g2 q1 q0 =>
      ih M2 p2 b2 y2 W2 o2 rd2 v2 r g2 q1 q0 u2 (fun M1 p' rd' v' e g1 g3 g4 g5 g6 => hA M1 p' rd' v' e (fm_tr f2 g1) (lo_tr l2 g3) g4 g5 g6) (fun M1 f e g1 g3 g4 => hB M1 f e (fm_tr f2 g1) (lo_tr l2 g3) g4)
    cases b with
    | true =>
      obtain rfl := hy1 rfl
      have fac : ¬ (chr len tx p = 40 ∧ o < 3) → ok_X12_factor M (fun _ _ M18 => jnb M18 = jnb M ∧ at_X12_sum_19 0 1 M18 Q) := fun hn40 => by
        unfold Fn at h
        refine fa_ok h1 h2 h4.1 (by omega) h4.2.2.1 h4.2.1 h6 (fun M1 p' rd' v' hc g1 g2 g3 g4 g5 => ⟨fm_n g1, ?_⟩) (fun M1 f hb g1 g2 => ⟨fm_n g1, ?_⟩)
        · rcases h with ⟨w1, w2, _⟩ | ⟨_, p1, rd1, v1, hc1, h⟩ | ⟨_, f, hb, _⟩
          · exact absurd ⟨w1, w2⟩ hn40
          · obtain ⟨rfl, rfl, rfl⟩ := Fc_u hc hc1
            obtain ⟨m1, m2, m3⟩ := MI_fc h4 hc
            exact next M1 p' false 0 W o rd' v' (fm_mono g1) g2 ⟨g3, g4, ⟨by rw [g1.2 17 (by decide)]; exact h3.1, skZ_congr W (fun j _ => by rw [g1.1 56 (by decide) (by decide)]) h3.2.1, h3.2.2⟩, m1, ⟨by rw [g1.2 18 (by decide)]; exact h5.1, h5.2⟩, g5, by omega, by omega⟩ h (fun z => by cases z) (fun _ => rfl)
          · exact (Fc_x hc hb).elim
        · rcases h with ⟨w1, w2, _⟩ | ⟨_, p1, rd1, v1, hc1, h⟩ | ⟨_, f1, hb1, h⟩
          · exact absurd ⟨w1, w2⟩ hn40
          · exact (Fc_x hc1 hb).elim
          · have ef := Fb_u hb hb1
            exact sb_ok g2 (RWr_f2 h2 g1) (SW_fm h3 g1) h4 (by omega) (fun M3 k1 k2 k3 => hB M3 f (by rw [h, ef]) (fm_tr g1 k1) (lo_tr (lo_fm g1) k2) k3)
      refine bl_X12_sum_19 _ _ _ _ ⟨fun w => absurd w (by decide), fun _ => ⟨fun _ => ⟨MT_in h1, fun w => absurd w (by decide), fun _ => ?_⟩, fun w => absurd (MT_0 h1) w⟩⟩
      rw [ej, h5.1, z_40, z_3, z_eqI (a := chr len tx p) (b := 40) (by omega), z_leI (a := 3) (b := o) (by omega)]
      refine ⟨fun w40 => ⟨fun w3 => ⟨fun w => absurd w (by decide), fun _ => fac (by omega)⟩, fun w3 => ⟨by rw [h3.1, z_inT (by omega)]; trivial, ?_⟩⟩, fun w40 => ⟨fun w => absurd w (by decide), fun _ => fac (by omega)⟩⟩
      intro M33 e33 M34 e34 M35 e35 M36 e36
      obtain ⟨u1, u2, u3⟩ := US_opn hU (by omega) (by omega) e33 e34 e35 e36
      unfold Fn at h
      rcases h with ⟨_, _, h⟩ | ⟨w, _⟩ | ⟨w, _⟩
      · exact next M36 (p + 1) true 1 (0 :: W) (o + 1) rd v u2 u3 u1 h (fun _ => rfl) (fun z => by cases z)
      · exact absurd ⟨w40, by omega⟩ w
      · exact absurd ⟨w40, by omega⟩ w
    | false =>
      obtain rfl := hy0 rfl
      unfold Fn at h
      have fin : ¬ (chr len tx p = 42) → ¬ (chr len tx p = 43) → ¬ (chr len tx p = 45) → ¬ (chr len tx p = 41 ∧ 0 < o) → at_X12_sum_19 0 0 M Q := fun q1 q2 q3 q4 => by
        refine bl_X12_sum_19 _ _ _ _ ⟨fun _ => ?_, fun w => absurd rfl w⟩
        refine uA_ok hU (fun M2 g1 g2 g3 => ⟨fm_n g1, ?_⟩)
        rw [g3.2.2.2.2.1.1, z_0, z_leI (by omega)]
        have r1 : (0 < o ∧ r = .inl p) ∨ (¬ (0 < o) ∧ r = .inr (p, rd, (stA s W v).2)) := by
          rcases h with ⟨w, _⟩ | ⟨w, _⟩ | ⟨w, _⟩ | ⟨w, w2, _⟩ | ⟨_, w⟩
          · exact absurd w q1
          · exact absurd w q2
          · exact absurd w q3
          · exact absurd ⟨w, w2⟩ q4
          · exact w
        refine ⟨fun w => ?_, fun w => ?_⟩
        · rcases r1 with ⟨w1, _⟩ | ⟨_, e⟩
          · omega
          · exact hA M2 p rd _ e (fm_mono g1) g2 g3.1 g3.2.1 g3.2.2.2.1
        · rcases r1 with ⟨_, e⟩ | ⟨w1, _⟩
          · rw [g3.1.2.2.2.1]
            exact bd_ok g3.1 (fun M4 k1 k2 => ⟨fm_n k1, hB M4 p e (fm_tr g1 k1) (lo_tr g2 (lo_fm k1)) k2⟩)
          · omega
      refine bl_X12_sum_19 _ _ _ _ ⟨fun w => absurd w (by decide), fun _ => ⟨fun _ => ⟨MT_in h1, fun _ => ⟨fun _ => ?_, fun w => absurd rfl w⟩, fun w => absurd rfl w⟩, fun w => absurd (MT_0 h1) w⟩⟩
      rw [ej, h5.1, z_43, z_45, z_42, z_41, z_0, z_eqI (a := chr len tx p) (b := 43) (by omega), z_eqI (a := chr len tx p) (b := 45) (by omega), z_eqI (a := chr len tx p) (b := 42) (by omega), z_eqI (a := chr len tx p) (b := 41) (by omega), z_leI (a := o) (b := 0) (by omega)]
      have plen : 33 ≤ chr len tx p → p < len := fun w => by omega
      have inW : ∀ M2, US M2 len tx p rw s (stA s W v).2 (stA s W v).1 o rd → vp_in (M2 11 0 17) 120 := fun M2 u => by
        have a := u.2.2.1
        have b := u.2.2.2.2.2.2.2
        rw [a.1, z_inT (by omega)]; trivial
      have inT : ∀ M2, US M2 len tx p rw s (stT s W v).2 (stT s W v).1 o rd → vp_in (M2 11 0 17) 120 := fun M2 u => by
        have a := u.2.2.1
        have b := u.2.2.2.2.2.2.2
        rw [a.1, z_inT (by omega)]; trivial
      rw [← z_0]
      refine ⟨fun w43 => ?_, fun w43 => ⟨fun w45 => ?_, fun w45 => ⟨fun w42 => ?_, fun w42 => ⟨fun w41 => ⟨fun wo => fin w42 w43 w45 (by omega), fun wo => ?_⟩, fun w41 => fin w42 w43 w45 (by omega)⟩⟩⟩⟩
      · rw [w43]
        refine bl_X12_sum_127 _ _ _ _ ⟨fun w => absurd w (by decide), fun _ => ?_⟩
        refine uA_ok hU (fun M2 g1 g2 g3 => ⟨fm_n g1, fun _ => ⟨inW M2 g3, ?_⟩, fun w => absurd z_43.symm w⟩)
        intro M9 e9 M10 e10 M11 e11
        obtain ⟨u1, u2, u3⟩ := US_psh g3 (plen (by omega)) (x := 101) (by omega) z_101 e9 e10 e11
        rcases h with ⟨w, _⟩ | ⟨_, h⟩ | ⟨w, _⟩ | ⟨w, _⟩ | ⟨w, _⟩
        · omega
        · exact next M11 (p + 1) true 1 _ o rd _ (fm_tr g1 u2) (lo_tr g2 u3) u1 h (fun _ => rfl) (fun z => by cases z)
        · omega
        · omega
        · omega
      · rw [w45]
        refine bl_X12_sum_127 _ _ _ _ ⟨fun w => absurd w (by decide), fun _ => ?_⟩
        refine uA_ok hU (fun M2 g1 g2 g3 => ⟨fm_n g1, fun w => absurd w (by decide), fun _ => ⟨fun _ => ⟨inW M2 g3, ?_⟩, fun w => absurd z_45.symm w⟩⟩)
        intro M9 e9 M10 e10 M11 e11
        obtain ⟨u1, u2, u3⟩ := US_psh g3 (plen (by omega)) (x := 102) (by omega) z_102 e9 e10 e11
        rcases h with ⟨w, _⟩ | ⟨w, _⟩ | ⟨_, h⟩ | ⟨w, _⟩ | ⟨w, _⟩
        · omega
        · omega
        · exact next M11 (p + 1) true 1 _ o rd _ (fm_tr g1 u2) (lo_tr g2 u3) u1 h (fun _ => rfl) (fun z => by cases z)
        · omega
        · omega
      · rw [w42]
        refine bl_X12_sum_127 _ _ _ _ ⟨fun _ => ?_, fun w => absurd z_42.symm w⟩
        refine uT_ok hU (fun M2 g1 g2 g3 => ⟨fm_n g1, fun w => absurd w (by decide), fun _ => ⟨fun w => absurd w (by decide), fun _ => ⟨inT M2 g3, ?_⟩⟩⟩)
        intro M9 e9 M10 e10 M11 e11
        obtain ⟨u1, u2, u3⟩ := US_psh g3 (plen (by omega)) (x := 103) (by omega) z_103 e9 e10 e11
        rcases h with ⟨_, h⟩ | ⟨w, _⟩ | ⟨w, _⟩ | ⟨w, _⟩ | ⟨w, _⟩
        · exact next M11 (p + 1) true 1 _ o rd _ (fm_tr g1 u2) (lo_tr g2 u3) u1 h (fun _ => rfl) (fun z => by cases z)
        · omega
        · omega
        · omega
        · omega
      · refine uA_ok hU (fun M2 g1 g2 g3 => ⟨fm_n g1, ?_⟩)
        intro M14 e14 M15 e15 M16 e16
        obtain ⟨n1, n2, n3⟩ := stA_nz (s := s) W v
        have ez := stA_zn (s := s) W v
        obtain ⟨W', eW, _⟩ := zn_pop n3 (by omega)
        rw [eW] at g3
        obtain ⟨u1, u2, u3⟩ := US_cls g3 (plen (by omega)) e14 e15 e16
        rcases h with ⟨w, _⟩ | ⟨w, _⟩ | ⟨w, _⟩ | ⟨_, _, h⟩ | ⟨w, _⟩
        · omega
        · omega
        · omega
        · rw [eW] at h
          exact next M16 (p + 1) false 0 _ (o - 1) rd _ (fm_tr g1 u2) (lo_tr g2 u3) u1 h (fun z => by cases z) (fun _ => rfl)
        · omega
