/-! ===== the law's loop ===== -/
theorem ck {M5 : jM} {r1 r4 : Int32} {A : Prop} (hA : A) (h7 : M5 11 0 7 = r1) (hv : r1 = 0 → M5 61 0 0 = r4) : ((M5 11 0 7) = r1 → (r1 = 0 → (lg_cmp (M5 61 0 (0 : Int32).toNatClampNeg).toInt64 r4.toInt64 = 0 → A) ∧ (¬ (lg_cmp (M5 61 0 (0 : Int32).toNatClampNeg).toInt64 r4.toInt64 = 0) → False)) ∧ (¬ (r1 = 0) → A)) ∧ (¬ ((M5 11 0 7) = r1) → False) :=
  ⟨fun _ => ⟨fun z => ⟨fun _ => hA, fun w => w (by rw [z00, hv z]; exact (lg_cmp_eq _ _).mpr rfl)⟩, fun _ => hA⟩, fun w => w h7⟩
theorem ckb {M5 : jM} {r1 r4 : Int32} {A : Prop} (hA : A) (h7 : M5 11 0 7 = r1) (hv : r1 = 0 → M5 61 0 0 = r4 ∧ (r4 = 0 ∨ r4 = 1)) : ((M5 11 0 7) = r1 → (r1 = 0 → (r4 = 0 → (lg_cmp (M5 61 0 (0 : Int32).toNatClampNeg).toInt64 (0 : Int32).toInt64 = 0 → A) ∧ (¬ (lg_cmp (M5 61 0 (0 : Int32).toNatClampNeg).toInt64 (0 : Int32).toInt64 = 0) → False)) ∧ (¬ (r4 = 0) → (lg_cmp (M5 61 0 (0 : Int32).toNatClampNeg).toInt64 (1 : Int32).toInt64 = 0 → A) ∧ (¬ (lg_cmp (M5 61 0 (0 : Int32).toNatClampNeg).toInt64 (1 : Int32).toInt64 = 0) → False))) ∧ (¬ (r1 = 0) → A)) ∧ (¬ ((M5 11 0 7) = r1) → False) :=
  ⟨fun _ => ⟨fun z => ⟨fun q => ⟨fun _ => hA, fun w => w (by rw [z00, (hv z).1, q]; exact (lg_cmp_eq _ _).mpr rfl)⟩, fun q => ⟨fun _ => hA, fun w => w (by rw [z00, (hv z).1, (hv z).2.resolve_left q]; exact (lg_cmp_eq _ _).mpr rfl)⟩⟩, fun _ => hA⟩, fun w => w h7⟩
theorem and31 (x : Int32) : ∃ y : Int, (0 ≤ y ∧ y < 32) ∧ x &&& 31 = zI y := by
  have h := vp_in_iff.mp (pk_andIn x (m := 31) 5 (by decide) (by decide))
  exact ⟨(x &&& 31).toInt, ⟨h.1, by omega⟩, (zI_toInt _).symm⟩
theorem lI (L : Nat) : Int32.ofNat L = zI (L : Int) := z_nI L
set_option maxHeartbeats 4000000 in
set_option maxRecDepth 100000 in
theorem law_ok {L : Nat} {xs : Nat → Int32} (hL : L ≤ 2560) : ∀ (d k : Nat) (M : jM), k + d = 513 → Rz M k → at_L_23 L xs k (zI (5 * (k : Int))) M := by
  intro d
  induction d with
  | zero =>
    intro k M hd hR
    refine bl_L_23 k _ M (by omega) ⟨fun _ => trivial, fun w => absurd (by rw [lI, z_5, z_sub, z_ltT (by omega)]; trivial) w⟩
  | succ d ih =>
    intro k M hd hR
    refine bl_L_23 k _ M (by omega) ⟨fun _ => trivial, fun w => ?_⟩
    have hkL : 5 * (k : Int) + 5 ≤ L := by
      by_cases q : 5 * (k : Int) + 5 ≤ L
      · exact q
      · exact absurd (by rw [lI, z_5, z_sub, z_ltT (by omega)]; trivial) w
    clear w
    have nx : ∀ M5, Rz M5 (k + 1) → at_L_23 L xs (k + 1) (zI (5 * (k : Int)) + 5) M5 := fun M5 h => by
      have e : zI (5 * (k : Int)) + 5 = zI (5 * ((k + 1 : Nat) : Int)) := by rw [z_5, z_add]; exact zc (by omega)
      rw [e]
      exact ih (k + 1) M5 (by omega) h
    have hk2 : k ≤ 2000 := by omega
    have v0 : vp_in (zI (5 * (k : Int))) L := by rw [z_inT (by omega)]; trivial
    have v1 : vp_in (zI (5 * (k : Int)) + 1) L := by rw [z_1, z_add, z_inT (by omega)]; trivial
    have v2 : vp_in (zI (5 * (k : Int)) + 2) L := by rw [z_2, z_add, z_inT (by omega)]; trivial
    have v3 : vp_in (zI (5 * (k : Int)) + 3) L := by rw [z_3, z_add, z_inT (by omega)]; trivial
    have v4 : vp_in (zI (5 * (k : Int)) + 4) L := by rw [z_4, z_add, z_inT (by omega)]; trivial
    obtain ⟨n, w, o, ver, hR⟩ := hR
    obtain ⟨y, hy, ey⟩ := and31 (xs (zI (5 * (k : Int))).toNatClampNeg)
    refine ⟨v0, ?_⟩
    refine ⟨fun _ => bl_L_180 k _ M hk2 (⟨v1, op_append hR hk2 (fun M5 r1 r4 h h7 hv => ck (nx M5 h) h7 hv) (fun r1 M2 h => ⟨v1, h⟩)⟩), fun n0 => ?_⟩
    refine ⟨fun _ => bl_L_236 k _ M hk2 (op_read hR hk2 (fun M5 r1 r4 h h7 hv => ck (nx M5 h) h7 hv) (fun r1 M2 h => h)), fun n1 => ?_⟩
    refine ⟨fun _ => bl_L_280 k _ M hk2 (op_faultPosition hR (fun M5 r1 r4 h e => ⟨fun _ => nx M5 ⟨n, w, o, ver, h⟩, fun w => w e⟩)), fun n2 => ?_⟩
    refine ⟨fun _ => bl_L_293 k _ M hk2 (⟨v1, op_removeLoop hR hk2 (fun M5 r1 r4 h h7 hv => ck (nx M5 h) h7 hv) (fun r1 M2 h => ⟨v1, h⟩)⟩), fun n3 => ?_⟩
    refine ⟨fun _ => bl_L_349 k _ M hk2 (op_loopCount hR (fun M5 r1 r4 h e => ⟨fun _ => nx M5 ⟨n, w, o, ver, h⟩, fun w => w e⟩)), fun n4 => ?_⟩
    refine ⟨fun _ => bl_L_362 k _ M hk2 (⟨v1, v2, op_bound hR hk2 (fun M5 r1 r4 h h7 hv => ck (nx M5 ⟨n, w, o, ver, h⟩) h7 hv) (fun r1 M2 h => ⟨v1, v2, h⟩)⟩), fun n5 => ?_⟩
    refine ⟨fun _ => bl_L_430 k _ M hk2 (⟨v1, v2, v3, op_setBound hR hk2 (fun M5 r1 r4 h h7 hv => ck (nx M5 h) h7 hv) (fun r1 M2 h => ⟨v1, v2, v3, h⟩)⟩), fun n6 => ?_⟩
    refine ⟨fun _ => bl_L_510 k _ M hk2 (⟨v1, op_statementCount hR hk2 (fun M5 r1 r4 h h7 hv => ck (nx M5 ⟨n, w, o, ver, h⟩) h7 hv) (fun r1 M2 h => ⟨v1, h⟩)⟩), fun n7 => ?_⟩
    refine ⟨fun _ => bl_L_566 k _ M hk2 (⟨v1, op_referenceCount hR hk2 (fun M5 r1 r4 h h7 hv => ck (nx M5 ⟨n, w, o, ver, h⟩) h7 hv) (fun r1 M2 h => ⟨v1, h⟩)⟩), fun n8 => ?_⟩
    refine ⟨fun _ => bl_L_622 k _ M hk2 (⟨v1, v2, v3, op_reference hR hk2 (fun M5 r1 r4 h h7 hv => ck (nx M5 ⟨n, w, o, ver, h⟩) h7 hv) (fun r1 M2 h => ⟨v1, v2, v3, h⟩)⟩), fun n9 => ?_⟩
    refine ⟨fun _ => bl_L_702 k _ M hk2 (⟨v1, v2, v3, op_operators hR hk2 (fun M5 r1 r4 h h7 hv => ck (nx M5 ⟨n, w, o, ver, h⟩) h7 hv) (fun r1 M2 h => ⟨v1, v2, v3, h⟩)⟩), fun n10 => ?_⟩
    refine ⟨fun _ => bl_L_782 k _ M hk2 (⟨v1, v2, op_height hR hk2 (fun M5 r1 r4 h h7 hv => ck (nx M5 ⟨n, w, o, ver, h⟩) h7 hv) (fun r1 M2 h => ⟨v1, v2, h⟩)⟩), fun n11 => ?_⟩
    refine ⟨fun _ => bl_L_850 k _ M hk2 (⟨v1, v2, v3, op_value hR hk2 (fun M5 r1 r4 h h7 hv => ck (nx M5 ⟨n, w, o, ver, h⟩) h7 hv) (fun r1 M2 h => ⟨v1, v2, v3, h⟩)⟩), fun n12 => ?_⟩
    refine ⟨fun _ => bl_L_930 k _ M hk2 (⟨v1, v2, op_setOption hR hk2 (fun M5 r1 r4 h h7 hv => ck (nx M5 h) h7 hv) (fun r1 M2 h => ⟨v1, v2, h⟩)⟩), fun n13 => ?_⟩
    refine ⟨fun _ => bl_L_998 k _ M hk2 ⟨v1, v2, fun hz => op_setBarrier hR hk2 (Or.inl rfl) (fun M5 r1 r4 h h7 hv => ckb (nx M5 h) h7 hv) (fun r1 M2 h => ⟨v1, v2, fun _ => h, fun w => absurd hz w⟩), fun hz => op_setBarrier hR hk2 (Or.inr rfl) (fun M5 r1 r4 h h7 hv => ckb (nx M5 h) h7 hv) (fun r1 M2 h => ⟨v1, v2, fun w => absurd w hz, fun _ => h⟩)⟩, fun n14 => ?_⟩
    refine ⟨fun _ => bl_L_1089 k _ M hk2 (⟨v1, v2, op_dependenceCount hR hk2 (fun M5 r1 r4 h h7 hv => ck (nx M5 ⟨n, w, o, ver, h⟩) h7 hv) (fun r1 M2 h => ⟨v1, v2, h⟩)⟩), fun n15 => ?_⟩
    refine ⟨fun _ => bl_L_1157 k _ M hk2 (⟨v1, v2, v3, v4, op_dependence hR hk2 (fun M5 r1 r4 h h7 hv => ck (nx M5 ⟨n, w, o, ver, h⟩) h7 hv) (fun r1 M2 h => ⟨v1, v2, v3, v4, h⟩)⟩), fun n16 => ?_⟩
    refine ⟨fun _ => bl_L_1249 k _ M hk2 (⟨v1, v2, op_required hR hk2 (fun M5 r1 r4 h h7 hv => ck (nx M5 ⟨n, w, o, ver, h⟩) h7 hv) (fun r1 M2 h => ⟨v1, v2, h⟩)⟩), fun n17 => ?_⟩
    refine ⟨fun _ => bl_L_1317 k _ M hk2 (⟨v1, v2, op_isAllowed hR hk2 (fun M5 r1 r4 h h7 hv => ckb (nx M5 ⟨n, w, o, ver, h⟩) h7 hv) (fun r1 M2 h => ⟨v1, v2, h⟩)⟩), fun n18 => ?_⟩
    refine ⟨fun _ => bl_L_1392 k _ M hk2 (⟨v1, op_groupCount hR hk2 (fun M5 r1 r4 h h7 hv => ck (nx M5 ⟨n, w, o, ver, h⟩) h7 hv) (fun r1 M2 h => ⟨v1, h⟩)⟩), fun n19 => ?_⟩
    refine ⟨fun _ => bl_L_1448 k _ M hk2 (⟨v1, v2, op_groupOf hR hk2 (fun M5 r1 r4 h h7 hv => ck (nx M5 ⟨n, w, o, ver, h⟩) h7 hv) (fun r1 M2 h => ⟨v1, v2, h⟩)⟩), fun n20 => ?_⟩
    refine ⟨fun _ => bl_L_1516 k _ M hk2 (⟨v1, v2, op_shift hR hk2 (fun M5 r1 r4 h h7 hv => ck (nx M5 ⟨n, w, o, ver, h⟩) h7 hv) (fun r1 M2 h => ⟨v1, v2, h⟩)⟩), fun n21 => ?_⟩
    refine ⟨fun _ => bl_L_1584 k _ M hk2 (⟨v1, v2, v3, op_step hR hk2 (fun M5 r1 r4 h h7 hv => ck (nx M5 ⟨n, w, o, ver, h⟩) h7 hv) (fun r1 M2 h => ⟨v1, v2, v3, h⟩)⟩), fun n22 => ?_⟩
    refine ⟨fun _ => bl_L_1664 k _ M hk2 (⟨v1, v2, v3, op_peeled hR hk2 (fun M5 r1 r4 h h7 hv => ck (nx M5 ⟨n, w, o, ver, h⟩) h7 hv) (fun r1 M2 h => ⟨v1, v2, v3, h⟩)⟩), fun n23 => ?_⟩
    refine ⟨fun _ => bl_L_1744 k _ M hk2 (⟨v1, v2, op_carried hR hk2 (fun M5 r1 r4 h h7 hv => ck (nx M5 ⟨n, w, o, ver, h⟩) h7 hv) (fun r1 M2 h => ⟨v1, v2, h⟩)⟩), fun n24 => ?_⟩
    refine ⟨fun _ => bl_L_1812 k _ M hk2 (⟨v1, v2, op_reads hR hk2 (fun M5 r1 r4 h h7 hv => ck (nx M5 ⟨n, w, o, ver, h⟩) h7 hv) (fun r1 M2 h => ⟨v1, v2, h⟩)⟩), fun n25 => ?_⟩
    refine ⟨fun _ => bl_L_1880 k _ M hk2 (⟨v1, v2, op_hits hR hk2 (fun M5 r1 r4 h h7 hv => ck (nx M5 ⟨n, w, o, ver, h⟩) h7 hv) (fun r1 M2 h => ⟨v1, v2, h⟩)⟩), fun n26 => ?_⟩
    refine ⟨fun _ => bl_L_1948 k _ M hk2 (⟨v1, op_run hR hk2 (fun M5 r1 r4 h h7 hv => ck (nx M5 ⟨n, w, o, ver, h⟩) h7 hv) (fun r1 M2 h => ⟨v1, h⟩)⟩), fun n27 => ?_⟩
    refine ⟨fun _ => bl_L_2004 k _ M hk2 (⟨v1, v2, v3, op_cell hR hk2 (fun M5 r1 r4 h h7 hv => ck (nx M5 ⟨n, w, o, ver, h⟩) h7 hv) (fun r1 M2 h => ⟨v1, v2, v3, h⟩)⟩), fun n28 => ?_⟩
    refine ⟨fun _ => bl_L_2084 k _ M hk2 (⟨v1, op_changed hR hk2 (fun M5 r1 r4 h h7 hv => ck (nx M5 ⟨n, w, o, ver, h⟩) h7 hv) (fun r1 M2 h => ⟨v1, h⟩)⟩), fun n29 => ?_⟩
    refine ⟨fun _ => bl_L_2140 k _ M hk2 (op_save hR hk2 (fun M5 h => nx M5 h)), fun n30 => ?_⟩
    refine ⟨fun _ => bl_L_2151 k _ M hk2 (op_restore hR hk2 (fun M5 r1 h e => ⟨fun _ => nx M5 h, fun w => w e⟩) (fun r1 M2 h => h)), fun n31 => ?_⟩
    rcases (show y = 0 ∨ y = 1 ∨ y = 2 ∨ y = 3 ∨ y = 4 ∨ y = 5 ∨ y = 6 ∨ y = 7 ∨ y = 8 ∨ y = 9 ∨ y = 10 ∨ y = 11 ∨ y = 12 ∨ y = 13 ∨ y = 14 ∨ y = 15 ∨ y = 16 ∨ y = 17 ∨ y = 18 ∨ y = 19 ∨ y = 20 ∨ y = 21 ∨ y = 22 ∨ y = 23 ∨ y = 24 ∨ y = 25 ∨ y = 26 ∨ y = 27 ∨ y = 28 ∨ y = 29 ∨ y = 30 ∨ y = 31 by omega) with e | e | e | e | e | e | e | e | e | e | e | e | e | e | e | e | e | e | e | e | e | e | e | e | e | e | e | e | e | e | e | e
    · exact n0 (by rw [ey, e]; exact z_0.symm)
    · exact n1 (by rw [ey, e]; exact z_1.symm)
    · exact n2 (by rw [ey, e]; exact z_2.symm)
    · exact n3 (by rw [ey, e]; exact z_3.symm)
    · exact n4 (by rw [ey, e]; exact z_4.symm)
    · exact n5 (by rw [ey, e]; exact z_5.symm)
    · exact n6 (by rw [ey, e]; exact z_6.symm)
    · exact n7 (by rw [ey, e]; exact z_7.symm)
    · exact n8 (by rw [ey, e]; exact z_8.symm)
    · exact n9 (by rw [ey, e]; exact z_9.symm)
    · exact n10 (by rw [ey, e]; exact z_10.symm)
    · exact n11 (by rw [ey, e]; exact z_11.symm)
    · exact n12 (by rw [ey, e]; exact z_12.symm)
    · exact n13 (by rw [ey, e]; exact z_13.symm)
    · exact n14 (by rw [ey, e]; exact z_14.symm)
    · exact n15 (by rw [ey, e]; exact z_15.symm)
    · exact n16 (by rw [ey, e]; exact z_16.symm)
    · exact n17 (by rw [ey, e]; exact z_17.symm)
    · exact n18 (by rw [ey, e]; exact z_18.symm)
    · exact n19 (by rw [ey, e]; exact z_19.symm)
    · exact n20 (by rw [ey, e]; exact z_20.symm)
    · exact n21 (by rw [ey, e]; exact z_21.symm)
    · exact n22 (by rw [ey, e]; exact z_22.symm)
    · exact n23 (by rw [ey, e]; exact z_23.symm)
    · exact n24 (by rw [ey, e]; exact z_24.symm)
    · exact n25 (by rw [ey, e]; exact z_25.symm)
    · exact n26 (by rw [ey, e]; exact z_26.symm)
    · exact n27 (by rw [ey, e]; exact z_27.symm)
    · exact n28 (by rw [ey, e]; exact z_28.symm)
    · exact n29 (by rw [ey, e]; exact z_29.symm)
    · exact n30 (by rw [ey, e]; exact z_30.symm)
    · exact n31 (by rw [ey, e]; exact z_31.symm)
