set_option maxHeartbeats 4000000 in
set_option maxRecDepth 100000 in
theorem bl_L_23 {L : Nat} {xs : Nat → Int32} (k : Nat) (i : Int32) (M : jM) (hk : k ≤ 2000)
  (h : (((Int32.ofNat L) - 5) < i → True) ∧ (¬ (((Int32.ofNat L) - 5) < i) → vp_in i L ∧ ((xs i.toNatClampNeg) &&& 31 = 0 → at_L_180 L xs k i M) ∧ (¬ (xs i.toNatClampNeg) &&& 31 = 0 → ((xs i.toNatClampNeg) &&& 31 = 1 → at_L_236 L xs k i M) ∧ (¬ (xs i.toNatClampNeg) &&& 31 = 1 → ((xs i.toNatClampNeg) &&& 31 = 2 → at_L_280 L xs k i M) ∧ (¬ (xs i.toNatClampNeg) &&& 31 = 2 → ((xs i.toNatClampNeg) &&& 31 = 3 → at_L_293 L xs k i M) ∧ (¬ (xs i.toNatClampNeg) &&& 31 = 3 → ((xs i.toNatClampNeg) &&& 31 = 4 → at_L_349 L xs k i M) ∧ (¬ (xs i.toNatClampNeg) &&& 31 = 4 → ((xs i.toNatClampNeg) &&& 31 = 5 → at_L_362 L xs k i M) ∧ (¬ (xs i.toNatClampNeg) &&& 31 = 5 → ((xs i.toNatClampNeg) &&& 31 = 6 → at_L_430 L xs k i M) ∧ (¬ (xs i.toNatClampNeg) &&& 31 = 6 → ((xs i.toNatClampNeg) &&& 31 = 7 → at_L_510 L xs k i M) ∧ (¬ (xs i.toNatClampNeg) &&& 31 = 7 → ((xs i.toNatClampNeg) &&& 31 = 8 → at_L_566 L xs k i M) ∧ (¬ (xs i.toNatClampNeg) &&& 31 = 8 → ((xs i.toNatClampNeg) &&& 31 = 9 → at_L_622 L xs k i M) ∧ (¬ (xs i.toNatClampNeg) &&& 31 = 9 → ((xs i.toNatClampNeg) &&& 31 = 10 → at_L_702 L xs k i M) ∧ (¬ (xs i.toNatClampNeg) &&& 31 = 10 → ((xs i.toNatClampNeg) &&& 31 = 11 → at_L_782 L xs k i M) ∧ (¬ (xs i.toNatClampNeg) &&& 31 = 11 → ((xs i.toNatClampNeg) &&& 31 = 12 → at_L_850 L xs k i M) ∧ (¬ (xs i.toNatClampNeg) &&& 31 = 12 → ((xs i.toNatClampNeg) &&& 31 = 13 → at_L_930 L xs k i M) ∧ (¬ (xs i.toNatClampNeg) &&& 31 = 13 → ((xs i.toNatClampNeg) &&& 31 = 14 → at_L_998 L xs k i M) ∧ (¬ (xs i.toNatClampNeg) &&& 31 = 14 → ((xs i.toNatClampNeg) &&& 31 = 15 → at_L_1089 L xs k i M) ∧ (¬ (xs i.toNatClampNeg) &&& 31 = 15 → ((xs i.toNatClampNeg) &&& 31 = 16 → at_L_1157 L xs k i M) ∧ (¬ (xs i.toNatClampNeg) &&& 31 = 16 → ((xs i.toNatClampNeg) &&& 31 = 17 → at_L_1249 L xs k i M) ∧ (¬ (xs i.toNatClampNeg) &&& 31 = 17 → ((xs i.toNatClampNeg) &&& 31 = 18 → at_L_1317 L xs k i M) ∧ (¬ (xs i.toNatClampNeg) &&& 31 = 18 → ((xs i.toNatClampNeg) &&& 31 = 19 → at_L_1392 L xs k i M) ∧ (¬ (xs i.toNatClampNeg) &&& 31 = 19 → ((xs i.toNatClampNeg) &&& 31 = 20 → at_L_1448 L xs k i M) ∧ (¬ (xs i.toNatClampNeg) &&& 31 = 20 → ((xs i.toNatClampNeg) &&& 31 = 21 → at_L_1516 L xs k i M) ∧ (¬ (xs i.toNatClampNeg) &&& 31 = 21 → ((xs i.toNatClampNeg) &&& 31 = 22 → at_L_1584 L xs k i M) ∧ (¬ (xs i.toNatClampNeg) &&& 31 = 22 → ((xs i.toNatClampNeg) &&& 31 = 23 → at_L_1664 L xs k i M) ∧ (¬ (xs i.toNatClampNeg) &&& 31 = 23 → ((xs i.toNatClampNeg) &&& 31 = 24 → at_L_1744 L xs k i M) ∧ (¬ (xs i.toNatClampNeg) &&& 31 = 24 → ((xs i.toNatClampNeg) &&& 31 = 25 → at_L_1812 L xs k i M) ∧ (¬ (xs i.toNatClampNeg) &&& 31 = 25 → ((xs i.toNatClampNeg) &&& 31 = 26 → at_L_1880 L xs k i M) ∧ (¬ (xs i.toNatClampNeg) &&& 31 = 26 → ((xs i.toNatClampNeg) &&& 31 = 27 → at_L_1948 L xs k i M) ∧ (¬ (xs i.toNatClampNeg) &&& 31 = 27 → ((xs i.toNatClampNeg) &&& 31 = 28 → at_L_2004 L xs k i M) ∧ (¬ (xs i.toNatClampNeg) &&& 31 = 28 → ((xs i.toNatClampNeg) &&& 31 = 29 → at_L_2084 L xs k i M) ∧ (¬ (xs i.toNatClampNeg) &&& 31 = 29 → ((xs i.toNatClampNeg) &&& 31 = 30 → at_L_2140 L xs k i M) ∧ (¬ (xs i.toNatClampNeg) &&& 31 = 30 → ((xs i.toNatClampNeg) &&& 31 = 31 → at_L_2151 L xs k i M) ∧ (¬ (xs i.toNatClampNeg) &&& 31 = 31 → False)))))))))))))))))))))))))))))))))) :
  at_L_23 L xs k i M := by
  intro p l e s m below meth c b D cA g A C H locs G ls hl
  have hbA : ¬ jA s.heap.size b := Nat.not_le.mpr A.2.2.2.2.2.2.2.1
  refine lv_iload C.x C.b dL_law_23 (lv_at hl 4 rfl) ?_
  refine lv_aload_n C.x C.b dL_law_25 rfl (lv_at hl 0 rfl) ?_
  refine va_slen C.x C.b A.2.2.2.2.2.2.1 A.2.2.2.2.2.2.2.1 hbA G.2 dL_law_26 ?_
  refine lv_iconst (v := 5) C.x C.b dL_law_27 (by decide) ?_
  refine lv_isub C.x C.b dL_law_28 ?_
  refine lv_icmp_gt (tgt := 2181) C.x C.b dL_law_29 (by decide) (fun hc => ?_) (fun hc => ?_)
  · have h := h.1 hc
    refine lv_iconst (v := 1) C.x C.b dL_law_2181 (by decide) ?_
    exact jl_ret A G (by omega) (by omega) dL_law_2182
  · have h := h.2 hc
    refine lv_aload_n C.x C.b dL_law_32 rfl (lv_at hl 0 rfl) ?_
    refine lv_iload C.x C.b dL_law_33 (lv_at hl 4 rfl) ?_
    obtain ⟨hs, h⟩ := h
    refine va_sld C.x C.b A.2.2.2.2.2.2.1 A.2.2.2.2.2.2.2.1 hbA G.2 hs dL_law_35 ?_
    refine lv_bipush (v := 31) C.x C.b dL_law_36 (by decide) ?_
    refine lv_iand C.x C.b dL_law_38 ?_
    by_cases hc : (xs i.toNatClampNeg) &&& 31 = 0
    · have h := h.1 hc
      refine lv_tableIn (off := 141) (tgt := 180) C.x C.b dL_law_39 (by rw [hc]; decide) (by rw [hc]; decide) (by rw [hc]; rfl) (by decide) ?_
      exact h p l e s m below meth c b D cA g A C _ _ G ls (lv_sub hl [0, 1, 2, 3, 4] rfl)
    · have h := h.2 hc
      have hc0 := hc
      by_cases hc : (xs i.toNatClampNeg) &&& 31 = 1
      · have h := h.1 hc
        refine lv_tableIn (off := 197) (tgt := 236) C.x C.b dL_law_39 (by rw [hc]; decide) (by rw [hc]; decide) (by rw [hc]; rfl) (by decide) ?_
        exact h p l e s m below meth c b D cA g A C _ _ G ls (lv_sub hl [0, 1, 2, 3, 4] rfl)
      · have h := h.2 hc
        have hc1 := hc
        by_cases hc : (xs i.toNatClampNeg) &&& 31 = 2
        · have h := h.1 hc
          refine lv_tableIn (off := 241) (tgt := 280) C.x C.b dL_law_39 (by rw [hc]; decide) (by rw [hc]; decide) (by rw [hc]; rfl) (by decide) ?_
          exact h p l e s m below meth c b D cA g A C _ _ G ls (lv_sub hl [0, 1, 2, 3, 4] rfl)
        · have h := h.2 hc
          have hc2 := hc
          by_cases hc : (xs i.toNatClampNeg) &&& 31 = 3
          · have h := h.1 hc
            refine lv_tableIn (off := 254) (tgt := 293) C.x C.b dL_law_39 (by rw [hc]; decide) (by rw [hc]; decide) (by rw [hc]; rfl) (by decide) ?_
            exact h p l e s m below meth c b D cA g A C _ _ G ls (lv_sub hl [0, 1, 2, 3, 4] rfl)
          · have h := h.2 hc
            have hc3 := hc
            by_cases hc : (xs i.toNatClampNeg) &&& 31 = 4
            · have h := h.1 hc
              refine lv_tableIn (off := 310) (tgt := 349) C.x C.b dL_law_39 (by rw [hc]; decide) (by rw [hc]; decide) (by rw [hc]; rfl) (by decide) ?_
              exact h p l e s m below meth c b D cA g A C _ _ G ls (lv_sub hl [0, 1, 2, 3, 4] rfl)
            · have h := h.2 hc
              have hc4 := hc
              by_cases hc : (xs i.toNatClampNeg) &&& 31 = 5
              · have h := h.1 hc
                refine lv_tableIn (off := 323) (tgt := 362) C.x C.b dL_law_39 (by rw [hc]; decide) (by rw [hc]; decide) (by rw [hc]; rfl) (by decide) ?_
                exact h p l e s m below meth c b D cA g A C _ _ G ls (lv_sub hl [0, 1, 2, 3, 4] rfl)
              · have h := h.2 hc
                have hc5 := hc
                by_cases hc : (xs i.toNatClampNeg) &&& 31 = 6
                · have h := h.1 hc
                  refine lv_tableIn (off := 391) (tgt := 430) C.x C.b dL_law_39 (by rw [hc]; decide) (by rw [hc]; decide) (by rw [hc]; rfl) (by decide) ?_
                  exact h p l e s m below meth c b D cA g A C _ _ G ls (lv_sub hl [0, 1, 2, 3, 4] rfl)
                · have h := h.2 hc
                  have hc6 := hc
                  by_cases hc : (xs i.toNatClampNeg) &&& 31 = 7
                  · have h := h.1 hc
                    refine lv_tableIn (off := 471) (tgt := 510) C.x C.b dL_law_39 (by rw [hc]; decide) (by rw [hc]; decide) (by rw [hc]; rfl) (by decide) ?_
                    exact h p l e s m below meth c b D cA g A C _ _ G ls (lv_sub hl [0, 1, 2, 3, 4] rfl)
                  · have h := h.2 hc
                    have hc7 := hc
                    by_cases hc : (xs i.toNatClampNeg) &&& 31 = 8
                    · have h := h.1 hc
                      refine lv_tableIn (off := 527) (tgt := 566) C.x C.b dL_law_39 (by rw [hc]; decide) (by rw [hc]; decide) (by rw [hc]; rfl) (by decide) ?_
                      exact h p l e s m below meth c b D cA g A C _ _ G ls (lv_sub hl [0, 1, 2, 3, 4] rfl)
                    · have h := h.2 hc
                      have hc8 := hc
                      by_cases hc : (xs i.toNatClampNeg) &&& 31 = 9
                      · have h := h.1 hc
                        refine lv_tableIn (off := 583) (tgt := 622) C.x C.b dL_law_39 (by rw [hc]; decide) (by rw [hc]; decide) (by rw [hc]; rfl) (by decide) ?_
                        exact h p l e s m below meth c b D cA g A C _ _ G ls (lv_sub hl [0, 1, 2, 3, 4] rfl)
                      · have h := h.2 hc
                        have hc9 := hc
                        by_cases hc : (xs i.toNatClampNeg) &&& 31 = 10
                        · have h := h.1 hc
                          refine lv_tableIn (off := 663) (tgt := 702) C.x C.b dL_law_39 (by rw [hc]; decide) (by rw [hc]; decide) (by rw [hc]; rfl) (by decide) ?_
                          exact h p l e s m below meth c b D cA g A C _ _ G ls (lv_sub hl [0, 1, 2, 3, 4] rfl)
                        · have h := h.2 hc
                          have hc10 := hc
                          by_cases hc : (xs i.toNatClampNeg) &&& 31 = 11
                          · have h := h.1 hc
                            refine lv_tableIn (off := 743) (tgt := 782) C.x C.b dL_law_39 (by rw [hc]; decide) (by rw [hc]; decide) (by rw [hc]; rfl) (by decide) ?_
                            exact h p l e s m below meth c b D cA g A C _ _ G ls (lv_sub hl [0, 1, 2, 3, 4] rfl)
                          · have h := h.2 hc
                            have hc11 := hc
                            by_cases hc : (xs i.toNatClampNeg) &&& 31 = 12
                            · have h := h.1 hc
                              refine lv_tableIn (off := 811) (tgt := 850) C.x C.b dL_law_39 (by rw [hc]; decide) (by rw [hc]; decide) (by rw [hc]; rfl) (by decide) ?_
                              exact h p l e s m below meth c b D cA g A C _ _ G ls (lv_sub hl [0, 1, 2, 3, 4] rfl)
                            · have h := h.2 hc
                              have hc12 := hc
                              by_cases hc : (xs i.toNatClampNeg) &&& 31 = 13
                              · have h := h.1 hc
                                refine lv_tableIn (off := 891) (tgt := 930) C.x C.b dL_law_39 (by rw [hc]; decide) (by rw [hc]; decide) (by rw [hc]; rfl) (by decide) ?_
                                exact h p l e s m below meth c b D cA g A C _ _ G ls (lv_sub hl [0, 1, 2, 3, 4] rfl)
                              · have h := h.2 hc
                                have hc13 := hc
                                by_cases hc : (xs i.toNatClampNeg) &&& 31 = 14
                                · have h := h.1 hc
                                  refine lv_tableIn (off := 959) (tgt := 998) C.x C.b dL_law_39 (by rw [hc]; decide) (by rw [hc]; decide) (by rw [hc]; rfl) (by decide) ?_
                                  exact h p l e s m below meth c b D cA g A C _ _ G ls (lv_sub hl [0, 1, 2, 3, 4] rfl)
                                · have h := h.2 hc
                                  have hc14 := hc
                                  by_cases hc : (xs i.toNatClampNeg) &&& 31 = 15
                                  · have h := h.1 hc
                                    refine lv_tableIn (off := 1050) (tgt := 1089) C.x C.b dL_law_39 (by rw [hc]; decide) (by rw [hc]; decide) (by rw [hc]; rfl) (by decide) ?_
                                    exact h p l e s m below meth c b D cA g A C _ _ G ls (lv_sub hl [0, 1, 2, 3, 4] rfl)
                                  · have h := h.2 hc
                                    have hc15 := hc
                                    by_cases hc : (xs i.toNatClampNeg) &&& 31 = 16
                                    · have h := h.1 hc
                                      refine lv_tableIn (off := 1118) (tgt := 1157) C.x C.b dL_law_39 (by rw [hc]; decide) (by rw [hc]; decide) (by rw [hc]; rfl) (by decide) ?_
                                      exact h p l e s m below meth c b D cA g A C _ _ G ls (lv_sub hl [0, 1, 2, 3, 4] rfl)
                                    · have h := h.2 hc
                                      have hc16 := hc
                                      by_cases hc : (xs i.toNatClampNeg) &&& 31 = 17
                                      · have h := h.1 hc
                                        refine lv_tableIn (off := 1210) (tgt := 1249) C.x C.b dL_law_39 (by rw [hc]; decide) (by rw [hc]; decide) (by rw [hc]; rfl) (by decide) ?_
                                        exact h p l e s m below meth c b D cA g A C _ _ G ls (lv_sub hl [0, 1, 2, 3, 4] rfl)
                                      · have h := h.2 hc
                                        have hc17 := hc
                                        by_cases hc : (xs i.toNatClampNeg) &&& 31 = 18
                                        · have h := h.1 hc
                                          refine lv_tableIn (off := 1278) (tgt := 1317) C.x C.b dL_law_39 (by rw [hc]; decide) (by rw [hc]; decide) (by rw [hc]; rfl) (by decide) ?_
                                          exact h p l e s m below meth c b D cA g A C _ _ G ls (lv_sub hl [0, 1, 2, 3, 4] rfl)
                                        · have h := h.2 hc
                                          have hc18 := hc
                                          by_cases hc : (xs i.toNatClampNeg) &&& 31 = 19
                                          · have h := h.1 hc
                                            refine lv_tableIn (off := 1353) (tgt := 1392) C.x C.b dL_law_39 (by rw [hc]; decide) (by rw [hc]; decide) (by rw [hc]; rfl) (by decide) ?_
                                            exact h p l e s m below meth c b D cA g A C _ _ G ls (lv_sub hl [0, 1, 2, 3, 4] rfl)
                                          · have h := h.2 hc
                                            have hc19 := hc
                                            by_cases hc : (xs i.toNatClampNeg) &&& 31 = 20
                                            · have h := h.1 hc
                                              refine lv_tableIn (off := 1409) (tgt := 1448) C.x C.b dL_law_39 (by rw [hc]; decide) (by rw [hc]; decide) (by rw [hc]; rfl) (by decide) ?_
                                              exact h p l e s m below meth c b D cA g A C _ _ G ls (lv_sub hl [0, 1, 2, 3, 4] rfl)
                                            · have h := h.2 hc
                                              have hc20 := hc
                                              by_cases hc : (xs i.toNatClampNeg) &&& 31 = 21
                                              · have h := h.1 hc
                                                refine lv_tableIn (off := 1477) (tgt := 1516) C.x C.b dL_law_39 (by rw [hc]; decide) (by rw [hc]; decide) (by rw [hc]; rfl) (by decide) ?_
                                                exact h p l e s m below meth c b D cA g A C _ _ G ls (lv_sub hl [0, 1, 2, 3, 4] rfl)
                                              · have h := h.2 hc
                                                have hc21 := hc
                                                by_cases hc : (xs i.toNatClampNeg) &&& 31 = 22
                                                · have h := h.1 hc
                                                  refine lv_tableIn (off := 1545) (tgt := 1584) C.x C.b dL_law_39 (by rw [hc]; decide) (by rw [hc]; decide) (by rw [hc]; rfl) (by decide) ?_
                                                  exact h p l e s m below meth c b D cA g A C _ _ G ls (lv_sub hl [0, 1, 2, 3, 4] rfl)
                                                · have h := h.2 hc
                                                  have hc22 := hc
                                                  by_cases hc : (xs i.toNatClampNeg) &&& 31 = 23
                                                  · have h := h.1 hc
                                                    refine lv_tableIn (off := 1625) (tgt := 1664) C.x C.b dL_law_39 (by rw [hc]; decide) (by rw [hc]; decide) (by rw [hc]; rfl) (by decide) ?_
                                                    exact h p l e s m below meth c b D cA g A C _ _ G ls (lv_sub hl [0, 1, 2, 3, 4] rfl)
                                                  · have h := h.2 hc
                                                    have hc23 := hc
                                                    by_cases hc : (xs i.toNatClampNeg) &&& 31 = 24
                                                    · have h := h.1 hc
                                                      refine lv_tableIn (off := 1705) (tgt := 1744) C.x C.b dL_law_39 (by rw [hc]; decide) (by rw [hc]; decide) (by rw [hc]; rfl) (by decide) ?_
                                                      exact h p l e s m below meth c b D cA g A C _ _ G ls (lv_sub hl [0, 1, 2, 3, 4] rfl)
                                                    · have h := h.2 hc
                                                      have hc24 := hc
                                                      by_cases hc : (xs i.toNatClampNeg) &&& 31 = 25
                                                      · have h := h.1 hc
                                                        refine lv_tableIn (off := 1773) (tgt := 1812) C.x C.b dL_law_39 (by rw [hc]; decide) (by rw [hc]; decide) (by rw [hc]; rfl) (by decide) ?_
                                                        exact h p l e s m below meth c b D cA g A C _ _ G ls (lv_sub hl [0, 1, 2, 3, 4] rfl)
                                                      · have h := h.2 hc
                                                        have hc25 := hc
                                                        by_cases hc : (xs i.toNatClampNeg) &&& 31 = 26
                                                        · have h := h.1 hc
                                                          refine lv_tableIn (off := 1841) (tgt := 1880) C.x C.b dL_law_39 (by rw [hc]; decide) (by rw [hc]; decide) (by rw [hc]; rfl) (by decide) ?_
                                                          exact h p l e s m below meth c b D cA g A C _ _ G ls (lv_sub hl [0, 1, 2, 3, 4] rfl)
                                                        · have h := h.2 hc
                                                          have hc26 := hc
                                                          by_cases hc : (xs i.toNatClampNeg) &&& 31 = 27
                                                          · have h := h.1 hc
                                                            refine lv_tableIn (off := 1909) (tgt := 1948) C.x C.b dL_law_39 (by rw [hc]; decide) (by rw [hc]; decide) (by rw [hc]; rfl) (by decide) ?_
                                                            exact h p l e s m below meth c b D cA g A C _ _ G ls (lv_sub hl [0, 1, 2, 3, 4] rfl)
                                                          · have h := h.2 hc
                                                            have hc27 := hc
                                                            by_cases hc : (xs i.toNatClampNeg) &&& 31 = 28
                                                            · have h := h.1 hc
                                                              refine lv_tableIn (off := 1965) (tgt := 2004) C.x C.b dL_law_39 (by rw [hc]; decide) (by rw [hc]; decide) (by rw [hc]; rfl) (by decide) ?_
                                                              exact h p l e s m below meth c b D cA g A C _ _ G ls (lv_sub hl [0, 1, 2, 3, 4] rfl)
                                                            · have h := h.2 hc
                                                              have hc28 := hc
                                                              by_cases hc : (xs i.toNatClampNeg) &&& 31 = 29
                                                              · have h := h.1 hc
                                                                refine lv_tableIn (off := 2045) (tgt := 2084) C.x C.b dL_law_39 (by rw [hc]; decide) (by rw [hc]; decide) (by rw [hc]; rfl) (by decide) ?_
                                                                exact h p l e s m below meth c b D cA g A C _ _ G ls (lv_sub hl [0, 1, 2, 3, 4] rfl)
                                                              · have h := h.2 hc
                                                                have hc29 := hc
                                                                by_cases hc : (xs i.toNatClampNeg) &&& 31 = 30
                                                                · have h := h.1 hc
                                                                  refine lv_tableIn (off := 2101) (tgt := 2140) C.x C.b dL_law_39 (by rw [hc]; decide) (by rw [hc]; decide) (by rw [hc]; rfl) (by decide) ?_
                                                                  exact h p l e s m below meth c b D cA g A C _ _ G ls (lv_sub hl [0, 1, 2, 3, 4] rfl)
                                                                · have h := h.2 hc
                                                                  have hc30 := hc
                                                                  by_cases hc : (xs i.toNatClampNeg) &&& 31 = 31
                                                                  · have h := h.1 hc
                                                                    refine lv_tableIn (off := 2112) (tgt := 2151) C.x C.b dL_law_39 (by rw [hc]; decide) (by rw [hc]; decide) (by rw [hc]; rfl) (by decide) ?_
                                                                    exact h p l e s m below meth c b D cA g A C _ _ G ls (lv_sub hl [0, 1, 2, 3, 4] rfl)
                                                                  · have h := h.2 hc
                                                                    have hc31 := hc
                                                                    exact h.elim
set_option maxHeartbeats 4000000 in
set_option maxRecDepth 100000 in
theorem bl_L_180 {L : Nat} {xs : Nat → Int32} (k : Nat) (i : Int32) (M : jM) (hk : k ≤ 2000)
  (h : vp_in (i + 1) L ∧ ok_L_append (xs (i + 1).toNatClampNeg) M (fun r1 _ M2 => vp_in (i + 1) L ∧ ok_X12_append (xs (i + 1).toNatClampNeg) M2 (fun r4 _ M5 => ((M5 11 0 7) = r1 → (r1 = 0 → (lg_cmp (M5 61 0 (0 : Int32).toNatClampNeg).toInt64 r4.toInt64 = 0 → at_L_23 L xs (k + 1) (i + 5) M5) ∧ (¬ (lg_cmp (M5 61 0 (0 : Int32).toNatClampNeg).toInt64 r4.toInt64 = 0) → False)) ∧ (¬ (r1 = 0) → at_L_23 L xs (k + 1) (i + 5) M5)) ∧ (¬ ((M5 11 0 7) = r1) → False)))) :
  at_L_180 L xs k i M := by
  intro p l e s m below meth c b D cA g A C H locs G ls hl
  have hbA : ¬ jA s.heap.size b := Nat.not_le.mpr A.2.2.2.2.2.2.2.1
  refine lv_aload_n C.x C.b dL_law_180 rfl (lv_at hl 1 rfl) ?_
  refine lv_aload_n C.x C.b dL_law_181 rfl (lv_at hl 0 rfl) ?_
  refine lv_iload C.x C.b dL_law_182 (lv_at hl 4 rfl) ?_
  refine lv_iconst (v := 1) C.x C.b dL_law_184 (by decide) ?_
  refine lv_iadd C.x C.b dL_law_185 ?_
  obtain ⟨hs, h⟩ := h
  refine va_sld C.x C.b A.2.2.2.2.2.2.1 A.2.2.2.2.2.2.2.1 hbA G.2 hs dL_law_186 ?_
  refine lv_aload_n C.x C.b dL_law_187 rfl (lv_at hl 3 rfl) ?_
  refine jl_H (n := 3) C G wd503 wd504 wd72 wd505 ⟨by decide +kernel, by decide +kernel, by decide +kernel⟩ h rfl rfl rfl (by decide) (by decide) (by show _ ≤ 601024; omega) (by show _ ≤ 7293034; omega) hl.1 (Nat.le_of_ble_eq_true rfl) dL_law_188 (fun r1 r1n M2 H locs h G => ?_)
  refine lv_istore (lv' := [(5, .int r1), (0, .ref b), (1, .ref (g 10 0)), (2, .ref (g 11 0)), (3, .ref (g 61 0)), (4, .int i)]) C.x C.b dL_law_191 hl (by decide) rfl (fun ls hl => ?_)
  refine lv_aload_n C.x C.b dL_law_193 rfl (lv_at hl 3 rfl) ?_
  refine lv_aload_n C.x C.b dL_law_194 rfl (lv_at hl 1 rfl) ?_
  refine lv_iload C.x C.b dL_law_195 (lv_at hl 5 rfl) ?_
  refine lv_iconst (v := 1) C.x C.b dL_law_197 (by decide) ?_
  refine lv_iadd C.x C.b dL_law_198 ?_
  obtain ⟨hs, h⟩ := h
  refine va_sld C.x C.b A.2.2.2.2.2.2.1 A.2.2.2.2.2.2.2.1 hbA G.2 hs dL_law_199 ?_
  refine jl_V (rk := 1) C G jc11 jm_X12_append wd1289 h rfl (show 0 < 1 by decide) (by decide) rfl rfl (by decide) (by decide) (by show _ ≤ 601024; omega) (by show _ ≤ 7293034; omega) hl.1 (Nat.le_of_ble_eq_true rfl) dL_law_200 (fun r4 r4n M5 H locs h G => ?_)
  refine lv_istore (lv' := [(6, .int r4), (5, .int r1), (0, .ref b), (1, .ref (g 10 0)), (2, .ref (g 11 0)), (3, .ref (g 61 0)), (4, .int i)]) C.x C.b dL_law_203 hl (by decide) rfl (fun ls hl => ?_)
  refine lv_aload_n C.x C.b dL_law_205 rfl (lv_at hl 4 rfl) ?_
  refine jl_V (rk := 1) C G jc11 jm_X12_thrown wd1285 (sp_X12_thrown ⟨rfl, rfl⟩ : ok_X12_thrown  M5 (fun r _ M' => (M5 11 0 7) = r ∧ M5 = M')) rfl (show 0 < 1 by decide) (by decide) rfl rfl (by decide) (by decide) (by show _ ≤ 601024; omega) (by show _ ≤ 7293034; omega) hl.1 (Nat.le_of_ble_eq_true rfl) dL_law_206 (fun r6 r6n M7 H locs hq G => ?_)
  obtain ⟨eq1, eq2⟩ := hq
  subst eq1
  subst eq2
  refine lv_iload C.x C.b dL_law_209 (lv_at hl 1 rfl) ?_
  refine lv_icmp_eq (tgt := 216) C.x C.b dL_law_211 (by decide) (fun hc => ?_) (fun hc => ?_)
  · have h := h.1 hc
    refine lv_iload C.x C.b dL_law_216 (lv_at hl 1 rfl) ?_
    refine lv_if_ne (tgt := 233) C.x C.b dL_law_218 (by decide) (fun hc => ?_) (fun hc => ?_)
    · have h := h.2 hc
      refine lv_goto (tgt := 2175) C.x C.b dL_law_233 (by decide) ?_
      refine lv_iinc (v := i + 5) (lv' := [(4, .int (i + 5)), (6, .int r4), (5, .int r1), (0, .ref b), (1, .ref (g 10 0)), (2, .ref (g 11 0)), (3, .ref (g 61 0))]) C.x C.b dL_law_2175 hl (k := 6) rfl rfl (by decide) rfl (fun ls hl => ?_)
      refine lv_goto (tgt := 23) C.x C.b dL_law_2178 (by decide) ?_
      refine W.widen (by omega) (by omega) (h p l e s m below meth c b D cA g A C _ _ G ls (lv_sub hl [3, 4, 5, 6, 0] rfl))
    · have h := h.1 hc
      refine lv_aload_n C.x C.b dL_law_221 rfl (lv_at hl 5 rfl) ?_
      refine lv_iconst (v := 0) C.x C.b dL_law_222 (by decide) ?_
      refine jr_lald C G (by unfold vp_in; decide) dL_law_223 ?_
      refine lv_iload C.x C.b dL_law_224 (lv_at hl 0 rfl) ?_
      refine lv_i2l C.x C.b dL_law_226 rfl ?_
      refine W.lcmp C.x C.b dL_law_227 ?_
      refine lv_if_eq (tgt := 233) C.x C.b dL_law_228 (by decide) (fun hc => ?_) (fun hc => ?_)
      · have h := h.1 hc
        refine lv_goto (tgt := 2175) C.x C.b dL_law_233 (by decide) ?_
        refine lv_iinc (v := i + 5) (lv' := [(4, .int (i + 5)), (6, .int r4), (5, .int r1), (0, .ref b), (1, .ref (g 10 0)), (2, .ref (g 11 0)), (3, .ref (g 61 0))]) C.x C.b dL_law_2175 hl (k := 6) rfl rfl (by decide) rfl (fun ls hl => ?_)
        refine lv_goto (tgt := 23) C.x C.b dL_law_2178 (by decide) ?_
        refine W.widen (by omega) (by omega) (h p l e s m below meth c b D cA g A C _ _ G ls (lv_sub hl [3, 4, 5, 6, 0] rfl))
      · have h := h.2 hc
        refine lv_iconst (v := 0) C.x C.b dL_law_231 (by decide) ?_
        exact h.elim
  · have h := h.2 hc
    refine lv_iconst (v := 0) C.x C.b dL_law_214 (by decide) ?_
    exact h.elim
set_option maxHeartbeats 4000000 in
set_option maxRecDepth 100000 in
theorem bl_L_236 {L : Nat} {xs : Nat → Int32} (k : Nat) (i : Int32) (M : jM) (hk : k ≤ 2000)
  (h : ok_L_read  M (fun r1 _ M2 => ok_X12_read  M2 (fun r4 _ M5 => ((M5 11 0 7) = r1 → (r1 = 0 → (lg_cmp (M5 61 0 (0 : Int32).toNatClampNeg).toInt64 r4.toInt64 = 0 → at_L_23 L xs (k + 1) (i + 5) M5) ∧ (¬ (lg_cmp (M5 61 0 (0 : Int32).toNatClampNeg).toInt64 r4.toInt64 = 0) → False)) ∧ (¬ (r1 = 0) → at_L_23 L xs (k + 1) (i + 5) M5)) ∧ (¬ ((M5 11 0 7) = r1) → False)))) :
  at_L_236 L xs k i M := by
  intro p l e s m below meth c b D cA g A C H locs G ls hl
  have hbA : ¬ jA s.heap.size b := Nat.not_le.mpr A.2.2.2.2.2.2.2.1
  refine lv_aload_n C.x C.b dL_law_236 rfl (lv_at hl 1 rfl) ?_
  refine lv_aload_n C.x C.b dL_law_237 rfl (lv_at hl 3 rfl) ?_
  refine jl_HA (n := 2) C G wd601 wd602 wd72 wd603 ⟨by decide +kernel, by decide +kernel, by decide +kernel⟩ h rfl rfl rfl (by decide) (by decide) (by show _ ≤ 601024; omega) (by show _ ≤ 7293034; omega) hl.1 (Nat.le_of_ble_eq_true rfl) dL_law_238 (fun r1 r1n M2 g3 H locs hx1 hn1 h G => ?_)
  have C := C.ext hx1
  have hl : lv_has ls 7 [(0, .ref b), (1, .ref (g 10 0)), (2, .ref (g 11 0)), (3, .ref (g 61 0)), (4, .int i)] := hl
  rw [← hx1.1 10 0 (show 0 < 1 by decide)] at hl
  rw [← hx1.1 11 0 (show 0 < 1 by decide)] at hl
  rw [← hx1.1 61 0 (show 0 < 1 by decide)] at hl
  refine lv_istore (lv' := [(5, .int r1), (0, .ref b), (1, .ref (g3 10 0)), (2, .ref (g3 11 0)), (3, .ref (g3 61 0)), (4, .int i)]) C.x C.b dL_law_241 hl (by decide) rfl (fun ls hl => ?_)
  refine lv_aload_n C.x C.b dL_law_243 rfl (lv_at hl 3 rfl) ?_
  refine jl_V (rk := 1) C G jc11 jm_X12_read wd1300 h rfl (show 0 < 1 by decide) (by decide) rfl rfl (by decide) (by decide) (by show _ ≤ 601024; omega) (by show _ ≤ 7293034; omega) hl.1 (Nat.le_of_ble_eq_true rfl) dL_law_244 (fun r4 r4n M5 H locs h G => ?_)
  refine lv_istore (lv' := [(6, .int r4), (5, .int r1), (0, .ref b), (1, .ref (g3 10 0)), (2, .ref (g3 11 0)), (3, .ref (g3 61 0)), (4, .int i)]) C.x C.b dL_law_247 hl (by decide) rfl (fun ls hl => ?_)
  refine lv_aload_n C.x C.b dL_law_249 rfl (lv_at hl 4 rfl) ?_
  refine jl_V (rk := 1) C G jc11 jm_X12_thrown wd1285 (sp_X12_thrown ⟨rfl, rfl⟩ : ok_X12_thrown  M5 (fun r _ M' => (M5 11 0 7) = r ∧ M5 = M')) rfl (show 0 < 1 by decide) (by decide) rfl rfl (by decide) (by decide) (by show _ ≤ 601024; omega) (by show _ ≤ 7293034; omega) hl.1 (Nat.le_of_ble_eq_true rfl) dL_law_250 (fun r6 r6n M7 H locs hq G => ?_)
  obtain ⟨eq1, eq2⟩ := hq
  subst eq1
  subst eq2
  refine lv_iload C.x C.b dL_law_253 (lv_at hl 1 rfl) ?_
  refine lv_icmp_eq (tgt := 260) C.x C.b dL_law_255 (by decide) (fun hc => ?_) (fun hc => ?_)
  · have h := h.1 hc
    refine lv_iload C.x C.b dL_law_260 (lv_at hl 1 rfl) ?_
    refine lv_if_ne (tgt := 277) C.x C.b dL_law_262 (by decide) (fun hc => ?_) (fun hc => ?_)
    · have h := h.2 hc
      refine lv_goto (tgt := 2175) C.x C.b dL_law_277 (by decide) ?_
      refine lv_iinc (v := i + 5) (lv' := [(4, .int (i + 5)), (6, .int r4), (5, .int r1), (0, .ref b), (1, .ref (g3 10 0)), (2, .ref (g3 11 0)), (3, .ref (g3 61 0))]) C.x C.b dL_law_2175 hl (k := 6) rfl rfl (by decide) rfl (fun ls hl => ?_)
      refine lv_goto (tgt := 23) C.x C.b dL_law_2178 (by decide) ?_
      refine W.widen (by omega) (by omega) (h p l e s m below meth c b D cA g3 A C _ _ G ls (lv_sub hl [3, 4, 5, 6, 0] rfl))
    · have h := h.1 hc
      refine lv_aload_n C.x C.b dL_law_265 rfl (lv_at hl 5 rfl) ?_
      refine lv_iconst (v := 0) C.x C.b dL_law_266 (by decide) ?_
      refine jr_lald C G (by unfold vp_in; decide) dL_law_267 ?_
      refine lv_iload C.x C.b dL_law_268 (lv_at hl 0 rfl) ?_
      refine lv_i2l C.x C.b dL_law_270 rfl ?_
      refine W.lcmp C.x C.b dL_law_271 ?_
      refine lv_if_eq (tgt := 277) C.x C.b dL_law_272 (by decide) (fun hc => ?_) (fun hc => ?_)
      · have h := h.1 hc
        refine lv_goto (tgt := 2175) C.x C.b dL_law_277 (by decide) ?_
        refine lv_iinc (v := i + 5) (lv' := [(4, .int (i + 5)), (6, .int r4), (5, .int r1), (0, .ref b), (1, .ref (g3 10 0)), (2, .ref (g3 11 0)), (3, .ref (g3 61 0))]) C.x C.b dL_law_2175 hl (k := 6) rfl rfl (by decide) rfl (fun ls hl => ?_)
        refine lv_goto (tgt := 23) C.x C.b dL_law_2178 (by decide) ?_
        refine W.widen (by omega) (by omega) (h p l e s m below meth c b D cA g3 A C _ _ G ls (lv_sub hl [3, 4, 5, 6, 0] rfl))
      · have h := h.2 hc
        refine lv_iconst (v := 0) C.x C.b dL_law_275 (by decide) ?_
        exact h.elim
  · have h := h.2 hc
    refine lv_iconst (v := 0) C.x C.b dL_law_258 (by decide) ?_
    exact h.elim
set_option maxHeartbeats 4000000 in
set_option maxRecDepth 100000 in
theorem bl_L_280 {L : Nat} {xs : Nat → Int32} (k : Nat) (i : Int32) (M : jM) (hk : k ≤ 2000)
  (h : ok_X11_faultPosition  M (fun r1 _ M2 => ok_X12_faultPosition  M2 (fun r3 _ M4 => (r1 = r3 → at_L_23 L xs (k + 1) (i + 5) M4) ∧ (¬ (r1 = r3) → False)))) :
  at_L_280 L xs k i M := by
  intro p l e s m below meth c b D cA g A C H locs G ls hl
  have hbA : ¬ jA s.heap.size b := Nat.not_le.mpr A.2.2.2.2.2.2.2.1
  refine lv_aload_n C.x C.b dL_law_280 rfl (lv_at hl 1 rfl) ?_
  refine jl_V (rk := 1) C G jc10 jm_X11_faultPosition wd483 h rfl (show 0 < 1 by decide) (by decide) rfl rfl (by decide) (by decide) (by show _ ≤ 601024; omega) (by show _ ≤ 7293034; omega) hl.1 (Nat.le_of_ble_eq_true rfl) dL_law_281 (fun r1 r1n M2 H locs h G => ?_)
  refine lv_aload_n C.x C.b dL_law_284 rfl (lv_at hl 2 rfl) ?_
  refine jl_V (rk := 1) C G jc11 jm_X12_faultPosition wd1364 h rfl (show 0 < 1 by decide) (by decide) rfl rfl (by decide) (by decide) (by show _ ≤ 601024; omega) (by show _ ≤ 7293034; omega) hl.1 (Nat.le_of_ble_eq_true rfl) dL_law_285 (fun r3 r3n M4 H locs h G => ?_)
  refine lv_icmp_eq (tgt := 2175) C.x C.b dL_law_288 (by decide) (fun hc => ?_) (fun hc => ?_)
  · have h := h.1 hc
    refine lv_iinc (v := i + 5) (lv' := [(4, .int (i + 5)), (0, .ref b), (1, .ref (g 10 0)), (2, .ref (g 11 0)), (3, .ref (g 61 0))]) C.x C.b dL_law_2175 hl (k := 4) rfl rfl (by decide) rfl (fun ls hl => ?_)
    refine lv_goto (tgt := 23) C.x C.b dL_law_2178 (by decide) ?_
    refine W.widen (by omega) (by omega) (h p l e s m below meth c b D cA g A C _ _ G ls (lv_sub hl [1, 2, 3, 4, 0] rfl))
  · have h := h.2 hc
    refine lv_iconst (v := 0) C.x C.b dL_law_291 (by decide) ?_
    exact h.elim
set_option maxHeartbeats 4000000 in
set_option maxRecDepth 100000 in
theorem bl_L_293 {L : Nat} {xs : Nat → Int32} (k : Nat) (i : Int32) (M : jM) (hk : k ≤ 2000)
  (h : vp_in (i + 1) L ∧ ok_L_removeLoop (xs (i + 1).toNatClampNeg) M (fun r1 _ M2 => vp_in (i + 1) L ∧ ok_X12_removeLoop (xs (i + 1).toNatClampNeg) M2 (fun r4 _ M5 => ((M5 11 0 7) = r1 → (r1 = 0 → (lg_cmp (M5 61 0 (0 : Int32).toNatClampNeg).toInt64 r4.toInt64 = 0 → at_L_23 L xs (k + 1) (i + 5) M5) ∧ (¬ (lg_cmp (M5 61 0 (0 : Int32).toNatClampNeg).toInt64 r4.toInt64 = 0) → False)) ∧ (¬ (r1 = 0) → at_L_23 L xs (k + 1) (i + 5) M5)) ∧ (¬ ((M5 11 0 7) = r1) → False)))) :
  at_L_293 L xs k i M := by
  intro p l e s m below meth c b D cA g A C H locs G ls hl
  have hbA : ¬ jA s.heap.size b := Nat.not_le.mpr A.2.2.2.2.2.2.2.1
  refine lv_aload_n C.x C.b dL_law_293 rfl (lv_at hl 1 rfl) ?_
  refine lv_aload_n C.x C.b dL_law_294 rfl (lv_at hl 0 rfl) ?_
  refine lv_iload C.x C.b dL_law_295 (lv_at hl 4 rfl) ?_
  refine lv_iconst (v := 1) C.x C.b dL_law_297 (by decide) ?_
  refine lv_iadd C.x C.b dL_law_298 ?_
  obtain ⟨hs, h⟩ := h
  refine va_sld C.x C.b A.2.2.2.2.2.2.1 A.2.2.2.2.2.2.2.1 hbA G.2 hs dL_law_299 ?_
  refine lv_aload_n C.x C.b dL_law_300 rfl (lv_at hl 3 rfl) ?_
  refine jl_H (n := 3) C G wd753 wd754 wd72 wd755 ⟨by decide +kernel, by decide +kernel, by decide +kernel⟩ h rfl rfl rfl (by decide) (by decide) (by show _ ≤ 601024; omega) (by show _ ≤ 7293034; omega) hl.1 (Nat.le_of_ble_eq_true rfl) dL_law_301 (fun r1 r1n M2 H locs h G => ?_)
  refine lv_istore (lv' := [(5, .int r1), (0, .ref b), (1, .ref (g 10 0)), (2, .ref (g 11 0)), (3, .ref (g 61 0)), (4, .int i)]) C.x C.b dL_law_304 hl (by decide) rfl (fun ls hl => ?_)
  refine lv_aload_n C.x C.b dL_law_306 rfl (lv_at hl 3 rfl) ?_
  refine lv_aload_n C.x C.b dL_law_307 rfl (lv_at hl 1 rfl) ?_
  refine lv_iload C.x C.b dL_law_308 (lv_at hl 5 rfl) ?_
  refine lv_iconst (v := 1) C.x C.b dL_law_310 (by decide) ?_
  refine lv_iadd C.x C.b dL_law_311 ?_
  obtain ⟨hs, h⟩ := h
  refine va_sld C.x C.b A.2.2.2.2.2.2.1 A.2.2.2.2.2.2.2.1 hbA G.2 hs dL_law_312 ?_
  refine jl_V (rk := 1) C G jc11 jm_X12_removeLoop wd1368 h rfl (show 0 < 1 by decide) (by decide) rfl rfl (by decide) (by decide) (by show _ ≤ 601024; omega) (by show _ ≤ 7293034; omega) hl.1 (Nat.le_of_ble_eq_true rfl) dL_law_313 (fun r4 r4n M5 H locs h G => ?_)
  refine lv_istore (lv' := [(6, .int r4), (5, .int r1), (0, .ref b), (1, .ref (g 10 0)), (2, .ref (g 11 0)), (3, .ref (g 61 0)), (4, .int i)]) C.x C.b dL_law_316 hl (by decide) rfl (fun ls hl => ?_)
  refine lv_aload_n C.x C.b dL_law_318 rfl (lv_at hl 4 rfl) ?_
  refine jl_V (rk := 1) C G jc11 jm_X12_thrown wd1285 (sp_X12_thrown ⟨rfl, rfl⟩ : ok_X12_thrown  M5 (fun r _ M' => (M5 11 0 7) = r ∧ M5 = M')) rfl (show 0 < 1 by decide) (by decide) rfl rfl (by decide) (by decide) (by show _ ≤ 601024; omega) (by show _ ≤ 7293034; omega) hl.1 (Nat.le_of_ble_eq_true rfl) dL_law_319 (fun r6 r6n M7 H locs hq G => ?_)
  obtain ⟨eq1, eq2⟩ := hq
  subst eq1
  subst eq2
  refine lv_iload C.x C.b dL_law_322 (lv_at hl 1 rfl) ?_
  refine lv_icmp_eq (tgt := 329) C.x C.b dL_law_324 (by decide) (fun hc => ?_) (fun hc => ?_)
  · have h := h.1 hc
    refine lv_iload C.x C.b dL_law_329 (lv_at hl 1 rfl) ?_
    refine lv_if_ne (tgt := 346) C.x C.b dL_law_331 (by decide) (fun hc => ?_) (fun hc => ?_)
    · have h := h.2 hc
      refine lv_goto (tgt := 2175) C.x C.b dL_law_346 (by decide) ?_
      refine lv_iinc (v := i + 5) (lv' := [(4, .int (i + 5)), (6, .int r4), (5, .int r1), (0, .ref b), (1, .ref (g 10 0)), (2, .ref (g 11 0)), (3, .ref (g 61 0))]) C.x C.b dL_law_2175 hl (k := 6) rfl rfl (by decide) rfl (fun ls hl => ?_)
      refine lv_goto (tgt := 23) C.x C.b dL_law_2178 (by decide) ?_
      refine W.widen (by omega) (by omega) (h p l e s m below meth c b D cA g A C _ _ G ls (lv_sub hl [3, 4, 5, 6, 0] rfl))
    · have h := h.1 hc
      refine lv_aload_n C.x C.b dL_law_334 rfl (lv_at hl 5 rfl) ?_
      refine lv_iconst (v := 0) C.x C.b dL_law_335 (by decide) ?_
      refine jr_lald C G (by unfold vp_in; decide) dL_law_336 ?_
      refine lv_iload C.x C.b dL_law_337 (lv_at hl 0 rfl) ?_
      refine lv_i2l C.x C.b dL_law_339 rfl ?_
      refine W.lcmp C.x C.b dL_law_340 ?_
      refine lv_if_eq (tgt := 346) C.x C.b dL_law_341 (by decide) (fun hc => ?_) (fun hc => ?_)
      · have h := h.1 hc
        refine lv_goto (tgt := 2175) C.x C.b dL_law_346 (by decide) ?_
        refine lv_iinc (v := i + 5) (lv' := [(4, .int (i + 5)), (6, .int r4), (5, .int r1), (0, .ref b), (1, .ref (g 10 0)), (2, .ref (g 11 0)), (3, .ref (g 61 0))]) C.x C.b dL_law_2175 hl (k := 6) rfl rfl (by decide) rfl (fun ls hl => ?_)
        refine lv_goto (tgt := 23) C.x C.b dL_law_2178 (by decide) ?_
        refine W.widen (by omega) (by omega) (h p l e s m below meth c b D cA g A C _ _ G ls (lv_sub hl [3, 4, 5, 6, 0] rfl))
      · have h := h.2 hc
        refine lv_iconst (v := 0) C.x C.b dL_law_344 (by decide) ?_
        exact h.elim
  · have h := h.2 hc
    refine lv_iconst (v := 0) C.x C.b dL_law_327 (by decide) ?_
    exact h.elim
set_option maxHeartbeats 4000000 in
set_option maxRecDepth 100000 in
theorem bl_L_349 {L : Nat} {xs : Nat → Int32} (k : Nat) (i : Int32) (M : jM) (hk : k ≤ 2000)
  (h : ok_X11_loopCount  M (fun r1 _ M2 => ok_X12_loopCount  M2 (fun r3 _ M4 => (r1 = r3 → at_L_23 L xs (k + 1) (i + 5) M4) ∧ (¬ (r1 = r3) → False)))) :
  at_L_349 L xs k i M := by
  intro p l e s m below meth c b D cA g A C H locs G ls hl
  have hbA : ¬ jA s.heap.size b := Nat.not_le.mpr A.2.2.2.2.2.2.2.1
  refine lv_aload_n C.x C.b dL_law_349 rfl (lv_at hl 1 rfl) ?_
  refine jl_V (rk := 1) C G jc10 jm_X11_loopCount wd487 h rfl (show 0 < 1 by decide) (by decide) rfl rfl (by decide) (by decide) (by show _ ≤ 601024; omega) (by show _ ≤ 7293034; omega) hl.1 (Nat.le_of_ble_eq_true rfl) dL_law_350 (fun r1 r1n M2 H locs h G => ?_)
  refine lv_aload_n C.x C.b dL_law_353 rfl (lv_at hl 2 rfl) ?_
  refine jl_V (rk := 1) C G jc11 jm_X12_loopCount wd1376 h rfl (show 0 < 1 by decide) (by decide) rfl rfl (by decide) (by decide) (by show _ ≤ 601024; omega) (by show _ ≤ 7293034; omega) hl.1 (Nat.le_of_ble_eq_true rfl) dL_law_354 (fun r3 r3n M4 H locs h G => ?_)
  refine lv_icmp_eq (tgt := 2175) C.x C.b dL_law_357 (by decide) (fun hc => ?_) (fun hc => ?_)
  · have h := h.1 hc
    refine lv_iinc (v := i + 5) (lv' := [(4, .int (i + 5)), (0, .ref b), (1, .ref (g 10 0)), (2, .ref (g 11 0)), (3, .ref (g 61 0))]) C.x C.b dL_law_2175 hl (k := 4) rfl rfl (by decide) rfl (fun ls hl => ?_)
    refine lv_goto (tgt := 23) C.x C.b dL_law_2178 (by decide) ?_
    refine W.widen (by omega) (by omega) (h p l e s m below meth c b D cA g A C _ _ G ls (lv_sub hl [1, 2, 3, 4, 0] rfl))
  · have h := h.2 hc
    refine lv_iconst (v := 0) C.x C.b dL_law_360 (by decide) ?_
    exact h.elim
set_option maxHeartbeats 4000000 in
set_option maxRecDepth 100000 in
theorem bl_L_362 {L : Nat} {xs : Nat → Int32} (k : Nat) (i : Int32) (M : jM) (hk : k ≤ 2000)
  (h : vp_in (i + 1) L ∧ vp_in (i + 2) L ∧ ok_L_bound (xs (i + 1).toNatClampNeg) (xs (i + 2).toNatClampNeg) M (fun r1 _ M2 => vp_in (i + 1) L ∧ vp_in (i + 2) L ∧ ok_X12_bound (xs (i + 1).toNatClampNeg) (xs (i + 2).toNatClampNeg) M2 (fun r4 _ M5 => ((M5 11 0 7) = r1 → (r1 = 0 → (lg_cmp (M5 61 0 (0 : Int32).toNatClampNeg).toInt64 r4.toInt64 = 0 → at_L_23 L xs (k + 1) (i + 5) M5) ∧ (¬ (lg_cmp (M5 61 0 (0 : Int32).toNatClampNeg).toInt64 r4.toInt64 = 0) → False)) ∧ (¬ (r1 = 0) → at_L_23 L xs (k + 1) (i + 5) M5)) ∧ (¬ ((M5 11 0 7) = r1) → False)))) :
  at_L_362 L xs k i M := by
  intro p l e s m below meth c b D cA g A C H locs G ls hl
  have hbA : ¬ jA s.heap.size b := Nat.not_le.mpr A.2.2.2.2.2.2.2.1
  refine lv_aload_n C.x C.b dL_law_362 rfl (lv_at hl 1 rfl) ?_
  refine lv_aload_n C.x C.b dL_law_363 rfl (lv_at hl 0 rfl) ?_
  refine lv_iload C.x C.b dL_law_364 (lv_at hl 4 rfl) ?_
  refine lv_iconst (v := 1) C.x C.b dL_law_366 (by decide) ?_
  refine lv_iadd C.x C.b dL_law_367 ?_
  obtain ⟨hs, h⟩ := h
  refine va_sld C.x C.b A.2.2.2.2.2.2.1 A.2.2.2.2.2.2.2.1 hbA G.2 hs dL_law_368 ?_
  refine lv_aload_n C.x C.b dL_law_369 rfl (lv_at hl 0 rfl) ?_
  refine lv_iload C.x C.b dL_law_370 (lv_at hl 4 rfl) ?_
  refine lv_iconst (v := 2) C.x C.b dL_law_372 (by decide) ?_
  refine lv_iadd C.x C.b dL_law_373 ?_
  obtain ⟨hs, h⟩ := h
  refine va_sld C.x C.b A.2.2.2.2.2.2.1 A.2.2.2.2.2.2.2.1 hbA G.2 hs dL_law_374 ?_
  refine lv_aload_n C.x C.b dL_law_375 rfl (lv_at hl 3 rfl) ?_
  refine jl_H (n := 4) C G wd790 wd791 wd72 wd792 ⟨by decide +kernel, by decide +kernel, by decide +kernel⟩ h rfl rfl rfl (by decide) (by decide) (by show _ ≤ 601024; omega) (by show _ ≤ 7293034; omega) hl.1 (Nat.le_of_ble_eq_true rfl) dL_law_376 (fun r1 r1n M2 H locs h G => ?_)
  refine lv_istore (lv' := [(5, .int r1), (0, .ref b), (1, .ref (g 10 0)), (2, .ref (g 11 0)), (3, .ref (g 61 0)), (4, .int i)]) C.x C.b dL_law_379 hl (by decide) rfl (fun ls hl => ?_)
  refine lv_aload_n C.x C.b dL_law_381 rfl (lv_at hl 3 rfl) ?_
  refine lv_aload_n C.x C.b dL_law_382 rfl (lv_at hl 1 rfl) ?_
  refine lv_iload C.x C.b dL_law_383 (lv_at hl 5 rfl) ?_
  refine lv_iconst (v := 1) C.x C.b dL_law_385 (by decide) ?_
  refine lv_iadd C.x C.b dL_law_386 ?_
  obtain ⟨hs, h⟩ := h
  refine va_sld C.x C.b A.2.2.2.2.2.2.1 A.2.2.2.2.2.2.2.1 hbA G.2 hs dL_law_387 ?_
  refine lv_aload_n C.x C.b dL_law_388 rfl (lv_at hl 1 rfl) ?_
  refine lv_iload C.x C.b dL_law_389 (lv_at hl 5 rfl) ?_
  refine lv_iconst (v := 2) C.x C.b dL_law_391 (by decide) ?_
  refine lv_iadd C.x C.b dL_law_392 ?_
  obtain ⟨hs, h⟩ := h
  refine va_sld C.x C.b A.2.2.2.2.2.2.1 A.2.2.2.2.2.2.2.1 hbA G.2 hs dL_law_393 ?_
  refine jl_V (rk := 1) C G jc11 jm_X12_bound wd1380 h rfl (show 0 < 1 by decide) (by decide) rfl rfl (by decide) (by decide) (by show _ ≤ 601024; omega) (by show _ ≤ 7293034; omega) hl.1 (Nat.le_of_ble_eq_true rfl) dL_law_394 (fun r4 r4n M5 H locs h G => ?_)
  refine lv_istore (lv' := [(6, .int r4), (5, .int r1), (0, .ref b), (1, .ref (g 10 0)), (2, .ref (g 11 0)), (3, .ref (g 61 0)), (4, .int i)]) C.x C.b dL_law_397 hl (by decide) rfl (fun ls hl => ?_)
  refine lv_aload_n C.x C.b dL_law_399 rfl (lv_at hl 4 rfl) ?_
  refine jl_V (rk := 1) C G jc11 jm_X12_thrown wd1285 (sp_X12_thrown ⟨rfl, rfl⟩ : ok_X12_thrown  M5 (fun r _ M' => (M5 11 0 7) = r ∧ M5 = M')) rfl (show 0 < 1 by decide) (by decide) rfl rfl (by decide) (by decide) (by show _ ≤ 601024; omega) (by show _ ≤ 7293034; omega) hl.1 (Nat.le_of_ble_eq_true rfl) dL_law_400 (fun r6 r6n M7 H locs hq G => ?_)
  obtain ⟨eq1, eq2⟩ := hq
  subst eq1
  subst eq2
  refine lv_iload C.x C.b dL_law_403 (lv_at hl 1 rfl) ?_
  refine lv_icmp_eq (tgt := 410) C.x C.b dL_law_405 (by decide) (fun hc => ?_) (fun hc => ?_)
  · have h := h.1 hc
    refine lv_iload C.x C.b dL_law_410 (lv_at hl 1 rfl) ?_
    refine lv_if_ne (tgt := 427) C.x C.b dL_law_412 (by decide) (fun hc => ?_) (fun hc => ?_)
    · have h := h.2 hc
      refine lv_goto (tgt := 2175) C.x C.b dL_law_427 (by decide) ?_
      refine lv_iinc (v := i + 5) (lv' := [(4, .int (i + 5)), (6, .int r4), (5, .int r1), (0, .ref b), (1, .ref (g 10 0)), (2, .ref (g 11 0)), (3, .ref (g 61 0))]) C.x C.b dL_law_2175 hl (k := 6) rfl rfl (by decide) rfl (fun ls hl => ?_)
      refine lv_goto (tgt := 23) C.x C.b dL_law_2178 (by decide) ?_
      refine W.widen (by omega) (by omega) (h p l e s m below meth c b D cA g A C _ _ G ls (lv_sub hl [3, 4, 5, 6, 0] rfl))
    · have h := h.1 hc
      refine lv_aload_n C.x C.b dL_law_415 rfl (lv_at hl 5 rfl) ?_
      refine lv_iconst (v := 0) C.x C.b dL_law_416 (by decide) ?_
      refine jr_lald C G (by unfold vp_in; decide) dL_law_417 ?_
      refine lv_iload C.x C.b dL_law_418 (lv_at hl 0 rfl) ?_
      refine lv_i2l C.x C.b dL_law_420 rfl ?_
      refine W.lcmp C.x C.b dL_law_421 ?_
      refine lv_if_eq (tgt := 427) C.x C.b dL_law_422 (by decide) (fun hc => ?_) (fun hc => ?_)
      · have h := h.1 hc
        refine lv_goto (tgt := 2175) C.x C.b dL_law_427 (by decide) ?_
        refine lv_iinc (v := i + 5) (lv' := [(4, .int (i + 5)), (6, .int r4), (5, .int r1), (0, .ref b), (1, .ref (g 10 0)), (2, .ref (g 11 0)), (3, .ref (g 61 0))]) C.x C.b dL_law_2175 hl (k := 6) rfl rfl (by decide) rfl (fun ls hl => ?_)
        refine lv_goto (tgt := 23) C.x C.b dL_law_2178 (by decide) ?_
        refine W.widen (by omega) (by omega) (h p l e s m below meth c b D cA g A C _ _ G ls (lv_sub hl [3, 4, 5, 6, 0] rfl))
      · have h := h.2 hc
        refine lv_iconst (v := 0) C.x C.b dL_law_425 (by decide) ?_
        exact h.elim
  · have h := h.2 hc
    refine lv_iconst (v := 0) C.x C.b dL_law_408 (by decide) ?_
    exact h.elim
set_option maxHeartbeats 4000000 in
set_option maxRecDepth 100000 in
theorem bl_L_430 {L : Nat} {xs : Nat → Int32} (k : Nat) (i : Int32) (M : jM) (hk : k ≤ 2000)
  (h : vp_in (i + 1) L ∧ vp_in (i + 2) L ∧ vp_in (i + 3) L ∧ ok_L_setBound (xs (i + 1).toNatClampNeg) (xs (i + 2).toNatClampNeg) (xs (i + 3).toNatClampNeg) M (fun r1 _ M2 => vp_in (i + 1) L ∧ vp_in (i + 2) L ∧ vp_in (i + 3) L ∧ ok_X12_setBound (xs (i + 1).toNatClampNeg) (xs (i + 2).toNatClampNeg) (xs (i + 3).toNatClampNeg) M2 (fun r4 _ M5 => ((M5 11 0 7) = r1 → (r1 = 0 → (lg_cmp (M5 61 0 (0 : Int32).toNatClampNeg).toInt64 r4.toInt64 = 0 → at_L_23 L xs (k + 1) (i + 5) M5) ∧ (¬ (lg_cmp (M5 61 0 (0 : Int32).toNatClampNeg).toInt64 r4.toInt64 = 0) → False)) ∧ (¬ (r1 = 0) → at_L_23 L xs (k + 1) (i + 5) M5)) ∧ (¬ ((M5 11 0 7) = r1) → False)))) :
  at_L_430 L xs k i M := by
  intro p l e s m below meth c b D cA g A C H locs G ls hl
  have hbA : ¬ jA s.heap.size b := Nat.not_le.mpr A.2.2.2.2.2.2.2.1
  refine lv_aload_n C.x C.b dL_law_430 rfl (lv_at hl 1 rfl) ?_
  refine lv_aload_n C.x C.b dL_law_431 rfl (lv_at hl 0 rfl) ?_
  refine lv_iload C.x C.b dL_law_432 (lv_at hl 4 rfl) ?_
  refine lv_iconst (v := 1) C.x C.b dL_law_434 (by decide) ?_
  refine lv_iadd C.x C.b dL_law_435 ?_
  obtain ⟨hs, h⟩ := h
  refine va_sld C.x C.b A.2.2.2.2.2.2.1 A.2.2.2.2.2.2.2.1 hbA G.2 hs dL_law_436 ?_
  refine lv_aload_n C.x C.b dL_law_437 rfl (lv_at hl 0 rfl) ?_
  refine lv_iload C.x C.b dL_law_438 (lv_at hl 4 rfl) ?_
  refine lv_iconst (v := 2) C.x C.b dL_law_440 (by decide) ?_
  refine lv_iadd C.x C.b dL_law_441 ?_
  obtain ⟨hs, h⟩ := h
  refine va_sld C.x C.b A.2.2.2.2.2.2.1 A.2.2.2.2.2.2.2.1 hbA G.2 hs dL_law_442 ?_
  refine lv_aload_n C.x C.b dL_law_443 rfl (lv_at hl 0 rfl) ?_
  refine lv_iload C.x C.b dL_law_444 (lv_at hl 4 rfl) ?_
  refine lv_iconst (v := 3) C.x C.b dL_law_446 (by decide) ?_
  refine lv_iadd C.x C.b dL_law_447 ?_
  obtain ⟨hs, h⟩ := h
  refine va_sld C.x C.b A.2.2.2.2.2.2.1 A.2.2.2.2.2.2.2.1 hbA G.2 hs dL_law_448 ?_
  refine lv_aload_n C.x C.b dL_law_449 rfl (lv_at hl 3 rfl) ?_
  refine jl_H (n := 5) C G wd806 wd807 wd72 wd808 ⟨by decide +kernel, by decide +kernel, by decide +kernel⟩ h rfl rfl rfl (by decide) (by decide) (by show _ ≤ 601024; omega) (by show _ ≤ 7293034; omega) hl.1 (Nat.le_of_ble_eq_true rfl) dL_law_450 (fun r1 r1n M2 H locs h G => ?_)
  refine lv_istore (lv' := [(5, .int r1), (0, .ref b), (1, .ref (g 10 0)), (2, .ref (g 11 0)), (3, .ref (g 61 0)), (4, .int i)]) C.x C.b dL_law_453 hl (by decide) rfl (fun ls hl => ?_)
  refine lv_aload_n C.x C.b dL_law_455 rfl (lv_at hl 3 rfl) ?_
  refine lv_aload_n C.x C.b dL_law_456 rfl (lv_at hl 1 rfl) ?_
  refine lv_iload C.x C.b dL_law_457 (lv_at hl 5 rfl) ?_
  refine lv_iconst (v := 1) C.x C.b dL_law_459 (by decide) ?_
  refine lv_iadd C.x C.b dL_law_460 ?_
  obtain ⟨hs, h⟩ := h
  refine va_sld C.x C.b A.2.2.2.2.2.2.1 A.2.2.2.2.2.2.2.1 hbA G.2 hs dL_law_461 ?_
  refine lv_aload_n C.x C.b dL_law_462 rfl (lv_at hl 1 rfl) ?_
  refine lv_iload C.x C.b dL_law_463 (lv_at hl 5 rfl) ?_
  refine lv_iconst (v := 2) C.x C.b dL_law_465 (by decide) ?_
  refine lv_iadd C.x C.b dL_law_466 ?_
  obtain ⟨hs, h⟩ := h
  refine va_sld C.x C.b A.2.2.2.2.2.2.1 A.2.2.2.2.2.2.2.1 hbA G.2 hs dL_law_467 ?_
  refine lv_aload_n C.x C.b dL_law_468 rfl (lv_at hl 1 rfl) ?_
  refine lv_iload C.x C.b dL_law_469 (lv_at hl 5 rfl) ?_
  refine lv_iconst (v := 3) C.x C.b dL_law_471 (by decide) ?_
  refine lv_iadd C.x C.b dL_law_472 ?_
  obtain ⟨hs, h⟩ := h
  refine va_sld C.x C.b A.2.2.2.2.2.2.1 A.2.2.2.2.2.2.2.1 hbA G.2 hs dL_law_473 ?_
  refine jl_V (rk := 1) C G jc11 jm_X12_setBound wd1388 h rfl (show 0 < 1 by decide) (by decide) rfl rfl (by decide) (by decide) (by show _ ≤ 601024; omega) (by show _ ≤ 7293034; omega) hl.1 (Nat.le_of_ble_eq_true rfl) dL_law_474 (fun r4 r4n M5 H locs h G => ?_)
  refine lv_istore (lv' := [(6, .int r4), (5, .int r1), (0, .ref b), (1, .ref (g 10 0)), (2, .ref (g 11 0)), (3, .ref (g 61 0)), (4, .int i)]) C.x C.b dL_law_477 hl (by decide) rfl (fun ls hl => ?_)
  refine lv_aload_n C.x C.b dL_law_479 rfl (lv_at hl 4 rfl) ?_
  refine jl_V (rk := 1) C G jc11 jm_X12_thrown wd1285 (sp_X12_thrown ⟨rfl, rfl⟩ : ok_X12_thrown  M5 (fun r _ M' => (M5 11 0 7) = r ∧ M5 = M')) rfl (show 0 < 1 by decide) (by decide) rfl rfl (by decide) (by decide) (by show _ ≤ 601024; omega) (by show _ ≤ 7293034; omega) hl.1 (Nat.le_of_ble_eq_true rfl) dL_law_480 (fun r6 r6n M7 H locs hq G => ?_)
  obtain ⟨eq1, eq2⟩ := hq
  subst eq1
  subst eq2
  refine lv_iload C.x C.b dL_law_483 (lv_at hl 1 rfl) ?_
  refine lv_icmp_eq (tgt := 490) C.x C.b dL_law_485 (by decide) (fun hc => ?_) (fun hc => ?_)
  · have h := h.1 hc
    refine lv_iload C.x C.b dL_law_490 (lv_at hl 1 rfl) ?_
    refine lv_if_ne (tgt := 507) C.x C.b dL_law_492 (by decide) (fun hc => ?_) (fun hc => ?_)
    · have h := h.2 hc
      refine lv_goto (tgt := 2175) C.x C.b dL_law_507 (by decide) ?_
      refine lv_iinc (v := i + 5) (lv' := [(4, .int (i + 5)), (6, .int r4), (5, .int r1), (0, .ref b), (1, .ref (g 10 0)), (2, .ref (g 11 0)), (3, .ref (g 61 0))]) C.x C.b dL_law_2175 hl (k := 6) rfl rfl (by decide) rfl (fun ls hl => ?_)
      refine lv_goto (tgt := 23) C.x C.b dL_law_2178 (by decide) ?_
      refine W.widen (by omega) (by omega) (h p l e s m below meth c b D cA g A C _ _ G ls (lv_sub hl [3, 4, 5, 6, 0] rfl))
    · have h := h.1 hc
      refine lv_aload_n C.x C.b dL_law_495 rfl (lv_at hl 5 rfl) ?_
      refine lv_iconst (v := 0) C.x C.b dL_law_496 (by decide) ?_
      refine jr_lald C G (by unfold vp_in; decide) dL_law_497 ?_
      refine lv_iload C.x C.b dL_law_498 (lv_at hl 0 rfl) ?_
      refine lv_i2l C.x C.b dL_law_500 rfl ?_
      refine W.lcmp C.x C.b dL_law_501 ?_
      refine lv_if_eq (tgt := 507) C.x C.b dL_law_502 (by decide) (fun hc => ?_) (fun hc => ?_)
      · have h := h.1 hc
        refine lv_goto (tgt := 2175) C.x C.b dL_law_507 (by decide) ?_
        refine lv_iinc (v := i + 5) (lv' := [(4, .int (i + 5)), (6, .int r4), (5, .int r1), (0, .ref b), (1, .ref (g 10 0)), (2, .ref (g 11 0)), (3, .ref (g 61 0))]) C.x C.b dL_law_2175 hl (k := 6) rfl rfl (by decide) rfl (fun ls hl => ?_)
        refine lv_goto (tgt := 23) C.x C.b dL_law_2178 (by decide) ?_
        refine W.widen (by omega) (by omega) (h p l e s m below meth c b D cA g A C _ _ G ls (lv_sub hl [3, 4, 5, 6, 0] rfl))
      · have h := h.2 hc
        refine lv_iconst (v := 0) C.x C.b dL_law_505 (by decide) ?_
        exact h.elim
  · have h := h.2 hc
    refine lv_iconst (v := 0) C.x C.b dL_law_488 (by decide) ?_
    exact h.elim
set_option maxHeartbeats 4000000 in
set_option maxRecDepth 100000 in
theorem bl_L_510 {L : Nat} {xs : Nat → Int32} (k : Nat) (i : Int32) (M : jM) (hk : k ≤ 2000)
  (h : vp_in (i + 1) L ∧ ok_L_statementCount (xs (i + 1).toNatClampNeg) M (fun r1 _ M2 => vp_in (i + 1) L ∧ ok_X12_statementCount (xs (i + 1).toNatClampNeg) M2 (fun r4 _ M5 => ((M5 11 0 7) = r1 → (r1 = 0 → (lg_cmp (M5 61 0 (0 : Int32).toNatClampNeg).toInt64 r4.toInt64 = 0 → at_L_23 L xs (k + 1) (i + 5) M5) ∧ (¬ (lg_cmp (M5 61 0 (0 : Int32).toNatClampNeg).toInt64 r4.toInt64 = 0) → False)) ∧ (¬ (r1 = 0) → at_L_23 L xs (k + 1) (i + 5) M5)) ∧ (¬ ((M5 11 0 7) = r1) → False)))) :
  at_L_510 L xs k i M := by
  intro p l e s m below meth c b D cA g A C H locs G ls hl
  have hbA : ¬ jA s.heap.size b := Nat.not_le.mpr A.2.2.2.2.2.2.2.1
  refine lv_aload_n C.x C.b dL_law_510 rfl (lv_at hl 1 rfl) ?_
  refine lv_aload_n C.x C.b dL_law_511 rfl (lv_at hl 0 rfl) ?_
  refine lv_iload C.x C.b dL_law_512 (lv_at hl 4 rfl) ?_
  refine lv_iconst (v := 1) C.x C.b dL_law_514 (by decide) ?_
  refine lv_iadd C.x C.b dL_law_515 ?_
  obtain ⟨hs, h⟩ := h
  refine va_sld C.x C.b A.2.2.2.2.2.2.1 A.2.2.2.2.2.2.2.1 hbA G.2 hs dL_law_516 ?_
  refine lv_aload_n C.x C.b dL_law_517 rfl (lv_at hl 3 rfl) ?_
  refine jl_H (n := 3) C G wd818 wd819 wd72 wd820 ⟨by decide +kernel, by decide +kernel, by decide +kernel⟩ h rfl rfl rfl (by decide) (by decide) (by show _ ≤ 601024; omega) (by show _ ≤ 7293034; omega) hl.1 (Nat.le_of_ble_eq_true rfl) dL_law_518 (fun r1 r1n M2 H locs h G => ?_)
  refine lv_istore (lv' := [(5, .int r1), (0, .ref b), (1, .ref (g 10 0)), (2, .ref (g 11 0)), (3, .ref (g 61 0)), (4, .int i)]) C.x C.b dL_law_521 hl (by decide) rfl (fun ls hl => ?_)
  refine lv_aload_n C.x C.b dL_law_523 rfl (lv_at hl 3 rfl) ?_
  refine lv_aload_n C.x C.b dL_law_524 rfl (lv_at hl 1 rfl) ?_
  refine lv_iload C.x C.b dL_law_525 (lv_at hl 5 rfl) ?_
  refine lv_iconst (v := 1) C.x C.b dL_law_527 (by decide) ?_
  refine lv_iadd C.x C.b dL_law_528 ?_
  obtain ⟨hs, h⟩ := h
  refine va_sld C.x C.b A.2.2.2.2.2.2.1 A.2.2.2.2.2.2.2.1 hbA G.2 hs dL_law_529 ?_
  refine jl_V (rk := 1) C G jc11 jm_X12_statementCount wd1392 h rfl (show 0 < 1 by decide) (by decide) rfl rfl (by decide) (by decide) (by show _ ≤ 601024; omega) (by show _ ≤ 7293034; omega) hl.1 (Nat.le_of_ble_eq_true rfl) dL_law_530 (fun r4 r4n M5 H locs h G => ?_)
  refine lv_istore (lv' := [(6, .int r4), (5, .int r1), (0, .ref b), (1, .ref (g 10 0)), (2, .ref (g 11 0)), (3, .ref (g 61 0)), (4, .int i)]) C.x C.b dL_law_533 hl (by decide) rfl (fun ls hl => ?_)
  refine lv_aload_n C.x C.b dL_law_535 rfl (lv_at hl 4 rfl) ?_
  refine jl_V (rk := 1) C G jc11 jm_X12_thrown wd1285 (sp_X12_thrown ⟨rfl, rfl⟩ : ok_X12_thrown  M5 (fun r _ M' => (M5 11 0 7) = r ∧ M5 = M')) rfl (show 0 < 1 by decide) (by decide) rfl rfl (by decide) (by decide) (by show _ ≤ 601024; omega) (by show _ ≤ 7293034; omega) hl.1 (Nat.le_of_ble_eq_true rfl) dL_law_536 (fun r6 r6n M7 H locs hq G => ?_)
  obtain ⟨eq1, eq2⟩ := hq
  subst eq1
  subst eq2
  refine lv_iload C.x C.b dL_law_539 (lv_at hl 1 rfl) ?_
  refine lv_icmp_eq (tgt := 546) C.x C.b dL_law_541 (by decide) (fun hc => ?_) (fun hc => ?_)
  · have h := h.1 hc
    refine lv_iload C.x C.b dL_law_546 (lv_at hl 1 rfl) ?_
    refine lv_if_ne (tgt := 563) C.x C.b dL_law_548 (by decide) (fun hc => ?_) (fun hc => ?_)
    · have h := h.2 hc
      refine lv_goto (tgt := 2175) C.x C.b dL_law_563 (by decide) ?_
      refine lv_iinc (v := i + 5) (lv' := [(4, .int (i + 5)), (6, .int r4), (5, .int r1), (0, .ref b), (1, .ref (g 10 0)), (2, .ref (g 11 0)), (3, .ref (g 61 0))]) C.x C.b dL_law_2175 hl (k := 6) rfl rfl (by decide) rfl (fun ls hl => ?_)
      refine lv_goto (tgt := 23) C.x C.b dL_law_2178 (by decide) ?_
      refine W.widen (by omega) (by omega) (h p l e s m below meth c b D cA g A C _ _ G ls (lv_sub hl [3, 4, 5, 6, 0] rfl))
    · have h := h.1 hc
      refine lv_aload_n C.x C.b dL_law_551 rfl (lv_at hl 5 rfl) ?_
      refine lv_iconst (v := 0) C.x C.b dL_law_552 (by decide) ?_
      refine jr_lald C G (by unfold vp_in; decide) dL_law_553 ?_
      refine lv_iload C.x C.b dL_law_554 (lv_at hl 0 rfl) ?_
      refine lv_i2l C.x C.b dL_law_556 rfl ?_
      refine W.lcmp C.x C.b dL_law_557 ?_
      refine lv_if_eq (tgt := 563) C.x C.b dL_law_558 (by decide) (fun hc => ?_) (fun hc => ?_)
      · have h := h.1 hc
        refine lv_goto (tgt := 2175) C.x C.b dL_law_563 (by decide) ?_
        refine lv_iinc (v := i + 5) (lv' := [(4, .int (i + 5)), (6, .int r4), (5, .int r1), (0, .ref b), (1, .ref (g 10 0)), (2, .ref (g 11 0)), (3, .ref (g 61 0))]) C.x C.b dL_law_2175 hl (k := 6) rfl rfl (by decide) rfl (fun ls hl => ?_)
        refine lv_goto (tgt := 23) C.x C.b dL_law_2178 (by decide) ?_
        refine W.widen (by omega) (by omega) (h p l e s m below meth c b D cA g A C _ _ G ls (lv_sub hl [3, 4, 5, 6, 0] rfl))
      · have h := h.2 hc
        refine lv_iconst (v := 0) C.x C.b dL_law_561 (by decide) ?_
        exact h.elim
  · have h := h.2 hc
    refine lv_iconst (v := 0) C.x C.b dL_law_544 (by decide) ?_
    exact h.elim
set_option maxHeartbeats 4000000 in
set_option maxRecDepth 100000 in
theorem bl_L_566 {L : Nat} {xs : Nat → Int32} (k : Nat) (i : Int32) (M : jM) (hk : k ≤ 2000)
  (h : vp_in (i + 1) L ∧ ok_L_referenceCount (xs (i + 1).toNatClampNeg) M (fun r1 _ M2 => vp_in (i + 1) L ∧ ok_X12_referenceCount (xs (i + 1).toNatClampNeg) M2 (fun r4 _ M5 => ((M5 11 0 7) = r1 → (r1 = 0 → (lg_cmp (M5 61 0 (0 : Int32).toNatClampNeg).toInt64 r4.toInt64 = 0 → at_L_23 L xs (k + 1) (i + 5) M5) ∧ (¬ (lg_cmp (M5 61 0 (0 : Int32).toNatClampNeg).toInt64 r4.toInt64 = 0) → False)) ∧ (¬ (r1 = 0) → at_L_23 L xs (k + 1) (i + 5) M5)) ∧ (¬ ((M5 11 0 7) = r1) → False)))) :
  at_L_566 L xs k i M := by
  intro p l e s m below meth c b D cA g A C H locs G ls hl
  have hbA : ¬ jA s.heap.size b := Nat.not_le.mpr A.2.2.2.2.2.2.2.1
  refine lv_aload_n C.x C.b dL_law_566 rfl (lv_at hl 1 rfl) ?_
  refine lv_aload_n C.x C.b dL_law_567 rfl (lv_at hl 0 rfl) ?_
  refine lv_iload C.x C.b dL_law_568 (lv_at hl 4 rfl) ?_
  refine lv_iconst (v := 1) C.x C.b dL_law_570 (by decide) ?_
  refine lv_iadd C.x C.b dL_law_571 ?_
  obtain ⟨hs, h⟩ := h
  refine va_sld C.x C.b A.2.2.2.2.2.2.1 A.2.2.2.2.2.2.2.1 hbA G.2 hs dL_law_572 ?_
  refine lv_aload_n C.x C.b dL_law_573 rfl (lv_at hl 3 rfl) ?_
  refine jl_H (n := 3) C G wd825 wd826 wd72 wd827 ⟨by decide +kernel, by decide +kernel, by decide +kernel⟩ h rfl rfl rfl (by decide) (by decide) (by show _ ≤ 601024; omega) (by show _ ≤ 7293034; omega) hl.1 (Nat.le_of_ble_eq_true rfl) dL_law_574 (fun r1 r1n M2 H locs h G => ?_)
  refine lv_istore (lv' := [(5, .int r1), (0, .ref b), (1, .ref (g 10 0)), (2, .ref (g 11 0)), (3, .ref (g 61 0)), (4, .int i)]) C.x C.b dL_law_577 hl (by decide) rfl (fun ls hl => ?_)
  refine lv_aload_n C.x C.b dL_law_579 rfl (lv_at hl 3 rfl) ?_
  refine lv_aload_n C.x C.b dL_law_580 rfl (lv_at hl 1 rfl) ?_
  refine lv_iload C.x C.b dL_law_581 (lv_at hl 5 rfl) ?_
  refine lv_iconst (v := 1) C.x C.b dL_law_583 (by decide) ?_
  refine lv_iadd C.x C.b dL_law_584 ?_
  obtain ⟨hs, h⟩ := h
  refine va_sld C.x C.b A.2.2.2.2.2.2.1 A.2.2.2.2.2.2.2.1 hbA G.2 hs dL_law_585 ?_
  refine jl_V (rk := 1) C G jc11 jm_X12_referenceCount wd1396 h rfl (show 0 < 1 by decide) (by decide) rfl rfl (by decide) (by decide) (by show _ ≤ 601024; omega) (by show _ ≤ 7293034; omega) hl.1 (Nat.le_of_ble_eq_true rfl) dL_law_586 (fun r4 r4n M5 H locs h G => ?_)
  refine lv_istore (lv' := [(6, .int r4), (5, .int r1), (0, .ref b), (1, .ref (g 10 0)), (2, .ref (g 11 0)), (3, .ref (g 61 0)), (4, .int i)]) C.x C.b dL_law_589 hl (by decide) rfl (fun ls hl => ?_)
  refine lv_aload_n C.x C.b dL_law_591 rfl (lv_at hl 4 rfl) ?_
  refine jl_V (rk := 1) C G jc11 jm_X12_thrown wd1285 (sp_X12_thrown ⟨rfl, rfl⟩ : ok_X12_thrown  M5 (fun r _ M' => (M5 11 0 7) = r ∧ M5 = M')) rfl (show 0 < 1 by decide) (by decide) rfl rfl (by decide) (by decide) (by show _ ≤ 601024; omega) (by show _ ≤ 7293034; omega) hl.1 (Nat.le_of_ble_eq_true rfl) dL_law_592 (fun r6 r6n M7 H locs hq G => ?_)
  obtain ⟨eq1, eq2⟩ := hq
  subst eq1
  subst eq2
  refine lv_iload C.x C.b dL_law_595 (lv_at hl 1 rfl) ?_
  refine lv_icmp_eq (tgt := 602) C.x C.b dL_law_597 (by decide) (fun hc => ?_) (fun hc => ?_)
  · have h := h.1 hc
    refine lv_iload C.x C.b dL_law_602 (lv_at hl 1 rfl) ?_
    refine lv_if_ne (tgt := 619) C.x C.b dL_law_604 (by decide) (fun hc => ?_) (fun hc => ?_)
    · have h := h.2 hc
      refine lv_goto (tgt := 2175) C.x C.b dL_law_619 (by decide) ?_
      refine lv_iinc (v := i + 5) (lv' := [(4, .int (i + 5)), (6, .int r4), (5, .int r1), (0, .ref b), (1, .ref (g 10 0)), (2, .ref (g 11 0)), (3, .ref (g 61 0))]) C.x C.b dL_law_2175 hl (k := 6) rfl rfl (by decide) rfl (fun ls hl => ?_)
      refine lv_goto (tgt := 23) C.x C.b dL_law_2178 (by decide) ?_
      refine W.widen (by omega) (by omega) (h p l e s m below meth c b D cA g A C _ _ G ls (lv_sub hl [3, 4, 5, 6, 0] rfl))
    · have h := h.1 hc
      refine lv_aload_n C.x C.b dL_law_607 rfl (lv_at hl 5 rfl) ?_
      refine lv_iconst (v := 0) C.x C.b dL_law_608 (by decide) ?_
      refine jr_lald C G (by unfold vp_in; decide) dL_law_609 ?_
      refine lv_iload C.x C.b dL_law_610 (lv_at hl 0 rfl) ?_
      refine lv_i2l C.x C.b dL_law_612 rfl ?_
      refine W.lcmp C.x C.b dL_law_613 ?_
      refine lv_if_eq (tgt := 619) C.x C.b dL_law_614 (by decide) (fun hc => ?_) (fun hc => ?_)
      · have h := h.1 hc
        refine lv_goto (tgt := 2175) C.x C.b dL_law_619 (by decide) ?_
        refine lv_iinc (v := i + 5) (lv' := [(4, .int (i + 5)), (6, .int r4), (5, .int r1), (0, .ref b), (1, .ref (g 10 0)), (2, .ref (g 11 0)), (3, .ref (g 61 0))]) C.x C.b dL_law_2175 hl (k := 6) rfl rfl (by decide) rfl (fun ls hl => ?_)
        refine lv_goto (tgt := 23) C.x C.b dL_law_2178 (by decide) ?_
        refine W.widen (by omega) (by omega) (h p l e s m below meth c b D cA g A C _ _ G ls (lv_sub hl [3, 4, 5, 6, 0] rfl))
      · have h := h.2 hc
        refine lv_iconst (v := 0) C.x C.b dL_law_617 (by decide) ?_
        exact h.elim
  · have h := h.2 hc
    refine lv_iconst (v := 0) C.x C.b dL_law_600 (by decide) ?_
    exact h.elim
set_option maxHeartbeats 4000000 in
set_option maxRecDepth 100000 in
theorem bl_L_622 {L : Nat} {xs : Nat → Int32} (k : Nat) (i : Int32) (M : jM) (hk : k ≤ 2000)
  (h : vp_in (i + 1) L ∧ vp_in (i + 2) L ∧ vp_in (i + 3) L ∧ ok_L_reference (xs (i + 1).toNatClampNeg) (xs (i + 2).toNatClampNeg) (xs (i + 3).toNatClampNeg) M (fun r1 _ M2 => vp_in (i + 1) L ∧ vp_in (i + 2) L ∧ vp_in (i + 3) L ∧ ok_X12_reference_ (xs (i + 1).toNatClampNeg) (xs (i + 2).toNatClampNeg) (xs (i + 3).toNatClampNeg) M2 (fun r4 _ M5 => ((M5 11 0 7) = r1 → (r1 = 0 → (lg_cmp (M5 61 0 (0 : Int32).toNatClampNeg).toInt64 r4.toInt64 = 0 → at_L_23 L xs (k + 1) (i + 5) M5) ∧ (¬ (lg_cmp (M5 61 0 (0 : Int32).toNatClampNeg).toInt64 r4.toInt64 = 0) → False)) ∧ (¬ (r1 = 0) → at_L_23 L xs (k + 1) (i + 5) M5)) ∧ (¬ ((M5 11 0 7) = r1) → False)))) :
  at_L_622 L xs k i M := by
  intro p l e s m below meth c b D cA g A C H locs G ls hl
  have hbA : ¬ jA s.heap.size b := Nat.not_le.mpr A.2.2.2.2.2.2.2.1
  refine lv_aload_n C.x C.b dL_law_622 rfl (lv_at hl 1 rfl) ?_
  refine lv_aload_n C.x C.b dL_law_623 rfl (lv_at hl 0 rfl) ?_
  refine lv_iload C.x C.b dL_law_624 (lv_at hl 4 rfl) ?_
  refine lv_iconst (v := 1) C.x C.b dL_law_626 (by decide) ?_
  refine lv_iadd C.x C.b dL_law_627 ?_
  obtain ⟨hs, h⟩ := h
  refine va_sld C.x C.b A.2.2.2.2.2.2.1 A.2.2.2.2.2.2.2.1 hbA G.2 hs dL_law_628 ?_
  refine lv_aload_n C.x C.b dL_law_629 rfl (lv_at hl 0 rfl) ?_
  refine lv_iload C.x C.b dL_law_630 (lv_at hl 4 rfl) ?_
  refine lv_iconst (v := 2) C.x C.b dL_law_632 (by decide) ?_
  refine lv_iadd C.x C.b dL_law_633 ?_
  obtain ⟨hs, h⟩ := h
  refine va_sld C.x C.b A.2.2.2.2.2.2.1 A.2.2.2.2.2.2.2.1 hbA G.2 hs dL_law_634 ?_
  refine lv_aload_n C.x C.b dL_law_635 rfl (lv_at hl 0 rfl) ?_
  refine lv_iload C.x C.b dL_law_636 (lv_at hl 4 rfl) ?_
  refine lv_iconst (v := 3) C.x C.b dL_law_638 (by decide) ?_
  refine lv_iadd C.x C.b dL_law_639 ?_
  obtain ⟨hs, h⟩ := h
  refine va_sld C.x C.b A.2.2.2.2.2.2.1 A.2.2.2.2.2.2.2.1 hbA G.2 hs dL_law_640 ?_
  refine lv_aload_n C.x C.b dL_law_641 rfl (lv_at hl 3 rfl) ?_
  refine jl_H (n := 5) C G wd832 wd833 wd72 wd834 ⟨by decide +kernel, by decide +kernel, by decide +kernel⟩ h rfl rfl rfl (by decide) (by decide) (by show _ ≤ 601024; omega) (by show _ ≤ 7293034; omega) hl.1 (Nat.le_of_ble_eq_true rfl) dL_law_642 (fun r1 r1n M2 H locs h G => ?_)
  refine lv_istore (lv' := [(5, .int r1), (0, .ref b), (1, .ref (g 10 0)), (2, .ref (g 11 0)), (3, .ref (g 61 0)), (4, .int i)]) C.x C.b dL_law_645 hl (by decide) rfl (fun ls hl => ?_)
  refine lv_aload_n C.x C.b dL_law_647 rfl (lv_at hl 3 rfl) ?_
  refine lv_aload_n C.x C.b dL_law_648 rfl (lv_at hl 1 rfl) ?_
  refine lv_iload C.x C.b dL_law_649 (lv_at hl 5 rfl) ?_
  refine lv_iconst (v := 1) C.x C.b dL_law_651 (by decide) ?_
  refine lv_iadd C.x C.b dL_law_652 ?_
  obtain ⟨hs, h⟩ := h
  refine va_sld C.x C.b A.2.2.2.2.2.2.1 A.2.2.2.2.2.2.2.1 hbA G.2 hs dL_law_653 ?_
  refine lv_aload_n C.x C.b dL_law_654 rfl (lv_at hl 1 rfl) ?_
  refine lv_iload C.x C.b dL_law_655 (lv_at hl 5 rfl) ?_
  refine lv_iconst (v := 2) C.x C.b dL_law_657 (by decide) ?_
  refine lv_iadd C.x C.b dL_law_658 ?_
  obtain ⟨hs, h⟩ := h
  refine va_sld C.x C.b A.2.2.2.2.2.2.1 A.2.2.2.2.2.2.2.1 hbA G.2 hs dL_law_659 ?_
  refine lv_aload_n C.x C.b dL_law_660 rfl (lv_at hl 1 rfl) ?_
  refine lv_iload C.x C.b dL_law_661 (lv_at hl 5 rfl) ?_
  refine lv_iconst (v := 3) C.x C.b dL_law_663 (by decide) ?_
  refine lv_iadd C.x C.b dL_law_664 ?_
  obtain ⟨hs, h⟩ := h
  refine va_sld C.x C.b A.2.2.2.2.2.2.1 A.2.2.2.2.2.2.2.1 hbA G.2 hs dL_law_665 ?_
  refine jl_V (rk := 1) C G jc11 jm_X12_reference_ wd1400 h rfl (show 0 < 1 by decide) (by decide) rfl rfl (by decide) (by decide) (by show _ ≤ 601024; omega) (by show _ ≤ 7293034; omega) hl.1 (Nat.le_of_ble_eq_true rfl) dL_law_666 (fun r4 r4n M5 H locs h G => ?_)
  refine lv_istore (lv' := [(6, .int r4), (5, .int r1), (0, .ref b), (1, .ref (g 10 0)), (2, .ref (g 11 0)), (3, .ref (g 61 0)), (4, .int i)]) C.x C.b dL_law_669 hl (by decide) rfl (fun ls hl => ?_)
  refine lv_aload_n C.x C.b dL_law_671 rfl (lv_at hl 4 rfl) ?_
  refine jl_V (rk := 1) C G jc11 jm_X12_thrown wd1285 (sp_X12_thrown ⟨rfl, rfl⟩ : ok_X12_thrown  M5 (fun r _ M' => (M5 11 0 7) = r ∧ M5 = M')) rfl (show 0 < 1 by decide) (by decide) rfl rfl (by decide) (by decide) (by show _ ≤ 601024; omega) (by show _ ≤ 7293034; omega) hl.1 (Nat.le_of_ble_eq_true rfl) dL_law_672 (fun r6 r6n M7 H locs hq G => ?_)
  obtain ⟨eq1, eq2⟩ := hq
  subst eq1
  subst eq2
  refine lv_iload C.x C.b dL_law_675 (lv_at hl 1 rfl) ?_
  refine lv_icmp_eq (tgt := 682) C.x C.b dL_law_677 (by decide) (fun hc => ?_) (fun hc => ?_)
  · have h := h.1 hc
    refine lv_iload C.x C.b dL_law_682 (lv_at hl 1 rfl) ?_
    refine lv_if_ne (tgt := 699) C.x C.b dL_law_684 (by decide) (fun hc => ?_) (fun hc => ?_)
    · have h := h.2 hc
      refine lv_goto (tgt := 2175) C.x C.b dL_law_699 (by decide) ?_
      refine lv_iinc (v := i + 5) (lv' := [(4, .int (i + 5)), (6, .int r4), (5, .int r1), (0, .ref b), (1, .ref (g 10 0)), (2, .ref (g 11 0)), (3, .ref (g 61 0))]) C.x C.b dL_law_2175 hl (k := 6) rfl rfl (by decide) rfl (fun ls hl => ?_)
      refine lv_goto (tgt := 23) C.x C.b dL_law_2178 (by decide) ?_
      refine W.widen (by omega) (by omega) (h p l e s m below meth c b D cA g A C _ _ G ls (lv_sub hl [3, 4, 5, 6, 0] rfl))
    · have h := h.1 hc
      refine lv_aload_n C.x C.b dL_law_687 rfl (lv_at hl 5 rfl) ?_
      refine lv_iconst (v := 0) C.x C.b dL_law_688 (by decide) ?_
      refine jr_lald C G (by unfold vp_in; decide) dL_law_689 ?_
      refine lv_iload C.x C.b dL_law_690 (lv_at hl 0 rfl) ?_
      refine lv_i2l C.x C.b dL_law_692 rfl ?_
      refine W.lcmp C.x C.b dL_law_693 ?_
      refine lv_if_eq (tgt := 699) C.x C.b dL_law_694 (by decide) (fun hc => ?_) (fun hc => ?_)
      · have h := h.1 hc
        refine lv_goto (tgt := 2175) C.x C.b dL_law_699 (by decide) ?_
        refine lv_iinc (v := i + 5) (lv' := [(4, .int (i + 5)), (6, .int r4), (5, .int r1), (0, .ref b), (1, .ref (g 10 0)), (2, .ref (g 11 0)), (3, .ref (g 61 0))]) C.x C.b dL_law_2175 hl (k := 6) rfl rfl (by decide) rfl (fun ls hl => ?_)
        refine lv_goto (tgt := 23) C.x C.b dL_law_2178 (by decide) ?_
        refine W.widen (by omega) (by omega) (h p l e s m below meth c b D cA g A C _ _ G ls (lv_sub hl [3, 4, 5, 6, 0] rfl))
      · have h := h.2 hc
        refine lv_iconst (v := 0) C.x C.b dL_law_697 (by decide) ?_
        exact h.elim
  · have h := h.2 hc
    refine lv_iconst (v := 0) C.x C.b dL_law_680 (by decide) ?_
    exact h.elim
set_option maxHeartbeats 4000000 in
set_option maxRecDepth 100000 in
theorem bl_L_702 {L : Nat} {xs : Nat → Int32} (k : Nat) (i : Int32) (M : jM) (hk : k ≤ 2000)
  (h : vp_in (i + 1) L ∧ vp_in (i + 2) L ∧ vp_in (i + 3) L ∧ ok_L_operators (xs (i + 1).toNatClampNeg) (xs (i + 2).toNatClampNeg) (xs (i + 3).toNatClampNeg) M (fun r1 _ M2 => vp_in (i + 1) L ∧ vp_in (i + 2) L ∧ vp_in (i + 3) L ∧ ok_X12_operators (xs (i + 1).toNatClampNeg) (xs (i + 2).toNatClampNeg) (xs (i + 3).toNatClampNeg) M2 (fun r4 _ M5 => ((M5 11 0 7) = r1 → (r1 = 0 → (lg_cmp (M5 61 0 (0 : Int32).toNatClampNeg).toInt64 r4.toInt64 = 0 → at_L_23 L xs (k + 1) (i + 5) M5) ∧ (¬ (lg_cmp (M5 61 0 (0 : Int32).toNatClampNeg).toInt64 r4.toInt64 = 0) → False)) ∧ (¬ (r1 = 0) → at_L_23 L xs (k + 1) (i + 5) M5)) ∧ (¬ ((M5 11 0 7) = r1) → False)))) :
  at_L_702 L xs k i M := by
  intro p l e s m below meth c b D cA g A C H locs G ls hl
  have hbA : ¬ jA s.heap.size b := Nat.not_le.mpr A.2.2.2.2.2.2.2.1
  refine lv_aload_n C.x C.b dL_law_702 rfl (lv_at hl 1 rfl) ?_
  refine lv_aload_n C.x C.b dL_law_703 rfl (lv_at hl 0 rfl) ?_
  refine lv_iload C.x C.b dL_law_704 (lv_at hl 4 rfl) ?_
  refine lv_iconst (v := 1) C.x C.b dL_law_706 (by decide) ?_
  refine lv_iadd C.x C.b dL_law_707 ?_
  obtain ⟨hs, h⟩ := h
  refine va_sld C.x C.b A.2.2.2.2.2.2.1 A.2.2.2.2.2.2.2.1 hbA G.2 hs dL_law_708 ?_
  refine lv_aload_n C.x C.b dL_law_709 rfl (lv_at hl 0 rfl) ?_
  refine lv_iload C.x C.b dL_law_710 (lv_at hl 4 rfl) ?_
  refine lv_iconst (v := 2) C.x C.b dL_law_712 (by decide) ?_
  refine lv_iadd C.x C.b dL_law_713 ?_
  obtain ⟨hs, h⟩ := h
  refine va_sld C.x C.b A.2.2.2.2.2.2.1 A.2.2.2.2.2.2.2.1 hbA G.2 hs dL_law_714 ?_
  refine lv_aload_n C.x C.b dL_law_715 rfl (lv_at hl 0 rfl) ?_
  refine lv_iload C.x C.b dL_law_716 (lv_at hl 4 rfl) ?_
  refine lv_iconst (v := 3) C.x C.b dL_law_718 (by decide) ?_
  refine lv_iadd C.x C.b dL_law_719 ?_
  obtain ⟨hs, h⟩ := h
  refine va_sld C.x C.b A.2.2.2.2.2.2.1 A.2.2.2.2.2.2.2.1 hbA G.2 hs dL_law_720 ?_
  refine lv_aload_n C.x C.b dL_law_721 rfl (lv_at hl 3 rfl) ?_
  refine jl_H (n := 5) C G wd845 wd846 wd72 wd847 ⟨by decide +kernel, by decide +kernel, by decide +kernel⟩ h rfl rfl rfl (by decide) (by decide) (by show _ ≤ 601024; omega) (by show _ ≤ 7293034; omega) hl.1 (Nat.le_of_ble_eq_true rfl) dL_law_722 (fun r1 r1n M2 H locs h G => ?_)
  refine lv_istore (lv' := [(5, .int r1), (0, .ref b), (1, .ref (g 10 0)), (2, .ref (g 11 0)), (3, .ref (g 61 0)), (4, .int i)]) C.x C.b dL_law_725 hl (by decide) rfl (fun ls hl => ?_)
  refine lv_aload_n C.x C.b dL_law_727 rfl (lv_at hl 3 rfl) ?_
  refine lv_aload_n C.x C.b dL_law_728 rfl (lv_at hl 1 rfl) ?_
  refine lv_iload C.x C.b dL_law_729 (lv_at hl 5 rfl) ?_
  refine lv_iconst (v := 1) C.x C.b dL_law_731 (by decide) ?_
  refine lv_iadd C.x C.b dL_law_732 ?_
  obtain ⟨hs, h⟩ := h
  refine va_sld C.x C.b A.2.2.2.2.2.2.1 A.2.2.2.2.2.2.2.1 hbA G.2 hs dL_law_733 ?_
  refine lv_aload_n C.x C.b dL_law_734 rfl (lv_at hl 1 rfl) ?_
  refine lv_iload C.x C.b dL_law_735 (lv_at hl 5 rfl) ?_
  refine lv_iconst (v := 2) C.x C.b dL_law_737 (by decide) ?_
  refine lv_iadd C.x C.b dL_law_738 ?_
  obtain ⟨hs, h⟩ := h
  refine va_sld C.x C.b A.2.2.2.2.2.2.1 A.2.2.2.2.2.2.2.1 hbA G.2 hs dL_law_739 ?_
  refine lv_aload_n C.x C.b dL_law_740 rfl (lv_at hl 1 rfl) ?_
  refine lv_iload C.x C.b dL_law_741 (lv_at hl 5 rfl) ?_
  refine lv_iconst (v := 3) C.x C.b dL_law_743 (by decide) ?_
  refine lv_iadd C.x C.b dL_law_744 ?_
  obtain ⟨hs, h⟩ := h
  refine va_sld C.x C.b A.2.2.2.2.2.2.1 A.2.2.2.2.2.2.2.1 hbA G.2 hs dL_law_745 ?_
  refine jl_V (rk := 1) C G jc11 jm_X12_operators wd1404 h rfl (show 0 < 1 by decide) (by decide) rfl rfl (by decide) (by decide) (by show _ ≤ 601024; omega) (by show _ ≤ 7293034; omega) hl.1 (Nat.le_of_ble_eq_true rfl) dL_law_746 (fun r4 r4n M5 H locs h G => ?_)
  refine lv_istore (lv' := [(6, .int r4), (5, .int r1), (0, .ref b), (1, .ref (g 10 0)), (2, .ref (g 11 0)), (3, .ref (g 61 0)), (4, .int i)]) C.x C.b dL_law_749 hl (by decide) rfl (fun ls hl => ?_)
  refine lv_aload_n C.x C.b dL_law_751 rfl (lv_at hl 4 rfl) ?_
  refine jl_V (rk := 1) C G jc11 jm_X12_thrown wd1285 (sp_X12_thrown ⟨rfl, rfl⟩ : ok_X12_thrown  M5 (fun r _ M' => (M5 11 0 7) = r ∧ M5 = M')) rfl (show 0 < 1 by decide) (by decide) rfl rfl (by decide) (by decide) (by show _ ≤ 601024; omega) (by show _ ≤ 7293034; omega) hl.1 (Nat.le_of_ble_eq_true rfl) dL_law_752 (fun r6 r6n M7 H locs hq G => ?_)
  obtain ⟨eq1, eq2⟩ := hq
  subst eq1
  subst eq2
  refine lv_iload C.x C.b dL_law_755 (lv_at hl 1 rfl) ?_
  refine lv_icmp_eq (tgt := 762) C.x C.b dL_law_757 (by decide) (fun hc => ?_) (fun hc => ?_)
  · have h := h.1 hc
    refine lv_iload C.x C.b dL_law_762 (lv_at hl 1 rfl) ?_
    refine lv_if_ne (tgt := 779) C.x C.b dL_law_764 (by decide) (fun hc => ?_) (fun hc => ?_)
    · have h := h.2 hc
      refine lv_goto (tgt := 2175) C.x C.b dL_law_779 (by decide) ?_
      refine lv_iinc (v := i + 5) (lv' := [(4, .int (i + 5)), (6, .int r4), (5, .int r1), (0, .ref b), (1, .ref (g 10 0)), (2, .ref (g 11 0)), (3, .ref (g 61 0))]) C.x C.b dL_law_2175 hl (k := 6) rfl rfl (by decide) rfl (fun ls hl => ?_)
      refine lv_goto (tgt := 23) C.x C.b dL_law_2178 (by decide) ?_
      refine W.widen (by omega) (by omega) (h p l e s m below meth c b D cA g A C _ _ G ls (lv_sub hl [3, 4, 5, 6, 0] rfl))
    · have h := h.1 hc
      refine lv_aload_n C.x C.b dL_law_767 rfl (lv_at hl 5 rfl) ?_
      refine lv_iconst (v := 0) C.x C.b dL_law_768 (by decide) ?_
      refine jr_lald C G (by unfold vp_in; decide) dL_law_769 ?_
      refine lv_iload C.x C.b dL_law_770 (lv_at hl 0 rfl) ?_
      refine lv_i2l C.x C.b dL_law_772 rfl ?_
      refine W.lcmp C.x C.b dL_law_773 ?_
      refine lv_if_eq (tgt := 779) C.x C.b dL_law_774 (by decide) (fun hc => ?_) (fun hc => ?_)
      · have h := h.1 hc
        refine lv_goto (tgt := 2175) C.x C.b dL_law_779 (by decide) ?_
        refine lv_iinc (v := i + 5) (lv' := [(4, .int (i + 5)), (6, .int r4), (5, .int r1), (0, .ref b), (1, .ref (g 10 0)), (2, .ref (g 11 0)), (3, .ref (g 61 0))]) C.x C.b dL_law_2175 hl (k := 6) rfl rfl (by decide) rfl (fun ls hl => ?_)
        refine lv_goto (tgt := 23) C.x C.b dL_law_2178 (by decide) ?_
        refine W.widen (by omega) (by omega) (h p l e s m below meth c b D cA g A C _ _ G ls (lv_sub hl [3, 4, 5, 6, 0] rfl))
      · have h := h.2 hc
        refine lv_iconst (v := 0) C.x C.b dL_law_777 (by decide) ?_
        exact h.elim
  · have h := h.2 hc
    refine lv_iconst (v := 0) C.x C.b dL_law_760 (by decide) ?_
    exact h.elim
set_option maxHeartbeats 4000000 in
set_option maxRecDepth 100000 in
theorem bl_L_782 {L : Nat} {xs : Nat → Int32} (k : Nat) (i : Int32) (M : jM) (hk : k ≤ 2000)
  (h : vp_in (i + 1) L ∧ vp_in (i + 2) L ∧ ok_L_height (xs (i + 1).toNatClampNeg) (xs (i + 2).toNatClampNeg) M (fun r1 _ M2 => vp_in (i + 1) L ∧ vp_in (i + 2) L ∧ ok_X12_height (xs (i + 1).toNatClampNeg) (xs (i + 2).toNatClampNeg) M2 (fun r4 _ M5 => ((M5 11 0 7) = r1 → (r1 = 0 → (lg_cmp (M5 61 0 (0 : Int32).toNatClampNeg).toInt64 r4.toInt64 = 0 → at_L_23 L xs (k + 1) (i + 5) M5) ∧ (¬ (lg_cmp (M5 61 0 (0 : Int32).toNatClampNeg).toInt64 r4.toInt64 = 0) → False)) ∧ (¬ (r1 = 0) → at_L_23 L xs (k + 1) (i + 5) M5)) ∧ (¬ ((M5 11 0 7) = r1) → False)))) :
  at_L_782 L xs k i M := by
  intro p l e s m below meth c b D cA g A C H locs G ls hl
  have hbA : ¬ jA s.heap.size b := Nat.not_le.mpr A.2.2.2.2.2.2.2.1
  refine lv_aload_n C.x C.b dL_law_782 rfl (lv_at hl 1 rfl) ?_
  refine lv_aload_n C.x C.b dL_law_783 rfl (lv_at hl 0 rfl) ?_
  refine lv_iload C.x C.b dL_law_784 (lv_at hl 4 rfl) ?_
  refine lv_iconst (v := 1) C.x C.b dL_law_786 (by decide) ?_
  refine lv_iadd C.x C.b dL_law_787 ?_
  obtain ⟨hs, h⟩ := h
  refine va_sld C.x C.b A.2.2.2.2.2.2.1 A.2.2.2.2.2.2.2.1 hbA G.2 hs dL_law_788 ?_
  refine lv_aload_n C.x C.b dL_law_789 rfl (lv_at hl 0 rfl) ?_
  refine lv_iload C.x C.b dL_law_790 (lv_at hl 4 rfl) ?_
  refine lv_iconst (v := 2) C.x C.b dL_law_792 (by decide) ?_
  refine lv_iadd C.x C.b dL_law_793 ?_
  obtain ⟨hs, h⟩ := h
  refine va_sld C.x C.b A.2.2.2.2.2.2.1 A.2.2.2.2.2.2.2.1 hbA G.2 hs dL_law_794 ?_
  refine lv_aload_n C.x C.b dL_law_795 rfl (lv_at hl 3 rfl) ?_
  refine jl_H (n := 4) C G wd862 wd863 wd72 wd864 ⟨by decide +kernel, by decide +kernel, by decide +kernel⟩ h rfl rfl rfl (by decide) (by decide) (by show _ ≤ 601024; omega) (by show _ ≤ 7293034; omega) hl.1 (Nat.le_of_ble_eq_true rfl) dL_law_796 (fun r1 r1n M2 H locs h G => ?_)
  refine lv_istore (lv' := [(5, .int r1), (0, .ref b), (1, .ref (g 10 0)), (2, .ref (g 11 0)), (3, .ref (g 61 0)), (4, .int i)]) C.x C.b dL_law_799 hl (by decide) rfl (fun ls hl => ?_)
  refine lv_aload_n C.x C.b dL_law_801 rfl (lv_at hl 3 rfl) ?_
  refine lv_aload_n C.x C.b dL_law_802 rfl (lv_at hl 1 rfl) ?_
  refine lv_iload C.x C.b dL_law_803 (lv_at hl 5 rfl) ?_
  refine lv_iconst (v := 1) C.x C.b dL_law_805 (by decide) ?_
  refine lv_iadd C.x C.b dL_law_806 ?_
  obtain ⟨hs, h⟩ := h
  refine va_sld C.x C.b A.2.2.2.2.2.2.1 A.2.2.2.2.2.2.2.1 hbA G.2 hs dL_law_807 ?_
  refine lv_aload_n C.x C.b dL_law_808 rfl (lv_at hl 1 rfl) ?_
  refine lv_iload C.x C.b dL_law_809 (lv_at hl 5 rfl) ?_
  refine lv_iconst (v := 2) C.x C.b dL_law_811 (by decide) ?_
  refine lv_iadd C.x C.b dL_law_812 ?_
  obtain ⟨hs, h⟩ := h
  refine va_sld C.x C.b A.2.2.2.2.2.2.1 A.2.2.2.2.2.2.2.1 hbA G.2 hs dL_law_813 ?_
  refine jl_V (rk := 1) C G jc11 jm_X12_height wd1416 h rfl (show 0 < 1 by decide) (by decide) rfl rfl (by decide) (by decide) (by show _ ≤ 601024; omega) (by show _ ≤ 7293034; omega) hl.1 (Nat.le_of_ble_eq_true rfl) dL_law_814 (fun r4 r4n M5 H locs h G => ?_)
  refine lv_istore (lv' := [(6, .int r4), (5, .int r1), (0, .ref b), (1, .ref (g 10 0)), (2, .ref (g 11 0)), (3, .ref (g 61 0)), (4, .int i)]) C.x C.b dL_law_817 hl (by decide) rfl (fun ls hl => ?_)
  refine lv_aload_n C.x C.b dL_law_819 rfl (lv_at hl 4 rfl) ?_
  refine jl_V (rk := 1) C G jc11 jm_X12_thrown wd1285 (sp_X12_thrown ⟨rfl, rfl⟩ : ok_X12_thrown  M5 (fun r _ M' => (M5 11 0 7) = r ∧ M5 = M')) rfl (show 0 < 1 by decide) (by decide) rfl rfl (by decide) (by decide) (by show _ ≤ 601024; omega) (by show _ ≤ 7293034; omega) hl.1 (Nat.le_of_ble_eq_true rfl) dL_law_820 (fun r6 r6n M7 H locs hq G => ?_)
  obtain ⟨eq1, eq2⟩ := hq
  subst eq1
  subst eq2
  refine lv_iload C.x C.b dL_law_823 (lv_at hl 1 rfl) ?_
  refine lv_icmp_eq (tgt := 830) C.x C.b dL_law_825 (by decide) (fun hc => ?_) (fun hc => ?_)
  · have h := h.1 hc
    refine lv_iload C.x C.b dL_law_830 (lv_at hl 1 rfl) ?_
    refine lv_if_ne (tgt := 847) C.x C.b dL_law_832 (by decide) (fun hc => ?_) (fun hc => ?_)
    · have h := h.2 hc
      refine lv_goto (tgt := 2175) C.x C.b dL_law_847 (by decide) ?_
      refine lv_iinc (v := i + 5) (lv' := [(4, .int (i + 5)), (6, .int r4), (5, .int r1), (0, .ref b), (1, .ref (g 10 0)), (2, .ref (g 11 0)), (3, .ref (g 61 0))]) C.x C.b dL_law_2175 hl (k := 6) rfl rfl (by decide) rfl (fun ls hl => ?_)
      refine lv_goto (tgt := 23) C.x C.b dL_law_2178 (by decide) ?_
      refine W.widen (by omega) (by omega) (h p l e s m below meth c b D cA g A C _ _ G ls (lv_sub hl [3, 4, 5, 6, 0] rfl))
    · have h := h.1 hc
      refine lv_aload_n C.x C.b dL_law_835 rfl (lv_at hl 5 rfl) ?_
      refine lv_iconst (v := 0) C.x C.b dL_law_836 (by decide) ?_
      refine jr_lald C G (by unfold vp_in; decide) dL_law_837 ?_
      refine lv_iload C.x C.b dL_law_838 (lv_at hl 0 rfl) ?_
      refine lv_i2l C.x C.b dL_law_840 rfl ?_
      refine W.lcmp C.x C.b dL_law_841 ?_
      refine lv_if_eq (tgt := 847) C.x C.b dL_law_842 (by decide) (fun hc => ?_) (fun hc => ?_)
      · have h := h.1 hc
        refine lv_goto (tgt := 2175) C.x C.b dL_law_847 (by decide) ?_
        refine lv_iinc (v := i + 5) (lv' := [(4, .int (i + 5)), (6, .int r4), (5, .int r1), (0, .ref b), (1, .ref (g 10 0)), (2, .ref (g 11 0)), (3, .ref (g 61 0))]) C.x C.b dL_law_2175 hl (k := 6) rfl rfl (by decide) rfl (fun ls hl => ?_)
        refine lv_goto (tgt := 23) C.x C.b dL_law_2178 (by decide) ?_
        refine W.widen (by omega) (by omega) (h p l e s m below meth c b D cA g A C _ _ G ls (lv_sub hl [3, 4, 5, 6, 0] rfl))
      · have h := h.2 hc
        refine lv_iconst (v := 0) C.x C.b dL_law_845 (by decide) ?_
        exact h.elim
  · have h := h.2 hc
    refine lv_iconst (v := 0) C.x C.b dL_law_828 (by decide) ?_
    exact h.elim
set_option maxHeartbeats 4000000 in
set_option maxRecDepth 100000 in
theorem bl_L_850 {L : Nat} {xs : Nat → Int32} (k : Nat) (i : Int32) (M : jM) (hk : k ≤ 2000)
  (h : vp_in (i + 1) L ∧ vp_in (i + 2) L ∧ vp_in (i + 3) L ∧ ok_L_value (xs (i + 1).toNatClampNeg) (xs (i + 2).toNatClampNeg) (xs (i + 3).toNatClampNeg) M (fun r1 _ M2 => vp_in (i + 1) L ∧ vp_in (i + 2) L ∧ vp_in (i + 3) L ∧ ok_X12_value (xs (i + 1).toNatClampNeg) (xs (i + 2).toNatClampNeg) (xs (i + 3).toNatClampNeg) M2 (fun r4 _ M5 => ((M5 11 0 7) = r1 → (r1 = 0 → (lg_cmp (M5 61 0 (0 : Int32).toNatClampNeg).toInt64 r4.toInt64 = 0 → at_L_23 L xs (k + 1) (i + 5) M5) ∧ (¬ (lg_cmp (M5 61 0 (0 : Int32).toNatClampNeg).toInt64 r4.toInt64 = 0) → False)) ∧ (¬ (r1 = 0) → at_L_23 L xs (k + 1) (i + 5) M5)) ∧ (¬ ((M5 11 0 7) = r1) → False)))) :
  at_L_850 L xs k i M := by
  intro p l e s m below meth c b D cA g A C H locs G ls hl
  have hbA : ¬ jA s.heap.size b := Nat.not_le.mpr A.2.2.2.2.2.2.2.1
  refine lv_aload_n C.x C.b dL_law_850 rfl (lv_at hl 1 rfl) ?_
  refine lv_aload_n C.x C.b dL_law_851 rfl (lv_at hl 0 rfl) ?_
  refine lv_iload C.x C.b dL_law_852 (lv_at hl 4 rfl) ?_
  refine lv_iconst (v := 1) C.x C.b dL_law_854 (by decide) ?_
  refine lv_iadd C.x C.b dL_law_855 ?_
  obtain ⟨hs, h⟩ := h
  refine va_sld C.x C.b A.2.2.2.2.2.2.1 A.2.2.2.2.2.2.2.1 hbA G.2 hs dL_law_856 ?_
  refine lv_aload_n C.x C.b dL_law_857 rfl (lv_at hl 0 rfl) ?_
  refine lv_iload C.x C.b dL_law_858 (lv_at hl 4 rfl) ?_
  refine lv_iconst (v := 2) C.x C.b dL_law_860 (by decide) ?_
  refine lv_iadd C.x C.b dL_law_861 ?_
  obtain ⟨hs, h⟩ := h
  refine va_sld C.x C.b A.2.2.2.2.2.2.1 A.2.2.2.2.2.2.2.1 hbA G.2 hs dL_law_862 ?_
  refine lv_aload_n C.x C.b dL_law_863 rfl (lv_at hl 0 rfl) ?_
  refine lv_iload C.x C.b dL_law_864 (lv_at hl 4 rfl) ?_
  refine lv_iconst (v := 3) C.x C.b dL_law_866 (by decide) ?_
  refine lv_iadd C.x C.b dL_law_867 ?_
  obtain ⟨hs, h⟩ := h
  refine va_sld C.x C.b A.2.2.2.2.2.2.1 A.2.2.2.2.2.2.2.1 hbA G.2 hs dL_law_868 ?_
  refine lv_aload_n C.x C.b dL_law_869 rfl (lv_at hl 3 rfl) ?_
  refine jl_H (n := 5) C G wd869 wd870 wd72 wd871 ⟨by decide +kernel, by decide +kernel, by decide +kernel⟩ h rfl rfl rfl (by decide) (by decide) (by show _ ≤ 601024; omega) (by show _ ≤ 7293034; omega) hl.1 (Nat.le_of_ble_eq_true rfl) dL_law_870 (fun r1 r1n M2 H locs h G => ?_)
  refine lv_istore (lv' := [(5, .int r1), (0, .ref b), (1, .ref (g 10 0)), (2, .ref (g 11 0)), (3, .ref (g 61 0)), (4, .int i)]) C.x C.b dL_law_873 hl (by decide) rfl (fun ls hl => ?_)
  refine lv_aload_n C.x C.b dL_law_875 rfl (lv_at hl 3 rfl) ?_
  refine lv_aload_n C.x C.b dL_law_876 rfl (lv_at hl 1 rfl) ?_
  refine lv_iload C.x C.b dL_law_877 (lv_at hl 5 rfl) ?_
  refine lv_iconst (v := 1) C.x C.b dL_law_879 (by decide) ?_
  refine lv_iadd C.x C.b dL_law_880 ?_
  obtain ⟨hs, h⟩ := h
  refine va_sld C.x C.b A.2.2.2.2.2.2.1 A.2.2.2.2.2.2.2.1 hbA G.2 hs dL_law_881 ?_
  refine lv_aload_n C.x C.b dL_law_882 rfl (lv_at hl 1 rfl) ?_
  refine lv_iload C.x C.b dL_law_883 (lv_at hl 5 rfl) ?_
  refine lv_iconst (v := 2) C.x C.b dL_law_885 (by decide) ?_
  refine lv_iadd C.x C.b dL_law_886 ?_
  obtain ⟨hs, h⟩ := h
  refine va_sld C.x C.b A.2.2.2.2.2.2.1 A.2.2.2.2.2.2.2.1 hbA G.2 hs dL_law_887 ?_
  refine lv_aload_n C.x C.b dL_law_888 rfl (lv_at hl 1 rfl) ?_
  refine lv_iload C.x C.b dL_law_889 (lv_at hl 5 rfl) ?_
  refine lv_iconst (v := 3) C.x C.b dL_law_891 (by decide) ?_
  refine lv_iadd C.x C.b dL_law_892 ?_
  obtain ⟨hs, h⟩ := h
  refine va_sld C.x C.b A.2.2.2.2.2.2.1 A.2.2.2.2.2.2.2.1 hbA G.2 hs dL_law_893 ?_
  refine jl_V (rk := 1) C G jc11 jm_X12_value wd1421 h rfl (show 0 < 1 by decide) (by decide) rfl rfl (by decide) (by decide) (by show _ ≤ 601024; omega) (by show _ ≤ 7293034; omega) hl.1 (Nat.le_of_ble_eq_true rfl) dL_law_894 (fun r4 r4n M5 H locs h G => ?_)
  refine lv_istore (lv' := [(6, .int r4), (5, .int r1), (0, .ref b), (1, .ref (g 10 0)), (2, .ref (g 11 0)), (3, .ref (g 61 0)), (4, .int i)]) C.x C.b dL_law_897 hl (by decide) rfl (fun ls hl => ?_)
  refine lv_aload_n C.x C.b dL_law_899 rfl (lv_at hl 4 rfl) ?_
  refine jl_V (rk := 1) C G jc11 jm_X12_thrown wd1285 (sp_X12_thrown ⟨rfl, rfl⟩ : ok_X12_thrown  M5 (fun r _ M' => (M5 11 0 7) = r ∧ M5 = M')) rfl (show 0 < 1 by decide) (by decide) rfl rfl (by decide) (by decide) (by show _ ≤ 601024; omega) (by show _ ≤ 7293034; omega) hl.1 (Nat.le_of_ble_eq_true rfl) dL_law_900 (fun r6 r6n M7 H locs hq G => ?_)
  obtain ⟨eq1, eq2⟩ := hq
  subst eq1
  subst eq2
  refine lv_iload C.x C.b dL_law_903 (lv_at hl 1 rfl) ?_
  refine lv_icmp_eq (tgt := 910) C.x C.b dL_law_905 (by decide) (fun hc => ?_) (fun hc => ?_)
  · have h := h.1 hc
    refine lv_iload C.x C.b dL_law_910 (lv_at hl 1 rfl) ?_
    refine lv_if_ne (tgt := 927) C.x C.b dL_law_912 (by decide) (fun hc => ?_) (fun hc => ?_)
    · have h := h.2 hc
      refine lv_goto (tgt := 2175) C.x C.b dL_law_927 (by decide) ?_
      refine lv_iinc (v := i + 5) (lv' := [(4, .int (i + 5)), (6, .int r4), (5, .int r1), (0, .ref b), (1, .ref (g 10 0)), (2, .ref (g 11 0)), (3, .ref (g 61 0))]) C.x C.b dL_law_2175 hl (k := 6) rfl rfl (by decide) rfl (fun ls hl => ?_)
      refine lv_goto (tgt := 23) C.x C.b dL_law_2178 (by decide) ?_
      refine W.widen (by omega) (by omega) (h p l e s m below meth c b D cA g A C _ _ G ls (lv_sub hl [3, 4, 5, 6, 0] rfl))
    · have h := h.1 hc
      refine lv_aload_n C.x C.b dL_law_915 rfl (lv_at hl 5 rfl) ?_
      refine lv_iconst (v := 0) C.x C.b dL_law_916 (by decide) ?_
      refine jr_lald C G (by unfold vp_in; decide) dL_law_917 ?_
      refine lv_iload C.x C.b dL_law_918 (lv_at hl 0 rfl) ?_
      refine lv_i2l C.x C.b dL_law_920 rfl ?_
      refine W.lcmp C.x C.b dL_law_921 ?_
      refine lv_if_eq (tgt := 927) C.x C.b dL_law_922 (by decide) (fun hc => ?_) (fun hc => ?_)
      · have h := h.1 hc
        refine lv_goto (tgt := 2175) C.x C.b dL_law_927 (by decide) ?_
        refine lv_iinc (v := i + 5) (lv' := [(4, .int (i + 5)), (6, .int r4), (5, .int r1), (0, .ref b), (1, .ref (g 10 0)), (2, .ref (g 11 0)), (3, .ref (g 61 0))]) C.x C.b dL_law_2175 hl (k := 6) rfl rfl (by decide) rfl (fun ls hl => ?_)
        refine lv_goto (tgt := 23) C.x C.b dL_law_2178 (by decide) ?_
        refine W.widen (by omega) (by omega) (h p l e s m below meth c b D cA g A C _ _ G ls (lv_sub hl [3, 4, 5, 6, 0] rfl))
      · have h := h.2 hc
        refine lv_iconst (v := 0) C.x C.b dL_law_925 (by decide) ?_
        exact h.elim
  · have h := h.2 hc
    refine lv_iconst (v := 0) C.x C.b dL_law_908 (by decide) ?_
    exact h.elim
set_option maxHeartbeats 4000000 in
set_option maxRecDepth 100000 in
theorem bl_L_930 {L : Nat} {xs : Nat → Int32} (k : Nat) (i : Int32) (M : jM) (hk : k ≤ 2000)
  (h : vp_in (i + 1) L ∧ vp_in (i + 2) L ∧ ok_L_setOption (xs (i + 1).toNatClampNeg) (xs (i + 2).toNatClampNeg) M (fun r1 _ M2 => vp_in (i + 1) L ∧ vp_in (i + 2) L ∧ ok_X12_setOption (xs (i + 1).toNatClampNeg) (xs (i + 2).toNatClampNeg) M2 (fun r4 _ M5 => ((M5 11 0 7) = r1 → (r1 = 0 → (lg_cmp (M5 61 0 (0 : Int32).toNatClampNeg).toInt64 r4.toInt64 = 0 → at_L_23 L xs (k + 1) (i + 5) M5) ∧ (¬ (lg_cmp (M5 61 0 (0 : Int32).toNatClampNeg).toInt64 r4.toInt64 = 0) → False)) ∧ (¬ (r1 = 0) → at_L_23 L xs (k + 1) (i + 5) M5)) ∧ (¬ ((M5 11 0 7) = r1) → False)))) :
  at_L_930 L xs k i M := by
  intro p l e s m below meth c b D cA g A C H locs G ls hl
  have hbA : ¬ jA s.heap.size b := Nat.not_le.mpr A.2.2.2.2.2.2.2.1
  refine lv_aload_n C.x C.b dL_law_930 rfl (lv_at hl 1 rfl) ?_
  refine lv_aload_n C.x C.b dL_law_931 rfl (lv_at hl 0 rfl) ?_
  refine lv_iload C.x C.b dL_law_932 (lv_at hl 4 rfl) ?_
  refine lv_iconst (v := 1) C.x C.b dL_law_934 (by decide) ?_
  refine lv_iadd C.x C.b dL_law_935 ?_
  obtain ⟨hs, h⟩ := h
  refine va_sld C.x C.b A.2.2.2.2.2.2.1 A.2.2.2.2.2.2.2.1 hbA G.2 hs dL_law_936 ?_
  refine lv_aload_n C.x C.b dL_law_937 rfl (lv_at hl 0 rfl) ?_
  refine lv_iload C.x C.b dL_law_938 (lv_at hl 4 rfl) ?_
  refine lv_iconst (v := 2) C.x C.b dL_law_940 (by decide) ?_
  refine lv_iadd C.x C.b dL_law_941 ?_
  obtain ⟨hs, h⟩ := h
  refine va_sld C.x C.b A.2.2.2.2.2.2.1 A.2.2.2.2.2.2.2.1 hbA G.2 hs dL_law_942 ?_
  refine lv_aload_n C.x C.b dL_law_943 rfl (lv_at hl 3 rfl) ?_
  refine jl_H (n := 4) C G wd900 wd901 wd72 wd902 ⟨by decide +kernel, by decide +kernel, by decide +kernel⟩ h rfl rfl rfl (by decide) (by decide) (by show _ ≤ 601024; omega) (by show _ ≤ 7293034; omega) hl.1 (Nat.le_of_ble_eq_true rfl) dL_law_944 (fun r1 r1n M2 H locs h G => ?_)
  refine lv_istore (lv' := [(5, .int r1), (0, .ref b), (1, .ref (g 10 0)), (2, .ref (g 11 0)), (3, .ref (g 61 0)), (4, .int i)]) C.x C.b dL_law_947 hl (by decide) rfl (fun ls hl => ?_)
  refine lv_aload_n C.x C.b dL_law_949 rfl (lv_at hl 3 rfl) ?_
  refine lv_aload_n C.x C.b dL_law_950 rfl (lv_at hl 1 rfl) ?_
  refine lv_iload C.x C.b dL_law_951 (lv_at hl 5 rfl) ?_
  refine lv_iconst (v := 1) C.x C.b dL_law_953 (by decide) ?_
  refine lv_iadd C.x C.b dL_law_954 ?_
  obtain ⟨hs, h⟩ := h
  refine va_sld C.x C.b A.2.2.2.2.2.2.1 A.2.2.2.2.2.2.2.1 hbA G.2 hs dL_law_955 ?_
  refine lv_aload_n C.x C.b dL_law_956 rfl (lv_at hl 1 rfl) ?_
  refine lv_iload C.x C.b dL_law_957 (lv_at hl 5 rfl) ?_
  refine lv_iconst (v := 2) C.x C.b dL_law_959 (by decide) ?_
  refine lv_iadd C.x C.b dL_law_960 ?_
  obtain ⟨hs, h⟩ := h
  refine va_sld C.x C.b A.2.2.2.2.2.2.1 A.2.2.2.2.2.2.2.1 hbA G.2 hs dL_law_961 ?_
  refine jl_V (rk := 1) C G jc11 jm_X12_setOption wd1453 h rfl (show 0 < 1 by decide) (by decide) rfl rfl (by decide) (by decide) (by show _ ≤ 601024; omega) (by show _ ≤ 7293034; omega) hl.1 (Nat.le_of_ble_eq_true rfl) dL_law_962 (fun r4 r4n M5 H locs h G => ?_)
  refine lv_istore (lv' := [(6, .int r4), (5, .int r1), (0, .ref b), (1, .ref (g 10 0)), (2, .ref (g 11 0)), (3, .ref (g 61 0)), (4, .int i)]) C.x C.b dL_law_965 hl (by decide) rfl (fun ls hl => ?_)
  refine lv_aload_n C.x C.b dL_law_967 rfl (lv_at hl 4 rfl) ?_
  refine jl_V (rk := 1) C G jc11 jm_X12_thrown wd1285 (sp_X12_thrown ⟨rfl, rfl⟩ : ok_X12_thrown  M5 (fun r _ M' => (M5 11 0 7) = r ∧ M5 = M')) rfl (show 0 < 1 by decide) (by decide) rfl rfl (by decide) (by decide) (by show _ ≤ 601024; omega) (by show _ ≤ 7293034; omega) hl.1 (Nat.le_of_ble_eq_true rfl) dL_law_968 (fun r6 r6n M7 H locs hq G => ?_)
  obtain ⟨eq1, eq2⟩ := hq
  subst eq1
  subst eq2
  refine lv_iload C.x C.b dL_law_971 (lv_at hl 1 rfl) ?_
  refine lv_icmp_eq (tgt := 978) C.x C.b dL_law_973 (by decide) (fun hc => ?_) (fun hc => ?_)
  · have h := h.1 hc
    refine lv_iload C.x C.b dL_law_978 (lv_at hl 1 rfl) ?_
    refine lv_if_ne (tgt := 995) C.x C.b dL_law_980 (by decide) (fun hc => ?_) (fun hc => ?_)
    · have h := h.2 hc
      refine lv_goto (tgt := 2175) C.x C.b dL_law_995 (by decide) ?_
      refine lv_iinc (v := i + 5) (lv' := [(4, .int (i + 5)), (6, .int r4), (5, .int r1), (0, .ref b), (1, .ref (g 10 0)), (2, .ref (g 11 0)), (3, .ref (g 61 0))]) C.x C.b dL_law_2175 hl (k := 6) rfl rfl (by decide) rfl (fun ls hl => ?_)
      refine lv_goto (tgt := 23) C.x C.b dL_law_2178 (by decide) ?_
      refine W.widen (by omega) (by omega) (h p l e s m below meth c b D cA g A C _ _ G ls (lv_sub hl [3, 4, 5, 6, 0] rfl))
    · have h := h.1 hc
      refine lv_aload_n C.x C.b dL_law_983 rfl (lv_at hl 5 rfl) ?_
      refine lv_iconst (v := 0) C.x C.b dL_law_984 (by decide) ?_
      refine jr_lald C G (by unfold vp_in; decide) dL_law_985 ?_
      refine lv_iload C.x C.b dL_law_986 (lv_at hl 0 rfl) ?_
      refine lv_i2l C.x C.b dL_law_988 rfl ?_
      refine W.lcmp C.x C.b dL_law_989 ?_
      refine lv_if_eq (tgt := 995) C.x C.b dL_law_990 (by decide) (fun hc => ?_) (fun hc => ?_)
      · have h := h.1 hc
        refine lv_goto (tgt := 2175) C.x C.b dL_law_995 (by decide) ?_
        refine lv_iinc (v := i + 5) (lv' := [(4, .int (i + 5)), (6, .int r4), (5, .int r1), (0, .ref b), (1, .ref (g 10 0)), (2, .ref (g 11 0)), (3, .ref (g 61 0))]) C.x C.b dL_law_2175 hl (k := 6) rfl rfl (by decide) rfl (fun ls hl => ?_)
        refine lv_goto (tgt := 23) C.x C.b dL_law_2178 (by decide) ?_
        refine W.widen (by omega) (by omega) (h p l e s m below meth c b D cA g A C _ _ G ls (lv_sub hl [3, 4, 5, 6, 0] rfl))
      · have h := h.2 hc
        refine lv_iconst (v := 0) C.x C.b dL_law_993 (by decide) ?_
        exact h.elim
  · have h := h.2 hc
    refine lv_iconst (v := 0) C.x C.b dL_law_976 (by decide) ?_
    exact h.elim
set_option maxHeartbeats 4000000 in
set_option maxRecDepth 100000 in
theorem bl_L_998 {L : Nat} {xs : Nat → Int32} (k : Nat) (i : Int32) (M : jM) (hk : k ≤ 2000)
  (h : vp_in (i + 1) L ∧ vp_in (i + 2) L ∧ (xs (i + 2).toNatClampNeg = 0 → ok_L_setBarrier (xs (i + 1).toNatClampNeg) 0 M (fun r1 _ M2 => vp_in (i + 1) L ∧ vp_in (i + 2) L ∧ (xs (i + 2).toNatClampNeg = 0 → ok_X12_setBarrier (xs (i + 1).toNatClampNeg) 0 M2 (fun r4 _ M5 => ((M5 11 0 7) = r1 → (r1 = 0 → (r4 = 0 → (lg_cmp (M5 61 0 (0 : Int32).toNatClampNeg).toInt64 (0 : Int32).toInt64 = 0 → at_L_23 L xs (k + 1) (i + 5) M5) ∧ (¬ (lg_cmp (M5 61 0 (0 : Int32).toNatClampNeg).toInt64 (0 : Int32).toInt64 = 0) → False)) ∧ (¬ (r4 = 0) → (lg_cmp (M5 61 0 (0 : Int32).toNatClampNeg).toInt64 (1 : Int32).toInt64 = 0 → at_L_23 L xs (k + 1) (i + 5) M5) ∧ (¬ (lg_cmp (M5 61 0 (0 : Int32).toNatClampNeg).toInt64 (1 : Int32).toInt64 = 0) → False))) ∧ (¬ (r1 = 0) → at_L_23 L xs (k + 1) (i + 5) M5)) ∧ (¬ ((M5 11 0 7) = r1) → False))) ∧ (¬ (xs (i + 2).toNatClampNeg = 0) → ok_X12_setBarrier (xs (i + 1).toNatClampNeg) 1 M2 (fun r8 _ M9 => ((M9 11 0 7) = r1 → (r1 = 0 → (r8 = 0 → (lg_cmp (M9 61 0 (0 : Int32).toNatClampNeg).toInt64 (0 : Int32).toInt64 = 0 → at_L_23 L xs (k + 1) (i + 5) M9) ∧ (¬ (lg_cmp (M9 61 0 (0 : Int32).toNatClampNeg).toInt64 (0 : Int32).toInt64 = 0) → False)) ∧ (¬ (r8 = 0) → (lg_cmp (M9 61 0 (0 : Int32).toNatClampNeg).toInt64 (1 : Int32).toInt64 = 0 → at_L_23 L xs (k + 1) (i + 5) M9) ∧ (¬ (lg_cmp (M9 61 0 (0 : Int32).toNatClampNeg).toInt64 (1 : Int32).toInt64 = 0) → False))) ∧ (¬ (r1 = 0) → at_L_23 L xs (k + 1) (i + 5) M9)) ∧ (¬ ((M9 11 0 7) = r1) → False))))) ∧ (¬ (xs (i + 2).toNatClampNeg = 0) → ok_L_setBarrier (xs (i + 1).toNatClampNeg) 1 M (fun r12 _ M13 => vp_in (i + 1) L ∧ vp_in (i + 2) L ∧ (xs (i + 2).toNatClampNeg = 0 → ok_X12_setBarrier (xs (i + 1).toNatClampNeg) 0 M13 (fun r15 _ M16 => ((M16 11 0 7) = r12 → (r12 = 0 → (r15 = 0 → (lg_cmp (M16 61 0 (0 : Int32).toNatClampNeg).toInt64 (0 : Int32).toInt64 = 0 → at_L_23 L xs (k + 1) (i + 5) M16) ∧ (¬ (lg_cmp (M16 61 0 (0 : Int32).toNatClampNeg).toInt64 (0 : Int32).toInt64 = 0) → False)) ∧ (¬ (r15 = 0) → (lg_cmp (M16 61 0 (0 : Int32).toNatClampNeg).toInt64 (1 : Int32).toInt64 = 0 → at_L_23 L xs (k + 1) (i + 5) M16) ∧ (¬ (lg_cmp (M16 61 0 (0 : Int32).toNatClampNeg).toInt64 (1 : Int32).toInt64 = 0) → False))) ∧ (¬ (r12 = 0) → at_L_23 L xs (k + 1) (i + 5) M16)) ∧ (¬ ((M16 11 0 7) = r12) → False))) ∧ (¬ (xs (i + 2).toNatClampNeg = 0) → ok_X12_setBarrier (xs (i + 1).toNatClampNeg) 1 M13 (fun r19 _ M20 => ((M20 11 0 7) = r12 → (r12 = 0 → (r19 = 0 → (lg_cmp (M20 61 0 (0 : Int32).toNatClampNeg).toInt64 (0 : Int32).toInt64 = 0 → at_L_23 L xs (k + 1) (i + 5) M20) ∧ (¬ (lg_cmp (M20 61 0 (0 : Int32).toNatClampNeg).toInt64 (0 : Int32).toInt64 = 0) → False)) ∧ (¬ (r19 = 0) → (lg_cmp (M20 61 0 (0 : Int32).toNatClampNeg).toInt64 (1 : Int32).toInt64 = 0 → at_L_23 L xs (k + 1) (i + 5) M20) ∧ (¬ (lg_cmp (M20 61 0 (0 : Int32).toNatClampNeg).toInt64 (1 : Int32).toInt64 = 0) → False))) ∧ (¬ (r12 = 0) → at_L_23 L xs (k + 1) (i + 5) M20)) ∧ (¬ ((M20 11 0 7) = r12) → False)))))) :
  at_L_998 L xs k i M := by
  intro p l e s m below meth c b D cA g A C H locs G ls hl
  have hbA : ¬ jA s.heap.size b := Nat.not_le.mpr A.2.2.2.2.2.2.2.1
  refine lv_aload_n C.x C.b dL_law_998 rfl (lv_at hl 1 rfl) ?_
  refine lv_aload_n C.x C.b dL_law_999 rfl (lv_at hl 0 rfl) ?_
  refine lv_iload C.x C.b dL_law_1000 (lv_at hl 4 rfl) ?_
  refine lv_iconst (v := 1) C.x C.b dL_law_1002 (by decide) ?_
  refine lv_iadd C.x C.b dL_law_1003 ?_
  obtain ⟨hs, h⟩ := h
  refine va_sld C.x C.b A.2.2.2.2.2.2.1 A.2.2.2.2.2.2.2.1 hbA G.2 hs dL_law_1004 ?_
  refine lv_aload_n C.x C.b dL_law_1005 rfl (lv_at hl 0 rfl) ?_
  refine lv_iload C.x C.b dL_law_1006 (lv_at hl 4 rfl) ?_
  refine lv_iconst (v := 2) C.x C.b dL_law_1008 (by decide) ?_
  refine lv_iadd C.x C.b dL_law_1009 ?_
  obtain ⟨hs, h⟩ := h
  refine va_sld C.x C.b A.2.2.2.2.2.2.1 A.2.2.2.2.2.2.2.1 hbA G.2 hs dL_law_1010 ?_
  refine lv_if_eq (tgt := 1018) C.x C.b dL_law_1011 (by decide) (fun hc => ?_) (fun hc => ?_)
  · have h := h.1 hc
    refine lv_iconst (v := 0) C.x C.b dL_law_1018 (by decide) ?_
    refine lv_aload_n C.x C.b dL_law_1019 rfl (lv_at hl 3 rfl) ?_
    refine jl_H (n := 4) C G wd913 wd914 wd72 wd915 ⟨by decide +kernel, by decide +kernel, by decide +kernel⟩ h rfl rfl rfl (by decide) (by decide) (by show _ ≤ 601024; omega) (by show _ ≤ 7293034; omega) hl.1 (Nat.le_of_ble_eq_true rfl) dL_law_1020 (fun r1 r1n M2 H locs h G => ?_)
    refine lv_istore (lv' := [(5, .int r1), (0, .ref b), (1, .ref (g 10 0)), (2, .ref (g 11 0)), (3, .ref (g 61 0)), (4, .int i)]) C.x C.b dL_law_1023 hl (by decide) rfl (fun ls hl => ?_)
    refine lv_aload_n C.x C.b dL_law_1025 rfl (lv_at hl 3 rfl) ?_
    refine lv_aload_n C.x C.b dL_law_1026 rfl (lv_at hl 1 rfl) ?_
    refine lv_iload C.x C.b dL_law_1027 (lv_at hl 5 rfl) ?_
    refine lv_iconst (v := 1) C.x C.b dL_law_1029 (by decide) ?_
    refine lv_iadd C.x C.b dL_law_1030 ?_
    obtain ⟨hs, h⟩ := h
    refine va_sld C.x C.b A.2.2.2.2.2.2.1 A.2.2.2.2.2.2.2.1 hbA G.2 hs dL_law_1031 ?_
    refine lv_aload_n C.x C.b dL_law_1032 rfl (lv_at hl 1 rfl) ?_
    refine lv_iload C.x C.b dL_law_1033 (lv_at hl 5 rfl) ?_
    refine lv_iconst (v := 2) C.x C.b dL_law_1035 (by decide) ?_
    refine lv_iadd C.x C.b dL_law_1036 ?_
    obtain ⟨hs, h⟩ := h
    refine va_sld C.x C.b A.2.2.2.2.2.2.1 A.2.2.2.2.2.2.2.1 hbA G.2 hs dL_law_1037 ?_
    refine lv_if_eq (tgt := 1045) C.x C.b dL_law_1038 (by decide) (fun hc => ?_) (fun hc => ?_)
    · have h := h.1 hc
      refine lv_iconst (v := 0) C.x C.b dL_law_1045 (by decide) ?_
      refine jl_V (rk := 1) C G jc11 jm_X12_setBarrier wd1457 h rfl (show 0 < 1 by decide) (by decide) rfl rfl (by decide) (by decide) (by show _ ≤ 601024; omega) (by show _ ≤ 7293034; omega) hl.1 (Nat.le_of_ble_eq_true rfl) dL_law_1046 (fun r4 r4n M5 H locs h G => ?_)
      refine lv_istore (lv' := [(6, .int r4), (5, .int r1), (0, .ref b), (1, .ref (g 10 0)), (2, .ref (g 11 0)), (3, .ref (g 61 0)), (4, .int i)]) C.x C.b dL_law_1049 hl (by decide) rfl (fun ls hl => ?_)
      refine lv_aload_n C.x C.b dL_law_1051 rfl (lv_at hl 4 rfl) ?_
      refine jl_V (rk := 1) C G jc11 jm_X12_thrown wd1285 (sp_X12_thrown ⟨rfl, rfl⟩ : ok_X12_thrown  M5 (fun r _ M' => (M5 11 0 7) = r ∧ M5 = M')) rfl (show 0 < 1 by decide) (by decide) rfl rfl (by decide) (by decide) (by show _ ≤ 601024; omega) (by show _ ≤ 7293034; omega) hl.1 (Nat.le_of_ble_eq_true rfl) dL_law_1052 (fun r6 r6n M7 H locs hq G => ?_)
      obtain ⟨eq1, eq2⟩ := hq
      subst eq1
      subst eq2
      refine lv_iload C.x C.b dL_law_1055 (lv_at hl 1 rfl) ?_
      refine lv_icmp_eq (tgt := 1062) C.x C.b dL_law_1057 (by decide) (fun hc => ?_) (fun hc => ?_)
      · have h := h.1 hc
        refine lv_iload C.x C.b dL_law_1062 (lv_at hl 1 rfl) ?_
        refine lv_if_ne (tgt := 1086) C.x C.b dL_law_1064 (by decide) (fun hc => ?_) (fun hc => ?_)
        · have h := h.2 hc
          refine lv_goto (tgt := 2175) C.x C.b dL_law_1086 (by decide) ?_
          refine lv_iinc (v := i + 5) (lv' := [(4, .int (i + 5)), (6, .int r4), (5, .int r1), (0, .ref b), (1, .ref (g 10 0)), (2, .ref (g 11 0)), (3, .ref (g 61 0))]) C.x C.b dL_law_2175 hl (k := 6) rfl rfl (by decide) rfl (fun ls hl => ?_)
          refine lv_goto (tgt := 23) C.x C.b dL_law_2178 (by decide) ?_
          refine W.widen (by omega) (by omega) (h p l e s m below meth c b D cA g A C _ _ G ls (lv_sub hl [3, 4, 5, 6, 0] rfl))
        · have h := h.1 hc
          refine lv_aload_n C.x C.b dL_law_1067 rfl (lv_at hl 5 rfl) ?_
          refine lv_iconst (v := 0) C.x C.b dL_law_1068 (by decide) ?_
          refine jr_lald C G (by unfold vp_in; decide) dL_law_1069 ?_
          refine lv_iload C.x C.b dL_law_1070 (lv_at hl 0 rfl) ?_
          refine lv_if_eq (tgt := 1079) C.x C.b dL_law_1072 (by decide) (fun hc => ?_) (fun hc => ?_)
          · have h := h.1 hc
            refine lv_lconst (v := (0 : Int32).toInt64) C.x C.b dL_law_1079 (by decide) ?_
            refine W.lcmp C.x C.b dL_law_1080 ?_
            refine lv_if_eq (tgt := 1086) C.x C.b dL_law_1081 (by decide) (fun hc => ?_) (fun hc => ?_)
            · have h := h.1 hc
              refine lv_goto (tgt := 2175) C.x C.b dL_law_1086 (by decide) ?_
              refine lv_iinc (v := i + 5) (lv' := [(4, .int (i + 5)), (6, .int r4), (5, .int r1), (0, .ref b), (1, .ref (g 10 0)), (2, .ref (g 11 0)), (3, .ref (g 61 0))]) C.x C.b dL_law_2175 hl (k := 6) rfl rfl (by decide) rfl (fun ls hl => ?_)
              refine lv_goto (tgt := 23) C.x C.b dL_law_2178 (by decide) ?_
              refine W.widen (by omega) (by omega) (h p l e s m below meth c b D cA g A C _ _ G ls (lv_sub hl [3, 4, 5, 6, 0] rfl))
            · have h := h.2 hc
              refine lv_iconst (v := 0) C.x C.b dL_law_1084 (by decide) ?_
              exact h.elim
          · have h := h.2 hc
            refine lv_lconst (v := (1 : Int32).toInt64) C.x C.b dL_law_1075 (by decide) ?_
            refine lv_goto (tgt := 1080) C.x C.b dL_law_1076 (by decide) ?_
            refine W.lcmp C.x C.b dL_law_1080 ?_
            refine lv_if_eq (tgt := 1086) C.x C.b dL_law_1081 (by decide) (fun hc => ?_) (fun hc => ?_)
            · have h := h.1 hc
              refine lv_goto (tgt := 2175) C.x C.b dL_law_1086 (by decide) ?_
              refine lv_iinc (v := i + 5) (lv' := [(4, .int (i + 5)), (6, .int r4), (5, .int r1), (0, .ref b), (1, .ref (g 10 0)), (2, .ref (g 11 0)), (3, .ref (g 61 0))]) C.x C.b dL_law_2175 hl (k := 6) rfl rfl (by decide) rfl (fun ls hl => ?_)
              refine lv_goto (tgt := 23) C.x C.b dL_law_2178 (by decide) ?_
              refine W.widen (by omega) (by omega) (h p l e s m below meth c b D cA g A C _ _ G ls (lv_sub hl [3, 4, 5, 6, 0] rfl))
            · have h := h.2 hc
              refine lv_iconst (v := 0) C.x C.b dL_law_1084 (by decide) ?_
              exact h.elim
      · have h := h.2 hc
        refine lv_iconst (v := 0) C.x C.b dL_law_1060 (by decide) ?_
        exact h.elim
    · have h := h.2 hc
      refine lv_iconst (v := 1) C.x C.b dL_law_1041 (by decide) ?_
      refine lv_goto (tgt := 1046) C.x C.b dL_law_1042 (by decide) ?_
      refine jl_V (rk := 1) C G jc11 jm_X12_setBarrier wd1457 h rfl (show 0 < 1 by decide) (by decide) rfl rfl (by decide) (by decide) (by show _ ≤ 601024; omega) (by show _ ≤ 7293034; omega) hl.1 (Nat.le_of_ble_eq_true rfl) dL_law_1046 (fun r8 r8n M9 H locs h G => ?_)
      refine lv_istore (lv' := [(6, .int r8), (5, .int r1), (0, .ref b), (1, .ref (g 10 0)), (2, .ref (g 11 0)), (3, .ref (g 61 0)), (4, .int i)]) C.x C.b dL_law_1049 hl (by decide) rfl (fun ls hl => ?_)
      refine lv_aload_n C.x C.b dL_law_1051 rfl (lv_at hl 4 rfl) ?_
      refine jl_V (rk := 1) C G jc11 jm_X12_thrown wd1285 (sp_X12_thrown ⟨rfl, rfl⟩ : ok_X12_thrown  M9 (fun r _ M' => (M9 11 0 7) = r ∧ M9 = M')) rfl (show 0 < 1 by decide) (by decide) rfl rfl (by decide) (by decide) (by show _ ≤ 601024; omega) (by show _ ≤ 7293034; omega) hl.1 (Nat.le_of_ble_eq_true rfl) dL_law_1052 (fun r10 r10n M11 H locs hq G => ?_)
      obtain ⟨eq1, eq2⟩ := hq
      subst eq1
      subst eq2
      refine lv_iload C.x C.b dL_law_1055 (lv_at hl 1 rfl) ?_
      refine lv_icmp_eq (tgt := 1062) C.x C.b dL_law_1057 (by decide) (fun hc => ?_) (fun hc => ?_)
      · have h := h.1 hc
        refine lv_iload C.x C.b dL_law_1062 (lv_at hl 1 rfl) ?_
        refine lv_if_ne (tgt := 1086) C.x C.b dL_law_1064 (by decide) (fun hc => ?_) (fun hc => ?_)
        · have h := h.2 hc
          refine lv_goto (tgt := 2175) C.x C.b dL_law_1086 (by decide) ?_
          refine lv_iinc (v := i + 5) (lv' := [(4, .int (i + 5)), (6, .int r8), (5, .int r1), (0, .ref b), (1, .ref (g 10 0)), (2, .ref (g 11 0)), (3, .ref (g 61 0))]) C.x C.b dL_law_2175 hl (k := 6) rfl rfl (by decide) rfl (fun ls hl => ?_)
          refine lv_goto (tgt := 23) C.x C.b dL_law_2178 (by decide) ?_
          refine W.widen (by omega) (by omega) (h p l e s m below meth c b D cA g A C _ _ G ls (lv_sub hl [3, 4, 5, 6, 0] rfl))
        · have h := h.1 hc
          refine lv_aload_n C.x C.b dL_law_1067 rfl (lv_at hl 5 rfl) ?_
          refine lv_iconst (v := 0) C.x C.b dL_law_1068 (by decide) ?_
          refine jr_lald C G (by unfold vp_in; decide) dL_law_1069 ?_
          refine lv_iload C.x C.b dL_law_1070 (lv_at hl 0 rfl) ?_
          refine lv_if_eq (tgt := 1079) C.x C.b dL_law_1072 (by decide) (fun hc => ?_) (fun hc => ?_)
          · have h := h.1 hc
            refine lv_lconst (v := (0 : Int32).toInt64) C.x C.b dL_law_1079 (by decide) ?_
            refine W.lcmp C.x C.b dL_law_1080 ?_
            refine lv_if_eq (tgt := 1086) C.x C.b dL_law_1081 (by decide) (fun hc => ?_) (fun hc => ?_)
            · have h := h.1 hc
              refine lv_goto (tgt := 2175) C.x C.b dL_law_1086 (by decide) ?_
              refine lv_iinc (v := i + 5) (lv' := [(4, .int (i + 5)), (6, .int r8), (5, .int r1), (0, .ref b), (1, .ref (g 10 0)), (2, .ref (g 11 0)), (3, .ref (g 61 0))]) C.x C.b dL_law_2175 hl (k := 6) rfl rfl (by decide) rfl (fun ls hl => ?_)
              refine lv_goto (tgt := 23) C.x C.b dL_law_2178 (by decide) ?_
              refine W.widen (by omega) (by omega) (h p l e s m below meth c b D cA g A C _ _ G ls (lv_sub hl [3, 4, 5, 6, 0] rfl))
            · have h := h.2 hc
              refine lv_iconst (v := 0) C.x C.b dL_law_1084 (by decide) ?_
              exact h.elim
          · have h := h.2 hc
            refine lv_lconst (v := (1 : Int32).toInt64) C.x C.b dL_law_1075 (by decide) ?_
            refine lv_goto (tgt := 1080) C.x C.b dL_law_1076 (by decide) ?_
            refine W.lcmp C.x C.b dL_law_1080 ?_
            refine lv_if_eq (tgt := 1086) C.x C.b dL_law_1081 (by decide) (fun hc => ?_) (fun hc => ?_)
            · have h := h.1 hc
              refine lv_goto (tgt := 2175) C.x C.b dL_law_1086 (by decide) ?_
              refine lv_iinc (v := i + 5) (lv' := [(4, .int (i + 5)), (6, .int r8), (5, .int r1), (0, .ref b), (1, .ref (g 10 0)), (2, .ref (g 11 0)), (3, .ref (g 61 0))]) C.x C.b dL_law_2175 hl (k := 6) rfl rfl (by decide) rfl (fun ls hl => ?_)
              refine lv_goto (tgt := 23) C.x C.b dL_law_2178 (by decide) ?_
              refine W.widen (by omega) (by omega) (h p l e s m below meth c b D cA g A C _ _ G ls (lv_sub hl [3, 4, 5, 6, 0] rfl))
            · have h := h.2 hc
              refine lv_iconst (v := 0) C.x C.b dL_law_1084 (by decide) ?_
              exact h.elim
      · have h := h.2 hc
        refine lv_iconst (v := 0) C.x C.b dL_law_1060 (by decide) ?_
        exact h.elim
  · have h := h.2 hc
    refine lv_iconst (v := 1) C.x C.b dL_law_1014 (by decide) ?_
    refine lv_goto (tgt := 1019) C.x C.b dL_law_1015 (by decide) ?_
    refine lv_aload_n C.x C.b dL_law_1019 rfl (lv_at hl 3 rfl) ?_
    refine jl_H (n := 4) C G wd913 wd914 wd72 wd915 ⟨by decide +kernel, by decide +kernel, by decide +kernel⟩ h rfl rfl rfl (by decide) (by decide) (by show _ ≤ 601024; omega) (by show _ ≤ 7293034; omega) hl.1 (Nat.le_of_ble_eq_true rfl) dL_law_1020 (fun r12 r12n M13 H locs h G => ?_)
    refine lv_istore (lv' := [(5, .int r12), (0, .ref b), (1, .ref (g 10 0)), (2, .ref (g 11 0)), (3, .ref (g 61 0)), (4, .int i)]) C.x C.b dL_law_1023 hl (by decide) rfl (fun ls hl => ?_)
    refine lv_aload_n C.x C.b dL_law_1025 rfl (lv_at hl 3 rfl) ?_
    refine lv_aload_n C.x C.b dL_law_1026 rfl (lv_at hl 1 rfl) ?_
    refine lv_iload C.x C.b dL_law_1027 (lv_at hl 5 rfl) ?_
    refine lv_iconst (v := 1) C.x C.b dL_law_1029 (by decide) ?_
    refine lv_iadd C.x C.b dL_law_1030 ?_
    obtain ⟨hs, h⟩ := h
    refine va_sld C.x C.b A.2.2.2.2.2.2.1 A.2.2.2.2.2.2.2.1 hbA G.2 hs dL_law_1031 ?_
    refine lv_aload_n C.x C.b dL_law_1032 rfl (lv_at hl 1 rfl) ?_
    refine lv_iload C.x C.b dL_law_1033 (lv_at hl 5 rfl) ?_
    refine lv_iconst (v := 2) C.x C.b dL_law_1035 (by decide) ?_
    refine lv_iadd C.x C.b dL_law_1036 ?_
    obtain ⟨hs, h⟩ := h
    refine va_sld C.x C.b A.2.2.2.2.2.2.1 A.2.2.2.2.2.2.2.1 hbA G.2 hs dL_law_1037 ?_
    refine lv_if_eq (tgt := 1045) C.x C.b dL_law_1038 (by decide) (fun hc => ?_) (fun hc => ?_)
    · have h := h.1 hc
      refine lv_iconst (v := 0) C.x C.b dL_law_1045 (by decide) ?_
      refine jl_V (rk := 1) C G jc11 jm_X12_setBarrier wd1457 h rfl (show 0 < 1 by decide) (by decide) rfl rfl (by decide) (by decide) (by show _ ≤ 601024; omega) (by show _ ≤ 7293034; omega) hl.1 (Nat.le_of_ble_eq_true rfl) dL_law_1046 (fun r15 r15n M16 H locs h G => ?_)
      refine lv_istore (lv' := [(6, .int r15), (5, .int r12), (0, .ref b), (1, .ref (g 10 0)), (2, .ref (g 11 0)), (3, .ref (g 61 0)), (4, .int i)]) C.x C.b dL_law_1049 hl (by decide) rfl (fun ls hl => ?_)
      refine lv_aload_n C.x C.b dL_law_1051 rfl (lv_at hl 4 rfl) ?_
      refine jl_V (rk := 1) C G jc11 jm_X12_thrown wd1285 (sp_X12_thrown ⟨rfl, rfl⟩ : ok_X12_thrown  M16 (fun r _ M' => (M16 11 0 7) = r ∧ M16 = M')) rfl (show 0 < 1 by decide) (by decide) rfl rfl (by decide) (by decide) (by show _ ≤ 601024; omega) (by show _ ≤ 7293034; omega) hl.1 (Nat.le_of_ble_eq_true rfl) dL_law_1052 (fun r17 r17n M18 H locs hq G => ?_)
      obtain ⟨eq1, eq2⟩ := hq
      subst eq1
      subst eq2
      refine lv_iload C.x C.b dL_law_1055 (lv_at hl 1 rfl) ?_
      refine lv_icmp_eq (tgt := 1062) C.x C.b dL_law_1057 (by decide) (fun hc => ?_) (fun hc => ?_)
      · have h := h.1 hc
        refine lv_iload C.x C.b dL_law_1062 (lv_at hl 1 rfl) ?_
        refine lv_if_ne (tgt := 1086) C.x C.b dL_law_1064 (by decide) (fun hc => ?_) (fun hc => ?_)
        · have h := h.2 hc
          refine lv_goto (tgt := 2175) C.x C.b dL_law_1086 (by decide) ?_
          refine lv_iinc (v := i + 5) (lv' := [(4, .int (i + 5)), (6, .int r15), (5, .int r12), (0, .ref b), (1, .ref (g 10 0)), (2, .ref (g 11 0)), (3, .ref (g 61 0))]) C.x C.b dL_law_2175 hl (k := 6) rfl rfl (by decide) rfl (fun ls hl => ?_)
          refine lv_goto (tgt := 23) C.x C.b dL_law_2178 (by decide) ?_
          refine W.widen (by omega) (by omega) (h p l e s m below meth c b D cA g A C _ _ G ls (lv_sub hl [3, 4, 5, 6, 0] rfl))
        · have h := h.1 hc
          refine lv_aload_n C.x C.b dL_law_1067 rfl (lv_at hl 5 rfl) ?_
          refine lv_iconst (v := 0) C.x C.b dL_law_1068 (by decide) ?_
          refine jr_lald C G (by unfold vp_in; decide) dL_law_1069 ?_
          refine lv_iload C.x C.b dL_law_1070 (lv_at hl 0 rfl) ?_
          refine lv_if_eq (tgt := 1079) C.x C.b dL_law_1072 (by decide) (fun hc => ?_) (fun hc => ?_)
          · have h := h.1 hc
            refine lv_lconst (v := (0 : Int32).toInt64) C.x C.b dL_law_1079 (by decide) ?_
            refine W.lcmp C.x C.b dL_law_1080 ?_
            refine lv_if_eq (tgt := 1086) C.x C.b dL_law_1081 (by decide) (fun hc => ?_) (fun hc => ?_)
            · have h := h.1 hc
              refine lv_goto (tgt := 2175) C.x C.b dL_law_1086 (by decide) ?_
              refine lv_iinc (v := i + 5) (lv' := [(4, .int (i + 5)), (6, .int r15), (5, .int r12), (0, .ref b), (1, .ref (g 10 0)), (2, .ref (g 11 0)), (3, .ref (g 61 0))]) C.x C.b dL_law_2175 hl (k := 6) rfl rfl (by decide) rfl (fun ls hl => ?_)
              refine lv_goto (tgt := 23) C.x C.b dL_law_2178 (by decide) ?_
              refine W.widen (by omega) (by omega) (h p l e s m below meth c b D cA g A C _ _ G ls (lv_sub hl [3, 4, 5, 6, 0] rfl))
            · have h := h.2 hc
              refine lv_iconst (v := 0) C.x C.b dL_law_1084 (by decide) ?_
              exact h.elim
          · have h := h.2 hc
            refine lv_lconst (v := (1 : Int32).toInt64) C.x C.b dL_law_1075 (by decide) ?_
            refine lv_goto (tgt := 1080) C.x C.b dL_law_1076 (by decide) ?_
            refine W.lcmp C.x C.b dL_law_1080 ?_
            refine lv_if_eq (tgt := 1086) C.x C.b dL_law_1081 (by decide) (fun hc => ?_) (fun hc => ?_)
            · have h := h.1 hc
              refine lv_goto (tgt := 2175) C.x C.b dL_law_1086 (by decide) ?_
              refine lv_iinc (v := i + 5) (lv' := [(4, .int (i + 5)), (6, .int r15), (5, .int r12), (0, .ref b), (1, .ref (g 10 0)), (2, .ref (g 11 0)), (3, .ref (g 61 0))]) C.x C.b dL_law_2175 hl (k := 6) rfl rfl (by decide) rfl (fun ls hl => ?_)
              refine lv_goto (tgt := 23) C.x C.b dL_law_2178 (by decide) ?_
              refine W.widen (by omega) (by omega) (h p l e s m below meth c b D cA g A C _ _ G ls (lv_sub hl [3, 4, 5, 6, 0] rfl))
            · have h := h.2 hc
              refine lv_iconst (v := 0) C.x C.b dL_law_1084 (by decide) ?_
              exact h.elim
      · have h := h.2 hc
        refine lv_iconst (v := 0) C.x C.b dL_law_1060 (by decide) ?_
        exact h.elim
    · have h := h.2 hc
      refine lv_iconst (v := 1) C.x C.b dL_law_1041 (by decide) ?_
      refine lv_goto (tgt := 1046) C.x C.b dL_law_1042 (by decide) ?_
      refine jl_V (rk := 1) C G jc11 jm_X12_setBarrier wd1457 h rfl (show 0 < 1 by decide) (by decide) rfl rfl (by decide) (by decide) (by show _ ≤ 601024; omega) (by show _ ≤ 7293034; omega) hl.1 (Nat.le_of_ble_eq_true rfl) dL_law_1046 (fun r19 r19n M20 H locs h G => ?_)
      refine lv_istore (lv' := [(6, .int r19), (5, .int r12), (0, .ref b), (1, .ref (g 10 0)), (2, .ref (g 11 0)), (3, .ref (g 61 0)), (4, .int i)]) C.x C.b dL_law_1049 hl (by decide) rfl (fun ls hl => ?_)
      refine lv_aload_n C.x C.b dL_law_1051 rfl (lv_at hl 4 rfl) ?_
      refine jl_V (rk := 1) C G jc11 jm_X12_thrown wd1285 (sp_X12_thrown ⟨rfl, rfl⟩ : ok_X12_thrown  M20 (fun r _ M' => (M20 11 0 7) = r ∧ M20 = M')) rfl (show 0 < 1 by decide) (by decide) rfl rfl (by decide) (by decide) (by show _ ≤ 601024; omega) (by show _ ≤ 7293034; omega) hl.1 (Nat.le_of_ble_eq_true rfl) dL_law_1052 (fun r21 r21n M22 H locs hq G => ?_)
      obtain ⟨eq1, eq2⟩ := hq
      subst eq1
      subst eq2
      refine lv_iload C.x C.b dL_law_1055 (lv_at hl 1 rfl) ?_
      refine lv_icmp_eq (tgt := 1062) C.x C.b dL_law_1057 (by decide) (fun hc => ?_) (fun hc => ?_)
      · have h := h.1 hc
        refine lv_iload C.x C.b dL_law_1062 (lv_at hl 1 rfl) ?_
        refine lv_if_ne (tgt := 1086) C.x C.b dL_law_1064 (by decide) (fun hc => ?_) (fun hc => ?_)
        · have h := h.2 hc
          refine lv_goto (tgt := 2175) C.x C.b dL_law_1086 (by decide) ?_
          refine lv_iinc (v := i + 5) (lv' := [(4, .int (i + 5)), (6, .int r19), (5, .int r12), (0, .ref b), (1, .ref (g 10 0)), (2, .ref (g 11 0)), (3, .ref (g 61 0))]) C.x C.b dL_law_2175 hl (k := 6) rfl rfl (by decide) rfl (fun ls hl => ?_)
          refine lv_goto (tgt := 23) C.x C.b dL_law_2178 (by decide) ?_
          refine W.widen (by omega) (by omega) (h p l e s m below meth c b D cA g A C _ _ G ls (lv_sub hl [3, 4, 5, 6, 0] rfl))
        · have h := h.1 hc
          refine lv_aload_n C.x C.b dL_law_1067 rfl (lv_at hl 5 rfl) ?_
          refine lv_iconst (v := 0) C.x C.b dL_law_1068 (by decide) ?_
          refine jr_lald C G (by unfold vp_in; decide) dL_law_1069 ?_
          refine lv_iload C.x C.b dL_law_1070 (lv_at hl 0 rfl) ?_
          refine lv_if_eq (tgt := 1079) C.x C.b dL_law_1072 (by decide) (fun hc => ?_) (fun hc => ?_)
          · have h := h.1 hc
            refine lv_lconst (v := (0 : Int32).toInt64) C.x C.b dL_law_1079 (by decide) ?_
            refine W.lcmp C.x C.b dL_law_1080 ?_
            refine lv_if_eq (tgt := 1086) C.x C.b dL_law_1081 (by decide) (fun hc => ?_) (fun hc => ?_)
            · have h := h.1 hc
              refine lv_goto (tgt := 2175) C.x C.b dL_law_1086 (by decide) ?_
              refine lv_iinc (v := i + 5) (lv' := [(4, .int (i + 5)), (6, .int r19), (5, .int r12), (0, .ref b), (1, .ref (g 10 0)), (2, .ref (g 11 0)), (3, .ref (g 61 0))]) C.x C.b dL_law_2175 hl (k := 6) rfl rfl (by decide) rfl (fun ls hl => ?_)
              refine lv_goto (tgt := 23) C.x C.b dL_law_2178 (by decide) ?_
              refine W.widen (by omega) (by omega) (h p l e s m below meth c b D cA g A C _ _ G ls (lv_sub hl [3, 4, 5, 6, 0] rfl))
            · have h := h.2 hc
              refine lv_iconst (v := 0) C.x C.b dL_law_1084 (by decide) ?_
              exact h.elim
          · have h := h.2 hc
            refine lv_lconst (v := (1 : Int32).toInt64) C.x C.b dL_law_1075 (by decide) ?_
            refine lv_goto (tgt := 1080) C.x C.b dL_law_1076 (by decide) ?_
            refine W.lcmp C.x C.b dL_law_1080 ?_
            refine lv_if_eq (tgt := 1086) C.x C.b dL_law_1081 (by decide) (fun hc => ?_) (fun hc => ?_)
            · have h := h.1 hc
              refine lv_goto (tgt := 2175) C.x C.b dL_law_1086 (by decide) ?_
              refine lv_iinc (v := i + 5) (lv' := [(4, .int (i + 5)), (6, .int r19), (5, .int r12), (0, .ref b), (1, .ref (g 10 0)), (2, .ref (g 11 0)), (3, .ref (g 61 0))]) C.x C.b dL_law_2175 hl (k := 6) rfl rfl (by decide) rfl (fun ls hl => ?_)
              refine lv_goto (tgt := 23) C.x C.b dL_law_2178 (by decide) ?_
              refine W.widen (by omega) (by omega) (h p l e s m below meth c b D cA g A C _ _ G ls (lv_sub hl [3, 4, 5, 6, 0] rfl))
            · have h := h.2 hc
              refine lv_iconst (v := 0) C.x C.b dL_law_1084 (by decide) ?_
              exact h.elim
      · have h := h.2 hc
        refine lv_iconst (v := 0) C.x C.b dL_law_1060 (by decide) ?_
        exact h.elim
set_option maxHeartbeats 4000000 in
set_option maxRecDepth 100000 in
theorem bl_L_1089 {L : Nat} {xs : Nat → Int32} (k : Nat) (i : Int32) (M : jM) (hk : k ≤ 2000)
  (h : vp_in (i + 1) L ∧ vp_in (i + 2) L ∧ ok_L_dependenceCount (xs (i + 1).toNatClampNeg) (xs (i + 2).toNatClampNeg) M (fun r1 _ M2 => vp_in (i + 1) L ∧ vp_in (i + 2) L ∧ ok_X12_dependenceCount (xs (i + 1).toNatClampNeg) (xs (i + 2).toNatClampNeg) M2 (fun r4 _ M5 => ((M5 11 0 7) = r1 → (r1 = 0 → (lg_cmp (M5 61 0 (0 : Int32).toNatClampNeg).toInt64 r4.toInt64 = 0 → at_L_23 L xs (k + 1) (i + 5) M5) ∧ (¬ (lg_cmp (M5 61 0 (0 : Int32).toNatClampNeg).toInt64 r4.toInt64 = 0) → False)) ∧ (¬ (r1 = 0) → at_L_23 L xs (k + 1) (i + 5) M5)) ∧ (¬ ((M5 11 0 7) = r1) → False)))) :
  at_L_1089 L xs k i M := by
  intro p l e s m below meth c b D cA g A C H locs G ls hl
  have hbA : ¬ jA s.heap.size b := Nat.not_le.mpr A.2.2.2.2.2.2.2.1
  refine lv_aload_n C.x C.b dL_law_1089 rfl (lv_at hl 1 rfl) ?_
  refine lv_aload_n C.x C.b dL_law_1090 rfl (lv_at hl 0 rfl) ?_
  refine lv_iload C.x C.b dL_law_1091 (lv_at hl 4 rfl) ?_
  refine lv_iconst (v := 1) C.x C.b dL_law_1093 (by decide) ?_
  refine lv_iadd C.x C.b dL_law_1094 ?_
  obtain ⟨hs, h⟩ := h
  refine va_sld C.x C.b A.2.2.2.2.2.2.1 A.2.2.2.2.2.2.2.1 hbA G.2 hs dL_law_1095 ?_
  refine lv_aload_n C.x C.b dL_law_1096 rfl (lv_at hl 0 rfl) ?_
  refine lv_iload C.x C.b dL_law_1097 (lv_at hl 4 rfl) ?_
  refine lv_iconst (v := 2) C.x C.b dL_law_1099 (by decide) ?_
  refine lv_iadd C.x C.b dL_law_1100 ?_
  obtain ⟨hs, h⟩ := h
  refine va_sld C.x C.b A.2.2.2.2.2.2.1 A.2.2.2.2.2.2.2.1 hbA G.2 hs dL_law_1101 ?_
  refine lv_aload_n C.x C.b dL_law_1102 rfl (lv_at hl 3 rfl) ?_
  refine jl_H (n := 4) C G wd924 wd925 wd72 wd926 ⟨by decide +kernel, by decide +kernel, by decide +kernel⟩ h rfl rfl rfl (by decide) (by decide) (by show _ ≤ 601024; omega) (by show _ ≤ 7293034; omega) hl.1 (Nat.le_of_ble_eq_true rfl) dL_law_1103 (fun r1 r1n M2 H locs h G => ?_)
  refine lv_istore (lv' := [(5, .int r1), (0, .ref b), (1, .ref (g 10 0)), (2, .ref (g 11 0)), (3, .ref (g 61 0)), (4, .int i)]) C.x C.b dL_law_1106 hl (by decide) rfl (fun ls hl => ?_)
  refine lv_aload_n C.x C.b dL_law_1108 rfl (lv_at hl 3 rfl) ?_
  refine lv_aload_n C.x C.b dL_law_1109 rfl (lv_at hl 1 rfl) ?_
  refine lv_iload C.x C.b dL_law_1110 (lv_at hl 5 rfl) ?_
  refine lv_iconst (v := 1) C.x C.b dL_law_1112 (by decide) ?_
  refine lv_iadd C.x C.b dL_law_1113 ?_
  obtain ⟨hs, h⟩ := h
  refine va_sld C.x C.b A.2.2.2.2.2.2.1 A.2.2.2.2.2.2.2.1 hbA G.2 hs dL_law_1114 ?_
  refine lv_aload_n C.x C.b dL_law_1115 rfl (lv_at hl 1 rfl) ?_
  refine lv_iload C.x C.b dL_law_1116 (lv_at hl 5 rfl) ?_
  refine lv_iconst (v := 2) C.x C.b dL_law_1118 (by decide) ?_
  refine lv_iadd C.x C.b dL_law_1119 ?_
  obtain ⟨hs, h⟩ := h
  refine va_sld C.x C.b A.2.2.2.2.2.2.1 A.2.2.2.2.2.2.2.1 hbA G.2 hs dL_law_1120 ?_
  refine jl_V (rk := 1) C G jc11 jm_X12_dependenceCount wd1461 h rfl (show 0 < 1 by decide) (by decide) rfl rfl (by decide) (by decide) (by show _ ≤ 601024; omega) (by show _ ≤ 7293034; omega) hl.1 (Nat.le_of_ble_eq_true rfl) dL_law_1121 (fun r4 r4n M5 H locs h G => ?_)
  refine lv_istore (lv' := [(6, .int r4), (5, .int r1), (0, .ref b), (1, .ref (g 10 0)), (2, .ref (g 11 0)), (3, .ref (g 61 0)), (4, .int i)]) C.x C.b dL_law_1124 hl (by decide) rfl (fun ls hl => ?_)
  refine lv_aload_n C.x C.b dL_law_1126 rfl (lv_at hl 4 rfl) ?_
  refine jl_V (rk := 1) C G jc11 jm_X12_thrown wd1285 (sp_X12_thrown ⟨rfl, rfl⟩ : ok_X12_thrown  M5 (fun r _ M' => (M5 11 0 7) = r ∧ M5 = M')) rfl (show 0 < 1 by decide) (by decide) rfl rfl (by decide) (by decide) (by show _ ≤ 601024; omega) (by show _ ≤ 7293034; omega) hl.1 (Nat.le_of_ble_eq_true rfl) dL_law_1127 (fun r6 r6n M7 H locs hq G => ?_)
  obtain ⟨eq1, eq2⟩ := hq
  subst eq1
  subst eq2
  refine lv_iload C.x C.b dL_law_1130 (lv_at hl 1 rfl) ?_
  refine lv_icmp_eq (tgt := 1137) C.x C.b dL_law_1132 (by decide) (fun hc => ?_) (fun hc => ?_)
  · have h := h.1 hc
    refine lv_iload C.x C.b dL_law_1137 (lv_at hl 1 rfl) ?_
    refine lv_if_ne (tgt := 1154) C.x C.b dL_law_1139 (by decide) (fun hc => ?_) (fun hc => ?_)
    · have h := h.2 hc
      refine lv_goto (tgt := 2175) C.x C.b dL_law_1154 (by decide) ?_
      refine lv_iinc (v := i + 5) (lv' := [(4, .int (i + 5)), (6, .int r4), (5, .int r1), (0, .ref b), (1, .ref (g 10 0)), (2, .ref (g 11 0)), (3, .ref (g 61 0))]) C.x C.b dL_law_2175 hl (k := 6) rfl rfl (by decide) rfl (fun ls hl => ?_)
      refine lv_goto (tgt := 23) C.x C.b dL_law_2178 (by decide) ?_
      refine W.widen (by omega) (by omega) (h p l e s m below meth c b D cA g A C _ _ G ls (lv_sub hl [3, 4, 5, 6, 0] rfl))
    · have h := h.1 hc
      refine lv_aload_n C.x C.b dL_law_1142 rfl (lv_at hl 5 rfl) ?_
      refine lv_iconst (v := 0) C.x C.b dL_law_1143 (by decide) ?_
      refine jr_lald C G (by unfold vp_in; decide) dL_law_1144 ?_
      refine lv_iload C.x C.b dL_law_1145 (lv_at hl 0 rfl) ?_
      refine lv_i2l C.x C.b dL_law_1147 rfl ?_
      refine W.lcmp C.x C.b dL_law_1148 ?_
      refine lv_if_eq (tgt := 1154) C.x C.b dL_law_1149 (by decide) (fun hc => ?_) (fun hc => ?_)
      · have h := h.1 hc
        refine lv_goto (tgt := 2175) C.x C.b dL_law_1154 (by decide) ?_
        refine lv_iinc (v := i + 5) (lv' := [(4, .int (i + 5)), (6, .int r4), (5, .int r1), (0, .ref b), (1, .ref (g 10 0)), (2, .ref (g 11 0)), (3, .ref (g 61 0))]) C.x C.b dL_law_2175 hl (k := 6) rfl rfl (by decide) rfl (fun ls hl => ?_)
        refine lv_goto (tgt := 23) C.x C.b dL_law_2178 (by decide) ?_
        refine W.widen (by omega) (by omega) (h p l e s m below meth c b D cA g A C _ _ G ls (lv_sub hl [3, 4, 5, 6, 0] rfl))
      · have h := h.2 hc
        refine lv_iconst (v := 0) C.x C.b dL_law_1152 (by decide) ?_
        exact h.elim
  · have h := h.2 hc
    refine lv_iconst (v := 0) C.x C.b dL_law_1135 (by decide) ?_
    exact h.elim
set_option maxHeartbeats 4000000 in
set_option maxRecDepth 100000 in
theorem bl_L_1157 {L : Nat} {xs : Nat → Int32} (k : Nat) (i : Int32) (M : jM) (hk : k ≤ 2000)
  (h : vp_in (i + 1) L ∧ vp_in (i + 2) L ∧ vp_in (i + 3) L ∧ vp_in (i + 4) L ∧ ok_L_dependence (xs (i + 1).toNatClampNeg) (xs (i + 2).toNatClampNeg) (xs (i + 3).toNatClampNeg) (xs (i + 4).toNatClampNeg) M (fun r1 _ M2 => vp_in (i + 1) L ∧ vp_in (i + 2) L ∧ vp_in (i + 3) L ∧ vp_in (i + 4) L ∧ ok_X12_dependence (xs (i + 1).toNatClampNeg) (xs (i + 2).toNatClampNeg) (xs (i + 3).toNatClampNeg) (xs (i + 4).toNatClampNeg) M2 (fun r4 _ M5 => ((M5 11 0 7) = r1 → (r1 = 0 → (lg_cmp (M5 61 0 (0 : Int32).toNatClampNeg).toInt64 r4.toInt64 = 0 → at_L_23 L xs (k + 1) (i + 5) M5) ∧ (¬ (lg_cmp (M5 61 0 (0 : Int32).toNatClampNeg).toInt64 r4.toInt64 = 0) → False)) ∧ (¬ (r1 = 0) → at_L_23 L xs (k + 1) (i + 5) M5)) ∧ (¬ ((M5 11 0 7) = r1) → False)))) :
  at_L_1157 L xs k i M := by
  intro p l e s m below meth c b D cA g A C H locs G ls hl
  have hbA : ¬ jA s.heap.size b := Nat.not_le.mpr A.2.2.2.2.2.2.2.1
  refine lv_aload_n C.x C.b dL_law_1157 rfl (lv_at hl 1 rfl) ?_
  refine lv_aload_n C.x C.b dL_law_1158 rfl (lv_at hl 0 rfl) ?_
  refine lv_iload C.x C.b dL_law_1159 (lv_at hl 4 rfl) ?_
  refine lv_iconst (v := 1) C.x C.b dL_law_1161 (by decide) ?_
  refine lv_iadd C.x C.b dL_law_1162 ?_
  obtain ⟨hs, h⟩ := h
  refine va_sld C.x C.b A.2.2.2.2.2.2.1 A.2.2.2.2.2.2.2.1 hbA G.2 hs dL_law_1163 ?_
  refine lv_aload_n C.x C.b dL_law_1164 rfl (lv_at hl 0 rfl) ?_
  refine lv_iload C.x C.b dL_law_1165 (lv_at hl 4 rfl) ?_
  refine lv_iconst (v := 2) C.x C.b dL_law_1167 (by decide) ?_
  refine lv_iadd C.x C.b dL_law_1168 ?_
  obtain ⟨hs, h⟩ := h
  refine va_sld C.x C.b A.2.2.2.2.2.2.1 A.2.2.2.2.2.2.2.1 hbA G.2 hs dL_law_1169 ?_
  refine lv_aload_n C.x C.b dL_law_1170 rfl (lv_at hl 0 rfl) ?_
  refine lv_iload C.x C.b dL_law_1171 (lv_at hl 4 rfl) ?_
  refine lv_iconst (v := 3) C.x C.b dL_law_1173 (by decide) ?_
  refine lv_iadd C.x C.b dL_law_1174 ?_
  obtain ⟨hs, h⟩ := h
  refine va_sld C.x C.b A.2.2.2.2.2.2.1 A.2.2.2.2.2.2.2.1 hbA G.2 hs dL_law_1175 ?_
  refine lv_aload_n C.x C.b dL_law_1176 rfl (lv_at hl 0 rfl) ?_
  refine lv_iload C.x C.b dL_law_1177 (lv_at hl 4 rfl) ?_
  refine lv_iconst (v := 4) C.x C.b dL_law_1179 (by decide) ?_
  refine lv_iadd C.x C.b dL_law_1180 ?_
  obtain ⟨hs, h⟩ := h
  refine va_sld C.x C.b A.2.2.2.2.2.2.1 A.2.2.2.2.2.2.2.1 hbA G.2 hs dL_law_1181 ?_
  refine lv_aload_n C.x C.b dL_law_1182 rfl (lv_at hl 3 rfl) ?_
  refine jl_H (n := 6) C G wd952 wd953 wd72 wd954 ⟨by decide +kernel, by decide +kernel, by decide +kernel⟩ h rfl rfl rfl (by decide) (by decide) (by show _ ≤ 601024; omega) (by show _ ≤ 7293034; omega) hl.1 (Nat.le_of_ble_eq_true rfl) dL_law_1183 (fun r1 r1n M2 H locs h G => ?_)
  refine lv_istore (lv' := [(5, .int r1), (0, .ref b), (1, .ref (g 10 0)), (2, .ref (g 11 0)), (3, .ref (g 61 0)), (4, .int i)]) C.x C.b dL_law_1186 hl (by decide) rfl (fun ls hl => ?_)
  refine lv_aload_n C.x C.b dL_law_1188 rfl (lv_at hl 3 rfl) ?_
  refine lv_aload_n C.x C.b dL_law_1189 rfl (lv_at hl 1 rfl) ?_
  refine lv_iload C.x C.b dL_law_1190 (lv_at hl 5 rfl) ?_
  refine lv_iconst (v := 1) C.x C.b dL_law_1192 (by decide) ?_
  refine lv_iadd C.x C.b dL_law_1193 ?_
  obtain ⟨hs, h⟩ := h
  refine va_sld C.x C.b A.2.2.2.2.2.2.1 A.2.2.2.2.2.2.2.1 hbA G.2 hs dL_law_1194 ?_
  refine lv_aload_n C.x C.b dL_law_1195 rfl (lv_at hl 1 rfl) ?_
  refine lv_iload C.x C.b dL_law_1196 (lv_at hl 5 rfl) ?_
  refine lv_iconst (v := 2) C.x C.b dL_law_1198 (by decide) ?_
  refine lv_iadd C.x C.b dL_law_1199 ?_
  obtain ⟨hs, h⟩ := h
  refine va_sld C.x C.b A.2.2.2.2.2.2.1 A.2.2.2.2.2.2.2.1 hbA G.2 hs dL_law_1200 ?_
  refine lv_aload_n C.x C.b dL_law_1201 rfl (lv_at hl 1 rfl) ?_
  refine lv_iload C.x C.b dL_law_1202 (lv_at hl 5 rfl) ?_
  refine lv_iconst (v := 3) C.x C.b dL_law_1204 (by decide) ?_
  refine lv_iadd C.x C.b dL_law_1205 ?_
  obtain ⟨hs, h⟩ := h
  refine va_sld C.x C.b A.2.2.2.2.2.2.1 A.2.2.2.2.2.2.2.1 hbA G.2 hs dL_law_1206 ?_
  refine lv_aload_n C.x C.b dL_law_1207 rfl (lv_at hl 1 rfl) ?_
  refine lv_iload C.x C.b dL_law_1208 (lv_at hl 5 rfl) ?_
  refine lv_iconst (v := 4) C.x C.b dL_law_1210 (by decide) ?_
  refine lv_iadd C.x C.b dL_law_1211 ?_
  obtain ⟨hs, h⟩ := h
  refine va_sld C.x C.b A.2.2.2.2.2.2.1 A.2.2.2.2.2.2.2.1 hbA G.2 hs dL_law_1212 ?_
  refine jl_V (rk := 1) C G jc11 jm_X12_dependence wd1481 h rfl (show 0 < 1 by decide) (by decide) rfl rfl (by decide) (by decide) (by show _ ≤ 601024; omega) (by show _ ≤ 7293034; omega) hl.1 (Nat.le_of_ble_eq_true rfl) dL_law_1213 (fun r4 r4n M5 H locs h G => ?_)
  refine lv_istore (lv' := [(6, .int r4), (5, .int r1), (0, .ref b), (1, .ref (g 10 0)), (2, .ref (g 11 0)), (3, .ref (g 61 0)), (4, .int i)]) C.x C.b dL_law_1216 hl (by decide) rfl (fun ls hl => ?_)
  refine lv_aload_n C.x C.b dL_law_1218 rfl (lv_at hl 4 rfl) ?_
  refine jl_V (rk := 1) C G jc11 jm_X12_thrown wd1285 (sp_X12_thrown ⟨rfl, rfl⟩ : ok_X12_thrown  M5 (fun r _ M' => (M5 11 0 7) = r ∧ M5 = M')) rfl (show 0 < 1 by decide) (by decide) rfl rfl (by decide) (by decide) (by show _ ≤ 601024; omega) (by show _ ≤ 7293034; omega) hl.1 (Nat.le_of_ble_eq_true rfl) dL_law_1219 (fun r6 r6n M7 H locs hq G => ?_)
  obtain ⟨eq1, eq2⟩ := hq
  subst eq1
  subst eq2
  refine lv_iload C.x C.b dL_law_1222 (lv_at hl 1 rfl) ?_
  refine lv_icmp_eq (tgt := 1229) C.x C.b dL_law_1224 (by decide) (fun hc => ?_) (fun hc => ?_)
  · have h := h.1 hc
    refine lv_iload C.x C.b dL_law_1229 (lv_at hl 1 rfl) ?_
    refine lv_if_ne (tgt := 1246) C.x C.b dL_law_1231 (by decide) (fun hc => ?_) (fun hc => ?_)
    · have h := h.2 hc
      refine lv_goto (tgt := 2175) C.x C.b dL_law_1246 (by decide) ?_
      refine lv_iinc (v := i + 5) (lv' := [(4, .int (i + 5)), (6, .int r4), (5, .int r1), (0, .ref b), (1, .ref (g 10 0)), (2, .ref (g 11 0)), (3, .ref (g 61 0))]) C.x C.b dL_law_2175 hl (k := 6) rfl rfl (by decide) rfl (fun ls hl => ?_)
      refine lv_goto (tgt := 23) C.x C.b dL_law_2178 (by decide) ?_
      refine W.widen (by omega) (by omega) (h p l e s m below meth c b D cA g A C _ _ G ls (lv_sub hl [3, 4, 5, 6, 0] rfl))
    · have h := h.1 hc
      refine lv_aload_n C.x C.b dL_law_1234 rfl (lv_at hl 5 rfl) ?_
      refine lv_iconst (v := 0) C.x C.b dL_law_1235 (by decide) ?_
      refine jr_lald C G (by unfold vp_in; decide) dL_law_1236 ?_
      refine lv_iload C.x C.b dL_law_1237 (lv_at hl 0 rfl) ?_
      refine lv_i2l C.x C.b dL_law_1239 rfl ?_
      refine W.lcmp C.x C.b dL_law_1240 ?_
      refine lv_if_eq (tgt := 1246) C.x C.b dL_law_1241 (by decide) (fun hc => ?_) (fun hc => ?_)
      · have h := h.1 hc
        refine lv_goto (tgt := 2175) C.x C.b dL_law_1246 (by decide) ?_
        refine lv_iinc (v := i + 5) (lv' := [(4, .int (i + 5)), (6, .int r4), (5, .int r1), (0, .ref b), (1, .ref (g 10 0)), (2, .ref (g 11 0)), (3, .ref (g 61 0))]) C.x C.b dL_law_2175 hl (k := 6) rfl rfl (by decide) rfl (fun ls hl => ?_)
        refine lv_goto (tgt := 23) C.x C.b dL_law_2178 (by decide) ?_
        refine W.widen (by omega) (by omega) (h p l e s m below meth c b D cA g A C _ _ G ls (lv_sub hl [3, 4, 5, 6, 0] rfl))
      · have h := h.2 hc
        refine lv_iconst (v := 0) C.x C.b dL_law_1244 (by decide) ?_
        exact h.elim
  · have h := h.2 hc
    refine lv_iconst (v := 0) C.x C.b dL_law_1227 (by decide) ?_
    exact h.elim
set_option maxHeartbeats 4000000 in
set_option maxRecDepth 100000 in
theorem bl_L_1249 {L : Nat} {xs : Nat → Int32} (k : Nat) (i : Int32) (M : jM) (hk : k ≤ 2000)
  (h : vp_in (i + 1) L ∧ vp_in (i + 2) L ∧ ok_L_required (xs (i + 1).toNatClampNeg) (xs (i + 2).toNatClampNeg) M (fun r1 _ M2 => vp_in (i + 1) L ∧ vp_in (i + 2) L ∧ ok_X12_required (xs (i + 1).toNatClampNeg) (xs (i + 2).toNatClampNeg) M2 (fun r4 _ M5 => ((M5 11 0 7) = r1 → (r1 = 0 → (lg_cmp (M5 61 0 (0 : Int32).toNatClampNeg).toInt64 r4.toInt64 = 0 → at_L_23 L xs (k + 1) (i + 5) M5) ∧ (¬ (lg_cmp (M5 61 0 (0 : Int32).toNatClampNeg).toInt64 r4.toInt64 = 0) → False)) ∧ (¬ (r1 = 0) → at_L_23 L xs (k + 1) (i + 5) M5)) ∧ (¬ ((M5 11 0 7) = r1) → False)))) :
  at_L_1249 L xs k i M := by
  intro p l e s m below meth c b D cA g A C H locs G ls hl
  have hbA : ¬ jA s.heap.size b := Nat.not_le.mpr A.2.2.2.2.2.2.2.1
  refine lv_aload_n C.x C.b dL_law_1249 rfl (lv_at hl 1 rfl) ?_
  refine lv_aload_n C.x C.b dL_law_1250 rfl (lv_at hl 0 rfl) ?_
  refine lv_iload C.x C.b dL_law_1251 (lv_at hl 4 rfl) ?_
  refine lv_iconst (v := 1) C.x C.b dL_law_1253 (by decide) ?_
  refine lv_iadd C.x C.b dL_law_1254 ?_
  obtain ⟨hs, h⟩ := h
  refine va_sld C.x C.b A.2.2.2.2.2.2.1 A.2.2.2.2.2.2.2.1 hbA G.2 hs dL_law_1255 ?_
  refine lv_aload_n C.x C.b dL_law_1256 rfl (lv_at hl 0 rfl) ?_
  refine lv_iload C.x C.b dL_law_1257 (lv_at hl 4 rfl) ?_
  refine lv_iconst (v := 2) C.x C.b dL_law_1259 (by decide) ?_
  refine lv_iadd C.x C.b dL_law_1260 ?_
  obtain ⟨hs, h⟩ := h
  refine va_sld C.x C.b A.2.2.2.2.2.2.1 A.2.2.2.2.2.2.2.1 hbA G.2 hs dL_law_1261 ?_
  refine lv_aload_n C.x C.b dL_law_1262 rfl (lv_at hl 3 rfl) ?_
  refine jl_H (n := 4) C G wd977 wd978 wd72 wd979 ⟨by decide +kernel, by decide +kernel, by decide +kernel⟩ h rfl rfl rfl (by decide) (by decide) (by show _ ≤ 601024; omega) (by show _ ≤ 7293034; omega) hl.1 (Nat.le_of_ble_eq_true rfl) dL_law_1263 (fun r1 r1n M2 H locs h G => ?_)
  refine lv_istore (lv' := [(5, .int r1), (0, .ref b), (1, .ref (g 10 0)), (2, .ref (g 11 0)), (3, .ref (g 61 0)), (4, .int i)]) C.x C.b dL_law_1266 hl (by decide) rfl (fun ls hl => ?_)
  refine lv_aload_n C.x C.b dL_law_1268 rfl (lv_at hl 3 rfl) ?_
  refine lv_aload_n C.x C.b dL_law_1269 rfl (lv_at hl 1 rfl) ?_
  refine lv_iload C.x C.b dL_law_1270 (lv_at hl 5 rfl) ?_
  refine lv_iconst (v := 1) C.x C.b dL_law_1272 (by decide) ?_
  refine lv_iadd C.x C.b dL_law_1273 ?_
  obtain ⟨hs, h⟩ := h
  refine va_sld C.x C.b A.2.2.2.2.2.2.1 A.2.2.2.2.2.2.2.1 hbA G.2 hs dL_law_1274 ?_
  refine lv_aload_n C.x C.b dL_law_1275 rfl (lv_at hl 1 rfl) ?_
  refine lv_iload C.x C.b dL_law_1276 (lv_at hl 5 rfl) ?_
  refine lv_iconst (v := 2) C.x C.b dL_law_1278 (by decide) ?_
  refine lv_iadd C.x C.b dL_law_1279 ?_
  obtain ⟨hs, h⟩ := h
  refine va_sld C.x C.b A.2.2.2.2.2.2.1 A.2.2.2.2.2.2.2.1 hbA G.2 hs dL_law_1280 ?_
  refine jl_V (rk := 1) C G jc11 jm_X12_required wd1485 h rfl (show 0 < 1 by decide) (by decide) rfl rfl (by decide) (by decide) (by show _ ≤ 601024; omega) (by show _ ≤ 7293034; omega) hl.1 (Nat.le_of_ble_eq_true rfl) dL_law_1281 (fun r4 r4n M5 H locs h G => ?_)
  refine lv_istore (lv' := [(6, .int r4), (5, .int r1), (0, .ref b), (1, .ref (g 10 0)), (2, .ref (g 11 0)), (3, .ref (g 61 0)), (4, .int i)]) C.x C.b dL_law_1284 hl (by decide) rfl (fun ls hl => ?_)
  refine lv_aload_n C.x C.b dL_law_1286 rfl (lv_at hl 4 rfl) ?_
  refine jl_V (rk := 1) C G jc11 jm_X12_thrown wd1285 (sp_X12_thrown ⟨rfl, rfl⟩ : ok_X12_thrown  M5 (fun r _ M' => (M5 11 0 7) = r ∧ M5 = M')) rfl (show 0 < 1 by decide) (by decide) rfl rfl (by decide) (by decide) (by show _ ≤ 601024; omega) (by show _ ≤ 7293034; omega) hl.1 (Nat.le_of_ble_eq_true rfl) dL_law_1287 (fun r6 r6n M7 H locs hq G => ?_)
  obtain ⟨eq1, eq2⟩ := hq
  subst eq1
  subst eq2
  refine lv_iload C.x C.b dL_law_1290 (lv_at hl 1 rfl) ?_
  refine lv_icmp_eq (tgt := 1297) C.x C.b dL_law_1292 (by decide) (fun hc => ?_) (fun hc => ?_)
  · have h := h.1 hc
    refine lv_iload C.x C.b dL_law_1297 (lv_at hl 1 rfl) ?_
    refine lv_if_ne (tgt := 1314) C.x C.b dL_law_1299 (by decide) (fun hc => ?_) (fun hc => ?_)
    · have h := h.2 hc
      refine lv_goto (tgt := 2175) C.x C.b dL_law_1314 (by decide) ?_
      refine lv_iinc (v := i + 5) (lv' := [(4, .int (i + 5)), (6, .int r4), (5, .int r1), (0, .ref b), (1, .ref (g 10 0)), (2, .ref (g 11 0)), (3, .ref (g 61 0))]) C.x C.b dL_law_2175 hl (k := 6) rfl rfl (by decide) rfl (fun ls hl => ?_)
      refine lv_goto (tgt := 23) C.x C.b dL_law_2178 (by decide) ?_
      refine W.widen (by omega) (by omega) (h p l e s m below meth c b D cA g A C _ _ G ls (lv_sub hl [3, 4, 5, 6, 0] rfl))
    · have h := h.1 hc
      refine lv_aload_n C.x C.b dL_law_1302 rfl (lv_at hl 5 rfl) ?_
      refine lv_iconst (v := 0) C.x C.b dL_law_1303 (by decide) ?_
      refine jr_lald C G (by unfold vp_in; decide) dL_law_1304 ?_
      refine lv_iload C.x C.b dL_law_1305 (lv_at hl 0 rfl) ?_
      refine lv_i2l C.x C.b dL_law_1307 rfl ?_
      refine W.lcmp C.x C.b dL_law_1308 ?_
      refine lv_if_eq (tgt := 1314) C.x C.b dL_law_1309 (by decide) (fun hc => ?_) (fun hc => ?_)
      · have h := h.1 hc
        refine lv_goto (tgt := 2175) C.x C.b dL_law_1314 (by decide) ?_
        refine lv_iinc (v := i + 5) (lv' := [(4, .int (i + 5)), (6, .int r4), (5, .int r1), (0, .ref b), (1, .ref (g 10 0)), (2, .ref (g 11 0)), (3, .ref (g 61 0))]) C.x C.b dL_law_2175 hl (k := 6) rfl rfl (by decide) rfl (fun ls hl => ?_)
        refine lv_goto (tgt := 23) C.x C.b dL_law_2178 (by decide) ?_
        refine W.widen (by omega) (by omega) (h p l e s m below meth c b D cA g A C _ _ G ls (lv_sub hl [3, 4, 5, 6, 0] rfl))
      · have h := h.2 hc
        refine lv_iconst (v := 0) C.x C.b dL_law_1312 (by decide) ?_
        exact h.elim
  · have h := h.2 hc
    refine lv_iconst (v := 0) C.x C.b dL_law_1295 (by decide) ?_
    exact h.elim
set_option maxHeartbeats 4000000 in
set_option maxRecDepth 100000 in
theorem bl_L_1317 {L : Nat} {xs : Nat → Int32} (k : Nat) (i : Int32) (M : jM) (hk : k ≤ 2000)
  (h : vp_in (i + 1) L ∧ vp_in (i + 2) L ∧ ok_L_isAllowed (xs (i + 1).toNatClampNeg) (xs (i + 2).toNatClampNeg) M (fun r1 _ M2 => vp_in (i + 1) L ∧ vp_in (i + 2) L ∧ ok_X12_isAllowed (xs (i + 1).toNatClampNeg) (xs (i + 2).toNatClampNeg) M2 (fun r4 _ M5 => ((M5 11 0 7) = r1 → (r1 = 0 → (r4 = 0 → (lg_cmp (M5 61 0 (0 : Int32).toNatClampNeg).toInt64 (0 : Int32).toInt64 = 0 → at_L_23 L xs (k + 1) (i + 5) M5) ∧ (¬ (lg_cmp (M5 61 0 (0 : Int32).toNatClampNeg).toInt64 (0 : Int32).toInt64 = 0) → False)) ∧ (¬ (r4 = 0) → (lg_cmp (M5 61 0 (0 : Int32).toNatClampNeg).toInt64 (1 : Int32).toInt64 = 0 → at_L_23 L xs (k + 1) (i + 5) M5) ∧ (¬ (lg_cmp (M5 61 0 (0 : Int32).toNatClampNeg).toInt64 (1 : Int32).toInt64 = 0) → False))) ∧ (¬ (r1 = 0) → at_L_23 L xs (k + 1) (i + 5) M5)) ∧ (¬ ((M5 11 0 7) = r1) → False)))) :
  at_L_1317 L xs k i M := by
  intro p l e s m below meth c b D cA g A C H locs G ls hl
  have hbA : ¬ jA s.heap.size b := Nat.not_le.mpr A.2.2.2.2.2.2.2.1
  refine lv_aload_n C.x C.b dL_law_1317 rfl (lv_at hl 1 rfl) ?_
  refine lv_aload_n C.x C.b dL_law_1318 rfl (lv_at hl 0 rfl) ?_
  refine lv_iload C.x C.b dL_law_1319 (lv_at hl 4 rfl) ?_
  refine lv_iconst (v := 1) C.x C.b dL_law_1321 (by decide) ?_
  refine lv_iadd C.x C.b dL_law_1322 ?_
  obtain ⟨hs, h⟩ := h
  refine va_sld C.x C.b A.2.2.2.2.2.2.1 A.2.2.2.2.2.2.2.1 hbA G.2 hs dL_law_1323 ?_
  refine lv_aload_n C.x C.b dL_law_1324 rfl (lv_at hl 0 rfl) ?_
  refine lv_iload C.x C.b dL_law_1325 (lv_at hl 4 rfl) ?_
  refine lv_iconst (v := 2) C.x C.b dL_law_1327 (by decide) ?_
  refine lv_iadd C.x C.b dL_law_1328 ?_
  obtain ⟨hs, h⟩ := h
  refine va_sld C.x C.b A.2.2.2.2.2.2.1 A.2.2.2.2.2.2.2.1 hbA G.2 hs dL_law_1329 ?_
  refine lv_aload_n C.x C.b dL_law_1330 rfl (lv_at hl 3 rfl) ?_
  refine jl_H (n := 4) C G wd985 wd986 wd72 wd987 ⟨by decide +kernel, by decide +kernel, by decide +kernel⟩ h rfl rfl rfl (by decide) (by decide) (by show _ ≤ 601024; omega) (by show _ ≤ 7293034; omega) hl.1 (Nat.le_of_ble_eq_true rfl) dL_law_1331 (fun r1 r1n M2 H locs h G => ?_)
  refine lv_istore (lv' := [(5, .int r1), (0, .ref b), (1, .ref (g 10 0)), (2, .ref (g 11 0)), (3, .ref (g 61 0)), (4, .int i)]) C.x C.b dL_law_1334 hl (by decide) rfl (fun ls hl => ?_)
  refine lv_aload_n C.x C.b dL_law_1336 rfl (lv_at hl 3 rfl) ?_
  refine lv_aload_n C.x C.b dL_law_1337 rfl (lv_at hl 1 rfl) ?_
  refine lv_iload C.x C.b dL_law_1338 (lv_at hl 5 rfl) ?_
  refine lv_iconst (v := 1) C.x C.b dL_law_1340 (by decide) ?_
  refine lv_iadd C.x C.b dL_law_1341 ?_
  obtain ⟨hs, h⟩ := h
  refine va_sld C.x C.b A.2.2.2.2.2.2.1 A.2.2.2.2.2.2.2.1 hbA G.2 hs dL_law_1342 ?_
  refine lv_aload_n C.x C.b dL_law_1343 rfl (lv_at hl 1 rfl) ?_
  refine lv_iload C.x C.b dL_law_1344 (lv_at hl 5 rfl) ?_
  refine lv_iconst (v := 2) C.x C.b dL_law_1346 (by decide) ?_
  refine lv_iadd C.x C.b dL_law_1347 ?_
  obtain ⟨hs, h⟩ := h
  refine va_sld C.x C.b A.2.2.2.2.2.2.1 A.2.2.2.2.2.2.2.1 hbA G.2 hs dL_law_1348 ?_
  refine jl_V (rk := 1) C G jc11 jm_X12_isAllowed wd1489 h rfl (show 0 < 1 by decide) (by decide) rfl rfl (by decide) (by decide) (by show _ ≤ 601024; omega) (by show _ ≤ 7293034; omega) hl.1 (Nat.le_of_ble_eq_true rfl) dL_law_1349 (fun r4 r4n M5 H locs h G => ?_)
  refine lv_istore (lv' := [(6, .int r4), (5, .int r1), (0, .ref b), (1, .ref (g 10 0)), (2, .ref (g 11 0)), (3, .ref (g 61 0)), (4, .int i)]) C.x C.b dL_law_1352 hl (by decide) rfl (fun ls hl => ?_)
  refine lv_aload_n C.x C.b dL_law_1354 rfl (lv_at hl 4 rfl) ?_
  refine jl_V (rk := 1) C G jc11 jm_X12_thrown wd1285 (sp_X12_thrown ⟨rfl, rfl⟩ : ok_X12_thrown  M5 (fun r _ M' => (M5 11 0 7) = r ∧ M5 = M')) rfl (show 0 < 1 by decide) (by decide) rfl rfl (by decide) (by decide) (by show _ ≤ 601024; omega) (by show _ ≤ 7293034; omega) hl.1 (Nat.le_of_ble_eq_true rfl) dL_law_1355 (fun r6 r6n M7 H locs hq G => ?_)
  obtain ⟨eq1, eq2⟩ := hq
  subst eq1
  subst eq2
  refine lv_iload C.x C.b dL_law_1358 (lv_at hl 1 rfl) ?_
  refine lv_icmp_eq (tgt := 1365) C.x C.b dL_law_1360 (by decide) (fun hc => ?_) (fun hc => ?_)
  · have h := h.1 hc
    refine lv_iload C.x C.b dL_law_1365 (lv_at hl 1 rfl) ?_
    refine lv_if_ne (tgt := 1389) C.x C.b dL_law_1367 (by decide) (fun hc => ?_) (fun hc => ?_)
    · have h := h.2 hc
      refine lv_goto (tgt := 2175) C.x C.b dL_law_1389 (by decide) ?_
      refine lv_iinc (v := i + 5) (lv' := [(4, .int (i + 5)), (6, .int r4), (5, .int r1), (0, .ref b), (1, .ref (g 10 0)), (2, .ref (g 11 0)), (3, .ref (g 61 0))]) C.x C.b dL_law_2175 hl (k := 6) rfl rfl (by decide) rfl (fun ls hl => ?_)
      refine lv_goto (tgt := 23) C.x C.b dL_law_2178 (by decide) ?_
      refine W.widen (by omega) (by omega) (h p l e s m below meth c b D cA g A C _ _ G ls (lv_sub hl [3, 4, 5, 6, 0] rfl))
    · have h := h.1 hc
      refine lv_aload_n C.x C.b dL_law_1370 rfl (lv_at hl 5 rfl) ?_
      refine lv_iconst (v := 0) C.x C.b dL_law_1371 (by decide) ?_
      refine jr_lald C G (by unfold vp_in; decide) dL_law_1372 ?_
      refine lv_iload C.x C.b dL_law_1373 (lv_at hl 0 rfl) ?_
      refine lv_if_eq (tgt := 1382) C.x C.b dL_law_1375 (by decide) (fun hc => ?_) (fun hc => ?_)
      · have h := h.1 hc
        refine lv_lconst (v := (0 : Int32).toInt64) C.x C.b dL_law_1382 (by decide) ?_
        refine W.lcmp C.x C.b dL_law_1383 ?_
        refine lv_if_eq (tgt := 1389) C.x C.b dL_law_1384 (by decide) (fun hc => ?_) (fun hc => ?_)
        · have h := h.1 hc
          refine lv_goto (tgt := 2175) C.x C.b dL_law_1389 (by decide) ?_
          refine lv_iinc (v := i + 5) (lv' := [(4, .int (i + 5)), (6, .int r4), (5, .int r1), (0, .ref b), (1, .ref (g 10 0)), (2, .ref (g 11 0)), (3, .ref (g 61 0))]) C.x C.b dL_law_2175 hl (k := 6) rfl rfl (by decide) rfl (fun ls hl => ?_)
          refine lv_goto (tgt := 23) C.x C.b dL_law_2178 (by decide) ?_
          refine W.widen (by omega) (by omega) (h p l e s m below meth c b D cA g A C _ _ G ls (lv_sub hl [3, 4, 5, 6, 0] rfl))
        · have h := h.2 hc
          refine lv_iconst (v := 0) C.x C.b dL_law_1387 (by decide) ?_
          exact h.elim
      · have h := h.2 hc
        refine lv_lconst (v := (1 : Int32).toInt64) C.x C.b dL_law_1378 (by decide) ?_
        refine lv_goto (tgt := 1383) C.x C.b dL_law_1379 (by decide) ?_
        refine W.lcmp C.x C.b dL_law_1383 ?_
        refine lv_if_eq (tgt := 1389) C.x C.b dL_law_1384 (by decide) (fun hc => ?_) (fun hc => ?_)
        · have h := h.1 hc
          refine lv_goto (tgt := 2175) C.x C.b dL_law_1389 (by decide) ?_
          refine lv_iinc (v := i + 5) (lv' := [(4, .int (i + 5)), (6, .int r4), (5, .int r1), (0, .ref b), (1, .ref (g 10 0)), (2, .ref (g 11 0)), (3, .ref (g 61 0))]) C.x C.b dL_law_2175 hl (k := 6) rfl rfl (by decide) rfl (fun ls hl => ?_)
          refine lv_goto (tgt := 23) C.x C.b dL_law_2178 (by decide) ?_
          refine W.widen (by omega) (by omega) (h p l e s m below meth c b D cA g A C _ _ G ls (lv_sub hl [3, 4, 5, 6, 0] rfl))
        · have h := h.2 hc
          refine lv_iconst (v := 0) C.x C.b dL_law_1387 (by decide) ?_
          exact h.elim
  · have h := h.2 hc
    refine lv_iconst (v := 0) C.x C.b dL_law_1363 (by decide) ?_
    exact h.elim
set_option maxHeartbeats 4000000 in
set_option maxRecDepth 100000 in
theorem bl_L_1392 {L : Nat} {xs : Nat → Int32} (k : Nat) (i : Int32) (M : jM) (hk : k ≤ 2000)
  (h : vp_in (i + 1) L ∧ ok_L_groupCount (xs (i + 1).toNatClampNeg) M (fun r1 _ M2 => vp_in (i + 1) L ∧ ok_X12_groupCount (xs (i + 1).toNatClampNeg) M2 (fun r4 _ M5 => ((M5 11 0 7) = r1 → (r1 = 0 → (lg_cmp (M5 61 0 (0 : Int32).toNatClampNeg).toInt64 r4.toInt64 = 0 → at_L_23 L xs (k + 1) (i + 5) M5) ∧ (¬ (lg_cmp (M5 61 0 (0 : Int32).toNatClampNeg).toInt64 r4.toInt64 = 0) → False)) ∧ (¬ (r1 = 0) → at_L_23 L xs (k + 1) (i + 5) M5)) ∧ (¬ ((M5 11 0 7) = r1) → False)))) :
  at_L_1392 L xs k i M := by
  intro p l e s m below meth c b D cA g A C H locs G ls hl
  have hbA : ¬ jA s.heap.size b := Nat.not_le.mpr A.2.2.2.2.2.2.2.1
  refine lv_aload_n C.x C.b dL_law_1392 rfl (lv_at hl 1 rfl) ?_
  refine lv_aload_n C.x C.b dL_law_1393 rfl (lv_at hl 0 rfl) ?_
  refine lv_iload C.x C.b dL_law_1394 (lv_at hl 4 rfl) ?_
  refine lv_iconst (v := 1) C.x C.b dL_law_1396 (by decide) ?_
  refine lv_iadd C.x C.b dL_law_1397 ?_
  obtain ⟨hs, h⟩ := h
  refine va_sld C.x C.b A.2.2.2.2.2.2.1 A.2.2.2.2.2.2.2.1 hbA G.2 hs dL_law_1398 ?_
  refine lv_aload_n C.x C.b dL_law_1399 rfl (lv_at hl 3 rfl) ?_
  refine jl_H (n := 3) C G wd1016 wd1017 wd72 wd1018 ⟨by decide +kernel, by decide +kernel, by decide +kernel⟩ h rfl rfl rfl (by decide) (by decide) (by show _ ≤ 601024; omega) (by show _ ≤ 7293034; omega) hl.1 (Nat.le_of_ble_eq_true rfl) dL_law_1400 (fun r1 r1n M2 H locs h G => ?_)
  refine lv_istore (lv' := [(5, .int r1), (0, .ref b), (1, .ref (g 10 0)), (2, .ref (g 11 0)), (3, .ref (g 61 0)), (4, .int i)]) C.x C.b dL_law_1403 hl (by decide) rfl (fun ls hl => ?_)
  refine lv_aload_n C.x C.b dL_law_1405 rfl (lv_at hl 3 rfl) ?_
  refine lv_aload_n C.x C.b dL_law_1406 rfl (lv_at hl 1 rfl) ?_
  refine lv_iload C.x C.b dL_law_1407 (lv_at hl 5 rfl) ?_
  refine lv_iconst (v := 1) C.x C.b dL_law_1409 (by decide) ?_
  refine lv_iadd C.x C.b dL_law_1410 ?_
  obtain ⟨hs, h⟩ := h
  refine va_sld C.x C.b A.2.2.2.2.2.2.1 A.2.2.2.2.2.2.2.1 hbA G.2 hs dL_law_1411 ?_
  refine jl_V (rk := 1) C G jc11 jm_X12_groupCount wd1510 h rfl (show 0 < 1 by decide) (by decide) rfl rfl (by decide) (by decide) (by show _ ≤ 601024; omega) (by show _ ≤ 7293034; omega) hl.1 (Nat.le_of_ble_eq_true rfl) dL_law_1412 (fun r4 r4n M5 H locs h G => ?_)
  refine lv_istore (lv' := [(6, .int r4), (5, .int r1), (0, .ref b), (1, .ref (g 10 0)), (2, .ref (g 11 0)), (3, .ref (g 61 0)), (4, .int i)]) C.x C.b dL_law_1415 hl (by decide) rfl (fun ls hl => ?_)
  refine lv_aload_n C.x C.b dL_law_1417 rfl (lv_at hl 4 rfl) ?_
  refine jl_V (rk := 1) C G jc11 jm_X12_thrown wd1285 (sp_X12_thrown ⟨rfl, rfl⟩ : ok_X12_thrown  M5 (fun r _ M' => (M5 11 0 7) = r ∧ M5 = M')) rfl (show 0 < 1 by decide) (by decide) rfl rfl (by decide) (by decide) (by show _ ≤ 601024; omega) (by show _ ≤ 7293034; omega) hl.1 (Nat.le_of_ble_eq_true rfl) dL_law_1418 (fun r6 r6n M7 H locs hq G => ?_)
  obtain ⟨eq1, eq2⟩ := hq
  subst eq1
  subst eq2
  refine lv_iload C.x C.b dL_law_1421 (lv_at hl 1 rfl) ?_
  refine lv_icmp_eq (tgt := 1428) C.x C.b dL_law_1423 (by decide) (fun hc => ?_) (fun hc => ?_)
  · have h := h.1 hc
    refine lv_iload C.x C.b dL_law_1428 (lv_at hl 1 rfl) ?_
    refine lv_if_ne (tgt := 1445) C.x C.b dL_law_1430 (by decide) (fun hc => ?_) (fun hc => ?_)
    · have h := h.2 hc
      refine lv_goto (tgt := 2175) C.x C.b dL_law_1445 (by decide) ?_
      refine lv_iinc (v := i + 5) (lv' := [(4, .int (i + 5)), (6, .int r4), (5, .int r1), (0, .ref b), (1, .ref (g 10 0)), (2, .ref (g 11 0)), (3, .ref (g 61 0))]) C.x C.b dL_law_2175 hl (k := 6) rfl rfl (by decide) rfl (fun ls hl => ?_)
      refine lv_goto (tgt := 23) C.x C.b dL_law_2178 (by decide) ?_
      refine W.widen (by omega) (by omega) (h p l e s m below meth c b D cA g A C _ _ G ls (lv_sub hl [3, 4, 5, 6, 0] rfl))
    · have h := h.1 hc
      refine lv_aload_n C.x C.b dL_law_1433 rfl (lv_at hl 5 rfl) ?_
      refine lv_iconst (v := 0) C.x C.b dL_law_1434 (by decide) ?_
      refine jr_lald C G (by unfold vp_in; decide) dL_law_1435 ?_
      refine lv_iload C.x C.b dL_law_1436 (lv_at hl 0 rfl) ?_
      refine lv_i2l C.x C.b dL_law_1438 rfl ?_
      refine W.lcmp C.x C.b dL_law_1439 ?_
      refine lv_if_eq (tgt := 1445) C.x C.b dL_law_1440 (by decide) (fun hc => ?_) (fun hc => ?_)
      · have h := h.1 hc
        refine lv_goto (tgt := 2175) C.x C.b dL_law_1445 (by decide) ?_
        refine lv_iinc (v := i + 5) (lv' := [(4, .int (i + 5)), (6, .int r4), (5, .int r1), (0, .ref b), (1, .ref (g 10 0)), (2, .ref (g 11 0)), (3, .ref (g 61 0))]) C.x C.b dL_law_2175 hl (k := 6) rfl rfl (by decide) rfl (fun ls hl => ?_)
        refine lv_goto (tgt := 23) C.x C.b dL_law_2178 (by decide) ?_
        refine W.widen (by omega) (by omega) (h p l e s m below meth c b D cA g A C _ _ G ls (lv_sub hl [3, 4, 5, 6, 0] rfl))
      · have h := h.2 hc
        refine lv_iconst (v := 0) C.x C.b dL_law_1443 (by decide) ?_
        exact h.elim
  · have h := h.2 hc
    refine lv_iconst (v := 0) C.x C.b dL_law_1426 (by decide) ?_
    exact h.elim
set_option maxHeartbeats 4000000 in
set_option maxRecDepth 100000 in
theorem bl_L_1448 {L : Nat} {xs : Nat → Int32} (k : Nat) (i : Int32) (M : jM) (hk : k ≤ 2000)
  (h : vp_in (i + 1) L ∧ vp_in (i + 2) L ∧ ok_L_groupOf (xs (i + 1).toNatClampNeg) (xs (i + 2).toNatClampNeg) M (fun r1 _ M2 => vp_in (i + 1) L ∧ vp_in (i + 2) L ∧ ok_X12_groupOf (xs (i + 1).toNatClampNeg) (xs (i + 2).toNatClampNeg) M2 (fun r4 _ M5 => ((M5 11 0 7) = r1 → (r1 = 0 → (lg_cmp (M5 61 0 (0 : Int32).toNatClampNeg).toInt64 r4.toInt64 = 0 → at_L_23 L xs (k + 1) (i + 5) M5) ∧ (¬ (lg_cmp (M5 61 0 (0 : Int32).toNatClampNeg).toInt64 r4.toInt64 = 0) → False)) ∧ (¬ (r1 = 0) → at_L_23 L xs (k + 1) (i + 5) M5)) ∧ (¬ ((M5 11 0 7) = r1) → False)))) :
  at_L_1448 L xs k i M := by
  intro p l e s m below meth c b D cA g A C H locs G ls hl
  have hbA : ¬ jA s.heap.size b := Nat.not_le.mpr A.2.2.2.2.2.2.2.1
  refine lv_aload_n C.x C.b dL_law_1448 rfl (lv_at hl 1 rfl) ?_
  refine lv_aload_n C.x C.b dL_law_1449 rfl (lv_at hl 0 rfl) ?_
  refine lv_iload C.x C.b dL_law_1450 (lv_at hl 4 rfl) ?_
  refine lv_iconst (v := 1) C.x C.b dL_law_1452 (by decide) ?_
  refine lv_iadd C.x C.b dL_law_1453 ?_
  obtain ⟨hs, h⟩ := h
  refine va_sld C.x C.b A.2.2.2.2.2.2.1 A.2.2.2.2.2.2.2.1 hbA G.2 hs dL_law_1454 ?_
  refine lv_aload_n C.x C.b dL_law_1455 rfl (lv_at hl 0 rfl) ?_
  refine lv_iload C.x C.b dL_law_1456 (lv_at hl 4 rfl) ?_
  refine lv_iconst (v := 2) C.x C.b dL_law_1458 (by decide) ?_
  refine lv_iadd C.x C.b dL_law_1459 ?_
  obtain ⟨hs, h⟩ := h
  refine va_sld C.x C.b A.2.2.2.2.2.2.1 A.2.2.2.2.2.2.2.1 hbA G.2 hs dL_law_1460 ?_
  refine lv_aload_n C.x C.b dL_law_1461 rfl (lv_at hl 3 rfl) ?_
  refine jl_H (n := 4) C G wd1074 wd1075 wd72 wd1076 ⟨by decide +kernel, by decide +kernel, by decide +kernel⟩ h rfl rfl rfl (by decide) (by decide) (by show _ ≤ 601024; omega) (by show _ ≤ 7293034; omega) hl.1 (Nat.le_of_ble_eq_true rfl) dL_law_1462 (fun r1 r1n M2 H locs h G => ?_)
  refine lv_istore (lv' := [(5, .int r1), (0, .ref b), (1, .ref (g 10 0)), (2, .ref (g 11 0)), (3, .ref (g 61 0)), (4, .int i)]) C.x C.b dL_law_1465 hl (by decide) rfl (fun ls hl => ?_)
  refine lv_aload_n C.x C.b dL_law_1467 rfl (lv_at hl 3 rfl) ?_
  refine lv_aload_n C.x C.b dL_law_1468 rfl (lv_at hl 1 rfl) ?_
  refine lv_iload C.x C.b dL_law_1469 (lv_at hl 5 rfl) ?_
  refine lv_iconst (v := 1) C.x C.b dL_law_1471 (by decide) ?_
  refine lv_iadd C.x C.b dL_law_1472 ?_
  obtain ⟨hs, h⟩ := h
  refine va_sld C.x C.b A.2.2.2.2.2.2.1 A.2.2.2.2.2.2.2.1 hbA G.2 hs dL_law_1473 ?_
  refine lv_aload_n C.x C.b dL_law_1474 rfl (lv_at hl 1 rfl) ?_
  refine lv_iload C.x C.b dL_law_1475 (lv_at hl 5 rfl) ?_
  refine lv_iconst (v := 2) C.x C.b dL_law_1477 (by decide) ?_
  refine lv_iadd C.x C.b dL_law_1478 ?_
  obtain ⟨hs, h⟩ := h
  refine va_sld C.x C.b A.2.2.2.2.2.2.1 A.2.2.2.2.2.2.2.1 hbA G.2 hs dL_law_1479 ?_
  refine jl_V (rk := 1) C G jc11 jm_X12_groupOf wd1540 h rfl (show 0 < 1 by decide) (by decide) rfl rfl (by decide) (by decide) (by show _ ≤ 601024; omega) (by show _ ≤ 7293034; omega) hl.1 (Nat.le_of_ble_eq_true rfl) dL_law_1480 (fun r4 r4n M5 H locs h G => ?_)
  refine lv_istore (lv' := [(6, .int r4), (5, .int r1), (0, .ref b), (1, .ref (g 10 0)), (2, .ref (g 11 0)), (3, .ref (g 61 0)), (4, .int i)]) C.x C.b dL_law_1483 hl (by decide) rfl (fun ls hl => ?_)
  refine lv_aload_n C.x C.b dL_law_1485 rfl (lv_at hl 4 rfl) ?_
  refine jl_V (rk := 1) C G jc11 jm_X12_thrown wd1285 (sp_X12_thrown ⟨rfl, rfl⟩ : ok_X12_thrown  M5 (fun r _ M' => (M5 11 0 7) = r ∧ M5 = M')) rfl (show 0 < 1 by decide) (by decide) rfl rfl (by decide) (by decide) (by show _ ≤ 601024; omega) (by show _ ≤ 7293034; omega) hl.1 (Nat.le_of_ble_eq_true rfl) dL_law_1486 (fun r6 r6n M7 H locs hq G => ?_)
  obtain ⟨eq1, eq2⟩ := hq
  subst eq1
  subst eq2
  refine lv_iload C.x C.b dL_law_1489 (lv_at hl 1 rfl) ?_
  refine lv_icmp_eq (tgt := 1496) C.x C.b dL_law_1491 (by decide) (fun hc => ?_) (fun hc => ?_)
  · have h := h.1 hc
    refine lv_iload C.x C.b dL_law_1496 (lv_at hl 1 rfl) ?_
    refine lv_if_ne (tgt := 1513) C.x C.b dL_law_1498 (by decide) (fun hc => ?_) (fun hc => ?_)
    · have h := h.2 hc
      refine lv_goto (tgt := 2175) C.x C.b dL_law_1513 (by decide) ?_
      refine lv_iinc (v := i + 5) (lv' := [(4, .int (i + 5)), (6, .int r4), (5, .int r1), (0, .ref b), (1, .ref (g 10 0)), (2, .ref (g 11 0)), (3, .ref (g 61 0))]) C.x C.b dL_law_2175 hl (k := 6) rfl rfl (by decide) rfl (fun ls hl => ?_)
      refine lv_goto (tgt := 23) C.x C.b dL_law_2178 (by decide) ?_
      refine W.widen (by omega) (by omega) (h p l e s m below meth c b D cA g A C _ _ G ls (lv_sub hl [3, 4, 5, 6, 0] rfl))
    · have h := h.1 hc
      refine lv_aload_n C.x C.b dL_law_1501 rfl (lv_at hl 5 rfl) ?_
      refine lv_iconst (v := 0) C.x C.b dL_law_1502 (by decide) ?_
      refine jr_lald C G (by unfold vp_in; decide) dL_law_1503 ?_
      refine lv_iload C.x C.b dL_law_1504 (lv_at hl 0 rfl) ?_
      refine lv_i2l C.x C.b dL_law_1506 rfl ?_
      refine W.lcmp C.x C.b dL_law_1507 ?_
      refine lv_if_eq (tgt := 1513) C.x C.b dL_law_1508 (by decide) (fun hc => ?_) (fun hc => ?_)
      · have h := h.1 hc
        refine lv_goto (tgt := 2175) C.x C.b dL_law_1513 (by decide) ?_
        refine lv_iinc (v := i + 5) (lv' := [(4, .int (i + 5)), (6, .int r4), (5, .int r1), (0, .ref b), (1, .ref (g 10 0)), (2, .ref (g 11 0)), (3, .ref (g 61 0))]) C.x C.b dL_law_2175 hl (k := 6) rfl rfl (by decide) rfl (fun ls hl => ?_)
        refine lv_goto (tgt := 23) C.x C.b dL_law_2178 (by decide) ?_
        refine W.widen (by omega) (by omega) (h p l e s m below meth c b D cA g A C _ _ G ls (lv_sub hl [3, 4, 5, 6, 0] rfl))
      · have h := h.2 hc
        refine lv_iconst (v := 0) C.x C.b dL_law_1511 (by decide) ?_
        exact h.elim
  · have h := h.2 hc
    refine lv_iconst (v := 0) C.x C.b dL_law_1494 (by decide) ?_
    exact h.elim
set_option maxHeartbeats 4000000 in
set_option maxRecDepth 100000 in
theorem bl_L_1516 {L : Nat} {xs : Nat → Int32} (k : Nat) (i : Int32) (M : jM) (hk : k ≤ 2000)
  (h : vp_in (i + 1) L ∧ vp_in (i + 2) L ∧ ok_L_shift (xs (i + 1).toNatClampNeg) (xs (i + 2).toNatClampNeg) M (fun r1 _ M2 => vp_in (i + 1) L ∧ vp_in (i + 2) L ∧ ok_X12_shift (xs (i + 1).toNatClampNeg) (xs (i + 2).toNatClampNeg) M2 (fun r4 _ M5 => ((M5 11 0 7) = r1 → (r1 = 0 → (lg_cmp (M5 61 0 (0 : Int32).toNatClampNeg).toInt64 r4.toInt64 = 0 → at_L_23 L xs (k + 1) (i + 5) M5) ∧ (¬ (lg_cmp (M5 61 0 (0 : Int32).toNatClampNeg).toInt64 r4.toInt64 = 0) → False)) ∧ (¬ (r1 = 0) → at_L_23 L xs (k + 1) (i + 5) M5)) ∧ (¬ ((M5 11 0 7) = r1) → False)))) :
  at_L_1516 L xs k i M := by
  intro p l e s m below meth c b D cA g A C H locs G ls hl
  have hbA : ¬ jA s.heap.size b := Nat.not_le.mpr A.2.2.2.2.2.2.2.1
  refine lv_aload_n C.x C.b dL_law_1516 rfl (lv_at hl 1 rfl) ?_
  refine lv_aload_n C.x C.b dL_law_1517 rfl (lv_at hl 0 rfl) ?_
  refine lv_iload C.x C.b dL_law_1518 (lv_at hl 4 rfl) ?_
  refine lv_iconst (v := 1) C.x C.b dL_law_1520 (by decide) ?_
  refine lv_iadd C.x C.b dL_law_1521 ?_
  obtain ⟨hs, h⟩ := h
  refine va_sld C.x C.b A.2.2.2.2.2.2.1 A.2.2.2.2.2.2.2.1 hbA G.2 hs dL_law_1522 ?_
  refine lv_aload_n C.x C.b dL_law_1523 rfl (lv_at hl 0 rfl) ?_
  refine lv_iload C.x C.b dL_law_1524 (lv_at hl 4 rfl) ?_
  refine lv_iconst (v := 2) C.x C.b dL_law_1526 (by decide) ?_
  refine lv_iadd C.x C.b dL_law_1527 ?_
  obtain ⟨hs, h⟩ := h
  refine va_sld C.x C.b A.2.2.2.2.2.2.1 A.2.2.2.2.2.2.2.1 hbA G.2 hs dL_law_1528 ?_
  refine lv_aload_n C.x C.b dL_law_1529 rfl (lv_at hl 3 rfl) ?_
  refine jl_H (n := 4) C G wd1085 wd1086 wd72 wd1087 ⟨by decide +kernel, by decide +kernel, by decide +kernel⟩ h rfl rfl rfl (by decide) (by decide) (by show _ ≤ 601024; omega) (by show _ ≤ 7293034; omega) hl.1 (Nat.le_of_ble_eq_true rfl) dL_law_1530 (fun r1 r1n M2 H locs h G => ?_)
  refine lv_istore (lv' := [(5, .int r1), (0, .ref b), (1, .ref (g 10 0)), (2, .ref (g 11 0)), (3, .ref (g 61 0)), (4, .int i)]) C.x C.b dL_law_1533 hl (by decide) rfl (fun ls hl => ?_)
  refine lv_aload_n C.x C.b dL_law_1535 rfl (lv_at hl 3 rfl) ?_
  refine lv_aload_n C.x C.b dL_law_1536 rfl (lv_at hl 1 rfl) ?_
  refine lv_iload C.x C.b dL_law_1537 (lv_at hl 5 rfl) ?_
  refine lv_iconst (v := 1) C.x C.b dL_law_1539 (by decide) ?_
  refine lv_iadd C.x C.b dL_law_1540 ?_
  obtain ⟨hs, h⟩ := h
  refine va_sld C.x C.b A.2.2.2.2.2.2.1 A.2.2.2.2.2.2.2.1 hbA G.2 hs dL_law_1541 ?_
  refine lv_aload_n C.x C.b dL_law_1542 rfl (lv_at hl 1 rfl) ?_
  refine lv_iload C.x C.b dL_law_1543 (lv_at hl 5 rfl) ?_
  refine lv_iconst (v := 2) C.x C.b dL_law_1545 (by decide) ?_
  refine lv_iadd C.x C.b dL_law_1546 ?_
  obtain ⟨hs, h⟩ := h
  refine va_sld C.x C.b A.2.2.2.2.2.2.1 A.2.2.2.2.2.2.2.1 hbA G.2 hs dL_law_1547 ?_
  refine jl_V (rk := 1) C G jc11 jm_X12_shift wd1552 h rfl (show 0 < 1 by decide) (by decide) rfl rfl (by decide) (by decide) (by show _ ≤ 601024; omega) (by show _ ≤ 7293034; omega) hl.1 (Nat.le_of_ble_eq_true rfl) dL_law_1548 (fun r4 r4n M5 H locs h G => ?_)
  refine lv_istore (lv' := [(6, .int r4), (5, .int r1), (0, .ref b), (1, .ref (g 10 0)), (2, .ref (g 11 0)), (3, .ref (g 61 0)), (4, .int i)]) C.x C.b dL_law_1551 hl (by decide) rfl (fun ls hl => ?_)
  refine lv_aload_n C.x C.b dL_law_1553 rfl (lv_at hl 4 rfl) ?_
  refine jl_V (rk := 1) C G jc11 jm_X12_thrown wd1285 (sp_X12_thrown ⟨rfl, rfl⟩ : ok_X12_thrown  M5 (fun r _ M' => (M5 11 0 7) = r ∧ M5 = M')) rfl (show 0 < 1 by decide) (by decide) rfl rfl (by decide) (by decide) (by show _ ≤ 601024; omega) (by show _ ≤ 7293034; omega) hl.1 (Nat.le_of_ble_eq_true rfl) dL_law_1554 (fun r6 r6n M7 H locs hq G => ?_)
  obtain ⟨eq1, eq2⟩ := hq
  subst eq1
  subst eq2
  refine lv_iload C.x C.b dL_law_1557 (lv_at hl 1 rfl) ?_
  refine lv_icmp_eq (tgt := 1564) C.x C.b dL_law_1559 (by decide) (fun hc => ?_) (fun hc => ?_)
  · have h := h.1 hc
    refine lv_iload C.x C.b dL_law_1564 (lv_at hl 1 rfl) ?_
    refine lv_if_ne (tgt := 1581) C.x C.b dL_law_1566 (by decide) (fun hc => ?_) (fun hc => ?_)
    · have h := h.2 hc
      refine lv_goto (tgt := 2175) C.x C.b dL_law_1581 (by decide) ?_
      refine lv_iinc (v := i + 5) (lv' := [(4, .int (i + 5)), (6, .int r4), (5, .int r1), (0, .ref b), (1, .ref (g 10 0)), (2, .ref (g 11 0)), (3, .ref (g 61 0))]) C.x C.b dL_law_2175 hl (k := 6) rfl rfl (by decide) rfl (fun ls hl => ?_)
      refine lv_goto (tgt := 23) C.x C.b dL_law_2178 (by decide) ?_
      refine W.widen (by omega) (by omega) (h p l e s m below meth c b D cA g A C _ _ G ls (lv_sub hl [3, 4, 5, 6, 0] rfl))
    · have h := h.1 hc
      refine lv_aload_n C.x C.b dL_law_1569 rfl (lv_at hl 5 rfl) ?_
      refine lv_iconst (v := 0) C.x C.b dL_law_1570 (by decide) ?_
      refine jr_lald C G (by unfold vp_in; decide) dL_law_1571 ?_
      refine lv_iload C.x C.b dL_law_1572 (lv_at hl 0 rfl) ?_
      refine lv_i2l C.x C.b dL_law_1574 rfl ?_
      refine W.lcmp C.x C.b dL_law_1575 ?_
      refine lv_if_eq (tgt := 1581) C.x C.b dL_law_1576 (by decide) (fun hc => ?_) (fun hc => ?_)
      · have h := h.1 hc
        refine lv_goto (tgt := 2175) C.x C.b dL_law_1581 (by decide) ?_
        refine lv_iinc (v := i + 5) (lv' := [(4, .int (i + 5)), (6, .int r4), (5, .int r1), (0, .ref b), (1, .ref (g 10 0)), (2, .ref (g 11 0)), (3, .ref (g 61 0))]) C.x C.b dL_law_2175 hl (k := 6) rfl rfl (by decide) rfl (fun ls hl => ?_)
        refine lv_goto (tgt := 23) C.x C.b dL_law_2178 (by decide) ?_
        refine W.widen (by omega) (by omega) (h p l e s m below meth c b D cA g A C _ _ G ls (lv_sub hl [3, 4, 5, 6, 0] rfl))
      · have h := h.2 hc
        refine lv_iconst (v := 0) C.x C.b dL_law_1579 (by decide) ?_
        exact h.elim
  · have h := h.2 hc
    refine lv_iconst (v := 0) C.x C.b dL_law_1562 (by decide) ?_
    exact h.elim
set_option maxHeartbeats 4000000 in
set_option maxRecDepth 100000 in
theorem bl_L_1584 {L : Nat} {xs : Nat → Int32} (k : Nat) (i : Int32) (M : jM) (hk : k ≤ 2000)
  (h : vp_in (i + 1) L ∧ vp_in (i + 2) L ∧ vp_in (i + 3) L ∧ ok_L_step (xs (i + 1).toNatClampNeg) (xs (i + 2).toNatClampNeg) (xs (i + 3).toNatClampNeg) M (fun r1 _ M2 => vp_in (i + 1) L ∧ vp_in (i + 2) L ∧ vp_in (i + 3) L ∧ ok_X12_step (xs (i + 1).toNatClampNeg) (xs (i + 2).toNatClampNeg) (xs (i + 3).toNatClampNeg) M2 (fun r4 _ M5 => ((M5 11 0 7) = r1 → (r1 = 0 → (lg_cmp (M5 61 0 (0 : Int32).toNatClampNeg).toInt64 r4.toInt64 = 0 → at_L_23 L xs (k + 1) (i + 5) M5) ∧ (¬ (lg_cmp (M5 61 0 (0 : Int32).toNatClampNeg).toInt64 r4.toInt64 = 0) → False)) ∧ (¬ (r1 = 0) → at_L_23 L xs (k + 1) (i + 5) M5)) ∧ (¬ ((M5 11 0 7) = r1) → False)))) :
  at_L_1584 L xs k i M := by
  intro p l e s m below meth c b D cA g A C H locs G ls hl
  have hbA : ¬ jA s.heap.size b := Nat.not_le.mpr A.2.2.2.2.2.2.2.1
  refine lv_aload_n C.x C.b dL_law_1584 rfl (lv_at hl 1 rfl) ?_
  refine lv_aload_n C.x C.b dL_law_1585 rfl (lv_at hl 0 rfl) ?_
  refine lv_iload C.x C.b dL_law_1586 (lv_at hl 4 rfl) ?_
  refine lv_iconst (v := 1) C.x C.b dL_law_1588 (by decide) ?_
  refine lv_iadd C.x C.b dL_law_1589 ?_
  obtain ⟨hs, h⟩ := h
  refine va_sld C.x C.b A.2.2.2.2.2.2.1 A.2.2.2.2.2.2.2.1 hbA G.2 hs dL_law_1590 ?_
  refine lv_aload_n C.x C.b dL_law_1591 rfl (lv_at hl 0 rfl) ?_
  refine lv_iload C.x C.b dL_law_1592 (lv_at hl 4 rfl) ?_
  refine lv_iconst (v := 2) C.x C.b dL_law_1594 (by decide) ?_
  refine lv_iadd C.x C.b dL_law_1595 ?_
  obtain ⟨hs, h⟩ := h
  refine va_sld C.x C.b A.2.2.2.2.2.2.1 A.2.2.2.2.2.2.2.1 hbA G.2 hs dL_law_1596 ?_
  refine lv_aload_n C.x C.b dL_law_1597 rfl (lv_at hl 0 rfl) ?_
  refine lv_iload C.x C.b dL_law_1598 (lv_at hl 4 rfl) ?_
  refine lv_iconst (v := 3) C.x C.b dL_law_1600 (by decide) ?_
  refine lv_iadd C.x C.b dL_law_1601 ?_
  obtain ⟨hs, h⟩ := h
  refine va_sld C.x C.b A.2.2.2.2.2.2.1 A.2.2.2.2.2.2.2.1 hbA G.2 hs dL_law_1602 ?_
  refine lv_aload_n C.x C.b dL_law_1603 rfl (lv_at hl 3 rfl) ?_
  refine jl_H (n := 5) C G wd1096 wd1097 wd72 wd1098 ⟨by decide +kernel, by decide +kernel, by decide +kernel⟩ h rfl rfl rfl (by decide) (by decide) (by show _ ≤ 601024; omega) (by show _ ≤ 7293034; omega) hl.1 (Nat.le_of_ble_eq_true rfl) dL_law_1604 (fun r1 r1n M2 H locs h G => ?_)
  refine lv_istore (lv' := [(5, .int r1), (0, .ref b), (1, .ref (g 10 0)), (2, .ref (g 11 0)), (3, .ref (g 61 0)), (4, .int i)]) C.x C.b dL_law_1607 hl (by decide) rfl (fun ls hl => ?_)
  refine lv_aload_n C.x C.b dL_law_1609 rfl (lv_at hl 3 rfl) ?_
  refine lv_aload_n C.x C.b dL_law_1610 rfl (lv_at hl 1 rfl) ?_
  refine lv_iload C.x C.b dL_law_1611 (lv_at hl 5 rfl) ?_
  refine lv_iconst (v := 1) C.x C.b dL_law_1613 (by decide) ?_
  refine lv_iadd C.x C.b dL_law_1614 ?_
  obtain ⟨hs, h⟩ := h
  refine va_sld C.x C.b A.2.2.2.2.2.2.1 A.2.2.2.2.2.2.2.1 hbA G.2 hs dL_law_1615 ?_
  refine lv_aload_n C.x C.b dL_law_1616 rfl (lv_at hl 1 rfl) ?_
  refine lv_iload C.x C.b dL_law_1617 (lv_at hl 5 rfl) ?_
  refine lv_iconst (v := 2) C.x C.b dL_law_1619 (by decide) ?_
  refine lv_iadd C.x C.b dL_law_1620 ?_
  obtain ⟨hs, h⟩ := h
  refine va_sld C.x C.b A.2.2.2.2.2.2.1 A.2.2.2.2.2.2.2.1 hbA G.2 hs dL_law_1621 ?_
  refine lv_aload_n C.x C.b dL_law_1622 rfl (lv_at hl 1 rfl) ?_
  refine lv_iload C.x C.b dL_law_1623 (lv_at hl 5 rfl) ?_
  refine lv_iconst (v := 3) C.x C.b dL_law_1625 (by decide) ?_
  refine lv_iadd C.x C.b dL_law_1626 ?_
  obtain ⟨hs, h⟩ := h
  refine va_sld C.x C.b A.2.2.2.2.2.2.1 A.2.2.2.2.2.2.2.1 hbA G.2 hs dL_law_1627 ?_
  refine jl_V (rk := 1) C G jc11 jm_X12_step wd1556 h rfl (show 0 < 1 by decide) (by decide) rfl rfl (by decide) (by decide) (by show _ ≤ 601024; omega) (by show _ ≤ 7293034; omega) hl.1 (Nat.le_of_ble_eq_true rfl) dL_law_1628 (fun r4 r4n M5 H locs h G => ?_)
  refine lv_istore (lv' := [(6, .int r4), (5, .int r1), (0, .ref b), (1, .ref (g 10 0)), (2, .ref (g 11 0)), (3, .ref (g 61 0)), (4, .int i)]) C.x C.b dL_law_1631 hl (by decide) rfl (fun ls hl => ?_)
  refine lv_aload_n C.x C.b dL_law_1633 rfl (lv_at hl 4 rfl) ?_
  refine jl_V (rk := 1) C G jc11 jm_X12_thrown wd1285 (sp_X12_thrown ⟨rfl, rfl⟩ : ok_X12_thrown  M5 (fun r _ M' => (M5 11 0 7) = r ∧ M5 = M')) rfl (show 0 < 1 by decide) (by decide) rfl rfl (by decide) (by decide) (by show _ ≤ 601024; omega) (by show _ ≤ 7293034; omega) hl.1 (Nat.le_of_ble_eq_true rfl) dL_law_1634 (fun r6 r6n M7 H locs hq G => ?_)
  obtain ⟨eq1, eq2⟩ := hq
  subst eq1
  subst eq2
  refine lv_iload C.x C.b dL_law_1637 (lv_at hl 1 rfl) ?_
  refine lv_icmp_eq (tgt := 1644) C.x C.b dL_law_1639 (by decide) (fun hc => ?_) (fun hc => ?_)
  · have h := h.1 hc
    refine lv_iload C.x C.b dL_law_1644 (lv_at hl 1 rfl) ?_
    refine lv_if_ne (tgt := 1661) C.x C.b dL_law_1646 (by decide) (fun hc => ?_) (fun hc => ?_)
    · have h := h.2 hc
      refine lv_goto (tgt := 2175) C.x C.b dL_law_1661 (by decide) ?_
      refine lv_iinc (v := i + 5) (lv' := [(4, .int (i + 5)), (6, .int r4), (5, .int r1), (0, .ref b), (1, .ref (g 10 0)), (2, .ref (g 11 0)), (3, .ref (g 61 0))]) C.x C.b dL_law_2175 hl (k := 6) rfl rfl (by decide) rfl (fun ls hl => ?_)
      refine lv_goto (tgt := 23) C.x C.b dL_law_2178 (by decide) ?_
      refine W.widen (by omega) (by omega) (h p l e s m below meth c b D cA g A C _ _ G ls (lv_sub hl [3, 4, 5, 6, 0] rfl))
    · have h := h.1 hc
      refine lv_aload_n C.x C.b dL_law_1649 rfl (lv_at hl 5 rfl) ?_
      refine lv_iconst (v := 0) C.x C.b dL_law_1650 (by decide) ?_
      refine jr_lald C G (by unfold vp_in; decide) dL_law_1651 ?_
      refine lv_iload C.x C.b dL_law_1652 (lv_at hl 0 rfl) ?_
      refine lv_i2l C.x C.b dL_law_1654 rfl ?_
      refine W.lcmp C.x C.b dL_law_1655 ?_
      refine lv_if_eq (tgt := 1661) C.x C.b dL_law_1656 (by decide) (fun hc => ?_) (fun hc => ?_)
      · have h := h.1 hc
        refine lv_goto (tgt := 2175) C.x C.b dL_law_1661 (by decide) ?_
        refine lv_iinc (v := i + 5) (lv' := [(4, .int (i + 5)), (6, .int r4), (5, .int r1), (0, .ref b), (1, .ref (g 10 0)), (2, .ref (g 11 0)), (3, .ref (g 61 0))]) C.x C.b dL_law_2175 hl (k := 6) rfl rfl (by decide) rfl (fun ls hl => ?_)
        refine lv_goto (tgt := 23) C.x C.b dL_law_2178 (by decide) ?_
        refine W.widen (by omega) (by omega) (h p l e s m below meth c b D cA g A C _ _ G ls (lv_sub hl [3, 4, 5, 6, 0] rfl))
      · have h := h.2 hc
        refine lv_iconst (v := 0) C.x C.b dL_law_1659 (by decide) ?_
        exact h.elim
  · have h := h.2 hc
    refine lv_iconst (v := 0) C.x C.b dL_law_1642 (by decide) ?_
    exact h.elim
set_option maxHeartbeats 4000000 in
set_option maxRecDepth 100000 in
theorem bl_L_1664 {L : Nat} {xs : Nat → Int32} (k : Nat) (i : Int32) (M : jM) (hk : k ≤ 2000)
  (h : vp_in (i + 1) L ∧ vp_in (i + 2) L ∧ vp_in (i + 3) L ∧ ok_L_peeled (xs (i + 1).toNatClampNeg) (xs (i + 2).toNatClampNeg) (xs (i + 3).toNatClampNeg) M (fun r1 _ M2 => vp_in (i + 1) L ∧ vp_in (i + 2) L ∧ vp_in (i + 3) L ∧ ok_X12_peeled (xs (i + 1).toNatClampNeg) (xs (i + 2).toNatClampNeg) (xs (i + 3).toNatClampNeg) M2 (fun r4 _ M5 => ((M5 11 0 7) = r1 → (r1 = 0 → (lg_cmp (M5 61 0 (0 : Int32).toNatClampNeg).toInt64 r4.toInt64 = 0 → at_L_23 L xs (k + 1) (i + 5) M5) ∧ (¬ (lg_cmp (M5 61 0 (0 : Int32).toNatClampNeg).toInt64 r4.toInt64 = 0) → False)) ∧ (¬ (r1 = 0) → at_L_23 L xs (k + 1) (i + 5) M5)) ∧ (¬ ((M5 11 0 7) = r1) → False)))) :
  at_L_1664 L xs k i M := by
  intro p l e s m below meth c b D cA g A C H locs G ls hl
  have hbA : ¬ jA s.heap.size b := Nat.not_le.mpr A.2.2.2.2.2.2.2.1
  refine lv_aload_n C.x C.b dL_law_1664 rfl (lv_at hl 1 rfl) ?_
  refine lv_aload_n C.x C.b dL_law_1665 rfl (lv_at hl 0 rfl) ?_
  refine lv_iload C.x C.b dL_law_1666 (lv_at hl 4 rfl) ?_
  refine lv_iconst (v := 1) C.x C.b dL_law_1668 (by decide) ?_
  refine lv_iadd C.x C.b dL_law_1669 ?_
  obtain ⟨hs, h⟩ := h
  refine va_sld C.x C.b A.2.2.2.2.2.2.1 A.2.2.2.2.2.2.2.1 hbA G.2 hs dL_law_1670 ?_
  refine lv_aload_n C.x C.b dL_law_1671 rfl (lv_at hl 0 rfl) ?_
  refine lv_iload C.x C.b dL_law_1672 (lv_at hl 4 rfl) ?_
  refine lv_iconst (v := 2) C.x C.b dL_law_1674 (by decide) ?_
  refine lv_iadd C.x C.b dL_law_1675 ?_
  obtain ⟨hs, h⟩ := h
  refine va_sld C.x C.b A.2.2.2.2.2.2.1 A.2.2.2.2.2.2.2.1 hbA G.2 hs dL_law_1676 ?_
  refine lv_aload_n C.x C.b dL_law_1677 rfl (lv_at hl 0 rfl) ?_
  refine lv_iload C.x C.b dL_law_1678 (lv_at hl 4 rfl) ?_
  refine lv_iconst (v := 3) C.x C.b dL_law_1680 (by decide) ?_
  refine lv_iadd C.x C.b dL_law_1681 ?_
  obtain ⟨hs, h⟩ := h
  refine va_sld C.x C.b A.2.2.2.2.2.2.1 A.2.2.2.2.2.2.2.1 hbA G.2 hs dL_law_1682 ?_
  refine lv_aload_n C.x C.b dL_law_1683 rfl (lv_at hl 3 rfl) ?_
  refine jl_H (n := 5) C G wd1113 wd1114 wd72 wd1115 ⟨by decide +kernel, by decide +kernel, by decide +kernel⟩ h rfl rfl rfl (by decide) (by decide) (by show _ ≤ 601024; omega) (by show _ ≤ 7293034; omega) hl.1 (Nat.le_of_ble_eq_true rfl) dL_law_1684 (fun r1 r1n M2 H locs h G => ?_)
  refine lv_istore (lv' := [(5, .int r1), (0, .ref b), (1, .ref (g 10 0)), (2, .ref (g 11 0)), (3, .ref (g 61 0)), (4, .int i)]) C.x C.b dL_law_1687 hl (by decide) rfl (fun ls hl => ?_)
  refine lv_aload_n C.x C.b dL_law_1689 rfl (lv_at hl 3 rfl) ?_
  refine lv_aload_n C.x C.b dL_law_1690 rfl (lv_at hl 1 rfl) ?_
  refine lv_iload C.x C.b dL_law_1691 (lv_at hl 5 rfl) ?_
  refine lv_iconst (v := 1) C.x C.b dL_law_1693 (by decide) ?_
  refine lv_iadd C.x C.b dL_law_1694 ?_
  obtain ⟨hs, h⟩ := h
  refine va_sld C.x C.b A.2.2.2.2.2.2.1 A.2.2.2.2.2.2.2.1 hbA G.2 hs dL_law_1695 ?_
  refine lv_aload_n C.x C.b dL_law_1696 rfl (lv_at hl 1 rfl) ?_
  refine lv_iload C.x C.b dL_law_1697 (lv_at hl 5 rfl) ?_
  refine lv_iconst (v := 2) C.x C.b dL_law_1699 (by decide) ?_
  refine lv_iadd C.x C.b dL_law_1700 ?_
  obtain ⟨hs, h⟩ := h
  refine va_sld C.x C.b A.2.2.2.2.2.2.1 A.2.2.2.2.2.2.2.1 hbA G.2 hs dL_law_1701 ?_
  refine lv_aload_n C.x C.b dL_law_1702 rfl (lv_at hl 1 rfl) ?_
  refine lv_iload C.x C.b dL_law_1703 (lv_at hl 5 rfl) ?_
  refine lv_iconst (v := 3) C.x C.b dL_law_1705 (by decide) ?_
  refine lv_iadd C.x C.b dL_law_1706 ?_
  obtain ⟨hs, h⟩ := h
  refine va_sld C.x C.b A.2.2.2.2.2.2.1 A.2.2.2.2.2.2.2.1 hbA G.2 hs dL_law_1707 ?_
  refine jl_V (rk := 1) C G jc11 jm_X12_peeled wd1572 h rfl (show 0 < 1 by decide) (by decide) rfl rfl (by decide) (by decide) (by show _ ≤ 601024; omega) (by show _ ≤ 7293034; omega) hl.1 (Nat.le_of_ble_eq_true rfl) dL_law_1708 (fun r4 r4n M5 H locs h G => ?_)
  refine lv_istore (lv' := [(6, .int r4), (5, .int r1), (0, .ref b), (1, .ref (g 10 0)), (2, .ref (g 11 0)), (3, .ref (g 61 0)), (4, .int i)]) C.x C.b dL_law_1711 hl (by decide) rfl (fun ls hl => ?_)
  refine lv_aload_n C.x C.b dL_law_1713 rfl (lv_at hl 4 rfl) ?_
  refine jl_V (rk := 1) C G jc11 jm_X12_thrown wd1285 (sp_X12_thrown ⟨rfl, rfl⟩ : ok_X12_thrown  M5 (fun r _ M' => (M5 11 0 7) = r ∧ M5 = M')) rfl (show 0 < 1 by decide) (by decide) rfl rfl (by decide) (by decide) (by show _ ≤ 601024; omega) (by show _ ≤ 7293034; omega) hl.1 (Nat.le_of_ble_eq_true rfl) dL_law_1714 (fun r6 r6n M7 H locs hq G => ?_)
  obtain ⟨eq1, eq2⟩ := hq
  subst eq1
  subst eq2
  refine lv_iload C.x C.b dL_law_1717 (lv_at hl 1 rfl) ?_
  refine lv_icmp_eq (tgt := 1724) C.x C.b dL_law_1719 (by decide) (fun hc => ?_) (fun hc => ?_)
  · have h := h.1 hc
    refine lv_iload C.x C.b dL_law_1724 (lv_at hl 1 rfl) ?_
    refine lv_if_ne (tgt := 1741) C.x C.b dL_law_1726 (by decide) (fun hc => ?_) (fun hc => ?_)
    · have h := h.2 hc
      refine lv_goto (tgt := 2175) C.x C.b dL_law_1741 (by decide) ?_
      refine lv_iinc (v := i + 5) (lv' := [(4, .int (i + 5)), (6, .int r4), (5, .int r1), (0, .ref b), (1, .ref (g 10 0)), (2, .ref (g 11 0)), (3, .ref (g 61 0))]) C.x C.b dL_law_2175 hl (k := 6) rfl rfl (by decide) rfl (fun ls hl => ?_)
      refine lv_goto (tgt := 23) C.x C.b dL_law_2178 (by decide) ?_
      refine W.widen (by omega) (by omega) (h p l e s m below meth c b D cA g A C _ _ G ls (lv_sub hl [3, 4, 5, 6, 0] rfl))
    · have h := h.1 hc
      refine lv_aload_n C.x C.b dL_law_1729 rfl (lv_at hl 5 rfl) ?_
      refine lv_iconst (v := 0) C.x C.b dL_law_1730 (by decide) ?_
      refine jr_lald C G (by unfold vp_in; decide) dL_law_1731 ?_
      refine lv_iload C.x C.b dL_law_1732 (lv_at hl 0 rfl) ?_
      refine lv_i2l C.x C.b dL_law_1734 rfl ?_
      refine W.lcmp C.x C.b dL_law_1735 ?_
      refine lv_if_eq (tgt := 1741) C.x C.b dL_law_1736 (by decide) (fun hc => ?_) (fun hc => ?_)
      · have h := h.1 hc
        refine lv_goto (tgt := 2175) C.x C.b dL_law_1741 (by decide) ?_
        refine lv_iinc (v := i + 5) (lv' := [(4, .int (i + 5)), (6, .int r4), (5, .int r1), (0, .ref b), (1, .ref (g 10 0)), (2, .ref (g 11 0)), (3, .ref (g 61 0))]) C.x C.b dL_law_2175 hl (k := 6) rfl rfl (by decide) rfl (fun ls hl => ?_)
        refine lv_goto (tgt := 23) C.x C.b dL_law_2178 (by decide) ?_
        refine W.widen (by omega) (by omega) (h p l e s m below meth c b D cA g A C _ _ G ls (lv_sub hl [3, 4, 5, 6, 0] rfl))
      · have h := h.2 hc
        refine lv_iconst (v := 0) C.x C.b dL_law_1739 (by decide) ?_
        exact h.elim
  · have h := h.2 hc
    refine lv_iconst (v := 0) C.x C.b dL_law_1722 (by decide) ?_
    exact h.elim
set_option maxHeartbeats 4000000 in
set_option maxRecDepth 100000 in
theorem bl_L_1744 {L : Nat} {xs : Nat → Int32} (k : Nat) (i : Int32) (M : jM) (hk : k ≤ 2000)
  (h : vp_in (i + 1) L ∧ vp_in (i + 2) L ∧ ok_L_carried (xs (i + 1).toNatClampNeg) (xs (i + 2).toNatClampNeg) M (fun r1 _ M2 => vp_in (i + 1) L ∧ vp_in (i + 2) L ∧ ok_X12_carried (xs (i + 1).toNatClampNeg) (xs (i + 2).toNatClampNeg) M2 (fun r4 _ M5 => ((M5 11 0 7) = r1 → (r1 = 0 → (lg_cmp (M5 61 0 (0 : Int32).toNatClampNeg).toInt64 r4.toInt64 = 0 → at_L_23 L xs (k + 1) (i + 5) M5) ∧ (¬ (lg_cmp (M5 61 0 (0 : Int32).toNatClampNeg).toInt64 r4.toInt64 = 0) → False)) ∧ (¬ (r1 = 0) → at_L_23 L xs (k + 1) (i + 5) M5)) ∧ (¬ ((M5 11 0 7) = r1) → False)))) :
  at_L_1744 L xs k i M := by
  intro p l e s m below meth c b D cA g A C H locs G ls hl
  have hbA : ¬ jA s.heap.size b := Nat.not_le.mpr A.2.2.2.2.2.2.2.1
  refine lv_aload_n C.x C.b dL_law_1744 rfl (lv_at hl 1 rfl) ?_
  refine lv_aload_n C.x C.b dL_law_1745 rfl (lv_at hl 0 rfl) ?_
  refine lv_iload C.x C.b dL_law_1746 (lv_at hl 4 rfl) ?_
  refine lv_iconst (v := 1) C.x C.b dL_law_1748 (by decide) ?_
  refine lv_iadd C.x C.b dL_law_1749 ?_
  obtain ⟨hs, h⟩ := h
  refine va_sld C.x C.b A.2.2.2.2.2.2.1 A.2.2.2.2.2.2.2.1 hbA G.2 hs dL_law_1750 ?_
  refine lv_aload_n C.x C.b dL_law_1751 rfl (lv_at hl 0 rfl) ?_
  refine lv_iload C.x C.b dL_law_1752 (lv_at hl 4 rfl) ?_
  refine lv_iconst (v := 2) C.x C.b dL_law_1754 (by decide) ?_
  refine lv_iadd C.x C.b dL_law_1755 ?_
  obtain ⟨hs, h⟩ := h
  refine va_sld C.x C.b A.2.2.2.2.2.2.1 A.2.2.2.2.2.2.2.1 hbA G.2 hs dL_law_1756 ?_
  refine lv_aload_n C.x C.b dL_law_1757 rfl (lv_at hl 3 rfl) ?_
  refine jl_H (n := 4) C G wd1120 wd1121 wd72 wd1122 ⟨by decide +kernel, by decide +kernel, by decide +kernel⟩ h rfl rfl rfl (by decide) (by decide) (by show _ ≤ 601024; omega) (by show _ ≤ 7293034; omega) hl.1 (Nat.le_of_ble_eq_true rfl) dL_law_1758 (fun r1 r1n M2 H locs h G => ?_)
  refine lv_istore (lv' := [(5, .int r1), (0, .ref b), (1, .ref (g 10 0)), (2, .ref (g 11 0)), (3, .ref (g 61 0)), (4, .int i)]) C.x C.b dL_law_1761 hl (by decide) rfl (fun ls hl => ?_)
  refine lv_aload_n C.x C.b dL_law_1763 rfl (lv_at hl 3 rfl) ?_
  refine lv_aload_n C.x C.b dL_law_1764 rfl (lv_at hl 1 rfl) ?_
  refine lv_iload C.x C.b dL_law_1765 (lv_at hl 5 rfl) ?_
  refine lv_iconst (v := 1) C.x C.b dL_law_1767 (by decide) ?_
  refine lv_iadd C.x C.b dL_law_1768 ?_
  obtain ⟨hs, h⟩ := h
  refine va_sld C.x C.b A.2.2.2.2.2.2.1 A.2.2.2.2.2.2.2.1 hbA G.2 hs dL_law_1769 ?_
  refine lv_aload_n C.x C.b dL_law_1770 rfl (lv_at hl 1 rfl) ?_
  refine lv_iload C.x C.b dL_law_1771 (lv_at hl 5 rfl) ?_
  refine lv_iconst (v := 2) C.x C.b dL_law_1773 (by decide) ?_
  refine lv_iadd C.x C.b dL_law_1774 ?_
  obtain ⟨hs, h⟩ := h
  refine va_sld C.x C.b A.2.2.2.2.2.2.1 A.2.2.2.2.2.2.2.1 hbA G.2 hs dL_law_1775 ?_
  refine jl_V (rk := 1) C G jc11 jm_X12_carried wd1576 h rfl (show 0 < 1 by decide) (by decide) rfl rfl (by decide) (by decide) (by show _ ≤ 601024; omega) (by show _ ≤ 7293034; omega) hl.1 (Nat.le_of_ble_eq_true rfl) dL_law_1776 (fun r4 r4n M5 H locs h G => ?_)
  refine lv_istore (lv' := [(6, .int r4), (5, .int r1), (0, .ref b), (1, .ref (g 10 0)), (2, .ref (g 11 0)), (3, .ref (g 61 0)), (4, .int i)]) C.x C.b dL_law_1779 hl (by decide) rfl (fun ls hl => ?_)
  refine lv_aload_n C.x C.b dL_law_1781 rfl (lv_at hl 4 rfl) ?_
  refine jl_V (rk := 1) C G jc11 jm_X12_thrown wd1285 (sp_X12_thrown ⟨rfl, rfl⟩ : ok_X12_thrown  M5 (fun r _ M' => (M5 11 0 7) = r ∧ M5 = M')) rfl (show 0 < 1 by decide) (by decide) rfl rfl (by decide) (by decide) (by show _ ≤ 601024; omega) (by show _ ≤ 7293034; omega) hl.1 (Nat.le_of_ble_eq_true rfl) dL_law_1782 (fun r6 r6n M7 H locs hq G => ?_)
  obtain ⟨eq1, eq2⟩ := hq
  subst eq1
  subst eq2
  refine lv_iload C.x C.b dL_law_1785 (lv_at hl 1 rfl) ?_
  refine lv_icmp_eq (tgt := 1792) C.x C.b dL_law_1787 (by decide) (fun hc => ?_) (fun hc => ?_)
  · have h := h.1 hc
    refine lv_iload C.x C.b dL_law_1792 (lv_at hl 1 rfl) ?_
    refine lv_if_ne (tgt := 1809) C.x C.b dL_law_1794 (by decide) (fun hc => ?_) (fun hc => ?_)
    · have h := h.2 hc
      refine lv_goto (tgt := 2175) C.x C.b dL_law_1809 (by decide) ?_
      refine lv_iinc (v := i + 5) (lv' := [(4, .int (i + 5)), (6, .int r4), (5, .int r1), (0, .ref b), (1, .ref (g 10 0)), (2, .ref (g 11 0)), (3, .ref (g 61 0))]) C.x C.b dL_law_2175 hl (k := 6) rfl rfl (by decide) rfl (fun ls hl => ?_)
      refine lv_goto (tgt := 23) C.x C.b dL_law_2178 (by decide) ?_
      refine W.widen (by omega) (by omega) (h p l e s m below meth c b D cA g A C _ _ G ls (lv_sub hl [3, 4, 5, 6, 0] rfl))
    · have h := h.1 hc
      refine lv_aload_n C.x C.b dL_law_1797 rfl (lv_at hl 5 rfl) ?_
      refine lv_iconst (v := 0) C.x C.b dL_law_1798 (by decide) ?_
      refine jr_lald C G (by unfold vp_in; decide) dL_law_1799 ?_
      refine lv_iload C.x C.b dL_law_1800 (lv_at hl 0 rfl) ?_
      refine lv_i2l C.x C.b dL_law_1802 rfl ?_
      refine W.lcmp C.x C.b dL_law_1803 ?_
      refine lv_if_eq (tgt := 1809) C.x C.b dL_law_1804 (by decide) (fun hc => ?_) (fun hc => ?_)
      · have h := h.1 hc
        refine lv_goto (tgt := 2175) C.x C.b dL_law_1809 (by decide) ?_
        refine lv_iinc (v := i + 5) (lv' := [(4, .int (i + 5)), (6, .int r4), (5, .int r1), (0, .ref b), (1, .ref (g 10 0)), (2, .ref (g 11 0)), (3, .ref (g 61 0))]) C.x C.b dL_law_2175 hl (k := 6) rfl rfl (by decide) rfl (fun ls hl => ?_)
        refine lv_goto (tgt := 23) C.x C.b dL_law_2178 (by decide) ?_
        refine W.widen (by omega) (by omega) (h p l e s m below meth c b D cA g A C _ _ G ls (lv_sub hl [3, 4, 5, 6, 0] rfl))
      · have h := h.2 hc
        refine lv_iconst (v := 0) C.x C.b dL_law_1807 (by decide) ?_
        exact h.elim
  · have h := h.2 hc
    refine lv_iconst (v := 0) C.x C.b dL_law_1790 (by decide) ?_
    exact h.elim
set_option maxHeartbeats 4000000 in
set_option maxRecDepth 100000 in
theorem bl_L_1812 {L : Nat} {xs : Nat → Int32} (k : Nat) (i : Int32) (M : jM) (hk : k ≤ 2000)
  (h : vp_in (i + 1) L ∧ vp_in (i + 2) L ∧ ok_L_reads (xs (i + 1).toNatClampNeg) (xs (i + 2).toNatClampNeg) M (fun r1 _ M2 => vp_in (i + 1) L ∧ vp_in (i + 2) L ∧ ok_X12_reads (xs (i + 1).toNatClampNeg) (xs (i + 2).toNatClampNeg) M2 (fun r4 _ M5 => ((M5 11 0 7) = r1 → (r1 = 0 → (lg_cmp (M5 61 0 (0 : Int32).toNatClampNeg).toInt64 r4.toInt64 = 0 → at_L_23 L xs (k + 1) (i + 5) M5) ∧ (¬ (lg_cmp (M5 61 0 (0 : Int32).toNatClampNeg).toInt64 r4.toInt64 = 0) → False)) ∧ (¬ (r1 = 0) → at_L_23 L xs (k + 1) (i + 5) M5)) ∧ (¬ ((M5 11 0 7) = r1) → False)))) :
  at_L_1812 L xs k i M := by
  intro p l e s m below meth c b D cA g A C H locs G ls hl
  have hbA : ¬ jA s.heap.size b := Nat.not_le.mpr A.2.2.2.2.2.2.2.1
  refine lv_aload_n C.x C.b dL_law_1812 rfl (lv_at hl 1 rfl) ?_
  refine lv_aload_n C.x C.b dL_law_1813 rfl (lv_at hl 0 rfl) ?_
  refine lv_iload C.x C.b dL_law_1814 (lv_at hl 4 rfl) ?_
  refine lv_iconst (v := 1) C.x C.b dL_law_1816 (by decide) ?_
  refine lv_iadd C.x C.b dL_law_1817 ?_
  obtain ⟨hs, h⟩ := h
  refine va_sld C.x C.b A.2.2.2.2.2.2.1 A.2.2.2.2.2.2.2.1 hbA G.2 hs dL_law_1818 ?_
  refine lv_aload_n C.x C.b dL_law_1819 rfl (lv_at hl 0 rfl) ?_
  refine lv_iload C.x C.b dL_law_1820 (lv_at hl 4 rfl) ?_
  refine lv_iconst (v := 2) C.x C.b dL_law_1822 (by decide) ?_
  refine lv_iadd C.x C.b dL_law_1823 ?_
  obtain ⟨hs, h⟩ := h
  refine va_sld C.x C.b A.2.2.2.2.2.2.1 A.2.2.2.2.2.2.2.1 hbA G.2 hs dL_law_1824 ?_
  refine lv_aload_n C.x C.b dL_law_1825 rfl (lv_at hl 3 rfl) ?_
  refine jl_H (n := 4) C G wd1131 wd1132 wd72 wd1133 ⟨by decide +kernel, by decide +kernel, by decide +kernel⟩ h rfl rfl rfl (by decide) (by decide) (by show _ ≤ 601024; omega) (by show _ ≤ 7293034; omega) hl.1 (Nat.le_of_ble_eq_true rfl) dL_law_1826 (fun r1 r1n M2 H locs h G => ?_)
  refine lv_istore (lv' := [(5, .int r1), (0, .ref b), (1, .ref (g 10 0)), (2, .ref (g 11 0)), (3, .ref (g 61 0)), (4, .int i)]) C.x C.b dL_law_1829 hl (by decide) rfl (fun ls hl => ?_)
  refine lv_aload_n C.x C.b dL_law_1831 rfl (lv_at hl 3 rfl) ?_
  refine lv_aload_n C.x C.b dL_law_1832 rfl (lv_at hl 1 rfl) ?_
  refine lv_iload C.x C.b dL_law_1833 (lv_at hl 5 rfl) ?_
  refine lv_iconst (v := 1) C.x C.b dL_law_1835 (by decide) ?_
  refine lv_iadd C.x C.b dL_law_1836 ?_
  obtain ⟨hs, h⟩ := h
  refine va_sld C.x C.b A.2.2.2.2.2.2.1 A.2.2.2.2.2.2.2.1 hbA G.2 hs dL_law_1837 ?_
  refine lv_aload_n C.x C.b dL_law_1838 rfl (lv_at hl 1 rfl) ?_
  refine lv_iload C.x C.b dL_law_1839 (lv_at hl 5 rfl) ?_
  refine lv_iconst (v := 2) C.x C.b dL_law_1841 (by decide) ?_
  refine lv_iadd C.x C.b dL_law_1842 ?_
  obtain ⟨hs, h⟩ := h
  refine va_sld C.x C.b A.2.2.2.2.2.2.1 A.2.2.2.2.2.2.2.1 hbA G.2 hs dL_law_1843 ?_
  refine jl_V (rk := 1) C G jc11 jm_X12_reads wd1584 h rfl (show 0 < 1 by decide) (by decide) rfl rfl (by decide) (by decide) (by show _ ≤ 601024; omega) (by show _ ≤ 7293034; omega) hl.1 (Nat.le_of_ble_eq_true rfl) dL_law_1844 (fun r4 r4n M5 H locs h G => ?_)
  refine lv_istore (lv' := [(6, .int r4), (5, .int r1), (0, .ref b), (1, .ref (g 10 0)), (2, .ref (g 11 0)), (3, .ref (g 61 0)), (4, .int i)]) C.x C.b dL_law_1847 hl (by decide) rfl (fun ls hl => ?_)
  refine lv_aload_n C.x C.b dL_law_1849 rfl (lv_at hl 4 rfl) ?_
  refine jl_V (rk := 1) C G jc11 jm_X12_thrown wd1285 (sp_X12_thrown ⟨rfl, rfl⟩ : ok_X12_thrown  M5 (fun r _ M' => (M5 11 0 7) = r ∧ M5 = M')) rfl (show 0 < 1 by decide) (by decide) rfl rfl (by decide) (by decide) (by show _ ≤ 601024; omega) (by show _ ≤ 7293034; omega) hl.1 (Nat.le_of_ble_eq_true rfl) dL_law_1850 (fun r6 r6n M7 H locs hq G => ?_)
  obtain ⟨eq1, eq2⟩ := hq
  subst eq1
  subst eq2
  refine lv_iload C.x C.b dL_law_1853 (lv_at hl 1 rfl) ?_
  refine lv_icmp_eq (tgt := 1860) C.x C.b dL_law_1855 (by decide) (fun hc => ?_) (fun hc => ?_)
  · have h := h.1 hc
    refine lv_iload C.x C.b dL_law_1860 (lv_at hl 1 rfl) ?_
    refine lv_if_ne (tgt := 1877) C.x C.b dL_law_1862 (by decide) (fun hc => ?_) (fun hc => ?_)
    · have h := h.2 hc
      refine lv_goto (tgt := 2175) C.x C.b dL_law_1877 (by decide) ?_
      refine lv_iinc (v := i + 5) (lv' := [(4, .int (i + 5)), (6, .int r4), (5, .int r1), (0, .ref b), (1, .ref (g 10 0)), (2, .ref (g 11 0)), (3, .ref (g 61 0))]) C.x C.b dL_law_2175 hl (k := 6) rfl rfl (by decide) rfl (fun ls hl => ?_)
      refine lv_goto (tgt := 23) C.x C.b dL_law_2178 (by decide) ?_
      refine W.widen (by omega) (by omega) (h p l e s m below meth c b D cA g A C _ _ G ls (lv_sub hl [3, 4, 5, 6, 0] rfl))
    · have h := h.1 hc
      refine lv_aload_n C.x C.b dL_law_1865 rfl (lv_at hl 5 rfl) ?_
      refine lv_iconst (v := 0) C.x C.b dL_law_1866 (by decide) ?_
      refine jr_lald C G (by unfold vp_in; decide) dL_law_1867 ?_
      refine lv_iload C.x C.b dL_law_1868 (lv_at hl 0 rfl) ?_
      refine lv_i2l C.x C.b dL_law_1870 rfl ?_
      refine W.lcmp C.x C.b dL_law_1871 ?_
      refine lv_if_eq (tgt := 1877) C.x C.b dL_law_1872 (by decide) (fun hc => ?_) (fun hc => ?_)
      · have h := h.1 hc
        refine lv_goto (tgt := 2175) C.x C.b dL_law_1877 (by decide) ?_
        refine lv_iinc (v := i + 5) (lv' := [(4, .int (i + 5)), (6, .int r4), (5, .int r1), (0, .ref b), (1, .ref (g 10 0)), (2, .ref (g 11 0)), (3, .ref (g 61 0))]) C.x C.b dL_law_2175 hl (k := 6) rfl rfl (by decide) rfl (fun ls hl => ?_)
        refine lv_goto (tgt := 23) C.x C.b dL_law_2178 (by decide) ?_
        refine W.widen (by omega) (by omega) (h p l e s m below meth c b D cA g A C _ _ G ls (lv_sub hl [3, 4, 5, 6, 0] rfl))
      · have h := h.2 hc
        refine lv_iconst (v := 0) C.x C.b dL_law_1875 (by decide) ?_
        exact h.elim
  · have h := h.2 hc
    refine lv_iconst (v := 0) C.x C.b dL_law_1858 (by decide) ?_
    exact h.elim
set_option maxHeartbeats 4000000 in
set_option maxRecDepth 100000 in
theorem bl_L_1880 {L : Nat} {xs : Nat → Int32} (k : Nat) (i : Int32) (M : jM) (hk : k ≤ 2000)
  (h : vp_in (i + 1) L ∧ vp_in (i + 2) L ∧ ok_L_hits (xs (i + 1).toNatClampNeg) (xs (i + 2).toNatClampNeg) M (fun r1 _ M2 => vp_in (i + 1) L ∧ vp_in (i + 2) L ∧ ok_X12_hits (xs (i + 1).toNatClampNeg) (xs (i + 2).toNatClampNeg) M2 (fun r4 _ M5 => ((M5 11 0 7) = r1 → (r1 = 0 → (lg_cmp (M5 61 0 (0 : Int32).toNatClampNeg).toInt64 r4.toInt64 = 0 → at_L_23 L xs (k + 1) (i + 5) M5) ∧ (¬ (lg_cmp (M5 61 0 (0 : Int32).toNatClampNeg).toInt64 r4.toInt64 = 0) → False)) ∧ (¬ (r1 = 0) → at_L_23 L xs (k + 1) (i + 5) M5)) ∧ (¬ ((M5 11 0 7) = r1) → False)))) :
  at_L_1880 L xs k i M := by
  intro p l e s m below meth c b D cA g A C H locs G ls hl
  have hbA : ¬ jA s.heap.size b := Nat.not_le.mpr A.2.2.2.2.2.2.2.1
  refine lv_aload_n C.x C.b dL_law_1880 rfl (lv_at hl 1 rfl) ?_
  refine lv_aload_n C.x C.b dL_law_1881 rfl (lv_at hl 0 rfl) ?_
  refine lv_iload C.x C.b dL_law_1882 (lv_at hl 4 rfl) ?_
  refine lv_iconst (v := 1) C.x C.b dL_law_1884 (by decide) ?_
  refine lv_iadd C.x C.b dL_law_1885 ?_
  obtain ⟨hs, h⟩ := h
  refine va_sld C.x C.b A.2.2.2.2.2.2.1 A.2.2.2.2.2.2.2.1 hbA G.2 hs dL_law_1886 ?_
  refine lv_aload_n C.x C.b dL_law_1887 rfl (lv_at hl 0 rfl) ?_
  refine lv_iload C.x C.b dL_law_1888 (lv_at hl 4 rfl) ?_
  refine lv_iconst (v := 2) C.x C.b dL_law_1890 (by decide) ?_
  refine lv_iadd C.x C.b dL_law_1891 ?_
  obtain ⟨hs, h⟩ := h
  refine va_sld C.x C.b A.2.2.2.2.2.2.1 A.2.2.2.2.2.2.2.1 hbA G.2 hs dL_law_1892 ?_
  refine lv_aload_n C.x C.b dL_law_1893 rfl (lv_at hl 3 rfl) ?_
  refine jl_H (n := 4) C G wd1141 wd1142 wd72 wd1143 ⟨by decide +kernel, by decide +kernel, by decide +kernel⟩ h rfl rfl rfl (by decide) (by decide) (by show _ ≤ 601024; omega) (by show _ ≤ 7293034; omega) hl.1 (Nat.le_of_ble_eq_true rfl) dL_law_1894 (fun r1 r1n M2 H locs h G => ?_)
  refine lv_istore (lv' := [(5, .int r1), (0, .ref b), (1, .ref (g 10 0)), (2, .ref (g 11 0)), (3, .ref (g 61 0)), (4, .int i)]) C.x C.b dL_law_1897 hl (by decide) rfl (fun ls hl => ?_)
  refine lv_aload_n C.x C.b dL_law_1899 rfl (lv_at hl 3 rfl) ?_
  refine lv_aload_n C.x C.b dL_law_1900 rfl (lv_at hl 1 rfl) ?_
  refine lv_iload C.x C.b dL_law_1901 (lv_at hl 5 rfl) ?_
  refine lv_iconst (v := 1) C.x C.b dL_law_1903 (by decide) ?_
  refine lv_iadd C.x C.b dL_law_1904 ?_
  obtain ⟨hs, h⟩ := h
  refine va_sld C.x C.b A.2.2.2.2.2.2.1 A.2.2.2.2.2.2.2.1 hbA G.2 hs dL_law_1905 ?_
  refine lv_aload_n C.x C.b dL_law_1906 rfl (lv_at hl 1 rfl) ?_
  refine lv_iload C.x C.b dL_law_1907 (lv_at hl 5 rfl) ?_
  refine lv_iconst (v := 2) C.x C.b dL_law_1909 (by decide) ?_
  refine lv_iadd C.x C.b dL_law_1910 ?_
  obtain ⟨hs, h⟩ := h
  refine va_sld C.x C.b A.2.2.2.2.2.2.1 A.2.2.2.2.2.2.2.1 hbA G.2 hs dL_law_1911 ?_
  refine jl_V (rk := 1) C G jc11 jm_X12_hits wd1497 h rfl (show 0 < 1 by decide) (by decide) rfl rfl (by decide) (by decide) (by show _ ≤ 601024; omega) (by show _ ≤ 7293034; omega) hl.1 (Nat.le_of_ble_eq_true rfl) dL_law_1912 (fun r4 r4n M5 H locs h G => ?_)
  refine lv_istore (lv' := [(6, .int r4), (5, .int r1), (0, .ref b), (1, .ref (g 10 0)), (2, .ref (g 11 0)), (3, .ref (g 61 0)), (4, .int i)]) C.x C.b dL_law_1915 hl (by decide) rfl (fun ls hl => ?_)
  refine lv_aload_n C.x C.b dL_law_1917 rfl (lv_at hl 4 rfl) ?_
  refine jl_V (rk := 1) C G jc11 jm_X12_thrown wd1285 (sp_X12_thrown ⟨rfl, rfl⟩ : ok_X12_thrown  M5 (fun r _ M' => (M5 11 0 7) = r ∧ M5 = M')) rfl (show 0 < 1 by decide) (by decide) rfl rfl (by decide) (by decide) (by show _ ≤ 601024; omega) (by show _ ≤ 7293034; omega) hl.1 (Nat.le_of_ble_eq_true rfl) dL_law_1918 (fun r6 r6n M7 H locs hq G => ?_)
  obtain ⟨eq1, eq2⟩ := hq
  subst eq1
  subst eq2
  refine lv_iload C.x C.b dL_law_1921 (lv_at hl 1 rfl) ?_
  refine lv_icmp_eq (tgt := 1928) C.x C.b dL_law_1923 (by decide) (fun hc => ?_) (fun hc => ?_)
  · have h := h.1 hc
    refine lv_iload C.x C.b dL_law_1928 (lv_at hl 1 rfl) ?_
    refine lv_if_ne (tgt := 1945) C.x C.b dL_law_1930 (by decide) (fun hc => ?_) (fun hc => ?_)
    · have h := h.2 hc
      refine lv_goto (tgt := 2175) C.x C.b dL_law_1945 (by decide) ?_
      refine lv_iinc (v := i + 5) (lv' := [(4, .int (i + 5)), (6, .int r4), (5, .int r1), (0, .ref b), (1, .ref (g 10 0)), (2, .ref (g 11 0)), (3, .ref (g 61 0))]) C.x C.b dL_law_2175 hl (k := 6) rfl rfl (by decide) rfl (fun ls hl => ?_)
      refine lv_goto (tgt := 23) C.x C.b dL_law_2178 (by decide) ?_
      refine W.widen (by omega) (by omega) (h p l e s m below meth c b D cA g A C _ _ G ls (lv_sub hl [3, 4, 5, 6, 0] rfl))
    · have h := h.1 hc
      refine lv_aload_n C.x C.b dL_law_1933 rfl (lv_at hl 5 rfl) ?_
      refine lv_iconst (v := 0) C.x C.b dL_law_1934 (by decide) ?_
      refine jr_lald C G (by unfold vp_in; decide) dL_law_1935 ?_
      refine lv_iload C.x C.b dL_law_1936 (lv_at hl 0 rfl) ?_
      refine lv_i2l C.x C.b dL_law_1938 rfl ?_
      refine W.lcmp C.x C.b dL_law_1939 ?_
      refine lv_if_eq (tgt := 1945) C.x C.b dL_law_1940 (by decide) (fun hc => ?_) (fun hc => ?_)
      · have h := h.1 hc
        refine lv_goto (tgt := 2175) C.x C.b dL_law_1945 (by decide) ?_
        refine lv_iinc (v := i + 5) (lv' := [(4, .int (i + 5)), (6, .int r4), (5, .int r1), (0, .ref b), (1, .ref (g 10 0)), (2, .ref (g 11 0)), (3, .ref (g 61 0))]) C.x C.b dL_law_2175 hl (k := 6) rfl rfl (by decide) rfl (fun ls hl => ?_)
        refine lv_goto (tgt := 23) C.x C.b dL_law_2178 (by decide) ?_
        refine W.widen (by omega) (by omega) (h p l e s m below meth c b D cA g A C _ _ G ls (lv_sub hl [3, 4, 5, 6, 0] rfl))
      · have h := h.2 hc
        refine lv_iconst (v := 0) C.x C.b dL_law_1943 (by decide) ?_
        exact h.elim
  · have h := h.2 hc
    refine lv_iconst (v := 0) C.x C.b dL_law_1926 (by decide) ?_
    exact h.elim
set_option maxHeartbeats 4000000 in
set_option maxRecDepth 100000 in
theorem bl_L_1948 {L : Nat} {xs : Nat → Int32} (k : Nat) (i : Int32) (M : jM) (hk : k ≤ 2000)
  (h : vp_in (i + 1) L ∧ ok_L_run (xs (i + 1).toNatClampNeg) M (fun r1 _ M2 => vp_in (i + 1) L ∧ ok_X12_run (xs (i + 1).toNatClampNeg) M2 (fun r4 _ M5 => ((M5 11 0 7) = r1 → (r1 = 0 → (lg_cmp (M5 61 0 (0 : Int32).toNatClampNeg).toInt64 r4.toInt64 = 0 → at_L_23 L xs (k + 1) (i + 5) M5) ∧ (¬ (lg_cmp (M5 61 0 (0 : Int32).toNatClampNeg).toInt64 r4.toInt64 = 0) → False)) ∧ (¬ (r1 = 0) → at_L_23 L xs (k + 1) (i + 5) M5)) ∧ (¬ ((M5 11 0 7) = r1) → False)))) :
  at_L_1948 L xs k i M := by
  intro p l e s m below meth c b D cA g A C H locs G ls hl
  have hbA : ¬ jA s.heap.size b := Nat.not_le.mpr A.2.2.2.2.2.2.2.1
  refine lv_aload_n C.x C.b dL_law_1948 rfl (lv_at hl 1 rfl) ?_
  refine lv_aload_n C.x C.b dL_law_1949 rfl (lv_at hl 0 rfl) ?_
  refine lv_iload C.x C.b dL_law_1950 (lv_at hl 4 rfl) ?_
  refine lv_iconst (v := 1) C.x C.b dL_law_1952 (by decide) ?_
  refine lv_iadd C.x C.b dL_law_1953 ?_
  obtain ⟨hs, h⟩ := h
  refine va_sld C.x C.b A.2.2.2.2.2.2.1 A.2.2.2.2.2.2.2.1 hbA G.2 hs dL_law_1954 ?_
  refine lv_aload_n C.x C.b dL_law_1955 rfl (lv_at hl 3 rfl) ?_
  refine jl_H (n := 3) C G wd1149 wd1150 wd72 wd1151 ⟨by decide +kernel, by decide +kernel, by decide +kernel⟩ h rfl rfl rfl (by decide) (by decide) (by show _ ≤ 601024; omega) (by show _ ≤ 7293034; omega) hl.1 (Nat.le_of_ble_eq_true rfl) dL_law_1956 (fun r1 r1n M2 H locs h G => ?_)
  refine lv_istore (lv' := [(5, .int r1), (0, .ref b), (1, .ref (g 10 0)), (2, .ref (g 11 0)), (3, .ref (g 61 0)), (4, .int i)]) C.x C.b dL_law_1959 hl (by decide) rfl (fun ls hl => ?_)
  refine lv_aload_n C.x C.b dL_law_1961 rfl (lv_at hl 3 rfl) ?_
  refine lv_aload_n C.x C.b dL_law_1962 rfl (lv_at hl 1 rfl) ?_
  refine lv_iload C.x C.b dL_law_1963 (lv_at hl 5 rfl) ?_
  refine lv_iconst (v := 1) C.x C.b dL_law_1965 (by decide) ?_
  refine lv_iadd C.x C.b dL_law_1966 ?_
  obtain ⟨hs, h⟩ := h
  refine va_sld C.x C.b A.2.2.2.2.2.2.1 A.2.2.2.2.2.2.2.1 hbA G.2 hs dL_law_1967 ?_
  refine jl_V (rk := 1) C G jc11 jm_X12_run wd1588 h rfl (show 0 < 1 by decide) (by decide) rfl rfl (by decide) (by decide) (by show _ ≤ 601024; omega) (by show _ ≤ 7293034; omega) hl.1 (Nat.le_of_ble_eq_true rfl) dL_law_1968 (fun r4 r4n M5 H locs h G => ?_)
  refine lv_istore (lv' := [(6, .int r4), (5, .int r1), (0, .ref b), (1, .ref (g 10 0)), (2, .ref (g 11 0)), (3, .ref (g 61 0)), (4, .int i)]) C.x C.b dL_law_1971 hl (by decide) rfl (fun ls hl => ?_)
  refine lv_aload_n C.x C.b dL_law_1973 rfl (lv_at hl 4 rfl) ?_
  refine jl_V (rk := 1) C G jc11 jm_X12_thrown wd1285 (sp_X12_thrown ⟨rfl, rfl⟩ : ok_X12_thrown  M5 (fun r _ M' => (M5 11 0 7) = r ∧ M5 = M')) rfl (show 0 < 1 by decide) (by decide) rfl rfl (by decide) (by decide) (by show _ ≤ 601024; omega) (by show _ ≤ 7293034; omega) hl.1 (Nat.le_of_ble_eq_true rfl) dL_law_1974 (fun r6 r6n M7 H locs hq G => ?_)
  obtain ⟨eq1, eq2⟩ := hq
  subst eq1
  subst eq2
  refine lv_iload C.x C.b dL_law_1977 (lv_at hl 1 rfl) ?_
  refine lv_icmp_eq (tgt := 1984) C.x C.b dL_law_1979 (by decide) (fun hc => ?_) (fun hc => ?_)
  · have h := h.1 hc
    refine lv_iload C.x C.b dL_law_1984 (lv_at hl 1 rfl) ?_
    refine lv_if_ne (tgt := 2001) C.x C.b dL_law_1986 (by decide) (fun hc => ?_) (fun hc => ?_)
    · have h := h.2 hc
      refine lv_goto (tgt := 2175) C.x C.b dL_law_2001 (by decide) ?_
      refine lv_iinc (v := i + 5) (lv' := [(4, .int (i + 5)), (6, .int r4), (5, .int r1), (0, .ref b), (1, .ref (g 10 0)), (2, .ref (g 11 0)), (3, .ref (g 61 0))]) C.x C.b dL_law_2175 hl (k := 6) rfl rfl (by decide) rfl (fun ls hl => ?_)
      refine lv_goto (tgt := 23) C.x C.b dL_law_2178 (by decide) ?_
      refine W.widen (by omega) (by omega) (h p l e s m below meth c b D cA g A C _ _ G ls (lv_sub hl [3, 4, 5, 6, 0] rfl))
    · have h := h.1 hc
      refine lv_aload_n C.x C.b dL_law_1989 rfl (lv_at hl 5 rfl) ?_
      refine lv_iconst (v := 0) C.x C.b dL_law_1990 (by decide) ?_
      refine jr_lald C G (by unfold vp_in; decide) dL_law_1991 ?_
      refine lv_iload C.x C.b dL_law_1992 (lv_at hl 0 rfl) ?_
      refine lv_i2l C.x C.b dL_law_1994 rfl ?_
      refine W.lcmp C.x C.b dL_law_1995 ?_
      refine lv_if_eq (tgt := 2001) C.x C.b dL_law_1996 (by decide) (fun hc => ?_) (fun hc => ?_)
      · have h := h.1 hc
        refine lv_goto (tgt := 2175) C.x C.b dL_law_2001 (by decide) ?_
        refine lv_iinc (v := i + 5) (lv' := [(4, .int (i + 5)), (6, .int r4), (5, .int r1), (0, .ref b), (1, .ref (g 10 0)), (2, .ref (g 11 0)), (3, .ref (g 61 0))]) C.x C.b dL_law_2175 hl (k := 6) rfl rfl (by decide) rfl (fun ls hl => ?_)
        refine lv_goto (tgt := 23) C.x C.b dL_law_2178 (by decide) ?_
        refine W.widen (by omega) (by omega) (h p l e s m below meth c b D cA g A C _ _ G ls (lv_sub hl [3, 4, 5, 6, 0] rfl))
      · have h := h.2 hc
        refine lv_iconst (v := 0) C.x C.b dL_law_1999 (by decide) ?_
        exact h.elim
  · have h := h.2 hc
    refine lv_iconst (v := 0) C.x C.b dL_law_1982 (by decide) ?_
    exact h.elim
set_option maxHeartbeats 4000000 in
set_option maxRecDepth 100000 in
theorem bl_L_2004 {L : Nat} {xs : Nat → Int32} (k : Nat) (i : Int32) (M : jM) (hk : k ≤ 2000)
  (h : vp_in (i + 1) L ∧ vp_in (i + 2) L ∧ vp_in (i + 3) L ∧ ok_L_cell (xs (i + 1).toNatClampNeg) (xs (i + 2).toNatClampNeg) (xs (i + 3).toNatClampNeg) M (fun r1 _ M2 => vp_in (i + 1) L ∧ vp_in (i + 2) L ∧ vp_in (i + 3) L ∧ ok_X12_cell (xs (i + 1).toNatClampNeg) (xs (i + 2).toNatClampNeg) (xs (i + 3).toNatClampNeg) M2 (fun r4 _ M5 => ((M5 11 0 7) = r1 → (r1 = 0 → (lg_cmp (M5 61 0 (0 : Int32).toNatClampNeg).toInt64 r4.toInt64 = 0 → at_L_23 L xs (k + 1) (i + 5) M5) ∧ (¬ (lg_cmp (M5 61 0 (0 : Int32).toNatClampNeg).toInt64 r4.toInt64 = 0) → False)) ∧ (¬ (r1 = 0) → at_L_23 L xs (k + 1) (i + 5) M5)) ∧ (¬ ((M5 11 0 7) = r1) → False)))) :
  at_L_2004 L xs k i M := by
  intro p l e s m below meth c b D cA g A C H locs G ls hl
  have hbA : ¬ jA s.heap.size b := Nat.not_le.mpr A.2.2.2.2.2.2.2.1
  refine lv_aload_n C.x C.b dL_law_2004 rfl (lv_at hl 1 rfl) ?_
  refine lv_aload_n C.x C.b dL_law_2005 rfl (lv_at hl 0 rfl) ?_
  refine lv_iload C.x C.b dL_law_2006 (lv_at hl 4 rfl) ?_
  refine lv_iconst (v := 1) C.x C.b dL_law_2008 (by decide) ?_
  refine lv_iadd C.x C.b dL_law_2009 ?_
  obtain ⟨hs, h⟩ := h
  refine va_sld C.x C.b A.2.2.2.2.2.2.1 A.2.2.2.2.2.2.2.1 hbA G.2 hs dL_law_2010 ?_
  refine lv_aload_n C.x C.b dL_law_2011 rfl (lv_at hl 0 rfl) ?_
  refine lv_iload C.x C.b dL_law_2012 (lv_at hl 4 rfl) ?_
  refine lv_iconst (v := 2) C.x C.b dL_law_2014 (by decide) ?_
  refine lv_iadd C.x C.b dL_law_2015 ?_
  obtain ⟨hs, h⟩ := h
  refine va_sld C.x C.b A.2.2.2.2.2.2.1 A.2.2.2.2.2.2.2.1 hbA G.2 hs dL_law_2016 ?_
  refine lv_aload_n C.x C.b dL_law_2017 rfl (lv_at hl 0 rfl) ?_
  refine lv_iload C.x C.b dL_law_2018 (lv_at hl 4 rfl) ?_
  refine lv_iconst (v := 3) C.x C.b dL_law_2020 (by decide) ?_
  refine lv_iadd C.x C.b dL_law_2021 ?_
  obtain ⟨hs, h⟩ := h
  refine va_sld C.x C.b A.2.2.2.2.2.2.1 A.2.2.2.2.2.2.2.1 hbA G.2 hs dL_law_2022 ?_
  refine lv_aload_n C.x C.b dL_law_2023 rfl (lv_at hl 3 rfl) ?_
  refine jl_H (n := 5) C G wd1162 wd1163 wd72 wd1164 ⟨by decide +kernel, by decide +kernel, by decide +kernel⟩ h rfl rfl rfl (by decide) (by decide) (by show _ ≤ 601024; omega) (by show _ ≤ 7293034; omega) hl.1 (Nat.le_of_ble_eq_true rfl) dL_law_2024 (fun r1 r1n M2 H locs h G => ?_)
  refine lv_istore (lv' := [(5, .int r1), (0, .ref b), (1, .ref (g 10 0)), (2, .ref (g 11 0)), (3, .ref (g 61 0)), (4, .int i)]) C.x C.b dL_law_2027 hl (by decide) rfl (fun ls hl => ?_)
  refine lv_aload_n C.x C.b dL_law_2029 rfl (lv_at hl 3 rfl) ?_
  refine lv_aload_n C.x C.b dL_law_2030 rfl (lv_at hl 1 rfl) ?_
  refine lv_iload C.x C.b dL_law_2031 (lv_at hl 5 rfl) ?_
  refine lv_iconst (v := 1) C.x C.b dL_law_2033 (by decide) ?_
  refine lv_iadd C.x C.b dL_law_2034 ?_
  obtain ⟨hs, h⟩ := h
  refine va_sld C.x C.b A.2.2.2.2.2.2.1 A.2.2.2.2.2.2.2.1 hbA G.2 hs dL_law_2035 ?_
  refine lv_aload_n C.x C.b dL_law_2036 rfl (lv_at hl 1 rfl) ?_
  refine lv_iload C.x C.b dL_law_2037 (lv_at hl 5 rfl) ?_
  refine lv_iconst (v := 2) C.x C.b dL_law_2039 (by decide) ?_
  refine lv_iadd C.x C.b dL_law_2040 ?_
  obtain ⟨hs, h⟩ := h
  refine va_sld C.x C.b A.2.2.2.2.2.2.1 A.2.2.2.2.2.2.2.1 hbA G.2 hs dL_law_2041 ?_
  refine lv_aload_n C.x C.b dL_law_2042 rfl (lv_at hl 1 rfl) ?_
  refine lv_iload C.x C.b dL_law_2043 (lv_at hl 5 rfl) ?_
  refine lv_iconst (v := 3) C.x C.b dL_law_2045 (by decide) ?_
  refine lv_iadd C.x C.b dL_law_2046 ?_
  obtain ⟨hs, h⟩ := h
  refine va_sld C.x C.b A.2.2.2.2.2.2.1 A.2.2.2.2.2.2.2.1 hbA G.2 hs dL_law_2047 ?_
  refine jl_V (rk := 1) C G jc11 jm_X12_cell wd1600 h rfl (show 0 < 1 by decide) (by decide) rfl rfl (by decide) (by decide) (by show _ ≤ 601024; omega) (by show _ ≤ 7293034; omega) hl.1 (Nat.le_of_ble_eq_true rfl) dL_law_2048 (fun r4 r4n M5 H locs h G => ?_)
  refine lv_istore (lv' := [(6, .int r4), (5, .int r1), (0, .ref b), (1, .ref (g 10 0)), (2, .ref (g 11 0)), (3, .ref (g 61 0)), (4, .int i)]) C.x C.b dL_law_2051 hl (by decide) rfl (fun ls hl => ?_)
  refine lv_aload_n C.x C.b dL_law_2053 rfl (lv_at hl 4 rfl) ?_
  refine jl_V (rk := 1) C G jc11 jm_X12_thrown wd1285 (sp_X12_thrown ⟨rfl, rfl⟩ : ok_X12_thrown  M5 (fun r _ M' => (M5 11 0 7) = r ∧ M5 = M')) rfl (show 0 < 1 by decide) (by decide) rfl rfl (by decide) (by decide) (by show _ ≤ 601024; omega) (by show _ ≤ 7293034; omega) hl.1 (Nat.le_of_ble_eq_true rfl) dL_law_2054 (fun r6 r6n M7 H locs hq G => ?_)
  obtain ⟨eq1, eq2⟩ := hq
  subst eq1
  subst eq2
  refine lv_iload C.x C.b dL_law_2057 (lv_at hl 1 rfl) ?_
  refine lv_icmp_eq (tgt := 2064) C.x C.b dL_law_2059 (by decide) (fun hc => ?_) (fun hc => ?_)
  · have h := h.1 hc
    refine lv_iload C.x C.b dL_law_2064 (lv_at hl 1 rfl) ?_
    refine lv_if_ne (tgt := 2081) C.x C.b dL_law_2066 (by decide) (fun hc => ?_) (fun hc => ?_)
    · have h := h.2 hc
      refine lv_goto (tgt := 2175) C.x C.b dL_law_2081 (by decide) ?_
      refine lv_iinc (v := i + 5) (lv' := [(4, .int (i + 5)), (6, .int r4), (5, .int r1), (0, .ref b), (1, .ref (g 10 0)), (2, .ref (g 11 0)), (3, .ref (g 61 0))]) C.x C.b dL_law_2175 hl (k := 6) rfl rfl (by decide) rfl (fun ls hl => ?_)
      refine lv_goto (tgt := 23) C.x C.b dL_law_2178 (by decide) ?_
      refine W.widen (by omega) (by omega) (h p l e s m below meth c b D cA g A C _ _ G ls (lv_sub hl [3, 4, 5, 6, 0] rfl))
    · have h := h.1 hc
      refine lv_aload_n C.x C.b dL_law_2069 rfl (lv_at hl 5 rfl) ?_
      refine lv_iconst (v := 0) C.x C.b dL_law_2070 (by decide) ?_
      refine jr_lald C G (by unfold vp_in; decide) dL_law_2071 ?_
      refine lv_iload C.x C.b dL_law_2072 (lv_at hl 0 rfl) ?_
      refine lv_i2l C.x C.b dL_law_2074 rfl ?_
      refine W.lcmp C.x C.b dL_law_2075 ?_
      refine lv_if_eq (tgt := 2081) C.x C.b dL_law_2076 (by decide) (fun hc => ?_) (fun hc => ?_)
      · have h := h.1 hc
        refine lv_goto (tgt := 2175) C.x C.b dL_law_2081 (by decide) ?_
        refine lv_iinc (v := i + 5) (lv' := [(4, .int (i + 5)), (6, .int r4), (5, .int r1), (0, .ref b), (1, .ref (g 10 0)), (2, .ref (g 11 0)), (3, .ref (g 61 0))]) C.x C.b dL_law_2175 hl (k := 6) rfl rfl (by decide) rfl (fun ls hl => ?_)
        refine lv_goto (tgt := 23) C.x C.b dL_law_2178 (by decide) ?_
        refine W.widen (by omega) (by omega) (h p l e s m below meth c b D cA g A C _ _ G ls (lv_sub hl [3, 4, 5, 6, 0] rfl))
      · have h := h.2 hc
        refine lv_iconst (v := 0) C.x C.b dL_law_2079 (by decide) ?_
        exact h.elim
  · have h := h.2 hc
    refine lv_iconst (v := 0) C.x C.b dL_law_2062 (by decide) ?_
    exact h.elim
set_option maxHeartbeats 4000000 in
set_option maxRecDepth 100000 in
theorem bl_L_2084 {L : Nat} {xs : Nat → Int32} (k : Nat) (i : Int32) (M : jM) (hk : k ≤ 2000)
  (h : vp_in (i + 1) L ∧ ok_L_changed (xs (i + 1).toNatClampNeg) M (fun r1 _ M2 => vp_in (i + 1) L ∧ ok_X12_changed (xs (i + 1).toNatClampNeg) M2 (fun r4 _ M5 => ((M5 11 0 7) = r1 → (r1 = 0 → (lg_cmp (M5 61 0 (0 : Int32).toNatClampNeg).toInt64 r4.toInt64 = 0 → at_L_23 L xs (k + 1) (i + 5) M5) ∧ (¬ (lg_cmp (M5 61 0 (0 : Int32).toNatClampNeg).toInt64 r4.toInt64 = 0) → False)) ∧ (¬ (r1 = 0) → at_L_23 L xs (k + 1) (i + 5) M5)) ∧ (¬ ((M5 11 0 7) = r1) → False)))) :
  at_L_2084 L xs k i M := by
  intro p l e s m below meth c b D cA g A C H locs G ls hl
  have hbA : ¬ jA s.heap.size b := Nat.not_le.mpr A.2.2.2.2.2.2.2.1
  refine lv_aload_n C.x C.b dL_law_2084 rfl (lv_at hl 1 rfl) ?_
  refine lv_aload_n C.x C.b dL_law_2085 rfl (lv_at hl 0 rfl) ?_
  refine lv_iload C.x C.b dL_law_2086 (lv_at hl 4 rfl) ?_
  refine lv_iconst (v := 1) C.x C.b dL_law_2088 (by decide) ?_
  refine lv_iadd C.x C.b dL_law_2089 ?_
  obtain ⟨hs, h⟩ := h
  refine va_sld C.x C.b A.2.2.2.2.2.2.1 A.2.2.2.2.2.2.2.1 hbA G.2 hs dL_law_2090 ?_
  refine lv_aload_n C.x C.b dL_law_2091 rfl (lv_at hl 3 rfl) ?_
  refine jl_H (n := 3) C G wd1170 wd1171 wd72 wd1172 ⟨by decide +kernel, by decide +kernel, by decide +kernel⟩ h rfl rfl rfl (by decide) (by decide) (by show _ ≤ 601024; omega) (by show _ ≤ 7293034; omega) hl.1 (Nat.le_of_ble_eq_true rfl) dL_law_2092 (fun r1 r1n M2 H locs h G => ?_)
  refine lv_istore (lv' := [(5, .int r1), (0, .ref b), (1, .ref (g 10 0)), (2, .ref (g 11 0)), (3, .ref (g 61 0)), (4, .int i)]) C.x C.b dL_law_2095 hl (by decide) rfl (fun ls hl => ?_)
  refine lv_aload_n C.x C.b dL_law_2097 rfl (lv_at hl 3 rfl) ?_
  refine lv_aload_n C.x C.b dL_law_2098 rfl (lv_at hl 1 rfl) ?_
  refine lv_iload C.x C.b dL_law_2099 (lv_at hl 5 rfl) ?_
  refine lv_iconst (v := 1) C.x C.b dL_law_2101 (by decide) ?_
  refine lv_iadd C.x C.b dL_law_2102 ?_
  obtain ⟨hs, h⟩ := h
  refine va_sld C.x C.b A.2.2.2.2.2.2.1 A.2.2.2.2.2.2.2.1 hbA G.2 hs dL_law_2103 ?_
  refine jl_V (rk := 1) C G jc11 jm_X12_changed wd1604 h rfl (show 0 < 1 by decide) (by decide) rfl rfl (by decide) (by decide) (by show _ ≤ 601024; omega) (by show _ ≤ 7293034; omega) hl.1 (Nat.le_of_ble_eq_true rfl) dL_law_2104 (fun r4 r4n M5 H locs h G => ?_)
  refine lv_istore (lv' := [(6, .int r4), (5, .int r1), (0, .ref b), (1, .ref (g 10 0)), (2, .ref (g 11 0)), (3, .ref (g 61 0)), (4, .int i)]) C.x C.b dL_law_2107 hl (by decide) rfl (fun ls hl => ?_)
  refine lv_aload_n C.x C.b dL_law_2109 rfl (lv_at hl 4 rfl) ?_
  refine jl_V (rk := 1) C G jc11 jm_X12_thrown wd1285 (sp_X12_thrown ⟨rfl, rfl⟩ : ok_X12_thrown  M5 (fun r _ M' => (M5 11 0 7) = r ∧ M5 = M')) rfl (show 0 < 1 by decide) (by decide) rfl rfl (by decide) (by decide) (by show _ ≤ 601024; omega) (by show _ ≤ 7293034; omega) hl.1 (Nat.le_of_ble_eq_true rfl) dL_law_2110 (fun r6 r6n M7 H locs hq G => ?_)
  obtain ⟨eq1, eq2⟩ := hq
  subst eq1
  subst eq2
  refine lv_iload C.x C.b dL_law_2113 (lv_at hl 1 rfl) ?_
  refine lv_icmp_eq (tgt := 2120) C.x C.b dL_law_2115 (by decide) (fun hc => ?_) (fun hc => ?_)
  · have h := h.1 hc
    refine lv_iload C.x C.b dL_law_2120 (lv_at hl 1 rfl) ?_
    refine lv_if_ne (tgt := 2137) C.x C.b dL_law_2122 (by decide) (fun hc => ?_) (fun hc => ?_)
    · have h := h.2 hc
      refine lv_goto (tgt := 2175) C.x C.b dL_law_2137 (by decide) ?_
      refine lv_iinc (v := i + 5) (lv' := [(4, .int (i + 5)), (6, .int r4), (5, .int r1), (0, .ref b), (1, .ref (g 10 0)), (2, .ref (g 11 0)), (3, .ref (g 61 0))]) C.x C.b dL_law_2175 hl (k := 6) rfl rfl (by decide) rfl (fun ls hl => ?_)
      refine lv_goto (tgt := 23) C.x C.b dL_law_2178 (by decide) ?_
      refine W.widen (by omega) (by omega) (h p l e s m below meth c b D cA g A C _ _ G ls (lv_sub hl [3, 4, 5, 6, 0] rfl))
    · have h := h.1 hc
      refine lv_aload_n C.x C.b dL_law_2125 rfl (lv_at hl 5 rfl) ?_
      refine lv_iconst (v := 0) C.x C.b dL_law_2126 (by decide) ?_
      refine jr_lald C G (by unfold vp_in; decide) dL_law_2127 ?_
      refine lv_iload C.x C.b dL_law_2128 (lv_at hl 0 rfl) ?_
      refine lv_i2l C.x C.b dL_law_2130 rfl ?_
      refine W.lcmp C.x C.b dL_law_2131 ?_
      refine lv_if_eq (tgt := 2137) C.x C.b dL_law_2132 (by decide) (fun hc => ?_) (fun hc => ?_)
      · have h := h.1 hc
        refine lv_goto (tgt := 2175) C.x C.b dL_law_2137 (by decide) ?_
        refine lv_iinc (v := i + 5) (lv' := [(4, .int (i + 5)), (6, .int r4), (5, .int r1), (0, .ref b), (1, .ref (g 10 0)), (2, .ref (g 11 0)), (3, .ref (g 61 0))]) C.x C.b dL_law_2175 hl (k := 6) rfl rfl (by decide) rfl (fun ls hl => ?_)
        refine lv_goto (tgt := 23) C.x C.b dL_law_2178 (by decide) ?_
        refine W.widen (by omega) (by omega) (h p l e s m below meth c b D cA g A C _ _ G ls (lv_sub hl [3, 4, 5, 6, 0] rfl))
      · have h := h.2 hc
        refine lv_iconst (v := 0) C.x C.b dL_law_2135 (by decide) ?_
        exact h.elim
  · have h := h.2 hc
    refine lv_iconst (v := 0) C.x C.b dL_law_2118 (by decide) ?_
    exact h.elim
set_option maxHeartbeats 4000000 in
set_option maxRecDepth 100000 in
theorem bl_L_2140 {L : Nat} {xs : Nat → Int32} (k : Nat) (i : Int32) (M : jM) (hk : k ≤ 2000)
  (h : ok_X11_save  M (fun _ _ M2 => ok_X12_save  M2 (fun _ _ M4 => at_L_23 L xs (k + 1) (i + 5) M4))) :
  at_L_2140 L xs k i M := by
  intro p l e s m below meth c b D cA g A C H locs G ls hl
  have hbA : ¬ jA s.heap.size b := Nat.not_le.mpr A.2.2.2.2.2.2.2.1
  refine lv_aload_n C.x C.b dL_law_2140 rfl (lv_at hl 1 rfl) ?_
  refine jl_V (rk := 0) C G jc10 jm_X11_save wd491 h rfl (show 0 < 1 by decide) (by decide) rfl rfl (by decide) (by decide) (by show _ ≤ 601024; omega) (by show _ ≤ 7293034; omega) hl.1 (Nat.le_of_ble_eq_true rfl) dL_law_2141 (fun r1 r1n M2 H locs h G => ?_)
  refine lv_aload_n C.x C.b dL_law_2144 rfl (lv_at hl 2 rfl) ?_
  refine jl_V (rk := 0) C G jc11 jm_X12_save wd1608 h rfl (show 0 < 1 by decide) (by decide) rfl rfl (by decide) (by decide) (by show _ ≤ 601024; omega) (by show _ ≤ 7293034; omega) hl.1 (Nat.le_of_ble_eq_true rfl) dL_law_2145 (fun r3 r3n M4 H locs h G => ?_)
  refine lv_goto (tgt := 2175) C.x C.b dL_law_2148 (by decide) ?_
  refine lv_iinc (v := i + 5) (lv' := [(4, .int (i + 5)), (0, .ref b), (1, .ref (g 10 0)), (2, .ref (g 11 0)), (3, .ref (g 61 0))]) C.x C.b dL_law_2175 hl (k := 4) rfl rfl (by decide) rfl (fun ls hl => ?_)
  refine lv_goto (tgt := 23) C.x C.b dL_law_2178 (by decide) ?_
  refine W.widen (by omega) (by omega) (h p l e s m below meth c b D cA g A C _ _ G ls (lv_sub hl [1, 2, 3, 4, 0] rfl))
set_option maxHeartbeats 4000000 in
set_option maxRecDepth 100000 in
theorem bl_L_2151 {L : Nat} {xs : Nat → Int32} (k : Nat) (i : Int32) (M : jM) (hk : k ≤ 2000)
  (h : ok_L_restore  M (fun r1 _ M2 => ok_X12_restore  M2 (fun _ _ M5 => ((M5 11 0 7) = r1 → at_L_23 L xs (k + 1) (i + 5) M5) ∧ (¬ ((M5 11 0 7) = r1) → False)))) :
  at_L_2151 L xs k i M := by
  intro p l e s m below meth c b D cA g A C H locs G ls hl
  have hbA : ¬ jA s.heap.size b := Nat.not_le.mpr A.2.2.2.2.2.2.2.1
  refine lv_aload_n C.x C.b dL_law_2151 rfl (lv_at hl 1 rfl) ?_
  refine jl_H (n := 1) C G wd1177 wd1178 wd72 wd1179 ⟨by decide +kernel, by decide +kernel, by decide +kernel⟩ h rfl rfl rfl (by decide) (by decide) (by show _ ≤ 601024; omega) (by show _ ≤ 7293034; omega) hl.1 (Nat.le_of_ble_eq_true rfl) dL_law_2152 (fun r1 r1n M2 H locs h G => ?_)
  refine lv_istore (lv' := [(5, .int r1), (0, .ref b), (1, .ref (g 10 0)), (2, .ref (g 11 0)), (3, .ref (g 61 0)), (4, .int i)]) C.x C.b dL_law_2155 hl (by decide) rfl (fun ls hl => ?_)
  refine lv_aload_n C.x C.b dL_law_2157 rfl (lv_at hl 3 rfl) ?_
  refine jl_V (rk := 0) C G jc11 jm_X12_restore wd1612 h rfl (show 0 < 1 by decide) (by decide) rfl rfl (by decide) (by decide) (by show _ ≤ 601024; omega) (by show _ ≤ 7293034; omega) hl.1 (Nat.le_of_ble_eq_true rfl) dL_law_2158 (fun r4 r4n M5 H locs h G => ?_)
  refine lv_aload_n C.x C.b dL_law_2161 rfl (lv_at hl 3 rfl) ?_
  refine jl_V (rk := 1) C G jc11 jm_X12_thrown wd1285 (sp_X12_thrown ⟨rfl, rfl⟩ : ok_X12_thrown  M5 (fun r _ M' => (M5 11 0 7) = r ∧ M5 = M')) rfl (show 0 < 1 by decide) (by decide) rfl rfl (by decide) (by decide) (by show _ ≤ 601024; omega) (by show _ ≤ 7293034; omega) hl.1 (Nat.le_of_ble_eq_true rfl) dL_law_2162 (fun r6 r6n M7 H locs hq G => ?_)
  obtain ⟨eq1, eq2⟩ := hq
  subst eq1
  subst eq2
  refine lv_iload C.x C.b dL_law_2165 (lv_at hl 0 rfl) ?_
  refine lv_icmp_eq (tgt := 2172) C.x C.b dL_law_2167 (by decide) (fun hc => ?_) (fun hc => ?_)
  · have h := h.1 hc
    refine lv_goto (tgt := 2175) C.x C.b dL_law_2172 (by decide) ?_
    refine lv_iinc (v := i + 5) (lv' := [(4, .int (i + 5)), (5, .int r1), (0, .ref b), (1, .ref (g 10 0)), (2, .ref (g 11 0)), (3, .ref (g 61 0))]) C.x C.b dL_law_2175 hl (k := 5) rfl rfl (by decide) rfl (fun ls hl => ?_)
    refine lv_goto (tgt := 23) C.x C.b dL_law_2178 (by decide) ?_
    refine W.widen (by omega) (by omega) (h p l e s m below meth c b D cA g A C _ _ G ls (lv_sub hl [2, 3, 4, 5, 0] rfl))
  · have h := h.2 hc
    refine lv_iconst (v := 0) C.x C.b dL_law_2170 (by decide) ?_
    exact h.elim
