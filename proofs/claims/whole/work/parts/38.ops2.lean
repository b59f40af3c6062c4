/-! Readings, telling, stamping, casts. -/
theorem pz_n02 : (nI 0 = nI 2) = False := by simp [show ¬ (nI 0 = nI 2) by decide]
theorem pz_n12 : (nI 1 = nI 2) = False := by simp [show ¬ (nI 1 = nI 2) by decide]
theorem pz_n21 : (nI 2 = nI 1) = False := by simp [show ¬ (nI 2 = nI 1) by decide]
theorem ix_read {M : pm_M} {d : iv_D} {e : pm_M} {n f t v : Nat} (h : ix M d e) (hn : n = d 0 2) : ix (pm_up (pm_up (pm_up (pm_up M 18 n (nI f)) 19 n (nI t)) 20 n (nI v)) 4 0 (nI (n + 1))) (iv_up (iv_up (iv_up (iv_up d 6 n f) 7 n t) 8 n v) 0 2 (n + 1)) e := by
  obtain ⟨⟨h1, h2, h3, h4, h5, h6, h7⟩, g2, g3, g4⟩ := h
  refine ⟨⟨h1, h2, h3, h4, h5, h6, h7⟩, ⟨rfl, ?_⟩, g3, ?_⟩
  · intro q hq
    have hq2 : q < n + 1 := hq
    show pm_up M 18 n (nI f) 18 q = nI (iv_up d 6 n f 6 q) ∧ pm_up M 19 n (nI t) 19 q = nI (iv_up d 7 n t 7 q) ∧ pm_up M 20 n (nI v) 20 q = nI (iv_up d 8 n v 8 q)
    simp only [pz_up_i, iv_up_i]
    by_cases e9 : q = n
    · simp only [e9, if_true, and_self]
    · simp only [e9, if_false]
      exact g2.2 q (by omega)
  · intro k hk
    have h9 := g4 k hk
    rw [pz_up_c (by decide), pz_up_c (by decide), pz_up_c (by decide), pz_up_c (by decide), pz_up_c (by decide), pz_up_c (by decide), pz_up_c (by decide), pz_up_c (by decide), pz_up_c (show 7 + k ≠ 4 by omega), pz_up_c (show 7 + k ≠ 20 by omega), pz_up_c (show 7 + k ≠ 19 by omega), pz_up_c (show 7 + k ≠ 18 by omega)]
    exact h9
theorem iy_read {M : pm_M} {d : iv_D} {e : pm_M} {n f t v : Nat} (h : iy M d e) (hn : n = d 0 2) : iy (pm_up (pm_up (pm_up (pm_up M 39 n (nI f)) 40 n (nI t)) 41 n (nI v)) 23 26 (nI (n + 1))) (iv_up (iv_up (iv_up (iv_up d 6 n f) 7 n t) 8 n v) 0 2 (n + 1)) e := by
  obtain ⟨⟨h1, h2, h3, h4, h5, h6, h7⟩, g2, g3, g4⟩ := h
  refine ⟨⟨h1, h2, h3, h4, h5, h6, h7⟩, ⟨rfl, ?_⟩, g3, g4⟩
  intro q hq
  have hq2 : q < n + 1 := hq
  show pm_up M 39 n (nI f) 39 q = nI (iv_up d 6 n f 6 q) ∧ pm_up M 40 n (nI t) 40 q = nI (iv_up d 7 n t 7 q) ∧ pm_up M 41 n (nI v) 41 q = nI (iv_up d 8 n v 8 q)
  simp only [pz_up_i, iv_up_i]
  by_cases e9 : q = n
  · simp only [e9, if_true, and_self]
  · simp only [e9, if_false]
    exact g2.2 q (by omega)
theorem iv_G_read {d : iv_D} {n f t v : Nat} (h : iv_G d) (hn : n = d 0 2) (h8 : n < 8) (hf : f < d 0 0) (ht : t ≤ d 0 1) (hv : v ≤ 99) : iv_G (iv_up (iv_up (iv_up (iv_up d 6 n f) 7 n t) 8 n v) 0 2 (n + 1)) := by
  obtain ⟨h1, h2, h3, h4⟩ := h
  refine ⟨h1, ?_, ?_, h4⟩
  · show n + 1 ≤ 8
    omega
  · intro q hq
    have hq2 : q < n + 1 := hq
    show iv_up d 6 n f 6 q < d 0 0 ∧ iv_up d 7 n t 7 q ≤ d 0 1 ∧ iv_up d 8 n v 8 q ≤ 99
    simp only [iv_up_i]
    by_cases e9 : q = n
    · simp only [e9, if_true]
      exact ⟨hf, ht, hv⟩
    · simp only [e9, if_false]
      exact h3 q (by omega)
theorem op_reading (x w z : Int32) : op_ok 55 119 [some (pm_r 0), some (pm_i x), some (pm_i w), some (pm_i z)] [some (pm_r 23), some (pm_i x), some (pm_i w), some (pm_i z)] := by
  intro M hM
  obtain ⟨d, e, hG, hX, hY⟩ := hM
  obtain ⟨hB, hn, hq, hl⟩ := id hG
  obtain ⟨xL, xR, xT, xS⟩ := id hX
  obtain ⟨yL, yR, yT, yS⟩ := id hY
  obtain ⟨x1, x2, x3, x4, x5, x6, x7⟩ := id xL
  obtain ⟨y1, y2, y3, y4, y5, y6, y7⟩ := id yL
  obtain ⟨b1, b2, b3, b4, b5, b6⟩ := id hB
  have hF : d 0 0 ≤ 6 := by omega
  have hD : d 0 1 ≤ 8 := by omega
  obtain ⟨n, en⟩ : ∃ n, n = d 0 2 := ⟨_, rfl⟩
  have xR1 := xR.1
  have yR1 := yR.1
  rw [← en] at xR1 yR1
  rcases pz_any x (d 0 0) (by omega) with hx | ⟨f, hf, rfl⟩
  · refine ⟨pm_i (-1), M, M, ?_, ?_, d, e, hG, hX, hY⟩
    · simp only [rx_55_0, rx_55_1, rx_55_4, rx_55_5, rx_55_8, rx_55_11, rx_55_12, rx_55_13, rx_55_14, rx_55_17, rx_55_18, rx_55_21, rx_55_24, rx_55_25, rx_55_28, rx_55_29, rx_55_31, rx_55_34, rx_55_36, rx_55_37, rx_55_38, rx_55_41, rx_55_44, rx_55_46, rx_55_49, rx_55_51, rx_55_52, rx_55_53, rx_55_56, rx_55_57, rx_55_58, rx_55_59, rx_55_62, cx_hasField_n x1 hx, pz_bind, pz_psh, pz_n00, if_true]
    · simp only [rx_119_0, rx_119_1, rx_119_2, rx_119_5, rx_119_8, rx_119_9, rx_119_10, rx_119_11, rx_119_12, rx_119_13, rx_119_16, rx_119_19, rx_119_22, rx_119_23, rx_119_24, rx_119_26, rx_119_29, rx_119_32, rx_119_34, rx_119_35, rx_119_36, rx_119_39, rx_119_41, rx_119_44, rx_119_46, rx_119_47, rx_119_48, rx_119_51, rx_119_52, rx_119_55, rx_119_56, rx_119_57, rx_119_58, rx_119_61, rx_119_62, rx_119_65, rx_119_66, rx_119_67, rx_119_68, rx_119_71, rx_119_72, rx_119_75, rx_119_76, rx_119_77, rx_119_78, rx_119_79, rx_119_82, rx_119_83, rx_119_84, rx_119_87, rx_119_88, rx_119_91, rx_119_92, rx_119_93, mx_isField_n y1 hx, pz_bind, pz_psh, pz_n00, if_true]
  · rcases pz_any w (d 0 1 + 1) (by omega) with hw | ⟨t, ht, rfl⟩
    · refine ⟨pm_i (-2), M, M, ?_, ?_, d, e, hG, hX, hY⟩
      · simp only [rx_55_0, rx_55_1, rx_55_4, rx_55_5, rx_55_8, rx_55_11, rx_55_12, rx_55_13, rx_55_14, rx_55_17, rx_55_18, rx_55_21, rx_55_24, rx_55_25, rx_55_28, rx_55_29, rx_55_31, rx_55_34, rx_55_36, rx_55_37, rx_55_38, rx_55_41, rx_55_44, rx_55_46, rx_55_49, rx_55_51, rx_55_52, rx_55_53, rx_55_56, rx_55_57, rx_55_58, rx_55_59, rx_55_62, cx_hasField_y x1 hF hf, pz_bind, pz_psh, pz_n10, if_false, cx_hasBehind_n x2 hD hw, pz_n00, if_true]
      · simp only [rx_119_0, rx_119_1, rx_119_2, rx_119_5, rx_119_8, rx_119_9, rx_119_10, rx_119_11, rx_119_12, rx_119_13, rx_119_16, rx_119_19, rx_119_22, rx_119_23, rx_119_24, rx_119_26, rx_119_29, rx_119_32, rx_119_34, rx_119_35, rx_119_36, rx_119_39, rx_119_41, rx_119_44, rx_119_46, rx_119_47, rx_119_48, rx_119_51, rx_119_52, rx_119_55, rx_119_56, rx_119_57, rx_119_58, rx_119_61, rx_119_62, rx_119_65, rx_119_66, rx_119_67, rx_119_68, rx_119_71, rx_119_72, rx_119_75, rx_119_76, rx_119_77, rx_119_78, rx_119_79, rx_119_82, rx_119_83, rx_119_84, rx_119_87, rx_119_88, rx_119_91, rx_119_92, rx_119_93, mx_isField_y y1 hF hf, pz_bind, pz_psh, pz_n10, if_false, y2, mx_within_n (h := d 0 1) (by omega) hw, pz_n00, if_true]
    · rcases pz_any z 100 (by omega) with hz | ⟨v, hv, rfl⟩
      · refine ⟨pm_i (-2), M, M, ?_, ?_, d, e, hG, hX, hY⟩
        · rcases hz with hz | ⟨hz, hz2⟩
          · simp only [rx_55_0, rx_55_1, rx_55_4, rx_55_5, rx_55_8, rx_55_11, rx_55_12, rx_55_13, rx_55_14, rx_55_17, rx_55_18, rx_55_21, rx_55_24, rx_55_25, rx_55_28, rx_55_29, rx_55_31, rx_55_34, rx_55_36, rx_55_37, rx_55_38, rx_55_41, rx_55_44, rx_55_46, rx_55_49, rx_55_51, rx_55_52, rx_55_53, rx_55_56, rx_55_57, rx_55_58, rx_55_59, rx_55_62, cx_hasField_y x1 hF hf, pz_bind, pz_psh, pz_n10, if_false, cx_hasBehind_y x2 hD (show t ≤ d 0 1 by omega), hz, if_true]
          · simp only [rx_55_0, rx_55_1, rx_55_4, rx_55_5, rx_55_8, rx_55_11, rx_55_12, rx_55_13, rx_55_14, rx_55_17, rx_55_18, rx_55_21, rx_55_24, rx_55_25, rx_55_28, rx_55_29, rx_55_31, rx_55_34, rx_55_36, rx_55_37, rx_55_38, rx_55_41, rx_55_44, rx_55_46, rx_55_49, rx_55_51, rx_55_52, rx_55_53, rx_55_56, rx_55_57, rx_55_58, rx_55_59, rx_55_62, cx_hasField_y x1 hF hf, pz_bind, pz_psh, pz_n10, if_false, cx_hasBehind_y x2 hD (show t ≤ d 0 1 by omega), hz, pz_ge1 (n := 99) (by omega) hz2, if_true]
        · simp only [rx_119_0, rx_119_1, rx_119_2, rx_119_5, rx_119_8, rx_119_9, rx_119_10, rx_119_11, rx_119_12, rx_119_13, rx_119_16, rx_119_19, rx_119_22, rx_119_23, rx_119_24, rx_119_26, rx_119_29, rx_119_32, rx_119_34, rx_119_35, rx_119_36, rx_119_39, rx_119_41, rx_119_44, rx_119_46, rx_119_47, rx_119_48, rx_119_51, rx_119_52, rx_119_55, rx_119_56, rx_119_57, rx_119_58, rx_119_61, rx_119_62, rx_119_65, rx_119_66, rx_119_67, rx_119_68, rx_119_71, rx_119_72, rx_119_75, rx_119_76, rx_119_77, rx_119_78, rx_119_79, rx_119_82, rx_119_83, rx_119_84, rx_119_87, rx_119_88, rx_119_91, rx_119_92, rx_119_93, mx_isField_y y1 hF hf, pz_bind, pz_psh, pz_n10, if_false, y2, mx_within_y (show 0 ≤ t by omega) (show t ≤ d 0 1 by omega) (by omega), mx_within_n (h := 99) (by omega) hz, pz_n00, if_true]
      · by_cases h8 : n < 8
        · refine ⟨pm_i (nI n), pm_up (pm_up (pm_up (pm_up M 18 n (nI f)) 19 n (nI t)) 20 n (nI v)) 4 0 (nI (n + 1)), pm_up (pm_up (pm_up (pm_up (pm_up (pm_up (pm_up (pm_up M 18 n (nI f)) 19 n (nI t)) 20 n (nI v)) 4 0 (nI (n + 1))) 39 n (nI f)) 40 n (nI t)) 41 n (nI v)) 23 26 (nI (n + 1)), ?_, ?_, iv_up (iv_up (iv_up (iv_up d 6 n f) 7 n t) 8 n v) 0 2 (n + 1), e, iv_G_read hG en h8 hf (by omega) (by omega), ix_hi (ix_hi (ix_hi (ix_hi (ix_read hX en) (by decide)) (by decide)) (by decide)) (by decide), iy_read (iy_lo (iy_lo (iy_lo (iy_lo hY (by decide)) (by decide)) (by decide)) (by decide)) en⟩
          · simp only [rx_55_0, rx_55_1, rx_55_4, rx_55_5, rx_55_8, rx_55_11, rx_55_12, rx_55_13, rx_55_14, rx_55_17, rx_55_18, rx_55_21, rx_55_24, rx_55_25, rx_55_28, rx_55_29, rx_55_31, rx_55_34, rx_55_36, rx_55_37, rx_55_38, rx_55_41, rx_55_44, rx_55_46, rx_55_49, rx_55_51, rx_55_52, rx_55_53, rx_55_56, rx_55_57, rx_55_58, rx_55_59, rx_55_62, cx_hasField_y x1 hF hf, pz_bind, pz_psh, pz_n10, if_false, cx_hasBehind_y x2 hD (show t ≤ d 0 1 by omega), pz_lt0 (show v < 2147483648 by omega), pz_lt (show 99 < 2147483648 by omega) (show v < 2147483648 by omega), show ¬ 99 < v by omega, xR1, pz_lt (show n < 2147483648 by omega) (show 8 < 2147483648 by omega), h8, if_true, rx_10_0, rx_10_1, rx_10_4, rx_10_6, rx_10_7, rx_10_10, rx_10_12, rx_10_13, rx_10_14, rx_10_15, rx_10_18, rx_10_20, rx_10_21, rx_10_22, rx_10_23, rx_10_26, rx_10_28, rx_10_29, rx_10_30, rx_10_31, rx_10_32, rx_10_35, rx_10_36, rx_10_37, rx_10_40, rx_10_42, pz_ast_18 h8, pz_ast_19 h8, pz_ast_20 h8, pz_up_c (show (4 : Nat) ≠ 18 by decide), pz_up_c (show (4 : Nat) ≠ 19 by decide), pz_up_c (show (4 : Nat) ≠ 20 by decide), pz_add, pz_nlz_i]
          · simp only [rx_119_0, rx_119_1, rx_119_2, rx_119_5, rx_119_8, rx_119_9, rx_119_10, rx_119_11, rx_119_12, rx_119_13, rx_119_16, rx_119_19, rx_119_22, rx_119_23, rx_119_24, rx_119_26, rx_119_29, rx_119_32, rx_119_34, rx_119_35, rx_119_36, rx_119_39, rx_119_41, rx_119_44, rx_119_46, rx_119_47, rx_119_48, rx_119_51, rx_119_52, rx_119_55, rx_119_56, rx_119_57, rx_119_58, rx_119_61, rx_119_62, rx_119_65, rx_119_66, rx_119_67, rx_119_68, rx_119_71, rx_119_72, rx_119_75, rx_119_76, rx_119_77, rx_119_78, rx_119_79, rx_119_82, rx_119_83, rx_119_84, rx_119_87, rx_119_88, rx_119_91, rx_119_92, rx_119_93, mx_isField_y (M := pm_up (pm_up (pm_up (pm_up M 18 n (nI f)) 19 n (nI t)) 20 n (nI v)) 4 0 (nI (n + 1))) y1 hF hf, pz_bind, pz_psh, pz_n10, if_false, y2, mx_within_y (show 0 ≤ t by omega) (show t ≤ d 0 1 by omega) (show d 0 1 < 1000 by omega), mx_within_y (show 0 ≤ v by omega) (show v ≤ 99 by omega) (show 99 < 1000 by omega), pz_up_c (show (23 : Nat) ≠ 18 by decide), pz_up_c (show (23 : Nat) ≠ 19 by decide), pz_up_c (show (23 : Nat) ≠ 20 by decide), pz_up_c (show (23 : Nat) ≠ 4 by decide), pz_up_c (show (23 : Nat) ≠ 39 by decide), pz_up_c (show (23 : Nat) ≠ 40 by decide), pz_up_c (show (23 : Nat) ≠ 41 by decide), pz_up_s, yR1, pz_eq (show n < 2147483648 by omega) (show 8 < 2147483648 by omega), show ¬ n = 8 by omega, pz_ast_39 h8, pz_ast_40 h8, pz_ast_41 h8, pz_add, pz_sub (show 1 ≤ n + 1 by omega), Nat.add_sub_cancel]
        · refine ⟨pm_i (-4), M, M, ?_, ?_, d, e, hG, hX, hY⟩
          · simp only [rx_55_0, rx_55_1, rx_55_4, rx_55_5, rx_55_8, rx_55_11, rx_55_12, rx_55_13, rx_55_14, rx_55_17, rx_55_18, rx_55_21, rx_55_24, rx_55_25, rx_55_28, rx_55_29, rx_55_31, rx_55_34, rx_55_36, rx_55_37, rx_55_38, rx_55_41, rx_55_44, rx_55_46, rx_55_49, rx_55_51, rx_55_52, rx_55_53, rx_55_56, rx_55_57, rx_55_58, rx_55_59, rx_55_62, cx_hasField_y x1 hF hf, pz_bind, pz_psh, pz_n10, if_false, cx_hasBehind_y x2 hD (show t ≤ d 0 1 by omega), pz_lt0 (show v < 2147483648 by omega), pz_lt (show 99 < 2147483648 by omega) (show v < 2147483648 by omega), show ¬ 99 < v by omega, xR1, pz_lt (show n < 2147483648 by omega) (show 8 < 2147483648 by omega), h8]
          · simp only [rx_119_0, rx_119_1, rx_119_2, rx_119_5, rx_119_8, rx_119_9, rx_119_10, rx_119_11, rx_119_12, rx_119_13, rx_119_16, rx_119_19, rx_119_22, rx_119_23, rx_119_24, rx_119_26, rx_119_29, rx_119_32, rx_119_34, rx_119_35, rx_119_36, rx_119_39, rx_119_41, rx_119_44, rx_119_46, rx_119_47, rx_119_48, rx_119_51, rx_119_52, rx_119_55, rx_119_56, rx_119_57, rx_119_58, rx_119_61, rx_119_62, rx_119_65, rx_119_66, rx_119_67, rx_119_68, rx_119_71, rx_119_72, rx_119_75, rx_119_76, rx_119_77, rx_119_78, rx_119_79, rx_119_82, rx_119_83, rx_119_84, rx_119_87, rx_119_88, rx_119_91, rx_119_92, rx_119_93, mx_isField_y y1 hF hf, pz_bind, pz_psh, pz_n10, if_false, y2, mx_within_y (show 0 ≤ t by omega) (show t ≤ d 0 1 by omega) (show d 0 1 < 1000 by omega), mx_within_y (show 0 ≤ v by omega) (show v ≤ 99 by omega) (show 99 < 1000 by omega), yR1, pz_eq (show n < 2147483648 by omega) (show 8 < 2147483648 by omega), show n = 8 by omega, if_true]
theorem op_back (x : Int32) : op_ok 56 120 [some (pm_r 0), some (pm_i x)] [some (pm_r 23), some (pm_i x)] := by
  intro M hM
  obtain ⟨d, e, hG, hX, hY⟩ := hM
  obtain ⟨hB, hn, hq, hl⟩ := id hG
  obtain ⟨xL, xR, xT, xS⟩ := id hX
  obtain ⟨yL, yR, yT, yS⟩ := id hY
  obtain ⟨x1, x2, x3, x4, x5, x6, x7⟩ := id xL
  obtain ⟨y1, y2, y3, y4, y5, y6, y7⟩ := id yL
  obtain ⟨b1, b2, b3, b4, b5, b6⟩ := id hB
  have hF : d 0 0 ≤ 6 := by omega
  have hD : d 0 1 ≤ 8 := by omega
  obtain ⟨n, en⟩ : ∃ n, n = d 0 2 := ⟨_, rfl⟩
  have xR1 := xR.1
  have yR1 := yR.1
  rw [← en] at xR1 yR1
  rcases pz_any x (n + 1) (by omega) with hx | ⟨k, hk, rfl⟩
  · refine ⟨pm_i (-2), M, M, ?_, ?_, d, e, hG, hX, hY⟩
    · rcases hx with hx | ⟨hx, hx2⟩
      · simp only [rx_56_0, rx_56_1, rx_56_4, rx_56_5, rx_56_6, rx_56_9, rx_56_12, rx_56_15, rx_56_17, rx_56_18, rx_56_19, rx_56_22, rx_56_23, rx_56_26, rx_56_27, rx_56_28, rx_56_31, rx_56_32, rx_56_35, rx_56_38, hx, if_true]
      · simp only [rx_56_0, rx_56_1, rx_56_4, rx_56_5, rx_56_6, rx_56_9, rx_56_12, rx_56_15, rx_56_17, rx_56_18, rx_56_19, rx_56_22, rx_56_23, rx_56_26, rx_56_27, rx_56_28, rx_56_31, rx_56_32, rx_56_35, rx_56_38, hx, if_false, xR1, pz_ge1 (n := n) (by omega) hx2, if_true]
    · simp only [rx_120_0, rx_120_1, rx_120_2, rx_120_3, rx_120_6, rx_120_9, rx_120_12, rx_120_14, rx_120_15, rx_120_16, rx_120_17, rx_120_20, rx_120_21, rx_120_22, rx_120_25, rx_120_26, rx_120_29, yR1, mx_within_n (h := n) (by omega) hx, pz_bind, pz_psh, pz_n00, if_true]
  · have hd : iv_G (iv_up d 0 2 (n - k)) := by
      refine ⟨hG.1, ?_, fun q hq2 => ?_, hG.2.2.2⟩
      · show n - k ≤ 8
        omega
      · have hq3 : q < n - k := hq2
        exact hq q (by omega)
    have hx9 : ix (pm_up M 4 0 (nI (n - k))) (iv_up d 0 2 (n - k)) e := by
      refine ⟨xL, ⟨rfl, fun q hq2 => ?_⟩, xT, fun k9 hk9 => ?_⟩
      · have hq3 : q < n - k := hq2
        exact xR.2 q (by omega)
      · have h9 := xS k9 hk9
        rw [pz_up_c (by decide), pz_up_c (by decide), pz_up_c (by omega)]
        exact h9
    have hy9 : iy (pm_up (pm_up M 4 0 (nI (n - k))) 23 26 (nI (n - k))) (iv_up d 0 2 (n - k)) e := by
      refine ⟨yL, ⟨rfl, fun q hq2 => ?_⟩, yT, yS⟩
      have hq3 : q < n - k := hq2
      exact yR.2 q (by omega)
    refine ⟨pm_i (nI (n - k)), pm_up M 4 0 (nI (n - k)), pm_up (pm_up M 4 0 (nI (n - k))) 23 26 (nI (n - k)), ?_, ?_, iv_up d 0 2 (n - k), e, hd, ix_hi hx9 (by decide), hy9⟩
    · simp only [rx_56_0, rx_56_1, rx_56_4, rx_56_5, rx_56_6, rx_56_9, rx_56_12, rx_56_15, rx_56_17, rx_56_18, rx_56_19, rx_56_22, rx_56_23, rx_56_26, rx_56_27, rx_56_28, rx_56_31, rx_56_32, rx_56_35, rx_56_38, pz_lt0 (show k < 2147483648 by omega), if_false, xR1, pz_lt (show n < 2147483648 by omega) (show k < 2147483648 by omega), show ¬ n < k by omega, pz_sub (show k ≤ n by omega), pz_up_s]
    · simp only [rx_120_0, rx_120_1, rx_120_2, rx_120_3, rx_120_6, rx_120_9, rx_120_12, rx_120_14, rx_120_15, rx_120_16, rx_120_17, rx_120_20, rx_120_21, rx_120_22, rx_120_25, rx_120_26, rx_120_29, pz_up_c (show (23 : Nat) ≠ 4 by decide), yR1, mx_within_y (show 0 ≤ k by omega) (show k ≤ n by omega) (show n < 1000 by omega), pz_bind, pz_psh, pz_n10, if_false, pz_sub (show k ≤ n by omega), pz_up_s]
theorem op_tell (x : Int32) : op_ok 69 134 [some (pm_r 0), some (pm_i x)] [some (pm_r 23), some (pm_i x), none] := by
  intro M hM
  obtain ⟨d, e, hG, hX, hY⟩ := hM
  obtain ⟨hB, hn, hq, hl⟩ := id hG
  obtain ⟨xL, xR, xT, xS⟩ := id hX
  obtain ⟨yL, yR, yT, yS⟩ := id hY
  obtain ⟨x1, x2, x3, x4, x5, x6, x7⟩ := id xL
  obtain ⟨y1, y2, y3, y4, y5, y6, y7⟩ := id yL
  obtain ⟨b1, b2, b3, b4, b5, b6⟩ := id hB
  have hF : d 0 0 ≤ 6 := by omega
  have hD : d 0 1 ≤ 8 := by omega
  rcases pz_any x (d 0 0 - 1) (by omega) with hx | ⟨f, hf, rfl⟩
  · refine ⟨pm_i (-1), M, M, ?_, ?_, d, e, hG, hX, hY⟩
    · simp only [rx_69_0, rx_69_1, rx_69_4, rx_69_5, rx_69_8, rx_69_11, rx_69_12, rx_69_13, rx_69_14, rx_69_17, rx_69_20, rx_69_21, rx_69_22, rx_69_48, rx_69_49, rx_69_50, rx_69_53, rx_69_54, rx_69_55, rx_69_56, rx_69_59, rx_69_60, rx_69_61, rx_69_62, rx_69_65, cx_hasPost_n x1 hF hx, pz_bind, pz_psh, pz_n00, if_true]
    · simp only [rx_134_0, rx_134_1, rx_134_2, rx_134_5, rx_134_8, rx_134_9, rx_134_10, rx_134_11, rx_134_14, rx_134_15, rx_134_16, rx_134_17, rx_134_18, rx_134_21, rx_134_22, rx_134_23, rx_134_48, rx_134_49, rx_134_50, rx_134_53, rx_134_54, rx_134_55, rx_134_58, rx_134_59, rx_134_61, rx_134_62, rx_134_63, rx_134_64, rx_134_65, rx_134_68, rx_134_69, rx_134_70, rx_134_73, rx_134_74, rx_134_75, rx_134_78, rx_134_79, rx_134_80, rx_134_83, rx_134_84, rx_134_85, rx_134_86, rx_134_88, rx_134_89, rx_134_90, rx_134_91, rx_134_92, rx_134_95, rx_134_96, mx_isPost_n y1 hx, pz_bind, pz_psh, pz_n00, if_true]
  · have k5 := x5 f (by omega)
    have k6 := y5 f (by omega)
    have b9 := b4 f
    have xT1 := xT.1
    have yT1 := yT.1
    rcases (show d 3 f = 0 ∨ d 3 f = 1 ∨ d 3 f = 2 by omega) with q | q | q <;> rw [q] at k5 k6
    · refine ⟨pm_i (nI (d 4 f)), pm_up M 0 5 (nI 31 * e 0 0 + nI 1), pm_up (pm_up M 0 5 (nI 31 * e 0 0 + nI 1)) 23 1 (nI 31 * e 0 0 + nI 1), ?_, ?_, d, pm_up e 0 0 (nI 31 * e 0 0 + nI 1), hG, ix_hi (ix_trace hX) (by decide), iy_trace (iy_lo hY (by decide))⟩
      · simp only [rx_69_0, rx_69_1, rx_69_4, rx_69_5, rx_69_8, rx_69_11, rx_69_12, rx_69_13, rx_69_14, rx_69_17, rx_69_20, rx_69_21, rx_69_22, rx_69_48, rx_69_49, rx_69_50, rx_69_53, rx_69_54, rx_69_55, rx_69_56, rx_69_59, rx_69_60, rx_69_61, rx_69_62, rx_69_65, rx_73_0, rx_73_1, rx_73_2, rx_73_5, rx_73_6, rx_73_9, rx_73_12, rx_73_13, rx_73_14, rx_71_0, rx_71_1, rx_71_3, rx_71_4, rx_71_7, rx_71_8, rx_71_9, rx_71_10, rx_71_13, cx_hasPost_y x1 hF hf, pz_bind, pz_psh, pz_psh0, pz_n10, if_false, pz_ald_15 (show f < 5 by omega), k5, pz_n01, pz_n02, xT1, pz_ald_16 (show f < 5 by omega), pz_up_c (show (16 : Nat) ≠ 0 by decide), x6 f (by omega)]
      · simp only [rx_134_0, rx_134_1, rx_134_2, rx_134_5, rx_134_8, rx_134_9, rx_134_10, rx_134_11, rx_134_14, rx_134_15, rx_134_16, rx_134_17, rx_134_18, rx_134_21, rx_134_22, rx_134_23, rx_134_48, rx_134_49, rx_134_50, rx_134_53, rx_134_54, rx_134_55, rx_134_58, rx_134_59, rx_134_61, rx_134_62, rx_134_63, rx_134_64, rx_134_65, rx_134_68, rx_134_69, rx_134_70, rx_134_73, rx_134_74, rx_134_75, rx_134_78, rx_134_79, rx_134_80, rx_134_83, rx_134_84, rx_134_85, rx_134_86, rx_134_88, rx_134_89, rx_134_90, rx_134_91, rx_134_92, rx_134_95, rx_134_96, rx_135_0, rx_135_1, rx_135_3, rx_135_4, rx_135_7, rx_135_8, rx_135_9, rx_135_10, rx_135_13, mx_isPost_y (M := pm_up M 0 5 (nI 31 * e 0 0 + nI 1)) y1 hF hf, pz_bind, pz_psh, pz_psh0, pz_n10, if_false, pz_ald_30 (show f < 5 by omega), pz_ald_29 (show f < 5 by omega), pz_up_c (show (30 : Nat) ≠ 0 by decide), pz_up_c (show (29 : Nat) ≠ 0 by decide), pz_up_c (show (23 : Nat) ≠ 0 by decide), k6, pz_n01, pz_n02, yT1, y6 f (by omega), pz_nlz_i]
    · refine ⟨pm_i (nI (d 4 f + 100)), pm_up (pm_up M 0 5 (nI 31 * e 0 0 + nI 2)) 0 5 (nI 31 * (nI 31 * e 0 0 + nI 2) + nI 1), pm_up (pm_up (pm_up (pm_up M 0 5 (nI 31 * e 0 0 + nI 2)) 0 5 (nI 31 * (nI 31 * e 0 0 + nI 2) + nI 1)) 23 1 (nI 31 * e 0 0 + nI 2)) 23 1 (nI 31 * (nI 31 * e 0 0 + nI 2) + nI 1), ?_, ?_, d, pm_up (pm_up e 0 0 (nI 31 * e 0 0 + nI 2)) 0 0 (nI 31 * (nI 31 * e 0 0 + nI 2) + nI 1), hG, ix_hi (ix_hi (ix_trace (ix_trace hX)) (by decide)) (by decide), iy_trace (iy_trace (iy_lo (iy_lo hY (by decide)) (by decide)))⟩
      · simp only [rx_69_0, rx_69_1, rx_69_4, rx_69_5, rx_69_8, rx_69_11, rx_69_12, rx_69_13, rx_69_14, rx_69_17, rx_69_20, rx_69_21, rx_69_22, rx_69_48, rx_69_49, rx_69_50, rx_69_53, rx_69_54, rx_69_55, rx_69_56, rx_69_59, rx_69_60, rx_69_61, rx_69_62, rx_69_65, rx_72_0, rx_72_1, rx_72_2, rx_72_5, rx_72_6, rx_72_7, rx_72_10, rx_72_12, rx_72_13, rx_73_0, rx_73_1, rx_73_2, rx_73_5, rx_73_6, rx_73_9, rx_73_12, rx_73_13, rx_73_14, rx_71_0, rx_71_1, rx_71_3, rx_71_4, rx_71_7, rx_71_8, rx_71_9, rx_71_10, rx_71_13, cx_hasPost_y x1 hF hf, pz_bind, pz_psh, pz_psh0, pz_n10, if_false, if_true, pz_ald_15 (show f < 5 by omega), k5, xT1, pz_ald_16 (show f < 5 by omega), pz_up_c (show (16 : Nat) ≠ 0 by decide), x6 f (by omega), pz_up_s, pz_add]
      · simp only [rx_134_0, rx_134_1, rx_134_2, rx_134_5, rx_134_8, rx_134_9, rx_134_10, rx_134_11, rx_134_14, rx_134_15, rx_134_16, rx_134_17, rx_134_18, rx_134_21, rx_134_22, rx_134_23, rx_134_48, rx_134_49, rx_134_50, rx_134_53, rx_134_54, rx_134_55, rx_134_58, rx_134_59, rx_134_61, rx_134_62, rx_134_63, rx_134_64, rx_134_65, rx_134_68, rx_134_69, rx_134_70, rx_134_73, rx_134_74, rx_134_75, rx_134_78, rx_134_79, rx_134_80, rx_134_83, rx_134_84, rx_134_85, rx_134_86, rx_134_88, rx_134_89, rx_134_90, rx_134_91, rx_134_92, rx_134_95, rx_134_96, rx_135_0, rx_135_1, rx_135_3, rx_135_4, rx_135_7, rx_135_8, rx_135_9, rx_135_10, rx_135_13, mx_isPost_y (M := pm_up (pm_up M 0 5 (nI 31 * e 0 0 + nI 2)) 0 5 (nI 31 * (nI 31 * e 0 0 + nI 2) + nI 1)) y1 hF hf, pz_bind, pz_psh, pz_psh0, pz_n10, if_false, if_true, pz_ald_30 (show f < 5 by omega), pz_ald_29 (show f < 5 by omega), pz_up_c (show (30 : Nat) ≠ 0 by decide), pz_up_c (show (29 : Nat) ≠ 0 by decide), pz_up_c (show (23 : Nat) ≠ 0 by decide), k6, yT1, y6 f (by omega), pz_nlz_i, pz_up_s, pz_add]
    · obtain ⟨t1, et1⟩ : ∃ t, t = nI 31 * e 0 0 + nI 3 := ⟨_, rfl⟩
      obtain ⟨t2, et2⟩ : ∃ t, t = nI 31 * t1 + nI 2 := ⟨_, rfl⟩
      obtain ⟨t3, et3⟩ : ∃ t, t = nI 31 * t2 + nI 1 := ⟨_, rfl⟩
      obtain ⟨t4, et4⟩ : ∃ t, t = nI 31 * t3 + nI 1 := ⟨_, rfl⟩
      refine ⟨pm_i (nI (2 * d 4 f + 100)), pm_up (pm_up (pm_up (pm_up M 0 5 t1) 0 5 t2) 0 5 t3) 0 5 t4, pm_up (pm_up (pm_up (pm_up (pm_up (pm_up (pm_up (pm_up M 0 5 t1) 0 5 t2) 0 5 t3) 0 5 t4) 23 1 t1) 23 1 t2) 23 1 t3) 23 1 t4, ?_, ?_, d, pm_up (pm_up (pm_up (pm_up e 0 0 t1) 0 0 t2) 0 0 t3) 0 0 t4, hG, ix_hi (ix_hi (ix_hi (ix_hi (ix_trace (ix_trace (ix_trace (ix_trace hX)))) (by decide)) (by decide)) (by decide)) (by decide), iy_trace (iy_trace (iy_trace (iy_trace (iy_lo (iy_lo (iy_lo (iy_lo hY (by decide)) (by decide)) (by decide)) (by decide)))))⟩
      · simp only [rx_69_0, rx_69_1, rx_69_4, rx_69_5, rx_69_8, rx_69_11, rx_69_12, rx_69_13, rx_69_14, rx_69_17, rx_69_20, rx_69_21, rx_69_22, rx_69_48, rx_69_49, rx_69_50, rx_69_53, rx_69_54, rx_69_55, rx_69_56, rx_69_59, rx_69_60, rx_69_61, rx_69_62, rx_69_65, rx_70_0, rx_70_1, rx_70_2, rx_70_5, rx_70_6, rx_70_7, rx_70_10, rx_70_11, rx_70_12, rx_70_13, rx_70_14, rx_70_17, rx_70_18, rx_72_0, rx_72_1, rx_72_2, rx_72_5, rx_72_6, rx_72_7, rx_72_10, rx_72_12, rx_72_13, rx_73_0, rx_73_1, rx_73_2, rx_73_5, rx_73_6, rx_73_9, rx_73_12, rx_73_13, rx_73_14, rx_71_0, rx_71_1, rx_71_3, rx_71_4, rx_71_7, rx_71_8, rx_71_9, rx_71_10, rx_71_13, cx_hasPost_y x1 hF hf, pz_bind, pz_psh, pz_psh0, pz_n10, pz_n21, if_false, if_true, pz_ald_15 (show f < 5 by omega), k5, xT1, pz_ald_16 (show f < 5 by omega), pz_up_c (show (16 : Nat) ≠ 0 by decide), x6 f (by omega), pz_up_s, pz_add, ← et1, ← et2, ← et3, ← et4, pz_nlz_i, show d 4 f + 100 + d 4 f = 2 * d 4 f + 100 by omega]
      · simp only [rx_134_0, rx_134_1, rx_134_2, rx_134_5, rx_134_8, rx_134_9, rx_134_10, rx_134_11, rx_134_14, rx_134_15, rx_134_16, rx_134_17, rx_134_18, rx_134_21, rx_134_22, rx_134_23, rx_134_48, rx_134_49, rx_134_50, rx_134_53, rx_134_54, rx_134_55, rx_134_58, rx_134_59, rx_134_61, rx_134_62, rx_134_63, rx_134_64, rx_134_65, rx_134_68, rx_134_69, rx_134_70, rx_134_73, rx_134_74, rx_134_75, rx_134_78, rx_134_79, rx_134_80, rx_134_83, rx_134_84, rx_134_85, rx_134_86, rx_134_88, rx_134_89, rx_134_90, rx_134_91, rx_134_92, rx_134_95, rx_134_96, rx_135_0, rx_135_1, rx_135_3, rx_135_4, rx_135_7, rx_135_8, rx_135_9, rx_135_10, rx_135_13, mx_isPost_y (M := pm_up (pm_up (pm_up (pm_up M 0 5 t1) 0 5 t2) 0 5 t3) 0 5 t4) y1 hF hf, pz_bind, pz_psh, pz_psh0, pz_n10, pz_n21, if_false, if_true, pz_ald_30 (show f < 5 by omega), pz_ald_29 (show f < 5 by omega), pz_up_c (show (30 : Nat) ≠ 0 by decide), pz_up_c (show (29 : Nat) ≠ 0 by decide), pz_up_c (show (23 : Nat) ≠ 0 by decide), k6, yT1, y6 f (by omega), pz_nlz_i, pz_up_s, pk_mul, pz_add, ← et1, ← et2, ← et3, ← et4]
theorem op_stamp (x : Int32) : op_ok 74 136 [some (pm_r 0), some (pm_i x)] [some (pm_r 23), some (pm_i x)] := by
  intro M hM
  obtain ⟨d, e, hG, hX, hY⟩ := hM
  obtain ⟨hB, hn, hq, hl⟩ := id hG
  obtain ⟨xL, xR, xT, xS⟩ := id hX
  obtain ⟨yL, yR, yT, yS⟩ := id hY
  obtain ⟨x1, x2, x3, x4, x5, x6, x7⟩ := id xL
  obtain ⟨y1, y2, y3, y4, y5, y6, y7⟩ := id yL
  obtain ⟨b1, b2, b3, b4, b5, b6⟩ := id hB
  have hF : d 0 0 ≤ 6 := by omega
  have hD : d 0 1 ≤ 8 := by omega
  rcases pz_any x (d 0 0 - 1) (by omega) with hx | ⟨f, hf, rfl⟩
  · refine ⟨pm_i (-1), M, M, ?_, ?_, d, e, hG, hX, hY⟩
    · simp only [rx_74_0, rx_74_1, rx_74_4, rx_74_5, rx_74_8, rx_74_11, rx_74_12, rx_74_13, rx_74_14, rx_74_17, rx_74_20, rx_74_21, rx_74_22, rx_74_23, rx_74_26, rx_74_27, rx_74_28, rx_74_31, rx_74_33, rx_74_34, rx_74_35, rx_74_36, rx_74_39, rx_74_40, cx_hasPost_n x1 hF hx, pz_bind, pz_psh, pz_n00, if_true]
    · simp only [rx_136_0, rx_136_1, rx_136_2, rx_136_5, rx_136_8, rx_136_9, rx_136_10, rx_136_11, rx_136_12, rx_136_15, rx_136_16, rx_136_17, rx_136_18, rx_136_21, rx_136_22, rx_136_25, rx_136_26, rx_136_29, rx_136_30, rx_136_33, rx_136_34, rx_136_35, rx_136_36, rx_136_39, rx_136_41, rx_136_44, rx_136_45, mx_isPost_n y1 hx, pz_bind, pz_psh, pz_n00, if_true]
  · have k5 := x5 f (by omega)
    have k6 := y5 f (by omega)
    have b9 := b4 f
    have xT1 := xT.1
    have yT1 := yT.1
    by_cases q : d 3 f = 2
    · rw [q] at k5 k6
      refine ⟨pm_i (nI 30), pm_up M 0 5 (nI 31 * e 0 0 + nI 5), pm_up (pm_up M 0 5 (nI 31 * e 0 0 + nI 5)) 23 1 (nI 31 * e 0 0 + nI 5), ?_, ?_, d, pm_up e 0 0 (nI 31 * e 0 0 + nI 5), hG, ix_hi (ix_trace hX) (by decide), iy_trace (iy_lo hY (by decide))⟩
      · simp only [rx_74_0, rx_74_1, rx_74_4, rx_74_5, rx_74_8, rx_74_11, rx_74_12, rx_74_13, rx_74_14, rx_74_17, rx_74_20, rx_74_21, rx_74_22, rx_74_23, rx_74_26, rx_74_27, rx_74_28, rx_74_31, rx_74_33, rx_74_34, rx_74_35, rx_74_36, rx_74_39, rx_74_40, rx_71_0, rx_71_1, rx_71_3, rx_71_4, rx_71_7, rx_71_8, rx_71_9, rx_71_10, rx_71_13, cx_hasPost_y x1 hF hf, pz_bind, pz_psh, pz_psh0, pz_n10, if_false, if_true, pz_ald_15 (show f < 5 by omega), k5, xT1]
      · simp only [rx_136_0, rx_136_1, rx_136_2, rx_136_5, rx_136_8, rx_136_9, rx_136_10, rx_136_11, rx_136_12, rx_136_15, rx_136_16, rx_136_17, rx_136_18, rx_136_21, rx_136_22, rx_136_25, rx_136_26, rx_136_29, rx_136_30, rx_136_33, rx_136_34, rx_136_35, rx_136_36, rx_136_39, rx_136_41, rx_136_44, rx_136_45, rx_135_0, rx_135_1, rx_135_3, rx_135_4, rx_135_7, rx_135_8, rx_135_9, rx_135_10, rx_135_13, mx_isPost_y (M := pm_up M 0 5 (nI 31 * e 0 0 + nI 5)) y1 hF hf, pz_bind, pz_psh, pz_psh0, pz_n10, if_false, if_true, pz_ald_29 (show f < 5 by omega), pz_up_c (show (29 : Nat) ≠ 0 by decide), pz_up_c (show (29 : Nat) ≠ 23 by decide), pz_up_c (show (23 : Nat) ≠ 0 by decide), k6, yT1]
    · have k7 : ¬ nI (d 3 f) = nI 2 := by
        rw [pz_eq (by omega) (by omega)]
        exact q
      refine ⟨pm_i (nI f), pm_up M 0 5 (nI 31 * e 0 0 + nI 4), pm_up (pm_up M 0 5 (nI 31 * e 0 0 + nI 4)) 23 1 (nI 31 * e 0 0 + nI 4), ?_, ?_, d, pm_up e 0 0 (nI 31 * e 0 0 + nI 4), hG, ix_hi (ix_trace hX) (by decide), iy_trace (iy_lo hY (by decide))⟩
      · simp only [rx_74_0, rx_74_1, rx_74_4, rx_74_5, rx_74_8, rx_74_11, rx_74_12, rx_74_13, rx_74_14, rx_74_17, rx_74_20, rx_74_21, rx_74_22, rx_74_23, rx_74_26, rx_74_27, rx_74_28, rx_74_31, rx_74_33, rx_74_34, rx_74_35, rx_74_36, rx_74_39, rx_74_40, rx_71_0, rx_71_1, rx_71_3, rx_71_4, rx_71_7, rx_71_8, rx_71_9, rx_71_10, rx_71_13, cx_hasPost_y x1 hF hf, pz_bind, pz_psh, pz_psh0, pz_n10, if_false, if_true, pz_ald_15 (show f < 5 by omega), k5, k7, xT1]
      · simp only [rx_136_0, rx_136_1, rx_136_2, rx_136_5, rx_136_8, rx_136_9, rx_136_10, rx_136_11, rx_136_12, rx_136_15, rx_136_16, rx_136_17, rx_136_18, rx_136_21, rx_136_22, rx_136_25, rx_136_26, rx_136_29, rx_136_30, rx_136_33, rx_136_34, rx_136_35, rx_136_36, rx_136_39, rx_136_41, rx_136_44, rx_136_45, rx_135_0, rx_135_1, rx_135_3, rx_135_4, rx_135_7, rx_135_8, rx_135_9, rx_135_10, rx_135_13, mx_isPost_y (M := pm_up M 0 5 (nI 31 * e 0 0 + nI 4)) y1 hF hf, pz_bind, pz_psh, pz_psh0, pz_n10, if_false, if_true, pz_ald_29 (show f < 5 by omega), pz_up_c (show (29 : Nat) ≠ 0 by decide), pz_up_c (show (29 : Nat) ≠ 23 by decide), pz_up_c (show (23 : Nat) ≠ 0 by decide), k6, k7, yT1]
theorem op_as (x w : Int32) : op_ok 75 137 [some (pm_r 0), some (pm_i x), some (pm_i w)] [some (pm_r 23), some (pm_i x), some (pm_i w)] := by
  intro M hM
  obtain ⟨d, e, hG, hX, hY⟩ := hM
  obtain ⟨hB, hn, hq, hl⟩ := id hG
  obtain ⟨xL, xR, xT, xS⟩ := id hX
  obtain ⟨yL, yR, yT, yS⟩ := id hY
  obtain ⟨x1, x2, x3, x4, x5, x6, x7⟩ := id xL
  obtain ⟨y1, y2, y3, y4, y5, y6, y7⟩ := id yL
  obtain ⟨b1, b2, b3, b4, b5, b6⟩ := id hB
  have hF : d 0 0 ≤ 6 := by omega
  have hD : d 0 1 ≤ 8 := by omega
  have hX0 := ix_fault (v := nI 0) hX
  have hY0 : iy (pm_up (pm_up M 0 6 (nI 0)) 23 0 (nI 0)) d (pm_up e 0 1 (nI 0)) := iy_fault (iy_lo hY (by decide))
  have hX1 : ix (pm_up (pm_up M 0 6 (nI 0)) 23 0 (nI 0)) d (pm_up e 0 1 (nI 0)) := ix_hi hX0 (by decide)
  rcases pz_any x (d 0 0 - 1) (by omega) with hx | ⟨f, hf, rfl⟩
  · refine ⟨pm_i (-1), pm_up M 0 6 (nI 0), pm_up (pm_up M 0 6 (nI 0)) 23 0 (nI 0), ?_, ?_, d, pm_up e 0 1 (nI 0), hG, hX1, hY0⟩
    · simp only [rx_75_0, rx_75_1, rx_75_2, rx_75_5, rx_75_6, rx_75_9, rx_75_10, rx_75_13, rx_75_16, rx_75_17, rx_75_18, rx_75_19, rx_75_22, rx_75_23, rx_75_24, rx_75_27, rx_75_29, rx_75_30, rx_75_31, rx_75_32, rx_75_35, rx_75_38, rx_75_39, rx_75_40, rx_75_43, rx_75_44, rx_75_45, rx_75_48, rx_75_50, rx_75_51, rx_75_54, rx_75_55, rx_75_56, rx_75_57, cx_hasPost_n (M := pm_up M 0 6 (nI 0)) x1 hF hx, pz_bind, pz_psh, pz_n00, if_true]
    · simp only [rx_137_0, rx_137_1, rx_137_2, rx_137_5, rx_137_6, rx_137_7, rx_137_10, rx_137_13, rx_137_14, rx_137_15, rx_137_16, rx_137_17, rx_137_18, rx_137_21, rx_137_24, rx_137_26, rx_137_27, rx_137_28, rx_137_31, rx_137_32, rx_137_33, rx_137_34, rx_137_37, rx_137_38, rx_137_41, rx_137_42, rx_137_43, rx_137_46, mx_isPost_n (M := pm_up (pm_up M 0 6 (nI 0)) 23 0 (nI 0)) y1 hx, pz_bind, pz_psh, pz_n00, if_true]
  · have b9 := b4 f
    rcases pz_any w 3 (by omega) with hw | ⟨k, hk, rfl⟩
    · refine ⟨pm_i (-2), pm_up M 0 6 (nI 0), pm_up (pm_up M 0 6 (nI 0)) 23 0 (nI 0), ?_, ?_, d, pm_up e 0 1 (nI 0), hG, hX1, hY0⟩
      · rcases hw with hw | ⟨hw, hw2⟩
        · simp only [rx_75_0, rx_75_1, rx_75_2, rx_75_5, rx_75_6, rx_75_9, rx_75_10, rx_75_13, rx_75_16, rx_75_17, rx_75_18, rx_75_19, rx_75_22, rx_75_23, rx_75_24, rx_75_27, rx_75_29, rx_75_30, rx_75_31, rx_75_32, rx_75_35, rx_75_38, rx_75_39, rx_75_40, rx_75_43, rx_75_44, rx_75_45, rx_75_48, rx_75_50, rx_75_51, rx_75_54, rx_75_55, rx_75_56, rx_75_57, cx_hasPost_y (M := pm_up M 0 6 (nI 0)) x1 hF hf, pz_bind, pz_psh, pz_n10, if_false, hw, if_true]
        · simp only [rx_75_0, rx_75_1, rx_75_2, rx_75_5, rx_75_6, rx_75_9, rx_75_10, rx_75_13, rx_75_16, rx_75_17, rx_75_18, rx_75_19, rx_75_22, rx_75_23, rx_75_24, rx_75_27, rx_75_29, rx_75_30, rx_75_31, rx_75_32, rx_75_35, rx_75_38, rx_75_39, rx_75_40, rx_75_43, rx_75_44, rx_75_45, rx_75_48, rx_75_50, rx_75_51, rx_75_54, rx_75_55, rx_75_56, rx_75_57, cx_hasPost_y (M := pm_up M 0 6 (nI 0)) x1 hF hf, pz_bind, pz_psh, pz_n10, if_false, hw, pz_ge1 (n := 2) (by omega) hw2, if_true]
      · simp only [rx_137_0, rx_137_1, rx_137_2, rx_137_5, rx_137_6, rx_137_7, rx_137_10, rx_137_13, rx_137_14, rx_137_15, rx_137_16, rx_137_17, rx_137_18, rx_137_21, rx_137_24, rx_137_26, rx_137_27, rx_137_28, rx_137_31, rx_137_32, rx_137_33, rx_137_34, rx_137_37, rx_137_38, rx_137_41, rx_137_42, rx_137_43, rx_137_46, mx_isPost_y (M := pm_up (pm_up M 0 6 (nI 0)) 23 0 (nI 0)) y1 hF hf, pz_bind, pz_psh, pz_n10, if_false, mx_within_n (h := 2) (by omega) hw, pz_n00, if_true]
    · by_cases q : d 3 f < k
      · refine ⟨pm_i (-10 - nI 2), pm_up (pm_up M 0 6 (nI 0)) 0 6 (nI 2), pm_up (pm_up (pm_up (pm_up M 0 6 (nI 0)) 0 6 (nI 2)) 23 0 (nI 0)) 23 0 (nI 2), ?_, ?_, d, pm_up (pm_up e 0 1 (nI 0)) 0 1 (nI 2), hG, ix_hi (ix_hi (ix_fault hX0) (by decide)) (by decide), iy_fault (iy_fault (iy_lo (iy_lo hY (by decide)) (by decide)))⟩
        · simp only [rx_75_0, rx_75_1, rx_75_2, rx_75_5, rx_75_6, rx_75_9, rx_75_10, rx_75_13, rx_75_16, rx_75_17, rx_75_18, rx_75_19, rx_75_22, rx_75_23, rx_75_24, rx_75_27, rx_75_29, rx_75_30, rx_75_31, rx_75_32, rx_75_35, rx_75_38, rx_75_39, rx_75_40, rx_75_43, rx_75_44, rx_75_45, rx_75_48, rx_75_50, rx_75_51, rx_75_54, rx_75_55, rx_75_56, rx_75_57, cx_hasPost_y (M := pm_up M 0 6 (nI 0)) x1 hF hf, pz_bind, pz_psh, pz_n10, if_false, pz_lt0 (show k < 2147483648 by omega), pz_lt (show 2 < 2147483648 by omega) (show k < 2147483648 by omega), show ¬ 2 < k by omega, pz_ald_15 (show f < 5 by omega), pz_up_c (show (15 : Nat) ≠ 0 by decide), x5 f (by omega), pz_lt (show d 3 f < 2147483648 by omega) (show k < 2147483648 by omega), q, if_true, pz_up_s]
        · simp only [rx_137_0, rx_137_1, rx_137_2, rx_137_5, rx_137_6, rx_137_7, rx_137_10, rx_137_13, rx_137_14, rx_137_15, rx_137_16, rx_137_17, rx_137_18, rx_137_21, rx_137_24, rx_137_26, rx_137_27, rx_137_28, rx_137_31, rx_137_32, rx_137_33, rx_137_34, rx_137_37, rx_137_38, rx_137_41, rx_137_42, rx_137_43, rx_137_46, rx_84_0, rx_84_1, rx_84_2, rx_84_5, rx_84_7, rx_84_8, rx_84_9, mx_isPost_y (M := pm_up (pm_up (pm_up M 0 6 (nI 0)) 0 6 (nI 2)) 23 0 (nI 0)) y1 hF hf, pz_bind, pz_psh, pz_n10, if_false, mx_within_y (show 0 ≤ k by omega) (show k ≤ 2 by omega) (by omega), pz_ald_29 (show f < 5 by omega), pz_up_c (show (29 : Nat) ≠ 0 by decide), pz_up_c (show (29 : Nat) ≠ 23 by decide), y5 f (by omega), pz_lt (show d 3 f < 2147483648 by omega) (show k < 2147483648 by omega), q, if_true]
      · refine ⟨pm_i (nI 1), pm_up M 0 6 (nI 0), pm_up (pm_up M 0 6 (nI 0)) 23 0 (nI 0), ?_, ?_, d, pm_up e 0 1 (nI 0), hG, hX1, hY0⟩
        · simp only [rx_75_0, rx_75_1, rx_75_2, rx_75_5, rx_75_6, rx_75_9, rx_75_10, rx_75_13, rx_75_16, rx_75_17, rx_75_18, rx_75_19, rx_75_22, rx_75_23, rx_75_24, rx_75_27, rx_75_29, rx_75_30, rx_75_31, rx_75_32, rx_75_35, rx_75_38, rx_75_39, rx_75_40, rx_75_43, rx_75_44, rx_75_45, rx_75_48, rx_75_50, rx_75_51, rx_75_54, rx_75_55, rx_75_56, rx_75_57, cx_hasPost_y (M := pm_up M 0 6 (nI 0)) x1 hF hf, pz_bind, pz_psh, pz_n10, if_false, pz_lt0 (show k < 2147483648 by omega), pz_lt (show 2 < 2147483648 by omega) (show k < 2147483648 by omega), show ¬ 2 < k by omega, pz_ald_15 (show f < 5 by omega), pz_up_c (show (15 : Nat) ≠ 0 by decide), x5 f (by omega), pz_lt (show d 3 f < 2147483648 by omega) (show k < 2147483648 by omega), q]
        · simp only [rx_137_0, rx_137_1, rx_137_2, rx_137_5, rx_137_6, rx_137_7, rx_137_10, rx_137_13, rx_137_14, rx_137_15, rx_137_16, rx_137_17, rx_137_18, rx_137_21, rx_137_24, rx_137_26, rx_137_27, rx_137_28, rx_137_31, rx_137_32, rx_137_33, rx_137_34, rx_137_37, rx_137_38, rx_137_41, rx_137_42, rx_137_43, rx_137_46, mx_isPost_y (M := pm_up (pm_up M 0 6 (nI 0)) 23 0 (nI 0)) y1 hF hf, pz_bind, pz_psh, pz_n10, if_false, mx_within_y (show 0 ≤ k by omega) (show k ≤ 2 by omega) (by omega), pz_ald_29 (show f < 5 by omega), pz_up_c (show (29 : Nat) ≠ 0 by decide), pz_up_c (show (29 : Nat) ≠ 23 by decide), y5 f (by omega), pz_lt (show d 3 f < 2147483648 by omega) (show k < 2147483648 by omega), q]
