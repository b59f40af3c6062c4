/-! The calls that run the days once. -/
theorem op_wet (x w : Int32) : op_ok 40 101 [some (pm_r 0), some (pm_i x), some (pm_i w)] [some (pm_r 23), some (pm_i x), some (pm_i w)] := by
  intro M hM
  obtain ⟨d, e, hG, hX, hY⟩ := hM
  obtain ⟨hB, hn, hq, hl⟩ := id hG
  obtain ⟨xL, xR, xT, xS⟩ := id hX
  obtain ⟨yL, yR, yT, yS⟩ := id hY
  obtain ⟨x1, x2, x3, x4, x5, x6, x7⟩ := id xL
  obtain ⟨y1, y2, y3, y4, y5, y6, y7⟩ := id yL
  obtain ⟨b1, b2, b3, b4, b5, b6⟩ := id hB
  have hF : d 0 0 ≤ 6 := by omega
  have hD : d 0 1 ≤ 8 := by omega
  rcases pz_any x (d 0 0) (by omega) with hx | ⟨f, hf, rfl⟩
  · refine ⟨pm_i (-1), M, M, ?_, ?_, d, e, hG, hX, hY⟩
    · simp only [rx_40_0, rx_40_1, rx_40_4, rx_40_5, rx_40_8, rx_40_11, rx_40_12, rx_40_13, rx_40_14, rx_40_17, rx_40_18, rx_40_21, rx_40_24, rx_40_26, rx_40_27, rx_40_28, rx_40_29, rx_40_30, rx_40_31, rx_40_34, rx_40_35, rx_40_38, rx_40_41, rx_40_42, rx_40_43, cx_hasField_n x1 hx, pz_bind, pz_psh, pz_n00, if_true]
    · simp only [rx_101_0, rx_101_1, rx_101_2, rx_101_5, rx_101_8, rx_101_9, rx_101_10, rx_101_11, rx_101_12, rx_101_13, rx_101_16, rx_101_19, rx_101_22, rx_101_24, rx_101_25, rx_101_26, rx_101_27, rx_101_28, rx_101_31, rx_101_32, rx_101_35, rx_101_36, rx_101_37, mx_isField_n y1 hx, pz_bind, pz_psh, pz_n00, if_true]
  · rcases pz_any w (d 0 1 + 1) (by omega) with hw | ⟨t, ht, rfl⟩
    · refine ⟨pm_i (-2), M, M, ?_, ?_, d, e, hG, hX, hY⟩
      · simp only [rx_40_0, rx_40_1, rx_40_4, rx_40_5, rx_40_8, rx_40_11, rx_40_12, rx_40_13, rx_40_14, rx_40_17, rx_40_18, rx_40_21, rx_40_24, rx_40_26, rx_40_27, rx_40_28, rx_40_29, rx_40_30, rx_40_31, rx_40_34, rx_40_35, rx_40_38, rx_40_41, rx_40_42, rx_40_43, cx_hasField_y x1 hF hf, pz_bind, pz_psh, pz_n10, if_false, cx_hasBehind_n x2 hD hw, pz_n00, if_true]
      · simp only [rx_101_0, rx_101_1, rx_101_2, rx_101_5, rx_101_8, rx_101_9, rx_101_10, rx_101_11, rx_101_12, rx_101_13, rx_101_16, rx_101_19, rx_101_22, rx_101_24, rx_101_25, rx_101_26, rx_101_27, rx_101_28, rx_101_31, rx_101_32, rx_101_35, rx_101_36, rx_101_37, mx_isField_y y1 hF hf, pz_bind, pz_psh, pz_n10, if_false, y2, mx_within_n (h := d 0 1) (by omega) hw, pz_n00, if_true]
    · obtain ⟨M1, r1, r2, r3⟩ := cx_blow (P := 0) (C := 0) (t := t) xL hB (by omega) (by omega) (by omega)
      have hY1 := iy_S_fr hY r2
      obtain ⟨z1, z2, z3, z4⟩ := id hY1
      obtain ⟨M2, t1, t2, t3⟩ := mx_goDays (P := 0) (C := 0) (t := t) z1 hB z3.2.2 (by omega) (by omega) (by omega)
      refine ⟨pm_i (nI (sp_w (d 0 0) (d 3) (d 4) (d 5) (fun _ => 0) 0 t f)), M1, M2, ?_, ?_, d, e, hG, ix_Z_fr (ix_S_fr hX r2) t2, iy_Z_fr hY1 t2⟩
      · simp only [rx_40_0, rx_40_1, rx_40_4, rx_40_5, rx_40_8, rx_40_11, rx_40_12, rx_40_13, rx_40_14, rx_40_17, rx_40_18, rx_40_21, rx_40_24, rx_40_26, rx_40_27, rx_40_28, rx_40_29, rx_40_30, rx_40_31, rx_40_34, rx_40_35, rx_40_38, rx_40_41, rx_40_42, rx_40_43, cx_hasField_y x1 hF hf, pz_bind, pz_psh, pz_n10, if_false, cx_hasBehind_y x2 hD (show t ≤ d 0 1 by omega), r1, pz_psh0, pz_ald_21 (show f < 6 by omega), r3.1 f hf]
      · simp only [rx_101_0, rx_101_1, rx_101_2, rx_101_5, rx_101_8, rx_101_9, rx_101_10, rx_101_11, rx_101_12, rx_101_13, rx_101_16, rx_101_19, rx_101_22, rx_101_24, rx_101_25, rx_101_26, rx_101_27, rx_101_28, rx_101_31, rx_101_32, rx_101_35, rx_101_36, rx_101_37, mx_isField_y z1.1 hF hf, pz_bind, pz_psh, pz_n10, if_false, z1.2.1, mx_within_y (show 0 ≤ t by omega) (show t ≤ d 0 1 by omega) (show d 0 1 < 1000 by omega), t1, pz_psh0, pz_ald_37 (show f < 6 by omega), t3.1 f hf]
theorem op_fell (x w : Int32) : op_ok 43 107 [some (pm_r 0), some (pm_i x), some (pm_i w)] [some (pm_r 23), some (pm_i x), some (pm_i w)] := by
  intro M hM
  obtain ⟨d, e, hG, hX, hY⟩ := hM
  obtain ⟨hB, hn, hq, hl⟩ := id hG
  obtain ⟨xL, xR, xT, xS⟩ := id hX
  obtain ⟨yL, yR, yT, yS⟩ := id hY
  obtain ⟨x1, x2, x3, x4, x5, x6, x7⟩ := id xL
  obtain ⟨y1, y2, y3, y4, y5, y6, y7⟩ := id yL
  obtain ⟨b1, b2, b3, b4, b5, b6⟩ := id hB
  have hF : d 0 0 ≤ 6 := by omega
  have hD : d 0 1 ≤ 8 := by omega
  rcases pz_any x (d 0 0) (by omega) with hx | ⟨f, hf, rfl⟩
  · refine ⟨pm_i (-1), M, M, ?_, ?_, d, e, hG, hX, hY⟩
    · simp only [rx_43_0, rx_43_1, rx_43_4, rx_43_5, rx_43_8, rx_43_11, rx_43_12, rx_43_13, rx_43_14, rx_43_17, rx_43_18, rx_43_21, rx_43_24, rx_43_26, rx_43_27, rx_43_28, rx_43_29, rx_43_30, rx_43_31, rx_43_34, rx_43_35, rx_43_38, rx_43_41, rx_43_42, rx_43_43, cx_hasField_n x1 hx, pz_bind, pz_psh, pz_n00, if_true]
    · simp only [rx_107_0, rx_107_1, rx_107_2, rx_107_5, rx_107_8, rx_107_9, rx_107_10, rx_107_11, rx_107_12, rx_107_13, rx_107_16, rx_107_19, rx_107_22, rx_107_24, rx_107_25, rx_107_26, rx_107_27, rx_107_28, rx_107_31, rx_107_32, rx_107_35, rx_107_36, rx_107_37, mx_isField_n y1 hx, pz_bind, pz_psh, pz_n00, if_true]
  · rcases pz_any w (d 0 1 + 1) (by omega) with hw | ⟨t, ht, rfl⟩
    · refine ⟨pm_i (-2), M, M, ?_, ?_, d, e, hG, hX, hY⟩
      · simp only [rx_43_0, rx_43_1, rx_43_4, rx_43_5, rx_43_8, rx_43_11, rx_43_12, rx_43_13, rx_43_14, rx_43_17, rx_43_18, rx_43_21, rx_43_24, rx_43_26, rx_43_27, rx_43_28, rx_43_29, rx_43_30, rx_43_31, rx_43_34, rx_43_35, rx_43_38, rx_43_41, rx_43_42, rx_43_43, cx_hasField_y x1 hF hf, pz_bind, pz_psh, pz_n10, if_false, cx_hasBehind_n x2 hD hw, pz_n00, if_true]
      · simp only [rx_107_0, rx_107_1, rx_107_2, rx_107_5, rx_107_8, rx_107_9, rx_107_10, rx_107_11, rx_107_12, rx_107_13, rx_107_16, rx_107_19, rx_107_22, rx_107_24, rx_107_25, rx_107_26, rx_107_27, rx_107_28, rx_107_31, rx_107_32, rx_107_35, rx_107_36, rx_107_37, mx_isField_y y1 hF hf, pz_bind, pz_psh, pz_n10, if_false, y2, mx_within_n (h := d 0 1) (by omega) hw, pz_n00, if_true]
    · obtain ⟨M1, r1, r2, r3⟩ := cx_blow (P := 0) (C := 0) (t := t) xL hB (by omega) (by omega) (by omega)
      have hY1 := iy_S_fr hY r2
      obtain ⟨z1, z2, z3, z4⟩ := id hY1
      obtain ⟨M2, t1, t2, t3⟩ := mx_goDays (P := 0) (C := 0) (t := t) z1 hB z3.2.2 (by omega) (by omega) (by omega)
      refine ⟨pm_i (nI (sp_a (d 0 0) (d 3) (d 4) (d 5) (fun _ => 0) 0 t f)), M1, M2, ?_, ?_, d, e, hG, ix_Z_fr (ix_S_fr hX r2) t2, iy_Z_fr hY1 t2⟩
      · simp only [rx_43_0, rx_43_1, rx_43_4, rx_43_5, rx_43_8, rx_43_11, rx_43_12, rx_43_13, rx_43_14, rx_43_17, rx_43_18, rx_43_21, rx_43_24, rx_43_26, rx_43_27, rx_43_28, rx_43_29, rx_43_30, rx_43_31, rx_43_34, rx_43_35, rx_43_38, rx_43_41, rx_43_42, rx_43_43, cx_hasField_y x1 hF hf, pz_bind, pz_psh, pz_n10, if_false, cx_hasBehind_y x2 hD (show t ≤ d 0 1 by omega), r1, pz_psh0, pz_ald_22 (show f < 6 by omega), r3.2.1 f hf]
      · simp only [rx_107_0, rx_107_1, rx_107_2, rx_107_5, rx_107_8, rx_107_9, rx_107_10, rx_107_11, rx_107_12, rx_107_13, rx_107_16, rx_107_19, rx_107_22, rx_107_24, rx_107_25, rx_107_26, rx_107_27, rx_107_28, rx_107_31, rx_107_32, rx_107_35, rx_107_36, rx_107_37, mx_isField_y z1.1 hF hf, pz_bind, pz_psh, pz_n10, if_false, z1.2.1, mx_within_y (show 0 ≤ t by omega) (show t ≤ d 0 1 by omega) (show d 0 1 < 1000 by omega), t1, pz_psh0, pz_ald_38 (show f < 6 by omega), t3.2.1 f hf]
theorem op_flood (w : Int32) : op_ok 44 108 [some (pm_r 0), some (pm_i w)] [some (pm_r 23), some (pm_i w)] := by
  intro M hM
  obtain ⟨d, e, hG, hX, hY⟩ := hM
  obtain ⟨hB, hn, hq, hl⟩ := id hG
  obtain ⟨xL, xR, xT, xS⟩ := id hX
  obtain ⟨yL, yR, yT, yS⟩ := id hY
  obtain ⟨x1, x2, x3, x4, x5, x6, x7⟩ := id xL
  obtain ⟨y1, y2, y3, y4, y5, y6, y7⟩ := id yL
  obtain ⟨b1, b2, b3, b4, b5, b6⟩ := id hB
  have hF : d 0 0 ≤ 6 := by omega
  have hD : d 0 1 ≤ 8 := by omega
  rcases pz_any w 2 (by omega) with hw | ⟨k, hk, rfl⟩
  · have w0 : ¬ w = 0 := by
      intro h
      rcases hw with hw | hw
      · rw [h] at hw
        exact absurd hw (by decide)
      · rw [h] at hw
        exact absurd hw.2 (by decide)
    have w1 : ¬ w = nI 1 := by
      intro h
      rcases hw with hw | hw
      · rw [h] at hw
        exact absurd hw (by decide)
      · rw [h] at hw
        exact absurd hw.2 (by decide)
    refine ⟨pm_i (-2), M, M, ?_, ?_, d, e, hG, hX, hY⟩
    · simp only [rx_44_0, rx_44_1, rx_44_4, rx_44_5, rx_44_6, rx_44_9, rx_44_11, rx_44_12, rx_44_13, rx_44_16, rx_44_19, rx_44_22, rx_44_24, rx_44_25, rx_44_26, rx_44_27, rx_44_30, rx_44_33, rx_44_34, rx_44_35, rx_44_38, rx_44_39, rx_44_42, rx_44_43, rx_44_46, rx_44_49, rx_44_52, rx_44_53, rx_44_56, rx_44_59, w0, w1, if_false]
    · simp only [rx_108_0, rx_108_1, rx_108_2, rx_108_3, rx_108_6, rx_108_9, rx_108_11, rx_108_12, rx_108_13, rx_108_16, rx_108_19, rx_108_21, rx_108_22, rx_108_23, rx_108_24, rx_108_27, rx_108_28, rx_108_31, rx_108_32, rx_108_35, rx_108_36, rx_108_39, rx_108_42, rx_108_43, rx_108_46, mx_within_n (h := 1) (by omega) hw, pz_bind, pz_psh, pz_n00, if_true]
  · by_cases q0 : d 0 0 = 0
    · refine ⟨pm_i (-3), M, M, ?_, ?_, d, e, hG, hX, hY⟩
      · rcases (show k = 0 ∨ k = 1 by omega) with rfl | rfl
        · simp only [rx_44_0, rx_44_1, rx_44_4, rx_44_5, rx_44_6, rx_44_9, rx_44_11, rx_44_12, rx_44_13, rx_44_16, rx_44_19, rx_44_22, rx_44_24, rx_44_25, rx_44_26, rx_44_27, rx_44_30, rx_44_33, rx_44_34, rx_44_35, rx_44_38, rx_44_39, rx_44_42, rx_44_43, rx_44_46, rx_44_49, rx_44_52, rx_44_53, rx_44_56, rx_44_59, pz_n00, if_true, cx_exists x1 hF, q0, pz_bind, pz_psh]
        · simp only [rx_44_0, rx_44_1, rx_44_4, rx_44_5, rx_44_6, rx_44_9, rx_44_11, rx_44_12, rx_44_13, rx_44_16, rx_44_19, rx_44_22, rx_44_24, rx_44_25, rx_44_26, rx_44_27, rx_44_30, rx_44_33, rx_44_34, rx_44_35, rx_44_38, rx_44_39, rx_44_42, rx_44_43, rx_44_46, rx_44_49, rx_44_52, rx_44_53, rx_44_56, rx_44_59, pz_n10, if_false, cx_exists x1 hF, q0, pz_bind, pz_psh, pz_n00, if_true]
      · simp only [rx_108_0, rx_108_1, rx_108_2, rx_108_3, rx_108_6, rx_108_9, rx_108_11, rx_108_12, rx_108_13, rx_108_16, rx_108_19, rx_108_21, rx_108_22, rx_108_23, rx_108_24, rx_108_27, rx_108_28, rx_108_31, rx_108_32, rx_108_35, rx_108_36, rx_108_39, rx_108_42, rx_108_43, rx_108_46, mx_within_y (show 0 ≤ k by omega) (show k ≤ 1 by omega) (by omega), pz_bind, pz_psh, pz_n10, if_false, y1, q0, pz_n00, if_true]
    · obtain ⟨M1, r1, r2, r3⟩ := cx_blow (P := 0) (C := 0) (t := d 0 1) xL hB (by omega) (by omega) (by omega)
      have hY1 := iy_S_fr hY r2
      obtain ⟨z1, z2, z3, z4⟩ := id hY1
      obtain ⟨M2, t1, t2, t3⟩ := mx_goDays (P := 0) (C := 0) (t := d 0 1) z1 hB z3.2.2 (by omega) (by omega) (by omega)
      rcases (show k = 0 ∨ k = 1 by omega) with rfl | rfl
      · refine ⟨pm_i (sp_s (d 0 0) (d 2) (d 3) (d 4) (d 5) (fun _ => 0) 0 (d 0 1)).2.2.1, M1, M2, ?_, ?_, d, e, hG, ix_Z_fr (ix_S_fr hX r2) t2, iy_Z_fr hY1 t2⟩
        · simp only [rx_44_0, rx_44_1, rx_44_4, rx_44_5, rx_44_6, rx_44_9, rx_44_11, rx_44_12, rx_44_13, rx_44_16, rx_44_19, rx_44_22, rx_44_24, rx_44_25, rx_44_26, rx_44_27, rx_44_30, rx_44_33, rx_44_34, rx_44_35, rx_44_38, rx_44_39, rx_44_42, rx_44_43, rx_44_46, rx_44_49, rx_44_52, rx_44_53, rx_44_56, rx_44_59, pz_n00, if_true, cx_exists x1 hF, q0, if_false, pz_bind, pz_psh, pz_n10, x2, r1, pz_psh0, r3.2.2.2.2.1]
        · simp only [rx_108_0, rx_108_1, rx_108_2, rx_108_3, rx_108_6, rx_108_9, rx_108_11, rx_108_12, rx_108_13, rx_108_16, rx_108_19, rx_108_21, rx_108_22, rx_108_23, rx_108_24, rx_108_27, rx_108_28, rx_108_31, rx_108_32, rx_108_35, rx_108_36, rx_108_39, rx_108_42, rx_108_43, rx_108_46, mx_within_y (show 0 ≤ 0 by omega) (show 0 ≤ 1 by omega) (show 1 < 1000 by omega), pz_bind, pz_psh, pz_n10, pz_n00, if_true, if_false, z1.1, z1.2.1, pz_eq0 (show d 0 0 < 2147483648 by omega), q0, t1, pz_psh0, t3.2.2.2.1]
      · refine ⟨pm_i (sp_s (d 0 0) (d 2) (d 3) (d 4) (d 5) (fun _ => 0) 0 (d 0 1)).2.2.2, M1, M2, ?_, ?_, d, e, hG, ix_Z_fr (ix_S_fr hX r2) t2, iy_Z_fr hY1 t2⟩
        · simp only [rx_44_0, rx_44_1, rx_44_4, rx_44_5, rx_44_6, rx_44_9, rx_44_11, rx_44_12, rx_44_13, rx_44_16, rx_44_19, rx_44_22, rx_44_24, rx_44_25, rx_44_26, rx_44_27, rx_44_30, rx_44_33, rx_44_34, rx_44_35, rx_44_38, rx_44_39, rx_44_42, rx_44_43, rx_44_46, rx_44_49, rx_44_52, rx_44_53, rx_44_56, rx_44_59, pz_n10, if_true, cx_exists x1 hF, q0, if_false, pz_bind, pz_psh, x2, r1, pz_psh0, r3.2.2.2.2.2]
        · simp only [rx_108_0, rx_108_1, rx_108_2, rx_108_3, rx_108_6, rx_108_9, rx_108_11, rx_108_12, rx_108_13, rx_108_16, rx_108_19, rx_108_21, rx_108_22, rx_108_23, rx_108_24, rx_108_27, rx_108_28, rx_108_31, rx_108_32, rx_108_35, rx_108_36, rx_108_39, rx_108_42, rx_108_43, rx_108_46, mx_within_y (show 0 ≤ 1 by omega) (show 1 ≤ 1 by omega) (show 1 < 1000 by omega), pz_bind, pz_psh, pz_n10, pz_n00, if_true, if_false, z1.1, z1.2.1, pz_eq0 (show d 0 0 < 2147483648 by omega), q0, t1, pz_psh0, t3.2.2.2.2]
theorem op_enough : op_ok 45 109 [some (pm_r 0)] [some (pm_r 23)] := by
  intro M hM
  obtain ⟨d, e, hG, hX, hY⟩ := hM
  obtain ⟨hB, hn, hq, hl⟩ := id hG
  obtain ⟨xL, xR, xT, xS⟩ := id hX
  obtain ⟨yL, yR, yT, yS⟩ := id hY
  obtain ⟨x1, x2, x3, x4, x5, x6, x7⟩ := id xL
  obtain ⟨y1, y2, y3, y4, y5, y6, y7⟩ := id yL
  obtain ⟨b1, b2, b3, b4, b5, b6⟩ := id hB
  have hF : d 0 0 ≤ 6 := by omega
  have hD : d 0 1 ≤ 8 := by omega
  by_cases q0 : d 0 0 = 0
  · refine ⟨pm_i (-3), M, M, ?_, ?_, d, e, hG, hX, hY⟩
    · simp only [rx_45_0, rx_45_1, rx_45_4, rx_45_7, rx_45_10, rx_45_12, rx_45_13, rx_45_14, rx_45_15, rx_45_18, rx_45_21, rx_45_22, rx_45_23, rx_45_26, rx_45_27, rx_45_30, rx_45_31, rx_45_34, rx_45_37, cx_exists x1 hF, q0, pz_bind, pz_psh, pz_n00, if_true]
    · simp only [rx_109_0, rx_109_1, rx_109_4, rx_109_7, rx_109_9, rx_109_10, rx_109_11, rx_109_12, rx_109_15, rx_109_16, rx_109_19, rx_109_20, rx_109_23, y1, q0, pz_n00, if_true]
  · obtain ⟨M1, r1, r2, r3⟩ := cx_blow (P := 0) (C := 0) (t := d 0 1) xL hB (by omega) (by omega) (by omega)
    have hY1 := iy_S_fr hY r2
    obtain ⟨z1, z2, z3, z4⟩ := id hY1
    obtain ⟨M2, t1, t2, t3⟩ := mx_goDays (P := 0) (C := 0) (t := d 0 1) z1 hB z3.2.2 (by omega) (by omega) (by omega)
    have hX1 := xL.fr r2
    have hZ1 := z1.fr t2
    have ha9 : ∀ g, sp_a (d 0 0) (d 3) (d 4) (d 5) (fun _ => 0) 0 (d 0 1) g ≤ 1000 := fun g => by
      have := sp_a_le (d 0 0) (d 3) (d 4) (d 5) (fun _ => 0) 0 b6 (d 0 1) g
      omega
    refine ⟨pm_i (nI (sp_en (d 1) (sp_a (d 0 0) (d 3) (d 4) (d 5) (fun _ => 0) 0 (d 0 1)) (d 0 0))), M1, M2, ?_, ?_, d, e, hG, ix_Z_fr (ix_S_fr hX r2) t2, iy_Z_fr hY1 t2⟩
    · simp only [rx_45_0, rx_45_1, rx_45_4, rx_45_7, rx_45_10, rx_45_12, rx_45_13, rx_45_14, rx_45_15, rx_45_18, rx_45_21, rx_45_22, rx_45_23, rx_45_26, rx_45_27, rx_45_30, rx_45_31, rx_45_34, rx_45_37, cx_exists x1 hF, q0, if_false, pz_bind, pz_psh, pz_n10, x2, r1, pz_psh0, cx_cont hF hX1.1 hX1.2.2.1 r3.2.1 b2 ha9]
    · simp only [rx_109_0, rx_109_1, rx_109_4, rx_109_7, rx_109_9, rx_109_10, rx_109_11, rx_109_12, rx_109_15, rx_109_16, rx_109_19, rx_109_20, rx_109_23, z1.1, z1.2.1, pz_eq0 (show d 0 0 < 2147483648 by omega), q0, if_false, pz_bind, t1, pz_psh0, pz_psh, mx_cont hF hZ1.1 hZ1.2.2.1 t3.2.1 b2 ha9]
