/-! The calls that ask, or set one number. -/
theorem op_ofField (x w : Int32) : op_ok 35 92 [some (pm_r 0), some (pm_i x), some (pm_i w)] [some (pm_r 23), some (pm_i x), some (pm_i w)] := by
  intro M hM
  obtain ⟨d, e, hG, hX, hY⟩ := hM
  obtain ⟨hB, hn, hq, hl⟩ := id hG
  obtain ⟨xL, xR, xT, xS⟩ := id hX
  obtain ⟨yL, yR, yT, yS⟩ := id hY
  obtain ⟨x1, x2, x3, x4, x5, x6, x7⟩ := id xL
  obtain ⟨y1, y2, y3, y4, y5, y6, y7⟩ := id yL
  obtain ⟨b1, b2, b3, b4, b5, b6⟩ := id hB
  have hF : d 0 0 ≤ 6 := by omega
  have hD : d 0 1 ≤ 8 := by omega
  rcases pz_any x (d 0 0) (by omega) with hx | ⟨f, hf, rfl⟩
  · refine ⟨pm_i (-1), M, M, ?_, ?_, d, e, hG, hX, hY⟩
    · simp only [rx_35_0, rx_35_1, rx_35_4, rx_35_5, rx_35_8, rx_35_11, rx_35_12, rx_35_13, rx_35_14, rx_35_17, rx_35_18, rx_35_21, rx_35_24, rx_35_25, rx_35_26, rx_35_27, rx_35_28, rx_35_29, rx_35_32, rx_35_33, rx_35_36, rx_35_39, rx_35_40, rx_35_41, rx_35_44, rx_35_46, cx_hasField_n x1 hx, pz_bind, pz_psh, pz_n00, if_true]
    · simp only [rx_92_0, rx_92_1, rx_92_2, rx_92_5, rx_92_8, rx_92_9, rx_92_10, rx_92_11, rx_92_14, rx_92_15, rx_92_18, rx_92_19, rx_92_20, rx_92_23, rx_92_24, rx_92_25, rx_92_28, rx_92_29, rx_92_32, rx_92_33, rx_92_34, rx_92_37, rx_92_39, mx_isField_n y1 hx, pz_bind, pz_psh, pz_n00, if_true]
  · by_cases w0 : w = 0
    · refine ⟨pm_i (nI (d 1 f)), M, M, ?_, ?_, d, e, hG, hX, hY⟩
      · simp only [rx_35_0, rx_35_1, rx_35_4, rx_35_5, rx_35_8, rx_35_11, rx_35_12, rx_35_13, rx_35_14, rx_35_17, rx_35_18, rx_35_21, rx_35_24, rx_35_25, rx_35_26, rx_35_27, rx_35_28, rx_35_29, rx_35_32, rx_35_33, rx_35_36, rx_35_39, rx_35_40, rx_35_41, rx_35_44, rx_35_46, cx_hasField_y x1 hF hf, pz_bind, pz_psh, pz_n10, if_false, w0, if_true, pz_ald_13 (show f < 6 by omega), x3 f hf]
      · simp only [rx_92_0, rx_92_1, rx_92_2, rx_92_5, rx_92_8, rx_92_9, rx_92_10, rx_92_11, rx_92_14, rx_92_15, rx_92_18, rx_92_19, rx_92_20, rx_92_23, rx_92_24, rx_92_25, rx_92_28, rx_92_29, rx_92_32, rx_92_33, rx_92_34, rx_92_37, rx_92_39, mx_isField_y y1 hF hf, pz_bind, pz_psh, pz_n10, if_false, w0, if_true, pz_ald_27 (show f < 6 by omega), y3 f hf]
    · by_cases w1 : w = nI 1
      · refine ⟨pm_i (nI (d 2 f)), M, M, ?_, ?_, d, e, hG, hX, hY⟩
        · simp only [rx_35_0, rx_35_1, rx_35_4, rx_35_5, rx_35_8, rx_35_11, rx_35_12, rx_35_13, rx_35_14, rx_35_17, rx_35_18, rx_35_21, rx_35_24, rx_35_25, rx_35_26, rx_35_27, rx_35_28, rx_35_29, rx_35_32, rx_35_33, rx_35_36, rx_35_39, rx_35_40, rx_35_41, rx_35_44, rx_35_46, cx_hasField_y x1 hF hf, pz_bind, pz_psh, pz_n10, if_false, w1, if_true, pz_ald_14 (show f < 6 by omega), x4 f hf]
        · simp only [rx_92_0, rx_92_1, rx_92_2, rx_92_5, rx_92_8, rx_92_9, rx_92_10, rx_92_11, rx_92_14, rx_92_15, rx_92_18, rx_92_19, rx_92_20, rx_92_23, rx_92_24, rx_92_25, rx_92_28, rx_92_29, rx_92_32, rx_92_33, rx_92_34, rx_92_37, rx_92_39, mx_isField_y y1 hF hf, pz_bind, pz_psh, pz_n10, if_false, w1, if_true, pz_ald_28 (show f < 6 by omega), y4 f hf]
      · refine ⟨pm_i (-2), M, M, ?_, ?_, d, e, hG, hX, hY⟩
        · simp only [rx_35_0, rx_35_1, rx_35_4, rx_35_5, rx_35_8, rx_35_11, rx_35_12, rx_35_13, rx_35_14, rx_35_17, rx_35_18, rx_35_21, rx_35_24, rx_35_25, rx_35_26, rx_35_27, rx_35_28, rx_35_29, rx_35_32, rx_35_33, rx_35_36, rx_35_39, rx_35_40, rx_35_41, rx_35_44, rx_35_46, cx_hasField_y x1 hF hf, pz_bind, pz_psh, pz_n10, if_false, w0, w1]
        · simp only [rx_92_0, rx_92_1, rx_92_2, rx_92_5, rx_92_8, rx_92_9, rx_92_10, rx_92_11, rx_92_14, rx_92_15, rx_92_18, rx_92_19, rx_92_20, rx_92_23, rx_92_24, rx_92_25, rx_92_28, rx_92_29, rx_92_32, rx_92_33, rx_92_34, rx_92_37, rx_92_39, mx_isField_y y1 hF hf, pz_bind, pz_psh, pz_n10, if_false, w0, w1]
theorem op_ofPost (x w : Int32) : op_ok 36 94 [some (pm_r 0), some (pm_i x), some (pm_i w)] [some (pm_r 23), some (pm_i x), some (pm_i w)] := by
  intro M hM
  obtain ⟨d, e, hG, hX, hY⟩ := hM
  obtain ⟨hB, hn, hq, hl⟩ := id hG
  obtain ⟨xL, xR, xT, xS⟩ := id hX
  obtain ⟨yL, yR, yT, yS⟩ := id hY
  obtain ⟨x1, x2, x3, x4, x5, x6, x7⟩ := id xL
  obtain ⟨y1, y2, y3, y4, y5, y6, y7⟩ := id yL
  obtain ⟨b1, b2, b3, b4, b5, b6⟩ := id hB
  have hF : d 0 0 ≤ 6 := by omega
  have hD : d 0 1 ≤ 8 := by omega
  rcases pz_any x (d 0 0 - 1) (by omega) with hx | ⟨f, hf, rfl⟩
  · refine ⟨pm_i (-1), M, M, ?_, ?_, d, e, hG, hX, hY⟩
    · simp only [rx_36_0, rx_36_1, rx_36_4, rx_36_5, rx_36_8, rx_36_11, rx_36_12, rx_36_13, rx_36_14, rx_36_17, rx_36_18, rx_36_21, rx_36_24, rx_36_25, rx_36_26, rx_36_27, rx_36_28, rx_36_29, rx_36_32, rx_36_33, rx_36_36, rx_36_39, rx_36_40, rx_36_41, rx_36_44, rx_36_46, cx_hasPost_n x1 hF hx, pz_bind, pz_psh, pz_n00, if_true]
    · simp only [rx_94_0, rx_94_1, rx_94_2, rx_94_5, rx_94_8, rx_94_9, rx_94_10, rx_94_11, rx_94_14, rx_94_15, rx_94_18, rx_94_19, rx_94_20, rx_94_23, rx_94_24, rx_94_25, rx_94_28, rx_94_29, rx_94_32, rx_94_33, rx_94_34, rx_94_37, rx_94_39, mx_isPost_n y1 hx, pz_bind, pz_psh, pz_n00, if_true]
  · by_cases w0 : w = 0
    · refine ⟨pm_i (nI (d 3 f)), M, M, ?_, ?_, d, e, hG, hX, hY⟩
      · simp only [rx_36_0, rx_36_1, rx_36_4, rx_36_5, rx_36_8, rx_36_11, rx_36_12, rx_36_13, rx_36_14, rx_36_17, rx_36_18, rx_36_21, rx_36_24, rx_36_25, rx_36_26, rx_36_27, rx_36_28, rx_36_29, rx_36_32, rx_36_33, rx_36_36, rx_36_39, rx_36_40, rx_36_41, rx_36_44, rx_36_46, cx_hasPost_y x1 hF hf, pz_bind, pz_psh, pz_n10, if_false, w0, if_true, pz_ald_15 (show f < 5 by omega), x5 f (by omega)]
      · simp only [rx_94_0, rx_94_1, rx_94_2, rx_94_5, rx_94_8, rx_94_9, rx_94_10, rx_94_11, rx_94_14, rx_94_15, rx_94_18, rx_94_19, rx_94_20, rx_94_23, rx_94_24, rx_94_25, rx_94_28, rx_94_29, rx_94_32, rx_94_33, rx_94_34, rx_94_37, rx_94_39, mx_isPost_y y1 hF hf, pz_bind, pz_psh, pz_n10, if_false, w0, if_true, pz_ald_29 (show f < 5 by omega), y5 f (by omega)]
    · by_cases w1 : w = nI 1
      · refine ⟨pm_i (nI (d 4 f)), M, M, ?_, ?_, d, e, hG, hX, hY⟩
        · simp only [rx_36_0, rx_36_1, rx_36_4, rx_36_5, rx_36_8, rx_36_11, rx_36_12, rx_36_13, rx_36_14, rx_36_17, rx_36_18, rx_36_21, rx_36_24, rx_36_25, rx_36_26, rx_36_27, rx_36_28, rx_36_29, rx_36_32, rx_36_33, rx_36_36, rx_36_39, rx_36_40, rx_36_41, rx_36_44, rx_36_46, cx_hasPost_y x1 hF hf, pz_bind, pz_psh, pz_n10, if_false, w1, if_true, pz_ald_16 (show f < 5 by omega), x6 f (by omega)]
        · simp only [rx_94_0, rx_94_1, rx_94_2, rx_94_5, rx_94_8, rx_94_9, rx_94_10, rx_94_11, rx_94_14, rx_94_15, rx_94_18, rx_94_19, rx_94_20, rx_94_23, rx_94_24, rx_94_25, rx_94_28, rx_94_29, rx_94_32, rx_94_33, rx_94_34, rx_94_37, rx_94_39, mx_isPost_y y1 hF hf, pz_bind, pz_psh, pz_n10, if_false, w1, if_true, pz_ald_30 (show f < 5 by omega), y6 f (by omega)]
      · refine ⟨pm_i (-2), M, M, ?_, ?_, d, e, hG, hX, hY⟩
        · simp only [rx_36_0, rx_36_1, rx_36_4, rx_36_5, rx_36_8, rx_36_11, rx_36_12, rx_36_13, rx_36_14, rx_36_17, rx_36_18, rx_36_21, rx_36_24, rx_36_25, rx_36_26, rx_36_27, rx_36_28, rx_36_29, rx_36_32, rx_36_33, rx_36_36, rx_36_39, rx_36_40, rx_36_41, rx_36_44, rx_36_46, cx_hasPost_y x1 hF hf, pz_bind, pz_psh, pz_n10, if_false, w0, w1]
        · simp only [rx_94_0, rx_94_1, rx_94_2, rx_94_5, rx_94_8, rx_94_9, rx_94_10, rx_94_11, rx_94_14, rx_94_15, rx_94_18, rx_94_19, rx_94_20, rx_94_23, rx_94_24, rx_94_25, rx_94_28, rx_94_29, rx_94_32, rx_94_33, rx_94_34, rx_94_37, rx_94_39, mx_isPost_y y1 hF hf, pz_bind, pz_psh, pz_n10, if_false, w0, w1]
theorem op_lets (x w : Int32) : op_ok 37 96 [some (pm_r 0), some (pm_i x), some (pm_i w)] [some (pm_r 23), some (pm_i x), some (pm_i w)] := by
  intro M hM
  obtain ⟨d, e, hG, hX, hY⟩ := hM
  obtain ⟨hB, hn, hq, hl⟩ := id hG
  obtain ⟨xL, xR, xT, xS⟩ := id hX
  obtain ⟨yL, yR, yT, yS⟩ := id hY
  obtain ⟨x1, x2, x3, x4, x5, x6, x7⟩ := id xL
  obtain ⟨y1, y2, y3, y4, y5, y6, y7⟩ := id yL
  obtain ⟨b1, b2, b3, b4, b5, b6⟩ := id hB
  have hF : d 0 0 ≤ 6 := by omega
  have hD : d 0 1 ≤ 8 := by omega
  rcases pz_any x (d 0 0 - 1) (by omega) with hx | ⟨f, hf, rfl⟩
  · refine ⟨pm_i (-1), M, M, ?_, ?_, d, e, hG, hX, hY⟩
    · simp only [rx_37_0, rx_37_1, rx_37_4, rx_37_5, rx_37_8, rx_37_11, rx_37_12, rx_37_13, rx_37_14, rx_37_17, rx_37_18, rx_37_20, rx_37_23, rx_37_25, rx_37_26, rx_37_27, rx_37_30, rx_37_31, rx_37_32, rx_37_35, cx_hasPost_n x1 hF hx, pz_bind, pz_psh, pz_n00, if_true]
    · simp only [rx_96_0, rx_96_1, rx_96_2, rx_96_5, rx_96_8, rx_96_9, rx_96_10, rx_96_11, rx_96_12, rx_96_14, rx_96_17, rx_96_20, rx_96_21, rx_96_22, rx_96_23, rx_96_26, rx_96_29, rx_96_31, mx_isPost_n y1 hx, pz_bind, pz_psh, pz_n00, if_true]
  · rcases pz_any w 100 (by omega) with hw | ⟨c, hc, rfl⟩
    · refine ⟨pm_i (-2), M, M, ?_, ?_, d, e, hG, hX, hY⟩
      · rcases hw with hw | ⟨hw, hw2⟩
        · simp only [rx_37_0, rx_37_1, rx_37_4, rx_37_5, rx_37_8, rx_37_11, rx_37_12, rx_37_13, rx_37_14, rx_37_17, rx_37_18, rx_37_20, rx_37_23, rx_37_25, rx_37_26, rx_37_27, rx_37_30, rx_37_31, rx_37_32, rx_37_35, cx_hasPost_y x1 hF hf, pz_bind, pz_psh, pz_n10, if_false, hw, if_true]
        · simp only [rx_37_0, rx_37_1, rx_37_4, rx_37_5, rx_37_8, rx_37_11, rx_37_12, rx_37_13, rx_37_14, rx_37_17, rx_37_18, rx_37_20, rx_37_23, rx_37_25, rx_37_26, rx_37_27, rx_37_30, rx_37_31, rx_37_32, rx_37_35, cx_hasPost_y x1 hF hf, pz_bind, pz_psh, pz_n10, if_false, hw, pz_ge1 (n := 99) (by omega) hw2, if_true]
      · simp only [rx_96_0, rx_96_1, rx_96_2, rx_96_5, rx_96_8, rx_96_9, rx_96_10, rx_96_11, rx_96_12, rx_96_14, rx_96_17, rx_96_20, rx_96_21, rx_96_22, rx_96_23, rx_96_26, rx_96_29, rx_96_31, mx_isPost_y y1 hF hf, pz_bind, pz_psh, pz_n10, if_false, mx_within_n (h := 99) (by omega) hw, pz_n00, if_true]
    · refine ⟨pm_i (nI (sp_let (d 3 f) (d 4 f) c)), M, M, ?_, ?_, d, e, hG, hX, hY⟩
      · simp only [rx_37_0, rx_37_1, rx_37_4, rx_37_5, rx_37_8, rx_37_11, rx_37_12, rx_37_13, rx_37_14, rx_37_17, rx_37_18, rx_37_20, rx_37_23, rx_37_25, rx_37_26, rx_37_27, rx_37_30, rx_37_31, rx_37_32, rx_37_35, cx_hasPost_y x1 hF hf, pz_bind, pz_psh, pz_n10, if_false, pz_lt0 (show c < 2147483648 by omega), pz_lt (show 99 < 2147483648 by omega) (show c < 2147483648 by omega), show ¬ 99 < c by omega, cx_letBy (x5 f (by omega)) (x6 f (by omega)) (b4 f) (b5 f) (show f < 5 by omega) (show c < 1000 by omega)]
      · simp only [rx_96_0, rx_96_1, rx_96_2, rx_96_5, rx_96_8, rx_96_9, rx_96_10, rx_96_11, rx_96_12, rx_96_14, rx_96_17, rx_96_20, rx_96_21, rx_96_22, rx_96_23, rx_96_26, rx_96_29, rx_96_31, mx_isPost_y y1 hF hf, pz_bind, pz_psh, pz_n10, if_false, mx_within_y (show 0 ≤ c by omega) (show c ≤ 99 by omega) (by omega), mx_letsBy (y5 f (by omega)) (y6 f (by omega)) (b4 f) (b5 f) (show f < 5 by omega) (show c < 1000 by omega)]
theorem op_trace : op_ok 76 138 [some (pm_r 0)] [some (pm_r 23)] := by
  intro M hM
  obtain ⟨d, e, hG, hX, hY⟩ := hM
  obtain ⟨hB, hn, hq, hl⟩ := id hG
  obtain ⟨xL, xR, xT, xS⟩ := id hX
  obtain ⟨yL, yR, yT, yS⟩ := id hY
  obtain ⟨x1, x2, x3, x4, x5, x6, x7⟩ := id xL
  obtain ⟨y1, y2, y3, y4, y5, y6, y7⟩ := id yL
  obtain ⟨b1, b2, b3, b4, b5, b6⟩ := id hB
  have hF : d 0 0 ≤ 6 := by omega
  have hD : d 0 1 ≤ 8 := by omega
  refine ⟨pm_i (e 0 0), M, M, ?_, ?_, d, e, hG, hX, hY⟩
  · simp only [rx_76_0, rx_76_1, rx_76_4, xT.1]
  · simp only [rx_138_0, rx_138_1, rx_138_4, yT.1]
theorem op_fault : op_ok 77 139 [some (pm_r 0)] [some (pm_r 23)] := by
  intro M hM
  obtain ⟨d, e, hG, hX, hY⟩ := hM
  obtain ⟨hB, hn, hq, hl⟩ := id hG
  obtain ⟨xL, xR, xT, xS⟩ := id hX
  obtain ⟨yL, yR, yT, yS⟩ := id hY
  obtain ⟨x1, x2, x3, x4, x5, x6, x7⟩ := id xL
  obtain ⟨y1, y2, y3, y4, y5, y6, y7⟩ := id yL
  obtain ⟨b1, b2, b3, b4, b5, b6⟩ := id hB
  have hF : d 0 0 ≤ 6 := by omega
  have hD : d 0 1 ≤ 8 := by omega
  refine ⟨pm_i (e 0 1), M, M, ?_, ?_, d, e, hG, hX, hY⟩
  · simp only [rx_77_0, rx_77_1, rx_77_4, xT.2]
  · simp only [rx_139_0, rx_139_1, rx_139_4, yT.2.1]
theorem op_many (w : Int32) : op_ok 78 140 [some (pm_r 0), some (pm_i w)] [some (pm_r 23), some (pm_i w)] := by
  intro M hM
  obtain ⟨d, e, hG, hX, hY⟩ := hM
  obtain ⟨hB, hn, hq, hl⟩ := id hG
  obtain ⟨xL, xR, xT, xS⟩ := id hX
  obtain ⟨yL, yR, yT, yS⟩ := id hY
  obtain ⟨x1, x2, x3, x4, x5, x6, x7⟩ := id xL
  obtain ⟨y1, y2, y3, y4, y5, y6, y7⟩ := id yL
  obtain ⟨b1, b2, b3, b4, b5, b6⟩ := id hB
  have hF : d 0 0 ≤ 6 := by omega
  have hD : d 0 1 ≤ 8 := by omega
  by_cases w0 : w = nI 0
  · refine ⟨pm_i (nI (d 0 0 - 1)), M, M, ?_, ?_, d, e, hG, hX, hY⟩
    · simp only [rx_78_0, rx_78_1, rx_78_32, rx_78_33, rx_78_36, rx_78_39, rx_78_40, rx_78_41, rx_78_44, rx_78_47, rx_78_48, rx_78_49, rx_78_52, rx_78_55, rx_78_56, rx_78_57, rx_78_60, rx_78_63, rx_78_64, rx_78_66, w0, if_true, cx_posts x1 hF, pz_bind, pz_psh]
    · simp only [rx_140_0, rx_140_1, rx_140_4, rx_140_5, rx_140_8, rx_140_11, rx_140_12, rx_140_13, rx_140_16, rx_140_17, rx_140_20, rx_140_23, rx_140_24, rx_140_25, rx_140_28, rx_140_29, rx_140_32, rx_140_35, rx_140_36, rx_140_37, rx_140_40, rx_140_41, rx_140_44, rx_140_47, rx_140_49, w0, pz_n00, if_true, mx_posts y1 hF, pz_bind, pz_psh]
  · have w00 : ¬ w = 0 := by
      rw [← nI_0]
      exact w0
    by_cases w1 : w = nI 1
    · refine ⟨pm_i (nI (d 0 0)), M, M, ?_, ?_, d, e, hG, hX, hY⟩
      · subst w1
        simp only [rx_78_0, rx_78_1, rx_78_32, rx_78_33, rx_78_36, rx_78_39, rx_78_40, rx_78_41, rx_78_44, rx_78_47, rx_78_48, rx_78_49, rx_78_52, rx_78_55, rx_78_56, rx_78_57, rx_78_60, rx_78_63, rx_78_64, rx_78_66, w0, if_true, if_false, x1]
      · subst w1
        simp only [rx_140_0, rx_140_1, rx_140_4, rx_140_5, rx_140_8, rx_140_11, rx_140_12, rx_140_13, rx_140_16, rx_140_17, rx_140_20, rx_140_23, rx_140_24, rx_140_25, rx_140_28, rx_140_29, rx_140_32, rx_140_35, rx_140_36, rx_140_37, rx_140_40, rx_140_41, rx_140_44, rx_140_47, rx_140_49, w00, if_true, if_false, y1]
    · by_cases w2 : w = nI 2
      · refine ⟨pm_i (nI (d 0 1)), M, M, ?_, ?_, d, e, hG, hX, hY⟩
        · subst w2
          simp only [rx_78_0, rx_78_1, rx_78_32, rx_78_33, rx_78_36, rx_78_39, rx_78_40, rx_78_41, rx_78_44, rx_78_47, rx_78_48, rx_78_49, rx_78_52, rx_78_55, rx_78_56, rx_78_57, rx_78_60, rx_78_63, rx_78_64, rx_78_66, w0, w1, if_true, if_false, x2]
        · subst w2
          simp only [rx_140_0, rx_140_1, rx_140_4, rx_140_5, rx_140_8, rx_140_11, rx_140_12, rx_140_13, rx_140_16, rx_140_17, rx_140_20, rx_140_23, rx_140_24, rx_140_25, rx_140_28, rx_140_29, rx_140_32, rx_140_35, rx_140_36, rx_140_37, rx_140_40, rx_140_41, rx_140_44, rx_140_47, rx_140_49, w00, w1, if_true, if_false, y2]
      · by_cases w3 : w = nI 3
        · refine ⟨pm_i (nI (d 0 2)), M, M, ?_, ?_, d, e, hG, hX, hY⟩
          · subst w3
            simp only [rx_78_0, rx_78_1, rx_78_32, rx_78_33, rx_78_36, rx_78_39, rx_78_40, rx_78_41, rx_78_44, rx_78_47, rx_78_48, rx_78_49, rx_78_52, rx_78_55, rx_78_56, rx_78_57, rx_78_60, rx_78_63, rx_78_64, rx_78_66, w0, w1, w2, if_true, if_false, xR.1]
          · subst w3
            simp only [rx_140_0, rx_140_1, rx_140_4, rx_140_5, rx_140_8, rx_140_11, rx_140_12, rx_140_13, rx_140_16, rx_140_17, rx_140_20, rx_140_23, rx_140_24, rx_140_25, rx_140_28, rx_140_29, rx_140_32, rx_140_35, rx_140_36, rx_140_37, rx_140_40, rx_140_41, rx_140_44, rx_140_47, rx_140_49, w00, w1, w2, if_true, if_false, yR.1]
        · refine ⟨pm_i (-2), M, M, ?_, ?_, d, e, hG, hX, hY⟩
          · simp only [rx_78_0, rx_78_1, rx_78_32, rx_78_33, rx_78_36, rx_78_39, rx_78_40, rx_78_41, rx_78_44, rx_78_47, rx_78_48, rx_78_49, rx_78_52, rx_78_55, rx_78_56, rx_78_57, rx_78_60, rx_78_63, rx_78_64, rx_78_66, w0, w1, w2, w3, if_false]
          · simp only [rx_140_0, rx_140_1, rx_140_4, rx_140_5, rx_140_8, rx_140_11, rx_140_12, rx_140_13, rx_140_16, rx_140_17, rx_140_20, rx_140_23, rx_140_24, rx_140_25, rx_140_28, rx_140_29, rx_140_32, rx_140_35, rx_140_36, rx_140_37, rx_140_40, rx_140_41, rx_140_44, rx_140_47, rx_140_49, w00, w1, w2, w3, if_false]
/-- a number of the land is set on both sides -/
theorem ix_setp {M : pm_M} {d : iv_D} {e : pm_M} {c k f v : Nat} (h : ix M d e) (hc : (c = 15 ∧ k = 3) ∨ (c = 16 ∧ k = 4) ∨ (c = 17 ∧ k = 5)) : ix (pm_up M c f (nI v)) (iv_up d k f v) e := by
  obtain ⟨⟨h1, h2, h3, h4, h5, h6, h7⟩, g2, g3, g4⟩ := h
  rcases hc with ⟨rfl, rfl⟩ | ⟨rfl, rfl⟩ | ⟨rfl, rfl⟩
  · refine ⟨⟨?_, ?_, ?_, ?_, ?_, ?_, ?_⟩, ?_, ?_, ?_⟩
    · exact h1
    · exact h2
    · exact h3
    · exact h4
    · intro p hp
      show pm_up M 15 f (nI v) 15 p = nI (iv_up d 3 f v 3 p)
      rw [pz_up_i, iv_up_i]
      by_cases q : p = f
      · rw [if_pos q, if_pos q]
      · rw [if_neg q, if_neg q]
        exact h5 p hp
    · exact h6
    · exact h7
    · exact g2
    · exact g3
    · intro k hk
      have h9 := g4 k hk
      rw [iv_up_c (by decide), iv_up_c (by decide), pz_up_c (by decide), pz_up_c (by decide), pz_up_c (by omega)]
      exact h9
  · refine ⟨⟨?_, ?_, ?_, ?_, ?_, ?_, ?_⟩, ?_, ?_, ?_⟩
    · exact h1
    · exact h2
    · exact h3
    · exact h4
    · exact h5
    · intro p hp
      show pm_up M 16 f (nI v) 16 p = nI (iv_up d 4 f v 4 p)
      rw [pz_up_i, iv_up_i]
      by_cases q : p = f
      · rw [if_pos q, if_pos q]
      · rw [if_neg q, if_neg q]
        exact h6 p hp
    · exact h7
    · exact g2
    · exact g3
    · intro k hk
      have h9 := g4 k hk
      rw [iv_up_c (by decide), iv_up_c (by decide), pz_up_c (by decide), pz_up_c (by decide), pz_up_c (by omega)]
      exact h9
  · refine ⟨⟨?_, ?_, ?_, ?_, ?_, ?_, ?_⟩, ?_, ?_, ?_⟩
    · exact h1
    · exact h2
    · exact h3
    · exact h4
    · exact h5
    · exact h6
    · intro p hp
      show pm_up M 17 f (nI v) 17 p = nI (iv_up d 5 f v 5 p)
      rw [pz_up_i, iv_up_i]
      by_cases q : p = f
      · rw [if_pos q, if_pos q]
      · rw [if_neg q, if_neg q]
        exact h7 p hp
    · exact g2
    · exact g3
    · intro k hk
      have h9 := g4 k hk
      rw [iv_up_c (by decide), iv_up_c (by decide), pz_up_c (by decide), pz_up_c (by decide), pz_up_c (by omega)]
      exact h9
theorem iy_setp {M : pm_M} {d : iv_D} {e : pm_M} {c k f v : Nat} (h : iy M d e) (hc : (c = 29 ∧ k = 3) ∨ (c = 30 ∧ k = 4) ∨ (c = 31 ∧ k = 5)) : iy (pm_up M c f (nI v)) (iv_up d k f v) e := by
  obtain ⟨⟨h1, h2, h3, h4, h5, h6, h7⟩, g2, g3, g4⟩ := h
  rcases hc with ⟨rfl, rfl⟩ | ⟨rfl, rfl⟩ | ⟨rfl, rfl⟩
  · refine ⟨⟨?_, ?_, ?_, ?_, ?_, ?_, ?_⟩, ?_, ?_, ?_⟩
    · exact h1
    · exact h2
    · exact h3
    · exact h4
    · intro p hp
      show pm_up M 29 f (nI v) 29 p = nI (iv_up d 3 f v 3 p)
      rw [pz_up_i, iv_up_i]
      by_cases q : p = f
      · rw [if_pos q, if_pos q]
      · rw [if_neg q, if_neg q]
        exact h5 p hp
    · exact h6
    · exact h7
    · exact g2
    · exact g3
    · exact g4
  · refine ⟨⟨?_, ?_, ?_, ?_, ?_, ?_, ?_⟩, ?_, ?_, ?_⟩
    · exact h1
    · exact h2
    · exact h3
    · exact h4
    · exact h5
    · intro p hp
      show pm_up M 30 f (nI v) 30 p = nI (iv_up d 4 f v 4 p)
      rw [pz_up_i, iv_up_i]
      by_cases q : p = f
      · rw [if_pos q, if_pos q]
      · rw [if_neg q, if_neg q]
        exact h6 p hp
    · exact h7
    · exact g2
    · exact g3
    · exact g4
  · refine ⟨⟨?_, ?_, ?_, ?_, ?_, ?_, ?_⟩, ?_, ?_, ?_⟩
    · exact h1
    · exact h2
    · exact h3
    · exact h4
    · exact h5
    · exact h6
    · intro p hp
      show pm_up M 31 f (nI v) 31 p = nI (iv_up d 5 f v 5 p)
      rw [pz_up_i, iv_up_i]
      by_cases q : p = f
      · rw [if_pos q, if_pos q]
      · rw [if_neg q, if_neg q]
        exact h7 p hp
    · exact g2
    · exact g3
    · exact g4
theorem iv_up_le {d : iv_D} {k f v b : Nat} (h : ∀ p, d k p ≤ b) (hv : v ≤ b) (p : Nat) : iv_up d k f v k p ≤ b := by
  rw [iv_up_i]
  split
  · exact hv
  · exact h p
theorem iv_G_setp {d : iv_D} {k f v : Nat} (h : iv_G d) (hk : (k = 3 ∧ v ≤ 2) ∨ (k = 4 ∧ v ≤ 9) ∨ (k = 5 ∧ v ≤ 9)) : iv_G (iv_up d k f v) := by
  obtain ⟨⟨b1, b2, b3, b4, b5, b6⟩, h2, h3, h4⟩ := h
  rcases hk with ⟨rfl, hv⟩ | ⟨rfl, hv⟩ | ⟨rfl, hv⟩
  · exact ⟨⟨b1, b2, b3, iv_up_le b4 hv, b5, b6⟩, h2, h3, h4⟩
  · exact ⟨⟨b1, b2, b3, b4, iv_up_le b5 hv, b6⟩, h2, h3, h4⟩
  · exact ⟨⟨b1, b2, b3, b4, b5, iv_up_le b6 hv⟩, h2, h3, h4⟩
theorem op_limit (x w : Int32) : op_ok 38 98 [some (pm_r 0), some (pm_i x), some (pm_i w), none] [some (pm_r 23), some (pm_i x), some (pm_i w), none] := by
  intro M hM
  obtain ⟨d, e, hG, hX, hY⟩ := hM
  obtain ⟨hB, hn, hq, hl⟩ := id hG
  obtain ⟨xL, xR, xT, xS⟩ := id hX
  obtain ⟨yL, yR, yT, yS⟩ := id hY
  obtain ⟨x1, x2, x3, x4, x5, x6, x7⟩ := id xL
  obtain ⟨y1, y2, y3, y4, y5, y6, y7⟩ := id yL
  obtain ⟨b1, b2, b3, b4, b5, b6⟩ := id hB
  have hF : d 0 0 ≤ 6 := by omega
  have hD : d 0 1 ≤ 8 := by omega
  rcases pz_any x (d 0 0 - 1) (by omega) with hx | ⟨f, hf, rfl⟩
  · refine ⟨pm_i (-1), M, M, ?_, ?_, d, e, hG, hX, hY⟩
    · simp only [rx_38_0, rx_38_1, rx_38_4, rx_38_5, rx_38_8, rx_38_11, rx_38_12, rx_38_13, rx_38_14, rx_38_17, rx_38_20, rx_38_22, rx_38_23, rx_38_24, rx_38_27, rx_38_30, rx_38_31, rx_38_32, rx_38_33, rx_38_34, rx_38_37, rx_38_40, rx_38_41, rx_38_42, rx_38_43, rx_38_44, cx_hasPost_n x1 hF hx, pz_bind, pz_psh, pz_n00, if_true]
    · simp only [rx_98_0, rx_98_1, rx_98_2, rx_98_5, rx_98_8, rx_98_9, rx_98_10, rx_98_11, rx_98_12, rx_98_14, rx_98_17, rx_98_20, rx_98_22, rx_98_23, rx_98_24, rx_98_27, rx_98_28, rx_98_29, rx_98_30, rx_98_31, rx_98_34, rx_98_35, rx_98_36, rx_98_37, rx_98_38, mx_isPost_n y1 hx, pz_bind, pz_psh, pz_n00, if_true]
  · rcases pz_any w 10 (by omega) with hw | ⟨c, hc, rfl⟩
    · refine ⟨pm_i (-2), M, M, ?_, ?_, d, e, hG, hX, hY⟩
      · simp only [rx_38_0, rx_38_1, rx_38_4, rx_38_5, rx_38_8, rx_38_11, rx_38_12, rx_38_13, rx_38_14, rx_38_17, rx_38_20, rx_38_22, rx_38_23, rx_38_24, rx_38_27, rx_38_30, rx_38_31, rx_38_32, rx_38_33, rx_38_34, rx_38_37, rx_38_40, rx_38_41, rx_38_42, rx_38_43, rx_38_44, cx_hasPost_y x1 hF hf, pz_bind, pz_psh, pz_n10, if_false, cx_isDigit_n hw, pz_n00, if_true]
      · simp only [rx_98_0, rx_98_1, rx_98_2, rx_98_5, rx_98_8, rx_98_9, rx_98_10, rx_98_11, rx_98_12, rx_98_14, rx_98_17, rx_98_20, rx_98_22, rx_98_23, rx_98_24, rx_98_27, rx_98_28, rx_98_29, rx_98_30, rx_98_31, rx_98_34, rx_98_35, rx_98_36, rx_98_37, rx_98_38, mx_isPost_y y1 hF hf, pz_bind, pz_psh, pz_n10, if_false, mx_within_n (h := 9) (by omega) hw, pz_n00, if_true]
    · refine ⟨pm_i (nI (d 4 f)), pm_up M 16 f (nI c), pm_up (pm_up M 16 f (nI c)) 30 f (nI c), ?_, ?_, iv_up d 4 f c, e, iv_G_setp hG (Or.inr (Or.inl ⟨rfl, by omega⟩)), ix_hi (ix_setp hX (Or.inr (Or.inl ⟨rfl, rfl⟩))) (by decide), iy_setp (iy_lo hY (by decide)) (Or.inr (Or.inl ⟨rfl, rfl⟩))⟩
      · simp only [rx_38_0, rx_38_1, rx_38_4, rx_38_5, rx_38_8, rx_38_11, rx_38_12, rx_38_13, rx_38_14, rx_38_17, rx_38_20, rx_38_22, rx_38_23, rx_38_24, rx_38_27, rx_38_30, rx_38_31, rx_38_32, rx_38_33, rx_38_34, rx_38_37, rx_38_40, rx_38_41, rx_38_42, rx_38_43, rx_38_44, cx_hasPost_y x1 hF hf, pz_bind, pz_psh, pz_n10, if_false, cx_isDigit_y (show c ≤ 9 by omega), pz_ald_16 (show f < 5 by omega), pz_ast_16 (show f < 5 by omega), x6 f (by omega), pz_nlz_i]
      · simp only [rx_98_0, rx_98_1, rx_98_2, rx_98_5, rx_98_8, rx_98_9, rx_98_10, rx_98_11, rx_98_12, rx_98_14, rx_98_17, rx_98_20, rx_98_22, rx_98_23, rx_98_24, rx_98_27, rx_98_28, rx_98_29, rx_98_30, rx_98_31, rx_98_34, rx_98_35, rx_98_36, rx_98_37, rx_98_38, mx_isPost_y (M := pm_up M 16 f (nI c)) y1 hF hf, pz_bind, pz_psh, pz_n10, if_false, mx_within_y (show 0 ≤ c by omega) (show c ≤ 9 by omega) (by omega), pz_ald_30 (show f < 5 by omega), pz_ast_30 (show f < 5 by omega), pz_up_c (show (30 : Nat) ≠ 16 by decide), y6 f (by omega), pz_nlz_i]
theorem op_rain (x w : Int32) : op_ok 39 99 [some (pm_r 0), some (pm_i x), some (pm_i w), none] [some (pm_r 23), some (pm_i x), some (pm_i w), none] := by
  intro M hM
  obtain ⟨d, e, hG, hX, hY⟩ := hM
  obtain ⟨hB, hn, hq, hl⟩ := id hG
  obtain ⟨xL, xR, xT, xS⟩ := id hX
  obtain ⟨yL, yR, yT, yS⟩ := id hY
  obtain ⟨x1, x2, x3, x4, x5, x6, x7⟩ := id xL
  obtain ⟨y1, y2, y3, y4, y5, y6, y7⟩ := id yL
  obtain ⟨b1, b2, b3, b4, b5, b6⟩ := id hB
  have hF : d 0 0 ≤ 6 := by omega
  have hD : d 0 1 ≤ 8 := by omega
  by_cases q0 : d 0 0 = 0
  · refine ⟨pm_i (-3), M, M, ?_, ?_, d, e, hG, hX, hY⟩
    · simp only [rx_39_0, rx_39_1, rx_39_4, rx_39_7, rx_39_10, rx_39_12, rx_39_13, rx_39_14, rx_39_17, rx_39_18, rx_39_21, rx_39_24, rx_39_25, rx_39_28, rx_39_31, rx_39_33, rx_39_34, rx_39_35, rx_39_38, rx_39_41, rx_39_42, rx_39_43, rx_39_44, rx_39_45, rx_39_48, rx_39_51, rx_39_52, rx_39_53, rx_39_54, rx_39_55, cx_exists x1 hF, q0, if_true, pz_bind, pz_psh, pz_n00]
    · simp only [rx_99_0, rx_99_1, rx_99_4, rx_99_7, rx_99_9, rx_99_10, rx_99_11, rx_99_12, rx_99_15, rx_99_18, rx_99_19, rx_99_20, rx_99_22, rx_99_25, rx_99_28, rx_99_30, rx_99_31, rx_99_32, rx_99_35, rx_99_36, rx_99_37, rx_99_38, rx_99_39, rx_99_42, rx_99_43, rx_99_44, rx_99_45, rx_99_46, y1, q0, pz_n00, if_true]
  · rcases pz_any x (d 0 1) (by omega) with hx | ⟨f, hf, rfl⟩
    · refine ⟨pm_i (-2), M, M, ?_, ?_, d, e, hG, hX, hY⟩
      · simp only [rx_39_0, rx_39_1, rx_39_4, rx_39_7, rx_39_10, rx_39_12, rx_39_13, rx_39_14, rx_39_17, rx_39_18, rx_39_21, rx_39_24, rx_39_25, rx_39_28, rx_39_31, rx_39_33, rx_39_34, rx_39_35, rx_39_38, rx_39_41, rx_39_42, rx_39_43, rx_39_44, rx_39_45, rx_39_48, rx_39_51, rx_39_52, rx_39_53, rx_39_54, rx_39_55, cx_exists x1 hF, q0, if_false, pz_bind, pz_psh, pz_n10, cx_hasDay_n x2 hx, pz_n00, if_true]
      · simp only [rx_99_0, rx_99_1, rx_99_4, rx_99_7, rx_99_9, rx_99_10, rx_99_11, rx_99_12, rx_99_15, rx_99_18, rx_99_19, rx_99_20, rx_99_22, rx_99_25, rx_99_28, rx_99_30, rx_99_31, rx_99_32, rx_99_35, rx_99_36, rx_99_37, rx_99_38, rx_99_39, rx_99_42, rx_99_43, rx_99_44, rx_99_45, rx_99_46, y1, pz_eq0 (show d 0 0 < 2147483648 by omega), q0, if_false, mx_isDay_n y2 hx, pz_bind, pz_psh, pz_n00, if_true]
    · rcases pz_any w 10 (by omega) with hw | ⟨c, hc, rfl⟩
      · refine ⟨pm_i (-2), M, M, ?_, ?_, d, e, hG, hX, hY⟩
        · simp only [rx_39_0, rx_39_1, rx_39_4, rx_39_7, rx_39_10, rx_39_12, rx_39_13, rx_39_14, rx_39_17, rx_39_18, rx_39_21, rx_39_24, rx_39_25, rx_39_28, rx_39_31, rx_39_33, rx_39_34, rx_39_35, rx_39_38, rx_39_41, rx_39_42, rx_39_43, rx_39_44, rx_39_45, rx_39_48, rx_39_51, rx_39_52, rx_39_53, rx_39_54, rx_39_55, cx_exists x1 hF, q0, if_false, pz_bind, pz_psh, pz_n10, cx_hasDay_y x2 hD hf, cx_isDigit_n hw, pz_n00, if_true]
        · simp only [rx_99_0, rx_99_1, rx_99_4, rx_99_7, rx_99_9, rx_99_10, rx_99_11, rx_99_12, rx_99_15, rx_99_18, rx_99_19, rx_99_20, rx_99_22, rx_99_25, rx_99_28, rx_99_30, rx_99_31, rx_99_32, rx_99_35, rx_99_36, rx_99_37, rx_99_38, rx_99_39, rx_99_42, rx_99_43, rx_99_44, rx_99_45, rx_99_46, y1, pz_eq0 (show d 0 0 < 2147483648 by omega), q0, if_false, mx_isDay_y y2 hD hf, pz_bind, pz_psh, pz_n10, mx_within_n (h := 9) (by omega) hw, pz_n00, if_true]
      · refine ⟨pm_i (nI (d 5 f)), pm_up M 17 f (nI c), pm_up (pm_up M 17 f (nI c)) 31 f (nI c), ?_, ?_, iv_up d 5 f c, e, iv_G_setp hG (Or.inr (Or.inr ⟨rfl, by omega⟩)), ix_hi (ix_setp hX (Or.inr (Or.inr ⟨rfl, rfl⟩))) (by decide), iy_setp (iy_lo hY (by decide)) (Or.inr (Or.inr ⟨rfl, rfl⟩))⟩
        · simp only [rx_39_0, rx_39_1, rx_39_4, rx_39_7, rx_39_10, rx_39_12, rx_39_13, rx_39_14, rx_39_17, rx_39_18, rx_39_21, rx_39_24, rx_39_25, rx_39_28, rx_39_31, rx_39_33, rx_39_34, rx_39_35, rx_39_38, rx_39_41, rx_39_42, rx_39_43, rx_39_44, rx_39_45, rx_39_48, rx_39_51, rx_39_52, rx_39_53, rx_39_54, rx_39_55, cx_exists x1 hF, q0, if_false, pz_bind, pz_psh, pz_n10, cx_hasDay_y x2 hD hf, cx_isDigit_y (show c ≤ 9 by omega), pz_ald_17 (show f < 8 by omega), pz_ast_17 (show f < 8 by omega), x7 f hf, pz_nlz_i]
        · simp only [rx_99_0, rx_99_1, rx_99_4, rx_99_7, rx_99_9, rx_99_10, rx_99_11, rx_99_12, rx_99_15, rx_99_18, rx_99_19, rx_99_20, rx_99_22, rx_99_25, rx_99_28, rx_99_30, rx_99_31, rx_99_32, rx_99_35, rx_99_36, rx_99_37, rx_99_38, rx_99_39, rx_99_42, rx_99_43, rx_99_44, rx_99_45, rx_99_46, pz_up_c (show (23 : Nat) ≠ 17 by decide), y1, pz_eq0 (show d 0 0 < 2147483648 by omega), q0, if_false, mx_isDay_y (M := pm_up M 17 f (nI c)) y2 hD hf, pz_bind, pz_psh, pz_n10, mx_within_y (show 0 ≤ c by omega) (show c ≤ 9 by omega) (by omega), pz_ald_31 (show f < 8 by omega), pz_ast_31 (show f < 8 by omega), pz_up_c (show (31 : Nat) ≠ 17 by decide), y7 f hf, pz_nlz_i]
