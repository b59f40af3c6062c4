/-! Sheets: the small methods. -/
theorem cx_isSheet_y {M : pm_M} {v : Nat} (h : v < 4) : pm_Rc pm_X0 32 (0, [some (pm_i (nI v))], [], M) = some (some (pm_i (nI 1)), M) := by
  simp only [rx_32_0, rx_32_1, rx_32_4, rx_32_5, rx_32_6, rx_32_9, rx_32_10, rx_32_13, rx_32_14_0, rx_32_14_1, pz_lt0 (show v < 2147483648 by omega), if_false, pz_lt (show v < 2147483648 by omega) (show 4 < 2147483648 by omega), h, if_true]
theorem cx_isSheet_n {M : pm_M} {x : Int32} (hx : pz_out x 4) : pm_Rc pm_X0 32 (0, [some (pm_i x)], [], M) = some (some (pm_i (nI 0)), M) := by
  rcases hx with hx | ⟨hx, hx2⟩
  · simp only [rx_32_0, rx_32_1, rx_32_4, rx_32_5, rx_32_6, rx_32_9, rx_32_10, rx_32_13, rx_32_14_0, rx_32_14_1, hx, if_true]
  · simp only [rx_32_0, rx_32_1, rx_32_4, rx_32_5, rx_32_6, rx_32_9, rx_32_10, rx_32_13, rx_32_14_0, rx_32_14_1, hx, hx2, if_false]
theorem cx_isLane_y {M : pm_M} {v : Nat} (h : v ≤ 2) : pm_Rc pm_X0 33 (0, [some (pm_i (nI v))], [], M) = some (some (pm_i (nI 1)), M) := by
  simp only [rx_33_0, rx_33_1, rx_33_4, rx_33_5, rx_33_6, rx_33_9, rx_33_10, rx_33_13, rx_33_14_0, rx_33_14_1, pz_lt0 (show v < 2147483648 by omega), if_false, pz_lt (show 2 < 2147483648 by omega) (show v < 2147483648 by omega), show ¬ 2 < v by omega]
theorem cx_isLane_n {M : pm_M} {x : Int32} (hx : pz_out x 3) : pm_Rc pm_X0 33 (0, [some (pm_i x)], [], M) = some (some (pm_i (nI 0)), M) := by
  rcases hx with hx | ⟨hx, hx2⟩
  · simp only [rx_33_0, rx_33_1, rx_33_4, rx_33_5, rx_33_6, rx_33_9, rx_33_10, rx_33_13, rx_33_14_0, rx_33_14_1, hx, if_true]
  · simp only [rx_33_0, rx_33_1, rx_33_4, rx_33_5, rx_33_6, rx_33_9, rx_33_10, rx_33_13, rx_33_14_0, rx_33_14_1, hx, if_false, pz_ge1 (n := 2) (by omega) hx2, if_true]
theorem mx_isSheet_y {M : pm_M} {v : Nat} (h : v < 4) : pm_Rc pm_X0 80 (0, [some (pm_i (nI v))], [], M) = some (some (pm_i (nI 1)), M) := by
  simp only [rx_80_0, rx_80_1, rx_80_2, rx_80_3, rx_80_6_0, rx_80_6_1, mx_within_y (show 0 ≤ v by omega) (show v ≤ 3 by omega) (show 3 < 1000 by omega), pz_bind, pz_psh]
theorem mx_isSheet_n {M : pm_M} {x : Int32} (hx : pz_out x 4) : pm_Rc pm_X0 80 (0, [some (pm_i x)], [], M) = some (some (pm_i (nI 0)), M) := by
  simp only [rx_80_0, rx_80_1, rx_80_2, rx_80_3, rx_80_6_0, rx_80_6_1, mx_within_n (h := 3) (by omega) hx, pz_bind, pz_psh]
theorem mx_isSort_y {M : pm_M} {v : Nat} (h : v ≤ 2) : pm_Rc pm_X0 82 (0, [some (pm_i (nI v))], [], M) = some (some (pm_i (nI 1)), M) := by
  simp only [rx_82_0, rx_82_1, rx_82_2, rx_82_3, rx_82_6_0, rx_82_6_1, mx_within_y (show 0 ≤ v by omega) h (show 2 < 1000 by omega), pz_bind, pz_psh]
theorem mx_isSort_n {M : pm_M} {x : Int32} (hx : pz_out x 3) : pm_Rc pm_X0 82 (0, [some (pm_i x)], [], M) = some (some (pm_i (nI 0)), M) := by
  simp only [rx_82_0, rx_82_1, rx_82_2, rx_82_3, rx_82_6_0, rx_82_6_1, mx_within_n (h := 2) (by omega) hx, pz_bind, pz_psh]
theorem pz_m9 {a : Nat} (h : a < 1000) : (nI a = -9) = False := by
  simp [pz_ne9 h]
theorem pz_nm1 {a : Nat} (h : a < 1000) : (nI a = -1) = False := by
  refine eq_false (fun q => ?_)
  have h2 : (nI a).toInt = (-1 : Int32).toInt := by rw [q]
  rw [nI_toInt (by omega)] at h2
  have h3 : (-1 : Int32).toInt = -1 := by decide
  omega
theorem pz_lane0 : (nI 0 - nI 1 = -1) = True := by simp [show nI 0 - nI 1 = -1 by decide]
theorem cx_isNothing {M : pm_M} {k L : Nat} (hk : k < 4) (hL : L ≤ 3) (h : M 11 k = nI L - nI 1) : pm_Rc pm_X0 14 (0, [some (pm_r 1), some (pm_i (nI k))], [], M) = some (some (pm_i (nI (if L = 0 then 1 else 0))), M) := by
  by_cases q : L = 0
  · subst q
    simp only [rx_14_0, rx_14_1, rx_14_4, rx_14_5, rx_14_6, rx_14_7, rx_14_10, rx_14_11, rx_14_14, rx_14_15_0, rx_14_15_1, pz_ald_11 hk, pz_bind, h, pz_lane0, if_true]
  · have e : nI L - nI 1 = nI (L - 1) := pz_sub (by omega)
    simp only [rx_14_0, rx_14_1, rx_14_4, rx_14_5, rx_14_6, rx_14_7, rx_14_10, rx_14_11, rx_14_14, rx_14_15_0, rx_14_15_1, pz_ald_11 hk, pz_bind, h, e, pz_nm1 (show L - 1 < 1000 by omega), if_false, q]
theorem cx_faultOfLane {M : pm_M} {k L lane : Nat} (hk : k < 4) (hL : L ≤ 3) (hl : lane ≤ 2) (h : M 11 k = nI L - nI 1) : pm_Rc pm_X0 13 (0, [some (pm_r 1), some (pm_i (nI k)), some (pm_i (nI lane))], [], M) = some (some (pm_i (nI (if L = 0 then 1 else if L = lane + 1 then 0 else 2))), M) := by
  by_cases q : L = 0
  · subst q
    simp only [rx_13_0, rx_13_1, rx_13_2, rx_13_5, rx_13_8, rx_13_9, rx_13_10, rx_13_11, rx_13_14, rx_13_15, rx_13_16, rx_13_17, rx_13_20, rx_13_21, rx_13_24, rx_13_25, cx_isNothing hk hL h, pz_bind, pz_psh, if_true, pz_n10, if_false]
  · have e : nI L - nI 1 = nI (L - 1) := pz_sub (by omega)
    simp only [rx_13_0, rx_13_1, rx_13_2, rx_13_5, rx_13_8, rx_13_9, rx_13_10, rx_13_11, rx_13_14, rx_13_15, rx_13_16, rx_13_17, rx_13_20, rx_13_21, rx_13_24, rx_13_25, cx_isNothing hk hL h, pz_bind, pz_psh, q, if_false, pz_n00, if_true, pz_ald_11 hk, h, e, pz_eq (show L - 1 < 2147483648 by omega) (show lane < 2147483648 by omega)]
    by_cases q2 : L = lane + 1
    · rw [if_pos (by omega), if_pos q2]
    · rw [if_neg (by omega), if_neg q2]
theorem cx_hasCell_y {M : pm_M} {k s i : Nat} (hk : k < 4) (h : M 12 k = nI s) (hi : i < s) (hs : s ≤ 60) : pm_Rc pm_X0 18 (0, [some (pm_r 1), some (pm_i (nI k)), some (pm_i (nI i))], [], M) = some (some (pm_i (nI 1)), M) := by
  simp only [rx_18_0, rx_18_1, rx_18_4, rx_18_5, rx_18_6, rx_18_9, rx_18_10, rx_18_11, rx_18_14, rx_18_15, rx_18_18, rx_18_19_0, rx_18_19_1, pz_lt0 (show i < 2147483648 by omega), if_false, pz_ald_12 hk, pz_bind, h, pz_lt (show i < 2147483648 by omega) (show s < 2147483648 by omega), hi, if_true]
theorem cx_hasCell_n {M : pm_M} {k s : Nat} {x : Int32} (hk : k < 4) (h : M 12 k = nI s) (hx : pz_out x s) : pm_Rc pm_X0 18 (0, [some (pm_r 1), some (pm_i (nI k)), some (pm_i x)], [], M) = some (some (pm_i (nI 0)), M) := by
  rcases hx with hx | ⟨hx, hx2⟩
  · simp only [rx_18_0, rx_18_1, rx_18_4, rx_18_5, rx_18_6, rx_18_9, rx_18_10, rx_18_11, rx_18_14, rx_18_15, rx_18_18, rx_18_19_0, rx_18_19_1, hx, if_true]
  · simp only [rx_18_0, rx_18_1, rx_18_4, rx_18_5, rx_18_6, rx_18_9, rx_18_10, rx_18_11, rx_18_14, rx_18_15, rx_18_18, rx_18_19_0, rx_18_19_1, hx, if_false, pz_ald_12 hk, pz_bind, h, hx2]
theorem cx_hasCells_y {M : pm_M} {k s i n : Nat} (hk : k < 4) (h : M 12 k = nI s) (hi : i + n ≤ s) (hs : s ≤ 60) : pm_Rc pm_X0 15 (0, [some (pm_r 1), some (pm_i (nI k)), some (pm_i (nI i)), some (pm_i (nI n))], [], M) = some (some (pm_i (nI 1)), M) := by
  simp only [rx_15_0, rx_15_1, rx_15_4, rx_15_5, rx_15_6, rx_15_9, rx_15_10, rx_15_11, rx_15_14, rx_15_15, rx_15_18, rx_15_19, rx_15_20, rx_15_23, rx_15_24, rx_15_25, rx_15_26, rx_15_27, rx_15_30, rx_15_31, rx_15_34, rx_15_35_0, rx_15_35_1, pz_lt0 (show i < 2147483648 by omega), if_false, pz_ald_12 hk, pz_bind, h, pz_lt (show s < 2147483648 by omega) (show i < 2147483648 by omega), show ¬ s < i by omega, pz_lt0 (show n < 2147483648 by omega), pz_sub (show i ≤ s by omega), pz_lt (show s - i < 2147483648 by omega) (show n < 2147483648 by omega), show ¬ s - i < n by omega]
/-- cells from i on that are not all there -/
def pz_off (x z : Int32) (s : Nat) : Prop := pz_out x (s + 1) ∨ ∃ i, i ≤ s ∧ x = nI i ∧ pz_out z (s - i + 1)
theorem pz_offs (x z : Int32) (s : Nat) (hs : s < 1000) : pz_off x z s ∨ ∃ i n, x = nI i ∧ z = nI n ∧ i + n ≤ s := by
  rcases pz_any x (s + 1) (by omega) with h | ⟨i, hi, rfl⟩
  · exact Or.inl (Or.inl h)
  · rcases pz_any z (s - i + 1) (by omega) with h | ⟨n, hn, rfl⟩
    · exact Or.inl (Or.inr ⟨i, by omega, rfl, h⟩)
    · exact Or.inr ⟨i, n, rfl, rfl, by omega⟩
theorem cx_hasCells_n {M : pm_M} {k s : Nat} {x z : Int32} (hk : k < 4) (h : M 12 k = nI s) (hs : s ≤ 60) (hx : pz_off x z s) : pm_Rc pm_X0 15 (0, [some (pm_r 1), some (pm_i (nI k)), some (pm_i x), some (pm_i z)], [], M) = some (some (pm_i (nI 0)), M) := by
  rcases hx with (hx | ⟨hx, hx2⟩) | ⟨i, hi, rfl, hz⟩
  · simp only [rx_15_0, rx_15_1, rx_15_4, rx_15_5, rx_15_6, rx_15_9, rx_15_10, rx_15_11, rx_15_14, rx_15_15, rx_15_18, rx_15_19, rx_15_20, rx_15_23, rx_15_24, rx_15_25, rx_15_26, rx_15_27, rx_15_30, rx_15_31, rx_15_34, rx_15_35_0, rx_15_35_1, hx, if_true]
  · simp only [rx_15_0, rx_15_1, rx_15_4, rx_15_5, rx_15_6, rx_15_9, rx_15_10, rx_15_11, rx_15_14, rx_15_15, rx_15_18, rx_15_19, rx_15_20, rx_15_23, rx_15_24, rx_15_25, rx_15_26, rx_15_27, rx_15_30, rx_15_31, rx_15_34, rx_15_35_0, rx_15_35_1, hx, if_false, pz_ald_12 hk, pz_bind, h, pz_ge1 (n := s) (by omega) hx2, if_true]
  · rcases hz with hz | ⟨hz, hz2⟩
    · simp only [rx_15_0, rx_15_1, rx_15_4, rx_15_5, rx_15_6, rx_15_9, rx_15_10, rx_15_11, rx_15_14, rx_15_15, rx_15_18, rx_15_19, rx_15_20, rx_15_23, rx_15_24, rx_15_25, rx_15_26, rx_15_27, rx_15_30, rx_15_31, rx_15_34, rx_15_35_0, rx_15_35_1, pz_lt0 (show i < 2147483648 by omega), if_false, pz_ald_12 hk, pz_bind, h, pz_lt (show s < 2147483648 by omega) (show i < 2147483648 by omega), show ¬ s < i by omega, hz, if_true]
    · simp only [rx_15_0, rx_15_1, rx_15_4, rx_15_5, rx_15_6, rx_15_9, rx_15_10, rx_15_11, rx_15_14, rx_15_15, rx_15_18, rx_15_19, rx_15_20, rx_15_23, rx_15_24, rx_15_25, rx_15_26, rx_15_27, rx_15_30, rx_15_31, rx_15_34, rx_15_35_0, rx_15_35_1, pz_lt0 (show i < 2147483648 by omega), if_false, pz_ald_12 hk, pz_bind, h, pz_lt (show s < 2147483648 by omega) (show i < 2147483648 by omega), show ¬ s < i by omega, hz, pz_sub hi, pz_ge1 (n := s - i) (by omega) hz2, if_true]
/-- which fault cells of a sheet have: the same on both sides -/
theorem sx_against {k L s lane : Nat} {x z : Int32} (hk : k < 4) (hL : L ≤ 3) (hl : lane ≤ 2) (hs : s ≤ 60) : ∃ v, v ≤ 4 ∧ (v = 0 → L = lane + 1 ∧ ∃ i n, x = nI i ∧ z = nI n ∧ i + n ≤ s) ∧
    (∀ M : pm_M, M 11 k = nI L - nI 1 → (L ≠ 0 → M 12 k = nI s) → pm_Rc pm_X0 12 (0, [some (pm_r 1), some (pm_i (nI k)), some (pm_i (nI lane)), some (pm_i x), some (pm_i z), none], [], M) = some (some (pm_i (nI v)), M)) ∧
    (∀ M : pm_M, M 24 k = (if L = 0 then -9 else nI (L - 1)) → (L ≠ 0 → M 25 k = nI s) → pm_Rc pm_X0 83 (0, [some (pm_r 23), some (pm_i (nI k)), some (pm_i (nI lane)), some (pm_i x), some (pm_i z)], [], M) = some (some (pm_i (nI v)), M)) := by
  by_cases q : L = 0
  · refine ⟨1, by omega, fun h => absurd h (by decide), fun M h1 h2 => ?_, fun M h1 h2 => ?_⟩
    · simp only [rx_12_0, rx_12_1, rx_12_2, rx_12_3, rx_12_6, rx_12_8, rx_12_10, rx_12_13, rx_12_15, rx_12_16, rx_12_18, rx_12_21, rx_12_22, rx_12_23, rx_12_24, rx_12_25, rx_12_26, rx_12_28, rx_12_31, rx_12_34, rx_12_35, rx_12_38, rx_12_39, cx_faultOfLane hk hL hl h1, q, if_true, pz_bind, pz_psh, pz_nlz_i, pz_n10, if_false]
    · rw [if_pos q] at h1
      simp only [rx_83_0, rx_83_1, rx_83_4, rx_83_5, rx_83_6, rx_83_8, rx_83_11, rx_83_12, rx_83_15, rx_83_16, rx_83_17, rx_83_18, rx_83_21, rx_83_22, rx_83_23, rx_83_24, rx_83_27, rx_83_28, rx_83_29, rx_83_31, rx_83_34, rx_83_35, rx_83_36, rx_83_38, rx_83_41, rx_83_42, rx_83_43, rx_83_44, rx_83_47, rx_83_48, rx_83_49, rx_83_52, rx_83_53, rx_83_54, rx_83_57, rx_83_59, rx_83_60, rx_83_63, rx_83_64, rx_83_65, rx_83_66, rx_83_67, rx_83_70, rx_83_71, rx_83_74, rx_83_75, pz_ald_24 hk, pz_bind, h1, if_true]
  · by_cases q2 : L = lane + 1
    · by_cases hz : z < 0
      · refine ⟨4, by omega, fun h => absurd h (by decide), fun M h1 h2 => ?_, fun M h1 h2 => ?_⟩
        · rw [show (12 : Nat) = 12 from rfl]
          simp only [rx_12_0, rx_12_1, rx_12_2, rx_12_3, rx_12_6, rx_12_8, rx_12_10, rx_12_13, rx_12_15, rx_12_16, rx_12_18, rx_12_21, rx_12_22, rx_12_23, rx_12_24, rx_12_25, rx_12_26, rx_12_28, rx_12_31, rx_12_34, rx_12_35, rx_12_38, rx_12_39, cx_faultOfLane hk hL hl h1, q, if_false, if_pos q2, pz_bind, pz_psh, pz_nlz_i, pz_n00, if_true, hz]
        · rw [if_neg q] at h1
          have e : nI (L - 1) = nI lane := by rw [q2]; rfl
          rw [e] at h1
          simp only [rx_83_0, rx_83_1, rx_83_4, rx_83_5, rx_83_6, rx_83_8, rx_83_11, rx_83_12, rx_83_15, rx_83_16, rx_83_17, rx_83_18, rx_83_21, rx_83_22, rx_83_23, rx_83_24, rx_83_27, rx_83_28, rx_83_29, rx_83_31, rx_83_34, rx_83_35, rx_83_36, rx_83_38, rx_83_41, rx_83_42, rx_83_43, rx_83_44, rx_83_47, rx_83_48, rx_83_49, rx_83_52, rx_83_53, rx_83_54, rx_83_57, rx_83_59, rx_83_60, rx_83_63, rx_83_64, rx_83_65, rx_83_66, rx_83_67, rx_83_70, rx_83_71, rx_83_74, rx_83_75, pz_ald_24 hk, pz_bind, h1, pz_m9 (show lane < 1000 by omega), if_false, if_true, hz]
      · rcases pz_offs x z s (by omega) with ho | ⟨i, n, rfl, rfl, hin⟩
        · refine ⟨3, by omega, fun h => absurd h (by decide), fun M h1 h2 => ?_, fun M h1 h2 => ?_⟩
          · have h12 := h2 q
            simp only [rx_12_0, rx_12_1, rx_12_2, rx_12_3, rx_12_6, rx_12_8, rx_12_10, rx_12_13, rx_12_15, rx_12_16, rx_12_18, rx_12_21, rx_12_22, rx_12_23, rx_12_24, rx_12_25, rx_12_26, rx_12_28, rx_12_31, rx_12_34, rx_12_35, rx_12_38, rx_12_39, cx_faultOfLane hk hL hl h1, q, if_false, if_pos q2, pz_bind, pz_psh, pz_nlz_i, pz_n00, if_true, hz, cx_hasCells_n hk h12 hs ho]
          · have h25 := h2 q
            rw [if_neg q] at h1
            have e : nI (L - 1) = nI lane := by rw [q2]; rfl
            rw [e] at h1
            rcases ho with (hx | ⟨hx, hx2⟩) | ⟨i, hi, rfl, hz9⟩
            · simp only [rx_83_0, rx_83_1, rx_83_4, rx_83_5, rx_83_6, rx_83_8, rx_83_11, rx_83_12, rx_83_15, rx_83_16, rx_83_17, rx_83_18, rx_83_21, rx_83_22, rx_83_23, rx_83_24, rx_83_27, rx_83_28, rx_83_29, rx_83_31, rx_83_34, rx_83_35, rx_83_36, rx_83_38, rx_83_41, rx_83_42, rx_83_43, rx_83_44, rx_83_47, rx_83_48, rx_83_49, rx_83_52, rx_83_53, rx_83_54, rx_83_57, rx_83_59, rx_83_60, rx_83_63, rx_83_64, rx_83_65, rx_83_66, rx_83_67, rx_83_70, rx_83_71, rx_83_74, rx_83_75, pz_ald_24 hk, pz_bind, h1, pz_m9 (show lane < 1000 by omega), if_false, if_true, hz, hx]
            · simp only [rx_83_0, rx_83_1, rx_83_4, rx_83_5, rx_83_6, rx_83_8, rx_83_11, rx_83_12, rx_83_15, rx_83_16, rx_83_17, rx_83_18, rx_83_21, rx_83_22, rx_83_23, rx_83_24, rx_83_27, rx_83_28, rx_83_29, rx_83_31, rx_83_34, rx_83_35, rx_83_36, rx_83_38, rx_83_41, rx_83_42, rx_83_43, rx_83_44, rx_83_47, rx_83_48, rx_83_49, rx_83_52, rx_83_53, rx_83_54, rx_83_57, rx_83_59, rx_83_60, rx_83_63, rx_83_64, rx_83_65, rx_83_66, rx_83_67, rx_83_70, rx_83_71, rx_83_74, rx_83_75, pz_ald_24 hk, pz_ald_25 hk, pz_bind, h1, h25, pz_m9 (show lane < 1000 by omega), if_false, if_true, hz, hx, pz_ge1 (n := s) (by omega) hx2]
            · rcases hz9 with hz9 | ⟨hz9, hz2⟩
              · exact absurd hz9 hz
              · simp only [rx_83_0, rx_83_1, rx_83_4, rx_83_5, rx_83_6, rx_83_8, rx_83_11, rx_83_12, rx_83_15, rx_83_16, rx_83_17, rx_83_18, rx_83_21, rx_83_22, rx_83_23, rx_83_24, rx_83_27, rx_83_28, rx_83_29, rx_83_31, rx_83_34, rx_83_35, rx_83_36, rx_83_38, rx_83_41, rx_83_42, rx_83_43, rx_83_44, rx_83_47, rx_83_48, rx_83_49, rx_83_52, rx_83_53, rx_83_54, rx_83_57, rx_83_59, rx_83_60, rx_83_63, rx_83_64, rx_83_65, rx_83_66, rx_83_67, rx_83_70, rx_83_71, rx_83_74, rx_83_75, pz_ald_24 hk, pz_ald_25 hk, pz_bind, h1, h25, pz_m9 (show lane < 1000 by omega), if_false, if_true, hz, pz_lt0 (show i < 2147483648 by omega), pz_lt (show s < 2147483648 by omega) (show i < 2147483648 by omega), show ¬ s < i by omega, pz_sub hi, pz_ge1 (n := s - i) (by omega) hz2]
        · refine ⟨0, by omega, fun _ => ⟨q2, i, n, rfl, rfl, hin⟩, fun M h1 h2 => ?_, fun M h1 h2 => ?_⟩
          · have h12 := h2 q
            simp only [rx_12_0, rx_12_1, rx_12_2, rx_12_3, rx_12_6, rx_12_8, rx_12_10, rx_12_13, rx_12_15, rx_12_16, rx_12_18, rx_12_21, rx_12_22, rx_12_23, rx_12_24, rx_12_25, rx_12_26, rx_12_28, rx_12_31, rx_12_34, rx_12_35, rx_12_38, rx_12_39, cx_faultOfLane hk hL hl h1, q, if_false, if_pos q2, pz_bind, pz_psh, pz_nlz_i, pz_n00, if_true, hz, cx_hasCells_y hk h12 hin hs, pz_n10]
          · have h25 := h2 q
            rw [if_neg q] at h1
            have e : nI (L - 1) = nI lane := by rw [q2]; rfl
            rw [e] at h1
            simp only [rx_83_0, rx_83_1, rx_83_4, rx_83_5, rx_83_6, rx_83_8, rx_83_11, rx_83_12, rx_83_15, rx_83_16, rx_83_17, rx_83_18, rx_83_21, rx_83_22, rx_83_23, rx_83_24, rx_83_27, rx_83_28, rx_83_29, rx_83_31, rx_83_34, rx_83_35, rx_83_36, rx_83_38, rx_83_41, rx_83_42, rx_83_43, rx_83_44, rx_83_47, rx_83_48, rx_83_49, rx_83_52, rx_83_53, rx_83_54, rx_83_57, rx_83_59, rx_83_60, rx_83_63, rx_83_64, rx_83_65, rx_83_66, rx_83_67, rx_83_70, rx_83_71, rx_83_74, rx_83_75, pz_ald_24 hk, pz_ald_25 hk, pz_bind, h1, h25, pz_m9 (show lane < 1000 by omega), if_false, if_true, hz, pz_lt0 (show i < 2147483648 by omega), pz_lt (show s < 2147483648 by omega) (show i < 2147483648 by omega), show ¬ s < i by omega, pz_sub (show i ≤ s by omega), pz_lt (show s - i < 2147483648 by omega) (show n < 2147483648 by omega), show ¬ s - i < n by omega]
    · refine ⟨2, by omega, fun h => absurd h (by decide), fun M h1 h2 => ?_, fun M h1 h2 => ?_⟩
      · simp only [rx_12_0, rx_12_1, rx_12_2, rx_12_3, rx_12_6, rx_12_8, rx_12_10, rx_12_13, rx_12_15, rx_12_16, rx_12_18, rx_12_21, rx_12_22, rx_12_23, rx_12_24, rx_12_25, rx_12_26, rx_12_28, rx_12_31, rx_12_34, rx_12_35, rx_12_38, rx_12_39, cx_faultOfLane hk hL hl h1, q, if_false, q2, pz_bind, pz_psh, pz_nlz_i, pz_eq0 (show 2 < 2147483648 by omega), show ¬ (2 : Nat) = 0 by decide]
      · rw [if_neg q] at h1
        simp only [rx_83_0, rx_83_1, rx_83_4, rx_83_5, rx_83_6, rx_83_8, rx_83_11, rx_83_12, rx_83_15, rx_83_16, rx_83_17, rx_83_18, rx_83_21, rx_83_22, rx_83_23, rx_83_24, rx_83_27, rx_83_28, rx_83_29, rx_83_31, rx_83_34, rx_83_35, rx_83_36, rx_83_38, rx_83_41, rx_83_42, rx_83_43, rx_83_44, rx_83_47, rx_83_48, rx_83_49, rx_83_52, rx_83_53, rx_83_54, rx_83_57, rx_83_59, rx_83_60, rx_83_63, rx_83_64, rx_83_65, rx_83_66, rx_83_67, rx_83_70, rx_83_71, rx_83_74, rx_83_75, pz_ald_24 hk, pz_bind, h1, pz_m9 (show L - 1 < 1000 by omega), if_false, pz_eq (show L - 1 < 2147483648 by omega) (show lane < 2147483648 by omega), show ¬ L - 1 = lane by omega]
/-- new sheets -/
theorem ix_of {M M2 : pm_M} {d d2 : iv_D} {e e2 : pm_M} (h : ix M d e) (hc : ∀ c, c < 23 → (c < 3 ∨ c = 4 ∨ 13 ≤ c) → c ≠ 21 → c ≠ 22 → M2 c = M c) (hd : ∀ a, a ≤ 8 → d2 a = d a) (he : e2 0 = e 0) (hS : ix_S M2 d2 e2) : ix M2 d2 e2 := by
  obtain ⟨h1, h2, h3, h4⟩ := h
  refine ⟨?_, ?_, ?_, hS⟩
  · rw [hd 0 (by decide), hd 1 (by decide), hd 2 (by decide), hd 3 (by decide), hd 4 (by decide), hd 5 (by decide)]
    unfold iv_L at h1 ⊢
    rw [hc 2 (by decide) (by decide) (by decide) (by decide), hc 13 (by decide) (by decide) (by decide) (by decide), hc 14 (by decide) (by decide) (by decide) (by decide), hc 15 (by decide) (by decide) (by decide) (by decide), hc 16 (by decide) (by decide) (by decide) (by decide), hc 17 (by decide) (by decide) (by decide) (by decide)]
    exact h1
  · unfold ix_R at h2 ⊢
    rw [hd 0 (by decide), hd 6 (by decide), hd 7 (by decide), hd 8 (by decide), hc 4 (by decide) (by decide) (by decide) (by decide), hc 18 (by decide) (by decide) (by decide) (by decide), hc 19 (by decide) (by decide) (by decide) (by decide), hc 20 (by decide) (by decide) (by decide) (by decide)]
    exact h2
  · rw [he, hc 0 (by decide) (by decide) (by decide) (by decide)]
    exact h3
theorem iy_of {M M2 : pm_M} {d d2 : iv_D} {e e2 : pm_M} (h : iy M d e) (hc : ∀ c, 26 < c → ¬ (32 ≤ c ∧ c ≤ 38) → M2 c = M c) (h23 : M2 23 = M 23) (hd : ∀ a, a ≤ 8 → d2 a = d a) (he : e2 0 = e 0) (hS : iy_S M2 d2 e2) : iy M2 d2 e2 := by
  obtain ⟨h1, h2, h3, h4⟩ := h
  refine ⟨?_, ?_, ?_, hS⟩
  · rw [hd 0 (by decide), hd 1 (by decide), hd 2 (by decide), hd 3 (by decide), hd 4 (by decide), hd 5 (by decide)]
    unfold iv_N at h1 ⊢
    rw [h23, hc 27 (by decide) (by decide), hc 28 (by decide) (by decide), hc 29 (by decide) (by decide), hc 30 (by decide) (by decide), hc 31 (by decide) (by decide)]
    exact h1
  · unfold iy_R at h2 ⊢
    rw [hd 0 (by decide), hd 6 (by decide), hd 7 (by decide), hd 8 (by decide), h23, hc 39 (by decide) (by decide), hc 40 (by decide) (by decide), hc 41 (by decide) (by decide)]
    exact h2
  · rw [he, h23]
    exact h3
