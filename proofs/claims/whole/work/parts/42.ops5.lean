/-! put, cell. -/
theorem pz_up_up {M : pm_M} {k j : Nat} {a b : Int32} : pm_up (pm_up M k j a) k j b = pm_up M k j b := by
  funext x z
  unfold pm_up
  by_cases h : x = k ∧ z = j
  · rw [if_pos h, if_pos h]
  · rw [if_neg h, if_neg h, if_neg h]
def sp_cut (L : Nat) (v : Int32) : Int32 := if L = 1 then v.toInt8.toInt32 else if L = 2 then v.toInt16.toInt32 else v
theorem cx_write {M : pm_M} {k L i : Nat} {v : Int32} (hk : k < 4) (h : M 11 k = nI (L - 1)) (hL : 1 ≤ L ∧ L ≤ 3) (hi : i < 60) : pm_Rc pm_X0 19 (0, [some (pm_r 1), some (pm_i (nI k)), some (pm_i (nI i)), some (pm_i v)], [], M) = some (none, pm_up M (7 + k) i (sp_cut L v)) := by
  unfold sp_cut
  rcases (show L = 1 ∨ L = 2 ∨ L = 3 by omega) with rfl | rfl | rfl
  · simp only [rx_19_0, rx_19_1, rx_19_4, rx_19_5, rx_19_6, rx_19_32, rx_19_33, rx_19_36, rx_19_37, rx_19_38, rx_19_39, rx_19_40, rx_19_41, rx_19_42, rx_19_45, rx_19_46, rx_19_49, rx_19_50, rx_19_51, rx_19_52, rx_19_53, rx_19_54, rx_19_55, rx_19_58, rx_19_59, rx_19_62, rx_19_63, rx_19_64, rx_19_65, rx_19_66, rx_19_67, pz_ald_11 hk, pz_bind, h, pz_aald_6 hk, pz_astG (pz_sh7 hk) (show 60 < 1000 by decide) hi, if_true]
  · simp only [rx_19_0, rx_19_1, rx_19_4, rx_19_5, rx_19_6, rx_19_32, rx_19_33, rx_19_36, rx_19_37, rx_19_38, rx_19_39, rx_19_40, rx_19_41, rx_19_42, rx_19_45, rx_19_46, rx_19_49, rx_19_50, rx_19_51, rx_19_52, rx_19_53, rx_19_54, rx_19_55, rx_19_58, rx_19_59, rx_19_62, rx_19_63, rx_19_64, rx_19_65, rx_19_66, rx_19_67, pz_ald_11 hk, pz_bind, h, pz_aald_6 hk, pz_astG (pz_sh7 hk) (show 60 < 1000 by decide) hi, if_true, show (nI (2 - 1) = nI 0) = False by simp [show ¬ (nI (2 - 1) = nI 0) by decide], if_false, show ¬ (2 = 1) by decide]
  · simp only [rx_19_0, rx_19_1, rx_19_4, rx_19_5, rx_19_6, rx_19_32, rx_19_33, rx_19_36, rx_19_37, rx_19_38, rx_19_39, rx_19_40, rx_19_41, rx_19_42, rx_19_45, rx_19_46, rx_19_49, rx_19_50, rx_19_51, rx_19_52, rx_19_53, rx_19_54, rx_19_55, rx_19_58, rx_19_59, rx_19_62, rx_19_63, rx_19_64, rx_19_65, rx_19_66, rx_19_67, pz_ald_11 hk, pz_bind, h, pz_aald_6 hk, pz_astG (pz_sh7 hk) (show 60 < 1000 by decide) hi, show (nI (3 - 1) = nI 0) = False by simp [show ¬ (nI (3 - 1) = nI 0) by decide], show (nI (3 - 1) = nI 1) = False by simp [show ¬ (nI (3 - 1) = nI 1) by decide], if_false, show ¬ (3 = 1) by decide, show ¬ (3 = 2) by decide]
theorem mx_within_sy {M : pm_M} {i s : Nat} (h : i < s) (hs : s ≤ 60) : pm_Rc pm_X0 81 (0, [some (pm_i (nI i)), some (pm_i (nI 0)), some (pm_i (nI s - nI 1))], [], M) = some (some (pm_i (nI 1)), M) := by
  rw [pz_sub (show 1 ≤ s by omega)]
  exact mx_within_y (by omega) (by omega) (by omega)
theorem mx_within_sn {M : pm_M} {x : Int32} {s : Nat} (hs : s ≤ 60) (hx : pz_out x s) : pm_Rc pm_X0 81 (0, [some (pm_i x), some (pm_i (nI 0)), some (pm_i (nI s - nI 1))], [], M) = some (some (pm_i (nI 0)), M) := by
  cases s with
  | zero =>
    rcases hx with hx | ⟨hx, hx2⟩
    · simp only [rx_81_0, rx_81_1, rx_81_2, rx_81_5, rx_81_6, rx_81_7, rx_81_10, rx_81_11, rx_81_14, rx_81_15_0, rx_81_15_1, pz_c0 hx, if_true]
    · have h9 : nI 0 - nI 1 < x := by
        rw [Int32.lt_iff_toInt_lt] at hx ⊢
        have h8 : (nI 0 - nI 1 : Int32).toInt = -1 := by decide
        simp at hx
        omega
      simp only [rx_81_0, rx_81_1, rx_81_2, rx_81_5, rx_81_6, rx_81_7, rx_81_10, rx_81_11, rx_81_14, rx_81_15_0, rx_81_15_1, pz_n0 hx, if_false, h9, if_true]
  | succ s =>
    rw [pz_sub (show 1 ≤ s + 1 by omega)]
    exact mx_within_n (h := s + 1 - 1) (by omega) (by rw [Nat.add_sub_cancel]; exact hx)
/-- a fault v on both sides -/
theorem iv_fault {M : pm_M} {d : iv_D} {e : pm_M} {v : Int32} (hG : iv_G d) (hX : ix M d e) (hY : iy M d e) : iv (pm_up (pm_up M 0 6 v) 23 0 v) :=
  ⟨d, pm_up e 0 1 v, hG, ix_hi (ix_fault hX) (by decide), iy_fault (iy_lo hY (by decide))⟩
theorem op_put (x w z : Int32) : op_ok 66 130 [some (pm_r 0), some (pm_i x), some (pm_i w), some (pm_i z)] [some (pm_r 23), some (pm_i x), some (pm_i w), some (pm_i z)] := by
  intro M hM
  obtain ⟨d, e, hG, hX, hY⟩ := hM
  obtain ⟨hB, hn, hq, hl⟩ := id hG
  obtain ⟨xL, xR, xT, xS⟩ := id hX
  obtain ⟨yL, yR, yT, yS⟩ := id hY
  obtain ⟨x1, x2, x3, x4, x5, x6, x7⟩ := id xL
  obtain ⟨y1, y2, y3, y4, y5, y6, y7⟩ := id yL
  obtain ⟨b1, b2, b3, b4, b5, b6⟩ := id hB
  have hF : d 0 0 ≤ 6 := by omega
  have hD : d 0 1 ≤ 8 := by omega
  rcases pz_any x 4 (by omega) with hx | ⟨k, hk, rfl⟩
  · refine ⟨pm_i (-1), pm_up M 0 6 (nI 0), pm_up (pm_up M 0 6 (nI 0)) 23 0 (nI 0), ?_, ?_, iv_fault hG hX hY⟩
    · simp only [rx_66_0, rx_66_1, rx_66_2, rx_66_5, rx_66_6, rx_66_9, rx_66_12, rx_66_13, rx_66_14, rx_66_15, rx_66_18, rx_66_19, rx_66_22, rx_66_25, rx_66_26, rx_66_27, rx_66_30, rx_66_33, rx_66_34, rx_66_37, rx_66_38, rx_66_39, rx_66_42, rx_66_45, rx_66_46, rx_66_47, rx_66_50, rx_66_51, rx_66_54, rx_66_57, rx_66_59, rx_66_60, rx_66_63, rx_66_64, rx_66_65, rx_66_66, rx_66_69, rx_66_70, rx_66_71, rx_66_72, rx_66_75, rx_66_76, cx_isSheet_n hx, pz_bind, pz_psh, pz_n00, if_true]
    · simp only [rx_130_0, rx_130_1, rx_130_2, rx_130_5, rx_130_6, rx_130_9, rx_130_12, rx_130_13, rx_130_14, rx_130_15, rx_130_18, rx_130_19, rx_130_20, rx_130_22, rx_130_25, rx_130_26, rx_130_27, rx_130_30, rx_130_31, rx_130_32, rx_130_33, rx_130_34, rx_130_37, rx_130_38, rx_130_39, rx_130_40, rx_130_41, rx_130_44, rx_130_47, rx_130_48, rx_130_49, rx_130_52, rx_130_53, rx_130_54, rx_130_57, rx_130_59, rx_130_60, rx_130_61, rx_130_62, rx_130_63, rx_130_64, rx_130_67, rx_130_68, rx_130_69, rx_130_72, rx_130_73, rx_130_74, rx_130_77, rx_130_78, rx_130_81, rx_130_82, rx_130_83, rx_130_84, rx_130_87, rx_130_88, rx_130_89, rx_130_92, rx_130_93, rx_130_94, rx_130_95, mx_isSheet_n hx, pz_bind, pz_psh, pz_n00, if_true]
  · have hL := (hl k).1
    have hS := (hl k).2
    obtain ⟨s1, s2⟩ := xS k hk
    obtain ⟨s3, s4⟩ := yS k hk
    by_cases q : d 9 k = 0
    · rw [if_pos q] at s3
      refine ⟨pm_i (-10 - nI 1), pm_up M 0 6 (nI 1), pm_up (pm_up M 0 6 (nI 1)) 23 0 (nI 1), ?_, ?_, iv_fault hG hX hY⟩
      · simp only [rx_66_0, rx_66_1, rx_66_2, rx_66_5, rx_66_6, rx_66_9, rx_66_12, rx_66_13, rx_66_14, rx_66_15, rx_66_18, rx_66_19, rx_66_22, rx_66_25, rx_66_26, rx_66_27, rx_66_30, rx_66_33, rx_66_34, rx_66_37, rx_66_38, rx_66_39, rx_66_42, rx_66_45, rx_66_46, rx_66_47, rx_66_50, rx_66_51, rx_66_54, rx_66_57, rx_66_59, rx_66_60, rx_66_63, rx_66_64, rx_66_65, rx_66_66, rx_66_69, rx_66_70, rx_66_71, rx_66_72, rx_66_75, rx_66_76, cx_isSheet_y hk, cx_isNothing (M := pm_up M 0 6 (nI 0)) hk hL s1, q, pz_bind, pz_psh, pz_n10, if_false, if_true, pz_up_up, pz_up_s]
      · simp only [rx_130_0, rx_130_1, rx_130_2, rx_130_5, rx_130_6, rx_130_9, rx_130_12, rx_130_13, rx_130_14, rx_130_15, rx_130_18, rx_130_19, rx_130_20, rx_130_22, rx_130_25, rx_130_26, rx_130_27, rx_130_30, rx_130_31, rx_130_32, rx_130_33, rx_130_34, rx_130_37, rx_130_38, rx_130_39, rx_130_40, rx_130_41, rx_130_44, rx_130_47, rx_130_48, rx_130_49, rx_130_52, rx_130_53, rx_130_54, rx_130_57, rx_130_59, rx_130_60, rx_130_61, rx_130_62, rx_130_63, rx_130_64, rx_130_67, rx_130_68, rx_130_69, rx_130_72, rx_130_73, rx_130_74, rx_130_77, rx_130_78, rx_130_81, rx_130_82, rx_130_83, rx_130_84, rx_130_87, rx_130_88, rx_130_89, rx_130_92, rx_130_93, rx_130_94, rx_130_95, rx_84_0, rx_84_1, rx_84_2, rx_84_5, rx_84_7, rx_84_8, rx_84_9, mx_isSheet_y hk, pz_bind, pz_psh, pz_n10, if_false, pz_ald_24 hk, pz_up_c (show (24 : Nat) ≠ 23 by decide), pz_up_c (show (24 : Nat) ≠ 0 by decide), s3, if_true, pz_up_up]
    · rw [if_neg q] at s3
      have s2 := s2 q
      have s4 := s4 q
      have e1 : nI (d 9 k) - nI 1 = nI (d 9 k - 1) := pz_sub (by omega)
      rcases pz_any w (d 10 k) (by omega) with hw | ⟨i, hi, rfl⟩
      · refine ⟨pm_i (-10 - nI 3), pm_up M 0 6 (nI 3), pm_up (pm_up M 0 6 (nI 3)) 23 0 (nI 3), ?_, ?_, iv_fault hG hX hY⟩
        · simp only [rx_66_0, rx_66_1, rx_66_2, rx_66_5, rx_66_6, rx_66_9, rx_66_12, rx_66_13, rx_66_14, rx_66_15, rx_66_18, rx_66_19, rx_66_22, rx_66_25, rx_66_26, rx_66_27, rx_66_30, rx_66_33, rx_66_34, rx_66_37, rx_66_38, rx_66_39, rx_66_42, rx_66_45, rx_66_46, rx_66_47, rx_66_50, rx_66_51, rx_66_54, rx_66_57, rx_66_59, rx_66_60, rx_66_63, rx_66_64, rx_66_65, rx_66_66, rx_66_69, rx_66_70, rx_66_71, rx_66_72, rx_66_75, rx_66_76, cx_isSheet_y hk, cx_isNothing (M := pm_up M 0 6 (nI 0)) hk hL s1, q, pz_bind, pz_psh, pz_n10, if_false, if_true, pz_n00, cx_hasCell_n (M := pm_up M 0 6 (nI 0)) hk s2.1 hw, pz_up_up, pz_up_s, pz_eq0 (show 3 < 2147483648 by omega), show ¬ ((3 : Nat) = 0) by decide]
        · simp only [rx_130_0, rx_130_1, rx_130_2, rx_130_5, rx_130_6, rx_130_9, rx_130_12, rx_130_13, rx_130_14, rx_130_15, rx_130_18, rx_130_19, rx_130_20, rx_130_22, rx_130_25, rx_130_26, rx_130_27, rx_130_30, rx_130_31, rx_130_32, rx_130_33, rx_130_34, rx_130_37, rx_130_38, rx_130_39, rx_130_40, rx_130_41, rx_130_44, rx_130_47, rx_130_48, rx_130_49, rx_130_52, rx_130_53, rx_130_54, rx_130_57, rx_130_59, rx_130_60, rx_130_61, rx_130_62, rx_130_63, rx_130_64, rx_130_67, rx_130_68, rx_130_69, rx_130_72, rx_130_73, rx_130_74, rx_130_77, rx_130_78, rx_130_81, rx_130_82, rx_130_83, rx_130_84, rx_130_87, rx_130_88, rx_130_89, rx_130_92, rx_130_93, rx_130_94, rx_130_95, rx_84_0, rx_84_1, rx_84_2, rx_84_5, rx_84_7, rx_84_8, rx_84_9, mx_isSheet_y hk, pz_bind, pz_psh, pz_n10, if_false, pz_ald_24 hk, pz_ald_25 hk, pz_up_c (show (24 : Nat) ≠ 23 by decide), pz_up_c (show (24 : Nat) ≠ 0 by decide), pz_up_c (show (25 : Nat) ≠ 23 by decide), pz_up_c (show (25 : Nat) ≠ 0 by decide), s3, pz_m9 (show d 9 k - 1 < 1000 by omega), s4.1, mx_within_sn hS hw, pz_n00, if_true, pz_up_up]
      · obtain ⟨v, ev⟩ : ∃ v, v = sp_cut (d 9 k) z := ⟨_, rfl⟩
        have hx1 : ix (pm_up (pm_up M 0 6 (nI 0)) (7 + k) i v) d (pm_up (pm_up e 0 1 (nI 0)) (1 + k) i v) := by
          refine ix_of (ix_fault (v := nI 0) hX) (fun c c1 c2 c3 c4 => pz_up_c (by omega)) (fun _ _ => rfl) (pz_up_c (by omega)) (fun k2 hk2 => ?_)
          obtain ⟨a1, a2⟩ := (ix_fault (v := nI 0) hX).2.2.2 k2 hk2
          rw [pz_up_c (show (11 : Nat) ≠ 7 + k by omega), pz_up_c (show (12 : Nat) ≠ 7 + k by omega)]
          refine ⟨a1, fun hne => ⟨(a2 hne).1, fun i2 hi2 => ?_⟩⟩
          by_cases q2 : k2 = k
          · subst q2
            rw [pz_up_i, pz_up_i]
            by_cases q3 : i2 = i
            · rw [if_pos q3, if_pos q3]
            · rw [if_neg q3, if_neg q3]
              exact (a2 hne).2 i2 hi2
          · rw [pz_up_c (show 7 + k2 ≠ 7 + k by omega), pz_up_c (show 1 + k2 ≠ 1 + k by omega)]
            exact (a2 hne).2 i2 hi2
        have hx2 : ix (pm_up (pm_up (pm_up (pm_up M 0 6 (nI 0)) (7 + k) i v) 23 0 (nI 0)) 26 (60 * k + i) v) d (pm_up (pm_up e 0 1 (nI 0)) (1 + k) i v) := ix_hi (ix_hi hx1 (by decide)) (by decide)
        have hy0 : iy (pm_up (pm_up (pm_up M 0 6 (nI 0)) (7 + k) i v) 23 0 (nI 0)) d (pm_up e 0 1 (nI 0)) := iy_fault (iy_lo (iy_lo hY (by decide)) (by omega))
        have hy2 : iy (pm_up (pm_up (pm_up (pm_up M 0 6 (nI 0)) (7 + k) i v) 23 0 (nI 0)) 26 (60 * k + i) v) d (pm_up (pm_up e 0 1 (nI 0)) (1 + k) i v) := by
          refine iy_of hy0 (fun c c1 c2 => pz_up_c (by omega)) (pz_up_c (by decide)) (fun _ _ => rfl) (pz_up_c (by omega)) (fun k2 hk2 => ?_)
          obtain ⟨a1, a2⟩ := hy0.2.2.2 k2 hk2
          rw [pz_up_c (show (24 : Nat) ≠ 26 by decide), pz_up_c (show (25 : Nat) ≠ 26 by decide)]
          refine ⟨a1, fun hne => ⟨(a2 hne).1, fun i2 hi2 => ?_⟩⟩
          have h10 := (hl k2).2
          by_cases q2 : k2 = k
          · subst q2
            rw [pz_up_i, pz_up_i]
            by_cases q3 : i2 = i
            · rw [if_pos q3, if_pos (by omega)]
            · rw [if_neg q3, if_neg (by omega)]
              exact (a2 hne).2 i2 hi2
          · rw [pz_up_n (show 60 * k2 + i2 ≠ 60 * k + i by omega), pz_up_c (show 1 + k2 ≠ 1 + k by omega)]
            exact (a2 hne).2 i2 hi2
        have h24 : pm_up (pm_up (pm_up M 0 6 (nI 0)) (7 + k) i v) 23 0 (nI 0) 24 k = nI (d 9 k - 1) := by
          rw [pz_up_c (by decide), pz_up_c (by omega), pz_up_c (by decide)]
          exact s3
        have h25 : pm_up (pm_up (pm_up M 0 6 (nI 0)) (7 + k) i v) 23 0 (nI 0) 25 k = nI (d 10 k) := by
          rw [pz_up_c (by decide), pz_up_c (by omega), pz_up_c (by decide)]
          exact s4.1
        refine ⟨pm_i (nI 1), pm_up (pm_up M 0 6 (nI 0)) (7 + k) i v, pm_up (pm_up (pm_up (pm_up M 0 6 (nI 0)) (7 + k) i v) 23 0 (nI 0)) 26 (60 * k + i) v, ?_, ?_, d, _, hG, hx2, hy2⟩
        · have h11 : pm_up M 0 6 (nI 0) 11 k = nI (d 9 k - 1) := by
            rw [pz_up_c (by decide), s1, e1]
          simp only [rx_66_0, rx_66_1, rx_66_2, rx_66_5, rx_66_6, rx_66_9, rx_66_12, rx_66_13, rx_66_14, rx_66_15, rx_66_18, rx_66_19, rx_66_22, rx_66_25, rx_66_26, rx_66_27, rx_66_30, rx_66_33, rx_66_34, rx_66_37, rx_66_38, rx_66_39, rx_66_42, rx_66_45, rx_66_46, rx_66_47, rx_66_50, rx_66_51, rx_66_54, rx_66_57, rx_66_59, rx_66_60, rx_66_63, rx_66_64, rx_66_65, rx_66_66, rx_66_69, rx_66_70, rx_66_71, rx_66_72, rx_66_75, rx_66_76, cx_isSheet_y hk, cx_isNothing (M := pm_up M 0 6 (nI 0)) hk hL s1, q, pz_bind, pz_psh, pz_psh0, pz_n10, if_false, if_true, pz_n00, cx_hasCell_y (M := pm_up M 0 6 (nI 0)) hk s2.1 hi hS, pz_up_s, cx_write hk h11 (show 1 ≤ d 9 k ∧ d 9 k ≤ 3 by omega) (show i < 60 by omega), ← ev]
        · unfold sp_cut at ev
          rcases (show d 9 k = 1 ∨ d 9 k = 2 ∨ d 9 k = 3 by omega) with q9 | q9 | q9
          · rw [q9] at h24 ev
            rw [if_pos rfl] at ev
            simp only [rx_130_0, rx_130_1, rx_130_2, rx_130_5, rx_130_6, rx_130_9, rx_130_12, rx_130_13, rx_130_14, rx_130_15, rx_130_18, rx_130_19, rx_130_20, rx_130_22, rx_130_25, rx_130_26, rx_130_27, rx_130_30, rx_130_31, rx_130_32, rx_130_33, rx_130_34, rx_130_37, rx_130_38, rx_130_39, rx_130_40, rx_130_41, rx_130_44, rx_130_47, rx_130_48, rx_130_49, rx_130_52, rx_130_53, rx_130_54, rx_130_57, rx_130_59, rx_130_60, rx_130_61, rx_130_62, rx_130_63, rx_130_64, rx_130_67, rx_130_68, rx_130_69, rx_130_72, rx_130_73, rx_130_74, rx_130_77, rx_130_78, rx_130_81, rx_130_82, rx_130_83, rx_130_84, rx_130_87, rx_130_88, rx_130_89, rx_130_92, rx_130_93, rx_130_94, rx_130_95, mx_isSheet_y hk, pz_bind, pz_psh, pz_n10, if_false, pz_ald_24 hk, pz_ald_25 hk, h24, h25, Nat.sub_self, pz_m9 (show 0 < 1000 by omega), mx_within_sy hi hS, pk_mul, pz_add, pz_n00, if_true, pz_ast_26 (show 60 * k + i < 240 by omega), ← ev]
          · rw [q9] at h24 ev
            rw [if_neg (by decide), if_pos rfl] at ev
            simp only [rx_130_0, rx_130_1, rx_130_2, rx_130_5, rx_130_6, rx_130_9, rx_130_12, rx_130_13, rx_130_14, rx_130_15, rx_130_18, rx_130_19, rx_130_20, rx_130_22, rx_130_25, rx_130_26, rx_130_27, rx_130_30, rx_130_31, rx_130_32, rx_130_33, rx_130_34, rx_130_37, rx_130_38, rx_130_39, rx_130_40, rx_130_41, rx_130_44, rx_130_47, rx_130_48, rx_130_49, rx_130_52, rx_130_53, rx_130_54, rx_130_57, rx_130_59, rx_130_60, rx_130_61, rx_130_62, rx_130_63, rx_130_64, rx_130_67, rx_130_68, rx_130_69, rx_130_72, rx_130_73, rx_130_74, rx_130_77, rx_130_78, rx_130_81, rx_130_82, rx_130_83, rx_130_84, rx_130_87, rx_130_88, rx_130_89, rx_130_92, rx_130_93, rx_130_94, rx_130_95, mx_isSheet_y hk, pz_bind, pz_psh, pz_n10, if_false, pz_ald_24 hk, pz_ald_25 hk, h24, h25, show 2 - 1 = 1 from rfl, pz_m9 (show 1 < 1000 by omega), mx_within_sy hi hS, pk_mul, pz_add, pz_n00, if_true, pz_ast_26 (show 60 * k + i < 240 by omega), ← ev]
          · rw [q9] at h24 ev
            rw [if_neg (by decide), if_neg (by decide)] at ev
            simp only [rx_130_0, rx_130_1, rx_130_2, rx_130_5, rx_130_6, rx_130_9, rx_130_12, rx_130_13, rx_130_14, rx_130_15, rx_130_18, rx_130_19, rx_130_20, rx_130_22, rx_130_25, rx_130_26, rx_130_27, rx_130_30, rx_130_31, rx_130_32, rx_130_33, rx_130_34, rx_130_37, rx_130_38, rx_130_39, rx_130_40, rx_130_41, rx_130_44, rx_130_47, rx_130_48, rx_130_49, rx_130_52, rx_130_53, rx_130_54, rx_130_57, rx_130_59, rx_130_60, rx_130_61, rx_130_62, rx_130_63, rx_130_64, rx_130_67, rx_130_68, rx_130_69, rx_130_72, rx_130_73, rx_130_74, rx_130_77, rx_130_78, rx_130_81, rx_130_82, rx_130_83, rx_130_84, rx_130_87, rx_130_88, rx_130_89, rx_130_92, rx_130_93, rx_130_94, rx_130_95, mx_isSheet_y hk, pz_bind, pz_psh, pz_n10, pz_n21, if_false, pz_ald_24 hk, pz_ald_25 hk, h24, h25, show 3 - 1 = 2 from rfl, pz_m9 (show 2 < 1000 by omega), mx_within_sy hi hS, pk_mul, pz_add, pz_n00, pz_eq0 (show 2 < 2147483648 by omega), show ¬ ((2 : Nat) = 0) by decide, if_true, pz_ast_26 (show 60 * k + i < 240 by omega), ← ev]
theorem op_cell (x w z : Int32) : op_ok 67 131 [some (pm_r 0), some (pm_i x), some (pm_i w), some (pm_i z)] [some (pm_r 23), some (pm_i x), some (pm_i w), some (pm_i z)] := by
  intro M hM
  obtain ⟨d, e, hG, hX, hY⟩ := hM
  obtain ⟨hB, hn, hq, hl⟩ := id hG
  obtain ⟨xL, xR, xT, xS⟩ := id hX
  obtain ⟨yL, yR, yT, yS⟩ := id hY
  obtain ⟨x1, x2, x3, x4, x5, x6, x7⟩ := id xL
  obtain ⟨y1, y2, y3, y4, y5, y6, y7⟩ := id yL
  obtain ⟨b1, b2, b3, b4, b5, b6⟩ := id hB
  have hF : d 0 0 ≤ 6 := by omega
  have hD : d 0 1 ≤ 8 := by omega
  rcases pz_any x 4 (by omega) with hx | ⟨k, hk, rfl⟩
  · refine ⟨pm_l (lN 9223372036854775808), pm_up M 0 6 (nI 0), pm_up (pm_up M 0 6 (nI 0)) 23 0 (nI 0), ?_, ?_, iv_fault hG hX hY⟩
    · simp only [rx_67_0, rx_67_1, rx_67_2, rx_67_5, rx_67_6, rx_67_9, rx_67_12, rx_67_13, rx_67_16, rx_67_19, rx_67_22, rx_67_23, rx_67_24, rx_67_25, rx_67_28, rx_67_29, rx_67_30, rx_67_33, rx_67_36, rx_67_37, rx_67_40, rx_67_43, rx_67_44, rx_67_47, rx_67_48, rx_67_49, rx_67_52, rx_67_55, rx_67_56, rx_67_57, rx_67_60, rx_67_61, rx_67_64, rx_67_67, rx_67_68, rx_67_71, rx_67_74, rx_67_75, rx_67_76, rx_67_77, rx_67_78, rx_67_79, rx_67_82, rx_67_85, cx_isSheet_n hx, pz_bind, pz_psh, pz_n00, if_true]
    · simp only [rx_131_0, rx_131_1, rx_131_2, rx_131_5, rx_131_6, rx_131_9, rx_131_12, rx_131_13, rx_131_16, rx_131_19, rx_131_22, rx_131_23, rx_131_24, rx_131_27, rx_131_28, rx_131_29, rx_131_31, rx_131_34, rx_131_35, rx_131_38, rx_131_39, rx_131_40, rx_131_41, rx_131_44, rx_131_45, rx_131_46, rx_131_49, rx_131_50, rx_131_51, rx_131_54, rx_131_55, rx_131_56, rx_131_58, rx_131_61, rx_131_62, rx_131_63, rx_131_66, rx_131_67, rx_131_68, rx_131_69, rx_131_70, rx_131_73, rx_131_74, rx_131_75, rx_131_76, rx_131_77, rx_131_80, rx_131_83, rx_131_84, rx_131_85, rx_131_88, rx_131_89, rx_131_90, rx_131_93, rx_131_95, rx_131_96, rx_131_97, rx_131_98, rx_131_99, rx_131_100, rx_131_101, mx_isSheet_n hx, pz_bind, pz_psh, pz_n00, if_true]
  · rcases pz_any z 3 (by omega) with hz | ⟨lane, hl3, rfl⟩
    · refine ⟨pm_l (lN 9223372036854775808), pm_up M 0 6 (nI 0), pm_up (pm_up M 0 6 (nI 0)) 23 0 (nI 0), ?_, ?_, iv_fault hG hX hY⟩
      · simp only [rx_67_0, rx_67_1, rx_67_2, rx_67_5, rx_67_6, rx_67_9, rx_67_12, rx_67_13, rx_67_16, rx_67_19, rx_67_22, rx_67_23, rx_67_24, rx_67_25, rx_67_28, rx_67_29, rx_67_30, rx_67_33, rx_67_36, rx_67_37, rx_67_40, rx_67_43, rx_67_44, rx_67_47, rx_67_48, rx_67_49, rx_67_52, rx_67_55, rx_67_56, rx_67_57, rx_67_60, rx_67_61, rx_67_64, rx_67_67, rx_67_68, rx_67_71, rx_67_74, rx_67_75, rx_67_76, rx_67_77, rx_67_78, rx_67_79, rx_67_82, rx_67_85, cx_isSheet_y hk, cx_isLane_n hz, pz_bind, pz_psh, pz_n10, if_false, pz_n00, if_true]
      · simp only [rx_131_0, rx_131_1, rx_131_2, rx_131_5, rx_131_6, rx_131_9, rx_131_12, rx_131_13, rx_131_16, rx_131_19, rx_131_22, rx_131_23, rx_131_24, rx_131_27, rx_131_28, rx_131_29, rx_131_31, rx_131_34, rx_131_35, rx_131_38, rx_131_39, rx_131_40, rx_131_41, rx_131_44, rx_131_45, rx_131_46, rx_131_49, rx_131_50, rx_131_51, rx_131_54, rx_131_55, rx_131_56, rx_131_58, rx_131_61, rx_131_62, rx_131_63, rx_131_66, rx_131_67, rx_131_68, rx_131_69, rx_131_70, rx_131_73, rx_131_74, rx_131_75, rx_131_76, rx_131_77, rx_131_80, rx_131_83, rx_131_84, rx_131_85, rx_131_88, rx_131_89, rx_131_90, rx_131_93, rx_131_95, rx_131_96, rx_131_97, rx_131_98, rx_131_99, rx_131_100, rx_131_101, mx_isSheet_y hk, mx_isSort_n hz, pz_bind, pz_psh, pz_n10, if_false, pz_n00, if_true]
    · have hL := (hl k).1
      have hS := (hl k).2
      obtain ⟨s1, s2⟩ := xS k hk
      obtain ⟨s3, s4⟩ := yS k hk
      by_cases q : d 9 k = 0
      · rw [if_pos q] at s3
        refine ⟨pm_l (lN 9223372036854775808), pm_up M 0 6 (nI 1), pm_up (pm_up M 0 6 (nI 1)) 23 0 (nI 1), ?_, ?_, iv_fault hG hX hY⟩
        · simp only [rx_67_0, rx_67_1, rx_67_2, rx_67_5, rx_67_6, rx_67_9, rx_67_12, rx_67_13, rx_67_16, rx_67_19, rx_67_22, rx_67_23, rx_67_24, rx_67_25, rx_67_28, rx_67_29, rx_67_30, rx_67_33, rx_67_36, rx_67_37, rx_67_40, rx_67_43, rx_67_44, rx_67_47, rx_67_48, rx_67_49, rx_67_52, rx_67_55, rx_67_56, rx_67_57, rx_67_60, rx_67_61, rx_67_64, rx_67_67, rx_67_68, rx_67_71, rx_67_74, rx_67_75, rx_67_76, rx_67_77, rx_67_78, rx_67_79, rx_67_82, rx_67_85, cx_isSheet_y hk, cx_isLane_y (show lane ≤ 2 by omega), cx_faultOfLane (M := pm_up M 0 6 (nI 0)) hk hL (show lane ≤ 2 by omega) s1, q, pz_bind, pz_psh, pz_n10, if_false, if_true, pz_up_up, pz_up_s]
        · simp only [rx_131_0, rx_131_1, rx_131_2, rx_131_5, rx_131_6, rx_131_9, rx_131_12, rx_131_13, rx_131_16, rx_131_19, rx_131_22, rx_131_23, rx_131_24, rx_131_27, rx_131_28, rx_131_29, rx_131_31, rx_131_34, rx_131_35, rx_131_38, rx_131_39, rx_131_40, rx_131_41, rx_131_44, rx_131_45, rx_131_46, rx_131_49, rx_131_50, rx_131_51, rx_131_54, rx_131_55, rx_131_56, rx_131_58, rx_131_61, rx_131_62, rx_131_63, rx_131_66, rx_131_67, rx_131_68, rx_131_69, rx_131_70, rx_131_73, rx_131_74, rx_131_75, rx_131_76, rx_131_77, rx_131_80, rx_131_83, rx_131_84, rx_131_85, rx_131_88, rx_131_89, rx_131_90, rx_131_93, rx_131_95, rx_131_96, rx_131_97, rx_131_98, rx_131_99, rx_131_100, rx_131_101, rx_132_0, rx_132_1, rx_132_2, rx_132_5, rx_132_8, mx_isSheet_y hk, mx_isSort_y (show lane ≤ 2 by omega), pz_bind, pz_psh, pz_n10, if_false, pz_ald_24 hk, pz_up_c (show (24 : Nat) ≠ 23 by decide), pz_up_c (show (24 : Nat) ≠ 0 by decide), s3, if_true, pz_up_up]
      · rw [if_neg q] at s3
        have s2 := s2 q
        have s4 := s4 q
        by_cases q2 : d 9 k = lane + 1
        · rw [show d 9 k - 1 = lane by omega] at s3
          rcases pz_any w (d 10 k) (by omega) with hw | ⟨i, hi, rfl⟩
          · refine ⟨pm_l (lN 9223372036854775808), pm_up M 0 6 (nI 3), pm_up (pm_up M 0 6 (nI 3)) 23 0 (nI 3), ?_, ?_, iv_fault hG hX hY⟩
            · simp only [rx_67_0, rx_67_1, rx_67_2, rx_67_5, rx_67_6, rx_67_9, rx_67_12, rx_67_13, rx_67_16, rx_67_19, rx_67_22, rx_67_23, rx_67_24, rx_67_25, rx_67_28, rx_67_29, rx_67_30, rx_67_33, rx_67_36, rx_67_37, rx_67_40, rx_67_43, rx_67_44, rx_67_47, rx_67_48, rx_67_49, rx_67_52, rx_67_55, rx_67_56, rx_67_57, rx_67_60, rx_67_61, rx_67_64, rx_67_67, rx_67_68, rx_67_71, rx_67_74, rx_67_75, rx_67_76, rx_67_77, rx_67_78, rx_67_79, rx_67_82, rx_67_85, cx_isSheet_y hk, cx_isLane_y (show lane ≤ 2 by omega), cx_faultOfLane (M := pm_up M 0 6 (nI 0)) hk hL (show lane ≤ 2 by omega) s1, q, if_pos q2, pz_bind, pz_psh, pz_n10, if_false, if_true, pz_up_up, pz_up_s, pz_n00, cx_hasCell_n (M := pm_up M 0 6 (nI 0)) hk s2.1 hw, pz_eq0 (show 3 < 2147483648 by omega), show ¬ ((3 : Nat) = 0) by decide]
            · simp only [rx_131_0, rx_131_1, rx_131_2, rx_131_5, rx_131_6, rx_131_9, rx_131_12, rx_131_13, rx_131_16, rx_131_19, rx_131_22, rx_131_23, rx_131_24, rx_131_27, rx_131_28, rx_131_29, rx_131_31, rx_131_34, rx_131_35, rx_131_38, rx_131_39, rx_131_40, rx_131_41, rx_131_44, rx_131_45, rx_131_46, rx_131_49, rx_131_50, rx_131_51, rx_131_54, rx_131_55, rx_131_56, rx_131_58, rx_131_61, rx_131_62, rx_131_63, rx_131_66, rx_131_67, rx_131_68, rx_131_69, rx_131_70, rx_131_73, rx_131_74, rx_131_75, rx_131_76, rx_131_77, rx_131_80, rx_131_83, rx_131_84, rx_131_85, rx_131_88, rx_131_89, rx_131_90, rx_131_93, rx_131_95, rx_131_96, rx_131_97, rx_131_98, rx_131_99, rx_131_100, rx_131_101, rx_132_0, rx_132_1, rx_132_2, rx_132_5, rx_132_8, mx_isSheet_y hk, mx_isSort_y (show lane ≤ 2 by omega), pz_bind, pz_psh, pz_n10, if_false, pz_ald_24 hk, pz_ald_25 hk, pz_up_c (show (24 : Nat) ≠ 23 by decide), pz_up_c (show (24 : Nat) ≠ 0 by decide), pz_up_c (show (25 : Nat) ≠ 23 by decide), pz_up_c (show (25 : Nat) ≠ 0 by decide), s3, s4.1, pz_m9 (show lane < 1000 by omega), if_true, mx_within_sn hS hw, pz_n00, pz_up_up]
          · refine ⟨pm_l (e (1 + k) i).toInt64, pm_up M 0 6 (nI 0), pm_up (pm_up M 0 6 (nI 0)) 23 0 (nI 0), ?_, ?_, iv_fault hG hX hY⟩
            · simp only [rx_67_0, rx_67_1, rx_67_2, rx_67_5, rx_67_6, rx_67_9, rx_67_12, rx_67_13, rx_67_16, rx_67_19, rx_67_22, rx_67_23, rx_67_24, rx_67_25, rx_67_28, rx_67_29, rx_67_30, rx_67_33, rx_67_36, rx_67_37, rx_67_40, rx_67_43, rx_67_44, rx_67_47, rx_67_48, rx_67_49, rx_67_52, rx_67_55, rx_67_56, rx_67_57, rx_67_60, rx_67_61, rx_67_64, rx_67_67, rx_67_68, rx_67_71, rx_67_74, rx_67_75, rx_67_76, rx_67_77, rx_67_78, rx_67_79, rx_67_82, rx_67_85, cx_isSheet_y hk, cx_isLane_y (show lane ≤ 2 by omega), cx_faultOfLane (M := pm_up M 0 6 (nI 0)) hk hL (show lane ≤ 2 by omega) s1, q, if_pos q2, pz_bind, pz_psh, pz_n10, if_false, if_true, pz_up_up, pz_up_s, pz_n00, cx_hasCell_y (M := pm_up M 0 6 (nI 0)) hk s2.1 hi hS, pz_aald_6 hk, pz_aldG (pz_sh7 hk) (show 60 < 1000 by decide) (show i < 60 by omega), pz_up_c (show 7 + k ≠ 0 by omega), s2.2 i hi]
            · simp only [rx_131_0, rx_131_1, rx_131_2, rx_131_5, rx_131_6, rx_131_9, rx_131_12, rx_131_13, rx_131_16, rx_131_19, rx_131_22, rx_131_23, rx_131_24, rx_131_27, rx_131_28, rx_131_29, rx_131_31, rx_131_34, rx_131_35, rx_131_38, rx_131_39, rx_131_40, rx_131_41, rx_131_44, rx_131_45, rx_131_46, rx_131_49, rx_131_50, rx_131_51, rx_131_54, rx_131_55, rx_131_56, rx_131_58, rx_131_61, rx_131_62, rx_131_63, rx_131_66, rx_131_67, rx_131_68, rx_131_69, rx_131_70, rx_131_73, rx_131_74, rx_131_75, rx_131_76, rx_131_77, rx_131_80, rx_131_83, rx_131_84, rx_131_85, rx_131_88, rx_131_89, rx_131_90, rx_131_93, rx_131_95, rx_131_96, rx_131_97, rx_131_98, rx_131_99, rx_131_100, rx_131_101, mx_isSheet_y hk, mx_isSort_y (show lane ≤ 2 by omega), pz_bind, pz_psh, pz_n10, if_false, pz_ald_24 hk, pz_ald_25 hk, pz_up_c (show (24 : Nat) ≠ 23 by decide), pz_up_c (show (24 : Nat) ≠ 0 by decide), pz_up_c (show (25 : Nat) ≠ 23 by decide), pz_up_c (show (25 : Nat) ≠ 0 by decide), s3, s4.1, pz_m9 (show lane < 1000 by omega), if_true, mx_within_sy hi hS, pk_mul, pz_add, pz_ald_26 (show 60 * k + i < 240 by omega), pz_up_c (show (26 : Nat) ≠ 23 by decide), pz_up_c (show (26 : Nat) ≠ 0 by decide), s4.2 i hi]
        · refine ⟨pm_l (lN 9223372036854775808), pm_up M 0 6 (nI 2), pm_up (pm_up M 0 6 (nI 2)) 23 0 (nI 2), ?_, ?_, iv_fault hG hX hY⟩
          · simp only [rx_67_0, rx_67_1, rx_67_2, rx_67_5, rx_67_6, rx_67_9, rx_67_12, rx_67_13, rx_67_16, rx_67_19, rx_67_22, rx_67_23, rx_67_24, rx_67_25, rx_67_28, rx_67_29, rx_67_30, rx_67_33, rx_67_36, rx_67_37, rx_67_40, rx_67_43, rx_67_44, rx_67_47, rx_67_48, rx_67_49, rx_67_52, rx_67_55, rx_67_56, rx_67_57, rx_67_60, rx_67_61, rx_67_64, rx_67_67, rx_67_68, rx_67_71, rx_67_74, rx_67_75, rx_67_76, rx_67_77, rx_67_78, rx_67_79, rx_67_82, rx_67_85, cx_isSheet_y hk, cx_isLane_y (show lane ≤ 2 by omega), cx_faultOfLane (M := pm_up M 0 6 (nI 0)) hk hL (show lane ≤ 2 by omega) s1, q, q2, pz_bind, pz_psh, pz_n10, if_false, if_true, pz_up_up, pz_up_s, pz_eq0 (show 2 < 2147483648 by omega), show ¬ ((2 : Nat) = 0) by decide]
          · simp only [rx_131_0, rx_131_1, rx_131_2, rx_131_5, rx_131_6, rx_131_9, rx_131_12, rx_131_13, rx_131_16, rx_131_19, rx_131_22, rx_131_23, rx_131_24, rx_131_27, rx_131_28, rx_131_29, rx_131_31, rx_131_34, rx_131_35, rx_131_38, rx_131_39, rx_131_40, rx_131_41, rx_131_44, rx_131_45, rx_131_46, rx_131_49, rx_131_50, rx_131_51, rx_131_54, rx_131_55, rx_131_56, rx_131_58, rx_131_61, rx_131_62, rx_131_63, rx_131_66, rx_131_67, rx_131_68, rx_131_69, rx_131_70, rx_131_73, rx_131_74, rx_131_75, rx_131_76, rx_131_77, rx_131_80, rx_131_83, rx_131_84, rx_131_85, rx_131_88, rx_131_89, rx_131_90, rx_131_93, rx_131_95, rx_131_96, rx_131_97, rx_131_98, rx_131_99, rx_131_100, rx_131_101, rx_132_0, rx_132_1, rx_132_2, rx_132_5, rx_132_8, mx_isSheet_y hk, mx_isSort_y (show lane ≤ 2 by omega), pz_bind, pz_psh, pz_n10, if_false, pz_ald_24 hk, pz_up_c (show (24 : Nat) ≠ 23 by decide), pz_up_c (show (24 : Nat) ≠ 0 by decide), s3, pz_m9 (show d 9 k - 1 < 1000 by omega), pz_eq (show d 9 k - 1 < 2147483648 by omega) (show lane < 2147483648 by omega), show ¬ d 9 k - 1 = lane by omega, pz_up_up]
