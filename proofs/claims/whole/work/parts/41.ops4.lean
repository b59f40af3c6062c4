/-! The calls on sheets. -/
theorem pz_sh7 {k : Nat} (h : k < 4) : pm_sh (7 + k) = some (.inl 60) := by
  rcases (show k = 0 ∨ k = 1 ∨ k = 2 ∨ k = 3 by omega) with rfl | rfl | rfl | rfl <;> rfl
theorem cx_renew {M : pm_M} {k : Nat} {a b : Int32} (hk : k < 4) : pm_Rc pm_X0 17 (0, [some (pm_r 1), some (pm_i (nI k)), some (pm_i a), some (pm_i b)], [], M) = some (none, pm_fl (pm_up (pm_up M 11 k a) 12 k b) (7 + k) 60 (nI 0)) := by
  simp only [rx_17_0, rx_17_1, rx_17_4, rx_17_5, rx_17_6, rx_17_7, rx_17_8, rx_17_11, rx_17_12, rx_17_13, rx_17_14, rx_17_15, rx_17_18, rx_17_19, rx_17_20, rx_17_21, rx_17_24, pz_ast_11 hk, pz_ast_12 hk, pz_bind, pz_aald_6 hk, cx_fill (pz_sh7 hk) (show 60 < 1000 by decide), pz_psh0]
/-- memory with a stretch of a cell all the same -/
def pm_fs2 (M : pm_M) (c a n : Nat) (v : Int32) : pm_M := fun x b => if x = c ∧ a ≤ b ∧ b < a + n then v else M x b
theorem pz_fs2_0 {M : pm_M} {c a : Nat} {v : Int32} : pm_fs2 M c a 0 v = M := by
  funext x b
  unfold pm_fs2
  rw [if_neg (fun h => by omega)]
theorem pz_fs2_s {M : pm_M} {c a i : Nat} {v : Int32} : pm_up (pm_fs2 M c a i v) c (a + i) v = pm_fs2 M c a (i + 1) v := by
  funext x b
  unfold pm_up pm_fs2
  by_cases h1 : x = c
  · by_cases h2 : b = a + i
    · rw [if_pos ⟨h1, h2⟩, if_pos ⟨h1, by omega, by omega⟩]
    · rw [if_neg (fun h => h2 h.2)]
      by_cases h3 : a ≤ b ∧ b < a + i
      · rw [if_pos ⟨h1, h3⟩, if_pos ⟨h1, by omega, by omega⟩]
      · rw [if_neg (fun h => h3 h.2), if_neg (fun h => h3 ⟨h.2.1, by omega⟩)]
  · rw [if_neg (fun h => h1 h.1), if_neg (fun h => h1 h.1), if_neg (fun h => h1 h.1)]
theorem pz_fs2_c {M : pm_M} {c a n x : Nat} {v : Int32} (h : x ≠ c) : pm_fs2 M c a n v x = M x := by
  funext b
  unfold pm_fs2
  rw [if_neg (fun q => h q.1)]
theorem mx_sheet_l {k : Nat} {o2 : Option pm_V} {M : pm_M} (hk : k < 4) : ∀ (n i : Nat), i + n = 60 → ∀ o3 : Option pm_V, pm_Rc pm_X0 128 (57, [some (pm_r 23), some (pm_i (nI k)), o2, o3, some (pm_i (nI i))], [], pm_fs2 M 26 (60 * k) i (nI 0)) = some (some (pm_i (nI 1)), pm_fs2 M 26 (60 * k) 60 (nI 0)) := by
  intro n
  induction n with
  | zero =>
    intro i hi o3
    have e : i = 60 := by omega
    subst e
    rw [rx_128_57]
    simp only [rx_128_0, rx_128_1, rx_128_2, rx_128_5, rx_128_6, rx_128_9, rx_128_12, rx_128_13, rx_128_14, rx_128_15, rx_128_18, rx_128_21, rx_128_22, rx_128_24, rx_128_27, rx_128_29, rx_128_30, rx_128_31, rx_128_34, rx_128_35, rx_128_36, rx_128_39, rx_128_40, rx_128_41, rx_128_44, rx_128_45, rx_128_46, rx_128_47, rx_128_48, rx_128_51, rx_128_52, rx_128_53, rx_128_54, rx_128_55, rx_128_59, rx_128_61, rx_128_64, rx_128_65, rx_128_68, rx_128_70, rx_128_71, rx_128_72, rx_128_74, rx_128_75, rx_128_76, rx_128_77, rx_128_80, rx_128_83, rx_128_84, pz_lt (show 60 < 2147483648 by omega) (show 60 < 2147483648 by omega), Nat.lt_irrefl, if_false]
  | succ n ih =>
    intro i hi o3
    rw [rx_128_57]
    simp only [rx_128_0, rx_128_1, rx_128_2, rx_128_5, rx_128_6, rx_128_9, rx_128_12, rx_128_13, rx_128_14, rx_128_15, rx_128_18, rx_128_21, rx_128_22, rx_128_24, rx_128_27, rx_128_29, rx_128_30, rx_128_31, rx_128_34, rx_128_35, rx_128_36, rx_128_39, rx_128_40, rx_128_41, rx_128_44, rx_128_45, rx_128_46, rx_128_47, rx_128_48, rx_128_51, rx_128_52, rx_128_53, rx_128_54, rx_128_55, rx_128_59, rx_128_61, rx_128_64, rx_128_65, rx_128_68, rx_128_70, rx_128_71, rx_128_72, rx_128_74, rx_128_75, rx_128_76, rx_128_77, rx_128_80, rx_128_83, rx_128_84, pz_lt (show i < 2147483648 by omega) (show 60 < 2147483648 by omega), show i < 60 by omega, if_true, pk_mul, pz_add, pz_ast_26 (show 60 * k + i < 240 by omega), pz_bind, pz_fs2_s, pz_nlz_i]
    exact ih (i + 1) (by omega) (pm_nlz o3)
theorem op_sheet (x w z : Int32) : op_ok 64 128 [some (pm_r 0), some (pm_i x), some (pm_i w), some (pm_i z)] [some (pm_r 23), some (pm_i x), some (pm_i w), some (pm_i z), none] := by
  intro M hM
  obtain ⟨d, e, hG, hX, hY⟩ := hM
  obtain ⟨hB, hn, hq, hl⟩ := id hG
  obtain ⟨xL, xR, xT, xS⟩ := id hX
  obtain ⟨yL, yR, yT, yS⟩ := id hY
  obtain ⟨x1, x2, x3, x4, x5, x6, x7⟩ := id xL
  obtain ⟨y1, y2, y3, y4, y5, y6, y7⟩ := id yL
  obtain ⟨b1, b2, b3, b4, b5, b6⟩ := id hB
  have hF : d 0 0 ≤ 6 := by omega
  have hD : d 0 1 ≤ 8 := by omega
  have hX0 := ix_fault (v := nI 0) hX
  have hY0 : iy (pm_up (pm_up M 0 6 (nI 0)) 23 0 (nI 0)) d (pm_up e 0 1 (nI 0)) := iy_fault (iy_lo hY (by decide))
  have hX1 : ix (pm_up (pm_up M 0 6 (nI 0)) 23 0 (nI 0)) d (pm_up e 0 1 (nI 0)) := ix_hi hX0 (by decide)
  rcases pz_any x 4 (by omega) with hx | ⟨k, hk, rfl⟩
  · refine ⟨pm_i (-1), pm_up M 0 6 (nI 0), pm_up (pm_up M 0 6 (nI 0)) 23 0 (nI 0), ?_, ?_, d, pm_up e 0 1 (nI 0), hG, hX1, hY0⟩
    · simp only [rx_64_0, rx_64_1, rx_64_2, rx_64_5, rx_64_6, rx_64_9, rx_64_12, rx_64_13, rx_64_14, rx_64_15, rx_64_18, rx_64_21, rx_64_22, rx_64_24, rx_64_27, rx_64_29, rx_64_30, rx_64_31, rx_64_34, rx_64_35, rx_64_36, rx_64_39, rx_64_41, rx_64_42, rx_64_45, rx_64_46, rx_64_47, rx_64_48, rx_64_51, rx_64_52, rx_64_53, rx_64_54, rx_64_57, rx_64_58, cx_isSheet_n hx, pz_bind, pz_psh, pz_n00, if_true]
    · simp only [rx_128_0, rx_128_1, rx_128_2, rx_128_5, rx_128_6, rx_128_9, rx_128_12, rx_128_13, rx_128_14, rx_128_15, rx_128_18, rx_128_21, rx_128_22, rx_128_24, rx_128_27, rx_128_29, rx_128_30, rx_128_31, rx_128_34, rx_128_35, rx_128_36, rx_128_39, rx_128_40, rx_128_41, rx_128_44, rx_128_45, rx_128_46, rx_128_47, rx_128_48, rx_128_51, rx_128_52, rx_128_53, rx_128_54, rx_128_55, rx_128_59, rx_128_61, rx_128_64, rx_128_65, rx_128_68, rx_128_70, rx_128_71, rx_128_72, rx_128_74, rx_128_75, rx_128_76, rx_128_77, rx_128_80, rx_128_83, rx_128_84, mx_isSheet_n hx, pz_bind, pz_psh, pz_n00, if_true]
  · rcases pz_any w 3 (by omega) with hw | ⟨lane, hl3, rfl⟩
    · refine ⟨pm_i (-2), pm_up M 0 6 (nI 0), pm_up (pm_up M 0 6 (nI 0)) 23 0 (nI 0), ?_, ?_, d, pm_up e 0 1 (nI 0), hG, hX1, hY0⟩
      · simp only [rx_64_0, rx_64_1, rx_64_2, rx_64_5, rx_64_6, rx_64_9, rx_64_12, rx_64_13, rx_64_14, rx_64_15, rx_64_18, rx_64_21, rx_64_22, rx_64_24, rx_64_27, rx_64_29, rx_64_30, rx_64_31, rx_64_34, rx_64_35, rx_64_36, rx_64_39, rx_64_41, rx_64_42, rx_64_45, rx_64_46, rx_64_47, rx_64_48, rx_64_51, rx_64_52, rx_64_53, rx_64_54, rx_64_57, rx_64_58, cx_isSheet_y hk, cx_isLane_n hw, pz_bind, pz_psh, pz_n10, if_false, pz_n00, if_true]
      · simp only [rx_128_0, rx_128_1, rx_128_2, rx_128_5, rx_128_6, rx_128_9, rx_128_12, rx_128_13, rx_128_14, rx_128_15, rx_128_18, rx_128_21, rx_128_22, rx_128_24, rx_128_27, rx_128_29, rx_128_30, rx_128_31, rx_128_34, rx_128_35, rx_128_36, rx_128_39, rx_128_40, rx_128_41, rx_128_44, rx_128_45, rx_128_46, rx_128_47, rx_128_48, rx_128_51, rx_128_52, rx_128_53, rx_128_54, rx_128_55, rx_128_59, rx_128_61, rx_128_64, rx_128_65, rx_128_68, rx_128_70, rx_128_71, rx_128_72, rx_128_74, rx_128_75, rx_128_76, rx_128_77, rx_128_80, rx_128_83, rx_128_84, mx_isSheet_y hk, mx_isSort_n hw, pz_bind, pz_psh, pz_n10, if_false, pz_n00, if_true]
    · rcases pz_any z 61 (by omega) with hz | ⟨n, hn61, rfl⟩
      · rcases hz with hz | ⟨hz, hz2⟩
        · have h60 : ¬ nI 60 < z := by
            rw [Int32.lt_iff_toInt_lt, nI_toInt (by omega)]
            rw [Int32.lt_iff_toInt_lt] at hz
            simp at hz
            omega
          refine ⟨pm_i (-10 - nI 4), pm_up (pm_up M 0 6 (nI 0)) 0 6 (nI 4), pm_up (pm_up (pm_up (pm_up M 0 6 (nI 0)) 0 6 (nI 4)) 23 0 (nI 0)) 23 0 (nI 4), ?_, ?_, d, pm_up (pm_up e 0 1 (nI 0)) 0 1 (nI 4), hG, ix_hi (ix_hi (ix_fault hX0) (by decide)) (by decide), iy_fault (iy_fault (iy_lo (iy_lo hY (by decide)) (by decide)))⟩
          · simp only [rx_64_0, rx_64_1, rx_64_2, rx_64_5, rx_64_6, rx_64_9, rx_64_12, rx_64_13, rx_64_14, rx_64_15, rx_64_18, rx_64_21, rx_64_22, rx_64_24, rx_64_27, rx_64_29, rx_64_30, rx_64_31, rx_64_34, rx_64_35, rx_64_36, rx_64_39, rx_64_41, rx_64_42, rx_64_45, rx_64_46, rx_64_47, rx_64_48, rx_64_51, rx_64_52, rx_64_53, rx_64_54, rx_64_57, rx_64_58, cx_isSheet_y hk, cx_isLane_y (show lane ≤ 2 by omega), pz_bind, pz_psh, pz_n10, if_false, h60, hz, if_true, pz_up_s]
          · simp only [rx_128_0, rx_128_1, rx_128_2, rx_128_5, rx_128_6, rx_128_9, rx_128_12, rx_128_13, rx_128_14, rx_128_15, rx_128_18, rx_128_21, rx_128_22, rx_128_24, rx_128_27, rx_128_29, rx_128_30, rx_128_31, rx_128_34, rx_128_35, rx_128_36, rx_128_39, rx_128_40, rx_128_41, rx_128_44, rx_128_45, rx_128_46, rx_128_47, rx_128_48, rx_128_51, rx_128_52, rx_128_53, rx_128_54, rx_128_55, rx_128_59, rx_128_61, rx_128_64, rx_128_65, rx_128_68, rx_128_70, rx_128_71, rx_128_72, rx_128_74, rx_128_75, rx_128_76, rx_128_77, rx_128_80, rx_128_83, rx_128_84, rx_84_0, rx_84_1, rx_84_2, rx_84_5, rx_84_7, rx_84_8, rx_84_9, mx_isSheet_y hk, mx_isSort_y (show lane ≤ 2 by omega), pz_bind, pz_psh, pz_n10, if_false, h60, hz, if_true]
        · have h60 := pz_ge1 (n := 60) (by omega) hz2
          refine ⟨pm_i (-2), pm_up M 0 6 (nI 0), pm_up (pm_up M 0 6 (nI 0)) 23 0 (nI 0), ?_, ?_, d, pm_up e 0 1 (nI 0), hG, hX1, hY0⟩
          · simp only [rx_64_0, rx_64_1, rx_64_2, rx_64_5, rx_64_6, rx_64_9, rx_64_12, rx_64_13, rx_64_14, rx_64_15, rx_64_18, rx_64_21, rx_64_22, rx_64_24, rx_64_27, rx_64_29, rx_64_30, rx_64_31, rx_64_34, rx_64_35, rx_64_36, rx_64_39, rx_64_41, rx_64_42, rx_64_45, rx_64_46, rx_64_47, rx_64_48, rx_64_51, rx_64_52, rx_64_53, rx_64_54, rx_64_57, rx_64_58, cx_isSheet_y hk, cx_isLane_y (show lane ≤ 2 by omega), pz_bind, pz_psh, pz_n10, if_false, h60, if_true]
          · simp only [rx_128_0, rx_128_1, rx_128_2, rx_128_5, rx_128_6, rx_128_9, rx_128_12, rx_128_13, rx_128_14, rx_128_15, rx_128_18, rx_128_21, rx_128_22, rx_128_24, rx_128_27, rx_128_29, rx_128_30, rx_128_31, rx_128_34, rx_128_35, rx_128_36, rx_128_39, rx_128_40, rx_128_41, rx_128_44, rx_128_45, rx_128_46, rx_128_47, rx_128_48, rx_128_51, rx_128_52, rx_128_53, rx_128_54, rx_128_55, rx_128_59, rx_128_61, rx_128_64, rx_128_65, rx_128_68, rx_128_70, rx_128_71, rx_128_72, rx_128_74, rx_128_75, rx_128_76, rx_128_77, rx_128_80, rx_128_83, rx_128_84, mx_isSheet_y hk, mx_isSort_y (show lane ≤ 2 by omega), pz_bind, pz_psh, pz_n10, if_false, h60, if_true]
      · obtain ⟨M1, eM1⟩ : ∃ M1, M1 = pm_fl (pm_up (pm_up (pm_up M 0 6 (nI 0)) 11 k (nI lane)) 12 k (nI n)) (7 + k) 60 (nI 0) := ⟨_, rfl⟩
        obtain ⟨M2, eM2⟩ : ∃ M2, M2 = pm_fs2 (pm_up (pm_up (pm_up M1 23 0 (nI 0)) 24 k (nI lane)) 25 k (nI n)) 26 (60 * k) 60 (nI 0) := ⟨_, rfl⟩
        have hd9 : ∀ a, a ≤ 8 → iv_up (iv_up d 9 k (lane + 1)) 10 k n a = d a := fun a ha => by rw [iv_up_c (by omega), iv_up_c (by omega)]
        have he9 : pm_fl (pm_up e 0 1 (nI 0)) (1 + k) 60 (nI 0) 0 = pm_up e 0 1 (nI 0) 0 := pz_fl_c (by omega)
        have hx1 : ix M1 (iv_up (iv_up d 9 k (lane + 1)) 10 k n) (pm_fl (pm_up e 0 1 (nI 0)) (1 + k) 60 (nI 0)) := by
          refine ix_of hX0 (fun c c1 c2 c3 c4 => ?_) hd9 he9 (fun k2 hk2 => ?_)
          · rw [eM1, pz_fl_c (by omega), pz_up_c (by omega), pz_up_c (by omega)]
          · have h9 := xS k2 hk2
            rw [eM1, pz_fl_c (show (11 : Nat) ≠ 7 + k by omega), pz_fl_c (show (12 : Nat) ≠ 7 + k by omega), pz_up_c (show (11 : Nat) ≠ 12 by decide), pz_up_i, pz_up_i, iv_up_c (show (9 : Nat) ≠ 10 by decide), iv_up_i, iv_up_i, pz_up_c (show (12 : Nat) ≠ 11 by decide), pz_up_c (show (11 : Nat) ≠ 0 by decide), pz_up_c (show (12 : Nat) ≠ 0 by decide)]
            by_cases q : k2 = k
            · subst q
              simp only [if_true]
              refine ⟨by rw [pz_sub (by omega)]; rfl, fun _ => ⟨trivial, fun i hi => ?_⟩⟩
              rw [pz_fl_i (by omega), pz_fl_i (by omega)]
            · simp only [q, if_false]
              refine ⟨h9.1, fun hne => ⟨(h9.2 hne).1, fun i hi => ?_⟩⟩
              rw [pz_fl_c (by omega), pz_fl_c (by omega), pz_up_c (by omega), pz_up_c (by omega), pz_up_c (by omega), pz_up_c (by omega)]
              exact (h9.2 hne).2 i hi
        have hx2 : ix M2 (iv_up (iv_up d 9 k (lane + 1)) 10 k n) (pm_fl (pm_up e 0 1 (nI 0)) (1 + k) 60 (nI 0)) := ix_fr hx1 (fun c c1 _ _ _ _ => by rw [eM2, pz_fs2_c (by omega), pz_up_c (by omega), pz_up_c (by omega), pz_up_c (by omega)])
        have hy1 : iy (pm_up M1 23 0 (nI 0)) d (pm_up e 0 1 (nI 0)) := iy_fault (iy_fr hY (fun c c1 _ => by rw [eM1, pz_fl_c (by omega), pz_up_c (by omega), pz_up_c (by omega), pz_up_c (by omega)]) (fun j _ => by rw [eM1, pz_fl_c (by omega), pz_up_c (by omega), pz_up_c (by omega), pz_up_c (by omega)]))
        have hy2 : iy M2 (iv_up (iv_up d 9 k (lane + 1)) 10 k n) (pm_fl (pm_up e 0 1 (nI 0)) (1 + k) 60 (nI 0)) := by
          refine iy_of hy1 (fun c c1 c2 => ?_) ?_ hd9 he9 (fun k2 hk2 => ?_)
          · rw [eM2, pz_fs2_c (by omega), pz_up_c (by omega), pz_up_c (by omega)]
          · rw [eM2, pz_fs2_c (by omega), pz_up_c (by omega), pz_up_c (by omega)]
          · have h9 := hy1.2.2.2 k2 hk2
            rw [eM2, pz_fs2_c (show (24 : Nat) ≠ 26 by decide), pz_fs2_c (show (25 : Nat) ≠ 26 by decide), pz_up_c (show (24 : Nat) ≠ 25 by decide), pz_up_i, pz_up_i, iv_up_c (show (9 : Nat) ≠ 10 by decide), iv_up_i, iv_up_i, pz_up_c (show (25 : Nat) ≠ 24 by decide)]
            by_cases q : k2 = k
            · subst q
              simp only [if_true]
              refine ⟨by rw [if_neg (by omega)]; rfl, fun _ => ⟨trivial, fun i hi => ?_⟩⟩
              rw [pz_fl_i (by omega)]
              unfold pm_fs2
              rw [if_pos ⟨rfl, by omega, by omega⟩]
            · simp only [q, if_false]
              refine ⟨h9.1, fun hne => ⟨(h9.2 hne).1, fun i hi => ?_⟩⟩
              rw [pz_fl_c (by omega)]
              unfold pm_fs2
              have h10 := hl k2
              have hi2 : i < d 10 k2 := hi
              rw [if_neg (fun h => by omega), pz_up_c (by omega), pz_up_c (by omega)]
              exact (h9.2 hne).2 i hi
        have hg2 : iv_G (iv_up (iv_up d 9 k (lane + 1)) 10 k n) := by
          refine ⟨hG.1, hG.2.1, hG.2.2.1, fun k2 => ?_⟩
          have h9 := hl k2
          rw [iv_up_c (show (9 : Nat) ≠ 10 by decide), iv_up_i, iv_up_i, iv_up_c (show (10 : Nat) ≠ 9 by decide)]
          by_cases q : k2 = k
          · simp only [q, if_true]
            omega
          · simp only [q, if_false]
            exact h9
        refine ⟨pm_i (nI 1), M1, M2, ?_, ?_, _, _, hg2, hx2, hy2⟩
        · simp only [rx_64_0, rx_64_1, rx_64_2, rx_64_5, rx_64_6, rx_64_9, rx_64_12, rx_64_13, rx_64_14, rx_64_15, rx_64_18, rx_64_21, rx_64_22, rx_64_24, rx_64_27, rx_64_29, rx_64_30, rx_64_31, rx_64_34, rx_64_35, rx_64_36, rx_64_39, rx_64_41, rx_64_42, rx_64_45, rx_64_46, rx_64_47, rx_64_48, rx_64_51, rx_64_52, rx_64_53, rx_64_54, rx_64_57, rx_64_58, cx_isSheet_y hk, cx_isLane_y (show lane ≤ 2 by omega), pz_bind, pz_psh, pz_n10, if_false, pz_lt (show 60 < 2147483648 by omega) (show n < 2147483648 by omega), show ¬ 60 < n by omega, pz_lt0 (show n < 2147483648 by omega), cx_renew hk, pz_psh0, ← eM1]
        · have h9 := mx_sheet_l (o2 := some (pm_i (nI lane))) (M := pm_up (pm_up (pm_up M1 23 0 (nI 0)) 24 k (nI lane)) 25 k (nI n)) hk 60 0 (by omega) (some (pm_i (nI n)))
          rw [pz_fs2_0, ← eM2] at h9
          simp only [rx_128_0, rx_128_1, rx_128_2, rx_128_5, rx_128_6, rx_128_9, rx_128_12, rx_128_13, rx_128_14, rx_128_15, rx_128_18, rx_128_21, rx_128_22, rx_128_24, rx_128_27, rx_128_29, rx_128_30, rx_128_31, rx_128_34, rx_128_35, rx_128_36, rx_128_39, rx_128_40, rx_128_41, rx_128_44, rx_128_45, rx_128_46, rx_128_47, rx_128_48, rx_128_51, rx_128_52, rx_128_53, rx_128_54, rx_128_55, rx_128_59, rx_128_61, rx_128_64, rx_128_65, rx_128_68, rx_128_70, rx_128_71, rx_128_72, rx_128_74, rx_128_75, rx_128_76, rx_128_77, rx_128_80, rx_128_83, rx_128_84, mx_isSheet_y hk, mx_isSort_y (show lane ≤ 2 by omega), pz_bind, pz_psh, pz_n10, if_false, pz_lt (show 60 < 2147483648 by omega) (show n < 2147483648 by omega), show ¬ 60 < n by omega, pz_lt0 (show n < 2147483648 by omega), pz_ast_24 hk, pz_ast_25 hk, pz_nlz_i]
          exact h9
theorem op_lose (x : Int32) : op_ok 65 129 [some (pm_r 0), some (pm_i x), none] [some (pm_r 23), some (pm_i x), none] := by
  intro M hM
  obtain ⟨d, e, hG, hX, hY⟩ := hM
  obtain ⟨hB, hn, hq, hl⟩ := id hG
  obtain ⟨xL, xR, xT, xS⟩ := id hX
  obtain ⟨yL, yR, yT, yS⟩ := id hY
  obtain ⟨x1, x2, x3, x4, x5, x6, x7⟩ := id xL
  obtain ⟨y1, y2, y3, y4, y5, y6, y7⟩ := id yL
  obtain ⟨b1, b2, b3, b4, b5, b6⟩ := id hB
  have hF : d 0 0 ≤ 6 := by omega
  have hD : d 0 1 ≤ 8 := by omega
  rcases pz_any x 4 (by omega) with hx | ⟨k, hk, rfl⟩
  · refine ⟨pm_i (-1), M, M, ?_, ?_, d, e, hG, hX, hY⟩
    · simp only [rx_65_0, rx_65_1, rx_65_4, rx_65_7, rx_65_8, rx_65_9, rx_65_10, rx_65_13, rx_65_14, rx_65_17, rx_65_20, rx_65_21, rx_65_24, rx_65_25, rx_65_26, rx_65_27, rx_65_30, rx_65_31, rx_65_32, rx_65_33, rx_65_36, rx_65_37, rx_65_40, rx_65_41, rx_65_44, rx_65_45, cx_isSheet_n hx, pz_bind, pz_psh, pz_n00, if_true]
    · simp only [rx_129_0, rx_129_1, rx_129_4, rx_129_7, rx_129_8, rx_129_9, rx_129_10, rx_129_13, rx_129_14, rx_129_15, rx_129_17, rx_129_20, rx_129_21, rx_129_24, rx_129_25, rx_129_26, rx_129_27, rx_129_30, rx_129_31, rx_129_33, rx_129_34, rx_129_35, mx_isSheet_n hx, pz_bind, pz_psh, pz_n00, if_true]
  · have hL := (hl k).1
    obtain ⟨s1, s2⟩ := xS k hk
    obtain ⟨s3, s4⟩ := yS k hk
    obtain ⟨M1, eM1⟩ : ∃ M1, M1 = pm_fl (pm_up (pm_up M 11 k (-1)) 12 k (nI 0)) (7 + k) 60 (nI 0) := ⟨_, rfl⟩
    obtain ⟨M2, eM2⟩ : ∃ M2, M2 = pm_up M1 24 k (-9) := ⟨_, rfl⟩
    have hd9 : ∀ a, a ≤ 8 → iv_up d 9 k 0 a = d a := fun a ha => iv_up_c (by omega)
    have hx1 : ix M1 (iv_up d 9 k 0) e := by
      refine ix_of hX (fun c c1 c2 c3 c4 => ?_) hd9 rfl (fun k2 hk2 => ?_)
      · rw [eM1, pz_fl_c (by omega), pz_up_c (by omega), pz_up_c (by omega)]
      · have h9 := xS k2 hk2
        rw [eM1, pz_fl_c (show (11 : Nat) ≠ 7 + k by omega), pz_fl_c (show (12 : Nat) ≠ 7 + k by omega), pz_up_c (show (11 : Nat) ≠ 12 by decide), pz_up_i, pz_up_i, iv_up_c (show (10 : Nat) ≠ 9 by decide), iv_up_i, pz_up_c (show (12 : Nat) ≠ 11 by decide)]
        by_cases q : k2 = k
        · simp only [q, if_true]
          exact ⟨by decide, fun h => absurd rfl h⟩
        · simp only [q, if_false]
          refine ⟨h9.1, fun hne => ⟨(h9.2 hne).1, fun i hi => ?_⟩⟩
          rw [pz_fl_c (by omega), pz_up_c (by omega), pz_up_c (by omega)]
          exact (h9.2 hne).2 i hi
    have hx2 : ix M2 (iv_up d 9 k 0) e := by
      rw [eM2]
      exact ix_hi hx1 (by decide)
    have hy1 : iy M1 d e := iy_fr hY (fun c c1 _ => by rw [eM1, pz_fl_c (by omega), pz_up_c (by omega), pz_up_c (by omega)]) (fun j _ => by rw [eM1, pz_fl_c (by omega), pz_up_c (by omega), pz_up_c (by omega)])
    have hy2 : iy M2 (iv_up d 9 k 0) e := by
      refine iy_of hy1 (fun c c1 c2 => ?_) ?_ hd9 rfl (fun k2 hk2 => ?_)
      · rw [eM2, pz_up_c (by omega)]
      · rw [eM2, pz_up_c (by omega)]
      · have h9 := hy1.2.2.2 k2 hk2
        rw [eM2, pz_up_i, pz_up_c (show (25 : Nat) ≠ 24 by decide), pz_up_c (show (26 : Nat) ≠ 24 by decide), iv_up_c (show (10 : Nat) ≠ 9 by decide), iv_up_i]
        by_cases q : k2 = k
        · simp only [q, if_true]
          exact ⟨trivial, fun h => absurd rfl h⟩
        · simp only [q, if_false]
          exact h9
    have hg2 : iv_G (iv_up d 9 k 0) := by
      refine ⟨hG.1, hG.2.1, hG.2.2.1, fun k2 => ?_⟩
      have h9 := hl k2
      rw [iv_up_i, iv_up_c (show (10 : Nat) ≠ 9 by decide)]
      by_cases q : k2 = k
      · simp only [q, if_true]
        rw [q] at h9
        omega
      · simp only [q, if_false]
        exact h9
    have s3b : M1 24 k = (if d 9 k = 0 then -9 else nI (d 9 k - 1)) := (hy1.2.2.2 k hk).1
    by_cases q : d 9 k = 0
    · rw [if_pos q] at s3b
      refine ⟨pm_i (nI 0), M1, M2, ?_, ?_, _, _, hg2, hx2, hy2⟩
      · simp only [rx_65_0, rx_65_1, rx_65_4, rx_65_7, rx_65_8, rx_65_9, rx_65_10, rx_65_13, rx_65_14, rx_65_17, rx_65_20, rx_65_21, rx_65_24, rx_65_25, rx_65_26, rx_65_27, rx_65_30, rx_65_31, rx_65_32, rx_65_33, rx_65_36, rx_65_37, rx_65_40, rx_65_41, rx_65_44, rx_65_45, cx_isSheet_y hk, cx_isNothing hk hL s1, q, if_true, pz_bind, pz_psh, pz_n10, if_false, pz_nlz_i, cx_renew hk, pz_psh0, pz_n00, ← eM1]
      · simp only [rx_129_0, rx_129_1, rx_129_4, rx_129_7, rx_129_8, rx_129_9, rx_129_10, rx_129_13, rx_129_14, rx_129_15, rx_129_17, rx_129_20, rx_129_21, rx_129_24, rx_129_25, rx_129_26, rx_129_27, rx_129_30, rx_129_31, rx_129_33, rx_129_34, rx_129_35, mx_isSheet_y hk, pz_bind, pz_psh, pz_n10, if_false, pz_ald_24 hk, s3b, if_true, pz_ast_24 hk, pz_nlz_i, ← eM2]
    · rw [if_neg q] at s3b
      refine ⟨pm_i (nI 1), M1, M2, ?_, ?_, _, _, hg2, hx2, hy2⟩
      · simp only [rx_65_0, rx_65_1, rx_65_4, rx_65_7, rx_65_8, rx_65_9, rx_65_10, rx_65_13, rx_65_14, rx_65_17, rx_65_20, rx_65_21, rx_65_24, rx_65_25, rx_65_26, rx_65_27, rx_65_30, rx_65_31, rx_65_32, rx_65_33, rx_65_36, rx_65_37, rx_65_40, rx_65_41, rx_65_44, rx_65_45, cx_isSheet_y hk, cx_isNothing hk hL s1, q, if_true, pz_bind, pz_psh, pz_n10, if_false, pz_nlz_i, cx_renew hk, pz_psh0, pz_n00, ← eM1]
      · simp only [rx_129_0, rx_129_1, rx_129_4, rx_129_7, rx_129_8, rx_129_9, rx_129_10, rx_129_13, rx_129_14, rx_129_15, rx_129_17, rx_129_20, rx_129_21, rx_129_24, rx_129_25, rx_129_26, rx_129_27, rx_129_30, rx_129_31, rx_129_33, rx_129_34, rx_129_35, mx_isSheet_y hk, pz_bind, pz_psh, pz_n10, if_false, pz_ald_24 hk, s3b, pz_m9 (show d 9 k - 1 < 1000 by omega), pz_ast_24 hk, pz_nlz_i, ← eM2]
