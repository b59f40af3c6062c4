/-! texts: the class. -/
/-- what a place of a text asks of its code -/
def sp_wt (F p : Nat) : Nat := if p = 0 then 0 else if p = 1 then 1 else if p < 2 + 3 * F then (if (p - 2) % 3 = 0 then 2 else 3) else if p < 2 + 3 * F + 3 * (F - 1) then (if (p - (2 + 3 * F)) % 3 = 0 then 4 else if (p - (2 + 3 * F)) % 3 = 1 then 5 else 3) else if p = 2 + 3 * F + 3 * (F - 1) then 6 else if p < 2 + 3 * F + 3 * (F - 1) + 1 + 8 then 3 else 7
def sp_is (w : Nat) (x : Int32) : Prop := (w = 0 ∧ x = nI 118) ∨ (w = 1 ∧ ∃ v, 2 ≤ v ∧ v ≤ 6 ∧ x = nI (48 + v)) ∨ (w = 2 ∧ x = nI 44) ∨ (w = 3 ∧ ∃ v, v ≤ 9 ∧ x = nI (48 + v)) ∨ (w = 4 ∧ x = nI 45) ∨ (w = 5 ∧ (x = nI 99 ∨ x = nI 102 ∨ x = nI 112)) ∨ (w = 6 ∧ x = nI 59)
theorem sp_is_0 {x : Int32} : sp_is 0 x ↔ x = nI 118 := by simp [sp_is]
theorem sp_is_1 {x : Int32} : sp_is 1 x ↔ ∃ v, 2 ≤ v ∧ v ≤ 6 ∧ x = nI (48 + v) := by simp [sp_is]
theorem sp_is_2 {x : Int32} : sp_is 2 x ↔ x = nI 44 := by simp [sp_is]
theorem sp_is_3 {x : Int32} : sp_is 3 x ↔ ∃ v, v ≤ 9 ∧ x = nI (48 + v) := by simp [sp_is]
theorem sp_is_4 {x : Int32} : sp_is 4 x ↔ x = nI 45 := by simp [sp_is]
theorem sp_is_5 {x : Int32} : sp_is 5 x ↔ (x = nI 99 ∨ x = nI 102 ∨ x = nI 112) := by simp [sp_is]
theorem sp_is_6 {x : Int32} : sp_is 6 x ↔ x = nI 59 := by simp [sp_is]
theorem sp_is_7 {x : Int32} : ¬ sp_is 7 x := by simp [sp_is]
theorem pz_outN {v n : Nat} (hv : v < 2147483648) (hn : n < 2147483648) (h : pz_out (nI v) n) : n ≤ v := by
  rcases h with h | ⟨_, h⟩
  · exact absurd h (pz_lt0 hv)
  · rw [pz_lt hv hn] at h
    omega
theorem sp_of {x : Int32} {v : Nat} (h : x - nI 48 = nI v) : x = nI (48 + v) := by
  have h2 : x = x - nI 48 + nI 48 := (Int32.sub_add_cancel x (nI 48)).symm
  rw [h2, h, pz_add, Nat.add_comm]
theorem cx_isd {M : pm_M} (x : Int32) : ∃ b : Bool, (b = true ↔ sp_is 3 x) ∧ pm_Rc pm_X0 34 (0, [some (pm_i (x - nI 48))], [], M) = some (some (pm_i (nI (if b = true then 1 else 0))), M) := by
  rcases pz_any (x - nI 48) 10 (by omega) with ho | ⟨v, hv, ev⟩
  · refine ⟨false, ⟨fun h => (by cases h), fun h => ?_⟩, cx_isDigit_n ho⟩
    obtain ⟨v, hv, e⟩ := sp_is_3.mp h
    rw [e, pz_sub (by omega)] at ho
    have := pz_outN (by omega) (by omega) ho
    omega
  · refine ⟨true, ⟨fun _ => sp_is_3.mpr ⟨v, by omega, sp_of ev⟩, fun _ => rfl⟩, ?_⟩
    rw [ev]
    exact cx_isDigit_y (by omega)
theorem pz_n30 : (nI 3 = 0) = False := by simp [show ¬ (nI 3 = 0) by decide]
theorem pz_n09 : (nI 0 = -9) = False := by simp [show ¬ (nI 0 = -9) by decide]
theorem pz_n19 : (nI 1 = -9) = False := by simp [show ¬ (nI 1 = -9) by decide]
theorem pz_n29 : (nI 2 = -9) = False := by simp [show ¬ (nI 2 = -9) by decide]
theorem pz_k1 : (nI 102 = nI 99) = False := by simp [show ¬ (nI 102 = nI 99) by decide]
theorem pz_k2 : (nI 112 = nI 99) = False := by simp [show ¬ (nI 112 = nI 99) by decide]
theorem pz_k3 : (nI 112 = nI 102) = False := by simp [show ¬ (nI 112 = nI 102) by decide]
theorem cx_isk {M : pm_M} (x : Int32) : ∃ (b : Bool) (v : Int32), (b = true ↔ sp_is 5 x) ∧ (b = false → v = -9) ∧ (b = true → (v = -9) = False) ∧ pm_Rc pm_X0 26 (0, [some (pm_i x)], [], M) = some (some (pm_i v), M) := by
  by_cases q1 : x = nI 99
  · exact ⟨true, nI 1, ⟨fun _ => sp_is_5.mpr (Or.inl q1), fun _ => rfl⟩, fun h => (by cases h), fun _ => pz_n19, by simp only [rx_26_0, rx_26_1, rx_26_36, rx_26_37, rx_26_38, rx_26_39, rx_26_40, rx_26_41, rx_26_42, rx_26_44, q1, if_true]⟩
  · by_cases q2 : x = nI 102
    · exact ⟨true, nI 2, ⟨fun _ => sp_is_5.mpr (Or.inr (Or.inl q2)), fun _ => rfl⟩, fun h => (by cases h), fun _ => pz_n29, by simp only [rx_26_0, rx_26_1, rx_26_36, rx_26_37, rx_26_38, rx_26_39, rx_26_40, rx_26_41, rx_26_42, rx_26_44, q1, if_false, q2, if_true, pz_k1]⟩
    · by_cases q3 : x = nI 112
      · exact ⟨true, nI 0, ⟨fun _ => sp_is_5.mpr (Or.inr (Or.inr q3)), fun _ => rfl⟩, fun h => (by cases h), fun _ => pz_n09, by simp only [rx_26_0, rx_26_1, rx_26_36, rx_26_37, rx_26_38, rx_26_39, rx_26_40, rx_26_41, rx_26_42, rx_26_44, q1, if_false, q2, q3, if_true, pz_k2, pz_k3]⟩
      · refine ⟨false, -9, ⟨fun h => (by cases h), fun h => ?_⟩, fun _ => rfl, fun h => (by cases h), by simp only [rx_26_0, rx_26_1, rx_26_36, rx_26_37, rx_26_38, rx_26_39, rx_26_40, rx_26_41, rx_26_42, rx_26_44, q1, if_false, q2, q3]⟩
        rcases sp_is_5.mp h with h | h | h
        · exact absurd h q1
        · exact absurd h q2
        · exact absurd h q3
theorem cx_goes {M : pm_M} {F p : Nat} (hp : p < 60) (h1 : 2 ≤ p → M 5 1 = nI (48 + F) ∧ 2 ≤ F ∧ F ≤ 6) : ∃ b : Bool, (b = true ↔ sp_is (sp_wt F p) (M 5 p)) ∧ pm_Rc pm_X0 21 (0, [some (pm_r 5), some (pm_i (nI p)), none, none, none, none], [], M) = some (some (pm_i (nI (if b = true then 1 else 0))), M) := by
  by_cases p0 : p = 0
  · subst p0
    have hw : sp_wt F 0 = 0 := rfl
    rw [hw, sp_is_0]
    by_cases q : M 5 0 = nI 118
    · exact ⟨true, ⟨fun _ => q, fun _ => rfl⟩, by simp only [rx_21_0, rx_21_1, rx_21_2, rx_21_3, rx_21_4, rx_21_5, rx_21_8, rx_21_9, rx_21_11, rx_21_14, rx_21_15, rx_21_18, rx_21_19_0, rx_21_19_1, pz_ald_5 (show 0 < 60 by omega), pz_bind, pz_n00, if_true, q, pz_nlz_i]⟩
    · exact ⟨false, ⟨fun h => (by cases h), fun h => absurd h q⟩, by simp only [rx_21_0, rx_21_1, rx_21_2, rx_21_3, rx_21_4, rx_21_5, rx_21_8, rx_21_9, rx_21_11, rx_21_14, rx_21_15, rx_21_18, rx_21_19_0, rx_21_19_1, pz_ald_5 (show 0 < 60 by omega), pz_bind, pz_n00, if_true, q, if_false, pz_nlz_i, Bool.false_eq_true]⟩
  · by_cases p1 : p = 1
    · subst p1
      have hw : sp_wt F 1 = 1 := rfl
      rw [hw, sp_is_1]
      rcases pz_any (M 5 1) 55 (by omega) with ho | ⟨u, hu, e⟩
      · refine ⟨false, ⟨fun h => (by cases h), fun ⟨v, h2, h6, e⟩ => ?_⟩, ?_⟩
        · rw [e] at ho
          have := pz_outN (by omega) (by omega) ho
          omega
        · rcases ho with ho | ⟨ho, ho2⟩
          · have h50 : M 5 1 < nI 50 := by
              rw [Int32.lt_iff_toInt_lt] at ho ⊢
              rw [nI_toInt (by omega)]
              simp at ho
              omega
            simp only [rx_21_0, rx_21_1, rx_21_2, rx_21_3, rx_21_4, rx_21_5, rx_21_8, rx_21_9, rx_21_11, rx_21_14, rx_21_15, rx_21_18, rx_21_19_0, rx_21_19_1, rx_21_20, rx_21_21, rx_21_22, rx_21_25, rx_21_26, rx_21_28, rx_21_31, rx_21_32, rx_21_34, rx_21_37, rx_21_38, rx_21_41, rx_21_42_0, rx_21_42_1, pz_ald_5 (show 1 < 60 by omega), pz_bind, pz_n10, if_true, if_false, h50, pz_nlz_i, Bool.false_eq_true]
          · have h54 := pz_ge1 (n := 54) (by omega) ho2
            by_cases h50 : M 5 1 < nI 50
            · simp only [rx_21_0, rx_21_1, rx_21_2, rx_21_3, rx_21_4, rx_21_5, rx_21_8, rx_21_9, rx_21_11, rx_21_14, rx_21_15, rx_21_18, rx_21_19_0, rx_21_19_1, rx_21_20, rx_21_21, rx_21_22, rx_21_25, rx_21_26, rx_21_28, rx_21_31, rx_21_32, rx_21_34, rx_21_37, rx_21_38, rx_21_41, rx_21_42_0, rx_21_42_1, pz_ald_5 (show 1 < 60 by omega), pz_bind, pz_n10, if_true, if_false, h50, pz_nlz_i, Bool.false_eq_true]
            · simp only [rx_21_0, rx_21_1, rx_21_2, rx_21_3, rx_21_4, rx_21_5, rx_21_8, rx_21_9, rx_21_11, rx_21_14, rx_21_15, rx_21_18, rx_21_19_0, rx_21_19_1, rx_21_20, rx_21_21, rx_21_22, rx_21_25, rx_21_26, rx_21_28, rx_21_31, rx_21_32, rx_21_34, rx_21_37, rx_21_38, rx_21_41, rx_21_42_0, rx_21_42_1, pz_ald_5 (show 1 < 60 by omega), pz_bind, pz_n10, if_true, if_false, h50, h54, pz_nlz_i, Bool.false_eq_true]
      · by_cases h50 : u < 50
        · refine ⟨false, ⟨fun h => (by cases h), fun ⟨v, h2, h6, e2⟩ => ?_⟩, ?_⟩
          · rw [e, pz_eq (by omega) (by omega)] at e2
            omega
          · simp only [rx_21_0, rx_21_1, rx_21_2, rx_21_3, rx_21_4, rx_21_5, rx_21_8, rx_21_9, rx_21_11, rx_21_14, rx_21_15, rx_21_18, rx_21_19_0, rx_21_19_1, rx_21_20, rx_21_21, rx_21_22, rx_21_25, rx_21_26, rx_21_28, rx_21_31, rx_21_32, rx_21_34, rx_21_37, rx_21_38, rx_21_41, rx_21_42_0, rx_21_42_1, pz_ald_5 (show 1 < 60 by omega), pz_bind, pz_n10, if_true, if_false, e, pz_lt (show u < 2147483648 by omega) (show 50 < 2147483648 by omega), h50, pz_nlz_i, Bool.false_eq_true]
        · refine ⟨true, ⟨fun _ => ⟨u - 48, by omega, by omega, by rw [e, show 48 + (u - 48) = u by omega]⟩, fun _ => rfl⟩, ?_⟩
          simp only [rx_21_0, rx_21_1, rx_21_2, rx_21_3, rx_21_4, rx_21_5, rx_21_8, rx_21_9, rx_21_11, rx_21_14, rx_21_15, rx_21_18, rx_21_19_0, rx_21_19_1, rx_21_20, rx_21_21, rx_21_22, rx_21_25, rx_21_26, rx_21_28, rx_21_31, rx_21_32, rx_21_34, rx_21_37, rx_21_38, rx_21_41, rx_21_42_0, rx_21_42_1, pz_ald_5 (show 1 < 60 by omega), pz_bind, pz_n10, if_true, if_false, e, pz_lt (show u < 2147483648 by omega) (show 50 < 2147483648 by omega), h50, pz_lt (show 54 < 2147483648 by omega) (show u < 2147483648 by omega), show ¬ 54 < u by omega, pz_nlz_i]
    · obtain ⟨e1, f2, f6⟩ := h1 (by omega)
      have n0 : (nI p = 0) = False := by
        refine eq_false (fun h => ?_)
        rw [pz_eq0 (by omega)] at h
        exact p0 h
      have n1 : (nI p = nI 1) = False := by
        refine eq_false (fun h => ?_)
        rw [pz_eq (by omega) (by omega)] at h
        exact p1 h
      have hgo : pm_Rc pm_X0 21 (0, [some (pm_r 5), some (pm_i (nI p)), none, none, none, none], [], M) = pm_Rc pm_X0 21 (62, [some (pm_r 5), some (pm_i (nI p)), some (pm_i (M 5 p)), some (pm_i (nI F)), some (pm_i (nI (2 + 3 * F))), some (pm_i (nI (2 + 3 * F + 3 * (F - 1) + 1)))], [], M) := by
        simp only [rx_21_0, rx_21_1, rx_21_2, rx_21_3, rx_21_4, rx_21_5, rx_21_20, rx_21_21, rx_21_22, rx_21_43, rx_21_44, rx_21_45, rx_21_46, rx_21_49, rx_21_50, rx_21_51, rx_21_54, rx_21_56, rx_21_57, rx_21_60, rx_22_0, rx_22_1, rx_22_3, rx_22_4, rx_23_0, rx_23_1, rx_23_2, rx_23_3, rx_23_4, rx_23_5, rx_24_0, rx_24_1, rx_24_4, rx_24_5, rx_24_6, rx_24_7, rx_24_8, rx_24_9, rx_24_10, rx_24_11, rx_24_12, pz_ald_5 hp, pz_ald_5 (show 1 < 60 by omega), pz_bind, pz_psh, n0, n1, if_false, e1, pz_sub (show 48 ≤ 48 + F by omega), Nat.add_sub_cancel_left, pk_mul, pz_add, pz_sub (show 1 ≤ F by omega), pz_nlz_i, pz_nlz_n]
      rw [hgo]
      by_cases q1 : p < 2 + 3 * F
      · have hrem : nI (p - 2) - nI (p - 2) / nI 3 * nI 3 = nI ((p - 2) % 3) := pk_rem (by omega) (by omega) (by omega)
        by_cases q2 : (p - 2) % 3 = 0
        · have hw : sp_wt F p = 2 := by
            unfold sp_wt
            rw [if_neg p0, if_neg p1, if_pos q1, if_pos q2]
          rw [hw, sp_is_2]
          by_cases q3 : M 5 p = nI 44
          · refine ⟨true, ⟨fun _ => q3, fun _ => rfl⟩, ?_⟩
            simp only [rx_21_62, rx_21_63, rx_21_65, rx_21_68, rx_21_69, rx_21_70, rx_21_71, rx_21_72, rx_21_73, rx_21_76, rx_21_77, rx_21_79, rx_21_82, rx_21_83, rx_21_86, rx_21_87, rx_21_90, rx_21_91, rx_21_94, rx_21_97_0, rx_21_97_1, pz_lt (show p < 2147483648 by omega) (show 2 + 3 * F < 2147483648 by omega), q1, if_true, if_false, pz_n30, pz_sub (show 2 ≤ p by omega), hrem, q2, pz_n00, q3]
          · refine ⟨false, ⟨fun h => (by cases h), fun h => absurd h q3⟩, ?_⟩
            simp only [rx_21_62, rx_21_63, rx_21_65, rx_21_68, rx_21_69, rx_21_70, rx_21_71, rx_21_72, rx_21_73, rx_21_76, rx_21_77, rx_21_79, rx_21_82, rx_21_83, rx_21_86, rx_21_87, rx_21_90, rx_21_91, rx_21_94, rx_21_97_0, rx_21_97_1, pz_lt (show p < 2147483648 by omega) (show 2 + 3 * F < 2147483648 by omega), q1, if_true, if_false, pz_n30, pz_sub (show 2 ≤ p by omega), hrem, q2, pz_n00, q3, Bool.false_eq_true]
        · have hw : sp_wt F p = 3 := by
            unfold sp_wt
            rw [if_neg p0, if_neg p1, if_pos q1, if_neg q2]
          rw [hw]
          obtain ⟨b, b1, b2⟩ := cx_isd (M := M) (M 5 p)
          refine ⟨b, b1, ?_⟩
          cases b <;> simp only [rx_21_62, rx_21_63, rx_21_65, rx_21_68, rx_21_69, rx_21_70, rx_21_71, rx_21_72, rx_21_73, rx_21_76, rx_21_77, rx_21_79, rx_21_82, rx_21_83, rx_21_86, rx_21_87, rx_21_90, rx_21_91, rx_21_94, rx_21_97_0, rx_21_97_1, pz_lt (show p < 2147483648 by omega) (show 2 + 3 * F < 2147483648 by omega), q1, if_true, if_false, pz_n30, pz_sub (show 2 ≤ p by omega), hrem, q2, pz_eq0 (show (p - 2) % 3 < 2147483648 by omega), rx_22_0, rx_22_1, rx_22_3, rx_22_4, pz_bind, pz_psh, b2, if_true, if_false, Bool.false_eq_true]
      · by_cases q2 : p < 2 + 3 * F + 3 * (F - 1)
        · have hrem : nI (p - (2 + 3 * F)) - nI (p - (2 + 3 * F)) / nI 3 * nI 3 = nI ((p - (2 + 3 * F)) % 3) := pk_rem (by omega) (by omega) (by omega)
          have hgo2 : pm_Rc pm_X0 21 (62, [some (pm_r 5), some (pm_i (nI p)), some (pm_i (M 5 p)), some (pm_i (nI F)), some (pm_i (nI (2 + 3 * F))), some (pm_i (nI (2 + 3 * F + 3 * (F - 1) + 1)))], [], M) = pm_Rc pm_X0 21 (113, [some (pm_r 5), some (pm_i (nI p)), some (pm_i (M 5 p)), some (pm_i (nI F)), some (pm_i (nI (2 + 3 * F))), some (pm_i (nI (2 + 3 * F + 3 * (F - 1) + 1)))], [pm_i (nI ((p - (2 + 3 * F)) % 3)), pm_i (M 5 p)], M) := by
            simp only [rx_21_62, rx_21_63, rx_21_65, rx_21_98, rx_21_99, rx_21_101, rx_21_102, rx_21_103, rx_21_106, rx_21_107, rx_21_108, rx_21_110, rx_21_111, rx_21_112, pz_lt (show p < 2147483648 by omega) (show 2 + 3 * F < 2147483648 by omega), q1, if_true, if_false, pz_sub (show 1 ≤ 2 + 3 * F + 3 * (F - 1) + 1 by omega), Nat.add_sub_cancel, pz_lt (show p < 2147483648 by omega) (show 2 + 3 * F + 3 * (F - 1) < 2147483648 by omega), q2, pz_n30, pz_sub (show 2 + 3 * F ≤ p by omega), hrem]
          rw [hgo2]
          by_cases q3 : (p - (2 + 3 * F)) % 3 = 0
          · have hw : sp_wt F p = 4 := by
              unfold sp_wt
              rw [if_neg p0, if_neg p1, if_neg q1, if_pos q2, if_pos q3]
            rw [hw, sp_is_4]
            by_cases q4 : M 5 p = nI 45
            · refine ⟨true, ⟨fun _ => q4, fun _ => rfl⟩, ?_⟩
              simp only [rx_21_113, rx_21_116_0, rx_21_116_1, rx_25_0, rx_25_1, rx_25_4, rx_25_5, rx_25_7, rx_25_10, rx_25_11, rx_25_14, rx_25_15_0, rx_25_15_1, rx_25_16, rx_25_17, rx_25_18, rx_25_21, rx_25_22, rx_25_25, rx_25_27, rx_25_30, rx_25_31, rx_25_34, rx_25_35, rx_25_38, rx_25_39, rx_25_42, rx_25_45_0, rx_25_45_1, q3, pz_n00, if_true, q4, pz_bind, pz_psh]
            · refine ⟨false, ⟨fun h => (by cases h), fun h => absurd h q4⟩, ?_⟩
              simp only [rx_21_113, rx_21_116_0, rx_21_116_1, rx_25_0, rx_25_1, rx_25_4, rx_25_5, rx_25_7, rx_25_10, rx_25_11, rx_25_14, rx_25_15_0, rx_25_15_1, rx_25_16, rx_25_17, rx_25_18, rx_25_21, rx_25_22, rx_25_25, rx_25_27, rx_25_30, rx_25_31, rx_25_34, rx_25_35, rx_25_38, rx_25_39, rx_25_42, rx_25_45_0, rx_25_45_1, q3, pz_n00, if_true, if_false, q4, pz_bind, pz_psh, Bool.false_eq_true]
          · by_cases q4 : (p - (2 + 3 * F)) % 3 = 1
            · have hw : sp_wt F p = 5 := by
                unfold sp_wt
                rw [if_neg p0, if_neg p1, if_neg q1, if_pos q2, if_neg q3, if_pos q4]
              rw [hw]
              obtain ⟨b, v, b1, b2, b3, b4⟩ := cx_isk (M := M) (M 5 p)
              refine ⟨b, b1, ?_⟩
              cases b with
              | true => simp only [rx_21_113, rx_21_116_0, rx_21_116_1, rx_25_0, rx_25_1, rx_25_4, rx_25_5, rx_25_7, rx_25_10, rx_25_11, rx_25_14, rx_25_15_0, rx_25_15_1, rx_25_16, rx_25_17, rx_25_18, rx_25_21, rx_25_22, rx_25_25, rx_25_27, rx_25_30, rx_25_31, rx_25_34, rx_25_35, rx_25_38, rx_25_39, rx_25_42, rx_25_45_0, rx_25_45_1, q4, pz_n10, if_true, if_false, b4, b3 rfl, pz_bind, pz_psh]
              | false => simp only [rx_21_113, rx_21_116_0, rx_21_116_1, rx_25_0, rx_25_1, rx_25_4, rx_25_5, rx_25_7, rx_25_10, rx_25_11, rx_25_14, rx_25_15_0, rx_25_15_1, rx_25_16, rx_25_17, rx_25_18, rx_25_21, rx_25_22, rx_25_25, rx_25_27, rx_25_30, rx_25_31, rx_25_34, rx_25_35, rx_25_38, rx_25_39, rx_25_42, rx_25_45_0, rx_25_45_1, q4, pz_n10, if_true, if_false, b4, b2 rfl, pz_bind, pz_psh, Bool.false_eq_true]
            · have hw : sp_wt F p = 3 := by
                unfold sp_wt
                rw [if_neg p0, if_neg p1, if_neg q1, if_pos q2, if_neg q3, if_neg q4]
              rw [hw]
              obtain ⟨b, b1, b2⟩ := cx_isd (M := M) (M 5 p)
              refine ⟨b, b1, ?_⟩
              cases b <;> simp only [rx_21_113, rx_21_116_0, rx_21_116_1, rx_25_0, rx_25_1, rx_25_4, rx_25_5, rx_25_7, rx_25_10, rx_25_11, rx_25_14, rx_25_15_0, rx_25_15_1, rx_25_16, rx_25_17, rx_25_18, rx_25_21, rx_25_22, rx_25_25, rx_25_27, rx_25_30, rx_25_31, rx_25_34, rx_25_35, rx_25_38, rx_25_39, rx_25_42, rx_25_45_0, rx_25_45_1, rx_22_0, rx_22_1, rx_22_3, rx_22_4, q3, q4, pz_eq0 (show (p - (2 + 3 * F)) % 3 < 2147483648 by omega), pz_eq (show (p - (2 + 3 * F)) % 3 < 2147483648 by omega) (show 1 < 2147483648 by omega), if_true, if_false, b2, pz_bind, pz_psh, Bool.false_eq_true]
        · have hgo2 : pm_Rc pm_X0 21 (62, [some (pm_r 5), some (pm_i (nI p)), some (pm_i (M 5 p)), some (pm_i (nI F)), some (pm_i (nI (2 + 3 * F))), some (pm_i (nI (2 + 3 * F + 3 * (F - 1) + 1)))], [], M) = pm_Rc pm_X0 21 (122, [some (pm_r 5), some (pm_i (nI p)), some (pm_i (M 5 p)), some (pm_i (nI F)), some (pm_i (nI (2 + 3 * F))), some (pm_i (nI (2 + 3 * F + 3 * (F - 1) + 1)))], [pm_i (nI (2 + 3 * F + 3 * (F - 1))), pm_i (nI p)], M) := by
            simp only [rx_21_62, rx_21_63, rx_21_65, rx_21_98, rx_21_99, rx_21_101, rx_21_102, rx_21_103, rx_21_117, rx_21_118, rx_21_120, rx_21_121, pz_lt (show p < 2147483648 by omega) (show 2 + 3 * F < 2147483648 by omega), q1, if_false, pz_sub (show 1 ≤ 2 + 3 * F + 3 * (F - 1) + 1 by omega), Nat.add_sub_cancel, pz_lt (show p < 2147483648 by omega) (show 2 + 3 * F + 3 * (F - 1) < 2147483648 by omega), q2]
          rw [hgo2]
          by_cases q3 : p = 2 + 3 * F + 3 * (F - 1)
          · have hw : sp_wt F p = 6 := by
              unfold sp_wt
              rw [if_neg p0, if_neg p1, if_neg q1, if_neg q2, if_pos q3]
            rw [hw, sp_is_6]
            have q3e : (nI p = nI (2 + 3 * F + 3 * (F - 1))) = True := by
              rw [← q3]
              exact eq_self _
            by_cases q4 : M 5 p = nI 59
            · refine ⟨true, ⟨fun _ => q4, fun _ => rfl⟩, ?_⟩
              simp only [rx_21_122, rx_21_125, rx_21_126, rx_21_128, rx_21_131, rx_21_132, rx_21_135, rx_21_136_0, rx_21_136_1, q3e, if_true, q4]
            · refine ⟨false, ⟨fun h => (by cases h), fun h => absurd h q4⟩, ?_⟩
              simp only [rx_21_122, rx_21_125, rx_21_126, rx_21_128, rx_21_131, rx_21_132, rx_21_135, rx_21_136_0, rx_21_136_1, q3e, if_true, if_false, q4, Bool.false_eq_true]
          · have q3e : (nI p = nI (2 + 3 * F + 3 * (F - 1))) = False := by
              rw [pz_eq (by omega) (by omega)]
              exact eq_false q3
            by_cases q4 : p < 2 + 3 * F + 3 * (F - 1) + 1 + 8
            · have hw : sp_wt F p = 3 := by
                unfold sp_wt
                rw [if_neg p0, if_neg p1, if_neg q1, if_neg q2, if_neg q3, if_pos q4]
              rw [hw]
              obtain ⟨b, b1, b2⟩ := cx_isd (M := M) (M 5 p)
              refine ⟨b, b1, ?_⟩
              cases b with
              | true => simp only [rx_21_122, rx_21_125, rx_21_126, rx_21_128, rx_21_131, rx_21_132, rx_21_135, rx_21_136_0, rx_21_136_1, rx_21_137, rx_21_138, rx_21_140, rx_21_142, rx_21_143, rx_21_146, rx_21_147, rx_21_150, rx_21_153, rx_21_156, rx_21_157, rx_21_160, rx_21_161_0, rx_21_161_1, rx_22_0, rx_22_1, rx_22_3, rx_22_4, q3e, if_false, pz_add, pz_lt (show p < 2147483648 by omega) (show 2 + 3 * F + 3 * (F - 1) + 1 + 8 < 2147483648 by omega), q4, if_true, b2, pz_bind, pz_psh, pz_n10]
              | false => simp only [rx_21_122, rx_21_125, rx_21_126, rx_21_128, rx_21_131, rx_21_132, rx_21_135, rx_21_136_0, rx_21_136_1, rx_21_137, rx_21_138, rx_21_140, rx_21_142, rx_21_143, rx_21_146, rx_21_147, rx_21_150, rx_21_153, rx_21_156, rx_21_157, rx_21_160, rx_21_161_0, rx_21_161_1, rx_22_0, rx_22_1, rx_22_3, rx_22_4, q3e, if_false, pz_add, pz_lt (show p < 2147483648 by omega) (show 2 + 3 * F + 3 * (F - 1) + 1 + 8 < 2147483648 by omega), q4, if_true, b2, pz_bind, pz_psh, pz_n00, Bool.false_eq_true]
            · have hw : sp_wt F p = 7 := by
                unfold sp_wt
                rw [if_neg p0, if_neg p1, if_neg q1, if_neg q2, if_neg q3, if_neg q4]
              rw [hw]
              refine ⟨false, ⟨fun h => (by cases h), fun h => absurd h sp_is_7⟩, ?_⟩
              simp only [rx_21_122, rx_21_125, rx_21_126, rx_21_128, rx_21_131, rx_21_132, rx_21_135, rx_21_136_0, rx_21_136_1, rx_21_137, rx_21_138, rx_21_140, rx_21_142, rx_21_143, rx_21_146, rx_21_147, rx_21_150, rx_21_153, rx_21_156, rx_21_157, rx_21_160, rx_21_161_0, rx_21_161_1, q3e, if_false, pz_add, pz_lt (show p < 2147483648 by omega) (show 2 + 3 * F + 3 * (F - 1) + 1 + 8 < 2147483648 by omega), q4, Bool.false_eq_true]
theorem cx_first_l {M : pm_M} {F n p0 : Nat} (hn : n ≤ 60) (hp : p0 ≤ n) (hgo : ∀ u, u < p0 → sp_is (sp_wt F u) (M 5 u)) (hF : 2 ≤ p0 → M 5 1 = nI (48 + F) ∧ 2 ≤ F ∧ F ≤ 6) : ∀ (dd t : Nat), t + dd = p0 → pm_Rc pm_X0 20 (2, [some (pm_r 5), some (pm_i (nI n)), some (pm_i (nI t))], [], M) = pm_Rc pm_X0 20 (2, [some (pm_r 5), some (pm_i (nI n)), some (pm_i (nI p0))], [], M) := by
  intro dd
  induction dd with
  | zero =>
    intro t ht
    rw [show t = p0 by omega]
  | succ dd ih =>
    intro t ht
    obtain ⟨b, b1, b2⟩ := cx_goes (M := M) (F := F) (p := t) (by omega) (fun h => hF (by omega))
    have hb : b = true := b1.mpr (hgo t (by omega))
    subst hb
    rw [← ih (t + 1) (by omega), rx_20_2]
    simp only [rx_20_3, rx_20_4, rx_20_7, rx_20_8, rx_20_9, rx_20_12, rx_20_15, rx_20_16, rx_20_17, rx_20_20, pz_lt (show t < 2147483648 by omega) (show n < 2147483648 by omega), show t < n by omega, if_true, b2, pz_bind, pz_psh, pz_n10, if_false, pz_add, pz_nlz_i]
theorem cx_first_f {M : pm_M} {F n p0 : Nat} (hn : n ≤ 60) (hp : p0 ≤ n) (hgo : ∀ u, u < p0 → sp_is (sp_wt F u) (M 5 u)) (hF : 2 ≤ p0 → M 5 1 = nI (48 + F) ∧ 2 ≤ F ∧ F ≤ 6) (hno : (p0 < n ∧ ¬ sp_is (sp_wt F p0) (M 5 p0)) ∨ (p0 = n ∧ (n < 2 ∨ n ≤ 2 + 3 * F + 3 * (F - 1) + 1))) : pm_Rc pm_X0 20 (0, [some (pm_r 5), some (pm_i (nI n)), none], [], M) = some (some (pm_i (nI p0)), M) := by
  have h9 := cx_first_l hn hp hgo hF p0 0 (by omega)
  simp only [rx_20_0, rx_20_1, pz_nlz_i]
  rw [h9]
  rcases hno with ⟨hlt, hno⟩ | ⟨rfl, hend⟩
  · obtain ⟨b, b1, b2⟩ := cx_goes (M := M) (F := F) (p := p0) (by omega) hF
    have hb : b = false := by
      cases b with
      | true => exact absurd (b1.mp rfl) hno
      | false => rfl
    subst hb
    rw [rx_20_2]
    simp only [rx_20_3, rx_20_4, rx_20_7, rx_20_8, rx_20_9, rx_20_12, rx_20_15, rx_20_16, rx_20_17, rx_20_20, pz_lt (show p0 < 2147483648 by omega) (show n < 2147483648 by omega), hlt, if_true, b2, pz_bind, pz_psh, pz_n00, Bool.false_eq_true, if_false]
  · rw [rx_20_2]
    by_cases q : p0 < 2
    · simp only [rx_20_3, rx_20_4, rx_20_7, rx_20_8, rx_20_9, rx_20_12, rx_20_15, rx_20_16, rx_20_17, rx_20_20, rx_20_23, rx_20_24, rx_20_25, rx_20_28, rx_20_29, rx_20_30, rx_20_31, rx_20_32, rx_20_35, rx_20_38, rx_20_41, rx_20_42, rx_20_45, rx_20_46, rx_20_47, rx_20_48, rx_20_51, rx_20_52, rx_20_55, rx_20_57, pz_lt (show p0 < 2147483648 by omega) (show p0 < 2147483648 by omega), Nat.lt_irrefl, if_false, pz_lt (show p0 < 2147483648 by omega) (show 2 < 2147483648 by omega), q, if_true, pz_n10, pz_nlz_i]
    · obtain ⟨e1, f2, f6⟩ := hF (by omega)
      have q2 : ¬ 2 + 3 * F + 3 * (F - 1) + 1 < p0 := by omega
      simp only [rx_20_3, rx_20_4, rx_20_7, rx_20_8, rx_20_9, rx_20_12, rx_20_15, rx_20_16, rx_20_17, rx_20_20, rx_20_23, rx_20_24, rx_20_25, rx_20_28, rx_20_29, rx_20_30, rx_20_31, rx_20_32, rx_20_35, rx_20_38, rx_20_41, rx_20_42, rx_20_45, rx_20_46, rx_20_47, rx_20_48, rx_20_51, rx_20_52, rx_20_55, rx_20_57, rx_22_0, rx_22_1, rx_22_3, rx_22_4, rx_23_0, rx_23_1, rx_23_2, rx_23_3, rx_23_4, rx_23_5, rx_24_0, rx_24_1, rx_24_4, rx_24_5, rx_24_6, rx_24_7, rx_24_8, rx_24_9, rx_24_10, rx_24_11, rx_24_12, pz_ald_5 (show 1 < 60 by omega), e1, pz_sub (show 48 ≤ 48 + F by omega), Nat.add_sub_cancel_left, pk_mul, pz_add, pz_sub (show 1 ≤ F by omega), pz_bind, pz_psh, pz_lt (show p0 < 2147483648 by omega) (show p0 < 2147483648 by omega), Nat.lt_irrefl, if_false, pz_lt (show p0 < 2147483648 by omega) (show 2 < 2147483648 by omega), q, pz_lt (show 2 + 3 * F + 3 * (F - 1) + 1 < 2147483648 by omega) (show p0 < 2147483648 by omega), q2, if_true, pz_n10, pz_nlz_i]
theorem cx_first_ok {M : pm_M} {F n : Nat} (hn : n ≤ 60) (hgo : ∀ u, u < n → sp_is (sp_wt F u) (M 5 u)) (hF : M 5 1 = nI (48 + F) ∧ 2 ≤ F ∧ F ≤ 6) (hend : 2 + 3 * F + 3 * (F - 1) + 1 < n) : pm_Rc pm_X0 20 (0, [some (pm_r 5), some (pm_i (nI n)), none], [], M) = some (some (pm_i (-9)), M) := by
  have h9 := cx_first_l hn (Nat.le_refl n) hgo (fun _ => hF) n 0 (by omega)
  simp only [rx_20_0, rx_20_1, pz_nlz_i]
  rw [h9, rx_20_2]
  obtain ⟨e1, f2, f6⟩ := hF
  simp only [rx_20_3, rx_20_4, rx_20_7, rx_20_8, rx_20_9, rx_20_12, rx_20_15, rx_20_16, rx_20_17, rx_20_20, rx_20_23, rx_20_24, rx_20_25, rx_20_28, rx_20_29, rx_20_30, rx_20_31, rx_20_32, rx_20_35, rx_20_38, rx_20_41, rx_20_42, rx_20_45, rx_20_46, rx_20_47, rx_20_48, rx_20_51, rx_20_52, rx_20_55, rx_20_57, rx_22_0, rx_22_1, rx_22_3, rx_22_4, rx_23_0, rx_23_1, rx_23_2, rx_23_3, rx_23_4, rx_23_5, rx_24_0, rx_24_1, rx_24_4, rx_24_5, rx_24_6, rx_24_7, rx_24_8, rx_24_9, rx_24_10, rx_24_11, rx_24_12, pz_ald_5 (show 1 < 60 by omega), e1, pz_sub (show 48 ≤ 48 + F by omega), Nat.add_sub_cancel_left, pk_mul, pz_add, pz_sub (show 1 ≤ F by omega), pz_bind, pz_psh, pz_lt (show n < 2147483648 by omega) (show n < 2147483648 by omega), Nat.lt_irrefl, if_false, pz_lt (show n < 2147483648 by omega) (show 2 < 2147483648 by omega), show ¬ n < 2 by omega, pz_lt (show 2 + 3 * F + 3 * (F - 1) + 1 < 2147483648 by omega) (show n < 2147483648 by omega), hend, if_true, pz_n00, pz_nlz_i]
