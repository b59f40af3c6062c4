/-! The class's small methods. -/
def sp_let (kd lm c : Nat) : Nat := if kd = 1 then min lm c - 1 else if kd = 2 then min (2 * min lm c) c else min lm c
theorem sp_let_le (kd lm c : Nat) : sp_let kd lm c ≤ c := by
  unfold sp_let
  split
  · omega
  · split <;> omega
/-- a land in the class's cells -/
def iv_L (M : pm_M) (F D : Nat) (nd hd kd lm rn : Nat → Nat) : Prop := M 2 0 = nI F ∧ M 2 1 = nI D ∧ (∀ f, f < F → M 13 f = nI (nd f)) ∧ (∀ f, f < F → M 14 f = nI (hd f)) ∧ (∀ p, p + 1 < F → M 15 p = nI (kd p)) ∧ (∀ p, p + 1 < F → M 16 p = nI (lm p)) ∧ (∀ d, d < D → M 17 d = nI (rn d))
/-- the numbers of a land are small -/
def iv_B (F D : Nat) (nd hd kd lm rn : Nat → Nat) : Prop := ((F = 0 ∧ D = 0) ∨ (2 ≤ F ∧ F ≤ 6 ∧ 1 ≤ D ∧ D ≤ 8)) ∧ (∀ f, nd f ≤ 9) ∧ (∀ f, hd f ≤ 9) ∧ (∀ p, kd p ≤ 2) ∧ (∀ p, lm p ≤ 9) ∧ (∀ d, rn d ≤ 9)
theorem cx_isIn {M : pm_M} {s f : Nat} (hs : s < 2147483648) (hf : f < 31) : pm_Rc pm_X0 42 (0, [some (pm_i (nI s)), some (pm_i (nI f))], [], M) = some (some (pm_i (nI (if s.testBit f = true then 1 else 0))), M) := by
  simp only [rx_42_0, rx_42_1, rx_42_2, rx_42_3, rx_42_4, rx_42_5, rx_42_6, rx_42_9, rx_42_10, rx_42_13, rx_42_14_0, rx_42_14_1, pz_bit hs hf]
  by_cases h : s.testBit f = true
  · simp only [h, if_true]
  · simp only [h, Bool.false_eq_true, if_false, pz_n01]
theorem cx_posts {M : pm_M} {F : Nat} (h : M 2 0 = nI F) (hF : F ≤ 6) : pm_Rc pm_X0 1 (0, [some (pm_r 2)], [], M) = some (some (pm_i (nI (F - 1))), M) := by
  simp only [rx_1_0, rx_1_1, rx_1_2, rx_1_5, rx_1_6, rx_1_7, rx_1_10, h]
  rw [pz_dec (by omega)]
theorem cx_hasPost {M : pm_M} {F p : Nat} (h : M 2 0 = nI F) (hF : F ≤ 6) (hp : p < 100) : pm_Rc pm_X0 3 (0, [some (pm_r 2), some (pm_i (nI p))], [], M) = some (some (pm_i (nI (if p + 1 < F then 1 else 0))), M) := by
  simp only [rx_3_0, rx_3_1, rx_3_4, rx_3_5, rx_3_6, rx_3_9, rx_3_12, rx_3_13, rx_3_16, rx_3_17_0, rx_3_17_1, cx_posts h hF, pz_bind, pz_psh, pz_lt0 (show p < 2147483648 by omega), if_false, pz_lt (show p < 2147483648 by omega) (show F - 1 < 2147483648 by omega)]
  by_cases h2 : p + 1 < F
  · rw [if_pos (show p < F - 1 by omega), if_pos h2]
  · rw [if_neg (show ¬ p < F - 1 by omega), if_neg h2]
theorem pz_min {a b : Nat} (ha : a < 2147483648) (hb : b < 2147483648) : (if nI b < nI a then nI b else nI a) = nI (min a b) := by
  simp only [pz_lt hb ha]
  by_cases h : b < a
  · rw [if_pos h, Nat.min_eq_right (by omega)]
  · rw [if_neg h, Nat.min_eq_left (by omega)]
theorem cx_letBy {M : pm_M} {p c kd lm : Nat} (hk : M 15 p = nI kd) (hl : M 16 p = nI lm) (hk2 : kd ≤ 2) (hl2 : lm ≤ 9) (hp : p < 5) (hc : c < 1000) : pm_Rc pm_X0 4 (0, [some (pm_r 2), some (pm_i (nI p)), some (pm_i (nI c)), none], [], M) = some (some (pm_i (nI (sp_let kd lm c))), M) := by
  simp only [rx_4_0, rx_4_1, rx_4_4, rx_4_5, rx_4_6, rx_4_7, rx_4_10, rx_4_11, rx_4_12, rx_4_15, rx_4_16, rx_4_17, rx_4_44, rx_4_45, rx_4_46, rx_4_47, rx_4_48, rx_4_51, rx_4_52, rx_4_53, rx_4_54, rx_4_55, rx_4_56, rx_4_59, rx_4_60, rx_4_61, pz_ald_16 hp, pz_ald_15 hp, pz_bind, hk, hl, pz_nlz_i, pz_nlz_r, pz_nlz_n]
  rw [pz_min (by omega) (by omega), pz_dec (by omega)]
  unfold sp_let
  rcases (show kd = 0 ∨ kd = 1 ∨ kd = 2 by omega) with rfl | rfl | rfl
  · rw [if_neg (by decide), if_neg (by decide)]
    rfl
  · rw [if_pos rfl]
    rfl
  · rw [if_neg (by decide), if_pos rfl, pk_mul, pz_min (by omega) (by omega)]
    rfl
def sp_on (F : Nat) (kd lm : Nat → Nat) (P C f c : Nat) : Nat := if f + 1 < F ∧ ¬ C.testBit f = true then (if P.testBit f = true then c else sp_let (kd f) (lm f) c) else 0
theorem sp_on_le (F : Nat) (kd lm : Nat → Nat) (P C f c : Nat) : sp_on F kd lm P C f c ≤ c := by
  unfold sp_on
  split
  · split
    · exact Nat.le_refl c
    · exact sp_let_le _ _ _
  · exact Nat.zero_le c
theorem cx_goesOn {M : pm_M} {F D f c P C : Nat} {nd hd kd lm rn : Nat → Nat} (hL : iv_L M F D nd hd kd lm rn) (hB : iv_B F D nd hd kd lm rn) (hf : f < 6) (hc : c < 1000) (hP : P < 2147483648) (hC : C < 2147483648) : pm_Rc pm_X0 8 (0, [some (pm_r 2), some (pm_i (nI f)), some (pm_i (nI c)), some (pm_i (nI P)), some (pm_i (nI C))], [], M) = some (some (pm_i (nI (sp_on F kd lm P C f c))), M) := by
  obtain ⟨h1, h2, h3, h4, h5, h6, h7⟩ := hL
  obtain ⟨b1, b2, b3, b4, b5, b6⟩ := hB
  have hF : F ≤ 6 := by omega
  unfold sp_on
  simp only [rx_8_0, rx_8_1, rx_8_2, rx_8_5, rx_8_8, rx_8_10, rx_8_11, rx_8_14, rx_8_17, rx_8_18, rx_8_19, rx_8_20, rx_8_21, rx_8_24, rx_8_27, rx_8_28, rx_8_31, rx_8_32, rx_8_33, rx_8_34, rx_8_37, cx_hasPost h1 hF (show f < 100 by omega), cx_isIn hC (show f < 31 by omega), cx_isIn hP (show f < 31 by omega), pz_bind, pz_psh]
  by_cases q1 : f + 1 < F <;> by_cases q2 : C.testBit f = true <;> by_cases q3 : P.testBit f = true <;> simp only [q1, q2, q3, if_true, if_false, not_true, not_false_eq_true, Bool.false_eq_true, true_and, false_and, and_true, and_false, pz_n10, pz_n00]
  · simp only [cx_letBy (h5 f q1) (h6 f q1) (b4 f) (b5 f) (show f < 5 by omega) hc, pz_bind, pz_psh, rx_8_0, rx_8_1, rx_8_2, rx_8_5, rx_8_8, rx_8_10, rx_8_11, rx_8_14, rx_8_17, rx_8_18, rx_8_19, rx_8_20, rx_8_21, rx_8_24, rx_8_27, rx_8_28, rx_8_31, rx_8_32, rx_8_33, rx_8_34, rx_8_37]
