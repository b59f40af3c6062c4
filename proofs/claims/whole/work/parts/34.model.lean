/-! The reference's land and days. -/
def iv_N (M : pm_M) (F D : Nat) (nd hd kd lm rn : Nat → Nat) : Prop := M 23 5 = nI F ∧ M 23 6 = nI D ∧ (∀ f, f < F → M 27 f = nI (nd f)) ∧ (∀ f, f < F → M 28 f = nI (hd f)) ∧ (∀ p, p + 1 < F → M 29 p = nI (kd p)) ∧ (∀ p, p + 1 < F → M 30 p = nI (lm p)) ∧ (∀ d, d < D → M 31 d = nI (rn d))
theorem mx_letsBy {M : pm_M} {p c kd lm : Nat} (hk : M 29 p = nI kd) (hl : M 30 p = nI lm) (hk2 : kd ≤ 2) (hl2 : lm ≤ 9) (hp : p < 5) (hc : c < 1000) : pm_Rc pm_X0 97 (0, [some (pm_r 23), some (pm_i (nI p)), some (pm_i (nI c)), none], [], M) = some (some (pm_i (nI (sp_let kd lm c))), M) := by
  unfold sp_let
  by_cases q1 : lm < c
  · rw [Nat.min_eq_left (by omega)]
    rcases (show kd = 0 ∨ kd = 1 ∨ kd = 2 by omega) with rfl | rfl | rfl
    · simp only [rx_97_0, rx_97_1, rx_97_4, rx_97_5, rx_97_6, rx_97_7, rx_97_10, rx_97_11, rx_97_14, rx_97_15, rx_97_16, rx_97_19, rx_97_20, rx_97_21, rx_97_22, rx_97_25, rx_97_26, rx_97_27, rx_97_28, rx_97_31, rx_97_32, rx_97_35, rx_97_36, rx_97_37, rx_97_38, rx_97_41, rx_97_42, rx_97_43, rx_97_44, rx_97_47, rx_97_48, rx_97_49, rx_97_52, rx_97_53, rx_97_56, rx_97_57, rx_97_58, rx_97_59, rx_97_60, rx_97_63, rx_97_64, rx_97_65, rx_97_66, rx_97_69, rx_97_70, pz_ald_30 hp, pz_ald_29 hp, pz_bind, hk, hl, pz_lt (show lm < 2147483648 by omega) (show c < 2147483648 by omega), q1, if_true, if_false, pz_n01, pz_n00, pz_nlz_i]
      rfl
    · cases lm with
      | zero =>
        simp only [rx_97_0, rx_97_1, rx_97_4, rx_97_5, rx_97_6, rx_97_7, rx_97_10, rx_97_11, rx_97_14, rx_97_15, rx_97_16, rx_97_19, rx_97_20, rx_97_21, rx_97_22, rx_97_25, rx_97_26, rx_97_27, rx_97_28, rx_97_31, rx_97_32, rx_97_35, rx_97_36, rx_97_37, rx_97_38, rx_97_41, rx_97_42, rx_97_43, rx_97_44, rx_97_47, rx_97_48, rx_97_49, rx_97_52, rx_97_53, rx_97_56, rx_97_57, rx_97_58, rx_97_59, rx_97_60, rx_97_63, rx_97_64, rx_97_65, rx_97_66, rx_97_69, rx_97_70, pz_ald_30 hp, pz_ald_29 hp, pz_bind, hk, hl, pz_lt (show 0 < 2147483648 by omega) (show c < 2147483648 by omega), q1, if_true, if_false, pz_0lt (show 0 < 2147483648 by omega), Nat.lt_irrefl, pz_nlz_i]
      | succ lm =>
        simp only [rx_97_0, rx_97_1, rx_97_4, rx_97_5, rx_97_6, rx_97_7, rx_97_10, rx_97_11, rx_97_14, rx_97_15, rx_97_16, rx_97_19, rx_97_20, rx_97_21, rx_97_22, rx_97_25, rx_97_26, rx_97_27, rx_97_28, rx_97_31, rx_97_32, rx_97_35, rx_97_36, rx_97_37, rx_97_38, rx_97_41, rx_97_42, rx_97_43, rx_97_44, rx_97_47, rx_97_48, rx_97_49, rx_97_52, rx_97_53, rx_97_56, rx_97_57, rx_97_58, rx_97_59, rx_97_60, rx_97_63, rx_97_64, rx_97_65, rx_97_66, rx_97_69, rx_97_70, pz_ald_30 hp, pz_ald_29 hp, pz_bind, hk, hl, pz_lt (show lm + 1 < 2147483648 by omega) (show c < 2147483648 by omega), q1, if_true, if_false, pz_0lt (show lm + 1 < 2147483648 by omega), Nat.succ_pos, pz_sub (show 1 ≤ lm + 1 by omega), pz_nlz_i]
    · by_cases q2 : 2 * lm < c
      · rw [Nat.min_eq_left (by omega)]
        simp only [rx_97_0, rx_97_1, rx_97_4, rx_97_5, rx_97_6, rx_97_7, rx_97_10, rx_97_11, rx_97_14, rx_97_15, rx_97_16, rx_97_19, rx_97_20, rx_97_21, rx_97_22, rx_97_25, rx_97_26, rx_97_27, rx_97_28, rx_97_31, rx_97_32, rx_97_35, rx_97_36, rx_97_37, rx_97_38, rx_97_41, rx_97_42, rx_97_43, rx_97_44, rx_97_47, rx_97_48, rx_97_49, rx_97_52, rx_97_53, rx_97_56, rx_97_57, rx_97_58, rx_97_59, rx_97_60, rx_97_63, rx_97_64, rx_97_65, rx_97_66, rx_97_69, rx_97_70, pz_ald_30 hp, pz_ald_29 hp, pz_bind, hk, hl, pz_lt (show lm < 2147483648 by omega) (show c < 2147483648 by omega), q1, if_true, if_false, pz_eq (show 2 < 2147483648 by omega) (show 1 < 2147483648 by omega), pz_eq0 (show 2 < 2147483648 by omega), pk_mul, pz_lt (show 2 * lm < 2147483648 by omega) (show c < 2147483648 by omega), q2, pz_nlz_i, show ¬ (2 = 1) by decide, show ¬ (2 = 0) by decide]
      · rw [Nat.min_eq_right (by omega)]
        simp only [rx_97_0, rx_97_1, rx_97_4, rx_97_5, rx_97_6, rx_97_7, rx_97_10, rx_97_11, rx_97_14, rx_97_15, rx_97_16, rx_97_19, rx_97_20, rx_97_21, rx_97_22, rx_97_25, rx_97_26, rx_97_27, rx_97_28, rx_97_31, rx_97_32, rx_97_35, rx_97_36, rx_97_37, rx_97_38, rx_97_41, rx_97_42, rx_97_43, rx_97_44, rx_97_47, rx_97_48, rx_97_49, rx_97_52, rx_97_53, rx_97_56, rx_97_57, rx_97_58, rx_97_59, rx_97_60, rx_97_63, rx_97_64, rx_97_65, rx_97_66, rx_97_69, rx_97_70, pz_ald_30 hp, pz_ald_29 hp, pz_bind, hk, hl, pz_lt (show lm < 2147483648 by omega) (show c < 2147483648 by omega), q1, if_true, if_false, pz_eq (show 2 < 2147483648 by omega) (show 1 < 2147483648 by omega), pz_eq0 (show 2 < 2147483648 by omega), pk_mul, pz_lt (show 2 * lm < 2147483648 by omega) (show c < 2147483648 by omega), q2, pz_nlz_i, show ¬ (2 = 1) by decide, show ¬ (2 = 0) by decide]
  · rw [Nat.min_eq_right (by omega)]
    rcases (show kd = 0 ∨ kd = 1 ∨ kd = 2 by omega) with rfl | rfl | rfl
    · simp only [rx_97_0, rx_97_1, rx_97_4, rx_97_5, rx_97_6, rx_97_7, rx_97_10, rx_97_11, rx_97_14, rx_97_15, rx_97_16, rx_97_19, rx_97_20, rx_97_21, rx_97_22, rx_97_25, rx_97_26, rx_97_27, rx_97_28, rx_97_31, rx_97_32, rx_97_35, rx_97_36, rx_97_37, rx_97_38, rx_97_41, rx_97_42, rx_97_43, rx_97_44, rx_97_47, rx_97_48, rx_97_49, rx_97_52, rx_97_53, rx_97_56, rx_97_57, rx_97_58, rx_97_59, rx_97_60, rx_97_63, rx_97_64, rx_97_65, rx_97_66, rx_97_69, rx_97_70, pz_ald_30 hp, pz_ald_29 hp, pz_bind, hk, hl, pz_lt (show lm < 2147483648 by omega) (show c < 2147483648 by omega), q1, if_true, if_false, pz_n01, pz_n00, pz_nlz_i]
      rfl
    · cases c with
      | zero =>
        simp only [rx_97_0, rx_97_1, rx_97_4, rx_97_5, rx_97_6, rx_97_7, rx_97_10, rx_97_11, rx_97_14, rx_97_15, rx_97_16, rx_97_19, rx_97_20, rx_97_21, rx_97_22, rx_97_25, rx_97_26, rx_97_27, rx_97_28, rx_97_31, rx_97_32, rx_97_35, rx_97_36, rx_97_37, rx_97_38, rx_97_41, rx_97_42, rx_97_43, rx_97_44, rx_97_47, rx_97_48, rx_97_49, rx_97_52, rx_97_53, rx_97_56, rx_97_57, rx_97_58, rx_97_59, rx_97_60, rx_97_63, rx_97_64, rx_97_65, rx_97_66, rx_97_69, rx_97_70, pz_ald_30 hp, pz_ald_29 hp, pz_bind, hk, hl, pz_lt (show lm < 2147483648 by omega) (show 0 < 2147483648 by omega), q1, if_true, if_false, pz_0lt (show 0 < 2147483648 by omega), Nat.lt_irrefl, pz_nlz_i]
      | succ c =>
        simp only [rx_97_0, rx_97_1, rx_97_4, rx_97_5, rx_97_6, rx_97_7, rx_97_10, rx_97_11, rx_97_14, rx_97_15, rx_97_16, rx_97_19, rx_97_20, rx_97_21, rx_97_22, rx_97_25, rx_97_26, rx_97_27, rx_97_28, rx_97_31, rx_97_32, rx_97_35, rx_97_36, rx_97_37, rx_97_38, rx_97_41, rx_97_42, rx_97_43, rx_97_44, rx_97_47, rx_97_48, rx_97_49, rx_97_52, rx_97_53, rx_97_56, rx_97_57, rx_97_58, rx_97_59, rx_97_60, rx_97_63, rx_97_64, rx_97_65, rx_97_66, rx_97_69, rx_97_70, pz_ald_30 hp, pz_ald_29 hp, pz_bind, hk, hl, pz_lt (show lm < 2147483648 by omega) (show c + 1 < 2147483648 by omega), q1, if_true, if_false, pz_0lt (show c + 1 < 2147483648 by omega), Nat.succ_pos, pz_sub (show 1 ≤ c + 1 by omega), pz_nlz_i]
    · by_cases q2 : 2 * c < c
      · omega
      · rw [Nat.min_eq_right (by omega)]
        simp only [rx_97_0, rx_97_1, rx_97_4, rx_97_5, rx_97_6, rx_97_7, rx_97_10, rx_97_11, rx_97_14, rx_97_15, rx_97_16, rx_97_19, rx_97_20, rx_97_21, rx_97_22, rx_97_25, rx_97_26, rx_97_27, rx_97_28, rx_97_31, rx_97_32, rx_97_35, rx_97_36, rx_97_37, rx_97_38, rx_97_41, rx_97_42, rx_97_43, rx_97_44, rx_97_47, rx_97_48, rx_97_49, rx_97_52, rx_97_53, rx_97_56, rx_97_57, rx_97_58, rx_97_59, rx_97_60, rx_97_63, rx_97_64, rx_97_65, rx_97_66, rx_97_69, rx_97_70, pz_ald_30 hp, pz_ald_29 hp, pz_bind, hk, hl, pz_lt (show lm < 2147483648 by omega) (show c < 2147483648 by omega), q1, if_true, if_false, pz_eq (show 2 < 2147483648 by omega) (show 1 < 2147483648 by omega), pz_eq0 (show 2 < 2147483648 by omega), pk_mul, pz_lt (show 2 * c < 2147483648 by omega) (show c < 2147483648 by omega), q2, pz_nlz_i, show ¬ (2 = 1) by decide, show ¬ (2 = 0) by decide]
/-- the reference's goesOn, asked for a field with a post -/
theorem mx_goesOn {M : pm_M} {F D f c P C : Nat} {nd hd kd lm rn : Nat → Nat} (hL : iv_N M F D nd hd kd lm rn) (hB : iv_B F D nd hd kd lm rn) (hcl : M 23 25 = nI C) (hf : f + 1 < F) (hc : c < 1000) (hP : P < 2147483648) (hC : C < 2147483648) : pm_Rc pm_X0 105 (0, [some (pm_r 23), some (pm_i (nI f)), some (pm_i (nI c)), some (pm_i (nI P))], [], M) = some (some (pm_i (nI (sp_on F kd lm P C f c))), M) := by
  obtain ⟨h1, h2, h3, h4, h5, h6, h7⟩ := hL
  obtain ⟨b1, b2, b3, b4, b5, b6⟩ := hB
  have hF : F ≤ 6 := by omega
  have hl := mx_letsBy (h5 f hf) (h6 f hf) (b4 f) (b5 f) (by omega) hc
  unfold sp_on
  simp only [rx_105_0, rx_105_1, rx_105_4, rx_105_5, rx_105_6, rx_105_7, rx_105_8, rx_105_9, rx_105_12, rx_105_13, rx_105_14, rx_105_15, rx_105_16, rx_105_17, rx_105_18, rx_105_19, rx_105_20, rx_105_23, rx_105_24, rx_105_27, rx_105_28, rx_105_29, rx_105_30, rx_105_33, hcl, pz_bit hC (show f < 31 by omega), pz_bit hP (show f < 31 by omega), hl, pz_bind, pz_psh]
  by_cases q2 : C.testBit f = true <;> by_cases q3 : P.testBit f = true <;> simp only [hf, q2, q3, if_true, if_false, not_true, not_false_eq_true, Bool.false_eq_true, true_and, false_and, and_true, and_false, pz_n01]
def iv_Z (M : pm_M) (F : Nat) (w a : Nat → Nat) (s : sp_S) : Prop := (∀ g, g < F → M 37 g = nI (w g)) ∧ (∀ g, g < F → M 38 g = nI (a g)) ∧ M 23 22 = nI s.1 ∧ M 23 23 = s.2.2.1 ∧ M 23 24 = s.2.2.2
def fr_Z (M M2 : pm_M) : Prop := (∀ k, k ≠ 23 → k ≠ 37 → k ≠ 38 → M2 k = M k) ∧ (∀ j, j ≠ 22 → j ≠ 23 → j ≠ 24 → M2 23 j = M 23 j)
theorem fr_Z.refl {M : pm_M} : fr_Z M M := ⟨fun _ _ _ _ => rfl, fun _ _ _ _ => rfl⟩
theorem fr_Z.trans {M M2 M3 : pm_M} (h : fr_Z M M2) (h2 : fr_Z M2 M3) : fr_Z M M3 := ⟨fun k a b c => (h2.1 k a b c).trans (h.1 k a b c), fun j a b c => (h2.2 j a b c).trans (h.2 j a b c)⟩
theorem iv_N.fr {M M2 : pm_M} {F D : Nat} {nd hd kd lm rn : Nat → Nat} (h : iv_N M F D nd hd kd lm rn) (hf : fr_Z M M2) : iv_N M2 F D nd hd kd lm rn := by
  unfold iv_N at h ⊢
  rw [hf.2 5 (by decide) (by decide) (by decide), hf.2 6 (by decide) (by decide) (by decide), hf.1 27 (by decide) (by decide) (by decide), hf.1 28 (by decide) (by decide) (by decide), hf.1 29 (by decide) (by decide) (by decide), hf.1 30 (by decide) (by decide) (by decide), hf.1 31 (by decide) (by decide) (by decide)]
  exact h
/-- no first day while there is none -/
def sp_ok (s : sp_S) : Prop := (s.1 = 0 ∧ s.2.2.1 = -9) ∨ (s.1 ≠ 0 ∧ s.2.2.1 ≠ -9)
theorem pz_ne9 {t : Nat} (ht : t < 1000) : nI t ≠ -9 := by
  intro h
  have h2 : (nI t).toInt = (-9 : Int32).toInt := by rw [h]
  rw [nI_toInt (by omega)] at h2
  have h3 : (-9 : Int32).toInt = -9 := by decide
  omega
theorem sp_ok_stp {t f : Nat} {s : sp_S} (h : sp_ok s) (ht : t < 1000) : sp_ok (sp_stp t f s) := by
  refine Or.inr ⟨Nat.succ_ne_zero _, ?_⟩
  show (if s.1 = 0 then nI t else s.2.2.1) ≠ -9
  rcases h with ⟨h1, h2⟩ | ⟨h1, h2⟩
  · rw [if_pos h1]
    exact pz_ne9 ht
  · rw [if_neg h1]
    exact h2
theorem sp_ok_ff {ev : Nat → Bool} {t : Nat} {s : sp_S} (h : sp_ok s) (ht : t < 1000) : ∀ f, sp_ok (sp_ff ev t f s)
  | 0 => h
  | f + 1 => by
    unfold sp_ff
    split
    · exact sp_ok_stp (sp_ok_ff h ht f) ht
    · exact sp_ok_ff h ht f
theorem sp_ok_s (F : Nat) (hd kd lm rr pp : Nat → Nat) (C : Nat) : ∀ t, t < 1000 → sp_ok (sp_s F hd kd lm rr pp C t)
  | 0, _ => Or.inl ⟨rfl, rfl⟩
  | t + 1, h => sp_ok_ff (sp_ok_s F hd kd lm rr pp C t (by omega)) (by omega) F
theorem mx_falls {M : pm_M} {t f c wf af h : Nat} {s : sp_S} (q1 : M 37 f = nI wf) (q2 : M 38 f = nI af) (q3 : M 28 f = nI h) (h2 : M 23 22 = nI s.1) (h4 : M 23 23 = s.2.2.1) (h5 : M 23 24 = s.2.2.2) (hk : sp_ok s) (hf : f < 6) (hw : wf < 1000) (ha : af < 1000) (hc : c < 1000) (hh : h < 1000) :
    ∃ M2, pm_Rc pm_X0 106 (0, [some (pm_r 23), some (pm_i (nI f)), some (pm_i (nI c)), some (pm_i (nI t))], [], M) = some (none, M2) ∧ (∀ k, k ≠ 23 → M2 k = pm_up (pm_up M 37 f (nI (wf - 1 + c))) 38 f (nI (af + c)) k) ∧ (∀ j, j ≠ 22 → j ≠ 23 → j ≠ 24 → M2 23 j = M 23 j) ∧
      M2 23 22 = nI (if h < wf - 1 + c then sp_stp t f s else s).1 ∧ M2 23 23 = (if h < wf - 1 + c then sp_stp t f s else s).2.2.1 ∧ M2 23 24 = (if h < wf - 1 + c then sp_stp t f s else s).2.2.2 := by
  have e1 : (if 0 < wf then nI wf - nI 1 else nI 0) = nI (wf - 1) := by
    by_cases q : 0 < wf
    · rw [if_pos q, pz_sub (by omega)]
    · rw [if_neg q, show wf = 0 by omega]
  have e2 : pm_Rc pm_X0 106 (0, [some (pm_r 23), some (pm_i (nI f)), some (pm_i (nI c)), some (pm_i (nI t))], [], M) = pm_Rc pm_X0 106 (26, [some (pm_r 23), some (pm_i (nI f)), some (pm_i (nI c)), some (pm_i (nI t))], [pm_i (nI (wf - 1)), pm_i (nI f), pm_r 37], M) := by
    rw [← e1]
    simp only [rx_106_0, rx_106_1, rx_106_4, rx_106_5, rx_106_6, rx_106_9, rx_106_10, rx_106_11, rx_106_14, rx_106_15, rx_106_18, rx_106_19, rx_106_20, rx_106_21, rx_106_22, rx_106_25, pz_ald_37 hf, pz_bind, q1, pz_0lt (show wf < 2147483648 by omega)]
    by_cases q : 0 < wf <;> simp only [q, if_true, if_false]
  rw [e2]
  by_cases q : h < wf - 1 + c
  · rcases hk with ⟨k1, k2⟩ | ⟨k1, k2⟩
    · simp only [rx_106_26, rx_106_27, rx_106_28, rx_106_29, rx_106_30, rx_106_33, rx_106_34, rx_106_35, rx_106_36, rx_106_37, rx_106_38, rx_106_39, rx_106_40, rx_106_43, rx_106_44, rx_106_45, rx_106_46, rx_106_49, rx_106_50, rx_106_51, rx_106_54, rx_106_55, rx_106_56, rx_106_59, rx_106_60, rx_106_61, rx_106_64, rx_106_65, rx_106_66, rx_106_69, rx_106_71, rx_106_74, rx_106_75, rx_106_78, rx_106_79, rx_106_82, rx_106_85, rx_106_86, rx_106_87, rx_106_90, rx_106_92, rx_106_95, rx_106_96, rx_106_99, rx_106_100, rx_106_103, rx_106_106, pz_ast_37 hf, pz_ast_38 hf, pz_ald_37 hf, pz_ald_38 hf, pz_ald_28 hf, pz_bind, pz_add, pz_up_c (show (38 : Nat) ≠ 37 by decide), pz_up_c (show (37 : Nat) ≠ 38 by decide), pz_up_c (show (28 : Nat) ≠ 38 by decide), pz_up_c (show (28 : Nat) ≠ 37 by decide), pz_up_c (show (23 : Nat) ≠ 38 by decide), pz_up_c (show (23 : Nat) ≠ 37 by decide), pz_up_s, q2, q3, pz_lt (show h < 2147483648 by omega) (show wf - 1 + c < 2147483648 by omega), q, if_true, h2, h4, h5, pz_up_n (show (23 : Nat) ≠ 22 by decide), pz_up_n (show (23 : Nat) ≠ 24 by decide), pz_up_n (show (24 : Nat) ≠ 22 by decide), k2]
      refine ⟨_, rfl, fun k hk9 => by simp only [pz_up_c hk9], fun j a b d => by simp only [pz_up_n a, pz_up_n b, pz_up_n d, pz_up_c (show (23 : Nat) ≠ 38 by decide), pz_up_c (show (23 : Nat) ≠ 37 by decide)], ?_, ?_, ?_⟩
      all_goals simp [pz_up_i, sp_stp, k1]
    · simp only [rx_106_26, rx_106_27, rx_106_28, rx_106_29, rx_106_30, rx_106_33, rx_106_34, rx_106_35, rx_106_36, rx_106_37, rx_106_38, rx_106_39, rx_106_40, rx_106_43, rx_106_44, rx_106_45, rx_106_46, rx_106_49, rx_106_50, rx_106_51, rx_106_54, rx_106_55, rx_106_56, rx_106_59, rx_106_60, rx_106_61, rx_106_64, rx_106_65, rx_106_66, rx_106_69, rx_106_71, rx_106_74, rx_106_75, rx_106_78, rx_106_79, rx_106_82, rx_106_85, rx_106_86, rx_106_87, rx_106_90, rx_106_92, rx_106_95, rx_106_96, rx_106_99, rx_106_100, rx_106_103, rx_106_106, pz_ast_37 hf, pz_ast_38 hf, pz_ald_37 hf, pz_ald_38 hf, pz_ald_28 hf, pz_bind, pz_add, pz_up_c (show (38 : Nat) ≠ 37 by decide), pz_up_c (show (37 : Nat) ≠ 38 by decide), pz_up_c (show (28 : Nat) ≠ 38 by decide), pz_up_c (show (28 : Nat) ≠ 37 by decide), pz_up_c (show (23 : Nat) ≠ 38 by decide), pz_up_c (show (23 : Nat) ≠ 37 by decide), pz_up_s, q2, q3, pz_lt (show h < 2147483648 by omega) (show wf - 1 + c < 2147483648 by omega), q, if_true, if_false, h2, h4, h5, pz_up_n (show (23 : Nat) ≠ 22 by decide), pz_up_n (show (23 : Nat) ≠ 24 by decide), pz_up_n (show (24 : Nat) ≠ 22 by decide), k2]
      refine ⟨_, rfl, fun k hk9 => by simp only [pz_up_c hk9], fun j a b d => by simp only [pz_up_n a, pz_up_n b, pz_up_n d, pz_up_c (show (23 : Nat) ≠ 38 by decide), pz_up_c (show (23 : Nat) ≠ 37 by decide)], ?_, ?_, ?_⟩
      all_goals simp [pz_up_i, sp_stp, k1]
  · simp only [rx_106_26, rx_106_27, rx_106_28, rx_106_29, rx_106_30, rx_106_33, rx_106_34, rx_106_35, rx_106_36, rx_106_37, rx_106_38, rx_106_39, rx_106_40, rx_106_43, rx_106_44, rx_106_45, rx_106_46, rx_106_49, rx_106_50, rx_106_51, rx_106_54, rx_106_55, rx_106_56, rx_106_59, rx_106_60, rx_106_61, rx_106_64, rx_106_65, rx_106_66, rx_106_69, rx_106_71, rx_106_74, rx_106_75, rx_106_78, rx_106_79, rx_106_82, rx_106_85, rx_106_86, rx_106_87, rx_106_90, rx_106_92, rx_106_95, rx_106_96, rx_106_99, rx_106_100, rx_106_103, rx_106_106, pz_ast_37 hf, pz_ast_38 hf, pz_ald_37 hf, pz_ald_38 hf, pz_ald_28 hf, pz_bind, pz_add, pz_up_c (show (38 : Nat) ≠ 37 by decide), pz_up_c (show (37 : Nat) ≠ 38 by decide), pz_up_c (show (28 : Nat) ≠ 38 by decide), pz_up_c (show (28 : Nat) ≠ 37 by decide), pz_up_c (show (23 : Nat) ≠ 38 by decide), pz_up_c (show (23 : Nat) ≠ 37 by decide), pz_up_s, q2, q3, pz_lt (show h < 2147483648 by omega) (show wf - 1 + c < 2147483648 by omega), q, if_false]
    refine ⟨_, rfl, fun k hk9 => rfl, fun j a b d => by simp only [pz_up_c (show (23 : Nat) ≠ 38 by decide), pz_up_c (show (23 : Nat) ≠ 37 by decide)], ?_, ?_, ?_⟩
    all_goals simp [pz_up_c (show (23 : Nat) ≠ 38 by decide), pz_up_c (show (23 : Nat) ≠ 37 by decide), h2, h4, h5]
