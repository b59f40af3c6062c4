/-! texts: the reference reads a land. -/
theorem sp_wt_f0 {F f : Nat} (h : f < F) : sp_wt F (2 + 3 * f) = 2 := by
  unfold sp_wt
  rw [if_neg (by omega), if_neg (by omega), if_pos (by omega), if_pos (by omega)]
theorem sp_wt_f1 {F f : Nat} (h : f < F) : sp_wt F (2 + 3 * f + 1) = 3 := by
  unfold sp_wt
  rw [if_neg (by omega), if_neg (by omega), if_pos (by omega), if_neg (by omega)]
theorem sp_wt_f2 {F f : Nat} (h : f < F) : sp_wt F (2 + 3 * f + 1 + 1) = 3 := by
  unfold sp_wt
  rw [if_neg (by omega), if_neg (by omega), if_pos (by omega), if_neg (by omega)]
theorem sp_wt_p0 {F f : Nat} (h : f + 1 < F) : sp_wt F (2 + 3 * F + 3 * f) = 4 := by
  unfold sp_wt
  rw [if_neg (by omega), if_neg (by omega), if_neg (by omega), if_pos (by omega), if_pos (by omega)]
theorem sp_wt_p1 {F f : Nat} (h : f + 1 < F) : sp_wt F (2 + 3 * F + 3 * f + 1) = 5 := by
  unfold sp_wt
  rw [if_neg (by omega), if_neg (by omega), if_neg (by omega), if_pos (by omega), if_neg (by omega), if_pos (by omega)]
theorem sp_wt_p2 {F f : Nat} (h : f + 1 < F) : sp_wt F (2 + 3 * F + 3 * f + 1 + 1) = 3 := by
  unfold sp_wt
  rw [if_neg (by omega), if_neg (by omega), if_neg (by omega), if_pos (by omega), if_neg (by omega), if_neg (by omega)]
theorem sp_wt_s {F : Nat} (h : 2 ≤ F) : sp_wt F (2 + 3 * F + 3 * (F - 1)) = 6 := by
  unfold sp_wt
  rw [if_neg (by omega), if_neg (by omega), if_neg (by omega), if_neg (by omega), if_pos rfl]
theorem sp_wt_d {F t : Nat} (h : 2 ≤ F) (ht : t < 8) : sp_wt F (2 + 3 * F + 3 * (F - 1) + 1 + t) = 3 := by
  unfold sp_wt
  rw [if_neg (by omega), if_neg (by omega), if_neg (by omega), if_neg (by omega), if_neg (by omega), if_pos (by omega)]
theorem sp_wt_e {F : Nat} (h : 2 ≤ F) : sp_wt F (2 + 3 * F + 3 * (F - 1) + 1 + 8) = 7 := by
  unfold sp_wt
  rw [if_neg (by omega), if_neg (by omega), if_neg (by omega), if_neg (by omega), if_neg (by omega), if_neg (by omega)]
theorem mx_fields {a0 n F p0 : Nat} {c : Nat → Int32} (ha : a0 + n ≤ 240) (hF : 2 ≤ F ∧ F ≤ 6) (hp0 : p0 ≤ n) (hgo : ∀ u, u < p0 → sp_is (sp_wt F u) (c u)) (hbad : p0 = n ∨ (p0 < n ∧ ¬ sp_is (sp_wt F p0) (c p0))) : ∀ (dd f : Nat), f + dd = F → ∀ M : pm_M, (∀ t, t < n → M 26 (a0 + t) = c t) → M 23 12 = nI (a0 + (2 + 3 * f)) → M 23 13 = nI F → 2 + 3 * f ≤ p0 → (∀ g, g < f → M 32 g = nI (sp_dg c (3 + 3 * g)) ∧ M 33 g = nI (sp_dg c (4 + 3 * g))) →
    (p0 < 2 + 3 * F → ∃ M2, pm_Rc pm_X0 85 (37, [some (pm_r 23), some (pm_i (nI (a0 + n))), some (pm_i (nI f))], [], M) = some (some (pm_i (nI 0)), M2) ∧ fr_T M M2 ∧ M2 23 12 = nI (a0 + p0)) ∧
    (2 + 3 * F ≤ p0 → ∃ M2, pm_Rc pm_X0 85 (37, [some (pm_r 23), some (pm_i (nI (a0 + n))), some (pm_i (nI f))], [], M) = pm_Rc pm_X0 85 (72, [some (pm_r 23), some (pm_i (nI (a0 + n))), some (pm_i (nI F))], [], M2) ∧ fr_T M M2 ∧ M2 23 12 = nI (a0 + (2 + 3 * F)) ∧ M2 23 13 = nI F ∧ ∀ g, g < F → M2 32 g = nI (sp_dg c (3 + 3 * g)) ∧ M2 33 g = nI (sp_dg c (4 + 3 * g))) := by
  intro dd
  induction dd with
  | zero =>
    intro f hf M hcc h12 h13 hle hac
    have e : f = F := by omega
    subst e
    refine ⟨fun h => by omega, fun _ => ⟨M, ?_, fr_T.refl, h12, h13, hac⟩⟩
    rw [rx_85_37]
    simp only [rx_85_38, rx_85_39, rx_85_42, h13, pz_lt (show f < 2147483648 by omega) (show f < 2147483648 by omega), Nat.lt_irrefl, if_false]
  | succ dd ih =>
    intro f hf M hcc h12 h13 hle hac
    have w0 := sp_wt_f0 (show f < F by omega)
    have w1 := sp_wt_f1 (show f < F by omega)
    have w2 := sp_wt_f2 (show f < F by omega)
    by_cases q0 : p0 = 2 + 3 * f
    · subst q0
      have hs := mx_sign_n (s := nI 44) h12 ha (by
        rcases hbad with hb | ⟨hb, hb2⟩
        · exact Or.inl hb
        · refine Or.inr ⟨hb, ?_⟩
          rw [hcc _ hb]
          rw [w0, sp_is_2] at hb2
          exact hb2)
      refine ⟨fun _ => ⟨M, ?_, fr_T.refl, h12⟩, fun h => by omega⟩
      rw [rx_85_37]
      simp only [rx_85_0, rx_85_1, rx_85_2, rx_85_4, rx_85_7, rx_85_10, rx_85_11_0, rx_85_11_1, rx_85_12, rx_85_13, rx_85_14, rx_85_15, rx_85_16, rx_85_18, rx_85_21, rx_85_24, rx_85_25, rx_85_28, rx_85_30, rx_85_33, rx_85_34_0, rx_85_34_1, rx_85_35, rx_85_36, rx_85_38, rx_85_39, rx_85_42, rx_85_45, rx_85_46, rx_85_47, rx_85_49, rx_85_52, rx_85_55, rx_85_56, rx_85_57, rx_85_58, rx_85_61, rx_85_64, rx_85_65_0, rx_85_65_1, rx_85_66, rx_85_69, rx_85_72, rx_85_73, rx_85_75, rx_85_76, rx_85_79, rx_85_80, rx_85_81, rx_85_84, rx_85_85, rx_85_86, rx_85_88, rx_85_91, rx_85_94, rx_85_95, rx_85_96, rx_85_97, rx_85_100, rx_85_103, rx_85_104_0, rx_85_104_1, rx_85_105, rx_85_108, rx_85_111, rx_85_112, rx_85_113, rx_85_115, rx_85_118, rx_85_121, rx_85_122, rx_85_123, rx_85_126, rx_85_129, rx_85_130, rx_85_133, rx_85_134_0, rx_85_134_1, h13, pz_lt (show f < 2147483648 by omega) (show F < 2147483648 by omega), show f < F by omega, if_true, hs, pz_bind, pz_psh, pz_n00]
    · have g0 := hgo (2 + 3 * f) (by omega)
      rw [w0, sp_is_2] at g0
      have hs := mx_sign_y (s := nI 44) (n := n) h12 (by omega) ha (by rw [hcc _ (by omega)]; exact g0)
      obtain ⟨M1, eM1⟩ : ∃ M1, M1 = pm_up M 23 12 (nI (a0 + (2 + 3 * f) + 1)) := ⟨_, rfl⟩
      rw [← eM1] at hs
      have hcc1 : ∀ t, t < n → M1 26 (a0 + t) = c t := fun t ht => by rw [eM1, pz_up_c (by decide)]; exact hcc t ht
      have h121 : M1 23 12 = nI (a0 + (2 + 3 * f + 1)) := by rw [eM1, pz_up_s]; rfl
      have h131 : M1 23 13 = nI F := by rw [eM1, pz_up_n (by decide)]; exact h13
      have hf1 : fr_T M M1 := by rw [eM1]; exact fr_T.refl.upj (by decide)
      have m32 : M1 32 = M 32 := by rw [eM1, pz_up_c (by decide)]
      have m33 : M1 33 = M 33 := by rw [eM1, pz_up_c (by decide)]
      by_cases q1 : p0 < 2 + 3 * f + 3
      · have hq : p0 = 2 + 3 * f + 1 ∨ (p0 = 2 + 3 * f + 1 + 1 ∧ 2 + 3 * f + 1 < n ∧ sp_is 3 (c (2 + 3 * f + 1))) := by
          by_cases q2 : p0 = 2 + 3 * f + 1
          · exact Or.inl q2
          · refine Or.inr ⟨by omega, by omega, ?_⟩
            have g1 := hgo (2 + 3 * f + 1) (by omega)
            rw [w1] at g1
            exact g1
        have hb9 : p0 = n ∨ (p0 < n ∧ ¬ sp_is 3 (c p0)) := by
          rcases hbad with hb | ⟨hb, hb2⟩
          · exact Or.inl hb
          · refine Or.inr ⟨hb, ?_⟩
            rcases hq with e | ⟨e, _⟩
            · rw [show sp_wt F p0 = 3 by rw [e]; exact w1] at hb2
              exact hb2
            · rw [show sp_wt F p0 = 3 by rw [e]; exact w2] at hb2
              exact hb2
        obtain ⟨M2, r1, r2, r3⟩ := mx_field_n (f := f) hcc1 h121 ha (by omega) hq hb9
        refine ⟨fun _ => ⟨M2, ?_, hf1.trans r2, r3⟩, fun h => by omega⟩
        rw [rx_85_37]
        simp only [rx_85_0, rx_85_1, rx_85_2, rx_85_4, rx_85_7, rx_85_10, rx_85_11_0, rx_85_11_1, rx_85_12, rx_85_13, rx_85_14, rx_85_15, rx_85_16, rx_85_18, rx_85_21, rx_85_24, rx_85_25, rx_85_28, rx_85_30, rx_85_33, rx_85_34_0, rx_85_34_1, rx_85_35, rx_85_36, rx_85_38, rx_85_39, rx_85_42, rx_85_45, rx_85_46, rx_85_47, rx_85_49, rx_85_52, rx_85_55, rx_85_56, rx_85_57, rx_85_58, rx_85_61, rx_85_64, rx_85_65_0, rx_85_65_1, rx_85_66, rx_85_69, rx_85_72, rx_85_73, rx_85_75, rx_85_76, rx_85_79, rx_85_80, rx_85_81, rx_85_84, rx_85_85, rx_85_86, rx_85_88, rx_85_91, rx_85_94, rx_85_95, rx_85_96, rx_85_97, rx_85_100, rx_85_103, rx_85_104_0, rx_85_104_1, rx_85_105, rx_85_108, rx_85_111, rx_85_112, rx_85_113, rx_85_115, rx_85_118, rx_85_121, rx_85_122, rx_85_123, rx_85_126, rx_85_129, rx_85_130, rx_85_133, rx_85_134_0, rx_85_134_1, h13, pz_lt (show f < 2147483648 by omega) (show F < 2147483648 by omega), show f < F by omega, if_true, hs, pz_bind, pz_psh, pz_n10, if_false, r1, pz_n00]
      · have g1 := hgo (2 + 3 * f + 1) (by omega)
        have g2 := hgo (2 + 3 * f + 1 + 1) (by omega)
        rw [w1] at g1
        rw [w2] at g2
        obtain ⟨M2, r1, r2, r3, r4, r5, r6, r7⟩ := mx_field_y (f := f) hcc1 h121 ha (by omega) (by omega) g1 g2
        obtain ⟨i1, i2⟩ := ih (f + 1) (by omega) M2 (fun t ht => by rw [r2.1 26 (by decide) (by decide)]; exact hcc1 t ht) (by rw [r3, show 2 + 3 * f + 1 + 2 = 2 + 3 * (f + 1) by omega]) (by rw [r4]; exact h131) (by omega) (fun g hg => by
          by_cases e : g = f
          · subst e
            rw [r5, r6, show 2 + 3 * g + 1 = 3 + 3 * g by omega, show 3 + 3 * g + 1 = 4 + 3 * g by omega]
            exact ⟨rfl, rfl⟩
          · rw [(r7 g e).1, (r7 g e).2, m32, m33]
            exact hac g (by omega))
        have hstep : pm_Rc pm_X0 85 (37, [some (pm_r 23), some (pm_i (nI (a0 + n))), some (pm_i (nI f))], [], M) = pm_Rc pm_X0 85 (37, [some (pm_r 23), some (pm_i (nI (a0 + n))), some (pm_i (nI (f + 1)))], [], M2) := by
          rw [rx_85_37]
          simp only [rx_85_0, rx_85_1, rx_85_2, rx_85_4, rx_85_7, rx_85_10, rx_85_11_0, rx_85_11_1, rx_85_12, rx_85_13, rx_85_14, rx_85_15, rx_85_16, rx_85_18, rx_85_21, rx_85_24, rx_85_25, rx_85_28, rx_85_30, rx_85_33, rx_85_34_0, rx_85_34_1, rx_85_35, rx_85_36, rx_85_38, rx_85_39, rx_85_42, rx_85_45, rx_85_46, rx_85_47, rx_85_49, rx_85_52, rx_85_55, rx_85_56, rx_85_57, rx_85_58, rx_85_61, rx_85_64, rx_85_65_0, rx_85_65_1, rx_85_66, rx_85_69, rx_85_72, rx_85_73, rx_85_75, rx_85_76, rx_85_79, rx_85_80, rx_85_81, rx_85_84, rx_85_85, rx_85_86, rx_85_88, rx_85_91, rx_85_94, rx_85_95, rx_85_96, rx_85_97, rx_85_100, rx_85_103, rx_85_104_0, rx_85_104_1, rx_85_105, rx_85_108, rx_85_111, rx_85_112, rx_85_113, rx_85_115, rx_85_118, rx_85_121, rx_85_122, rx_85_123, rx_85_126, rx_85_129, rx_85_130, rx_85_133, rx_85_134_0, rx_85_134_1, h13, pz_lt (show f < 2147483648 by omega) (show F < 2147483648 by omega), show f < F by omega, if_true, hs, pz_bind, pz_psh, pz_n10, if_false, r1, pz_add, pz_nlz_i]
        rw [hstep]
        refine ⟨fun h => ?_, fun h => ?_⟩
        · obtain ⟨M3, t1, t2, t3⟩ := i1 h
          exact ⟨M3, t1, (hf1.trans r2).trans t2, t3⟩
        · obtain ⟨M3, t1, t2, t3⟩ := i2 h
          exact ⟨M3, t1, (hf1.trans r2).trans t2, t3⟩
theorem mx_posts_r {a0 n F p0 : Nat} {c : Nat → Int32} (ha : a0 + n ≤ 240) (hF : 2 ≤ F ∧ F ≤ 6) (hp0 : p0 ≤ n) (hgo : ∀ u, u < p0 → sp_is (sp_wt F u) (c u)) (hbad : p0 = n ∨ (p0 < n ∧ ¬ sp_is (sp_wt F p0) (c p0))) : ∀ (dd f : Nat), f + dd = F - 1 → ∀ M : pm_M, (∀ t, t < n → M 26 (a0 + t) = c t) → M 23 12 = nI (a0 + (2 + 3 * F + 3 * f)) → M 23 13 = nI F → 2 + 3 * F + 3 * f ≤ p0 → (∀ g, g < f → M 34 g = nI (sp_kd (c (3 + 3 * F + 3 * g))) ∧ M 35 g = nI (sp_dg c (4 + 3 * F + 3 * g))) →
    (p0 < 2 + 3 * F + 3 * (F - 1) → ∃ M2, pm_Rc pm_X0 85 (74, [some (pm_r 23), some (pm_i (nI (a0 + n))), some (pm_i (nI f))], [], M) = some (some (pm_i (nI 0)), M2) ∧ fr_T M M2 ∧ M2 23 12 = nI (a0 + p0)) ∧
    (2 + 3 * F + 3 * (F - 1) ≤ p0 → ∃ M2, pm_Rc pm_X0 85 (74, [some (pm_r 23), some (pm_i (nI (a0 + n))), some (pm_i (nI f))], [], M) = pm_Rc pm_X0 85 (111, [some (pm_r 23), some (pm_i (nI (a0 + n))), some (pm_i (nI (F - 1)))], [], M2) ∧ fr_T M M2 ∧ M2 23 12 = nI (a0 + (2 + 3 * F + 3 * (F - 1))) ∧ M2 23 13 = nI F ∧ (∀ g, g < F - 1 → M2 34 g = nI (sp_kd (c (3 + 3 * F + 3 * g))) ∧ M2 35 g = nI (sp_dg c (4 + 3 * F + 3 * g))) ∧ M2 32 = M 32 ∧ M2 33 = M 33) := by
  intro dd
  induction dd with
  | zero =>
    intro f hf M hcc h12 h13 hle hac
    have e : f = F - 1 := by omega
    subst e
    refine ⟨fun h => by omega, fun _ => ⟨M, ?_, fr_T.refl, h12, h13, hac, rfl, rfl⟩⟩
    rw [rx_85_74]
    simp only [rx_85_75, rx_85_76, rx_85_79, rx_85_80, rx_85_81, h13, pz_sub (show 1 ≤ F by omega), pz_lt (show F - 1 < 2147483648 by omega) (show F - 1 < 2147483648 by omega), Nat.lt_irrefl, if_false]
  | succ dd ih =>
    intro f hf M hcc h12 h13 hle hac
    have w0 := sp_wt_p0 (show f + 1 < F by omega)
    have w1 := sp_wt_p1 (show f + 1 < F by omega)
    have w2 := sp_wt_p2 (show f + 1 < F by omega)
    by_cases q0 : p0 = 2 + 3 * F + 3 * f
    · subst q0
      have hs := mx_sign_n (s := nI 45) h12 ha (by
        rcases hbad with hb | ⟨hb, hb2⟩
        · exact Or.inl hb
        · refine Or.inr ⟨hb, ?_⟩
          rw [hcc _ hb]
          rw [w0, sp_is_4] at hb2
          exact hb2)
      refine ⟨fun _ => ⟨M, ?_, fr_T.refl, h12⟩, fun h => by omega⟩
      rw [rx_85_74]
      simp only [rx_85_0, rx_85_1, rx_85_2, rx_85_4, rx_85_7, rx_85_10, rx_85_11_0, rx_85_11_1, rx_85_12, rx_85_13, rx_85_14, rx_85_15, rx_85_16, rx_85_18, rx_85_21, rx_85_24, rx_85_25, rx_85_28, rx_85_30, rx_85_33, rx_85_34_0, rx_85_34_1, rx_85_35, rx_85_36, rx_85_38, rx_85_39, rx_85_42, rx_85_45, rx_85_46, rx_85_47, rx_85_49, rx_85_52, rx_85_55, rx_85_56, rx_85_57, rx_85_58, rx_85_61, rx_85_64, rx_85_65_0, rx_85_65_1, rx_85_66, rx_85_69, rx_85_72, rx_85_73, rx_85_75, rx_85_76, rx_85_79, rx_85_80, rx_85_81, rx_85_84, rx_85_85, rx_85_86, rx_85_88, rx_85_91, rx_85_94, rx_85_95, rx_85_96, rx_85_97, rx_85_100, rx_85_103, rx_85_104_0, rx_85_104_1, rx_85_105, rx_85_108, rx_85_111, rx_85_112, rx_85_113, rx_85_115, rx_85_118, rx_85_121, rx_85_122, rx_85_123, rx_85_126, rx_85_129, rx_85_130, rx_85_133, rx_85_134_0, rx_85_134_1, h13, pz_sub (show 1 ≤ F by omega), pz_lt (show f < 2147483648 by omega) (show F - 1 < 2147483648 by omega), show f < F - 1 by omega, if_true, hs, pz_bind, pz_psh, pz_n00]
    · have g0 := hgo (2 + 3 * F + 3 * f) (by omega)
      rw [w0, sp_is_4] at g0
      have hs := mx_sign_y (s := nI 45) (n := n) h12 (by omega) ha (by rw [hcc _ (by omega)]; exact g0)
      obtain ⟨M1, eM1⟩ : ∃ M1, M1 = pm_up M 23 12 (nI (a0 + (2 + 3 * F + 3 * f) + 1)) := ⟨_, rfl⟩
      rw [← eM1] at hs
      have hcc1 : ∀ t, t < n → M1 26 (a0 + t) = c t := fun t ht => by rw [eM1, pz_up_c (by decide)]; exact hcc t ht
      have h121 : M1 23 12 = nI (a0 + (2 + 3 * F + 3 * f + 1)) := by rw [eM1, pz_up_s]; rfl
      have h131 : M1 23 13 = nI F := by rw [eM1, pz_up_n (by decide)]; exact h13
      have hf1 : fr_T M M1 := by rw [eM1]; exact fr_T.refl.upj (by decide)
      have m32 : M1 32 = M 32 := by rw [eM1, pz_up_c (by decide)]
      have m33 : M1 33 = M 33 := by rw [eM1, pz_up_c (by decide)]
      have m34 : M1 34 = M 34 := by rw [eM1, pz_up_c (by decide)]
      have m35 : M1 35 = M 35 := by rw [eM1, pz_up_c (by decide)]
      by_cases q1 : p0 < 2 + 3 * F + 3 * f + 3
      · have hq : (p0 = 2 + 3 * F + 3 * f + 1 ∧ (p0 = n ∨ (p0 < n ∧ ¬ sp_is 5 (c p0)))) ∨ (p0 = 2 + 3 * F + 3 * f + 1 + 1 ∧ 2 + 3 * F + 3 * f + 1 < n ∧ sp_is 5 (c (2 + 3 * F + 3 * f + 1)) ∧ (p0 = n ∨ (p0 < n ∧ ¬ sp_is 3 (c p0)))) := by
          by_cases q2 : p0 = 2 + 3 * F + 3 * f + 1
          · refine Or.inl ⟨q2, ?_⟩
            rcases hbad with hb | ⟨hb, hb2⟩
            · exact Or.inl hb
            · rw [show sp_wt F p0 = 5 by rw [q2]; exact w1] at hb2
              exact Or.inr ⟨hb, hb2⟩
          · have g1 := hgo (2 + 3 * F + 3 * f + 1) (by omega)
            rw [w1] at g1
            have q3 : p0 = 2 + 3 * F + 3 * f + 1 + 1 := by omega
            refine Or.inr ⟨q3, by omega, g1, ?_⟩
            rcases hbad with hb | ⟨hb, hb2⟩
            · exact Or.inl hb
            · rw [show sp_wt F p0 = 3 by rw [q3]; exact w2] at hb2
              exact Or.inr ⟨hb, hb2⟩
        obtain ⟨M2, r1, r2, r3⟩ := mx_post_n (i := f) hcc1 h121 ha (by omega) hq
        refine ⟨fun _ => ⟨M2, ?_, hf1.trans r2, r3⟩, fun h => by omega⟩
        rw [rx_85_74]
        simp only [rx_85_0, rx_85_1, rx_85_2, rx_85_4, rx_85_7, rx_85_10, rx_85_11_0, rx_85_11_1, rx_85_12, rx_85_13, rx_85_14, rx_85_15, rx_85_16, rx_85_18, rx_85_21, rx_85_24, rx_85_25, rx_85_28, rx_85_30, rx_85_33, rx_85_34_0, rx_85_34_1, rx_85_35, rx_85_36, rx_85_38, rx_85_39, rx_85_42, rx_85_45, rx_85_46, rx_85_47, rx_85_49, rx_85_52, rx_85_55, rx_85_56, rx_85_57, rx_85_58, rx_85_61, rx_85_64, rx_85_65_0, rx_85_65_1, rx_85_66, rx_85_69, rx_85_72, rx_85_73, rx_85_75, rx_85_76, rx_85_79, rx_85_80, rx_85_81, rx_85_84, rx_85_85, rx_85_86, rx_85_88, rx_85_91, rx_85_94, rx_85_95, rx_85_96, rx_85_97, rx_85_100, rx_85_103, rx_85_104_0, rx_85_104_1, rx_85_105, rx_85_108, rx_85_111, rx_85_112, rx_85_113, rx_85_115, rx_85_118, rx_85_121, rx_85_122, rx_85_123, rx_85_126, rx_85_129, rx_85_130, rx_85_133, rx_85_134_0, rx_85_134_1, h13, pz_sub (show 1 ≤ F by omega), pz_lt (show f < 2147483648 by omega) (show F - 1 < 2147483648 by omega), show f < F - 1 by omega, if_true, hs, pz_bind, pz_psh, pz_n10, if_false, r1, pz_n00]
      · have g1 := hgo (2 + 3 * F + 3 * f + 1) (by omega)
        have g2 := hgo (2 + 3 * F + 3 * f + 1 + 1) (by omega)
        rw [w1] at g1
        rw [w2] at g2
        obtain ⟨M2, r1, r2, r3, r4, r5, r6, r7, r8, r9⟩ := mx_post_y (i := f) hcc1 h121 ha (by omega) (by omega) g1 g2
        obtain ⟨i1, i2⟩ := ih (f + 1) (by omega) M2 (fun t ht => by rw [r2.1 26 (by decide) (by decide)]; exact hcc1 t ht) (by rw [r3, show 2 + 3 * F + 3 * f + 1 + 2 = 2 + 3 * F + 3 * (f + 1) by omega]) (by rw [r4]; exact h131) (by omega) (fun g hg => by
          by_cases e : g = f
          · subst e
            rw [r5, r6, show 2 + 3 * F + 3 * g + 1 = 3 + 3 * F + 3 * g by omega, show 3 + 3 * F + 3 * g + 1 = 4 + 3 * F + 3 * g by omega]
            exact ⟨rfl, rfl⟩
          · rw [(r7 g e).1, (r7 g e).2, m34, m35]
            exact hac g (by omega))
        have hstep : pm_Rc pm_X0 85 (74, [some (pm_r 23), some (pm_i (nI (a0 + n))), some (pm_i (nI f))], [], M) = pm_Rc pm_X0 85 (74, [some (pm_r 23), some (pm_i (nI (a0 + n))), some (pm_i (nI (f + 1)))], [], M2) := by
          rw [rx_85_74]
          simp only [rx_85_0, rx_85_1, rx_85_2, rx_85_4, rx_85_7, rx_85_10, rx_85_11_0, rx_85_11_1, rx_85_12, rx_85_13, rx_85_14, rx_85_15, rx_85_16, rx_85_18, rx_85_21, rx_85_24, rx_85_25, rx_85_28, rx_85_30, rx_85_33, rx_85_34_0, rx_85_34_1, rx_85_35, rx_85_36, rx_85_38, rx_85_39, rx_85_42, rx_85_45, rx_85_46, rx_85_47, rx_85_49, rx_85_52, rx_85_55, rx_85_56, rx_85_57, rx_85_58, rx_85_61, rx_85_64, rx_85_65_0, rx_85_65_1, rx_85_66, rx_85_69, rx_85_72, rx_85_73, rx_85_75, rx_85_76, rx_85_79, rx_85_80, rx_85_81, rx_85_84, rx_85_85, rx_85_86, rx_85_88, rx_85_91, rx_85_94, rx_85_95, rx_85_96, rx_85_97, rx_85_100, rx_85_103, rx_85_104_0, rx_85_104_1, rx_85_105, rx_85_108, rx_85_111, rx_85_112, rx_85_113, rx_85_115, rx_85_118, rx_85_121, rx_85_122, rx_85_123, rx_85_126, rx_85_129, rx_85_130, rx_85_133, rx_85_134_0, rx_85_134_1, h13, pz_sub (show 1 ≤ F by omega), pz_lt (show f < 2147483648 by omega) (show F - 1 < 2147483648 by omega), show f < F - 1 by omega, if_true, hs, pz_bind, pz_psh, pz_n10, if_false, r1, pz_add, pz_nlz_i]
        rw [hstep]
        refine ⟨fun h => ?_, fun h => ?_⟩
        · obtain ⟨M3, t1, t2, t3⟩ := i1 h
          exact ⟨M3, t1, (hf1.trans r2).trans t2, t3⟩
        · obtain ⟨M3, t1, t2, t3, t4, t5, t6, t7⟩ := i2 h
          exact ⟨M3, t1, (hf1.trans r2).trans t2, t3, t4, t5, t6.trans (r8.trans m32), t7.trans (r9.trans m33)⟩
theorem mx_days {a0 n F R p0 : Nat} {c : Nat → Int32} (ha : a0 + n ≤ 240) (hF : 2 ≤ F ∧ F ≤ 6) (hR : R = 2 + 3 * F + 3 * (F - 1) + 1) (hp0 : p0 ≤ n) (hgo : ∀ u, u < p0 → sp_is (sp_wt F u) (c u)) (hbad : p0 = n ∨ (p0 < n ∧ ¬ sp_is (sp_wt F p0) (c p0))) : ∀ (dd t : Nat), t + dd = 8 → ∀ (M : pm_M) (o2 : Option pm_V), (∀ t, t < n → M 26 (a0 + t) = c t) → M 23 12 = nI (a0 + (R + t)) → M 23 14 = nI t → R + t ≤ p0 → (∀ g, g < t → M 36 g = nI (sp_dg c (R + g))) →
    (p0 < n ∨ n ≤ R → ∃ M2, pm_Rc pm_X0 90 (5, [some (pm_r 23), some (pm_i (nI (a0 + n))), o2], [], M) = some (some (pm_i (nI 0)), M2) ∧ fr_T M M2 ∧ M2 23 12 = nI (a0 + p0)) ∧
    (p0 = n → R < n → ∃ M2, pm_Rc pm_X0 90 (5, [some (pm_r 23), some (pm_i (nI (a0 + n))), o2], [], M) = some (some (pm_i (nI 1)), M2) ∧ fr_T M M2 ∧ M2 23 13 = M 23 13 ∧ M2 23 14 = nI (n - R) ∧ n - R ≤ 8 ∧ (∀ g, g < n - R → M2 36 g = nI (sp_dg c (R + g))) ∧ M2 32 = M 32 ∧ M2 33 = M 33 ∧ M2 34 = M 34 ∧ M2 35 = M 35) := by
  intro dd
  induction dd with
  | zero =>
    intro t ht M o2 hcc h12 h14 hle hac
    have e : t = 8 := by omega
    subst e
    have w8 := sp_wt_e hF.1
    rw [← hR] at w8
    have q0 : p0 = R + 8 := by
      by_cases q : p0 = R + 8
      · exact q
      · have g0 := hgo (R + 8) (by omega)
        rw [w8] at g0
        exact absurd g0 sp_is_7
    subst q0
    have n8 : (nI 8 = 0) = False := by simp [show ¬ (nI 8 = 0) by decide]
    refine ⟨fun h => ?_, fun h h2 => ?_⟩
    · have hlt : R + 8 < n := by omega
      refine ⟨M, ?_, fr_T.refl, h12⟩
      rw [rx_90_5]
      simp only [rx_90_0, rx_90_1, rx_90_2, rx_90_6, rx_90_9, rx_90_12, rx_90_13, rx_90_16, rx_90_18, rx_90_21, rx_90_22, rx_90_25, rx_90_26, rx_90_29, rx_90_30, rx_90_31, rx_90_32, rx_90_34, rx_90_37, rx_90_38, rx_90_39, rx_90_41, rx_90_44, rx_90_45_0, rx_90_45_1, rx_90_46, rx_90_47, rx_90_50, rx_90_51, rx_90_54, rx_90_55, rx_90_56, rx_90_57, rx_90_58, rx_90_61, rx_90_62, rx_90_63, rx_90_66, rx_90_69, rx_90_70, rx_90_73, rx_90_74, rx_90_77, rx_90_78, rx_90_81, rx_90_82_0, rx_90_82_1, h14, n8, if_false, pz_lt (show 8 < 2147483648 by omega) (show 8 < 2147483648 by omega), Nat.lt_irrefl, h12, pz_eq (show a0 + (R + 8) < 2147483648 by omega) (show a0 + n < 2147483648 by omega), show ¬ a0 + (R + 8) = a0 + n by omega]
    · subst h
      refine ⟨M, ?_, fr_T.refl, rfl, by rw [h14, Nat.add_sub_cancel_left], by omega, fun g hg => hac g (by omega), rfl, rfl, rfl, rfl⟩
      rw [rx_90_5]
      simp only [rx_90_0, rx_90_1, rx_90_2, rx_90_6, rx_90_9, rx_90_12, rx_90_13, rx_90_16, rx_90_18, rx_90_21, rx_90_22, rx_90_25, rx_90_26, rx_90_29, rx_90_30, rx_90_31, rx_90_32, rx_90_34, rx_90_37, rx_90_38, rx_90_39, rx_90_41, rx_90_44, rx_90_45_0, rx_90_45_1, rx_90_46, rx_90_47, rx_90_50, rx_90_51, rx_90_54, rx_90_55, rx_90_56, rx_90_57, rx_90_58, rx_90_61, rx_90_62, rx_90_63, rx_90_66, rx_90_69, rx_90_70, rx_90_73, rx_90_74, rx_90_77, rx_90_78, rx_90_81, rx_90_82_0, rx_90_82_1, h14, n8, if_false, pz_lt (show 8 < 2147483648 by omega) (show 8 < 2147483648 by omega), Nat.lt_irrefl, h12, if_true]
  | succ dd ih =>
    intro t ht M o2 hcc h12 h14 hle hac
    have w3 := sp_wt_d hF.1 (show t < 8 by omega)
    rw [← hR] at w3
    have hread : t = 0 ∨ R + t < n → pm_Rc pm_X0 90 (5, [some (pm_r 23), some (pm_i (nI (a0 + n))), o2], [], M) = pm_Rc pm_X0 90 (29, [some (pm_r 23), some (pm_i (nI (a0 + n))), o2], [], M) := fun h => by
      rw [rx_90_5]
      by_cases t0 : t = 0
      · subst t0
        simp only [rx_90_6, rx_90_9, rx_90_12, rx_90_13, rx_90_16, rx_90_18, rx_90_21, rx_90_22, rx_90_25, rx_90_26, h14, pz_n00, if_true]
      · have hlt : R + t < n := by omega
        simp only [rx_90_6, rx_90_9, rx_90_12, rx_90_13, rx_90_16, rx_90_18, rx_90_21, rx_90_22, rx_90_25, rx_90_26, h14, pz_eq0 (show t < 2147483648 by omega), t0, if_false, pz_lt (show t < 2147483648 by omega) (show 8 < 2147483648 by omega), show t < 8 by omega, if_true, h12, pz_lt (show a0 + (R + t) < 2147483648 by omega) (show a0 + n < 2147483648 by omega), show a0 + (R + t) < a0 + n by omega]
    by_cases q0 : p0 = R + t
    · subst q0
      by_cases qn : R + t = n
      · by_cases t0 : t = 0
        · subst t0
          have hs := mx_dig_n (M := M) (p := R + 0) (n := n) (lo := 0) (hi := 9) h12 ha (by omega) (by omega) (Or.inl qn)
          refine ⟨fun _ => ⟨M, ?_, fr_T.refl, h12⟩, fun h h2 => by omega⟩
          rw [hread (Or.inl rfl)]
          simp only [rx_90_29, rx_90_30, rx_90_31, rx_90_32, rx_90_34, rx_90_37, rx_90_38, rx_90_39, rx_90_41, rx_90_44, rx_90_45_0, rx_90_45_1, hs, pz_bind, pz_psh, pz_nlz_i, if_true]
        · refine ⟨fun h => by omega, fun _ _ => ⟨M, ?_, fr_T.refl, rfl, by rw [h14]; congr 1; omega, by omega, fun g hg => hac g (by omega), rfl, rfl, rfl, rfl⟩⟩
          rw [rx_90_5]
          rw [qn] at h12
          simp only [rx_90_6, rx_90_9, rx_90_12, rx_90_13, rx_90_16, rx_90_18, rx_90_21, rx_90_22, rx_90_25, rx_90_26, rx_90_69, rx_90_70, rx_90_73, rx_90_74, rx_90_77, rx_90_78, rx_90_81, rx_90_82_0, rx_90_82_1, h14, pz_eq0 (show t < 2147483648 by omega), t0, if_false, pz_lt (show t < 2147483648 by omega) (show 8 < 2147483648 by omega), show t < 8 by omega, if_true, h12, pz_lt (show a0 + n < 2147483648 by omega) (show a0 + n < 2147483648 by omega), Nat.lt_irrefl]
      · have hlt : R + t < n := by omega
        have hb2 : ¬ sp_is 3 (c (R + t)) := by
          rcases hbad with hb | ⟨hb, hb2⟩
          · exact absurd hb qn
          · rw [w3] at hb2
            exact hb2
        have hs := mx_dig_n (M := M) (p := R + t) (n := n) (lo := 0) (hi := 9) h12 ha (by omega) (by omega) (Or.inr ⟨hlt, by rw [hcc _ hlt]; exact sp_no3 hb2⟩)
        refine ⟨fun _ => ⟨M, ?_, fr_T.refl, h12⟩, fun h h2 => absurd h qn⟩
        rw [hread (Or.inr hlt)]
        simp only [rx_90_29, rx_90_30, rx_90_31, rx_90_32, rx_90_34, rx_90_37, rx_90_38, rx_90_39, rx_90_41, rx_90_44, rx_90_45_0, rx_90_45_1, hs, pz_bind, pz_psh, pz_nlz_i, if_true]
    · have hlt : R + t < n := by omega
      have g0 := hgo (R + t) (by omega)
      rw [w3] at g0
      obtain ⟨d1, e1⟩ := sp_dg_of g0
      have hs := mx_dig_y (M := M) (p := R + t) (n := n) (lo := 0) (hi := 9) h12 hlt ha ((hcc _ hlt).trans e1) (by omega) d1 (by omega)
      obtain ⟨M1, eM1⟩ : ∃ M1, M1 = pm_up (pm_up (pm_up M 23 12 (nI (a0 + (R + t) + 1))) 36 t (nI (sp_dg c (R + t)))) 23 14 (nI (t + 1)) := ⟨_, rfl⟩
      have hf1 : fr_T M M1 := by
        rw [eM1]
        exact ((fr_T.refl.upj (by decide)).upc (by decide)).upj (by decide)
      obtain ⟨i1, i2⟩ := ih (t + 1) (by omega) M1 (some (pm_i (nI (sp_dg c (R + t))))) (fun u hu => by rw [hf1.1 26 (by decide) (by decide)]; exact hcc u hu) (by rw [eM1, pz_up_n (by decide), pz_up_c (by decide), pz_up_s]; rfl) (by rw [eM1, pz_up_s]) (by omega) (fun g hg => by
        rw [eM1, pz_up_c (by decide)]
        by_cases e : g = t
        · subst e
          rw [pz_up_s]
        · rw [pz_up_n e, pz_up_c (by decide)]
          exact hac g (by omega))
      have hstep : pm_Rc pm_X0 90 (5, [some (pm_r 23), some (pm_i (nI (a0 + n))), o2], [], M) = pm_Rc pm_X0 90 (5, [some (pm_r 23), some (pm_i (nI (a0 + n))), some (pm_i (nI (sp_dg c (R + t))))], [], M1) := by
        rw [hread (Or.inr hlt), eM1]
        simp only [rx_90_29, rx_90_30, rx_90_31, rx_90_32, rx_90_34, rx_90_37, rx_90_38, rx_90_39, rx_90_41, rx_90_44, rx_90_45_0, rx_90_45_1, rx_90_46, rx_90_47, rx_90_50, rx_90_51, rx_90_54, rx_90_55, rx_90_56, rx_90_57, rx_90_58, rx_90_61, rx_90_62, rx_90_63, rx_90_66, hs, pz_bind, pz_psh, pz_nlz_i, pz_m9 (show sp_dg c (R + t) < 1000 by omega), if_false, pz_up_n (show (14 : Nat) ≠ 12 by decide), h14, pz_ast_36 (show t < 8 by omega), pz_up_c (show (23 : Nat) ≠ 36 by decide), pz_add]
      rw [hstep]
      refine ⟨fun h => ?_, fun h h2 => ?_⟩
      · obtain ⟨M3, t1, t2, t3⟩ := i1 h
        exact ⟨M3, t1, hf1.trans t2, t3⟩
      · obtain ⟨M3, t1, t2, t3, t4, t5, t6, t7, t8, t9, t10⟩ := i2 h h2
        refine ⟨M3, t1, hf1.trans t2, ?_, t4, t5, t6, ?_, ?_, ?_, ?_⟩
        · rw [t3, eM1, pz_up_n (by decide), pz_up_c (by decide), pz_up_n (by decide)]
        · rw [t7, eM1, pz_up_c (by decide), pz_up_c (by decide), pz_up_c (by decide)]
        · rw [t8, eM1, pz_up_c (by decide), pz_up_c (by decide), pz_up_c (by decide)]
        · rw [t9, eM1, pz_up_c (by decide), pz_up_c (by decide), pz_up_c (by decide)]
        · rw [t10, eM1, pz_up_c (by decide), pz_up_c (by decide), pz_up_c (by decide)]
