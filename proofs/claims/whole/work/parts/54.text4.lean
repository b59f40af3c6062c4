/-! texts: the whole read, and what is taken. -/
theorem mx_readLand {M : pm_M} {a0 n F R p0 : Nat} {c : Nat → Int32} (ha : a0 + n ≤ 240) (hR : R = 2 + 3 * F + 3 * (F - 1) + 1) (hp0 : p0 ≤ n) (hgo : ∀ u, u < p0 → sp_is (sp_wt F u) (c u)) (hbad : p0 = n ∨ (p0 < n ∧ ¬ sp_is (sp_wt F p0) (c p0))) (hF : 2 ≤ p0 → c 1 = nI (48 + F) ∧ 2 ≤ F ∧ F ≤ 6) (hcc : ∀ t, t < n → M 26 (a0 + t) = c t) (h12 : M 23 12 = nI a0) :
    ((p0 < n ∨ n < 2 ∨ n ≤ R) → ∃ M2, pm_Rc pm_X0 85 (0, [some (pm_r 23), some (pm_i (nI (a0 + n))), none], [], M) = some (some (pm_i (nI 0)), M2) ∧ fr_T M M2 ∧ M2 23 12 = nI (a0 + p0)) ∧
    (p0 = n → 2 ≤ n → R < n → ∃ M2, pm_Rc pm_X0 85 (0, [some (pm_r 23), some (pm_i (nI (a0 + n))), none], [], M) = some (some (pm_i (nI 1)), M2) ∧ fr_T M M2 ∧ M2 23 13 = nI F ∧ M2 23 14 = nI (n - R) ∧ n - R ≤ 8 ∧ (∀ g, g < F → M2 32 g = nI (sp_dg c (3 + 3 * g)) ∧ M2 33 g = nI (sp_dg c (4 + 3 * g))) ∧ (∀ g, g < F - 1 → M2 34 g = nI (sp_kd (c (3 + 3 * F + 3 * g))) ∧ M2 35 g = nI (sp_dg c (4 + 3 * F + 3 * g))) ∧ ∀ g, g < n - R → M2 36 g = nI (sp_dg c (R + g))) := by
  by_cases q0 : p0 = 0
  · subst q0
    have hs := mx_sign_n (M := M) (p := 0) (n := n) (s := nI 118) h12 ha (by
      rcases hbad with hb | ⟨hb, hb2⟩
      · exact Or.inl hb
      · refine Or.inr ⟨hb, ?_⟩
        rw [hcc _ hb]
        exact fun h => hb2 (sp_is_0.mpr h))
    refine ⟨fun _ => ⟨M, ?_, fr_T.refl, h12⟩, fun h h2 => by omega⟩
    simp only [rx_85_0, rx_85_1, rx_85_2, rx_85_4, rx_85_7, rx_85_10, rx_85_11_0, rx_85_11_1, hs, pz_bind, pz_psh, pz_n00, if_true]
  · have g0 : c 0 = nI 118 := sp_is_0.mp (hgo 0 (by omega))
    have hs := mx_sign_y (M := M) (p := 0) (n := n) (s := nI 118) h12 (by omega) ha (by rw [hcc _ (by omega)]; exact g0)
    obtain ⟨M1, eM1⟩ : ∃ M1, M1 = pm_up M 23 12 (nI (a0 + 0 + 1)) := ⟨_, rfl⟩
    rw [← eM1] at hs
    have hcc1 : ∀ t, t < n → M1 26 (a0 + t) = c t := fun t ht => by rw [eM1, pz_up_c (by decide)]; exact hcc t ht
    have h121 : M1 23 12 = nI (a0 + 1) := by rw [eM1, pz_up_s]
    have hf1 : fr_T M M1 := by rw [eM1]; exact fr_T.refl.upj (by decide)
    by_cases q1 : p0 = 1
    · subst q1
      have hs2 := mx_dig_n (M := M1) (p := 1) (n := n) (lo := 2) (hi := 6) h121 ha (by omega) (by omega) (by
        rcases hbad with hb | ⟨hb, hb2⟩
        · exact Or.inl hb
        · refine Or.inr ⟨hb, ?_⟩
          rw [hcc1 _ hb]
          exact fun h => hb2 (sp_is_1.mpr h))
      refine ⟨fun _ => ⟨pm_up M1 23 13 (-9), ?_, hf1.upj (by decide), by rw [pz_up_n (by decide)]; exact h121⟩, fun h h2 => by omega⟩
      simp only [rx_85_0, rx_85_1, rx_85_2, rx_85_4, rx_85_7, rx_85_10, rx_85_11_0, rx_85_11_1, rx_85_12, rx_85_13, rx_85_14, rx_85_15, rx_85_16, rx_85_18, rx_85_21, rx_85_24, rx_85_25, rx_85_28, rx_85_30, rx_85_33, rx_85_34_0, rx_85_34_1, hs, hs2, pz_bind, pz_psh, pz_n10, if_false, pz_up_s, if_true]
    · obtain ⟨e1, hF2⟩ := hF (by omega)
      have hs2 := mx_dig_y (M := M1) (p := 1) (n := n) (lo := 2) (hi := 6) h121 (by omega) ha (by rw [hcc1 _ (by omega)]; exact e1) hF2.1 hF2.2 (by omega)
      obtain ⟨M2, eM2⟩ : ∃ M2, M2 = pm_up (pm_up M1 23 12 (nI (a0 + 1 + 1))) 23 13 (nI F) := ⟨_, rfl⟩
      have hf2 : fr_T M M2 := by
        rw [eM2]
        exact (hf1.upj (by decide)).upj (by decide)
      have hcc2 : ∀ t, t < n → M2 26 (a0 + t) = c t := fun t ht => by rw [hf2.1 26 (by decide) (by decide)]; exact hcc t ht
      have h132 : M2 23 13 = nI F := by rw [eM2, pz_up_s]
      have hA : pm_Rc pm_X0 85 (0, [some (pm_r 23), some (pm_i (nI (a0 + n))), none], [], M) = pm_Rc pm_X0 85 (37, [some (pm_r 23), some (pm_i (nI (a0 + n))), some (pm_i (nI 0))], [], M2) := by
        simp only [rx_85_0, rx_85_1, rx_85_2, rx_85_4, rx_85_7, rx_85_10, rx_85_11_0, rx_85_11_1, rx_85_12, rx_85_13, rx_85_14, rx_85_15, rx_85_16, rx_85_18, rx_85_21, rx_85_24, rx_85_25, rx_85_28, rx_85_30, rx_85_33, rx_85_34_0, rx_85_34_1, rx_85_35, rx_85_36, hs, hs2, pz_bind, pz_psh, pz_n10, if_false, h132, pz_m9 (show F < 1000 by omega), pz_nlz_i, ← eM2]
      rw [hA]
      obtain ⟨i1, i2⟩ := mx_fields (c := c) ha hF2 hp0 hgo hbad F 0 (by omega) M2 hcc2 (by rw [eM2, pz_up_n (by decide), pz_up_s]) h132 (by omega) (fun g hg => absurd hg (Nat.not_lt_zero g))
      by_cases q2 : p0 < 2 + 3 * F
      · refine ⟨fun _ => ?_, fun h h2 h3 => by omega⟩
        obtain ⟨M3, t1, t2, t3⟩ := i1 q2
        exact ⟨M3, t1, hf2.trans t2, t3⟩
      · obtain ⟨M3, t1, t2, t3, t4, t5⟩ := i2 (by omega)
        have hf3 := hf2.trans t2
        have hB : pm_Rc pm_X0 85 (72, [some (pm_r 23), some (pm_i (nI (a0 + n))), some (pm_i (nI F))], [], M3) = pm_Rc pm_X0 85 (74, [some (pm_r 23), some (pm_i (nI (a0 + n))), some (pm_i (nI 0))], [], M3) := by
          simp only [rx_85_72, rx_85_73, pz_nlz_i]
        rw [t1, hB]
        obtain ⟨j1, j2⟩ := mx_posts_r (c := c) ha hF2 hp0 hgo hbad (F - 1) 0 (by omega) M3 (fun t ht => by rw [hf3.1 26 (by decide) (by decide)]; exact hcc t ht) (by rw [t3]; rfl) t4 (by omega) (fun g hg => absurd hg (Nat.not_lt_zero g))
        by_cases q3 : p0 < 2 + 3 * F + 3 * (F - 1)
        · refine ⟨fun _ => ?_, fun h h2 h3 => by omega⟩
          obtain ⟨M4, u1, u2, u3⟩ := j1 q3
          exact ⟨M4, u1, hf3.trans u2, u3⟩
        · obtain ⟨M4, u1, u2, u3, u4, u5, u6, u7⟩ := j2 (by omega)
          have hf4 := hf3.trans u2
          have hcc4 : ∀ t, t < n → M4 26 (a0 + t) = c t := fun t ht => by rw [hf4.1 26 (by decide) (by decide)]; exact hcc t ht
          rw [u1]
          have w6 := sp_wt_s hF2.1
          by_cases q4 : p0 = 2 + 3 * F + 3 * (F - 1)
          · subst q4
            have hs4 := mx_sign_n (M := M4) (n := n) (s := nI 59) u3 ha (by
              rcases hbad with hb | ⟨hb, hb2⟩
              · exact Or.inl hb
              · refine Or.inr ⟨hb, ?_⟩
                rw [hcc4 _ hb]
                rw [w6, sp_is_6] at hb2
                exact hb2)
            refine ⟨fun _ => ⟨M4, ?_, hf4, u3⟩, fun h h2 h3 => by omega⟩
            simp only [rx_85_111, rx_85_112, rx_85_113, rx_85_115, rx_85_118, rx_85_121, rx_85_122, rx_85_123, rx_85_126, rx_85_129, rx_85_130, rx_85_133, rx_85_134_0, rx_85_134_1, hs4, pz_bind, pz_psh, pz_n00, if_true]
          · have g6 := hgo (2 + 3 * F + 3 * (F - 1)) (by omega)
            rw [w6, sp_is_6] at g6
            have hs4 := mx_sign_y (M := M4) (n := n) (s := nI 59) u3 (by omega) ha (by rw [hcc4 _ (by omega)]; exact g6)
            obtain ⟨M5, eM5⟩ : ∃ M5, M5 = pm_up (pm_up M4 23 12 (nI (a0 + (2 + 3 * F + 3 * (F - 1)) + 1))) 23 14 (nI 0) := ⟨_, rfl⟩
            have hf5 : fr_T M M5 := by
              rw [eM5]
              exact (hf4.upj (by decide)).upj (by decide)
            obtain ⟨k1, k2⟩ := mx_days (c := c) ha hF2 hR hp0 hgo hbad 8 0 (by omega) M5 none (fun t ht => by rw [hf5.1 26 (by decide) (by decide)]; exact hcc t ht) (by rw [eM5, pz_up_n (by decide), pz_up_s, hR]; rfl) (by rw [eM5, pz_up_s]) (by omega) (fun g hg => absurd hg (Nat.not_lt_zero g))
            refine ⟨fun h => ?_, fun h h2 h3 => ?_⟩
            · obtain ⟨M6, v1, v2, v3⟩ := k1 (by omega)
              refine ⟨M6, ?_, hf5.trans v2, v3⟩
              simp only [rx_85_111, rx_85_112, rx_85_113, rx_85_115, rx_85_118, rx_85_121, rx_85_122, rx_85_123, rx_85_126, rx_85_129, rx_85_130, rx_85_133, rx_85_134_0, rx_85_134_1, hs4, pz_bind, pz_psh, pz_n10, if_false, rx_90_0, rx_90_1, rx_90_2, ← eM5, v1, pz_n00, if_true]
            · obtain ⟨M6, v1, v2, v3, v4, v5, v6, v7, v8, v9, v10⟩ := k2 h h3
              refine ⟨M6, ?_, hf5.trans v2, ?_, v4, v5, fun g hg => ?_, fun g hg => ?_, v6⟩
              · simp only [rx_85_111, rx_85_112, rx_85_113, rx_85_115, rx_85_118, rx_85_121, rx_85_122, rx_85_123, rx_85_126, rx_85_129, rx_85_130, rx_85_133, rx_85_134_0, rx_85_134_1, hs4, pz_bind, pz_psh, pz_n10, if_false, rx_90_0, rx_90_1, rx_90_2, ← eM5, v1]
              · rw [v3, eM5, pz_up_n (by decide), pz_up_n (by decide)]
                exact u4
              · rw [v7, v8, eM5, pz_up_c (by decide), pz_up_c (by decide), pz_up_c (by decide), pz_up_c (by decide), u6, u7]
                exact t5 g hg
              · rw [v9, v10, eM5, pz_up_c (by decide), pz_up_c (by decide), pz_up_c (by decide), pz_up_c (by decide)]
                exact u5 g hg
theorem mx_take1 {F : Nat} (hF : F ≤ 6) : ∀ (dd i : Nat), i + dd = F → ∀ M : pm_M, M 23 5 = nI F → (∀ g, g < i → M 27 g = M 32 g ∧ M 28 g = M 33 g) → ∃ M2, pm_Rc pm_X0 91 (10, [some (pm_r 23), some (pm_i (nI i))], [], M) = pm_Rc pm_X0 91 (48, [some (pm_r 23), some (pm_i (nI F))], [], M2) ∧ (∀ k, k ≠ 27 → k ≠ 28 → M2 k = M k) ∧ ∀ g, g < F → M2 27 g = M 32 g ∧ M2 28 g = M 33 g := by
  intro dd
  induction dd with
  | zero =>
    intro i hi M h5 hac
    have e : i = F := by omega
    subst e
    refine ⟨M, ?_, fun _ _ _ => rfl, hac⟩
    rw [rx_91_10]
    simp only [rx_91_11, rx_91_12, rx_91_15, h5, pz_lt (show i < 2147483648 by omega) (show i < 2147483648 by omega), Nat.lt_irrefl, if_false]
  | succ dd ih =>
    intro i hi M h5 hac
    obtain ⟨M2, r1, r2, r3⟩ := ih (i + 1) (by omega) (pm_up (pm_up M 27 i (M 32 i)) 28 i (M 33 i)) (by rw [pz_up_c (by decide), pz_up_c (by decide)]; exact h5) (fun g hg => by
      simp only [pz_up_c (show (27 : Nat) ≠ 28 by decide), pz_up_c (show (32 : Nat) ≠ 28 by decide), pz_up_c (show (32 : Nat) ≠ 27 by decide), pz_up_c (show (33 : Nat) ≠ 28 by decide), pz_up_c (show (33 : Nat) ≠ 27 by decide)]
      by_cases e : g = i
      · subst e
        rw [pz_up_s, pz_up_s]
        exact ⟨rfl, rfl⟩
      · rw [pz_up_n e, pz_up_n e, pz_up_c (by decide)]
        exact hac g (by omega))
    refine ⟨M2, ?_, fun k a b => by rw [r2 k a b, pz_up_c b, pz_up_c a], fun g hg => ?_⟩
    · rw [rx_91_10]
      simp only [rx_91_11, rx_91_12, rx_91_15, rx_91_18, rx_91_19, rx_91_22, rx_91_23, rx_91_24, rx_91_27, rx_91_28, rx_91_29, rx_91_30, rx_91_31, rx_91_34, rx_91_35, rx_91_36, rx_91_39, rx_91_40, rx_91_41, rx_91_42, rx_91_45, h5, pz_lt (show i < 2147483648 by omega) (show F < 2147483648 by omega), show i < F by omega, if_true, pz_ald_32 (show i < 6 by omega), pz_ald_33 (show i < 6 by omega), pz_ast_27 (show i < 6 by omega), pz_ast_28 (show i < 6 by omega), pz_bind, pz_up_c (show (33 : Nat) ≠ 27 by decide), pz_add, pz_nlz_r]
      exact r1
    · have h9 := r3 g hg
      rw [pz_up_c (by decide), pz_up_c (by decide), pz_up_c (by decide), pz_up_c (by decide)] at h9
      exact h9
theorem mx_take2 {F : Nat} (hF : 1 ≤ F ∧ F ≤ 6) : ∀ (dd i : Nat), i + dd = F - 1 → ∀ M : pm_M, M 23 5 = nI F → (∀ g, g < i → M 29 g = M 34 g ∧ M 30 g = M 35 g) → ∃ M2, pm_Rc pm_X0 91 (50, [some (pm_r 23), some (pm_i (nI i))], [], M) = pm_Rc pm_X0 91 (90, [some (pm_r 23), some (pm_i (nI (F - 1)))], [], M2) ∧ (∀ k, k ≠ 29 → k ≠ 30 → M2 k = M k) ∧ ∀ g, g < F - 1 → M2 29 g = M 34 g ∧ M2 30 g = M 35 g := by
  intro dd
  induction dd with
  | zero =>
    intro i hi M h5 hac
    have e : i = F - 1 := by omega
    subst e
    refine ⟨M, ?_, fun _ _ _ => rfl, hac⟩
    rw [rx_91_50]
    simp only [rx_91_51, rx_91_52, rx_91_55, rx_91_56, rx_91_57, h5, pz_sub hF.1, pz_lt (show F - 1 < 2147483648 by omega) (show F - 1 < 2147483648 by omega), Nat.lt_irrefl, if_false]
  | succ dd ih =>
    intro i hi M h5 hac
    obtain ⟨M2, r1, r2, r3⟩ := ih (i + 1) (by omega) (pm_up (pm_up M 29 i (M 34 i)) 30 i (M 35 i)) (by rw [pz_up_c (by decide), pz_up_c (by decide)]; exact h5) (fun g hg => by
      simp only [pz_up_c (show (29 : Nat) ≠ 30 by decide), pz_up_c (show (34 : Nat) ≠ 30 by decide), pz_up_c (show (34 : Nat) ≠ 29 by decide), pz_up_c (show (35 : Nat) ≠ 30 by decide), pz_up_c (show (35 : Nat) ≠ 29 by decide)]
      by_cases e : g = i
      · subst e
        rw [pz_up_s, pz_up_s]
        exact ⟨rfl, rfl⟩
      · rw [pz_up_n e, pz_up_n e, pz_up_c (by decide)]
        exact hac g (by omega))
    refine ⟨M2, ?_, fun k a b => by rw [r2 k a b, pz_up_c b, pz_up_c a], fun g hg => ?_⟩
    · rw [rx_91_50]
      simp only [rx_91_51, rx_91_52, rx_91_55, rx_91_56, rx_91_57, rx_91_60, rx_91_61, rx_91_64, rx_91_65, rx_91_66, rx_91_69, rx_91_70, rx_91_71, rx_91_72, rx_91_73, rx_91_76, rx_91_77, rx_91_78, rx_91_81, rx_91_82, rx_91_83, rx_91_84, rx_91_87, h5, pz_sub hF.1, pz_lt (show i < 2147483648 by omega) (show F - 1 < 2147483648 by omega), show i < F - 1 by omega, if_true, pz_ald_34 (show i < 5 by omega), pz_ald_35 (show i < 5 by omega), pz_ast_29 (show i < 5 by omega), pz_ast_30 (show i < 5 by omega), pz_bind, pz_up_c (show (35 : Nat) ≠ 29 by decide), pz_add, pz_nlz_r]
      exact r1
    · have h9 := r3 g hg
      rw [pz_up_c (by decide), pz_up_c (by decide), pz_up_c (by decide), pz_up_c (by decide)] at h9
      exact h9
theorem mx_take3 {D : Nat} (hD : D ≤ 8) : ∀ (dd i : Nat), i + dd = D → ∀ M : pm_M, M 23 6 = nI D → (∀ g, g < i → M 31 g = M 36 g) → ∃ M2, pm_Rc pm_X0 91 (100, [some (pm_r 23), some (pm_i (nI i))], [], M) = some (none, pm_up M2 23 26 (nI 0)) ∧ (∀ k, k ≠ 31 → M2 k = M k) ∧ ∀ g, g < D → M2 31 g = M 36 g := by
  intro dd
  induction dd with
  | zero =>
    intro i hi M h5 hac
    have e : i = D := by omega
    subst e
    refine ⟨M, ?_, fun _ _ => rfl, hac⟩
    rw [rx_91_100]
    simp only [rx_91_101, rx_91_102, rx_91_105, rx_91_108, rx_91_109, rx_91_112, rx_91_113, rx_91_114, rx_91_117, rx_91_118, rx_91_119, rx_91_120, rx_91_123, rx_91_126, rx_91_127, rx_91_128, rx_91_131, h5, pz_lt (show i < 2147483648 by omega) (show i < 2147483648 by omega), Nat.lt_irrefl, if_false]
  | succ dd ih =>
    intro i hi M h5 hac
    obtain ⟨M2, r1, r2, r3⟩ := ih (i + 1) (by omega) (pm_up M 31 i (M 36 i)) (by rw [pz_up_c (by decide)]; exact h5) (fun g hg => by
      rw [pz_up_c (show (36 : Nat) ≠ 31 by decide)]
      by_cases e : g = i
      · subst e
        rw [pz_up_s]
      · rw [pz_up_n e]
        exact hac g (by omega))
    refine ⟨M2, ?_, fun k a => by rw [r2 k a, pz_up_c a], fun g hg => ?_⟩
    · rw [rx_91_100]
      simp only [rx_91_101, rx_91_102, rx_91_105, rx_91_108, rx_91_109, rx_91_112, rx_91_113, rx_91_114, rx_91_117, rx_91_118, rx_91_119, rx_91_120, rx_91_123, h5, pz_lt (show i < 2147483648 by omega) (show D < 2147483648 by omega), show i < D by omega, if_true, pz_ald_36 (show i < 8 by omega), pz_ast_31 (show i < 8 by omega), pz_bind, pz_add, pz_nlz_r]
      exact r1
    · have h9 := r3 g hg
      rw [pz_up_c (by decide)] at h9
      exact h9
theorem mx_takeLand {M : pm_M} {F D : Nat} (hF : 1 ≤ F ∧ F ≤ 6) (hD : D ≤ 8) (h13 : M 23 13 = nI F) (h14 : M 23 14 = nI D) :
    ∃ M2, pm_Rc pm_X0 91 (0, [some (pm_r 23), none], [], M) = some (none, M2) ∧ M2 23 5 = nI F ∧ M2 23 6 = nI D ∧ M2 23 26 = nI 0 ∧ (∀ j, j ≠ 5 → j ≠ 6 → j ≠ 26 → M2 23 j = M 23 j) ∧ (∀ k, k ≠ 23 → ¬ (27 ≤ k ∧ k ≤ 31) → M2 k = M k) ∧ (∀ g, g < F → M2 27 g = M 32 g ∧ M2 28 g = M 33 g) ∧ (∀ g, g < F - 1 → M2 29 g = M 34 g ∧ M2 30 g = M 35 g) ∧ ∀ g, g < D → M2 31 g = M 36 g := by
  obtain ⟨M1, eM1⟩ : ∃ M1, M1 = pm_up M 23 5 (nI F) := ⟨_, rfl⟩
  obtain ⟨M2, r1, r2, r3⟩ := mx_take1 hF.2 F 0 (by omega) M1 (by rw [eM1, pz_up_s]) (fun g hg => absurd hg (Nat.not_lt_zero g))
  obtain ⟨M3, t1, t2, t3⟩ := mx_take2 hF (F - 1) 0 (by omega) M2 (by rw [r2 23 (by decide) (by decide), eM1, pz_up_s]) (fun g hg => absurd hg (Nat.not_lt_zero g))
  obtain ⟨M4, eM4⟩ : ∃ M4, M4 = pm_up M3 23 6 (nI D) := ⟨_, rfl⟩
  obtain ⟨M5, u1, u2, u3⟩ := mx_take3 hD D 0 (by omega) M4 (by rw [eM4, pz_up_s]) (fun g hg => absurd hg (Nat.not_lt_zero g))
  have h143 : M3 23 14 = nI D := by
    rw [t2 23 (by decide) (by decide), r2 23 (by decide) (by decide), eM1, pz_up_n (by decide)]
    exact h14
  refine ⟨pm_up M5 23 26 (nI 0), ?_, ?_, ?_, ?_, ?_, ?_, ?_, ?_, ?_⟩
  · simp only [rx_91_0, rx_91_1, rx_91_2, rx_91_5, rx_91_8, rx_91_9, h13, pz_nlz_r, ← eM1]
    rw [r1]
    simp only [rx_91_48, rx_91_49, pz_nlz_r]
    rw [t1]
    simp only [rx_91_90, rx_91_91, rx_91_92, rx_91_95, rx_91_98, rx_91_99, h143, pz_nlz_r, ← eM4]
    exact u1
  · rw [pz_up_n (by decide), u2 23 (by decide), eM4, pz_up_n (by decide), t2 23 (by decide) (by decide), r2 23 (by decide) (by decide), eM1, pz_up_s]
  · rw [pz_up_n (by decide), u2 23 (by decide), eM4, pz_up_s]
  · rw [pz_up_s]
  · intro j a b c
    rw [pz_up_n c, u2 23 (by decide), eM4, pz_up_n b, t2 23 (by decide) (by decide), r2 23 (by decide) (by decide), eM1, pz_up_n a]
  · intro k a b
    rw [pz_up_c a, u2 k (by omega), eM4, pz_up_c a, t2 k (by omega) (by omega), r2 k (by omega) (by omega), eM1, pz_up_c a]
  · intro g hg
    have h9 := r3 g hg
    rw [eM1, pz_up_c (by decide), pz_up_c (by decide)] at h9
    rw [pz_up_c (by decide), pz_up_c (by decide), u2 27 (by decide), u2 28 (by decide), eM4, pz_up_c (by decide), pz_up_c (by decide), t2 27 (by decide) (by decide), t2 28 (by decide) (by decide)]
    exact h9
  · intro g hg
    have h9 := t3 g hg
    rw [r2 34 (by decide) (by decide), r2 35 (by decide) (by decide), eM1, pz_up_c (by decide), pz_up_c (by decide)] at h9
    rw [pz_up_c (by decide), pz_up_c (by decide), u2 29 (by decide), u2 30 (by decide), eM4, pz_up_c (by decide), pz_up_c (by decide)]
    exact h9
  · intro g hg
    have h9 := u3 g hg
    rw [eM4, pz_up_c (by decide), t2 36 (by decide) (by decide), r2 36 (by decide) (by decide), eM1, pz_up_c (by decide)] at h9
    rw [pz_up_c (by decide)]
    exact h9
