/-! land. -/
theorem cx_kind_v {M : pm_M} {x : Int32} (h : sp_is 5 x) : pm_Rc pm_X0 26 (0, [some (pm_i x)], [], M) = some (some (pm_i (nI (sp_kd x))), M) := by
  unfold sp_kd
  rcases sp_is_5.mp h with h | h | h <;> simp only [rx_26_0, rx_26_1, rx_26_36, rx_26_37, rx_26_38, rx_26_39, rx_26_40, rx_26_41, rx_26_42, rx_26_44, h, if_true, if_false, pz_k1, pz_k2, pz_k3]
theorem cx_bec1 {F n : Nat} {x y : Nat → Nat} (hF : F ≤ 6) : ∀ (dd i : Nat), i + dd = F → ∀ (M : pm_M) (o4 : Option pm_V), M 2 0 = nI F → (∀ g, g < F → M 5 (2 + 3 * g + 1) = nI (48 + x g) ∧ M 5 (2 + 3 * g + 2) = nI (48 + y g)) → (∀ g, g < i → M 13 g = nI (x g) ∧ M 14 g = nI (y g)) →
    ∃ (M2 : pm_M) (o5 : Option pm_V), pm_Rc pm_X0 0 (12, [some (pm_r 2), some (pm_r 5), some (pm_i (nI n)), some (pm_i (nI i)), o4], [], M) = pm_Rc pm_X0 0 (63, [some (pm_r 2), some (pm_r 5), some (pm_i (nI n)), some (pm_i (nI F)), o5], [], M2) ∧ (∀ k, k ≠ 13 → k ≠ 14 → M2 k = M k) ∧ ∀ g, g < F → M2 13 g = nI (x g) ∧ M2 14 g = nI (y g) := by
  intro dd
  induction dd with
  | zero =>
    intro i hi M o4 h0 h5 hac
    have e : i = F := by omega
    subst e
    refine ⟨M, o4, ?_, fun _ _ _ => rfl, hac⟩
    rw [rx_0_12]
    simp only [rx_0_13, rx_0_14, rx_0_17, h0, pz_lt (show i < 2147483648 by omega) (show i < 2147483648 by omega), Nat.lt_irrefl, if_false]
  | succ dd ih =>
    intro i hi M o4 h0 h5 hac
    obtain ⟨c1, c2⟩ := h5 i (by omega)
    obtain ⟨M2, o5, r1, r2, r3⟩ := ih (i + 1) (by omega) (pm_up (pm_up M 13 i (nI (x i))) 14 i (nI (y i))) (some (pm_i (nI (2 + 3 * i)))) (by rw [pz_up_c (by decide), pz_up_c (by decide)]; exact h0) (fun g hg => by
      rw [pz_up_c (by decide), pz_up_c (by decide)]
      exact h5 g hg) (fun g hg => by
      simp only [pz_up_c (show (13 : Nat) ≠ 14 by decide)]
      by_cases e : g = i
      · subst e
        rw [pz_up_s, pz_up_s]
        exact ⟨rfl, rfl⟩
      · rw [pz_up_n e, pz_up_n e, pz_up_c (by decide)]
        exact hac g (by omega))
    refine ⟨M2, o5, ?_, fun k a b => by rw [r2 k a b, pz_up_c b, pz_up_c a], r3⟩
    rw [rx_0_12]
    simp only [rx_0_13, rx_0_14, rx_0_17, rx_0_20, rx_0_21, rx_0_22, rx_0_23, rx_0_24, rx_0_25, rx_0_27, rx_0_28, rx_0_31, rx_0_32, rx_0_33, rx_0_35, rx_0_36, rx_0_37, rx_0_38, rx_0_41, rx_0_42, rx_0_43, rx_0_46, rx_0_47, rx_0_48, rx_0_50, rx_0_51, rx_0_52, rx_0_53, rx_0_56, rx_0_57, rx_0_60, rx_22_0, rx_22_1, rx_22_3, rx_22_4, h0, pz_lt (show i < 2147483648 by omega) (show F < 2147483648 by omega), show i < F by omega, if_true, pk_mul, pz_add, pz_nlz_i, pz_nlz_r, pz_ald_5 (show 2 + 3 * i + 1 < 60 by omega), pz_ald_5 (show 2 + 3 * i + 2 < 60 by omega), c1, c2, pz_bind, pz_psh, pz_sub (show 48 ≤ 48 + x i by omega), pz_sub (show 48 ≤ 48 + y i by omega), Nat.add_sub_cancel_left, pz_ast_13 (show i < 6 by omega), pz_ast_14 (show i < 6 by omega), pz_up_c (show (5 : Nat) ≠ 13 by decide)]
    exact r1
theorem cx_bec2 {F n : Nat} {x : Nat → Int32} {y : Nat → Nat} (hF : 1 ≤ F ∧ F ≤ 6) : ∀ (dd i : Nat), i + dd = F - 1 → ∀ (M : pm_M) (o4 : Option pm_V), M 2 0 = nI F → (∀ g, g < F - 1 → M 5 (2 + 3 * F + 3 * g + 1) = x g ∧ sp_is 5 (x g) ∧ M 5 (2 + 3 * F + 3 * g + 2) = nI (48 + y g)) → (∀ g, g < i → M 15 g = nI (sp_kd (x g)) ∧ M 16 g = nI (y g)) →
    ∃ (M2 : pm_M) (o5 : Option pm_V), pm_Rc pm_X0 0 (65, [some (pm_r 2), some (pm_r 5), some (pm_i (nI n)), some (pm_i (nI i)), o4], [], M) = pm_Rc pm_X0 0 (122, [some (pm_r 2), some (pm_r 5), some (pm_i (nI n)), some (pm_i (nI (F - 1))), o5], [], M2) ∧ (∀ k, k ≠ 15 → k ≠ 16 → M2 k = M k) ∧ ∀ g, g < F - 1 → M2 15 g = nI (sp_kd (x g)) ∧ M2 16 g = nI (y g) := by
  intro dd
  induction dd with
  | zero =>
    intro i hi M o4 h0 h5 hac
    have e : i = F - 1 := by omega
    subst e
    refine ⟨M, o4, ?_, fun _ _ _ => rfl, hac⟩
    rw [rx_0_65]
    simp only [rx_0_66, rx_0_67, rx_0_70, cx_posts h0 hF.2, pz_bind, pz_psh, pz_lt (show F - 1 < 2147483648 by omega) (show F - 1 < 2147483648 by omega), Nat.lt_irrefl, if_false]
  | succ dd ih =>
    intro i hi M o4 h0 h5 hac
    obtain ⟨c1, c3, c2⟩ := h5 i (by omega)
    obtain ⟨M2, o5, r1, r2, r3⟩ := ih (i + 1) (by omega) (pm_up (pm_up M 15 i (nI (sp_kd (x i)))) 16 i (nI (y i))) (some (pm_i (nI (2 + 3 * F + 3 * i)))) (by rw [pz_up_c (by decide), pz_up_c (by decide)]; exact h0) (fun g hg => by
      rw [pz_up_c (by decide), pz_up_c (by decide)]
      exact h5 g hg) (fun g hg => by
      simp only [pz_up_c (show (15 : Nat) ≠ 16 by decide)]
      by_cases e : g = i
      · subst e
        rw [pz_up_s, pz_up_s]
        exact ⟨rfl, rfl⟩
      · rw [pz_up_n e, pz_up_n e, pz_up_c (by decide)]
        exact hac g (by omega))
    refine ⟨M2, o5, ?_, fun k a b => by rw [r2 k a b, pz_up_c b, pz_up_c a], r3⟩
    rw [rx_0_65]
    simp only [rx_0_66, rx_0_67, rx_0_70, rx_0_73, rx_0_74, rx_0_77, rx_0_80, rx_0_81, rx_0_82, rx_0_83, rx_0_84, rx_0_86, rx_0_87, rx_0_90, rx_0_91, rx_0_92, rx_0_94, rx_0_95, rx_0_96, rx_0_97, rx_0_100, rx_0_101, rx_0_102, rx_0_105, rx_0_106, rx_0_107, rx_0_109, rx_0_110, rx_0_111, rx_0_112, rx_0_115, rx_0_116, rx_0_119, rx_22_0, rx_22_1, rx_22_3, rx_22_4, rx_23_0, rx_23_1, rx_23_2, rx_23_3, rx_23_4, rx_23_5, h0, cx_posts h0 hF.2, pz_lt (show i < 2147483648 by omega) (show F - 1 < 2147483648 by omega), show i < F - 1 by omega, if_true, pk_mul, pz_add, pz_nlz_i, pz_nlz_r, pz_ald_5 (show 2 + 3 * F + 3 * i + 1 < 60 by omega), pz_ald_5 (show 2 + 3 * F + 3 * i + 2 < 60 by omega), c1, c2, cx_kind_v c3, pz_bind, pz_psh, pz_sub (show 48 ≤ 48 + y i by omega), Nat.add_sub_cancel_left, pz_ast_15 (show i < 5 by omega), pz_ast_16 (show i < 5 by omega), pz_up_c (show (5 : Nat) ≠ 15 by decide)]
    exact r1
theorem cx_bec3 {D R n : Nat} {x : Nat → Nat} (hD : D ≤ 8) (hR : R + D ≤ 60) : ∀ (dd i : Nat), i + dd = D → ∀ (M : pm_M), M 2 1 = nI D → (∀ g, g < D → M 5 (R + g) = nI (48 + x g)) → (∀ g, g < i → M 17 g = nI (x g)) →
    ∃ (M2 : pm_M), pm_Rc pm_X0 0 (140, [some (pm_r 2), some (pm_r 5), some (pm_i (nI n)), some (pm_i (nI R)), some (pm_i (nI i))], [], M) = some (none, M2) ∧ (∀ k, k ≠ 17 → M2 k = M k) ∧ ∀ g, g < D → M2 17 g = nI (x g) := by
  intro dd
  induction dd with
  | zero =>
    intro i hi M h0 h5 hac
    have e : i = D := by omega
    subst e
    refine ⟨M, ?_, fun _ _ => rfl, hac⟩
    rw [rx_0_140]
    simp only [rx_0_142, rx_0_143, rx_0_146, rx_0_171, h0, pz_lt (show i < 2147483648 by omega) (show i < 2147483648 by omega), Nat.lt_irrefl, if_false]
  | succ dd ih =>
    intro i hi M h0 h5 hac
    have c1 := h5 i (by omega)
    obtain ⟨M2, r1, r2, r3⟩ := ih (i + 1) (by omega) (pm_up M 17 i (nI (x i))) (by rw [pz_up_c (by decide)]; exact h0) (fun g hg => by
      rw [pz_up_c (by decide)]
      exact h5 g hg) (fun g hg => by
      by_cases e : g = i
      · subst e
        rw [pz_up_s]
      · rw [pz_up_n e]
        exact hac g (by omega))
    refine ⟨M2, ?_, fun k a => by rw [r2 k a, pz_up_c a], r3⟩
    rw [rx_0_140]
    simp only [rx_0_142, rx_0_143, rx_0_146, rx_0_149, rx_0_150, rx_0_153, rx_0_155, rx_0_156, rx_0_157, rx_0_159, rx_0_160, rx_0_161, rx_0_164, rx_0_165, rx_0_168, rx_22_0, rx_22_1, rx_22_3, rx_22_4, h0, pz_lt (show i < 2147483648 by omega) (show D < 2147483648 by omega), show i < D by omega, if_true, pz_add, pz_nlz_i, pz_nlz_r, pz_ald_5 (show R + i < 60 by omega), c1, pz_bind, pz_psh, pz_sub (show 48 ≤ 48 + x i by omega), Nat.add_sub_cancel_left, pz_ast_17 (show i < 8 by omega)]
    exact r1
/-- what a good text holds -/
theorem sp_all {F n R : Nat} {c : Nat → Int32} (hF : 2 ≤ F ∧ F ≤ 6) (hR : R = 2 + 3 * F + 3 * (F - 1) + 1) (hn : R < n) (hgo : ∀ u, u < n → sp_is (sp_wt F u) (c u)) :
    n - R ≤ 8 ∧ (∀ g, g < F → sp_is 3 (c (3 + 3 * g)) ∧ sp_is 3 (c (4 + 3 * g))) ∧ (∀ g, g < F - 1 → sp_is 5 (c (3 + 3 * F + 3 * g)) ∧ sp_is 3 (c (4 + 3 * F + 3 * g))) ∧ ∀ g, g < n - R → sp_is 3 (c (R + g)) := by
  have h8 : n - R ≤ 8 := by
    by_cases q : n - R ≤ 8
    · exact q
    · have g8 := hgo (R + 8) (by omega)
      have w8 := sp_wt_e hF.1
      rw [← hR] at w8
      rw [w8] at g8
      exact absurd g8 sp_is_7
  refine ⟨h8, fun g hg => ⟨?_, ?_⟩, fun g hg => ⟨?_, ?_⟩, fun g hg => ?_⟩
  · have h := hgo (2 + 3 * g + 1) (by omega)
    rw [sp_wt_f1 hg, show 2 + 3 * g + 1 = 3 + 3 * g by omega] at h
    exact h
  · have h := hgo (2 + 3 * g + 1 + 1) (by omega)
    rw [sp_wt_f2 hg, show 2 + 3 * g + 1 + 1 = 4 + 3 * g by omega] at h
    exact h
  · have h := hgo (2 + 3 * F + 3 * g + 1) (by omega)
    rw [sp_wt_p1 (by omega), show 2 + 3 * F + 3 * g + 1 = 3 + 3 * F + 3 * g by omega] at h
    exact h
  · have h := hgo (2 + 3 * F + 3 * g + 1 + 1) (by omega)
    rw [sp_wt_p2 (by omega), show 2 + 3 * F + 3 * g + 1 + 1 = 4 + 3 * F + 3 * g by omega] at h
    exact h
  · have h := hgo (R + g) (by omega)
    have w := sp_wt_d hF.1 (show g < 8 by omega)
    rw [← hR] at w
    rw [w] at h
    exact h
theorem cx_become {M : pm_M} {F n R : Nat} {c : Nat → Int32} (hn : n ≤ 60) (hF : 2 ≤ F ∧ F ≤ 6) (hR : R = 2 + 3 * F + 3 * (F - 1) + 1) (hRn : R < n) (hgo : ∀ u, u < n → sp_is (sp_wt F u) (c u)) (h1 : c 1 = nI (48 + F)) (h5 : ∀ t, t < n → M 5 t = c t) :
    ∃ M2, pm_Rc pm_X0 0 (0, [some (pm_r 2), some (pm_r 5), some (pm_i (nI n)), none, none], [], M) = some (none, M2) ∧ M2 2 0 = nI F ∧ M2 2 1 = nI (n - R) ∧ (∀ k, k ≠ 2 → ¬ (13 ≤ k ∧ k ≤ 17) → M2 k = M k) ∧ (∀ g, g < F → M2 13 g = nI (sp_dg c (3 + 3 * g)) ∧ M2 14 g = nI (sp_dg c (4 + 3 * g))) ∧ (∀ g, g < F - 1 → M2 15 g = nI (sp_kd (c (3 + 3 * F + 3 * g))) ∧ M2 16 g = nI (sp_dg c (4 + 3 * F + 3 * g))) ∧ ∀ g, g < n - R → M2 17 g = nI (sp_dg c (R + g)) := by
  obtain ⟨a8, a1, a2, a3⟩ := sp_all hF hR hRn hgo
  obtain ⟨M1, eM1⟩ : ∃ M1, M1 = pm_up M 2 0 (nI F) := ⟨_, rfl⟩
  have h51 : ∀ t, t < n → M1 5 t = c t := fun t ht => by rw [eM1, pz_up_c (by decide)]; exact h5 t ht
  obtain ⟨M2, o2, r1, r2, r3⟩ := cx_bec1 (n := n) (x := fun g => sp_dg c (3 + 3 * g)) (y := fun g => sp_dg c (4 + 3 * g)) hF.2 F 0 (by omega) M1 none (by rw [eM1, pz_up_s]) (fun g hg => by
    rw [h51 _ (by omega), h51 _ (by omega), show 2 + 3 * g + 1 = 3 + 3 * g by omega, show 2 + 3 * g + 2 = 4 + 3 * g by omega]
    exact ⟨(sp_dg_of (a1 g hg).1).2, (sp_dg_of (a1 g hg).2).2⟩) (fun g hg => absurd hg (Nat.not_lt_zero g))
  have h20 : M2 2 0 = nI F := by rw [r2 2 (by decide) (by decide), eM1, pz_up_s]
  obtain ⟨M3, o3, t1, t2, t3⟩ := cx_bec2 (n := n) (x := fun g => c (3 + 3 * F + 3 * g)) (y := fun g => sp_dg c (4 + 3 * F + 3 * g)) ⟨by omega, hF.2⟩ (F - 1) 0 (by omega) M2 o2 h20 (fun g hg => by
    rw [r2 5 (by decide) (by decide), h51 _ (by omega), h51 _ (by omega), show 2 + 3 * F + 3 * g + 1 = 3 + 3 * F + 3 * g by omega, show 2 + 3 * F + 3 * g + 2 = 4 + 3 * F + 3 * g by omega]
    exact ⟨rfl, (a2 g hg).1, (sp_dg_of (a2 g hg).2).2⟩) (fun g hg => absurd hg (Nat.not_lt_zero g))
  have h30 : M3 2 0 = nI F := by rw [t2 2 (by decide) (by decide)]; exact h20
  obtain ⟨M4, eM4⟩ : ∃ M4, M4 = pm_up M3 2 1 (nI (n - R)) := ⟨_, rfl⟩
  obtain ⟨M5, u1, u2, u3⟩ := cx_bec3 (n := n) (R := R) (x := fun g => sp_dg c (R + g)) a8 (by omega) (n - R) 0 (by omega) M4 (by rw [eM4, pz_up_s]) (fun g hg => by
    rw [eM4, pz_up_c (by decide), t2 5 (by decide) (by decide), r2 5 (by decide) (by decide), h51 _ (by omega)]
    exact (sp_dg_of (a3 g hg)).2) (fun g hg => absurd hg (Nat.not_lt_zero g))
  refine ⟨M5, ?_, ?_, ?_, ?_, ?_, ?_, u3⟩
  · simp only [rx_0_0, rx_0_1, rx_0_2, rx_0_3, rx_0_4, rx_0_7, rx_0_10, rx_0_11, rx_22_0, rx_22_1, rx_22_3, rx_22_4, pz_ald_5 (show 1 < 60 by omega), h5 1 (by omega), h1, pz_sub (show 48 ≤ 48 + F by omega), Nat.add_sub_cancel_left, pz_bind, pz_psh, pz_nlz_i, ← eM1]
    rw [r1]
    simp only [rx_0_63, rx_0_64, pz_nlz_i]
    rw [t1]
    have hRR : 2 + 3 * F + 3 * (F - 1) + 1 = R := hR.symm
    simp only [rx_0_122, rx_0_123, rx_0_126, rx_0_129, rx_0_130, rx_0_131, rx_0_132, rx_0_133, rx_0_134, rx_0_137, rx_0_138, rx_23_0, rx_23_1, rx_23_2, rx_23_3, rx_23_4, rx_23_5, rx_24_0, rx_24_1, rx_24_4, rx_24_5, rx_24_6, rx_24_7, rx_24_8, rx_24_9, rx_24_10, rx_24_11, rx_24_12, h30, pk_mul, pz_add, pz_sub (show 1 ≤ F by omega), hRR, pz_sub (show R ≤ n by omega), pz_bind, pz_psh, pz_nlz_i, ← eM4]
    exact u1
  · rw [u2 2 (by decide), eM4, pz_up_n (by decide)]
    exact h30
  · rw [u2 2 (by decide), eM4, pz_up_s]
  · intro k a b
    rw [u2 k (by omega), eM4, pz_up_c a, t2 k (by omega) (by omega), r2 k (by omega) (by omega), eM1, pz_up_c a]
  · intro g hg
    rw [u2 13 (by decide), u2 14 (by decide), eM4, pz_up_c (by decide), pz_up_c (by decide), t2 13 (by decide) (by decide), t2 14 (by decide) (by decide)]
    exact r3 g hg
  · intro g hg
    rw [u2 15 (by decide), u2 16 (by decide), eM4, pz_up_c (by decide), pz_up_c (by decide)]
    exact t3 g hg
theorem sp_place (P : Nat → Prop) : ∀ n, ∃ p0, p0 ≤ n ∧ (∀ u, u < p0 → P u) ∧ (p0 = n ∨ (p0 < n ∧ ¬ P p0)) := by
  intro n
  induction n with
  | zero => exact ⟨0, Nat.le_refl 0, fun u hu => absurd hu (Nat.not_lt_zero u), Or.inl rfl⟩
  | succ n ih =>
    obtain ⟨p0, h1, h2, h3⟩ := ih
    rcases h3 with h3 | ⟨h3, h4⟩
    · subst h3
      by_cases q : P p0
      · refine ⟨p0 + 1, Nat.le_refl _, fun u hu => ?_, Or.inl rfl⟩
        by_cases e : u = p0
        · rw [e]
          exact q
        · exact h2 u (by omega)
      · exact ⟨p0, by omega, h2, Or.inr ⟨by omega, q⟩⟩
    · exact ⟨p0, by omega, h2, Or.inr ⟨by omega, h4⟩⟩
theorem sp_fields (c : Nat → Int32) : ∃ F, sp_is 1 (c 1) → c 1 = nI (48 + F) ∧ 2 ≤ F ∧ F ≤ 6 := by
  by_cases h : sp_is 1 (c 1)
  · obtain ⟨v, h2, h6, e⟩ := sp_is_1.mp h
    exact ⟨v, fun _ => ⟨e, h2, h6⟩⟩
  · exact ⟨0, fun q => absurd q h⟩
