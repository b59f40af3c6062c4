/-! plan. -/
def sp_ask (w : Int32) : Bool := (!decide (w < 0) && !decide (nI 3 < w)) || ((!decide (w < nI 10) && !decide (nI 15 < w)) || (!decide (w < nI 20) && !decide (nI 25 < w)))
theorem cx_ask {M : pm_M} {w : Int32} : pm_Rc pm_X0 47 (0, [some (pm_i w)], [], M) = some (some (pm_i (nI (if sp_ask w = true then 1 else 0))), M) := by
  unfold sp_ask
  by_cases c0 : w < 0 <;> by_cases c3 : nI 3 < w <;> by_cases c10 : w < nI 10 <;> by_cases c15 : nI 15 < w <;> by_cases c20 : w < nI 20 <;> by_cases c25 : nI 25 < w <;> simp only [rx_47_0, rx_47_1, rx_47_4, rx_47_5, rx_47_6, rx_47_9, rx_47_10, rx_47_12, rx_47_15, rx_47_16, rx_47_18, rx_47_21, rx_47_22, rx_47_24, rx_47_27, rx_47_28, rx_47_30, rx_47_33, rx_47_34, rx_47_37, rx_47_38_0, rx_47_38_1, c0, c3, c10, c15, c20, c25, if_true, if_false, decide_true, decide_false, Bool.not_true, Bool.not_false, Bool.and_true, Bool.and_false, Bool.true_and, Bool.false_and, Bool.or_true, Bool.or_false, Bool.true_or, Bool.false_or, Bool.false_eq_true]
theorem mx_within_r {M : pm_M} {x a b : Int32} : pm_Rc pm_X0 81 (0, [some (pm_i x), some (pm_i a), some (pm_i b)], [], M) = some (some (pm_i (nI (if (!decide (x < a) && !decide (b < x)) = true then 1 else 0))), M) := by
  by_cases c1 : x < a <;> by_cases c2 : b < x <;> simp only [rx_81_0, rx_81_1, rx_81_2, rx_81_5, rx_81_6, rx_81_7, rx_81_10, rx_81_11, rx_81_14, rx_81_15_0, rx_81_15_1, c1, c2, if_true, if_false, decide_true, decide_false, Bool.not_true, Bool.not_false, Bool.and_true, Bool.and_false, Bool.true_and, Bool.false_and, Bool.false_eq_true]
theorem sp_ask_k {w : Int32} (h : sp_ask w = true) : ∃ k, w = nI k ∧ (k ≤ 3 ∨ (10 ≤ k ∧ k ≤ 15) ∨ (20 ≤ k ∧ k ≤ 25)) := by
  rcases pz_any w 26 (by omega) with hw | ⟨k, hk, rfl⟩
  · exfalso
    unfold sp_ask at h
    rcases hw with hw | ⟨hw, hw2⟩
    · have h10 : w < nI 10 := by
        rw [Int32.lt_iff_toInt_lt] at hw ⊢
        rw [nI_toInt (by omega)]
        simp at hw
        omega
      have h20 : w < nI 20 := by
        rw [Int32.lt_iff_toInt_lt] at hw ⊢
        rw [nI_toInt (by omega)]
        simp at hw
        omega
      simp [hw, h10, h20] at h
    · have h25 := pz_ge1 (n := 25) (by omega) hw2
      have h15 : nI 15 < w := by
        rw [Int32.lt_iff_toInt_lt, nI_toInt (by omega)] at h25 ⊢
        omega
      have h3 : nI 3 < w := by
        rw [Int32.lt_iff_toInt_lt, nI_toInt (by omega)] at h25 ⊢
        omega
      simp [hw, h25, h15, h3] at h
  · refine ⟨k, rfl, ?_⟩
    unfold sp_ask at h
    simp only [pz_lt (show 3 < 2147483648 by omega) (show k < 2147483648 by omega), pz_lt (show k < 2147483648 by omega) (show 10 < 2147483648 by omega), pz_lt (show 15 < 2147483648 by omega) (show k < 2147483648 by omega), pz_lt (show k < 2147483648 by omega) (show 20 < 2147483648 by omega), pz_lt (show 25 < 2147483648 by omega) (show k < 2147483648 by omega), Bool.or_eq_true, Bool.and_eq_true, Bool.not_eq_true', decide_eq_false_iff_not] at h
    omega
def sp_in (x : Int32) (N : Nat) : Prop := ¬ x < 0 ∧ x < nI N
theorem cx_sets {M : pm_M} {F n : Nat} {xs : Nat → Int32} (hF : F ≤ 6) (h1 : M 2 0 = nI F) (hn : n ≤ 60) (hx : ∀ t, t < n → M 5 t = xs t) : ∀ (dd t : Nat), t + dd = n →
    ((∀ u, t ≤ u → u < n → sp_in (xs u) (2 ^ (F - 1))) → pm_Rc pm_X0 48 (2, [some (pm_r 0), some (pm_i (nI n)), some (pm_i (nI t))], [], M) = some (some (pm_i (nI 1)), M)) ∧
    ((∃ u, t ≤ u ∧ u < n ∧ ¬ sp_in (xs u) (2 ^ (F - 1))) → pm_Rc pm_X0 48 (2, [some (pm_r 0), some (pm_i (nI n)), some (pm_i (nI t))], [], M) = some (some (pm_i (nI 0)), M)) := by
  intro dd
  induction dd with
  | zero =>
    intro t ht
    refine ⟨fun _ => ?_, fun ⟨u, a, b, _⟩ => by omega⟩
    have e : t = n := by omega
    subst e
    rw [rx_48_2]
    simp only [rx_48_0, rx_48_1, rx_48_3, rx_48_4, rx_48_7, rx_48_8, rx_48_11, rx_48_12, rx_48_13, rx_48_16, rx_48_17, rx_48_20, rx_48_21, rx_48_22, rx_48_23, rx_48_26, rx_48_29, rx_48_32, rx_48_33_0, rx_48_33_1, rx_48_34, rx_48_37, rx_48_40, rx_48_41_0, rx_48_41_1, pz_lt (show t < 2147483648 by omega) (show t < 2147483648 by omega), Nat.lt_irrefl, if_false]
  | succ dd ih =>
    intro t ht
    obtain ⟨i1, i2⟩ := ih (t + 1) (by omega)
    have hsp := cx_setsOfPosts (M := M) h1 hF
    by_cases q : sp_in (xs t) (2 ^ (F - 1))
    · have hgo : pm_Rc pm_X0 48 (2, [some (pm_r 0), some (pm_i (nI n)), some (pm_i (nI t))], [], M) = pm_Rc pm_X0 48 (2, [some (pm_r 0), some (pm_i (nI n)), some (pm_i (nI (t + 1)))], [], M) := by
        rw [rx_48_2]
        simp only [rx_48_0, rx_48_1, rx_48_3, rx_48_4, rx_48_7, rx_48_8, rx_48_11, rx_48_12, rx_48_13, rx_48_16, rx_48_17, rx_48_20, rx_48_21, rx_48_22, rx_48_23, rx_48_26, rx_48_29, rx_48_32, rx_48_33_0, rx_48_33_1, rx_48_34, rx_48_37, rx_48_40, rx_48_41_0, rx_48_41_1, pz_lt (show t < 2147483648 by omega) (show n < 2147483648 by omega), show t < n by omega, if_true, pz_ald_5 (show t < 60 by omega), hx t (by omega), pz_bind, pz_psh, q.1, if_false, hsp, q.2, pz_add, pz_nlz_i]
      rw [hgo]
      refine ⟨fun h => i1 (fun u a b => h u (by omega) b), fun ⟨u, a, b, c⟩ => i2 ⟨u, ?_, b, c⟩⟩
      by_cases e : u = t
      · rw [e] at c
        exact absurd q c
      · omega
    · refine ⟨fun h => absurd (h t (Nat.le_refl t) (by omega)) q, fun _ => ?_⟩
      rw [rx_48_2]
      by_cases q1 : xs t < 0
      · simp only [rx_48_0, rx_48_1, rx_48_3, rx_48_4, rx_48_7, rx_48_8, rx_48_11, rx_48_12, rx_48_13, rx_48_16, rx_48_17, rx_48_20, rx_48_21, rx_48_22, rx_48_23, rx_48_26, rx_48_29, rx_48_32, rx_48_33_0, rx_48_33_1, rx_48_34, rx_48_37, rx_48_40, rx_48_41_0, rx_48_41_1, pz_lt (show t < 2147483648 by omega) (show n < 2147483648 by omega), show t < n by omega, if_true, pz_ald_5 (show t < 60 by omega), hx t (by omega), pz_bind, q1]
      · have q2 : ¬ xs t < nI (2 ^ (F - 1)) := fun h => q ⟨q1, h⟩
        simp only [rx_48_0, rx_48_1, rx_48_3, rx_48_4, rx_48_7, rx_48_8, rx_48_11, rx_48_12, rx_48_13, rx_48_16, rx_48_17, rx_48_20, rx_48_21, rx_48_22, rx_48_23, rx_48_26, rx_48_29, rx_48_32, rx_48_33_0, rx_48_33_1, rx_48_34, rx_48_37, rx_48_40, rx_48_41_0, rx_48_41_1, pz_lt (show t < 2147483648 by omega) (show n < 2147483648 by omega), show t < n by omega, if_true, pz_ald_5 (show t < 60 by omega), hx t (by omega), pz_bind, pz_psh, q1, if_false, hsp, q2]
theorem mx_sets {M : pm_M} {F n a : Nat} {xs : Nat → Int32} {o1 o2 o3 o5 o6 : Option pm_V} (hF : F ≤ 6) (h1 : M 23 5 = nI F) (hn : n ≤ 60) (ha : a + n ≤ 240) (hx : ∀ t, t < n → M 26 (a + t) = xs t) : ∀ (dd t : Nat), t + dd = n → ∀ o7 : Option pm_V, o7 = some (pm_i (nI a)) →
    ((∀ u, t ≤ u → u < n → sp_in (xs u) (2 ^ (F - 1))) → pm_Rc pm_X0 111 (114, [some (pm_r 23), o1, o2, o3, some (pm_i (nI n)), o5, o6, o7, some (pm_i (nI t))], [], M) = pm_Rc pm_X0 111 (155, [some (pm_r 23), o1, o2, o3, some (pm_i (nI n)), o5, o6, some (pm_i (nI a)), some (pm_i (nI n))], [], M)) ∧
    ((∃ u, t ≤ u ∧ u < n ∧ ¬ sp_in (xs u) (2 ^ (F - 1))) → pm_Rc pm_X0 111 (114, [some (pm_r 23), o1, o2, o3, some (pm_i (nI n)), o5, o6, o7, some (pm_i (nI t))], [], M) = some (some (pm_i (-2)), M)) := by
  have hN := pz_p5 hF
  have hN1 : 1 ≤ 2 ^ (F - 1) := Nat.one_le_two_pow
  intro dd
  induction dd with
  | zero =>
    intro t ht o7 h7
    subst h7
    refine ⟨fun _ => ?_, fun ⟨u, a, b, _⟩ => by omega⟩
    have e : t = n := by omega
    subst e
    rw [rx_111_114]
    simp only [rx_111_116, rx_111_118, pz_lt (show t < 2147483648 by omega) (show t < 2147483648 by omega), Nat.lt_irrefl, if_false]
  | succ dd ih =>
    intro t ht o7 h7
    obtain ⟨i1, i2⟩ := ih (t + 1) (by omega) o7 h7
    subst h7
    have hgo : pm_Rc pm_X0 111 (114, [some (pm_r 23), o1, o2, o3, some (pm_i (nI n)), o5, o6, some (pm_i (nI a)), some (pm_i (nI t))], [], M) = pm_Rc pm_X0 111 (143, [some (pm_r 23), o1, o2, o3, some (pm_i (nI n)), o5, o6, some (pm_i (nI a)), some (pm_i (nI t))], [pm_i (nI (if (!decide (xs t < nI 0) && !decide (nI (2 ^ (F - 1) - 1) < xs t)) = true then 1 else 0))], M) := by
      rw [rx_111_114]
      simp only [rx_111_116, rx_111_118, rx_111_121, rx_111_122, rx_111_125, rx_111_127, rx_111_129, rx_111_130, rx_111_131, rx_111_132, rx_111_133, rx_111_134, rx_111_137, rx_111_138, rx_111_139, rx_111_140, pz_lt (show t < 2147483648 by omega) (show n < 2147483648 by omega), show t < n by omega, if_true, pz_add, pz_ald_26 (show a + t < 240 by omega), hx t (by omega), pz_bind, pz_psh, mx_posts h1 hF, pz_shl (show F - 1 < 31 by omega), pz_sub hN1, mx_within_r]
    rw [hgo]
    by_cases q : sp_in (xs t) (2 ^ (F - 1))
    · have q1 : ¬ xs t < nI 0 := pz_n0 q.1
      have q2 : ¬ nI (2 ^ (F - 1) - 1) < xs t := by
        have h9 := q.2
        rw [Int32.lt_iff_toInt_lt, nI_toInt (by omega)] at h9
        rw [Int32.lt_iff_toInt_lt, nI_toInt (by omega)]
        omega
      simp only [q1, q2, decide_false, Bool.not_false, Bool.and_true, if_true, rx_111_143, rx_111_146, rx_111_148, rx_111_149, rx_111_152, pz_n10, if_false, pz_add, pz_nlz_i]
      refine ⟨fun h => i1 (fun u a b => h u (by omega) b), fun ⟨u, a, b, c⟩ => i2 ⟨u, ?_, b, c⟩⟩
      by_cases e : u = t
      · rw [e] at c
        exact absurd q c
      · omega
    · refine ⟨fun h => absurd (h t (Nat.le_refl t) (by omega)) q, fun _ => ?_⟩
      by_cases q1 : xs t < 0
      · simp only [pz_c0 q1, decide_true, Bool.not_true, Bool.false_and, Bool.false_eq_true, if_false, rx_111_143, rx_111_146, rx_111_148, rx_111_149, rx_111_152, pz_n00, if_true]
      · have q2 : nI (2 ^ (F - 1) - 1) < xs t := by
          have q3 : ¬ xs t < nI (2 ^ (F - 1)) := fun h => q ⟨q1, h⟩
          exact pz_ge1 (n := 2 ^ (F - 1) - 1) (by omega) (by rw [show 2 ^ (F - 1) - 1 + 1 = 2 ^ (F - 1) by omega]; exact q3)
        simp only [pz_n0 q1, q2, decide_true, decide_false, Bool.not_true, Bool.not_false, Bool.true_and, Bool.false_eq_true, if_false, rx_111_143, rx_111_146, rx_111_148, rx_111_149, rx_111_152, pz_n00, if_true]
/-- what is told of a plan -/
def sp_tp (F D : Nat) (nd hd kd lm rn pp : Nat → Nat) (k : Nat) : Int32 :=
  if k = 0 then nI (sp_s F hd kd lm rn pp 0 D).1 else if k = 1 then (sp_s F hd kd lm rn pp 0 D).2.2.1 else if k = 2 then (sp_s F hd kd lm rn pp 0 D).2.2.2 else if k = 3 then nI (sp_en nd (sp_a F kd lm rn pp 0 D) F)
  else if k < 20 then (if k - 10 < F then nI (sp_w F kd lm rn pp 0 D (k - 10)) else -9) else (if k - 20 < F then nI (sp_a F kd lm rn pp 0 D (k - 20)) else -9)
theorem cx_plan_l {F D : Nat} {w : Int32} {nd hd kd lm rn pp : Nat → Nat} (hB : iv_B F D nd hd kd lm rn) (hpp : ∀ t, t < D → pp t < 2147483648) : ∀ (dd t : Nat), t + dd = D → ∀ M : pm_M, (∀ u, u < D → M 5 u = nI (pp u)) → iv_L M F D nd hd kd lm rn → iv_S M F (sp_w F kd lm rn pp 0 t) (sp_a F kd lm rn pp 0 t) (sp_s F hd kd lm rn pp 0 t) →
    ∃ M2, pm_Rc pm_X0 49 (9, [some (pm_r 0), some (pm_i w), some (pm_i (nI t))], [], M) = pm_Rc pm_X0 49 (54, [some (pm_r 0), some (pm_i w), some (pm_i (nI D))], [], M2) ∧ fr_S M M2 ∧ iv_S M2 F (sp_w F kd lm rn pp 0 D) (sp_a F kd lm rn pp 0 D) (sp_s F hd kd lm rn pp 0 D) := by
  obtain ⟨b1, b2, b3, b4, b5, b6⟩ := id hB
  intro dd
  induction dd with
  | zero =>
    intro t ht M h5 hL hS
    have e : t = D := by omega
    subst e
    refine ⟨M, ?_, fr_S.refl, hS⟩
    rw [rx_49_9]
    simp only [rx_49_10, rx_49_11, rx_49_14, rx_49_17, hL.2.1, pz_lt (show t < 2147483648 by omega) (show t < 2147483648 by omega), Nat.lt_irrefl, if_false]
  | succ dd ih =>
    intro t ht M h5 hL hS
    obtain ⟨M1, r1, r2, r3⟩ := cx_pass (C := 0) (t := t) (rr := rn) (pp := pp) hL hB b6 (hpp t (by omega)) (by omega) (by omega) hS
    obtain ⟨M2, t1, t2, t3⟩ := ih (t + 1) (by omega) M1 (fun u hu => by rw [r2 5 (by decide) (by decide) (by decide)]; exact h5 u hu) (hL.fr r2) r3
    refine ⟨M2, ?_, r2.trans t2, t3⟩
    rw [rx_49_9]
    simp only [rx_49_10, rx_49_11, rx_49_14, rx_49_17, rx_49_20, rx_49_21, rx_49_24, rx_49_25, rx_49_28, rx_49_29, rx_49_30, rx_49_33, rx_49_36, rx_49_37, rx_49_38, rx_49_39, rx_49_42, rx_49_43, rx_49_44, rx_49_45, hL.2.1, pz_lt (show t < 2147483648 by omega) (show D < 2147483648 by omega), show t < D by omega, if_true, pz_ald_17 (show t < 8 by omega), hL.2.2.2.2.2.2 t (by omega), pz_ald_5 (show t < 60 by omega), h5 t (by omega), pz_bind]
    rw [r1]
    simp only [pz_bind, pz_psh0, rx_49_48, rx_49_51, pz_add, pz_nlz_i]
    exact t1
theorem cx_plan {F D k : Nat} {nd hd kd lm rn pp : Nat → Nat} {M : pm_M} (hB : iv_B F D nd hd kd lm rn) (hpp : ∀ t, t < D → pp t < 2147483648) (h5 : ∀ u, u < D → M 5 u = nI (pp u)) (hL : iv_L M F D nd hd kd lm rn) (hk : k ≤ 3 ∨ (10 ≤ k ∧ k ≤ 15) ∨ (20 ≤ k ∧ k ≤ 25)) :
    ∃ M2, pm_Rc pm_X0 49 (0, [some (pm_r 0), some (pm_i (nI k)), none], [], M) = some (some (pm_i (sp_tp F D nd hd kd lm rn pp k)), M2) ∧ fr_S M M2 := by
  have hF : F ≤ 6 := by
    have := hB.1
    omega
  have hD : D ≤ 8 := by
    have := hB.1
    omega
  obtain ⟨M1, r1, r2, r3⟩ := cx_begin (M := M) F hF
  obtain ⟨M2, t1, t2, t3⟩ := cx_plan_l (w := nI k) hB hpp D 0 (by omega) M1 (fun u hu => by rw [r2 5 (by decide) (by decide) (by decide)]; exact h5 u hu) (hL.fr r2) r3
  have hL2 := (hL.fr r2).fr t2
  refine ⟨M2, ?_, r2.trans t2⟩
  have hgo : pm_Rc pm_X0 49 (0, [some (pm_r 0), some (pm_i (nI k)), none], [], M) = pm_Rc pm_X0 49 (54, [some (pm_r 0), some (pm_i (nI k)), some (pm_i (nI D))], [], M2) := by
    rw [← t1]
    simp only [rx_49_0, rx_49_1, rx_49_4]
    rw [r1]
    simp only [pz_bind, pz_psh0, rx_49_7, rx_49_8, pz_nlz_i]
  rw [hgo]
  unfold sp_tp
  by_cases k0 : k = 0
  · subst k0
    simp only [rx_49_54, rx_49_55, rx_49_84, rx_49_85, rx_49_88, rx_49_91, rx_49_92, rx_49_93, rx_49_96, rx_49_99, rx_49_100, rx_49_101, rx_49_104, rx_49_107, rx_49_108, rx_49_109, rx_49_112, rx_49_113, rx_49_116, rx_49_119, rx_49_120, rx_49_121, rx_49_123, rx_49_126, rx_49_127, rx_49_128, rx_49_131, rx_49_134, rx_49_135, rx_49_137, rx_49_138, rx_49_141, rx_49_144, rx_49_145, rx_49_146, rx_49_149, rx_49_152, rx_49_153, rx_49_155, rx_49_156, rx_49_159, if_true, t3.2.2.1]
  · have n0 : (nI k = nI 0) = False := by
      rw [pz_eq (by omega) (by omega)]
      exact eq_false k0
    by_cases k1 : k = 1
    · subst k1
      simp only [rx_49_54, rx_49_55, rx_49_84, rx_49_85, rx_49_88, rx_49_91, rx_49_92, rx_49_93, rx_49_96, rx_49_99, rx_49_100, rx_49_101, rx_49_104, rx_49_107, rx_49_108, rx_49_109, rx_49_112, rx_49_113, rx_49_116, rx_49_119, rx_49_120, rx_49_121, rx_49_123, rx_49_126, rx_49_127, rx_49_128, rx_49_131, rx_49_134, rx_49_135, rx_49_137, rx_49_138, rx_49_141, rx_49_144, rx_49_145, rx_49_146, rx_49_149, rx_49_152, rx_49_153, rx_49_155, rx_49_156, rx_49_159, n0, if_true, if_false, k0, t3.2.2.2.2.1]
    · have n1 : (nI k = nI 1) = False := by
        rw [pz_eq (by omega) (by omega)]
        exact eq_false k1
      by_cases k2 : k = 2
      · subst k2
        simp only [rx_49_54, rx_49_55, rx_49_84, rx_49_85, rx_49_88, rx_49_91, rx_49_92, rx_49_93, rx_49_96, rx_49_99, rx_49_100, rx_49_101, rx_49_104, rx_49_107, rx_49_108, rx_49_109, rx_49_112, rx_49_113, rx_49_116, rx_49_119, rx_49_120, rx_49_121, rx_49_123, rx_49_126, rx_49_127, rx_49_128, rx_49_131, rx_49_134, rx_49_135, rx_49_137, rx_49_138, rx_49_141, rx_49_144, rx_49_145, rx_49_146, rx_49_149, rx_49_152, rx_49_153, rx_49_155, rx_49_156, rx_49_159, n0, n1, if_true, if_false, k0, k1, t3.2.2.2.2.2]
      · have n2 : (nI k = nI 2) = False := by
          rw [pz_eq (by omega) (by omega)]
          exact eq_false k2
        by_cases k3 : k = 3
        · have ha9 : ∀ g, sp_a F kd lm rn pp 0 D g ≤ 1000 := fun g => by
            have := sp_a_le F kd lm rn pp 0 hB.2.2.2.2.2 D g
            omega
          subst k3
          simp only [rx_49_54, rx_49_55, rx_49_84, rx_49_85, rx_49_88, rx_49_91, rx_49_92, rx_49_93, rx_49_96, rx_49_99, rx_49_100, rx_49_101, rx_49_104, rx_49_107, rx_49_108, rx_49_109, rx_49_112, rx_49_113, rx_49_116, rx_49_119, rx_49_120, rx_49_121, rx_49_123, rx_49_126, rx_49_127, rx_49_128, rx_49_131, rx_49_134, rx_49_135, rx_49_137, rx_49_138, rx_49_141, rx_49_144, rx_49_145, rx_49_146, rx_49_149, rx_49_152, rx_49_153, rx_49_155, rx_49_156, rx_49_159, n0, n1, n2, if_true, if_false, k0, k1, k2, cx_cont hF hL2.1 hL2.2.2.1 t3.2.1 hB.2.1 ha9, pz_bind, pz_psh]
        · have n3 : (nI k = nI 3) = False := by
            rw [pz_eq (by omega) (by omega)]
            exact eq_false k3
          by_cases k20 : k < 20
          · by_cases q : k - 10 < F
            · simp only [rx_49_54, rx_49_55, rx_49_84, rx_49_85, rx_49_88, rx_49_91, rx_49_92, rx_49_93, rx_49_96, rx_49_99, rx_49_100, rx_49_101, rx_49_104, rx_49_107, rx_49_108, rx_49_109, rx_49_112, rx_49_113, rx_49_116, rx_49_119, rx_49_120, rx_49_121, rx_49_123, rx_49_126, rx_49_127, rx_49_128, rx_49_131, rx_49_134, rx_49_135, rx_49_137, rx_49_138, rx_49_141, rx_49_144, rx_49_145, rx_49_146, rx_49_149, rx_49_152, rx_49_153, rx_49_155, rx_49_156, rx_49_159, n0, n1, n2, n3, if_false, k0, k1, k2, k3, pz_lt (show k < 2147483648 by omega) (show 20 < 2147483648 by omega), k20, if_true, pz_sub (show 10 ≤ k by omega), rx_50_0, rx_50_1, rx_50_4, rx_50_5, rx_50_8, rx_50_11, rx_50_12, rx_50_13, rx_50_14, rx_50_17, rx_50_19, cx_hasField_y hL2.1 hF q, pz_bind, pz_psh, pz_n10, pz_ald_21 (show k - 10 < 6 by omega), t3.1 (k - 10) q, q]
            · have ho : pz_out (nI (k - 10)) F := Or.inr ⟨pz_lt0 (by omega), by rw [pz_lt (by omega) (by omega)]; exact q⟩
              simp only [rx_49_54, rx_49_55, rx_49_84, rx_49_85, rx_49_88, rx_49_91, rx_49_92, rx_49_93, rx_49_96, rx_49_99, rx_49_100, rx_49_101, rx_49_104, rx_49_107, rx_49_108, rx_49_109, rx_49_112, rx_49_113, rx_49_116, rx_49_119, rx_49_120, rx_49_121, rx_49_123, rx_49_126, rx_49_127, rx_49_128, rx_49_131, rx_49_134, rx_49_135, rx_49_137, rx_49_138, rx_49_141, rx_49_144, rx_49_145, rx_49_146, rx_49_149, rx_49_152, rx_49_153, rx_49_155, rx_49_156, rx_49_159, n0, n1, n2, n3, if_false, k0, k1, k2, k3, pz_lt (show k < 2147483648 by omega) (show 20 < 2147483648 by omega), k20, if_true, pz_sub (show 10 ≤ k by omega), rx_50_0, rx_50_1, rx_50_4, rx_50_5, rx_50_8, rx_50_11, rx_50_12, rx_50_13, rx_50_14, rx_50_17, rx_50_19, cx_hasField_n hL2.1 ho, pz_bind, pz_psh, pz_n00, q]
          · by_cases q : k - 20 < F
            · simp only [rx_49_54, rx_49_55, rx_49_84, rx_49_85, rx_49_88, rx_49_91, rx_49_92, rx_49_93, rx_49_96, rx_49_99, rx_49_100, rx_49_101, rx_49_104, rx_49_107, rx_49_108, rx_49_109, rx_49_112, rx_49_113, rx_49_116, rx_49_119, rx_49_120, rx_49_121, rx_49_123, rx_49_126, rx_49_127, rx_49_128, rx_49_131, rx_49_134, rx_49_135, rx_49_137, rx_49_138, rx_49_141, rx_49_144, rx_49_145, rx_49_146, rx_49_149, rx_49_152, rx_49_153, rx_49_155, rx_49_156, rx_49_159, n0, n1, n2, n3, if_false, k0, k1, k2, k3, pz_lt (show k < 2147483648 by omega) (show 20 < 2147483648 by omega), k20, pz_sub (show 20 ≤ k by omega), rx_50_0, rx_50_1, rx_50_4, rx_50_5, rx_50_8, rx_50_11, rx_50_12, rx_50_13, rx_50_14, rx_50_17, rx_50_19, cx_hasField_y hL2.1 hF q, pz_bind, pz_psh, pz_n10, pz_ald_22 (show k - 20 < 6 by omega), t3.2.1 (k - 20) q, q, if_true]
            · have ho : pz_out (nI (k - 20)) F := Or.inr ⟨pz_lt0 (by omega), by rw [pz_lt (by omega) (by omega)]; exact q⟩
              simp only [rx_49_54, rx_49_55, rx_49_84, rx_49_85, rx_49_88, rx_49_91, rx_49_92, rx_49_93, rx_49_96, rx_49_99, rx_49_100, rx_49_101, rx_49_104, rx_49_107, rx_49_108, rx_49_109, rx_49_112, rx_49_113, rx_49_116, rx_49_119, rx_49_120, rx_49_121, rx_49_123, rx_49_126, rx_49_127, rx_49_128, rx_49_131, rx_49_134, rx_49_135, rx_49_137, rx_49_138, rx_49_141, rx_49_144, rx_49_145, rx_49_146, rx_49_149, rx_49_152, rx_49_153, rx_49_155, rx_49_156, rx_49_159, n0, n1, n2, n3, if_false, k0, k1, k2, k3, pz_lt (show k < 2147483648 by omega) (show 20 < 2147483648 by omega), k20, pz_sub (show 20 ≤ k by omega), rx_50_0, rx_50_1, rx_50_4, rx_50_5, rx_50_8, rx_50_11, rx_50_12, rx_50_13, rx_50_14, rx_50_17, rx_50_19, cx_hasField_n hL2.1 ho, pz_bind, pz_psh, pz_n00, q, if_true]
theorem mx_tell {F D k : Nat} {nd hd kd lm rn pp : Nat → Nat} {M : pm_M} (hB : iv_B F D nd hd kd lm rn) (hL : iv_N M F D nd hd kd lm rn) (hZ : iv_Z M F (sp_w F kd lm rn pp 0 D) (sp_a F kd lm rn pp 0 D) (sp_s F hd kd lm rn pp 0 D)) (hk : k ≤ 3 ∨ (10 ≤ k ∧ k ≤ 15) ∨ (20 ≤ k ∧ k ≤ 25)) : pm_Rc pm_X0 113 (0, [some (pm_r 23), some (pm_i (nI k)), none], [], M) = some (some (pm_i (sp_tp F D nd hd kd lm rn pp k)), M) := by
  have hF : F ≤ 6 := by
    have := hB.1
    omega
  have hD : D ≤ 8 := by
    have := hB.1
    omega
  unfold sp_tp
  by_cases k0 : k = 0
  · subst k0
    simp only [rx_113_0, rx_113_1, rx_113_32, rx_113_33, rx_113_36, rx_113_37, rx_113_38, rx_113_41, rx_113_42, rx_113_43, rx_113_46, rx_113_47, rx_113_48, rx_113_51, rx_113_52, rx_113_53, rx_113_55, rx_113_56, rx_113_57, rx_113_58, rx_113_59, rx_113_62, rx_113_65, rx_113_67, rx_113_68, rx_113_69, rx_113_71, rx_113_74, rx_113_75, rx_113_78, rx_113_79, rx_113_80, rx_113_83, rx_113_84, rx_113_87, rx_113_88, rx_113_89, if_true, hZ.2.2.1]
  · have n0 : (nI k = nI 0) = False := by
      rw [pz_eq (by omega) (by omega)]
      exact eq_false k0
    by_cases k1 : k = 1
    · subst k1
      simp only [rx_113_0, rx_113_1, rx_113_32, rx_113_33, rx_113_36, rx_113_37, rx_113_38, rx_113_41, rx_113_42, rx_113_43, rx_113_46, rx_113_47, rx_113_48, rx_113_51, rx_113_52, rx_113_53, rx_113_55, rx_113_56, rx_113_57, rx_113_58, rx_113_59, rx_113_62, rx_113_65, rx_113_67, rx_113_68, rx_113_69, rx_113_71, rx_113_74, rx_113_75, rx_113_78, rx_113_79, rx_113_80, rx_113_83, rx_113_84, rx_113_87, rx_113_88, rx_113_89, n0, if_true, if_false, k0, hZ.2.2.2.1]
    · have n1 : (nI k = nI 1) = False := by
        rw [pz_eq (by omega) (by omega)]
        exact eq_false k1
      by_cases k2 : k = 2
      · subst k2
        simp only [rx_113_0, rx_113_1, rx_113_32, rx_113_33, rx_113_36, rx_113_37, rx_113_38, rx_113_41, rx_113_42, rx_113_43, rx_113_46, rx_113_47, rx_113_48, rx_113_51, rx_113_52, rx_113_53, rx_113_55, rx_113_56, rx_113_57, rx_113_58, rx_113_59, rx_113_62, rx_113_65, rx_113_67, rx_113_68, rx_113_69, rx_113_71, rx_113_74, rx_113_75, rx_113_78, rx_113_79, rx_113_80, rx_113_83, rx_113_84, rx_113_87, rx_113_88, rx_113_89, n0, n1, if_true, if_false, k0, k1, hZ.2.2.2.2]
      · have n2 : (nI k = nI 2) = False := by
          rw [pz_eq (by omega) (by omega)]
          exact eq_false k2
        by_cases k3 : k = 3
        · have ha9 : ∀ g, sp_a F kd lm rn pp 0 D g ≤ 1000 := fun g => by
            have := sp_a_le F kd lm rn pp 0 hB.2.2.2.2.2 D g
            omega
          subst k3
          simp only [rx_113_0, rx_113_1, rx_113_32, rx_113_33, rx_113_36, rx_113_37, rx_113_38, rx_113_41, rx_113_42, rx_113_43, rx_113_46, rx_113_47, rx_113_48, rx_113_51, rx_113_52, rx_113_53, rx_113_55, rx_113_56, rx_113_57, rx_113_58, rx_113_59, rx_113_62, rx_113_65, rx_113_67, rx_113_68, rx_113_69, rx_113_71, rx_113_74, rx_113_75, rx_113_78, rx_113_79, rx_113_80, rx_113_83, rx_113_84, rx_113_87, rx_113_88, rx_113_89, n0, n1, n2, if_true, if_false, k0, k1, k2, mx_cont hF hL.1 hL.2.2.1 hZ.2.1 hB.2.1 ha9, pz_bind, pz_psh]
        · have n3 : (nI k = nI 3) = False := by
            rw [pz_eq (by omega) (by omega)]
            exact eq_false k3
          have n10 : (nI 10 = 0) = False := by simp [show ¬ (nI 10 = 0) by decide]
          have erem : nI k - nI k / nI 10 * nI 10 = nI (k % 10) := pk_rem (by omega) (by omega) (by omega)
          by_cases k20 : k < 20
          · have em : k % 10 = k - 10 := by omega
            rw [em] at erem
            by_cases q : k - 10 < F
            · simp only [rx_113_0, rx_113_1, rx_113_32, rx_113_33, rx_113_36, rx_113_37, rx_113_38, rx_113_41, rx_113_42, rx_113_43, rx_113_46, rx_113_47, rx_113_48, rx_113_51, rx_113_52, rx_113_53, rx_113_55, rx_113_56, rx_113_57, rx_113_58, rx_113_59, rx_113_62, rx_113_65, rx_113_67, rx_113_68, rx_113_69, rx_113_71, rx_113_74, rx_113_75, rx_113_78, rx_113_79, rx_113_80, rx_113_83, rx_113_84, rx_113_87, rx_113_88, rx_113_89, n0, n1, n2, n3, n10, if_false, k0, k1, k2, k3, erem, mx_isField_y hL.1 hF q, pz_bind, pz_psh, pz_n10, pz_lt (show k < 2147483648 by omega) (show 20 < 2147483648 by omega), k20, if_true, pz_ald_37 (show k - 10 < 6 by omega), hZ.1 (k - 10) q, q, pz_nlz_i]
            · have ho : pz_out (nI (k - 10)) F := Or.inr ⟨pz_lt0 (by omega), by rw [pz_lt (by omega) (by omega)]; exact q⟩
              simp only [rx_113_0, rx_113_1, rx_113_32, rx_113_33, rx_113_36, rx_113_37, rx_113_38, rx_113_41, rx_113_42, rx_113_43, rx_113_46, rx_113_47, rx_113_48, rx_113_51, rx_113_52, rx_113_53, rx_113_55, rx_113_56, rx_113_57, rx_113_58, rx_113_59, rx_113_62, rx_113_65, rx_113_67, rx_113_68, rx_113_69, rx_113_71, rx_113_74, rx_113_75, rx_113_78, rx_113_79, rx_113_80, rx_113_83, rx_113_84, rx_113_87, rx_113_88, rx_113_89, n0, n1, n2, n3, n10, if_false, k0, k1, k2, k3, erem, mx_isField_n hL.1 ho, pz_bind, pz_psh, pz_n00, k20, if_true, q, pz_nlz_i]
          · have em : k % 10 = k - 20 := by omega
            rw [em] at erem
            by_cases q : k - 20 < F
            · simp only [rx_113_0, rx_113_1, rx_113_32, rx_113_33, rx_113_36, rx_113_37, rx_113_38, rx_113_41, rx_113_42, rx_113_43, rx_113_46, rx_113_47, rx_113_48, rx_113_51, rx_113_52, rx_113_53, rx_113_55, rx_113_56, rx_113_57, rx_113_58, rx_113_59, rx_113_62, rx_113_65, rx_113_67, rx_113_68, rx_113_69, rx_113_71, rx_113_74, rx_113_75, rx_113_78, rx_113_79, rx_113_80, rx_113_83, rx_113_84, rx_113_87, rx_113_88, rx_113_89, n0, n1, n2, n3, n10, if_false, k0, k1, k2, k3, erem, mx_isField_y hL.1 hF q, pz_bind, pz_psh, pz_n10, pz_lt (show k < 2147483648 by omega) (show 20 < 2147483648 by omega), k20, if_true, pz_ald_38 (show k - 20 < 6 by omega), hZ.2.1 (k - 20) q, q, pz_nlz_i]
            · have ho : pz_out (nI (k - 20)) F := Or.inr ⟨pz_lt0 (by omega), by rw [pz_lt (by omega) (by omega)]; exact q⟩
              simp only [rx_113_0, rx_113_1, rx_113_32, rx_113_33, rx_113_36, rx_113_37, rx_113_38, rx_113_41, rx_113_42, rx_113_43, rx_113_46, rx_113_47, rx_113_48, rx_113_51, rx_113_52, rx_113_53, rx_113_55, rx_113_56, rx_113_57, rx_113_58, rx_113_59, rx_113_62, rx_113_65, rx_113_67, rx_113_68, rx_113_69, rx_113_71, rx_113_74, rx_113_75, rx_113_78, rx_113_79, rx_113_80, rx_113_83, rx_113_84, rx_113_87, rx_113_88, rx_113_89, n0, n1, n2, n3, n10, if_false, k0, k1, k2, k3, erem, mx_isField_n hL.1 ho, pz_bind, pz_psh, pz_n00, k20, if_true, q, pz_nlz_i]
