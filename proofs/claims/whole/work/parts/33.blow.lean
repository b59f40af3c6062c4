/-! The class's runs of days. -/
theorem cx_pass {F D t C : Nat} {nd hd kd lm rn rr pp : Nat → Nat} {M : pm_M} (hL : iv_L M F D nd hd kd lm rn) (hB : iv_B F D nd hd kd lm rn) (hr : ∀ t, rr t ≤ 9) (hP : pp t < 2147483648) (hC : C < 2147483648) (ht : t ≤ 8) (hS : iv_S M F (sp_w F kd lm rr pp C t) (sp_a F kd lm rr pp C t) (sp_s F hd kd lm rr pp C t)) :
    ∃ M2, pm_Rc pm_X0 28 (0, [some (pm_r 3), some (pm_r 2), some (pm_i (nI t)), some (pm_i (nI (rr t))), some (pm_i (nI (pp t))), some (pm_i (nI C)), none, none, none], [], M) = some (none, M2) ∧ fr_S M M2 ∧ iv_S M2 F (sp_w F kd lm rr pp C (t + 1)) (sp_a F kd lm rr pp C (t + 1)) (sp_s F hd kd lm rr pp C (t + 1)) := by
  have hF : F ≤ 6 := by
    have := hB.1
    omega
  have hn := sp_s_n F hd kd lm rr pp C t
  have hn2 : t * F ≤ 8 * 6 := Nat.mul_le_mul ht hF
  obtain ⟨M2, r1, r2, r3⟩ := cx_pass_l (t := t) (r := rr t) (P := pp t) (C := C) (w := sp_w F kd lm rr pp C t) (a := sp_a F kd lm rr pp C t) (s0 := sp_s F hd kd lm rr pp C t) (o3 := some (pm_i (nI (rr t)))) hB (hr t) hP hC (fun g => by
    have := sp_w_le F kd lm rr pp C hr t g
    omega) (by omega) F 0 (by omega) M none hL (hS.congr (fun g _ => by simp) (fun g _ => by simp))
  refine ⟨M2, ?_, r2, r3⟩
  simp only [rx_28_0, rx_28_1, rx_28_3, rx_28_4, pz_nlz_i, pz_nlz_n]
  exact r1
theorem cx_begin {M : pm_M} (F : Nat) (hF : F ≤ 6) : ∃ M2, pm_Rc pm_X0 27 (0, [some (pm_r 3)], [], M) = some (none, M2) ∧ fr_S M M2 ∧ iv_S M2 F (fun _ => 0) (fun _ => 0) (0, 0, -9, -9) := by
  simp only [rx_27_0, rx_27_1, rx_27_4, rx_27_5, rx_27_8, rx_27_9, rx_27_12, rx_27_13, rx_27_16, rx_27_17, rx_27_18, rx_27_21, rx_27_22, rx_27_23, rx_27_26, rx_27_27, rx_27_29, rx_27_32, rx_27_33, rx_27_35, rx_27_38, cx_fill (c := 21) (n := 6) rfl (by decide), cx_fill (c := 22) (n := 6) rfl (by decide), pz_bind, pz_psh0]
  refine ⟨_, rfl, fun k q1 q2 q3 => ?_, fun g hg => ?_, fun g hg => ?_, ?_, ?_, ?_, ?_⟩
  · simp only [pz_up_c q1, pz_fl_c q3, pz_fl_c q2]
  · simp only [pz_up_c (show (21 : Nat) ≠ 3 by decide), pz_fl_c (show (21 : Nat) ≠ 22 by decide)]
    rw [pz_fl_i (by omega)]
  · simp only [pz_up_c (show (22 : Nat) ≠ 3 by decide)]
    rw [pz_fl_i (by omega)]
  all_goals simp [pz_up_i]
theorem cx_blow_l {F D t P C : Nat} {nd hd kd lm rn : Nat → Nat} (hB : iv_B F D nd hd kd lm rn) (ht : t ≤ D) (hP : P < 2147483648) (hC : C < 2147483648) :
    ∀ (d i : Nat), i + d = t → ∀ M : pm_M, iv_L M F D nd hd kd lm rn → iv_S M F (sp_w F kd lm rn (fun _ => P) C i) (sp_a F kd lm rn (fun _ => P) C i) (sp_s F hd kd lm rn (fun _ => P) C i) →
    ∃ M2, pm_Rc pm_X0 41 (10, [some (pm_r 0), some (pm_i (nI t)), some (pm_i (nI P)), some (pm_i (nI C)), some (pm_i (nI i))], [], M) = some (none, M2) ∧ fr_S M M2 ∧ iv_S M2 F (sp_w F kd lm rn (fun _ => P) C t) (sp_a F kd lm rn (fun _ => P) C t) (sp_s F hd kd lm rn (fun _ => P) C t) := by
  obtain ⟨b1, b2, b3, b4, b5, b6⟩ := id hB
  intro d
  induction d with
  | zero =>
    intro i hi M hL hS
    have e : i = t := by omega
    subst e
    refine ⟨M, ?_, fr_S.refl, hS⟩
    simp only [rx_41_0, rx_41_1, rx_41_4, rx_41_7, rx_41_8, rx_41_10, rx_41_12, rx_41_13, rx_41_16, rx_41_17, rx_41_20, rx_41_21, rx_41_24, rx_41_26, rx_41_27, rx_41_30, rx_41_33, rx_41_35, rx_41_36, rx_41_37, rx_41_38, rx_41_41, rx_41_44, rx_41_47, pz_lt (show i < 2147483648 by omega) (show i < 2147483648 by omega), Nat.lt_irrefl, if_false]
  | succ d ih =>
    intro i hi M hL hS
    obtain ⟨h1, h2, h3, h4, h5, h6, h7⟩ := id hL
    have hlt : i < t := by omega
    obtain ⟨M2, r1, r2, r3⟩ := cx_pass (C := C) (t := i) (rr := rn) (pp := fun _ => P) hL hB b6 hP hC (by omega) hS
    obtain ⟨M3, t1, t2, t3⟩ := ih (i + 1) (by omega) M2 (hL.fr r2) r3
    refine ⟨M3, ?_, r2.trans t2, t3⟩
    rw [rx_41_10]
    simp only [rx_41_0, rx_41_1, rx_41_4, rx_41_7, rx_41_8, rx_41_12, rx_41_13, rx_41_16, rx_41_17, rx_41_20, rx_41_21, rx_41_24, rx_41_26, rx_41_27, rx_41_30, rx_41_33, rx_41_35, rx_41_36, rx_41_37, rx_41_38, rx_41_41, rx_41_44, rx_41_47, pz_lt (show i < 2147483648 by omega) (show t < 2147483648 by omega), hlt, if_true, pz_ald_17 (show i < 8 by omega), h7 i (show i < D by omega), pz_bind]
    rw [r1]
    simp only [pz_bind, pz_psh0, rx_41_0, rx_41_1, rx_41_4, rx_41_7, rx_41_8, rx_41_12, rx_41_13, rx_41_16, rx_41_17, rx_41_20, rx_41_21, rx_41_24, rx_41_26, rx_41_27, rx_41_30, rx_41_33, rx_41_35, rx_41_36, rx_41_37, rx_41_38, rx_41_41, rx_41_44, rx_41_47, pz_add, pz_nlz_i]
    exact t1
theorem cx_blow {F D t P C : Nat} {nd hd kd lm rn : Nat → Nat} {M : pm_M} (hL : iv_L M F D nd hd kd lm rn) (hB : iv_B F D nd hd kd lm rn) (ht : t ≤ D) (hP : P < 2147483648) (hC : C < 2147483648) :
    ∃ M2, pm_Rc pm_X0 41 (0, [some (pm_r 0), some (pm_i (nI t)), some (pm_i (nI P)), some (pm_i (nI C)), none], [], M) = some (none, M2) ∧ fr_S M M2 ∧ iv_S M2 F (sp_w F kd lm rn (fun _ => P) C t) (sp_a F kd lm rn (fun _ => P) C t) (sp_s F hd kd lm rn (fun _ => P) C t) := by
  have hF : F ≤ 6 := by
    have := hB.1
    omega
  obtain ⟨M1, r1, r2, r3⟩ := cx_begin (M := M) F hF
  obtain ⟨M2, t1, t2, t3⟩ := cx_blow_l hB ht hP hC t 0 (by omega) M1 (hL.fr r2) r3
  refine ⟨M2, ?_, r2.trans t2, t3⟩
  simp only [rx_41_0, rx_41_1, rx_41_4]
  rw [r1]
  simp only [pz_bind, pz_psh0, rx_41_7, rx_41_8, pz_nlz_i]
  exact t1
/-! who has enough -/
def sp_en (nd a : Nat → Nat) : Nat → Nat
  | 0 => 0
  | f + 1 => if nd f ≤ a f then sp_en nd a f ||| 2 ^ f else sp_en nd a f
theorem cx_cont_l {F : Nat} {nd a : Nat → Nat} {M : pm_M} (hF : F ≤ 6) (h1 : M 2 0 = nI F) (hn : ∀ f, f < F → M 13 f = nI (nd f)) (ha : ∀ f, f < F → M 22 f = nI (a f)) (hn9 : ∀ f, nd f ≤ 9) (ha9 : ∀ f, a f ≤ 1000) :
    ∀ (d f : Nat), f + d = F → pm_Rc pm_X0 30 (4, [some (pm_r 3), some (pm_r 2), some (pm_i (nI (sp_en nd a f))), some (pm_i (nI f))], [], M) = some (some (pm_i (nI (sp_en nd a F))), M) := by
  intro d
  induction d with
  | zero =>
    intro f hf
    have e : f = F := by omega
    subst e
    rw [rx_30_4]
    simp only [rx_30_0, rx_30_1, rx_30_2, rx_30_3, rx_30_5, rx_30_6, rx_30_9, rx_30_12, rx_30_13, rx_30_16, rx_30_17, rx_30_18, rx_30_19, rx_30_22, rx_30_23, rx_30_24, rx_30_27, rx_30_28, rx_30_29, rx_30_30, rx_30_31, rx_30_32, rx_30_33, rx_30_36, rx_30_39, rx_30_40, h1, pz_lt (show f < 2147483648 by omega) (show f < 2147483648 by omega), Nat.lt_irrefl, if_false]
  | succ d ih =>
    intro f hf
    have hlt : f < F := by omega
    have q1 := hn9 f
    have q2 := ha9 f
    rw [rx_30_4]
    simp only [rx_30_0, rx_30_1, rx_30_2, rx_30_3, rx_30_5, rx_30_6, rx_30_9, rx_30_12, rx_30_13, rx_30_16, rx_30_17, rx_30_18, rx_30_19, rx_30_22, rx_30_23, rx_30_24, rx_30_27, rx_30_28, rx_30_29, rx_30_30, rx_30_31, rx_30_32, rx_30_33, rx_30_36, rx_30_39, rx_30_40, h1, pz_lt (show f < 2147483648 by omega) (show F < 2147483648 by omega), hlt, if_true, pz_ald_22 (show f < 6 by omega), pz_ald_13 (show f < 6 by omega), pz_bind, hn f hlt, ha f hlt, pz_lt (show a f < 2147483648 by omega) (show nd f < 2147483648 by omega), pz_shl (show f < 31 by omega), pz_or, pz_add, pz_nlz_i, pz_nlz_r]
    by_cases q : a f < nd f
    · simp only [q, if_true]
      have e := ih (f + 1) (by omega)
      rw [show sp_en nd a (f + 1) = sp_en nd a f from if_neg (by omega)] at e
      exact e
    · simp only [q, if_false]
      have e := ih (f + 1) (by omega)
      rw [show sp_en nd a (f + 1) = sp_en nd a f ||| 2 ^ f from if_pos (by omega)] at e
      exact e
theorem cx_cont {F : Nat} {nd a : Nat → Nat} {M : pm_M} (hF : F ≤ 6) (h1 : M 2 0 = nI F) (hn : ∀ f, f < F → M 13 f = nI (nd f)) (ha : ∀ f, f < F → M 22 f = nI (a f)) (hn9 : ∀ f, nd f ≤ 9) (ha9 : ∀ f, a f ≤ 1000) : pm_Rc pm_X0 30 (0, [some (pm_r 3), some (pm_r 2), none, none], [], M) = some (some (pm_i (nI (sp_en nd a F))), M) := by
  simp only [rx_30_0, rx_30_1, rx_30_2, rx_30_3, rx_30_5, rx_30_6, rx_30_9, rx_30_12, rx_30_13, rx_30_16, rx_30_17, rx_30_18, rx_30_19, rx_30_22, rx_30_23, rx_30_24, rx_30_27, rx_30_28, rx_30_29, rx_30_30, rx_30_31, rx_30_32, rx_30_33, rx_30_36, rx_30_39, rx_30_40, pz_nlz_r, pz_nlz_i]
  exact cx_cont_l hF h1 hn ha hn9 ha9 F 0 (by omega)
/-! whether there is such a field, day .. -/
theorem pz_any (x : Int32) (n : Nat) (hn : n < 2147483648) : (x < 0 ∨ (¬ x < 0 ∧ ¬ x < nI n)) ∨ ∃ j, j < n ∧ x = nI j := by
  rcases pk_ix x hn with h | h | h
  · exact Or.inl (Or.inl h)
  · refine Or.inl (Or.inr ⟨?_, ?_⟩)
    · have h0 : (0 : Int32) ≤ nI n := nI_pos' hn
      rw [Int32.le_iff_toInt_le] at h h0
      rw [Int32.lt_iff_toInt_lt]
      simp at h0 ⊢
      omega
    · rw [Int32.le_iff_toInt_le] at h
      rw [Int32.lt_iff_toInt_lt]
      omega
  · exact Or.inr h
theorem cx_hasField_y {M : pm_M} {F f : Nat} (h : M 2 0 = nI F) (hF : F ≤ 6) (hf : f < F) : pm_Rc pm_X0 2 (0, [some (pm_r 2), some (pm_i (nI f))], [], M) = some (some (pm_i (nI 1)), M) := by
  simp only [rx_2_0, rx_2_1, rx_2_4, rx_2_5, rx_2_6, rx_2_9, rx_2_12, rx_2_13, rx_2_16, rx_2_17_0, rx_2_17_1, h, pz_lt0 (show f < 2147483648 by omega), if_false, pz_lt (show f < 2147483648 by omega) (show F < 2147483648 by omega), hf, if_true]
theorem cx_hasField_n {M : pm_M} {F : Nat} {x : Int32} (h : M 2 0 = nI F) (hx : x < 0 ∨ (¬ x < 0 ∧ ¬ x < nI F)) : pm_Rc pm_X0 2 (0, [some (pm_r 2), some (pm_i x)], [], M) = some (some (pm_i (nI 0)), M) := by
  rcases hx with hx | ⟨hx, hx2⟩
  · simp only [rx_2_0, rx_2_1, rx_2_4, rx_2_5, rx_2_6, rx_2_9, rx_2_12, rx_2_13, rx_2_16, rx_2_17_0, rx_2_17_1, h, hx, if_true]
  · simp only [rx_2_0, rx_2_1, rx_2_4, rx_2_5, rx_2_6, rx_2_9, rx_2_12, rx_2_13, rx_2_16, rx_2_17_0, rx_2_17_1, h, hx, hx2, if_false]
theorem cx_hasDay_y {M : pm_M} {D f : Nat} (h : M 2 1 = nI D) (hF : D ≤ 8) (hf : f < D) : pm_Rc pm_X0 6 (0, [some (pm_r 2), some (pm_i (nI f))], [], M) = some (some (pm_i (nI 1)), M) := by
  simp only [rx_6_0, rx_6_1, rx_6_4, rx_6_5, rx_6_6, rx_6_9, rx_6_12, rx_6_13, rx_6_16, rx_6_17_0, rx_6_17_1, h, pz_lt0 (show f < 2147483648 by omega), if_false, pz_lt (show f < 2147483648 by omega) (show D < 2147483648 by omega), hf, if_true]
theorem cx_hasDay_n {M : pm_M} {D : Nat} {x : Int32} (h : M 2 1 = nI D) (hx : x < 0 ∨ (¬ x < 0 ∧ ¬ x < nI D)) : pm_Rc pm_X0 6 (0, [some (pm_r 2), some (pm_i x)], [], M) = some (some (pm_i (nI 0)), M) := by
  rcases hx with hx | ⟨hx, hx2⟩
  · simp only [rx_6_0, rx_6_1, rx_6_4, rx_6_5, rx_6_6, rx_6_9, rx_6_12, rx_6_13, rx_6_16, rx_6_17_0, rx_6_17_1, h, hx, if_true]
  · simp only [rx_6_0, rx_6_1, rx_6_4, rx_6_5, rx_6_6, rx_6_9, rx_6_12, rx_6_13, rx_6_16, rx_6_17_0, rx_6_17_1, h, hx, hx2, if_false]
theorem cx_hasBehind_y {M : pm_M} {D f : Nat} (h : M 2 1 = nI D) (hF : D ≤ 8) (hf : f ≤ D) : pm_Rc pm_X0 7 (0, [some (pm_r 2), some (pm_i (nI f))], [], M) = some (some (pm_i (nI 1)), M) := by
  simp only [rx_7_0, rx_7_1, rx_7_4, rx_7_5, rx_7_6, rx_7_9, rx_7_12, rx_7_13, rx_7_16, rx_7_17_0, rx_7_17_1, h, pz_lt0 (show f < 2147483648 by omega), if_false, pz_lt (show D < 2147483648 by omega) (show f < 2147483648 by omega), show ¬ D < f by omega]
theorem pz_ge1 {x : Int32} {n : Nat} (hn : n < 2147483647) (h : ¬ x < nI (n + 1)) : nI n < x := by
  rw [Int32.lt_iff_toInt_lt, nI_toInt (by omega)] at h
  rw [Int32.lt_iff_toInt_lt, nI_toInt (by omega)]
  omega
theorem cx_hasBehind_n {M : pm_M} {D : Nat} {x : Int32} (h : M 2 1 = nI D) (hD : D ≤ 8) (hx : x < 0 ∨ (¬ x < 0 ∧ ¬ x < nI (D + 1))) : pm_Rc pm_X0 7 (0, [some (pm_r 2), some (pm_i x)], [], M) = some (some (pm_i (nI 0)), M) := by
  rcases hx with hx | ⟨hx, hx2⟩
  · simp only [rx_7_0, rx_7_1, rx_7_4, rx_7_5, rx_7_6, rx_7_9, rx_7_12, rx_7_13, rx_7_16, rx_7_17_0, rx_7_17_1, h, hx, if_true]
  · simp only [rx_7_0, rx_7_1, rx_7_4, rx_7_5, rx_7_6, rx_7_9, rx_7_12, rx_7_13, rx_7_16, rx_7_17_0, rx_7_17_1, h, hx, if_false, pz_ge1 (show D < 2147483647 by omega) hx2, if_true]
theorem cx_exists {M : pm_M} {F : Nat} (h : M 2 0 = nI F) (hF : F ≤ 6) : pm_Rc pm_X0 5 (0, [some (pm_r 2)], [], M) = some (some (pm_i (nI (if F = 0 then 0 else 1))), M) := by
  simp only [rx_5_0, rx_5_1, rx_5_4, rx_5_7, rx_5_8, rx_5_11, rx_5_12_0, rx_5_12_1, h, pz_0lt (show F < 2147483648 by omega)]
  by_cases q : F = 0
  · subst q
    simp
  · simp only [q, show 0 < F by omega, if_true, if_false]
theorem cx_setsOfPosts {M : pm_M} {F : Nat} (h : M 2 0 = nI F) (hF : F ≤ 6) : pm_Rc pm_X0 9 (0, [some (pm_r 2)], [], M) = some (some (pm_i (nI (2 ^ (F - 1)))), M) := by
  simp only [rx_9_0, rx_9_1, rx_9_2, rx_9_5, rx_9_6, cx_posts h hF, pz_bind, pz_psh, pz_shl (show F - 1 < 31 by omega)]
