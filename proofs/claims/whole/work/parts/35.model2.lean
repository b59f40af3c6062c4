/-! The reference's runs of days. -/
theorem iv_Z.congr {M : pm_M} {F : Nat} {w w2 a a2 : Nat → Nat} {s : sp_S} (h : iv_Z M F w a s) (hw : ∀ g, g < F → w g = w2 g) (ha : ∀ g, g < F → a g = a2 g) : iv_Z M F w2 a2 s :=
  ⟨fun g hg => by rw [h.1 g hg, hw g hg], fun g hg => by rw [h.2.1 g hg, ha g hg], h.2.2⟩
theorem iv_Z.step {M M2 : pm_M} {F f x z : Nat} {w a : Nat → Nat} {s s2 : sp_S} (h : iv_Z M F w a s) (hk : ∀ k, k ≠ 23 → M2 k = pm_up (pm_up M 37 f (nI x)) 38 f (nI z) k) (h2 : M2 23 22 = nI s2.1) (h4 : M2 23 23 = s2.2.2.1) (h5 : M2 23 24 = s2.2.2.2) : iv_Z M2 F (fun g => if g = f then x else w g) (fun g => if g = f then z else a g) s2 := by
  refine ⟨fun g hg => ?_, fun g hg => ?_, h2, h4, h5⟩
  · rw [hk 37 (by decide), pz_up_c (by decide), pz_up_i]
    by_cases q : g = f
    · simp only [q, if_true]
    · simp only [q, if_false]
      exact h.1 g hg
  · rw [hk 38 (by decide), pz_up_i]
    by_cases q : g = f
    · simp only [q, if_true]
    · simp only [q, if_false]
      rw [pz_up_c (by decide)]
      exact h.2.1 g hg
theorem mx_goDay_l {F D t r P C : Nat} {nd hd kd lm rn w a : Nat → Nat} {s0 : sp_S} {o2 : Option pm_V} (hB : iv_B F D nd hd kd lm rn) (hr : r ≤ 9) (hP : P < 2147483648) (hC : C < 2147483648) (hw : ∀ g, w g ≤ 500) (ha : ∀ g, a g ≤ 500) (hk : sp_ok s0) (ht : t < 1000) :
    ∀ (d f : Nat), f + d = F → ∀ (M : pm_M) (o6 : Option pm_V), iv_N M F D nd hd kd lm rn → M 23 25 = nI C → iv_Z M F (fun g => if g < f then w g - 1 + sp_fl F kd lm P C r g else w g) (fun g => if g < f then a g + sp_fl F kd lm P C r g else a g) (sp_ff (fun g => decide (hd g < w g - 1 + sp_fl F kd lm P C r g)) t f s0) →
    ∃ M2, pm_Rc pm_X0 104 (6, [some (pm_r 23), some (pm_i (nI t)), o2, some (pm_i (nI P)), some (pm_i (nI (sp_c F kd lm P C r f))), some (pm_i (nI f)), o6], [], M) = some (none, M2) ∧ fr_Z M M2 ∧ iv_Z M2 F (fun g => w g - 1 + sp_fl F kd lm P C r g) (fun g => a g + sp_fl F kd lm P C r g) (sp_ff (fun g => decide (hd g < w g - 1 + sp_fl F kd lm P C r g)) t F s0) := by
  obtain ⟨b1, b2, b3, b4, b5, b6⟩ := id hB
  have hF : F ≤ 6 := by omega
  intro d
  induction d with
  | zero =>
    intro f hf M o6 hL hcl hS
    have e : f = F := by omega
    subst e
    obtain ⟨h1, h2, h3, h4, h5, h6, h7⟩ := id hL
    refine ⟨M, ?_, fr_Z.refl, hS.congr (fun g hg => if_pos hg) (fun g hg => if_pos hg)⟩
    rw [rx_104_6]
    simp only [rx_104_0, rx_104_1, rx_104_3, rx_104_4, rx_104_8, rx_104_9, rx_104_12, rx_104_15, rx_104_17, rx_104_18, rx_104_21, rx_104_22, rx_104_23, rx_104_26, rx_104_27, rx_104_30, rx_104_31, rx_104_33, rx_104_35, rx_104_36, rx_104_39, rx_104_41, rx_104_42, rx_104_44, rx_104_46, rx_104_48, rx_104_49, rx_104_50, rx_104_53, rx_104_55, rx_104_57, rx_104_60, rx_104_63, h1, pz_lt (show f < 2147483648 by omega) (show f < 2147483648 by omega), Nat.lt_irrefl, if_false]
  | succ d ih =>
    intro f hf M o6 hL hcl hS
    obtain ⟨h1, h2, h3, h4, h5, h6, h7⟩ := id hL
    have hlt : f < F := by omega
    have hc := sp_c_le F kd lm P C r f
    have ho := sp_c_st F kd lm P C r f
    have hwf := hw f
    have haf := ha f
    have hhd := b3 f
    have hfl : sp_fl F kd lm P C r f = sp_c F kd lm P C r f - sp_c F kd lm P C r (f + 1) := rfl
    have hfl2 := sp_fl_le F kd lm P C r f
    have s1 : M 37 f = nI (w f) := by
      have h9 := hS.1 f hlt
      simpa using h9
    have s2 : M 38 f = nI (a f) := by
      have h9 := hS.2.1 f hlt
      simpa using h9
    have hon : pm_Rc pm_X0 104 (6, [some (pm_r 23), some (pm_i (nI t)), o2, some (pm_i (nI P)), some (pm_i (nI (sp_c F kd lm P C r f))), some (pm_i (nI f)), o6], [], M) = pm_Rc pm_X0 104 (39, [some (pm_r 23), some (pm_i (nI t)), o2, some (pm_i (nI P)), some (pm_i (nI (sp_c F kd lm P C r f))), some (pm_i (nI f)), o6], [pm_i (nI (sp_c F kd lm P C r (f + 1)))], M) := by
      by_cases q : f = F - 1
      · have e : sp_c F kd lm P C r (f + 1) = 0 := by
          show sp_on _ _ _ _ _ _ _ = 0
          exact if_neg (fun h => by omega)
        rw [e]
        simp only [rx_104_6, rx_104_8, rx_104_9, rx_104_12, rx_104_15, rx_104_17, rx_104_18, rx_104_21, rx_104_22, rx_104_23, rx_104_26, rx_104_27, rx_104_30, rx_104_31, rx_104_33, rx_104_35, rx_104_36, h1, pz_lt (show f < 2147483648 by omega) (show F < 2147483648 by omega), hlt, if_true, pz_sub (show 1 ≤ F by omega), pz_eq (show f < 2147483648 by omega) (show F - 1 < 2147483648 by omega)]
        rw [if_pos q]
      · have hg := mx_goesOn (f := f) (c := sp_c F kd lm P C r f) (P := P) hL hB hcl (by omega) (by omega) hP hC
        rw [show sp_on F kd lm P C f (sp_c F kd lm P C r f) = sp_c F kd lm P C r (f + 1) from rfl] at hg
        simp only [rx_104_6, rx_104_8, rx_104_9, rx_104_12, rx_104_15, rx_104_17, rx_104_18, rx_104_21, rx_104_22, rx_104_23, rx_104_26, rx_104_27, rx_104_30, rx_104_31, rx_104_33, rx_104_35, rx_104_36, h1, pz_lt (show f < 2147483648 by omega) (show F < 2147483648 by omega), hlt, if_true, pz_sub (show 1 ≤ F by omega), pz_eq (show f < 2147483648 by omega) (show F - 1 < 2147483648 by omega), q, if_false, hg, pz_bind, pz_psh]
    obtain ⟨M2, r1, r2, r3, r4, r5, r6⟩ := mx_falls (M := M) (t := t) (c := sp_fl F kd lm P C r f) s1 s2 (h4 f hlt) hS.2.2.1 hS.2.2.2.1 hS.2.2.2.2 (sp_ok_ff hk ht f) (by omega) (by omega) (by omega) (by omega) (by omega)
    have hfr : fr_Z M M2 := ⟨fun k q1 q2 q3 => by rw [r2 k q1, pz_up_c q3, pz_up_c q2], r3⟩
    have hw2 : ∀ g, g < F → (if g = f then w f - 1 + sp_fl F kd lm P C r f else (fun g => if g < f then w g - 1 + sp_fl F kd lm P C r g else w g) g) = (fun g => if g < f + 1 then w g - 1 + sp_fl F kd lm P C r g else w g) g := by
      intro g hg
      by_cases q : g = f
      · subst q
        simp
      · by_cases q2 : g < f
        · simp [q, q2, Nat.lt_succ_of_lt q2]
        · simp [q, q2, show ¬ g < f + 1 by omega]
    have ha2 : ∀ g, g < F → (if g = f then a f + sp_fl F kd lm P C r f else (fun g => if g < f then a g + sp_fl F kd lm P C r g else a g) g) = (fun g => if g < f + 1 then a g + sp_fl F kd lm P C r g else a g) g := by
      intro g hg
      by_cases q : g = f
      · subst q
        simp
      · by_cases q2 : g < f
        · simp [q, q2, Nat.lt_succ_of_lt q2]
        · simp [q, q2, show ¬ g < f + 1 by omega]
    have hS2 := (hS.step r2 r4 r5 r6).congr hw2 ha2
    have he : sp_ff (fun g => decide (hd g < w g - 1 + sp_fl F kd lm P C r g)) t (f + 1) s0 = (if hd f < w f - 1 + sp_fl F kd lm P C r f then sp_stp t f (sp_ff (fun g => decide (hd g < w g - 1 + sp_fl F kd lm P C r g)) t f s0) else sp_ff (fun g => decide (hd g < w g - 1 + sp_fl F kd lm P C r g)) t f s0) := by
      show (if decide _ = true then _ else _) = _
      by_cases q : hd f < w f - 1 + sp_fl F kd lm P C r f <;> simp [q]
    rw [← he] at hS2
    obtain ⟨M3, t1, t2, t3⟩ := ih (f + 1) (by omega) M2 (some (pm_i (nI (sp_c F kd lm P C r (f + 1))))) (hL.fr hfr) (by rw [r3 25 (by decide) (by decide) (by decide)]; exact hcl) hS2
    refine ⟨M3, ?_, hfr.trans t2, t3⟩
    rw [hon]
    simp only [rx_104_39, rx_104_41, rx_104_42, rx_104_44, rx_104_46, rx_104_48, rx_104_49, rx_104_50, pz_sub ho, ← hfl, pz_nlz_i]
    rw [r1]
    simp only [pz_bind, pz_psh0, rx_104_53, rx_104_55, rx_104_57, rx_104_60, pz_nlz_i, pz_add]
    exact t1
theorem mx_goDay {F D t C : Nat} {nd hd kd lm rn rr pp : Nat → Nat} {M : pm_M} (hL : iv_N M F D nd hd kd lm rn) (hB : iv_B F D nd hd kd lm rn) (hcl : M 23 25 = nI C) (hr : ∀ t, rr t ≤ 9) (hP : pp t < 2147483648) (hC : C < 2147483648) (ht : t ≤ 8) (hS : iv_Z M F (sp_w F kd lm rr pp C t) (sp_a F kd lm rr pp C t) (sp_s F hd kd lm rr pp C t)) :
    ∃ M2, pm_Rc pm_X0 104 (0, [some (pm_r 23), some (pm_i (nI t)), some (pm_i (nI (rr t))), some (pm_i (nI (pp t))), none, none, none], [], M) = some (none, M2) ∧ fr_Z M M2 ∧ iv_Z M2 F (sp_w F kd lm rr pp C (t + 1)) (sp_a F kd lm rr pp C (t + 1)) (sp_s F hd kd lm rr pp C (t + 1)) := by
  obtain ⟨M2, r1, r2, r3⟩ := mx_goDay_l (t := t) (r := rr t) (P := pp t) (C := C) (w := sp_w F kd lm rr pp C t) (a := sp_a F kd lm rr pp C t) (s0 := sp_s F hd kd lm rr pp C t) (o2 := some (pm_i (nI (rr t)))) hB (hr t) hP hC (fun g => by
    have := sp_w_le F kd lm rr pp C hr t g
    omega) (fun g => by
    have := sp_a_le F kd lm rr pp C hr t g
    omega) (sp_ok_s F hd kd lm rr pp C t (by omega)) (by omega) F 0 (by omega) M none hL hcl (hS.congr (fun g _ => by simp) (fun g _ => by simp))
  refine ⟨M2, ?_, r2, r3⟩
  simp only [rx_104_0, rx_104_1, rx_104_3, rx_104_4, pz_nlz_i, pz_nlz_n]
  exact r1
theorem mx_begin_l {F : Nat} {M : pm_M} (hF : F ≤ 6) (h1 : M 23 5 = nI F) : ∀ (d i : Nat), i + d = F → ∀ M1 : pm_M, fr_Z M M1 → (∀ j, M1 23 j = M 23 j) → (∀ g, g < i → M1 37 g = nI 0) → (∀ g, g < i → M1 38 g = nI 0) →
    ∃ M2, pm_Rc pm_X0 103 (2, [some (pm_r 23), some (pm_i (nI i))], [], M1) = some (none, M2) ∧ fr_Z M M2 ∧ iv_Z M2 F (fun _ => 0) (fun _ => 0) (0, 0, -9, -9) := by
  intro d
  induction d with
  | zero =>
    intro i hi M1 hf h23 g1 g2
    have e : i = F := by omega
    subst e
    rw [rx_103_2]
    simp only [rx_103_0, rx_103_1, rx_103_3, rx_103_4, rx_103_7, rx_103_10, rx_103_11, rx_103_14, rx_103_15, rx_103_16, rx_103_17, rx_103_18, rx_103_21, rx_103_22, rx_103_23, rx_103_24, rx_103_27, rx_103_30, rx_103_31, rx_103_32, rx_103_35, rx_103_36, rx_103_38, rx_103_41, rx_103_42, rx_103_44, rx_103_47, h23, h1, pz_lt (show i < 2147483648 by omega) (show i < 2147483648 by omega), Nat.lt_irrefl, if_false]
    refine ⟨_, rfl, ⟨fun k q1 q2 q3 => ?_, fun j q1 q2 q3 => ?_⟩, fun g hg => ?_, fun g hg => ?_, ?_, ?_, ?_⟩
    · simp only [pz_up_c q1]
      exact hf.1 k q1 q2 q3
    · simp only [pz_up_n q1, pz_up_n q2, pz_up_n q3]
      exact h23 j
    · simp only [pz_up_c (show (37 : Nat) ≠ 23 by decide)]
      exact g1 g hg
    · simp only [pz_up_c (show (38 : Nat) ≠ 23 by decide)]
      exact g2 g hg
    all_goals simp [pz_up_i]
  | succ d ih =>
    intro i hi M1 hf h23 g1 g2
    rw [rx_103_2]
    simp only [rx_103_0, rx_103_1, rx_103_3, rx_103_4, rx_103_7, rx_103_10, rx_103_11, rx_103_14, rx_103_15, rx_103_16, rx_103_17, rx_103_18, rx_103_21, rx_103_22, rx_103_23, rx_103_24, rx_103_27, rx_103_30, rx_103_31, rx_103_32, rx_103_35, rx_103_36, rx_103_38, rx_103_41, rx_103_42, rx_103_44, rx_103_47, h23, h1, pz_lt (show i < 2147483648 by omega) (show F < 2147483648 by omega), show i < F by omega, if_true, pz_ast_37 (show i < 6 by omega), pz_ast_38 (show i < 6 by omega), pz_bind, pz_add, pz_nlz_r]
    refine ih (i + 1) (by omega) _ ⟨fun k q1 q2 q3 => ?_, fun j q1 q2 q3 => ?_⟩ (fun j => ?_) (fun g hg => ?_) (fun g hg => ?_)
    · simp only [pz_up_c q3, pz_up_c q2]
      exact hf.1 k q1 q2 q3
    · simp only [pz_up_c (show (23 : Nat) ≠ 38 by decide), pz_up_c (show (23 : Nat) ≠ 37 by decide)]
      exact h23 j
    · simp only [pz_up_c (show (23 : Nat) ≠ 38 by decide), pz_up_c (show (23 : Nat) ≠ 37 by decide)]
      exact h23 j
    · simp only [pz_up_c (show (37 : Nat) ≠ 38 by decide), pz_up_i]
      by_cases q : g = i
      · simp [q]
      · simp only [q, if_false]
        exact g1 g (by omega)
    · simp only [pz_up_c (show (38 : Nat) ≠ 37 by decide), pz_up_i]
      by_cases q : g = i
      · simp [q]
      · simp only [q, if_false]
        exact g2 g (by omega)
theorem mx_begin {F : Nat} {M : pm_M} (hF : F ≤ 6) (h1 : M 23 5 = nI F) : ∃ M2, pm_Rc pm_X0 103 (0, [some (pm_r 23), none], [], M) = some (none, M2) ∧ fr_Z M M2 ∧ iv_Z M2 F (fun _ => 0) (fun _ => 0) (0, 0, -9, -9) := by
  simp only [rx_103_0, rx_103_1, pz_nlz_r]
  exact mx_begin_l hF h1 F 0 (by omega) M fr_Z.refl (fun _ => rfl) (fun g hg => absurd hg (Nat.not_lt_zero g)) (fun g hg => absurd hg (Nat.not_lt_zero g))
theorem mx_goDays_l {F D t P C : Nat} {nd hd kd lm rn : Nat → Nat} (hB : iv_B F D nd hd kd lm rn) (ht : t ≤ D) (hP : P < 2147483648) (hC : C < 2147483648) :
    ∀ (d i : Nat), i + d = t → ∀ M : pm_M, iv_N M F D nd hd kd lm rn → M 23 25 = nI C → iv_Z M F (sp_w F kd lm rn (fun _ => P) C i) (sp_a F kd lm rn (fun _ => P) C i) (sp_s F hd kd lm rn (fun _ => P) C i) →
    ∃ M2, pm_Rc pm_X0 102 (6, [some (pm_r 23), some (pm_i (nI t)), some (pm_i (nI P)), some (pm_i (nI i))], [], M) = some (none, M2) ∧ fr_Z M M2 ∧ iv_Z M2 F (sp_w F kd lm rn (fun _ => P) C t) (sp_a F kd lm rn (fun _ => P) C t) (sp_s F hd kd lm rn (fun _ => P) C t) := by
  obtain ⟨b1, b2, b3, b4, b5, b6⟩ := id hB
  intro d
  induction d with
  | zero =>
    intro i hi M hL hcl hS
    have e : i = t := by omega
    subst e
    refine ⟨M, ?_, fr_Z.refl, hS⟩
    rw [rx_102_6]
    simp only [rx_102_0, rx_102_1, rx_102_4, rx_102_5, rx_102_7, rx_102_8, rx_102_11, rx_102_12, rx_102_13, rx_102_14, rx_102_17, rx_102_18, rx_102_19, rx_102_20, rx_102_23, rx_102_26, rx_102_29, pz_lt (show i < 2147483648 by omega) (show i < 2147483648 by omega), Nat.lt_irrefl, if_false]
  | succ d ih =>
    intro i hi M hL hcl hS
    obtain ⟨h1, h2, h3, h4, h5, h6, h7⟩ := id hL
    have hlt : i < t := by omega
    obtain ⟨M2, r1, r2, r3⟩ := mx_goDay (C := C) (t := i) (rr := rn) (pp := fun _ => P) hL hB hcl b6 hP hC (by omega) hS
    obtain ⟨M3, t1, t2, t3⟩ := ih (i + 1) (by omega) M2 (hL.fr r2) (by rw [r2.2 25 (by decide) (by decide) (by decide)]; exact hcl) r3
    refine ⟨M3, ?_, r2.trans t2, t3⟩
    rw [rx_102_6]
    simp only [rx_102_0, rx_102_1, rx_102_4, rx_102_5, rx_102_7, rx_102_8, rx_102_11, rx_102_12, rx_102_13, rx_102_14, rx_102_17, rx_102_18, rx_102_19, rx_102_20, rx_102_23, rx_102_26, rx_102_29, pz_lt (show i < 2147483648 by omega) (show t < 2147483648 by omega), hlt, if_true, pz_ald_31 (show i < 8 by omega), h7 i (show i < D by omega), pz_bind]
    rw [r1]
    simp only [pz_bind, pz_psh0, rx_102_0, rx_102_1, rx_102_4, rx_102_5, rx_102_7, rx_102_8, rx_102_11, rx_102_12, rx_102_13, rx_102_14, rx_102_17, rx_102_18, rx_102_19, rx_102_20, rx_102_23, rx_102_26, rx_102_29, pz_add, pz_nlz_i]
    exact t1
theorem mx_goDays {F D t P C : Nat} {nd hd kd lm rn : Nat → Nat} {M : pm_M} (hL : iv_N M F D nd hd kd lm rn) (hB : iv_B F D nd hd kd lm rn) (hcl : M 23 25 = nI C) (ht : t ≤ D) (hP : P < 2147483648) (hC : C < 2147483648) :
    ∃ M2, pm_Rc pm_X0 102 (0, [some (pm_r 23), some (pm_i (nI t)), some (pm_i (nI P)), none], [], M) = some (none, M2) ∧ fr_Z M M2 ∧ iv_Z M2 F (sp_w F kd lm rn (fun _ => P) C t) (sp_a F kd lm rn (fun _ => P) C t) (sp_s F hd kd lm rn (fun _ => P) C t) := by
  have hF : F ≤ 6 := by
    have := hB.1
    omega
  obtain ⟨M1, r1, r2, r3⟩ := mx_begin (M := M) hF hL.1
  obtain ⟨M2, t1, t2, t3⟩ := mx_goDays_l hB ht hP hC t 0 (by omega) M1 (hL.fr r2) (by rw [r2.2 25 (by decide) (by decide) (by decide)]; exact hcl) r3
  refine ⟨M2, ?_, r2.trans t2, t3⟩
  simp only [rx_102_0, rx_102_1]
  rw [r1]
  simp only [pz_bind, pz_psh0, rx_102_4, rx_102_5, pz_nlz_i]
  exact t1
theorem mx_cont_l {F : Nat} {nd a : Nat → Nat} {M : pm_M} (hF : F ≤ 6) (h1 : M 23 5 = nI F) (hn : ∀ f, f < F → M 27 f = nI (nd f)) (ha : ∀ f, f < F → M 38 f = nI (a f)) (hn9 : ∀ f, nd f ≤ 9) (ha9 : ∀ f, a f ≤ 1000) :
    ∀ (d f : Nat), f + d = F → pm_Rc pm_X0 110 (4, [some (pm_r 23), some (pm_i (nI (sp_en nd a f))), some (pm_i (nI f))], [], M) = some (some (pm_i (nI (sp_en nd a F))), M) := by
  intro d
  induction d with
  | zero =>
    intro f hf
    have e : f = F := by omega
    subst e
    rw [rx_110_4]
    simp only [rx_110_0, rx_110_1, rx_110_2, rx_110_3, rx_110_5, rx_110_6, rx_110_9, rx_110_12, rx_110_13, rx_110_14, rx_110_17, rx_110_18, rx_110_19, rx_110_20, rx_110_23, rx_110_24, rx_110_25, rx_110_28, rx_110_29, rx_110_30, rx_110_31, rx_110_34, rx_110_35, rx_110_36, rx_110_37, rx_110_40, rx_110_43, rx_110_44, h1, pz_lt (show f < 2147483648 by omega) (show f < 2147483648 by omega), Nat.lt_irrefl, if_false]
  | succ d ih =>
    intro f hf
    have hlt : f < F := by omega
    have q1 := hn9 f
    have q2 := ha9 f
    rw [rx_110_4]
    simp only [rx_110_0, rx_110_1, rx_110_2, rx_110_3, rx_110_5, rx_110_6, rx_110_9, rx_110_12, rx_110_13, rx_110_14, rx_110_17, rx_110_18, rx_110_19, rx_110_20, rx_110_23, rx_110_24, rx_110_25, rx_110_28, rx_110_29, rx_110_30, rx_110_31, rx_110_34, rx_110_35, rx_110_36, rx_110_37, rx_110_40, rx_110_43, rx_110_44, h1, pz_lt (show f < 2147483648 by omega) (show F < 2147483648 by omega), hlt, if_true, pz_ald_38 (show f < 6 by omega), pz_ald_27 (show f < 6 by omega), pz_bind, hn f hlt, ha f hlt, pz_lt (show a f < 2147483648 by omega) (show nd f < 2147483648 by omega), pz_shl (show f < 31 by omega), pz_or, pz_add, pz_nlz_i, pz_nlz_r]
    by_cases q : a f < nd f
    · simp only [q, if_true]
      have e := ih (f + 1) (by omega)
      rw [show sp_en nd a (f + 1) = sp_en nd a f from if_neg (by omega)] at e
      rw [Nat.or_zero]
      exact e
    · simp only [q, if_false]
      have e := ih (f + 1) (by omega)
      rw [show sp_en nd a (f + 1) = sp_en nd a f ||| 2 ^ f from if_pos (by omega)] at e
      exact e
theorem mx_cont {F : Nat} {nd a : Nat → Nat} {M : pm_M} (hF : F ≤ 6) (h1 : M 23 5 = nI F) (hn : ∀ f, f < F → M 27 f = nI (nd f)) (ha : ∀ f, f < F → M 38 f = nI (a f)) (hn9 : ∀ f, nd f ≤ 9) (ha9 : ∀ f, a f ≤ 1000) : pm_Rc pm_X0 110 (0, [some (pm_r 23), none, none], [], M) = some (some (pm_i (nI (sp_en nd a F))), M) := by
  simp only [rx_110_0, rx_110_1, rx_110_2, rx_110_3, rx_110_5, rx_110_6, rx_110_9, rx_110_12, rx_110_13, rx_110_14, rx_110_17, rx_110_18, rx_110_19, rx_110_20, rx_110_23, rx_110_24, rx_110_25, rx_110_28, rx_110_29, rx_110_30, rx_110_31, rx_110_34, rx_110_35, rx_110_36, rx_110_37, rx_110_40, rx_110_43, rx_110_44, pz_nlz_r, pz_nlz_i]
  exact mx_cont_l hF h1 hn ha hn9 ha9 F 0 (by omega)
