/-! The class's days. -/
theorem cx_fill_l {c n : Nat} {v : Int32} {M : pm_M} (hs : pm_sh c = some (.inl n)) (hn : n < 1000) : ∀ d i, i + d = n → pm_Rc pm_X0 142 (5, [some (pm_r c), some (pm_i v), some (pm_i (nI i)), some (pm_i (nI n))], [], pm_fl M c i v) = some (none, pm_fl M c n v) := by
  intro d
  induction d with
  | zero =>
    intro i hi
    have e : i = n := by omega
    subst e
    simp only [rx_142_0, rx_142_1, rx_142_2, rx_142_3, rx_142_4, rx_142_5, rx_142_6, rx_142_7, rx_142_10, rx_142_11, rx_142_12, rx_142_13, rx_142_14, rx_142_17, rx_142_20, pz_lt (show i < 2147483648 by omega) (show i < 2147483648 by omega), Nat.lt_irrefl, if_false]
  | succ d ih =>
    intro i hi
    rw [rx_142_5]
    simp only [rx_142_0, rx_142_1, rx_142_2, rx_142_3, rx_142_4, rx_142_6, rx_142_7, rx_142_10, rx_142_11, rx_142_12, rx_142_13, rx_142_14, rx_142_17, rx_142_20, pz_lt (show i < 2147483648 by omega) (show n < 2147483648 by omega), show i < n by omega, if_true, pz_astG hs hn (show i < n by omega), pz_bind, pz_fl_s, pz_add, pz_nlz_i]
    exact ih (i + 1) (by omega)
theorem cx_fill {c n : Nat} {v : Int32} {M : pm_M} (hs : pm_sh c = some (.inl n)) (hn : n < 1000) : pm_Rc pm_X0 142 (0, [some (pm_r c), some (pm_i v), none, none], [], M) = some (none, pm_fl M c n v) := by
  have h := cx_fill_l (M := M) (v := v) hs hn n 0 (by omega)
  rw [pz_fl_0] at h
  simp only [rx_142_0, rx_142_1, rx_142_2, rx_142_3, rx_142_4, rx_142_6, rx_142_7, rx_142_10, rx_142_11, rx_142_12, rx_142_13, rx_142_14, rx_142_17, rx_142_20, pz_alnG hs, pz_bind, pz_nlz_i]
  exact h
/-! what a run of days does -/
def sp_c (F : Nat) (kd lm : Nat → Nat) (P C r : Nat) : Nat → Nat
  | 0 => r
  | f + 1 => sp_on F kd lm P C f (sp_c F kd lm P C r f)
theorem sp_c_le (F : Nat) (kd lm : Nat → Nat) (P C r : Nat) : ∀ f, sp_c F kd lm P C r f ≤ r
  | 0 => Nat.le_refl r
  | f + 1 => Nat.le_trans (sp_on_le _ _ _ _ _ _ _) (sp_c_le F kd lm P C r f)
theorem sp_c_st (F : Nat) (kd lm : Nat → Nat) (P C r f : Nat) : sp_c F kd lm P C r (f + 1) ≤ sp_c F kd lm P C r f := sp_on_le _ _ _ _ _ _ _
def sp_fl (F : Nat) (kd lm : Nat → Nat) (P C r f : Nat) : Nat := sp_c F kd lm P C r f - sp_c F kd lm P C r (f + 1)
theorem sp_fl_le (F : Nat) (kd lm : Nat → Nat) (P C r f : Nat) : sp_fl F kd lm P C r f ≤ r := Nat.le_trans (Nat.sub_le _ _) (sp_c_le F kd lm P C r f)
def sp_w (F : Nat) (kd lm rr pp : Nat → Nat) (C : Nat) : Nat → Nat → Nat
  | 0, _ => 0
  | t + 1, g => sp_w F kd lm rr pp C t g - 1 + sp_fl F kd lm (pp t) C (rr t) g
def sp_a (F : Nat) (kd lm rr pp : Nat → Nat) (C : Nat) : Nat → Nat → Nat
  | 0, _ => 0
  | t + 1, g => sp_a F kd lm rr pp C t g + sp_fl F kd lm (pp t) C (rr t) g
theorem sp_w_le (F : Nat) (kd lm rr pp : Nat → Nat) (C : Nat) (h : ∀ t, rr t ≤ 9) : ∀ t g, sp_w F kd lm rr pp C t g ≤ 9 * t
  | 0, _ => Nat.zero_le _
  | t + 1, g => by
    have h1 := sp_w_le F kd lm rr pp C h t g
    have h2 := sp_fl_le F kd lm (pp t) C (rr t) g
    have h3 := h t
    simp only [sp_w]
    omega
theorem sp_a_le (F : Nat) (kd lm rr pp : Nat → Nat) (C : Nat) (h : ∀ t, rr t ≤ 9) : ∀ t g, sp_a F kd lm rr pp C t g ≤ 9 * t
  | 0, _ => Nat.zero_le _
  | t + 1, g => by
    have h1 := sp_a_le F kd lm rr pp C h t g
    have h2 := sp_fl_le F kd lm (pp t) C (rr t) g
    have h3 := h t
    simp only [sp_a]
    omega
abbrev sp_S : Type := Nat × Nat × Int32 × Int32
def sp_stp (t f : Nat) (s : sp_S) : sp_S := (s.1 + 1, s.2.1 ||| 2 ^ f, if s.1 = 0 then nI t else s.2.2.1, if s.1 = 0 then nI f else s.2.2.2)
def sp_ff (ev : Nat → Bool) (t : Nat) : Nat → sp_S → sp_S
  | 0, s => s
  | f + 1, s => if ev f = true then sp_stp t f (sp_ff ev t f s) else sp_ff ev t f s
def sp_s (F : Nat) (hd kd lm rr pp : Nat → Nat) (C : Nat) : Nat → sp_S
  | 0 => (0, 0, -9, -9)
  | t + 1 => sp_ff (fun g => decide (hd g < sp_w F kd lm rr pp C (t + 1) g)) t F (sp_s F hd kd lm rr pp C t)
/-- the class's scratch behind t days and f fields of the next one -/
def iv_S (M : pm_M) (F : Nat) (w a : Nat → Nat) (s : sp_S) : Prop := (∀ g, g < F → M 21 g = nI (w g)) ∧ (∀ g, g < F → M 22 g = nI (a g)) ∧ M 3 2 = nI s.1 ∧ M 3 3 = nI s.2.1 ∧ M 3 4 = s.2.2.1 ∧ M 3 5 = s.2.2.2
def fr_S (M M2 : pm_M) : Prop := ∀ k, k ≠ 3 → k ≠ 21 → k ≠ 22 → M2 k = M k
theorem fr_S.refl {M : pm_M} : fr_S M M := fun _ _ _ _ => rfl
theorem fr_S.trans {M M2 M3 : pm_M} (h : fr_S M M2) (h2 : fr_S M2 M3) : fr_S M M3 := fun k a b c => (h2 k a b c).trans (h k a b c)
theorem iv_L.fr {M M2 : pm_M} {F D : Nat} {nd hd kd lm rn : Nat → Nat} (h : iv_L M F D nd hd kd lm rn) (hf : fr_S M M2) : iv_L M2 F D nd hd kd lm rn := by
  unfold iv_L at h ⊢
  rw [hf 2 (by decide) (by decide) (by decide), hf 13 (by decide) (by decide) (by decide), hf 14 (by decide) (by decide) (by decide), hf 15 (by decide) (by decide) (by decide), hf 16 (by decide) (by decide) (by decide), hf 17 (by decide) (by decide) (by decide)]
  exact h
theorem sp_ff_n (ev : Nat → Bool) (t : Nat) (s : sp_S) : ∀ f, (sp_ff ev t f s).1 ≤ s.1 + f
  | 0 => Nat.le_refl _
  | f + 1 => by
    have h := sp_ff_n ev t s f
    unfold sp_ff
    split
    · show (sp_ff ev t f s).1 + 1 ≤ _
      omega
    · omega
theorem sp_s_n (F : Nat) (hd kd lm rr pp : Nat → Nat) (C : Nat) : ∀ t, (sp_s F hd kd lm rr pp C t).1 ≤ t * F
  | 0 => Nat.zero_le _
  | t + 1 => by
    have h := sp_s_n F hd kd lm rr pp C t
    have h2 := sp_ff_n (fun g => decide (hd g < sp_w F kd lm rr pp C (t + 1) g)) t (sp_s F hd kd lm rr pp C t) F
    rw [Nat.succ_mul]
    simp only [sp_s]
    omega
theorem cx_floodOn {M : pm_M} {t f : Nat} {s : sp_S} (h2 : M 3 2 = nI s.1) (h3 : M 3 3 = nI s.2.1) (h4 : M 3 4 = s.2.2.1) (h5 : M 3 5 = s.2.2.2) (hf : f < 6) (hn : s.1 < 1000) :
    ∃ M2, pm_Rc pm_X0 29 (0, [some (pm_r 3), some (pm_i (nI t)), some (pm_i (nI f))], [], M) = some (none, M2) ∧ (∀ k, k ≠ 3 → M2 k = M k) ∧ M2 3 2 = nI (sp_stp t f s).1 ∧ M2 3 3 = nI (sp_stp t f s).2.1 ∧ M2 3 4 = (sp_stp t f s).2.2.1 ∧ M2 3 5 = (sp_stp t f s).2.2.2 := by
  simp only [rx_29_0, rx_29_1, rx_29_4, rx_29_7, rx_29_8, rx_29_9, rx_29_12, rx_29_13, rx_29_14, rx_29_17, rx_29_18, rx_29_19, rx_29_22, rx_29_23, rx_29_24, rx_29_27, rx_29_28, rx_29_29, rx_29_32, rx_29_33, rx_29_34, rx_29_35, rx_29_36, rx_29_39, h2, pz_eq0 (show s.1 < 2147483648 by omega)]
  by_cases h : s.1 = 0
  · simp only [h, if_true, pz_up_i, h3, pz_shl (show f < 31 by omega), pz_or, pz_add, sp_stp]
    refine ⟨_, rfl, fun k hk => by simp only [pz_up_c hk], ?_, ?_, ?_, ?_⟩
    all_goals simp [pz_up_i, h2, h3, h4, h5, h, pz_add, pz_or]
  · simp only [h, if_false, pz_up_i, h3, pz_shl (show f < 31 by omega), pz_or, pz_add, sp_stp]
    refine ⟨_, rfl, fun k hk => by simp only [pz_up_c hk], ?_, ?_, ?_, ?_⟩
    all_goals simp [pz_up_i, h2, h3, h4, h5, h, pz_add, pz_or]
theorem iv_S.congr {M : pm_M} {F : Nat} {w w2 a a2 : Nat → Nat} {s : sp_S} (h : iv_S M F w a s) (hw : ∀ g, g < F → w g = w2 g) (ha : ∀ g, g < F → a g = a2 g) : iv_S M F w2 a2 s :=
  ⟨fun g hg => by rw [h.1 g hg, hw g hg], fun g hg => by rw [h.2.1 g hg, ha g hg], h.2.2⟩
theorem iv_S.step {M M2 : pm_M} {F f x z : Nat} {w a : Nat → Nat} {s s2 : sp_S} (h : iv_S M F w a s) (hk : ∀ k, k ≠ 3 → M2 k = pm_up (pm_up M 21 f (nI x)) 22 f (nI z) k) (h2 : M2 3 2 = nI s2.1) (h3 : M2 3 3 = nI s2.2.1) (h4 : M2 3 4 = s2.2.2.1) (h5 : M2 3 5 = s2.2.2.2) : iv_S M2 F (fun g => if g = f then x else w g) (fun g => if g = f then z else a g) s2 := by
  refine ⟨fun g hg => ?_, fun g hg => ?_, h2, h3, h4, h5⟩
  · rw [hk 21 (by decide), pz_up_c (by decide), pz_up_i]
    by_cases q : g = f
    · simp only [q, if_true]
    · simp only [q, if_false]
      exact h.1 g hg
  · rw [hk 22 (by decide), pz_up_i]
    by_cases q : g = f
    · simp only [q, if_true]
    · simp only [q, if_false]
      rw [pz_up_c (by decide)]
      exact h.2.1 g hg
theorem cx_pass_l {F D t r P C : Nat} {nd hd kd lm rn w a : Nat → Nat} {s0 : sp_S} {o3 : Option pm_V} (hB : iv_B F D nd hd kd lm rn) (hr : r ≤ 9) (hP : P < 2147483648) (hC : C < 2147483648) (hw : ∀ g, w g ≤ 500) (hs : s0.1 + F < 1000) :
    ∀ (d f : Nat), f + d = F → ∀ (M : pm_M) (o8 : Option pm_V), iv_L M F D nd hd kd lm rn → iv_S M F (fun g => if g < f then w g - 1 + sp_fl F kd lm P C r g else w g) (fun g => if g < f then a g + sp_fl F kd lm P C r g else a g) (sp_ff (fun g => decide (hd g < w g - 1 + sp_fl F kd lm P C r g)) t f s0) →
    ∃ M2, pm_Rc pm_X0 28 (6, [some (pm_r 3), some (pm_r 2), some (pm_i (nI t)), o3, some (pm_i (nI P)), some (pm_i (nI C)), some (pm_i (nI (sp_c F kd lm P C r f))), some (pm_i (nI f)), o8], [], M) = some (none, M2) ∧ fr_S M M2 ∧ iv_S M2 F (fun g => w g - 1 + sp_fl F kd lm P C r g) (fun g => a g + sp_fl F kd lm P C r g) (sp_ff (fun g => decide (hd g < w g - 1 + sp_fl F kd lm P C r g)) t F s0) := by
  obtain ⟨b1, b2, b3, b4, b5, b6⟩ := id hB
  have hF : F ≤ 6 := by omega
  intro d
  induction d with
  | zero =>
    intro f hf M o8 hL hS
    have e : f = F := by omega
    subst e
    obtain ⟨h1, h2, h3, h4, h5, h6, h7⟩ := id hL
    refine ⟨M, ?_, fr_S.refl, hS.congr (fun g hg => if_pos hg) (fun g hg => if_pos hg)⟩
    simp only [rx_28_0, rx_28_1, rx_28_3, rx_28_4, rx_28_6, rx_28_8, rx_28_9, rx_28_12, rx_28_15, rx_28_16, rx_28_18, rx_28_20, rx_28_22, rx_28_24, rx_28_27, rx_28_29, rx_28_30, rx_28_33, rx_28_35, rx_28_36, rx_28_37, rx_28_40, rx_28_42, rx_28_43, rx_28_44, rx_28_45, rx_28_48, rx_28_50, rx_28_51, rx_28_53, rx_28_54, rx_28_55, rx_28_56, rx_28_59, rx_28_61, rx_28_62, rx_28_63, rx_28_65, rx_28_67, rx_28_68, rx_28_69, rx_28_70, rx_28_71, rx_28_74, rx_28_76, rx_28_77, rx_28_78, rx_28_81, rx_28_83, rx_28_84, rx_28_87, rx_28_88, rx_28_89, rx_28_91, rx_28_94, rx_28_96, rx_28_98, rx_28_101, rx_28_104, h1, pz_lt (show f < 2147483648 by omega) (show f < 2147483648 by omega), Nat.lt_irrefl, if_false]
  | succ d ih =>
    intro f hf M o8 hL hS
    obtain ⟨h1, h2, h3, h4, h5, h6, h7⟩ := id hL
    have hlt : f < F := by omega
    have hc := sp_c_le F kd lm P C r f
    have ho := sp_c_st F kd lm P C r f
    have hwf := hw f
    have hhd := b3 f
    have hfl : sp_fl F kd lm P C r f = sp_c F kd lm P C r f - sp_c F kd lm P C r (f + 1) := rfl
    have e1 : sp_on F kd lm P C f (sp_c F kd lm P C r f) = sp_c F kd lm P C r (f + 1) := rfl
    have s1 : M 21 f = nI (w f) := by
      have h9 := hS.1 f hlt
      simpa using h9
    have s2 : M 22 f = nI (a f) := by
      have h9 := hS.2.1 f hlt
      simpa using h9
    have e2 : w f - 1 + sp_c F kd lm P C r f - sp_c F kd lm P C r (f + 1) = w f - 1 + sp_fl F kd lm P C r f := by omega
    have hfl2 := sp_fl_le F kd lm P C r f
    rw [rx_28_6]
    simp only [rx_28_0, rx_28_1, rx_28_3, rx_28_4, rx_28_8, rx_28_9, rx_28_12, rx_28_15, rx_28_16, rx_28_18, rx_28_20, rx_28_22, rx_28_24, rx_28_27, rx_28_29, rx_28_30, rx_28_33, rx_28_35, rx_28_36, rx_28_37, rx_28_40, rx_28_42, rx_28_43, rx_28_44, rx_28_45, rx_28_48, rx_28_50, rx_28_51, rx_28_53, rx_28_54, rx_28_55, rx_28_56, rx_28_59, rx_28_61, rx_28_62, rx_28_63, rx_28_65, rx_28_67, rx_28_68, rx_28_69, rx_28_70, rx_28_71, rx_28_74, rx_28_76, rx_28_77, rx_28_78, rx_28_81, rx_28_83, rx_28_84, rx_28_87, rx_28_88, rx_28_89, rx_28_91, rx_28_94, rx_28_96, rx_28_98, rx_28_101, rx_28_104, h1, pz_lt (show f < 2147483648 by omega) (show F < 2147483648 by omega), hlt, if_true, cx_goesOn hL hB (show f < 6 by omega) (show sp_c F kd lm P C r f < 1000 by omega) hP hC, pz_bind, pz_psh, pz_nlz_i, pz_ald_21 (show f < 6 by omega), pz_ast_21 (show f < 6 by omega), pz_ald_22 (show f < 6 by omega), pz_ast_22 (show f < 6 by omega), pz_ald_14 (show f < 6 by omega), s1, s2, e1, pz_dec (show w f < 2147483648 by omega), pz_add, pz_sub (show sp_c F kd lm P C r (f + 1) ≤ w f - 1 + sp_c F kd lm P C r f by omega), pz_sub ho, e2, ← hfl, pz_up_c (show (22 : Nat) ≠ 21 by decide), pz_up_c (show (21 : Nat) ≠ 22 by decide), pz_up_c (show (14 : Nat) ≠ 22 by decide), pz_up_c (show (14 : Nat) ≠ 21 by decide), pz_up_s, h4 f hlt, pz_lt (show hd f < 2147483648 by omega) (show w f - 1 + sp_fl F kd lm P C r f < 2147483648 by omega)]
    have hfr : fr_S M (pm_up (pm_up M 21 f (nI (w f - 1 + sp_fl F kd lm P C r f))) 22 f (nI (a f + sp_fl F kd lm P C r f))) := fun k q1 q2 q3 => by rw [pz_up_c q3, pz_up_c q2]
    have hw2 : ∀ g, g < F → (if g = f then w f - 1 + sp_fl F kd lm P C r f else (fun g => if g < f then w g - 1 + sp_fl F kd lm P C r g else w g) g) = (fun g => if g < f + 1 then w g - 1 + sp_fl F kd lm P C r g else w g) g := by
      intro g hg
      by_cases q : g = f
      · subst q
        simp
      · by_cases q2 : g < f
        · simp [q, q2, Nat.lt_succ_of_lt q2]
        · simp [q, q2, show ¬ g < f + 1 by omega]
    have ha2 : ∀ g, g < F → (if g = f then a f + sp_fl F kd lm P C r f else (fun g => if g < f then a g + sp_fl F kd lm P C r g else a g) g) = (fun g => if g < f + 1 then a g + sp_fl F kd lm P C r g else a g) g := by
      intro g hg
      by_cases q : g = f
      · subst q
        simp
      · by_cases q2 : g < f
        · simp [q, q2, Nat.lt_succ_of_lt q2]
        · simp [q, q2, show ¬ g < f + 1 by omega]
    by_cases q : hd f < w f - 1 + sp_fl F kd lm P C r f
    · simp only [q, if_true]
      have hn := sp_ff_n (fun g => decide (hd g < w g - 1 + sp_fl F kd lm P C r g)) t s0 f
      obtain ⟨M2, r1, r2, r3, r4, r5, r6⟩ := cx_floodOn (M := pm_up (pm_up M 21 f (nI (w f - 1 + sp_fl F kd lm P C r f))) 22 f (nI (a f + sp_fl F kd lm P C r f))) (t := t) (f := f) (s := sp_ff (fun g => decide (hd g < w g - 1 + sp_fl F kd lm P C r g)) t f s0) (by rw [pz_up_c (by decide), pz_up_c (by decide)]; exact hS.2.2.1) (by rw [pz_up_c (by decide), pz_up_c (by decide)]; exact hS.2.2.2.1) (by rw [pz_up_c (by decide), pz_up_c (by decide)]; exact hS.2.2.2.2.1) (by rw [pz_up_c (by decide), pz_up_c (by decide)]; exact hS.2.2.2.2.2) (by omega) (by omega)
      have hfr2 : fr_S M M2 := fun k q1 q2 q3 => by rw [r2 k q1]; exact hfr k q1 q2 q3
      have hS2 := (hS.step r2 r3 r4 r5 r6).congr hw2 ha2
      have he : sp_ff (fun g => decide (hd g < w g - 1 + sp_fl F kd lm P C r g)) t (f + 1) s0 = sp_stp t f (sp_ff (fun g => decide (hd g < w g - 1 + sp_fl F kd lm P C r g)) t f s0) := by
        show (if decide _ = true then _ else _) = _
        rw [if_pos (decide_eq_true q)]
      rw [← he] at hS2
      obtain ⟨M3, t1, t2, t3⟩ := ih (f + 1) (by omega) M2 (some (pm_i (nI (sp_c F kd lm P C r (f + 1))))) (hL.fr hfr2) hS2
      refine ⟨M3, ?_, hfr2.trans t2, t3⟩
      rw [r1]
      simp only [pz_bind, pz_psh0, rx_28_0, rx_28_1, rx_28_3, rx_28_4, rx_28_8, rx_28_9, rx_28_12, rx_28_15, rx_28_16, rx_28_18, rx_28_20, rx_28_22, rx_28_24, rx_28_27, rx_28_29, rx_28_30, rx_28_33, rx_28_35, rx_28_36, rx_28_37, rx_28_40, rx_28_42, rx_28_43, rx_28_44, rx_28_45, rx_28_48, rx_28_50, rx_28_51, rx_28_53, rx_28_54, rx_28_55, rx_28_56, rx_28_59, rx_28_61, rx_28_62, rx_28_63, rx_28_65, rx_28_67, rx_28_68, rx_28_69, rx_28_70, rx_28_71, rx_28_74, rx_28_76, rx_28_77, rx_28_78, rx_28_81, rx_28_83, rx_28_84, rx_28_87, rx_28_88, rx_28_89, rx_28_91, rx_28_94, rx_28_96, rx_28_98, rx_28_101, rx_28_104, pz_nlz_i, pz_add]
      exact t1
    · simp only [q, if_false]
      have hS2 := (hS.step (M2 := pm_up (pm_up M 21 f (nI (w f - 1 + sp_fl F kd lm P C r f))) 22 f (nI (a f + sp_fl F kd lm P C r f))) (fun _ _ => rfl) (s2 := sp_ff (fun g => decide (hd g < w g - 1 + sp_fl F kd lm P C r g)) t f s0) (by rw [pz_up_c (by decide), pz_up_c (by decide)]; exact hS.2.2.1) (by rw [pz_up_c (by decide), pz_up_c (by decide)]; exact hS.2.2.2.1) (by rw [pz_up_c (by decide), pz_up_c (by decide)]; exact hS.2.2.2.2.1) (by rw [pz_up_c (by decide), pz_up_c (by decide)]; exact hS.2.2.2.2.2)).congr hw2 ha2
      have he : sp_ff (fun g => decide (hd g < w g - 1 + sp_fl F kd lm P C r g)) t (f + 1) s0 = sp_ff (fun g => decide (hd g < w g - 1 + sp_fl F kd lm P C r g)) t f s0 := by
        show (if decide _ = true then _ else _) = _
        rw [if_neg (fun h => q (of_decide_eq_true h))]
      rw [← he] at hS2
      obtain ⟨M3, t1, t2, t3⟩ := ih (f + 1) (by omega) _ (some (pm_i (nI (sp_c F kd lm P C r (f + 1))))) (hL.fr hfr) hS2
      exact ⟨M3, t1, hfr.trans t2, t3⟩
