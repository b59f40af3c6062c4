/-! odds. -/
def sp_rs (rn : Nat → Nat) (s : Nat) : Nat → Nat := fun t => if s.testBit t = true then rn t else 0
def sp_od (F D : Nat) (hd kd lm rn : Nat → Nat) (f s : Nat) : Bool := sp_ev F hd kd lm (sp_rs rn s) (fun _ => 0) 0 f D
def sp_ct (g : Nat → Bool) : Nat → Nat
  | 0 => 0
  | s + 1 => if g s = true then sp_ct g s + 1 else sp_ct g s
theorem sp_ct_le (g : Nat → Bool) : ∀ s, sp_ct g s ≤ s
  | 0 => Nat.le_refl 0
  | s + 1 => by
    have h := sp_ct_le g s
    unfold sp_ct
    split <;> omega
theorem pz_p8 {D : Nat} (h : D ≤ 8) : 2 ^ D ≤ 256 := Nat.pow_le_pow_right (n := 2) (by omega) h
theorem sp_rs9 {rn : Nat → Nat} (s : Nat) (h : ∀ t, rn t ≤ 9) : ∀ t, sp_rs rn s t ≤ 9 := by
  intro t
  unfold sp_rs
  split
  · exact h t
  · omega
theorem cx_ods_in {F D f s : Nat} {c : Int32} {nd hd kd lm rn : Nat → Nat} (hB : iv_B F D nd hd kd lm rn) (hs : s < 2147483648) : ∀ (dd t : Nat), t + dd = D → ∀ M : pm_M, iv_L M F D nd hd kd lm rn → iv_S M F (sp_w F kd lm (sp_rs rn s) (fun _ => 0) 0 t) (sp_a F kd lm (sp_rs rn s) (fun _ => 0) 0 t) (sp_s F hd kd lm (sp_rs rn s) (fun _ => 0) 0 t) →
    ∃ M2, pm_Rc pm_X0 63 (27, [some (pm_r 0), some (pm_i (nI f)), some (pm_i c), some (pm_i (nI s)), some (pm_i (nI t))], [], M) = pm_Rc pm_X0 63 (83, [some (pm_r 0), some (pm_i (nI f)), some (pm_i c), some (pm_i (nI s)), some (pm_i (nI D))], [], M2) ∧ fr_S M M2 ∧ iv_S M2 F (sp_w F kd lm (sp_rs rn s) (fun _ => 0) 0 D) (sp_a F kd lm (sp_rs rn s) (fun _ => 0) 0 D) (sp_s F hd kd lm (sp_rs rn s) (fun _ => 0) 0 D) := by
  obtain ⟨b1, b2, b3, b4, b5, b6⟩ := id hB
  intro dd
  induction dd with
  | zero =>
    intro t ht M hL hS
    have e : t = D := by omega
    subst e
    refine ⟨M, ?_, fr_S.refl, hS⟩
    rw [rx_63_27]
    simp only [rx_63_29, rx_63_30, rx_63_33, rx_63_36, hL.2.1, pz_lt (show t < 2147483648 by omega) (show t < 2147483648 by omega), Nat.lt_irrefl, if_false]
  | succ dd ih =>
    intro t ht M hL hS
    obtain ⟨M1, r1, r2, r3⟩ := cx_pass (C := 0) (t := t) (rr := sp_rs rn s) (pp := fun _ => 0) hL hB (sp_rs9 s b6) (by omega) (by omega) (by omega) hS
    obtain ⟨M2, t1, t2, t3⟩ := ih (t + 1) (by omega) M1 (hL.fr r2) r3
    refine ⟨M2, ?_, r2.trans t2, t3⟩
    have hgo : pm_Rc pm_X0 63 (27, [some (pm_r 0), some (pm_i (nI f)), some (pm_i c), some (pm_i (nI s)), some (pm_i (nI t))], [], M) = pm_Rc pm_X0 63 (72, [some (pm_r 0), some (pm_i (nI f)), some (pm_i c), some (pm_i (nI s)), some (pm_i (nI t))], [pm_i (nI (sp_rs rn s t)), pm_i (nI t), pm_r 2, pm_r 3], M) := by
      rw [rx_63_27]
      unfold sp_rs
      by_cases q : s.testBit t = true
      · simp only [rx_63_29, rx_63_30, rx_63_33, rx_63_36, rx_63_39, rx_63_40, rx_63_43, rx_63_44, rx_63_47, rx_63_49, rx_63_50, rx_63_52, rx_63_55, rx_63_58, rx_63_59, rx_63_62, rx_63_65, rx_63_67, rx_63_68, rx_63_71, hL.2.1, pz_lt (show t < 2147483648 by omega) (show D < 2147483648 by omega), show t < D by omega, if_true, cx_isIn hs (show t < 31 by omega), q, pz_bind, pz_psh, pz_n10, if_false, pz_ald_17 (show t < 8 by omega), hL.2.2.2.2.2.2 t (by omega)]
      · simp only [rx_63_29, rx_63_30, rx_63_33, rx_63_36, rx_63_39, rx_63_40, rx_63_43, rx_63_44, rx_63_47, rx_63_49, rx_63_50, rx_63_52, rx_63_55, rx_63_58, rx_63_59, rx_63_62, rx_63_65, rx_63_67, rx_63_68, rx_63_71, hL.2.1, pz_lt (show t < 2147483648 by omega) (show D < 2147483648 by omega), show t < D by omega, if_true, cx_isIn hs (show t < 31 by omega), q, Bool.false_eq_true, pz_bind, pz_psh, pz_n00, if_false]
    rw [hgo]
    simp only [rx_63_72, rx_63_73, rx_63_74]
    rw [r1]
    simp only [pz_bind, pz_psh0, rx_63_77, rx_63_80, pz_add, pz_nlz_i]
    exact t1
theorem cx_ods_l {F D f : Nat} {nd hd kd lm rn : Nat → Nat} (hB : iv_B F D nd hd kd lm rn) (hf : f < F) : ∀ (dd s : Nat), s + dd = 2 ^ D → ∀ (M : pm_M) (o4 : Option pm_V), iv_L M F D nd hd kd lm rn →
    ∃ M2, pm_Rc pm_X0 63 (4, [some (pm_r 0), some (pm_i (nI f)), some (pm_i (nI (sp_ct (sp_od F D hd kd lm rn f) s))), some (pm_i (nI s)), o4], [], M) = some (some (pm_i (nI (sp_ct (sp_od F D hd kd lm rn f) (2 ^ D)))), M2) ∧ fr_S M M2 := by
  have hF : F ≤ 6 := by
    have := hB.1
    omega
  have hD : D ≤ 8 := by
    have := hB.1
    omega
  have hN := pz_p8 hD
  intro dd
  induction dd with
  | zero =>
    intro s hs M o4 hL
    have e : s = 2 ^ D := by omega
    have hsh : nI 1 <<< (nI D &&& 31) = nI s := by rw [pz_shl (by omega), e]
    rw [← e] at hN ⊢
    refine ⟨M, ?_, fr_S.refl⟩
    rw [rx_63_4]
    simp only [rx_63_0, rx_63_1, rx_63_2, rx_63_3, rx_63_5, rx_63_6, rx_63_7, rx_63_10, rx_63_13, rx_63_14, rx_63_17, rx_63_18, rx_63_21, rx_63_24, rx_63_25, rx_63_29, rx_63_30, rx_63_33, rx_63_36, rx_63_39, rx_63_40, rx_63_43, rx_63_44, rx_63_47, rx_63_49, rx_63_50, rx_63_52, rx_63_55, rx_63_58, rx_63_59, rx_63_62, rx_63_65, rx_63_67, rx_63_68, rx_63_71, rx_63_72, rx_63_73, rx_63_74, rx_63_77, rx_63_80, rx_63_83, rx_63_84, rx_63_87, rx_63_90, rx_63_91, rx_63_94, rx_63_97, rx_63_100, rx_63_103, rx_63_106, rx_63_107, hL.2.1, hsh, pz_lt (show s < 2147483648 by omega) (show s < 2147483648 by omega), Nat.lt_irrefl, if_false]
  | succ dd ih =>
    intro s hs M o4 hL
    obtain ⟨M0, u1, u2, u3⟩ := cx_begin (M := M) F hF
    obtain ⟨M1, r1, r2, r3⟩ := cx_ods_in (f := f) (c := nI (sp_ct (sp_od F D hd kd lm rn f) s)) hB (show s < 2147483648 by omega) D 0 (by omega) M0 (hL.fr u2) u3
    have h64 := sp_s_64 (hd := hd) (kd := kd) (lm := lm) (rr := sp_rs rn s) (pp := fun _ => 0) (C := 0) hF D
    have hbit := sp_s_bit (hd := hd) (kd := kd) (lm := lm) (rr := sp_rs rn s) (pp := fun _ => 0) (C := 0) hf D
    obtain ⟨M2, t1, t2⟩ := ih (s + 1) (by omega) M1 (some (pm_i (nI D))) ((hL.fr u2).fr r2)
    refine ⟨M2, ?_, (u2.trans r2).trans t2⟩
    have hgo : pm_Rc pm_X0 63 (4, [some (pm_r 0), some (pm_i (nI f)), some (pm_i (nI (sp_ct (sp_od F D hd kd lm rn f) s))), some (pm_i (nI s)), o4], [], M) = pm_Rc pm_X0 63 (27, [some (pm_r 0), some (pm_i (nI f)), some (pm_i (nI (sp_ct (sp_od F D hd kd lm rn f) s))), some (pm_i (nI s)), some (pm_i (nI 0))], [], M0) := by
      rw [rx_63_4]
      simp only [rx_63_5, rx_63_6, rx_63_7, rx_63_10, rx_63_13, rx_63_14, rx_63_17, rx_63_18, rx_63_21, rx_63_24, rx_63_25, hL.2.1, pz_shl (show D < 31 by omega), pz_lt (show s < 2147483648 by omega) (show 2 ^ D < 2147483648 by omega), show s < 2 ^ D by omega, if_true]
      rw [u1]
      simp only [rx_63_5, rx_63_6, rx_63_7, rx_63_10, rx_63_13, rx_63_14, rx_63_17, rx_63_18, rx_63_21, rx_63_24, rx_63_25, pz_bind, pz_psh0, pz_nlz_i]
    rw [hgo, r1]
    simp only [rx_63_83, rx_63_84, rx_63_87, rx_63_90, rx_63_91, rx_63_94, rx_63_97, rx_63_100, rx_63_103, r3.2.2.2.1, cx_isIn (show (sp_s F hd kd lm (sp_rs rn s) (fun _ => 0) 0 D).2.1 < 2147483648 by omega) (show f < 31 by omega), hbit, pz_bind, pz_psh]
    cases hv : sp_ev F hd kd lm (sp_rs rn s) (fun _ => 0) 0 f D with
    | true =>
      rw [show sp_ct (sp_od F D hd kd lm rn f) (s + 1) = sp_ct (sp_od F D hd kd lm rn f) s + 1 from if_pos hv] at t1
      simp only [if_true, pz_n10, if_false, rx_63_83, rx_63_84, rx_63_87, rx_63_90, rx_63_91, rx_63_94, rx_63_97, rx_63_100, rx_63_103, pz_add, pz_nlz_i]
      exact t1
    | false =>
      rw [show sp_ct (sp_od F D hd kd lm rn f) (s + 1) = sp_ct (sp_od F D hd kd lm rn f) s from if_neg (fun h => by have h9 : true = false := h.symm.trans hv; cases h9)] at t1
      simp only [Bool.false_eq_true, if_false, pz_n00, if_true, rx_63_83, rx_63_84, rx_63_87, rx_63_90, rx_63_91, rx_63_94, rx_63_97, rx_63_100, rx_63_103, pz_add, pz_nlz_i]
      exact t1
def sp_hv : Nat → Nat → Nat → Nat × Nat
  | 0, u, l => (u, l)
  | k + 1, u, l => if u % 2 = 0 then sp_hv k (u / 2) (l / 2) else (u, l)
theorem sp_hv_gcd : ∀ D, D < 9 → ∀ c, c < 257 → sp_hv D c (2 ^ D) = (c / Nat.gcd c (2 ^ D), 2 ^ D / Nat.gcd c (2 ^ D)) := by decide +kernel
theorem cx_odds_l {M : pm_M} {D : Nat} {w : Int32} {o1 : Option pm_V} (hM : M 2 1 = nI D) (hD : D ≤ 8) : ∀ (j k u l : Nat), k + j = D → u < 1000 → l < 1000 → pm_Rc pm_X0 62 (48, [some (pm_r 0), o1, some (pm_i w), some (pm_i (nI u)), some (pm_i (nI l)), some (pm_i (nI k))], [], M) = some (some (pm_l (if w = 0 then lN (sp_hv j u l).1 else lN (sp_hv j u l).2)), M) := by
  intro j
  induction j with
  | zero =>
    intro k u l hk hu hl
    have e : k = D := by omega
    subst e
    rw [rx_62_48]
    by_cases q : w = 0
    · simp only [rx_62_0, rx_62_1, rx_62_4, rx_62_5, rx_62_8, rx_62_11, rx_62_14, rx_62_15, rx_62_16, rx_62_19, rx_62_20, rx_62_21, rx_62_24, rx_62_27, rx_62_28, rx_62_29, rx_62_30, rx_62_33, rx_62_34, rx_62_35, rx_62_36, rx_62_39, rx_62_42, rx_62_43, rx_62_45, rx_62_46, rx_62_50, rx_62_51, rx_62_54, rx_62_57, rx_62_60, rx_62_61, rx_62_62, rx_62_63, rx_62_66, rx_62_67, rx_62_68, rx_62_69, rx_62_70, rx_62_72, rx_62_73, rx_62_74, rx_62_76, rx_62_79, rx_62_82, rx_62_83, rx_62_86, rx_62_87, rx_62_88, rx_62_91, rx_62_93, rx_62_94, hM, pz_lt (show k < 2147483648 by omega) (show k < 2147483648 by omega), Nat.lt_irrefl, if_false, q, if_true, nI_l (show u < 2 ^ 31 by omega), nI_l (show l < 2 ^ 31 by omega), sp_hv]
    · simp only [rx_62_0, rx_62_1, rx_62_4, rx_62_5, rx_62_8, rx_62_11, rx_62_14, rx_62_15, rx_62_16, rx_62_19, rx_62_20, rx_62_21, rx_62_24, rx_62_27, rx_62_28, rx_62_29, rx_62_30, rx_62_33, rx_62_34, rx_62_35, rx_62_36, rx_62_39, rx_62_42, rx_62_43, rx_62_45, rx_62_46, rx_62_50, rx_62_51, rx_62_54, rx_62_57, rx_62_60, rx_62_61, rx_62_62, rx_62_63, rx_62_66, rx_62_67, rx_62_68, rx_62_69, rx_62_70, rx_62_72, rx_62_73, rx_62_74, rx_62_76, rx_62_79, rx_62_82, rx_62_83, rx_62_86, rx_62_87, rx_62_88, rx_62_91, rx_62_93, rx_62_94, hM, pz_lt (show k < 2147483648 by omega) (show k < 2147483648 by omega), Nat.lt_irrefl, if_false, q, nI_l (show u < 2 ^ 31 by omega), nI_l (show l < 2 ^ 31 by omega), sp_hv]
  | succ j ih =>
    intro k u l hk hu hl
    rw [rx_62_48]
    by_cases q2 : u % 2 = 0
    · have h9 := ih (k + 1) (u / 2) (l / 2) (by omega) (by omega) (by omega)
      rw [show sp_hv (j + 1) u l = sp_hv j (u / 2) (l / 2) from if_pos q2]
      simp only [rx_62_0, rx_62_1, rx_62_4, rx_62_5, rx_62_8, rx_62_11, rx_62_14, rx_62_15, rx_62_16, rx_62_19, rx_62_20, rx_62_21, rx_62_24, rx_62_27, rx_62_28, rx_62_29, rx_62_30, rx_62_33, rx_62_34, rx_62_35, rx_62_36, rx_62_39, rx_62_42, rx_62_43, rx_62_45, rx_62_46, rx_62_50, rx_62_51, rx_62_54, rx_62_57, rx_62_60, rx_62_61, rx_62_62, rx_62_63, rx_62_66, rx_62_67, rx_62_68, rx_62_69, rx_62_70, rx_62_72, rx_62_73, rx_62_74, rx_62_76, rx_62_79, rx_62_82, rx_62_83, rx_62_86, rx_62_87, rx_62_88, rx_62_91, rx_62_93, rx_62_94, hM, pz_lt (show k < 2147483648 by omega) (show D < 2147483648 by omega), show k < D by omega, if_true, pz_and1 (show u < 2147483648 by omega), q2, pz_n00, pz_shr1 (show u < 2147483648 by omega), pz_shr1 (show l < 2147483648 by omega), pz_add, pz_nlz_i]
      exact h9
    · rw [show sp_hv (j + 1) u l = (u, l) from if_neg q2]
      have q3 : u % 2 = 1 := by omega
      by_cases q : w = 0
      · simp only [rx_62_0, rx_62_1, rx_62_4, rx_62_5, rx_62_8, rx_62_11, rx_62_14, rx_62_15, rx_62_16, rx_62_19, rx_62_20, rx_62_21, rx_62_24, rx_62_27, rx_62_28, rx_62_29, rx_62_30, rx_62_33, rx_62_34, rx_62_35, rx_62_36, rx_62_39, rx_62_42, rx_62_43, rx_62_45, rx_62_46, rx_62_50, rx_62_51, rx_62_54, rx_62_57, rx_62_60, rx_62_61, rx_62_62, rx_62_63, rx_62_66, rx_62_67, rx_62_68, rx_62_69, rx_62_70, rx_62_72, rx_62_73, rx_62_74, rx_62_76, rx_62_79, rx_62_82, rx_62_83, rx_62_86, rx_62_87, rx_62_88, rx_62_91, rx_62_93, rx_62_94, hM, pz_lt (show k < 2147483648 by omega) (show D < 2147483648 by omega), show k < D by omega, if_true, pz_and1 (show u < 2147483648 by omega), q3, pz_n10, if_false, q, nI_l (show u < 2 ^ 31 by omega)]
      · simp only [rx_62_0, rx_62_1, rx_62_4, rx_62_5, rx_62_8, rx_62_11, rx_62_14, rx_62_15, rx_62_16, rx_62_19, rx_62_20, rx_62_21, rx_62_24, rx_62_27, rx_62_28, rx_62_29, rx_62_30, rx_62_33, rx_62_34, rx_62_35, rx_62_36, rx_62_39, rx_62_42, rx_62_43, rx_62_45, rx_62_46, rx_62_50, rx_62_51, rx_62_54, rx_62_57, rx_62_60, rx_62_61, rx_62_62, rx_62_63, rx_62_66, rx_62_67, rx_62_68, rx_62_69, rx_62_70, rx_62_72, rx_62_73, rx_62_74, rx_62_76, rx_62_79, rx_62_82, rx_62_83, rx_62_86, rx_62_87, rx_62_88, rx_62_91, rx_62_93, rx_62_94, hM, pz_lt (show k < 2147483648 by omega) (show D < 2147483648 by omega), show k < D by omega, if_true, pz_and1 (show u < 2147483648 by omega), q3, pz_n10, if_false, q, nI_l (show l < 2 ^ 31 by omega)]
theorem pz_cmp0 : (lg_cmp (lN 0) (lN 0) = 0) = True := by simp [show lg_cmp (lN 0) (lN 0) = 0 by decide]
theorem pz_cmp {b : Nat} (h : 0 < b) (hb : b < 1000) : (lg_cmp (lN b) (lN 0) = 0) = False := by
  refine eq_false ?_
  unfold lg_cmp
  rw [if_pos ((pk_lLT (by omega) (by omega)).mpr h)]
  decide
theorem mx_gcd_l {M : pm_M} {u dd : Nat} {w : Int32} (hu : u < 1000) (hd : dd < 1000) : ∀ (n a b : Nat), b < n → a < 1000 → b < 1000 → 0 < Nat.gcd a b → ∀ (o9 o10 : Option pm_V), pm_Rc pm_X0 127 (6, [some (pm_l (lN u)), none, some (pm_l (lN dd)), none, some (pm_i w), some (pm_l (lN a)), none, some (pm_l (lN b)), none, o9, o10], [], M) = some (some (pm_l (if w = 0 then lN (u / Nat.gcd a b) else lN (dd / Nat.gcd a b))), M) := by
  intro n
  induction n with
  | zero =>
    intro a b hb
    omega
  | succ n ih =>
    intro a b hb ha hb2 hg o9 o10
    rw [rx_127_6]
    by_cases q : b = 0
    · subst q
      have hg2 : Nat.gcd a 0 = a := Nat.gcd_zero_right a
      rw [hg2] at hg ⊢
      have ha0 : (lN a = 0) = False := by
        refine eq_false (fun h => ?_)
        have h2 : lN a = lN 0 := h
        rw [pk_lEQ (by omega) (by omega)] at h2
        omega
      by_cases q2 : w = 0
      · simp only [rx_127_0, rx_127_1, rx_127_3, rx_127_4, rx_127_8, rx_127_9, rx_127_10, rx_127_13, rx_127_15, rx_127_17, rx_127_18, rx_127_20, rx_127_22, rx_127_24, rx_127_26, rx_127_28, rx_127_31, rx_127_33, rx_127_36, rx_127_37, rx_127_39, rx_127_40, rx_127_43, rx_127_44, rx_127_46, rx_127_47, pz_cmp0, if_true, q2, ha0, if_false, pk_lDiv (show u < 2 ^ 63 by omega) hg (show a < 2 ^ 63 by omega)]
      · simp only [rx_127_0, rx_127_1, rx_127_3, rx_127_4, rx_127_8, rx_127_9, rx_127_10, rx_127_13, rx_127_15, rx_127_17, rx_127_18, rx_127_20, rx_127_22, rx_127_24, rx_127_26, rx_127_28, rx_127_31, rx_127_33, rx_127_36, rx_127_37, rx_127_39, rx_127_40, rx_127_43, rx_127_44, rx_127_46, rx_127_47, pz_cmp0, if_true, q2, ha0, if_false, pk_lDiv (show dd < 2 ^ 63 by omega) hg (show a < 2 ^ 63 by omega)]
    · have hb0 : (lN b = 0) = False := by
        refine eq_false (fun h => ?_)
        have h2 : lN b = lN 0 := h
        rw [pk_lEQ (by omega) (by omega)] at h2
        omega
      have hm : a % b < b := Nat.mod_lt _ (by omega)
      have he : Nat.gcd a b = Nat.gcd b (a % b) := by
        rw [Nat.gcd_comm a b, Nat.gcd_rec b a, Nat.gcd_comm]
      rw [he] at hg ⊢
      have h9 := ih b (a % b) (by omega) hb2 (by omega) hg (some (pm_l (lN (a % b)))) none
      simp only [rx_127_0, rx_127_1, rx_127_3, rx_127_4, rx_127_8, rx_127_9, rx_127_10, rx_127_13, rx_127_15, rx_127_17, rx_127_18, rx_127_20, rx_127_22, rx_127_24, rx_127_26, rx_127_28, rx_127_31, rx_127_33, rx_127_36, rx_127_37, rx_127_39, rx_127_40, rx_127_43, rx_127_44, rx_127_46, rx_127_47, pz_cmp (show 0 < b by omega) hb2, if_false, hb0, pk_lRem (show a < 2 ^ 63 by omega) (show 0 < b by omega) (show b < 2 ^ 63 by omega), pz_nlz_n]
      exact h9
theorem mx_gcd {M : pm_M} {u dd : Nat} {w : Int32} (hu : u < 1000) (hd : dd < 1000) (h0 : 0 < dd) : pm_Rc pm_X0 127 (0, [some (pm_l (lN u)), none, some (pm_l (lN dd)), none, some (pm_i w), none, none, none, none, none, none], [], M) = some (some (pm_l (if w = 0 then lN (u / Nat.gcd u dd) else lN (dd / Nat.gcd u dd))), M) := by
  have h9 := mx_gcd_l (M := M) (w := w) hu hd (dd + 1) u dd (by omega) hu hd (Nat.gcd_pos_of_pos_right u h0) none none
  simp only [rx_127_0, rx_127_1, rx_127_3, rx_127_4, pz_nlz_i, pz_nlz_n]
  exact h9
theorem pz_lsh : ∀ D, D < 9 → lN 1 <<< ((nI D).toInt64 &&& 63) = lN (2 ^ D) := by decide +kernel
theorem mx_ods_l {F D f : Nat} {nd hd kd lm rn : Nat → Nat} {w : Int32} (hB : iv_B F D nd hd kd lm rn) (hf : f < F) : ∀ (dd s : Nat), s + dd = 2 ^ D → ∀ (M : pm_M), iv_N M F D nd hd kd lm rn → M 23 25 = nI 0 →
    ∃ M2, pm_Rc pm_X0 126 (26, [some (pm_r 23), some (pm_i (nI f)), some (pm_i w), some (pm_i (nI (sp_ct (sp_od F D hd kd lm rn f) s))), some (pm_i (nI s))], [], M) = some (some (pm_l (if w = 0 then lN (sp_ct (sp_od F D hd kd lm rn f) (2 ^ D) / Nat.gcd (sp_ct (sp_od F D hd kd lm rn f) (2 ^ D)) (2 ^ D)) else lN (2 ^ D / Nat.gcd (sp_ct (sp_od F D hd kd lm rn f) (2 ^ D)) (2 ^ D)))), M2) ∧ fr_Z M M2 := by
  have hF : F ≤ 6 := by
    have := hB.1
    omega
  have hD : D ≤ 8 := by
    have := hB.1
    omega
  have hN := pz_p8 hD
  have hP1 : 1 ≤ 2 ^ D := Nat.one_le_two_pow
  intro dd
  induction dd with
  | zero =>
    intro s hs M hL hcl
    have e : s = 2 ^ D := by omega
    have hct := sp_ct_le (sp_od F D hd kd lm rn f) (2 ^ D)
    rw [e]
    refine ⟨M, ?_, fr_Z.refl⟩
    rw [rx_126_26]
    simp only [rx_126_0, rx_126_1, rx_126_2, rx_126_5, rx_126_8, rx_126_9, rx_126_10, rx_126_11, rx_126_14, rx_126_17, rx_126_20, rx_126_21, rx_126_22, rx_126_23, rx_126_24, rx_126_28, rx_126_29, rx_126_30, rx_126_33, rx_126_34, rx_126_37, rx_126_38, rx_126_39, rx_126_40, rx_126_42, rx_126_45, rx_126_48, rx_126_49, rx_126_52, rx_126_53, rx_126_54, rx_126_55, rx_126_58, rx_126_61, rx_126_62, rx_126_63, rx_126_64, rx_126_65, rx_126_68, rx_126_69, rx_126_70, rx_126_73, hL.2.1, pz_shl (show D < 31 by omega), pz_lt (show 2 ^ D < 2147483648 by omega) (show 2 ^ D < 2147483648 by omega), Nat.lt_irrefl, if_false, nI_l (show sp_ct (sp_od F D hd kd lm rn f) (2 ^ D) < 2 ^ 31 by omega), pz_lsh D (show D < 9 by omega), mx_gcd (show sp_ct (sp_od F D hd kd lm rn f) (2 ^ D) < 1000 by omega) (show 2 ^ D < 1000 by omega) (show 0 < 2 ^ D by omega), pz_bind, pz_psh]
  | succ dd ih =>
    intro s hs M hL hcl
    obtain ⟨M1, r1, r2⟩ := mx_flood (C := 0) (S := s) (f := f) (rr := sp_rs rn s) hL hB hcl hf (show s < 2147483648 by omega) (by omega) (fun t _ => rfl) (sp_rs9 s hB.2.2.2.2.2)
    obtain ⟨M2, t1, t2⟩ := ih (s + 1) (by omega) M1 (hL.fr r2) (by rw [r2.2 25 (by decide) (by decide) (by decide)]; exact hcl)
    refine ⟨M2, ?_, r2.trans t2⟩
    rw [rx_126_26]
    simp only [rx_126_0, rx_126_1, rx_126_2, rx_126_5, rx_126_8, rx_126_9, rx_126_10, rx_126_11, rx_126_14, rx_126_17, rx_126_20, rx_126_21, rx_126_22, rx_126_23, rx_126_24, rx_126_28, rx_126_29, rx_126_30, rx_126_33, rx_126_34, rx_126_37, rx_126_38, rx_126_39, rx_126_40, rx_126_42, rx_126_45, rx_126_48, rx_126_49, rx_126_52, rx_126_53, rx_126_54, rx_126_55, rx_126_58, rx_126_61, rx_126_62, rx_126_63, rx_126_64, rx_126_65, rx_126_68, rx_126_69, rx_126_70, rx_126_73, hL.2.1, pz_shl (show D < 31 by omega), pz_lt (show s < 2147483648 by omega) (show 2 ^ D < 2147483648 by omega), show s < 2 ^ D by omega, if_true, r1, pz_bind, pz_psh]
    cases hv : sp_ev F hd kd lm (sp_rs rn s) (fun _ => 0) 0 f D with
    | true =>
      rw [show sp_ct (sp_od F D hd kd lm rn f) (s + 1) = sp_ct (sp_od F D hd kd lm rn f) s + 1 from if_pos hv] at t1
      simp only [if_true, pz_n10, if_false, rx_126_0, rx_126_1, rx_126_2, rx_126_5, rx_126_8, rx_126_9, rx_126_10, rx_126_11, rx_126_14, rx_126_17, rx_126_20, rx_126_21, rx_126_22, rx_126_23, rx_126_24, rx_126_28, rx_126_29, rx_126_30, rx_126_33, rx_126_34, rx_126_37, rx_126_38, rx_126_39, rx_126_40, rx_126_42, rx_126_45, rx_126_48, rx_126_49, rx_126_52, rx_126_53, rx_126_54, rx_126_55, rx_126_58, rx_126_61, rx_126_62, rx_126_63, rx_126_64, rx_126_65, rx_126_68, rx_126_69, rx_126_70, rx_126_73, pz_add, pz_nlz_i]
      exact t1
    | false =>
      rw [show sp_ct (sp_od F D hd kd lm rn f) (s + 1) = sp_ct (sp_od F D hd kd lm rn f) s from if_neg (fun h => by have h9 : true = false := h.symm.trans hv; cases h9)] at t1
      simp only [Bool.false_eq_true, if_false, pz_n00, if_true, rx_126_0, rx_126_1, rx_126_2, rx_126_5, rx_126_8, rx_126_9, rx_126_10, rx_126_11, rx_126_14, rx_126_17, rx_126_20, rx_126_21, rx_126_22, rx_126_23, rx_126_24, rx_126_28, rx_126_29, rx_126_30, rx_126_33, rx_126_34, rx_126_37, rx_126_38, rx_126_39, rx_126_40, rx_126_42, rx_126_45, rx_126_48, rx_126_49, rx_126_52, rx_126_53, rx_126_54, rx_126_55, rx_126_58, rx_126_61, rx_126_62, rx_126_63, rx_126_64, rx_126_65, rx_126_68, rx_126_69, rx_126_70, rx_126_73, pz_add, pz_nlz_i, Nat.add_zero]
      exact t1
theorem op_odds (x w : Int32) : op_ok 62 126 [some (pm_r 0), some (pm_i x), some (pm_i w), none, none, none] [some (pm_r 23), some (pm_i x), some (pm_i w), none, none] := by
  intro M hM
  obtain ⟨d, e, hG, hX, hY⟩ := hM
  obtain ⟨hB, hn, hq, hl⟩ := id hG
  obtain ⟨xL, xR, xT, xS⟩ := id hX
  obtain ⟨yL, yR, yT, yS⟩ := id hY
  obtain ⟨x1, x2, x3, x4, x5, x6, x7⟩ := id xL
  obtain ⟨y1, y2, y3, y4, y5, y6, y7⟩ := id yL
  obtain ⟨b1, b2, b3, b4, b5, b6⟩ := id hB
  have hF : d 0 0 ≤ 6 := by omega
  have hD : d 0 1 ≤ 8 := by omega
  rcases pz_any x (d 0 0) (by omega) with hx | ⟨f, hf, rfl⟩
  · refine ⟨pm_l (lN 9223372036854775808), M, M, ?_, ?_, d, e, hG, hX, hY⟩
    · simp only [rx_62_0, rx_62_1, rx_62_4, rx_62_5, rx_62_8, rx_62_11, rx_62_14, cx_hasField_n x1 hx, pz_bind, pz_psh, pz_n00, if_true]
    · simp only [rx_126_0, rx_126_1, rx_126_2, rx_126_5, rx_126_8, rx_126_9, rx_126_10, rx_126_11, rx_126_14, rx_126_17, rx_126_20, mx_isField_n y1 hx, pz_bind, pz_psh, pz_n00, if_true]
  · rcases pz_any w 2 (by omega) with hw | ⟨k, hk, rfl⟩
    · have w0 : ¬ w = 0 := by
        intro h
        rcases hw with hw | hw
        · rw [h] at hw
          exact absurd hw (by decide)
        · rw [h] at hw
          exact absurd hw.2 (by decide)
      have w1 : ¬ w = nI 1 := by
        intro h
        rcases hw with hw | hw
        · rw [h] at hw
          exact absurd hw (by decide)
        · rw [h] at hw
          exact absurd hw.2 (by decide)
      refine ⟨pm_l (lN 9223372036854775808), M, M, ?_, ?_, d, e, hG, hX, hY⟩
      · simp only [rx_62_0, rx_62_1, rx_62_4, rx_62_5, rx_62_8, rx_62_11, rx_62_14, rx_62_15, rx_62_16, rx_62_19, rx_62_20, rx_62_21, rx_62_24, rx_62_27, cx_hasField_y x1 hF hf, pz_bind, pz_psh, pz_n10, if_false, w0, w1]
      · simp only [rx_126_0, rx_126_1, rx_126_2, rx_126_5, rx_126_8, rx_126_9, rx_126_10, rx_126_11, rx_126_14, rx_126_17, rx_126_20, mx_isField_y y1 hF hf, mx_within_n (h := 1) (by omega) hw, pz_bind, pz_psh, pz_n10, if_false, pz_n00, if_true]
    · have hP := pz_p8 hD
      obtain ⟨c, ec⟩ : ∃ c, c = sp_ct (sp_od (d 0 0) (d 0 1) (d 2) (d 3) (d 4) (d 5) f) (2 ^ d 0 1) := ⟨_, rfl⟩
      have hc : c ≤ 2 ^ d 0 1 := by
        rw [ec]
        exact sp_ct_le _ _
      obtain ⟨M1, r1, r2⟩ := cx_ods_l hB hf (2 ^ d 0 1) 0 (by omega) M none xL
      have hY1 := iy_S_fr hY r2
      obtain ⟨z1, z2, z3, z4⟩ := id hY1
      obtain ⟨M2, t1, t2⟩ := mx_ods_l (w := nI k) hB hf (2 ^ d 0 1) 0 (by omega) M1 z1 z3.2.2
      rw [← ec] at r1 t1
      have hl := cx_odds_l (M := M1) (D := d 0 1) (w := nI k) (o1 := some (pm_i (nI f))) ((xL.fr r2).2.1) hD (d 0 1) 0 c (2 ^ d 0 1) (by omega) (by omega) (by omega)
      rw [sp_hv_gcd (d 0 1) (by omega) c (by omega)] at hl
      refine ⟨pm_l (if nI k = 0 then lN (c / Nat.gcd c (2 ^ d 0 1)) else lN (2 ^ d 0 1 / Nat.gcd c (2 ^ d 0 1))), M1, M2, ?_, ?_, d, e, hG, ix_Z_fr (ix_S_fr hX r2) t2, iy_Z_fr hY1 t2⟩
      · have hcall : pm_Rc pm_X0 63 (0, [some (pm_r 0), some (pm_i (nI f)), none, none, none], [], M) = some (some (pm_i (nI c)), M1) := by
          simp only [rx_63_0, rx_63_1, rx_63_2, rx_63_3, pz_nlz_i]
          exact r1
        have hgo : pm_Rc pm_X0 62 (0, [some (pm_r 0), some (pm_i (nI f)), some (pm_i (nI k)), none, none, none], [], M) = pm_Rc pm_X0 62 (48, [some (pm_r 0), some (pm_i (nI f)), some (pm_i (nI k)), some (pm_i (nI c)), some (pm_i (nI (2 ^ d 0 1))), some (pm_i (nI 0))], [], M1) := by
          rcases (show k = 0 ∨ k = 1 by omega) with rfl | rfl
          · simp only [rx_62_0, rx_62_1, rx_62_4, rx_62_5, rx_62_8, rx_62_11, rx_62_14, rx_62_15, rx_62_16, rx_62_19, rx_62_20, rx_62_21, rx_62_24, rx_62_27, rx_62_28, rx_62_29, rx_62_30, rx_62_33, rx_62_34, rx_62_35, rx_62_36, rx_62_39, rx_62_42, rx_62_43, rx_62_45, rx_62_46, cx_hasField_y x1 hF hf, pz_bind, pz_psh, pz_n10, if_false, pz_n00, if_true, hcall, (xL.fr r2).2.1, pz_shl (show d 0 1 < 31 by omega), pz_nlz_i]
          · simp only [rx_62_0, rx_62_1, rx_62_4, rx_62_5, rx_62_8, rx_62_11, rx_62_14, rx_62_15, rx_62_16, rx_62_19, rx_62_20, rx_62_21, rx_62_24, rx_62_27, rx_62_28, rx_62_29, rx_62_30, rx_62_33, rx_62_34, rx_62_35, rx_62_36, rx_62_39, rx_62_42, rx_62_43, rx_62_45, rx_62_46, cx_hasField_y x1 hF hf, pz_bind, pz_psh, pz_n10, if_false, if_true, hcall, (xL.fr r2).2.1, pz_shl (show d 0 1 < 31 by omega), pz_nlz_i]
        rw [hgo]
        exact hl
      · simp only [rx_126_0, rx_126_1, rx_126_2, rx_126_5, rx_126_8, rx_126_9, rx_126_10, rx_126_11, rx_126_14, rx_126_17, rx_126_20, rx_126_21, rx_126_22, rx_126_23, rx_126_24, mx_isField_y z1.1 hF hf, mx_within_y (show 0 ≤ k by omega) (show k ≤ 1 by omega) (by omega), pz_bind, pz_psh, pz_n10, if_false, pz_nlz_i]
        exact t1
