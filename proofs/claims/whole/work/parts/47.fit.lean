/-! limits, kinds, rains. -/
def sp_so (rf rw rv w : Nat → Nat) (t : Nat) : Nat → Bool
  | 0 => true
  | q + 1 => sp_so rf rw rv w t q && !(decide (rw q = t) && !decide (w (rf q) = rv q))
theorem sp_so_dn {rf rw rv w : Nat → Nat} {t q : Nat} : ∀ k, sp_so rf rw rv w t q = false → sp_so rf rw rv w t (q + k) = false
  | 0, h => h
  | k + 1, h => by
    show (sp_so rf rw rv w t (q + k) && _) = false
    rw [sp_so_dn k h]
    rfl
def rd_x (M : pm_M) (n : Nat) (rf rw rv : Nat → Nat) : Prop := M 4 0 = nI n ∧ ∀ q, q < n → M 18 q = nI (rf q) ∧ M 19 q = nI (rw q) ∧ M 20 q = nI (rv q)
def rd_y (M : pm_M) (n : Nat) (rf rw rv : Nat → Nat) : Prop := M 23 26 = nI n ∧ ∀ q, q < n → M 39 q = nI (rf q) ∧ M 40 q = nI (rw q) ∧ M 41 q = nI (rv q)
theorem cx_so_l {M : pm_M} {F n t : Nat} {rf rw rv w : Nat → Nat} (hF : F ≤ 6) (hn : n ≤ 8) (ht : t ≤ 8) (hR : rd_x M n rf rw rv) (hb : ∀ q, q < n → rf q < F ∧ rw q ≤ 8 ∧ rv q ≤ 99) (hw : ∀ g, g < F → M 21 g = nI (w g)) (hw9 : ∀ g, w g ≤ 1000) :
    ∀ (dd q : Nat), q + dd = n → sp_so rf rw rv w t q = true → pm_Rc pm_X0 11 (2, [some (pm_r 4), some (pm_i (nI t)), some (pm_r 21), some (pm_i (nI q))], [], M) = some (some (pm_i (nI (if sp_so rf rw rv w t n = true then 1 else 0))), M) := by
  intro dd
  induction dd with
  | zero =>
    intro q hq hs
    have e : q = n := by omega
    subst e
    rw [rx_11_2]
    simp only [rx_11_0, rx_11_1, rx_11_3, rx_11_4, rx_11_7, rx_11_10, rx_11_11, rx_11_14, rx_11_15, rx_11_16, rx_11_17, rx_11_20, rx_11_21, rx_11_22, rx_11_25, rx_11_26, rx_11_27, rx_11_28, rx_11_29, rx_11_32, rx_11_33, rx_11_34, rx_11_37, rx_11_38_0, rx_11_38_1, rx_11_39, rx_11_42, rx_11_45, rx_11_46_0, rx_11_46_1, hR.1, pz_lt (show q < 2147483648 by omega) (show q < 2147483648 by omega), Nat.lt_irrefl, if_false, hs, if_true]
  | succ dd ih =>
    intro q hq hs
    obtain ⟨g1, g2, g3⟩ := hR.2 q (by omega)
    obtain ⟨a1, a2, a3⟩ := hb q (by omega)
    have h9 := hw9 (rf q)
    rw [rx_11_2]
    simp only [rx_11_0, rx_11_1, rx_11_3, rx_11_4, rx_11_7, rx_11_10, rx_11_11, rx_11_14, rx_11_15, rx_11_16, rx_11_17, rx_11_20, rx_11_21, rx_11_22, rx_11_25, rx_11_26, rx_11_27, rx_11_28, rx_11_29, rx_11_32, rx_11_33, rx_11_34, rx_11_37, rx_11_38_0, rx_11_38_1, rx_11_39, rx_11_42, rx_11_45, rx_11_46_0, rx_11_46_1, hR.1, pz_lt (show q < 2147483648 by omega) (show n < 2147483648 by omega), show q < n by omega, if_true, pz_ald_19 (show q < 8 by omega), g2, pz_bind, pz_eq (show rw q < 2147483648 by omega) (show t < 2147483648 by omega), pz_ald_18 (show q < 8 by omega), g1, pz_ald_21 (show rf q < 6 by omega), hw (rf q) a1, pz_ald_20 (show q < 8 by omega), g3, pz_eq (show w (rf q) < 2147483648 by omega) (show rv q < 2147483648 by omega), pz_add, pz_nlz_r]
    by_cases c1 : rw q = t
    · by_cases c2 : w (rf q) = rv q
      · have h1 : sp_so rf rw rv w t (q + 1) = true := by
          show (_ && _) = true
          rw [hs, decide_eq_true c2]
          simp
        rw [if_pos c1, if_pos c2]
        exact ih (q + 1) (by omega) h1
      · have h1 : sp_so rf rw rv w t (q + 1) = false := by
          show (_ && _) = false
          rw [decide_eq_true c1, decide_eq_false c2]
          simp
        have h2 := sp_so_dn dd h1
        rw [show q + 1 + dd = n by omega] at h2
        rw [if_pos c1, if_neg c2, h2]
        rfl
    · have h1 : sp_so rf rw rv w t (q + 1) = true := by
        show (_ && _) = true
        rw [hs, decide_eq_false c1]
        simp
      rw [if_neg c1]
      exact ih (q + 1) (by omega) h1
theorem cx_so {M : pm_M} {F n t : Nat} {rf rw rv w : Nat → Nat} (hF : F ≤ 6) (hn : n ≤ 8) (ht : t ≤ 8) (hR : rd_x M n rf rw rv) (hb : ∀ q, q < n → rf q < F ∧ rw q ≤ 8 ∧ rv q ≤ 99) (hw : ∀ g, g < F → M 21 g = nI (w g)) (hw9 : ∀ g, w g ≤ 1000) : pm_Rc pm_X0 11 (0, [some (pm_r 4), some (pm_i (nI t)), some (pm_r 21), none], [], M) = some (some (pm_i (nI (if sp_so rf rw rv w t n = true then 1 else 0))), M) := by
  simp only [rx_11_0, rx_11_1, pz_nlz_r]
  exact cx_so_l hF hn ht hR hb hw hw9 n 0 (by omega) rfl
theorem mx_so_l {M : pm_M} {F n t : Nat} {rf rw rv w : Nat → Nat} (hF : F ≤ 6) (hn : n ≤ 8) (ht : t ≤ 8) (hR : rd_y M n rf rw rv) (hb : ∀ q, q < n → rf q < F ∧ rw q ≤ 8 ∧ rv q ≤ 99) (hw : ∀ g, g < F → M 37 g = nI (w g)) (hw9 : ∀ g, w g ≤ 1000) :
    ∀ (dd q : Nat), q + dd = n → sp_so rf rw rv w t q = true → pm_Rc pm_X0 123 (2, [some (pm_r 23), some (pm_i (nI t)), some (pm_i (nI q))], [], M) = some (some (pm_i (nI (if sp_so rf rw rv w t n = true then 1 else 0))), M) := by
  intro dd
  induction dd with
  | zero =>
    intro q hq hs
    have e : q = n := by omega
    subst e
    rw [rx_123_2]
    simp only [rx_123_0, rx_123_1, rx_123_3, rx_123_4, rx_123_7, rx_123_10, rx_123_11, rx_123_14, rx_123_15, rx_123_16, rx_123_17, rx_123_20, rx_123_21, rx_123_24, rx_123_25, rx_123_28, rx_123_29, rx_123_30, rx_123_31, rx_123_32, rx_123_35, rx_123_36, rx_123_37, rx_123_40, rx_123_41_0, rx_123_41_1, rx_123_42, rx_123_45, rx_123_48, rx_123_49_0, rx_123_49_1, hR.1, pz_lt (show q < 2147483648 by omega) (show q < 2147483648 by omega), Nat.lt_irrefl, if_false, hs, if_true]
  | succ dd ih =>
    intro q hq hs
    obtain ⟨g1, g2, g3⟩ := hR.2 q (by omega)
    obtain ⟨a1, a2, a3⟩ := hb q (by omega)
    have h9 := hw9 (rf q)
    rw [rx_123_2]
    simp only [rx_123_0, rx_123_1, rx_123_3, rx_123_4, rx_123_7, rx_123_10, rx_123_11, rx_123_14, rx_123_15, rx_123_16, rx_123_17, rx_123_20, rx_123_21, rx_123_24, rx_123_25, rx_123_28, rx_123_29, rx_123_30, rx_123_31, rx_123_32, rx_123_35, rx_123_36, rx_123_37, rx_123_40, rx_123_41_0, rx_123_41_1, rx_123_42, rx_123_45, rx_123_48, rx_123_49_0, rx_123_49_1, hR.1, pz_lt (show q < 2147483648 by omega) (show n < 2147483648 by omega), show q < n by omega, if_true, pz_ald_40 (show q < 8 by omega), g2, pz_bind, pz_eq (show rw q < 2147483648 by omega) (show t < 2147483648 by omega), pz_ald_39 (show q < 8 by omega), g1, pz_ald_37 (show rf q < 6 by omega), hw (rf q) a1, pz_ald_41 (show q < 8 by omega), g3, pz_eq (show w (rf q) < 2147483648 by omega) (show rv q < 2147483648 by omega), pz_add, pz_nlz_i]
    by_cases c1 : rw q = t
    · by_cases c2 : w (rf q) = rv q
      · have h1 : sp_so rf rw rv w t (q + 1) = true := by
          show (_ && _) = true
          rw [hs, decide_eq_true c2]
          simp
        rw [if_pos c1, if_pos c2]
        exact ih (q + 1) (by omega) h1
      · have h1 : sp_so rf rw rv w t (q + 1) = false := by
          show (_ && _) = false
          rw [decide_eq_true c1, decide_eq_false c2]
          simp
        have h2 := sp_so_dn dd h1
        rw [show q + 1 + dd = n by omega] at h2
        rw [if_pos c1, if_neg c2, h2]
        rfl
    · have h1 : sp_so rf rw rv w t (q + 1) = true := by
        show (_ && _) = true
        rw [hs, decide_eq_false c1]
        simp
      rw [if_neg c1]
      exact ih (q + 1) (by omega) h1
theorem mx_so {M : pm_M} {F n t : Nat} {rf rw rv w : Nat → Nat} (hF : F ≤ 6) (hn : n ≤ 8) (ht : t ≤ 8) (hR : rd_y M n rf rw rv) (hb : ∀ q, q < n → rf q < F ∧ rw q ≤ 8 ∧ rv q ≤ 99) (hw : ∀ g, g < F → M 37 g = nI (w g)) (hw9 : ∀ g, w g ≤ 1000) : pm_Rc pm_X0 123 (0, [some (pm_r 23), some (pm_i (nI t)), none], [], M) = some (some (pm_i (nI (if sp_so rf rw rv w t n = true then 1 else 0))), M) := by
  simp only [rx_123_0, rx_123_1, pz_nlz_i]
  exact mx_so_l hF hn ht hR hb hw hw9 n 0 (by omega) rfl
def sp_al (rf rw rv : Nat → Nat) (n : Nat) (W : Nat → Nat → Nat) : Nat → Bool
  | 0 => sp_so rf rw rv (W 0) 0 n
  | t + 1 => sp_al rf rw rv n W t && sp_so rf rw rv (W (t + 1)) (t + 1) n
theorem sp_al_dn {rf rw rv : Nat → Nat} {n t : Nat} {W : Nat → Nat → Nat} : ∀ k, sp_al rf rw rv n W t = false → sp_al rf rw rv n W (t + k) = false
  | 0, h => h
  | k + 1, h => by
    show (sp_al rf rw rv n W (t + k) && _) = false
    rw [sp_al_dn k h]
    rfl
/-- whether all readings are so -/
def sp_ra (d : iv_D) : Bool := sp_al (d 6) (d 7) (d 8) (d 0 2) (sp_w (d 0 0) (d 3) (d 4) (d 5) (fun _ => 0) 0) (d 0 1)
theorem cx_ars_l {d : iv_D} (hG : iv_G d) : ∀ (dd t : Nat), t + dd = d 0 1 → sp_al (d 6) (d 7) (d 8) (d 0 2) (sp_w (d 0 0) (d 3) (d 4) (d 5) (fun _ => 0) 0) t = true → ∀ (M : pm_M) (e : pm_M), ix M d e → iv_S M (d 0 0) (sp_w (d 0 0) (d 3) (d 4) (d 5) (fun _ => 0) 0 t) (sp_a (d 0 0) (d 3) (d 4) (d 5) (fun _ => 0) 0 t) (sp_s (d 0 0) (d 2) (d 3) (d 4) (d 5) (fun _ => 0) 0 t) →
    ∃ M2, pm_Rc pm_X0 59 (25, [some (pm_r 0), some (pm_i (nI 1)), some (pm_i (nI t))], [], M) = some (some (pm_i (nI (if sp_ra d = true then 1 else 0))), M2) ∧ fr_S M M2 := by
  obtain ⟨hB, hn, hq, hl⟩ := id hG
  obtain ⟨b1, b2, b3, b4, b5, b6⟩ := id hB
  have hF : d 0 0 ≤ 6 := by omega
  have hD : d 0 1 ≤ 8 := by omega
  intro dd
  induction dd with
  | zero =>
    intro t ht hs M e hX hS
    have e9 : t = d 0 1 := by omega
    subst e9
    have h1 : sp_ra d = true := hs
    obtain ⟨xL, xR, xT, xS⟩ := id hX
    refine ⟨M, ?_, fr_S.refl⟩
    rw [rx_59_25]
    simp only [rx_59_0, rx_59_1, rx_59_4, rx_59_7, rx_59_8, rx_59_11, rx_59_12, rx_59_13, rx_59_16, rx_59_19, rx_59_22, rx_59_23, rx_59_24, rx_59_26, rx_59_27, rx_59_30, rx_59_33, rx_59_36, rx_59_37, rx_59_40, rx_59_41, rx_59_44, rx_59_45, rx_59_48, rx_59_49, rx_59_50, rx_59_53, rx_59_56, rx_59_57, rx_59_58, rx_59_59, rx_59_60, rx_59_63, rx_59_64, rx_59_67, rx_59_68, rx_59_69, rx_59_70, rx_59_71, rx_59_74, rx_59_77, rx_59_80, rx_59_81, rx_59_84, rx_59_87, rx_59_88_0, rx_59_88_1, xL.2.1, pz_lt (show d 0 1 < 2147483648 by omega) (show d 0 1 < 2147483648 by omega), Nat.lt_irrefl, if_false, h1, if_true]
  | succ dd ih =>
    intro t ht hs M e hX hS
    obtain ⟨xL, xR, xT, xS⟩ := id hX
    obtain ⟨M1, r1, r2, r3⟩ := cx_pass (C := 0) (t := t) (rr := d 5) (pp := fun _ => 0) xL hB b6 (by omega) (by omega) (by omega) hS
    have hX1 := ix_S_fr hX r2
    have hw9 : ∀ g, sp_w (d 0 0) (d 3) (d 4) (d 5) (fun _ => 0) 0 (t + 1) g ≤ 1000 := fun g => by
      have := sp_w_le (d 0 0) (d 3) (d 4) (d 5) (fun _ => 0) 0 b6 (t + 1) g
      omega
    have hso := cx_so (t := t + 1) hF hn (by omega) hX1.2.1 (fun q hq2 => by
      have := hq q hq2
      omega) r3.1 hw9
    have hgo : pm_Rc pm_X0 59 (25, [some (pm_r 0), some (pm_i (nI 1)), some (pm_i (nI t))], [], M) = pm_Rc pm_X0 59 (25, [some (pm_r 0), some (pm_i (nI (if sp_so (d 6) (d 7) (d 8) (sp_w (d 0 0) (d 3) (d 4) (d 5) (fun _ => 0) 0 (t + 1)) (t + 1) (d 0 2) = true then 1 else 0))), some (pm_i (nI (t + 1)))], [], M1) := by
      rw [rx_59_25]
      simp only [rx_59_0, rx_59_1, rx_59_4, rx_59_7, rx_59_8, rx_59_11, rx_59_12, rx_59_13, rx_59_16, rx_59_19, rx_59_22, rx_59_23, rx_59_24, rx_59_26, rx_59_27, rx_59_30, rx_59_33, rx_59_36, rx_59_37, rx_59_40, rx_59_41, rx_59_44, rx_59_45, rx_59_48, rx_59_49, rx_59_50, rx_59_53, rx_59_56, rx_59_57, rx_59_58, rx_59_59, rx_59_60, rx_59_63, rx_59_64, rx_59_67, rx_59_68, rx_59_69, rx_59_70, rx_59_71, rx_59_74, rx_59_77, rx_59_80, rx_59_81, rx_59_84, rx_59_87, rx_59_88_0, rx_59_88_1, xL.2.1, pz_lt (show t < 2147483648 by omega) (show d 0 1 < 2147483648 by omega), show t < d 0 1 by omega, if_true, pz_n10, if_false, pz_ald_17 (show t < 8 by omega), xL.2.2.2.2.2.2 t (by omega), pz_bind]
      rw [r1]
      simp only [pz_bind, pz_psh, pz_psh0, rx_59_0, rx_59_1, rx_59_4, rx_59_7, rx_59_8, rx_59_11, rx_59_12, rx_59_13, rx_59_16, rx_59_19, rx_59_22, rx_59_23, rx_59_24, rx_59_26, rx_59_27, rx_59_30, rx_59_33, rx_59_36, rx_59_37, rx_59_40, rx_59_41, rx_59_44, rx_59_45, rx_59_48, rx_59_49, rx_59_50, rx_59_53, rx_59_56, rx_59_57, rx_59_58, rx_59_59, rx_59_60, rx_59_63, rx_59_64, rx_59_67, rx_59_68, rx_59_69, rx_59_70, rx_59_71, rx_59_74, rx_59_77, rx_59_80, rx_59_81, rx_59_84, rx_59_87, rx_59_88_0, rx_59_88_1, pz_add, pz_nlz_i, pz_nlz_r, hso]
    rw [hgo]
    cases hv : sp_so (d 6) (d 7) (d 8) (sp_w (d 0 0) (d 3) (d 4) (d 5) (fun _ => 0) 0 (t + 1)) (t + 1) (d 0 2) with
    | true =>
      have h1 : sp_al (d 6) (d 7) (d 8) (d 0 2) (sp_w (d 0 0) (d 3) (d 4) (d 5) (fun _ => 0) 0) (t + 1) = true := by
        show (_ && _) = true
        rw [hs, hv]
        rfl
      obtain ⟨M2, t1, t2⟩ := ih (t + 1) (by omega) h1 M1 e hX1 r3
      exact ⟨M2, t1, r2.trans t2⟩
    | false =>
      have h1 : sp_al (d 6) (d 7) (d 8) (d 0 2) (sp_w (d 0 0) (d 3) (d 4) (d 5) (fun _ => 0) 0) (t + 1) = false := by
        show (_ && _) = false
        rw [hv, Bool.and_false]
      have h2 := sp_al_dn dd h1
      rw [show t + 1 + dd = d 0 1 by omega] at h2
      have h3 : sp_ra d = false := h2
      refine ⟨M1, ?_, r2⟩
      rw [rx_59_25]
      by_cases q : t + 1 < d 0 1
      · simp only [rx_59_0, rx_59_1, rx_59_4, rx_59_7, rx_59_8, rx_59_11, rx_59_12, rx_59_13, rx_59_16, rx_59_19, rx_59_22, rx_59_23, rx_59_24, rx_59_26, rx_59_27, rx_59_30, rx_59_33, rx_59_36, rx_59_37, rx_59_40, rx_59_41, rx_59_44, rx_59_45, rx_59_48, rx_59_49, rx_59_50, rx_59_53, rx_59_56, rx_59_57, rx_59_58, rx_59_59, rx_59_60, rx_59_63, rx_59_64, rx_59_67, rx_59_68, rx_59_69, rx_59_70, rx_59_71, rx_59_74, rx_59_77, rx_59_80, rx_59_81, rx_59_84, rx_59_87, rx_59_88_0, rx_59_88_1, hX1.1.2.1, pz_lt (show t + 1 < 2147483648 by omega) (show d 0 1 < 2147483648 by omega), q, if_true, h3, Bool.false_eq_true, if_false, pz_n00]
      · simp only [rx_59_0, rx_59_1, rx_59_4, rx_59_7, rx_59_8, rx_59_11, rx_59_12, rx_59_13, rx_59_16, rx_59_19, rx_59_22, rx_59_23, rx_59_24, rx_59_26, rx_59_27, rx_59_30, rx_59_33, rx_59_36, rx_59_37, rx_59_40, rx_59_41, rx_59_44, rx_59_45, rx_59_48, rx_59_49, rx_59_50, rx_59_53, rx_59_56, rx_59_57, rx_59_58, rx_59_59, rx_59_60, rx_59_63, rx_59_64, rx_59_67, rx_59_68, rx_59_69, rx_59_70, rx_59_71, rx_59_74, rx_59_77, rx_59_80, rx_59_81, rx_59_84, rx_59_87, rx_59_88_0, rx_59_88_1, hX1.1.2.1, pz_lt (show t + 1 < 2147483648 by omega) (show d 0 1 < 2147483648 by omega), q, h3, Bool.false_eq_true, if_false]
theorem cx_ars {d : iv_D} {M : pm_M} {e : pm_M} (hG : iv_G d) (hX : ix M d e) : ∃ M2, pm_Rc pm_X0 59 (0, [some (pm_r 0), none, none], [], M) = some (some (pm_i (nI (if sp_ra d = true then 1 else 0))), M2) ∧ fr_S M M2 := by
  obtain ⟨hB, hn, hq, hl⟩ := id hG
  obtain ⟨b1, b2, b3, b4, b5, b6⟩ := id hB
  have hF : d 0 0 ≤ 6 := by omega
  have hD : d 0 1 ≤ 8 := by omega
  obtain ⟨M1, r1, r2, r3⟩ := cx_begin (M := M) (d 0 0) hF
  have hX1 := ix_S_fr hX r2
  have hso := cx_so (t := 0) hF hn (by omega) hX1.2.1 (fun q hq2 => by
    have := hq q hq2
    omega) r3.1 (fun _ => Nat.zero_le _)
  have hgo : pm_Rc pm_X0 59 (0, [some (pm_r 0), none, none], [], M) = pm_Rc pm_X0 59 (25, [some (pm_r 0), some (pm_i (nI (if sp_so (d 6) (d 7) (d 8) (fun _ => 0) 0 (d 0 2) = true then 1 else 0))), some (pm_i (nI 0))], [], M1) := by
    simp only [rx_59_0, rx_59_1, rx_59_4, rx_59_7, rx_59_8, rx_59_11, rx_59_12, rx_59_13, rx_59_16, rx_59_19, rx_59_22, rx_59_23, rx_59_24]
    rw [r1]
    simp only [rx_59_0, rx_59_1, rx_59_4, rx_59_7, rx_59_8, rx_59_11, rx_59_12, rx_59_13, rx_59_16, rx_59_19, rx_59_22, rx_59_23, rx_59_24, pz_bind, pz_psh, pz_psh0, hso, pz_nlz_r, pz_nlz_i]
  rw [hgo]
  cases hv : sp_so (d 6) (d 7) (d 8) (fun _ => 0) 0 (d 0 2) with
  | true =>
    obtain ⟨M2, t1, t2⟩ := cx_ars_l hG (d 0 1) 0 (by omega) hv M1 e hX1 r3
    exact ⟨M2, t1, r2.trans t2⟩
  | false =>
    have h1 : sp_al (d 6) (d 7) (d 8) (d 0 2) (sp_w (d 0 0) (d 3) (d 4) (d 5) (fun _ => 0) 0) 0 = false := hv
    have h2 := sp_al_dn (d 0 1) h1
    rw [Nat.zero_add] at h2
    have h3 : sp_ra d = false := h2
    refine ⟨M1, ?_, r2⟩
    rw [rx_59_25]
    by_cases q : 0 < d 0 1
    · simp only [rx_59_0, rx_59_1, rx_59_4, rx_59_7, rx_59_8, rx_59_11, rx_59_12, rx_59_13, rx_59_16, rx_59_19, rx_59_22, rx_59_23, rx_59_24, rx_59_26, rx_59_27, rx_59_30, rx_59_33, rx_59_36, rx_59_37, rx_59_40, rx_59_41, rx_59_44, rx_59_45, rx_59_48, rx_59_49, rx_59_50, rx_59_53, rx_59_56, rx_59_57, rx_59_58, rx_59_59, rx_59_60, rx_59_63, rx_59_64, rx_59_67, rx_59_68, rx_59_69, rx_59_70, rx_59_71, rx_59_74, rx_59_77, rx_59_80, rx_59_81, rx_59_84, rx_59_87, rx_59_88_0, rx_59_88_1, hX1.1.2.1, pz_lt (show 0 < 2147483648 by omega) (show d 0 1 < 2147483648 by omega), q, if_true, h3, Bool.false_eq_true, if_false, pz_n00]
    · simp only [rx_59_0, rx_59_1, rx_59_4, rx_59_7, rx_59_8, rx_59_11, rx_59_12, rx_59_13, rx_59_16, rx_59_19, rx_59_22, rx_59_23, rx_59_24, rx_59_26, rx_59_27, rx_59_30, rx_59_33, rx_59_36, rx_59_37, rx_59_40, rx_59_41, rx_59_44, rx_59_45, rx_59_48, rx_59_49, rx_59_50, rx_59_53, rx_59_56, rx_59_57, rx_59_58, rx_59_59, rx_59_60, rx_59_63, rx_59_64, rx_59_67, rx_59_68, rx_59_69, rx_59_70, rx_59_71, rx_59_74, rx_59_77, rx_59_80, rx_59_81, rx_59_84, rx_59_87, rx_59_88_0, rx_59_88_1, hX1.1.2.1, pz_lt (show 0 < 2147483648 by omega) (show d 0 1 < 2147483648 by omega), q, h3, Bool.false_eq_true, if_false]
theorem mx_ars_l {d : iv_D} (hG : iv_G d) : ∀ (dd t : Nat), t + dd = d 0 1 → sp_al (d 6) (d 7) (d 8) (d 0 2) (sp_w (d 0 0) (d 3) (d 4) (d 5) (fun _ => 0) 0) t = true → ∀ (M : pm_M) (e : pm_M), iy M d e → iv_Z M (d 0 0) (sp_w (d 0 0) (d 3) (d 4) (d 5) (fun _ => 0) 0 t) (sp_a (d 0 0) (d 3) (d 4) (d 5) (fun _ => 0) 0 t) (sp_s (d 0 0) (d 2) (d 3) (d 4) (d 5) (fun _ => 0) 0 t) →
    ∃ M2, pm_Rc pm_X0 122 (12, [some (pm_r 23), some (pm_i (nI 1)), some (pm_i (nI t))], [], M) = some (some (pm_i (nI (if sp_ra d = true then 1 else 0))), M2) ∧ fr_Z M M2 := by
  obtain ⟨hB, hn, hq, hl⟩ := id hG
  obtain ⟨b1, b2, b3, b4, b5, b6⟩ := id hB
  have hF : d 0 0 ≤ 6 := by omega
  have hD : d 0 1 ≤ 8 := by omega
  intro dd
  induction dd with
  | zero =>
    intro t ht hs M e hX hS
    have e9 : t = d 0 1 := by omega
    subst e9
    have h1 : sp_ra d = true := hs
    obtain ⟨xL, xR, xT, xS⟩ := id hX
    refine ⟨M, ?_, fr_Z.refl⟩
    rw [rx_122_12]
    simp only [rx_122_0, rx_122_1, rx_122_4, rx_122_5, rx_122_6, rx_122_9, rx_122_10, rx_122_11, rx_122_13, rx_122_14, rx_122_17, rx_122_20, rx_122_21, rx_122_24, rx_122_25, rx_122_26, rx_122_27, rx_122_30, rx_122_31, rx_122_32, rx_122_33, rx_122_36, rx_122_37, rx_122_38, rx_122_39, rx_122_40, rx_122_43, rx_122_44, rx_122_47, rx_122_50, rx_122_51_0, rx_122_51_1, xL.2.1, pz_lt (show d 0 1 < 2147483648 by omega) (show d 0 1 < 2147483648 by omega), Nat.lt_irrefl, if_false, h1, if_true]
  | succ dd ih =>
    intro t ht hs M e hX hS
    obtain ⟨xL, xR, xT, xS⟩ := id hX
    obtain ⟨M1, r1, r2, r3⟩ := mx_goDay (C := 0) (t := t) (rr := d 5) (pp := fun _ => 0) xL hB xT.2.2 b6 (by omega) (by omega) (by omega) hS
    have hX1 := iy_Z_fr hX r2
    have hw9 : ∀ g, sp_w (d 0 0) (d 3) (d 4) (d 5) (fun _ => 0) 0 (t + 1) g ≤ 1000 := fun g => by
      have := sp_w_le (d 0 0) (d 3) (d 4) (d 5) (fun _ => 0) 0 b6 (t + 1) g
      omega
    have hso := mx_so (t := t + 1) hF hn (by omega) hX1.2.1 (fun q hq2 => by
      have := hq q hq2
      omega) r3.1 hw9
    have hgo : pm_Rc pm_X0 122 (12, [some (pm_r 23), some (pm_i (nI 1)), some (pm_i (nI t))], [], M) = pm_Rc pm_X0 122 (12, [some (pm_r 23), some (pm_i (nI (if sp_so (d 6) (d 7) (d 8) (sp_w (d 0 0) (d 3) (d 4) (d 5) (fun _ => 0) 0 (t + 1)) (t + 1) (d 0 2) = true then 1 else 0))), some (pm_i (nI (t + 1)))], [], M1) := by
      rw [rx_122_12]
      simp only [rx_122_0, rx_122_1, rx_122_4, rx_122_5, rx_122_6, rx_122_9, rx_122_10, rx_122_11, rx_122_13, rx_122_14, rx_122_17, rx_122_20, rx_122_21, rx_122_24, rx_122_25, rx_122_26, rx_122_27, rx_122_30, rx_122_31, rx_122_32, rx_122_33, rx_122_36, rx_122_37, rx_122_38, rx_122_39, rx_122_40, rx_122_43, rx_122_44, rx_122_47, rx_122_50, rx_122_51_0, rx_122_51_1, xL.2.1, pz_lt (show t < 2147483648 by omega) (show d 0 1 < 2147483648 by omega), show t < d 0 1 by omega, if_true, pz_n10, if_false, pz_ald_31 (show t < 8 by omega), xL.2.2.2.2.2.2 t (by omega), pz_bind]
      rw [r1]
      simp only [pz_bind, pz_psh, pz_psh0, rx_122_0, rx_122_1, rx_122_4, rx_122_5, rx_122_6, rx_122_9, rx_122_10, rx_122_11, rx_122_13, rx_122_14, rx_122_17, rx_122_20, rx_122_21, rx_122_24, rx_122_25, rx_122_26, rx_122_27, rx_122_30, rx_122_31, rx_122_32, rx_122_33, rx_122_36, rx_122_37, rx_122_38, rx_122_39, rx_122_40, rx_122_43, rx_122_44, rx_122_47, rx_122_50, rx_122_51_0, rx_122_51_1, pz_add, pz_nlz_i, pz_nlz_r, hso]
    rw [hgo]
    cases hv : sp_so (d 6) (d 7) (d 8) (sp_w (d 0 0) (d 3) (d 4) (d 5) (fun _ => 0) 0 (t + 1)) (t + 1) (d 0 2) with
    | true =>
      have h1 : sp_al (d 6) (d 7) (d 8) (d 0 2) (sp_w (d 0 0) (d 3) (d 4) (d 5) (fun _ => 0) 0) (t + 1) = true := by
        show (_ && _) = true
        rw [hs, hv]
        rfl
      obtain ⟨M2, t1, t2⟩ := ih (t + 1) (by omega) h1 M1 e hX1 r3
      exact ⟨M2, t1, r2.trans t2⟩
    | false =>
      have h1 : sp_al (d 6) (d 7) (d 8) (d 0 2) (sp_w (d 0 0) (d 3) (d 4) (d 5) (fun _ => 0) 0) (t + 1) = false := by
        show (_ && _) = false
        rw [hv, Bool.and_false]
      have h2 := sp_al_dn dd h1
      rw [show t + 1 + dd = d 0 1 by omega] at h2
      have h3 : sp_ra d = false := h2
      refine ⟨M1, ?_, r2⟩
      rw [rx_122_12]
      by_cases q : t + 1 < d 0 1
      · simp only [rx_122_0, rx_122_1, rx_122_4, rx_122_5, rx_122_6, rx_122_9, rx_122_10, rx_122_11, rx_122_13, rx_122_14, rx_122_17, rx_122_20, rx_122_21, rx_122_24, rx_122_25, rx_122_26, rx_122_27, rx_122_30, rx_122_31, rx_122_32, rx_122_33, rx_122_36, rx_122_37, rx_122_38, rx_122_39, rx_122_40, rx_122_43, rx_122_44, rx_122_47, rx_122_50, rx_122_51_0, rx_122_51_1, hX1.1.2.1, pz_lt (show t + 1 < 2147483648 by omega) (show d 0 1 < 2147483648 by omega), q, if_true, h3, Bool.false_eq_true, if_false, pz_n00]
      · simp only [rx_122_0, rx_122_1, rx_122_4, rx_122_5, rx_122_6, rx_122_9, rx_122_10, rx_122_11, rx_122_13, rx_122_14, rx_122_17, rx_122_20, rx_122_21, rx_122_24, rx_122_25, rx_122_26, rx_122_27, rx_122_30, rx_122_31, rx_122_32, rx_122_33, rx_122_36, rx_122_37, rx_122_38, rx_122_39, rx_122_40, rx_122_43, rx_122_44, rx_122_47, rx_122_50, rx_122_51_0, rx_122_51_1, hX1.1.2.1, pz_lt (show t + 1 < 2147483648 by omega) (show d 0 1 < 2147483648 by omega), q, h3, Bool.false_eq_true, if_false]
theorem mx_ars {d : iv_D} {M : pm_M} {e : pm_M} (hG : iv_G d) (hX : iy M d e) : ∃ M2, pm_Rc pm_X0 122 (0, [some (pm_r 23), none, none], [], M) = some (some (pm_i (nI (if sp_ra d = true then 1 else 0))), M2) ∧ fr_Z M M2 := by
  obtain ⟨hB, hn, hq, hl⟩ := id hG
  obtain ⟨b1, b2, b3, b4, b5, b6⟩ := id hB
  have hF : d 0 0 ≤ 6 := by omega
  have hD : d 0 1 ≤ 8 := by omega
  obtain ⟨M1, r1, r2, r3⟩ := mx_begin (M := M) (F := d 0 0) hF hX.1.1
  have hX1 := iy_Z_fr hX r2
  have hso := mx_so (t := 0) hF hn (by omega) hX1.2.1 (fun q hq2 => by
    have := hq q hq2
    omega) r3.1 (fun _ => Nat.zero_le _)
  have hgo : pm_Rc pm_X0 122 (0, [some (pm_r 23), none, none], [], M) = pm_Rc pm_X0 122 (12, [some (pm_r 23), some (pm_i (nI (if sp_so (d 6) (d 7) (d 8) (fun _ => 0) 0 (d 0 2) = true then 1 else 0))), some (pm_i (nI 0))], [], M1) := by
    simp only [rx_122_0, rx_122_1, rx_122_4, rx_122_5, rx_122_6, rx_122_9, rx_122_10, rx_122_11]
    rw [r1]
    simp only [rx_122_0, rx_122_1, rx_122_4, rx_122_5, rx_122_6, rx_122_9, rx_122_10, rx_122_11, pz_bind, pz_psh, pz_psh0, hso, pz_nlz_r, pz_nlz_i]
  rw [hgo]
  cases hv : sp_so (d 6) (d 7) (d 8) (fun _ => 0) 0 (d 0 2) with
  | true =>
    obtain ⟨M2, t1, t2⟩ := mx_ars_l hG (d 0 1) 0 (by omega) hv M1 e hX1 r3
    exact ⟨M2, t1, r2.trans t2⟩
  | false =>
    have h1 : sp_al (d 6) (d 7) (d 8) (d 0 2) (sp_w (d 0 0) (d 3) (d 4) (d 5) (fun _ => 0) 0) 0 = false := hv
    have h2 := sp_al_dn (d 0 1) h1
    rw [Nat.zero_add] at h2
    have h3 : sp_ra d = false := h2
    refine ⟨M1, ?_, r2⟩
    rw [rx_122_12]
    by_cases q : 0 < d 0 1
    · simp only [rx_122_0, rx_122_1, rx_122_4, rx_122_5, rx_122_6, rx_122_9, rx_122_10, rx_122_11, rx_122_13, rx_122_14, rx_122_17, rx_122_20, rx_122_21, rx_122_24, rx_122_25, rx_122_26, rx_122_27, rx_122_30, rx_122_31, rx_122_32, rx_122_33, rx_122_36, rx_122_37, rx_122_38, rx_122_39, rx_122_40, rx_122_43, rx_122_44, rx_122_47, rx_122_50, rx_122_51_0, rx_122_51_1, hX1.1.2.1, pz_lt (show 0 < 2147483648 by omega) (show d 0 1 < 2147483648 by omega), q, if_true, h3, Bool.false_eq_true, if_false, pz_n00]
    · simp only [rx_122_0, rx_122_1, rx_122_4, rx_122_5, rx_122_6, rx_122_9, rx_122_10, rx_122_11, rx_122_13, rx_122_14, rx_122_17, rx_122_20, rx_122_21, rx_122_24, rx_122_25, rx_122_26, rx_122_27, rx_122_30, rx_122_31, rx_122_32, rx_122_33, rx_122_36, rx_122_37, rx_122_38, rx_122_39, rx_122_40, rx_122_43, rx_122_44, rx_122_47, rx_122_50, rx_122_51_0, rx_122_51_1, hX1.1.2.1, pz_lt (show 0 < 2147483648 by omega) (show d 0 1 < 2147483648 by omega), q, h3, Bool.false_eq_true, if_false]
/-! trying each number in a place -/
def sp_fit (g : Nat → Bool) : Nat → Nat
  | 0 => 0
  | v + 1 => if g v = true then sp_fit g v ||| 2 ^ v else sp_fit g v
theorem iv_up_up {d : iv_D} {k p a b : Nat} : iv_up (iv_up d k p a) k p b = iv_up d k p b := by
  funext x z
  unfold iv_up
  by_cases h : x = k ∧ z = p
  · rw [if_pos h, if_pos h]
  · rw [if_neg h, if_neg h, if_neg h]
theorem iv_up_id {d : iv_D} {k p : Nat} : iv_up d k p (d k p) = d := by
  funext x z
  unfold iv_up
  by_cases h : x = k ∧ z = p
  · rw [if_pos h, h.1, h.2]
  · rw [if_neg h]
theorem cx_fit_l {d : iv_D} {e : pm_M} {c kk p hi n : Nat} {was : Int32} (hG : iv_G d) (hc : (c = 15 ∧ kk = 3) ∨ (c = 16 ∧ kk = 4) ∨ (c = 17 ∧ kk = 5)) (hsh : pm_sh c = some (.inl n)) (hp : p < n) (hn : n < 1000) (hhi : hi ≤ 9 ∧ (kk = 3 → hi ≤ 2)) (hwas : was = nI (d kk p)) :
    ∀ (dd v : Nat), v + dd = hi + 1 → ∀ (M : pm_M) (x : Nat), ix M (iv_up d kk p x) e → ∃ M2, pm_Rc pm_X0 58 (11, [some (pm_r 0), some (pm_r c), some (pm_i (nI p)), some (pm_i (nI hi)), some (pm_i was), some (pm_i (nI (sp_fit (fun u => sp_ra (iv_up d kk p u)) v))), some (pm_i (nI v))], [], M) = some (some (pm_i (nI (sp_fit (fun u => sp_ra (iv_up d kk p u)) (hi + 1)))), M2) ∧ ix M2 d e ∧ ∀ k, 23 ≤ k → M2 k = M k := by
  have hc9 : c < 23 := by omega
  intro dd
  induction dd with
  | zero =>
    intro v hv M x hX
    have e9 : v = hi + 1 := by omega
    subst e9
    have h1 := ix_setp (v := d kk p) (f := p) hX hc
    rw [iv_up_up, iv_up_id, ← hwas] at h1
    refine ⟨pm_up M c p was, ?_, h1, fun k hk => pz_up_c (by omega)⟩
    rw [rx_58_11]
    simp only [rx_58_0, rx_58_1, rx_58_2, rx_58_3, rx_58_5, rx_58_6, rx_58_8, rx_58_9, rx_58_13, rx_58_14, rx_58_17, rx_58_18, rx_58_19, rx_58_21, rx_58_22, rx_58_23, rx_58_26, rx_58_29, rx_58_31, rx_58_32, rx_58_34, rx_58_35, rx_58_36, rx_58_38, rx_58_41, rx_58_44, rx_58_45, rx_58_46, rx_58_48, rx_58_49, rx_58_51, pz_lt (show hi < 2147483648 by omega) (show hi + 1 < 2147483648 by omega), show hi < hi + 1 by omega, if_true, pz_astG hsh hn hp, pz_bind]
  | succ dd ih =>
    intro v hv M x hX
    have h1 := ix_setp (v := v) (f := p) hX hc
    rw [iv_up_up] at h1
    have hG1 : iv_G (iv_up d kk p v) := iv_G_setp hG (by omega)
    obtain ⟨M1, r1, r2⟩ := cx_ars hG1 h1
    have hX1 := ix_S_fr h1 r2
    obtain ⟨M2, t1, t2, t3⟩ := ih (v + 1) (by omega) M1 v hX1
    refine ⟨M2, ?_, t2, fun k hk => by rw [t3 k hk, r2 k (by omega) (by omega) (by omega), pz_up_c (by omega)]⟩
    rw [rx_58_11]
    simp only [rx_58_0, rx_58_1, rx_58_2, rx_58_3, rx_58_5, rx_58_6, rx_58_8, rx_58_9, rx_58_13, rx_58_14, rx_58_17, rx_58_18, rx_58_19, rx_58_21, rx_58_22, rx_58_23, rx_58_26, rx_58_29, rx_58_31, rx_58_32, rx_58_34, rx_58_35, rx_58_36, rx_58_38, rx_58_41, rx_58_44, rx_58_45, rx_58_46, rx_58_48, rx_58_49, rx_58_51, pz_lt (show hi < 2147483648 by omega) (show v < 2147483648 by omega), show ¬ hi < v by omega, if_false, pz_astG hsh hn hp, pz_bind]
    rw [r1]
    cases hv2 : sp_ra (iv_up d kk p v) with
    | true =>
      rw [show sp_fit (fun u => sp_ra (iv_up d kk p u)) (v + 1) = sp_fit (fun u => sp_ra (iv_up d kk p u)) v ||| 2 ^ v from if_pos hv2] at t1
      simp only [pz_bind, pz_psh, if_true, rx_58_0, rx_58_1, rx_58_2, rx_58_3, rx_58_5, rx_58_6, rx_58_8, rx_58_9, rx_58_13, rx_58_14, rx_58_17, rx_58_18, rx_58_19, rx_58_21, rx_58_22, rx_58_23, rx_58_26, rx_58_29, rx_58_31, rx_58_32, rx_58_34, rx_58_35, rx_58_36, rx_58_38, rx_58_41, rx_58_44, rx_58_45, rx_58_46, rx_58_48, rx_58_49, rx_58_51, pz_n10, if_false, pz_shl (show v < 31 by omega), pz_or, pz_add, pz_nlz_i]
      exact t1
    | false =>
      rw [show sp_fit (fun u => sp_ra (iv_up d kk p u)) (v + 1) = sp_fit (fun u => sp_ra (iv_up d kk p u)) v from if_neg (fun h => by have h9 : true = false := h.symm.trans hv2; cases h9)] at t1
      simp only [pz_bind, pz_psh, Bool.false_eq_true, if_false, rx_58_0, rx_58_1, rx_58_2, rx_58_3, rx_58_5, rx_58_6, rx_58_8, rx_58_9, rx_58_13, rx_58_14, rx_58_17, rx_58_18, rx_58_19, rx_58_21, rx_58_22, rx_58_23, rx_58_26, rx_58_29, rx_58_31, rx_58_32, rx_58_34, rx_58_35, rx_58_36, rx_58_38, rx_58_41, rx_58_44, rx_58_45, rx_58_46, rx_58_48, rx_58_49, rx_58_51, pz_n00, if_true, pz_add, pz_nlz_i]
      exact t1
theorem cx_fit {d : iv_D} {e M : pm_M} {c kk p hi n : Nat} (hG : iv_G d) (hX : ix M d e) (hc : (c = 15 ∧ kk = 3) ∨ (c = 16 ∧ kk = 4) ∨ (c = 17 ∧ kk = 5)) (hsh : pm_sh c = some (.inl n)) (hp : p < n) (hn : n < 1000) (hhi : hi ≤ 9 ∧ (kk = 3 → hi ≤ 2)) (hwas : M c p = nI (d kk p)) :
    ∃ M2, pm_Rc pm_X0 58 (0, [some (pm_r 0), some (pm_r c), some (pm_i (nI p)), some (pm_i (nI hi)), none, none, none], [], M) = some (some (pm_i (nI (sp_fit (fun u => sp_ra (iv_up d kk p u)) (hi + 1)))), M2) ∧ ix M2 d e ∧ ∀ k, 23 ≤ k → M2 k = M k := by
  obtain ⟨M2, t1, t2, t3⟩ := cx_fit_l hG hc hsh hp hn hhi hwas (hi + 1) 0 (by omega) M (d kk p) (by rw [iv_up_id]; exact hX)
  refine ⟨M2, ?_, t2, t3⟩
  simp only [rx_58_0, rx_58_1, rx_58_2, rx_58_3, rx_58_5, rx_58_6, rx_58_8, rx_58_9, pz_aldG hsh hn hp, pz_bind, pz_nlz_i, pz_nlz_n]
  exact t1
theorem mx_lim_l {d : iv_D} {e : pm_M} {p : Nat} {was : Int32} (hG : iv_G d) (hp : p < 5) (hwas : was = nI (d 4 p)) :
    ∀ (dd v : Nat), v + dd = 10 → ∀ (M : pm_M) (x : Nat), iy M (iv_up d 4 p x) e → ∃ M2, pm_Rc pm_X0 121 (22, [some (pm_r 23), some (pm_i (nI p)), some (pm_i was), some (pm_i (nI (sp_fit (fun u => sp_ra (iv_up d 4 p u)) v))), some (pm_i (nI v))], [], M) = some (some (pm_i (nI (sp_fit (fun u => sp_ra (iv_up d 4 p u)) 10))), M2) ∧ iy M2 d e ∧ ∀ k, k < 23 → M2 k = M k := by
  intro dd
  induction dd with
  | zero =>
    intro v hv M x hX
    have e9 : v = 10 := by omega
    subst e9
    have h1 := iy_setp (v := d 4 p) (f := p) (c := 30) (k := 4) hX (by decide)
    rw [iv_up_up, iv_up_id, ← hwas] at h1
    refine ⟨pm_up M 30 p was, ?_, h1, fun k hk => pz_up_c (by omega)⟩
    rw [rx_121_22]
    simp only [rx_121_0, rx_121_1, rx_121_2, rx_121_5, rx_121_8, rx_121_9, rx_121_10, rx_121_11, rx_121_14, rx_121_15, rx_121_16, rx_121_17, rx_121_18, rx_121_19, rx_121_20, rx_121_24, rx_121_26, rx_121_29, rx_121_30, rx_121_33, rx_121_34, rx_121_36, rx_121_37, rx_121_38, rx_121_39, rx_121_42, rx_121_45, rx_121_46, rx_121_48, rx_121_49, rx_121_52, rx_121_53, rx_121_54, rx_121_55, rx_121_58, rx_121_61, rx_121_62, rx_121_65, rx_121_66, rx_121_67, rx_121_68, rx_121_69, pz_lt (show 9 < 2147483648 by omega) (show 10 < 2147483648 by omega), show (9 : Nat) < 10 by decide, if_true, pz_ast_30 hp, pz_bind]
  | succ dd ih =>
    intro v hv M x hX
    have h1 := iy_setp (v := v) (f := p) (c := 30) (k := 4) hX (by decide)
    rw [iv_up_up] at h1
    have hG1 : iv_G (iv_up d 4 p v) := iv_G_setp hG (by omega)
    obtain ⟨M1, r1, r2⟩ := mx_ars hG1 h1
    have hX1 := iy_Z_fr h1 r2
    obtain ⟨M2, t1, t2, t3⟩ := ih (v + 1) (by omega) M1 v hX1
    refine ⟨M2, ?_, t2, fun k hk => by rw [t3 k hk, r2.1 k (by omega) (by omega) (by omega), pz_up_c (by omega)]⟩
    rw [rx_121_22]
    simp only [rx_121_0, rx_121_1, rx_121_2, rx_121_5, rx_121_8, rx_121_9, rx_121_10, rx_121_11, rx_121_14, rx_121_15, rx_121_16, rx_121_17, rx_121_18, rx_121_19, rx_121_20, rx_121_24, rx_121_26, rx_121_29, rx_121_30, rx_121_33, rx_121_34, rx_121_36, rx_121_37, rx_121_38, rx_121_39, rx_121_42, rx_121_45, rx_121_46, rx_121_48, rx_121_49, rx_121_52, rx_121_53, rx_121_54, rx_121_55, rx_121_58, rx_121_61, rx_121_62, rx_121_65, rx_121_66, rx_121_67, rx_121_68, rx_121_69, pz_lt (show 9 < 2147483648 by omega) (show v < 2147483648 by omega), show ¬ 9 < v by omega, if_false, pz_ast_30 hp, pz_bind]
    rw [r1]
    cases hv2 : sp_ra (iv_up d 4 p v) with
    | true =>
      rw [show sp_fit (fun u => sp_ra (iv_up d 4 p u)) (v + 1) = sp_fit (fun u => sp_ra (iv_up d 4 p u)) v ||| 2 ^ v from if_pos hv2] at t1
      simp only [pz_bind, pz_psh, if_true, rx_121_0, rx_121_1, rx_121_2, rx_121_5, rx_121_8, rx_121_9, rx_121_10, rx_121_11, rx_121_14, rx_121_15, rx_121_16, rx_121_17, rx_121_18, rx_121_19, rx_121_20, rx_121_24, rx_121_26, rx_121_29, rx_121_30, rx_121_33, rx_121_34, rx_121_36, rx_121_37, rx_121_38, rx_121_39, rx_121_42, rx_121_45, rx_121_46, rx_121_48, rx_121_49, rx_121_52, rx_121_53, rx_121_54, rx_121_55, rx_121_58, rx_121_61, rx_121_62, rx_121_65, rx_121_66, rx_121_67, rx_121_68, rx_121_69, pz_n10, if_false, pz_shl (show v < 31 by omega), pz_or, pz_add, pz_nlz_i]
      exact t1
    | false =>
      rw [show sp_fit (fun u => sp_ra (iv_up d 4 p u)) (v + 1) = sp_fit (fun u => sp_ra (iv_up d 4 p u)) v from if_neg (fun h => by have h9 : true = false := h.symm.trans hv2; cases h9)] at t1
      simp only [pz_bind, pz_psh, Bool.false_eq_true, if_false, rx_121_0, rx_121_1, rx_121_2, rx_121_5, rx_121_8, rx_121_9, rx_121_10, rx_121_11, rx_121_14, rx_121_15, rx_121_16, rx_121_17, rx_121_18, rx_121_19, rx_121_20, rx_121_24, rx_121_26, rx_121_29, rx_121_30, rx_121_33, rx_121_34, rx_121_36, rx_121_37, rx_121_38, rx_121_39, rx_121_42, rx_121_45, rx_121_46, rx_121_48, rx_121_49, rx_121_52, rx_121_53, rx_121_54, rx_121_55, rx_121_58, rx_121_61, rx_121_62, rx_121_65, rx_121_66, rx_121_67, rx_121_68, rx_121_69, pz_n00, if_true, pz_or, Nat.or_zero, pz_add, pz_nlz_i]
      exact t1
theorem mx_kin_l {d : iv_D} {e : pm_M} {p : Nat} {was : Int32} (hG : iv_G d) (hp : p < 5) (hwas : was = nI (d 3 p)) :
    ∀ (dd v : Nat), v + dd = 3 → ∀ (M : pm_M) (x : Nat), iy M (iv_up d 3 p x) e → ∃ M2, pm_Rc pm_X0 124 (22, [some (pm_r 23), some (pm_i (nI p)), some (pm_i was), some (pm_i (nI (sp_fit (fun u => sp_ra (iv_up d 3 p u)) v))), some (pm_i (nI v))], [], M) = some (some (pm_i (nI (sp_fit (fun u => sp_ra (iv_up d 3 p u)) 3))), M2) ∧ iy M2 d e ∧ ∀ k, k < 23 → M2 k = M k := by
  intro dd
  induction dd with
  | zero =>
    intro v hv M x hX
    have e9 : v = 3 := by omega
    subst e9
    have h1 := iy_setp (v := d 3 p) (f := p) (c := 29) (k := 3) hX (by decide)
    rw [iv_up_up, iv_up_id, ← hwas] at h1
    refine ⟨pm_up M 29 p was, ?_, h1, fun k hk => pz_up_c (by omega)⟩
    rw [rx_124_22]
    simp only [rx_124_0, rx_124_1, rx_124_2, rx_124_5, rx_124_8, rx_124_9, rx_124_10, rx_124_11, rx_124_14, rx_124_15, rx_124_16, rx_124_17, rx_124_18, rx_124_19, rx_124_20, rx_124_24, rx_124_25, rx_124_28, rx_124_29, rx_124_32, rx_124_33, rx_124_35, rx_124_36, rx_124_37, rx_124_38, rx_124_41, rx_124_44, rx_124_45, rx_124_47, rx_124_48, rx_124_51, rx_124_52, rx_124_53, rx_124_54, rx_124_57, rx_124_60, rx_124_61, rx_124_64, rx_124_65, rx_124_66, rx_124_67, rx_124_68, pz_lt (show 3 < 2147483648 by omega) (show 3 < 2147483648 by omega), Nat.lt_irrefl, if_false, pz_ast_29 hp, pz_bind]
  | succ dd ih =>
    intro v hv M x hX
    have h1 := iy_setp (v := v) (f := p) (c := 29) (k := 3) hX (by decide)
    rw [iv_up_up] at h1
    have hG1 : iv_G (iv_up d 3 p v) := iv_G_setp hG (by omega)
    obtain ⟨M1, r1, r2⟩ := mx_ars hG1 h1
    have hX1 := iy_Z_fr h1 r2
    obtain ⟨M2, t1, t2, t3⟩ := ih (v + 1) (by omega) M1 v hX1
    refine ⟨M2, ?_, t2, fun k hk => by rw [t3 k hk, r2.1 k (by omega) (by omega) (by omega), pz_up_c (by omega)]⟩
    rw [rx_124_22]
    simp only [rx_124_0, rx_124_1, rx_124_2, rx_124_5, rx_124_8, rx_124_9, rx_124_10, rx_124_11, rx_124_14, rx_124_15, rx_124_16, rx_124_17, rx_124_18, rx_124_19, rx_124_20, rx_124_24, rx_124_25, rx_124_28, rx_124_29, rx_124_32, rx_124_33, rx_124_35, rx_124_36, rx_124_37, rx_124_38, rx_124_41, rx_124_44, rx_124_45, rx_124_47, rx_124_48, rx_124_51, rx_124_52, rx_124_53, rx_124_54, rx_124_57, rx_124_60, rx_124_61, rx_124_64, rx_124_65, rx_124_66, rx_124_67, rx_124_68, pz_lt (show v < 2147483648 by omega) (show 3 < 2147483648 by omega), show v < 3 by omega, if_true, pz_ast_29 hp, pz_bind]
    rw [r1]
    cases hv2 : sp_ra (iv_up d 3 p v) with
    | true =>
      rw [show sp_fit (fun u => sp_ra (iv_up d 3 p u)) (v + 1) = sp_fit (fun u => sp_ra (iv_up d 3 p u)) v ||| 2 ^ v from if_pos hv2] at t1
      simp only [pz_bind, pz_psh, if_true, rx_124_0, rx_124_1, rx_124_2, rx_124_5, rx_124_8, rx_124_9, rx_124_10, rx_124_11, rx_124_14, rx_124_15, rx_124_16, rx_124_17, rx_124_18, rx_124_19, rx_124_20, rx_124_24, rx_124_25, rx_124_28, rx_124_29, rx_124_32, rx_124_33, rx_124_35, rx_124_36, rx_124_37, rx_124_38, rx_124_41, rx_124_44, rx_124_45, rx_124_47, rx_124_48, rx_124_51, rx_124_52, rx_124_53, rx_124_54, rx_124_57, rx_124_60, rx_124_61, rx_124_64, rx_124_65, rx_124_66, rx_124_67, rx_124_68, pz_n10, if_false, pz_shl (show v < 31 by omega), pz_or, pz_add, pz_nlz_i]
      exact t1
    | false =>
      rw [show sp_fit (fun u => sp_ra (iv_up d 3 p u)) (v + 1) = sp_fit (fun u => sp_ra (iv_up d 3 p u)) v from if_neg (fun h => by have h9 : true = false := h.symm.trans hv2; cases h9)] at t1
      simp only [pz_bind, pz_psh, Bool.false_eq_true, if_false, rx_124_0, rx_124_1, rx_124_2, rx_124_5, rx_124_8, rx_124_9, rx_124_10, rx_124_11, rx_124_14, rx_124_15, rx_124_16, rx_124_17, rx_124_18, rx_124_19, rx_124_20, rx_124_24, rx_124_25, rx_124_28, rx_124_29, rx_124_32, rx_124_33, rx_124_35, rx_124_36, rx_124_37, rx_124_38, rx_124_41, rx_124_44, rx_124_45, rx_124_47, rx_124_48, rx_124_51, rx_124_52, rx_124_53, rx_124_54, rx_124_57, rx_124_60, rx_124_61, rx_124_64, rx_124_65, rx_124_66, rx_124_67, rx_124_68, pz_n00, if_true, pz_or, Nat.or_zero, pz_add, pz_nlz_i]
      exact t1
theorem mx_rai_l {d : iv_D} {e : pm_M} {p : Nat} {was : Int32} (hG : iv_G d) (hp : p < 8) (hwas : was = nI (d 5 p)) :
    ∀ (dd v : Nat), v + dd = 10 → ∀ (M : pm_M) (x : Nat), iy M (iv_up d 5 p x) e → ∃ M2, pm_Rc pm_X0 125 (33, [some (pm_r 23), some (pm_i (nI p)), some (pm_i was), some (pm_i (nI (sp_fit (fun u => sp_ra (iv_up d 5 p u)) v))), some (pm_i (nI v))], [], M) = some (some (pm_i (nI (sp_fit (fun u => sp_ra (iv_up d 5 p u)) 10))), M2) ∧ iy M2 d e ∧ ∀ k, k < 23 → M2 k = M k := by
  intro dd
  induction dd with
  | zero =>
    intro v hv M x hX
    have e9 : v = 10 := by omega
    subst e9
    have h1 := iy_setp (v := d 5 p) (f := p) (c := 31) (k := 5) hX (by decide)
    rw [iv_up_up, iv_up_id, ← hwas] at h1
    refine ⟨pm_up M 31 p was, ?_, h1, fun k hk => pz_up_c (by omega)⟩
    rw [rx_125_33]
    simp only [rx_125_0, rx_125_1, rx_125_4, rx_125_7, rx_125_9, rx_125_10, rx_125_11, rx_125_12, rx_125_15, rx_125_18, rx_125_20, rx_125_21, rx_125_22, rx_125_25, rx_125_26, rx_125_27, rx_125_28, rx_125_29, rx_125_30, rx_125_31, rx_125_35, rx_125_37, rx_125_40, rx_125_41, rx_125_44, rx_125_45, rx_125_47, rx_125_48, rx_125_49, rx_125_50, rx_125_53, rx_125_56, rx_125_57, rx_125_59, rx_125_60, rx_125_63, rx_125_64, rx_125_65, rx_125_66, rx_125_69, rx_125_72, rx_125_73, rx_125_76, rx_125_77, rx_125_78, rx_125_79, rx_125_80, pz_lt (show 9 < 2147483648 by omega) (show 10 < 2147483648 by omega), show (9 : Nat) < 10 by decide, if_true, pz_ast_31 hp, pz_bind]
  | succ dd ih =>
    intro v hv M x hX
    have h1 := iy_setp (v := v) (f := p) (c := 31) (k := 5) hX (by decide)
    rw [iv_up_up] at h1
    have hG1 : iv_G (iv_up d 5 p v) := iv_G_setp hG (by omega)
    obtain ⟨M1, r1, r2⟩ := mx_ars hG1 h1
    have hX1 := iy_Z_fr h1 r2
    obtain ⟨M2, t1, t2, t3⟩ := ih (v + 1) (by omega) M1 v hX1
    refine ⟨M2, ?_, t2, fun k hk => by rw [t3 k hk, r2.1 k (by omega) (by omega) (by omega), pz_up_c (by omega)]⟩
    rw [rx_125_33]
    simp only [rx_125_0, rx_125_1, rx_125_4, rx_125_7, rx_125_9, rx_125_10, rx_125_11, rx_125_12, rx_125_15, rx_125_18, rx_125_20, rx_125_21, rx_125_22, rx_125_25, rx_125_26, rx_125_27, rx_125_28, rx_125_29, rx_125_30, rx_125_31, rx_125_35, rx_125_37, rx_125_40, rx_125_41, rx_125_44, rx_125_45, rx_125_47, rx_125_48, rx_125_49, rx_125_50, rx_125_53, rx_125_56, rx_125_57, rx_125_59, rx_125_60, rx_125_63, rx_125_64, rx_125_65, rx_125_66, rx_125_69, rx_125_72, rx_125_73, rx_125_76, rx_125_77, rx_125_78, rx_125_79, rx_125_80, pz_lt (show 9 < 2147483648 by omega) (show v < 2147483648 by omega), show ¬ 9 < v by omega, if_false, pz_ast_31 hp, pz_bind]
    rw [r1]
    cases hv2 : sp_ra (iv_up d 5 p v) with
    | true =>
      rw [show sp_fit (fun u => sp_ra (iv_up d 5 p u)) (v + 1) = sp_fit (fun u => sp_ra (iv_up d 5 p u)) v ||| 2 ^ v from if_pos hv2] at t1
      simp only [pz_bind, pz_psh, if_true, rx_125_0, rx_125_1, rx_125_4, rx_125_7, rx_125_9, rx_125_10, rx_125_11, rx_125_12, rx_125_15, rx_125_18, rx_125_20, rx_125_21, rx_125_22, rx_125_25, rx_125_26, rx_125_27, rx_125_28, rx_125_29, rx_125_30, rx_125_31, rx_125_35, rx_125_37, rx_125_40, rx_125_41, rx_125_44, rx_125_45, rx_125_47, rx_125_48, rx_125_49, rx_125_50, rx_125_53, rx_125_56, rx_125_57, rx_125_59, rx_125_60, rx_125_63, rx_125_64, rx_125_65, rx_125_66, rx_125_69, rx_125_72, rx_125_73, rx_125_76, rx_125_77, rx_125_78, rx_125_79, rx_125_80, pz_n10, if_false, pz_shl (show v < 31 by omega), pz_or, pz_add, pz_nlz_i]
      exact t1
    | false =>
      rw [show sp_fit (fun u => sp_ra (iv_up d 5 p u)) (v + 1) = sp_fit (fun u => sp_ra (iv_up d 5 p u)) v from if_neg (fun h => by have h9 : true = false := h.symm.trans hv2; cases h9)] at t1
      simp only [pz_bind, pz_psh, Bool.false_eq_true, if_false, rx_125_0, rx_125_1, rx_125_4, rx_125_7, rx_125_9, rx_125_10, rx_125_11, rx_125_12, rx_125_15, rx_125_18, rx_125_20, rx_125_21, rx_125_22, rx_125_25, rx_125_26, rx_125_27, rx_125_28, rx_125_29, rx_125_30, rx_125_31, rx_125_35, rx_125_37, rx_125_40, rx_125_41, rx_125_44, rx_125_45, rx_125_47, rx_125_48, rx_125_49, rx_125_50, rx_125_53, rx_125_56, rx_125_57, rx_125_59, rx_125_60, rx_125_63, rx_125_64, rx_125_65, rx_125_66, rx_125_69, rx_125_72, rx_125_73, rx_125_76, rx_125_77, rx_125_78, rx_125_79, rx_125_80, pz_n00, if_true, pz_or, Nat.or_zero, pz_add, pz_nlz_i]
      exact t1
theorem op_limits (x : Int32) : op_ok 57 121 [some (pm_r 0), some (pm_i x)] [some (pm_r 23), some (pm_i x), none, none, none] := by
  intro M hM
  obtain ⟨d, e, hG, hX, hY⟩ := hM
  obtain ⟨hB, hn, hq, hl⟩ := id hG
  obtain ⟨xL, xR, xT, xS⟩ := id hX
  obtain ⟨yL, yR, yT, yS⟩ := id hY
  obtain ⟨x1, x2, x3, x4, x5, x6, x7⟩ := id xL
  obtain ⟨y1, y2, y3, y4, y5, y6, y7⟩ := id yL
  obtain ⟨b1, b2, b3, b4, b5, b6⟩ := id hB
  have hF : d 0 0 ≤ 6 := by omega
  have hD : d 0 1 ≤ 8 := by omega
  rcases pz_any x (d 0 0 - 1) (by omega) with hx | ⟨p, hp, rfl⟩
  · refine ⟨pm_i (-1), M, M, ?_, ?_, d, e, hG, hX, hY⟩
    · simp only [rx_57_0, rx_57_1, rx_57_4, rx_57_5, rx_57_8, rx_57_11, rx_57_12, rx_57_13, rx_57_14, rx_57_15, rx_57_18, rx_57_21, rx_57_22, rx_57_24, rx_57_27, cx_hasPost_n x1 hF hx, pz_bind, pz_psh, pz_n00, if_true]
    · simp only [rx_121_0, rx_121_1, rx_121_2, rx_121_5, rx_121_8, rx_121_9, mx_isPost_n y1 hx, pz_bind, pz_psh, pz_n00, if_true]
  · have hp5 : p < 5 := by omega
    obtain ⟨M1, r1, r2, r3⟩ := cx_fit (c := 16) (kk := 4) (hi := 9) (n := 5) hG hX (by decide) rfl hp5 (by decide) (by decide) (x6 p (by omega))
    have hY1 : iy M1 d e := iy_fr hY (fun k a _ => r3 k (by omega)) (fun j _ => by rw [r3 23 (by decide)])
    have hwas : M1 30 p = nI (d 4 p) := by
      rw [r3 30 (by decide)]
      exact y6 p (by omega)
    obtain ⟨M2, t1, t2, t3⟩ := mx_lim_l hG hp5 hwas 10 0 (by omega) M1 (d 4 p) (by rw [iv_up_id]; exact hY1)
    refine ⟨pm_i (nI (sp_fit (fun u => sp_ra (iv_up d 4 p u)) 10)), M1, M2, ?_, ?_, d, e, hG, ix_fr r2 (fun k a _ _ _ _ => t3 k a), t2⟩
    · simp only [rx_57_0, rx_57_1, rx_57_4, rx_57_5, rx_57_8, rx_57_11, rx_57_12, rx_57_13, rx_57_14, rx_57_15, rx_57_18, rx_57_21, rx_57_22, rx_57_24, rx_57_27, cx_hasPost_y x1 hF hp, pz_bind, pz_psh, pz_n10, if_false, r1]
    · simp only [rx_121_0, rx_121_1, rx_121_2, rx_121_5, rx_121_8, rx_121_9, rx_121_10, rx_121_11, rx_121_14, rx_121_15, rx_121_16, rx_121_17, rx_121_18, rx_121_19, rx_121_20, mx_isPost_y (hY1.1.1) hF hp, pz_bind, pz_psh, pz_n10, if_false, pz_ald_30 hp5, pz_nlz_i, pz_nlz_n]
      exact t1
theorem op_kinds (x : Int32) : op_ok 60 124 [some (pm_r 0), some (pm_i x)] [some (pm_r 23), some (pm_i x), none, none, none] := by
  intro M hM
  obtain ⟨d, e, hG, hX, hY⟩ := hM
  obtain ⟨hB, hn, hq, hl⟩ := id hG
  obtain ⟨xL, xR, xT, xS⟩ := id hX
  obtain ⟨yL, yR, yT, yS⟩ := id hY
  obtain ⟨x1, x2, x3, x4, x5, x6, x7⟩ := id xL
  obtain ⟨y1, y2, y3, y4, y5, y6, y7⟩ := id yL
  obtain ⟨b1, b2, b3, b4, b5, b6⟩ := id hB
  have hF : d 0 0 ≤ 6 := by omega
  have hD : d 0 1 ≤ 8 := by omega
  rcases pz_any x (d 0 0 - 1) (by omega) with hx | ⟨p, hp, rfl⟩
  · refine ⟨pm_i (-1), M, M, ?_, ?_, d, e, hG, hX, hY⟩
    · simp only [rx_60_0, rx_60_1, rx_60_4, rx_60_5, rx_60_8, rx_60_11, rx_60_12, rx_60_13, rx_60_14, rx_60_15, rx_60_18, rx_60_21, rx_60_22, rx_60_23, rx_60_26, cx_hasPost_n x1 hF hx, pz_bind, pz_psh, pz_n00, if_true]
    · simp only [rx_124_0, rx_124_1, rx_124_2, rx_124_5, rx_124_8, rx_124_9, mx_isPost_n y1 hx, pz_bind, pz_psh, pz_n00, if_true]
  · have hp5 : p < 5 := by omega
    obtain ⟨M1, r1, r2, r3⟩ := cx_fit (c := 15) (kk := 3) (hi := 2) (n := 5) hG hX (by decide) rfl hp5 (by decide) (by decide) (x5 p (by omega))
    have hY1 : iy M1 d e := iy_fr hY (fun k a _ => r3 k (by omega)) (fun j _ => by rw [r3 23 (by decide)])
    have hwas : M1 29 p = nI (d 3 p) := by
      rw [r3 29 (by decide)]
      exact y5 p (by omega)
    obtain ⟨M2, t1, t2, t3⟩ := mx_kin_l hG hp5 hwas 3 0 (by omega) M1 (d 3 p) (by rw [iv_up_id]; exact hY1)
    refine ⟨pm_i (nI (sp_fit (fun u => sp_ra (iv_up d 3 p u)) 3)), M1, M2, ?_, ?_, d, e, hG, ix_fr r2 (fun k a _ _ _ _ => t3 k a), t2⟩
    · simp only [rx_60_0, rx_60_1, rx_60_4, rx_60_5, rx_60_8, rx_60_11, rx_60_12, rx_60_13, rx_60_14, rx_60_15, rx_60_18, rx_60_21, rx_60_22, rx_60_23, rx_60_26, cx_hasPost_y x1 hF hp, pz_bind, pz_psh, pz_n10, if_false, r1]
    · simp only [rx_124_0, rx_124_1, rx_124_2, rx_124_5, rx_124_8, rx_124_9, rx_124_10, rx_124_11, rx_124_14, rx_124_15, rx_124_16, rx_124_17, rx_124_18, rx_124_19, rx_124_20, mx_isPost_y (hY1.1.1) hF hp, pz_bind, pz_psh, pz_n10, if_false, pz_ald_29 hp5, pz_nlz_i, pz_nlz_n]
      exact t1
theorem op_rains (x : Int32) : op_ok 61 125 [some (pm_r 0), some (pm_i x)] [some (pm_r 23), some (pm_i x), none, none, none] := by
  intro M hM
  obtain ⟨d, e, hG, hX, hY⟩ := hM
  obtain ⟨hB, hn, hq, hl⟩ := id hG
  obtain ⟨xL, xR, xT, xS⟩ := id hX
  obtain ⟨yL, yR, yT, yS⟩ := id hY
  obtain ⟨x1, x2, x3, x4, x5, x6, x7⟩ := id xL
  obtain ⟨y1, y2, y3, y4, y5, y6, y7⟩ := id yL
  obtain ⟨b1, b2, b3, b4, b5, b6⟩ := id hB
  have hF : d 0 0 ≤ 6 := by omega
  have hD : d 0 1 ≤ 8 := by omega
  by_cases q0 : d 0 0 = 0
  · refine ⟨pm_i (-3), M, M, ?_, ?_, d, e, hG, hX, hY⟩
    · simp only [rx_61_0, rx_61_1, rx_61_4, rx_61_7, rx_61_10, rx_61_12, rx_61_13, rx_61_14, rx_61_17, rx_61_18, rx_61_21, rx_61_24, rx_61_26, rx_61_27, rx_61_28, rx_61_29, rx_61_32, rx_61_35, rx_61_36, rx_61_38, rx_61_41, cx_exists x1 hF, q0, pz_bind, pz_psh, pz_n00, if_true]
    · simp only [rx_125_0, rx_125_1, rx_125_4, rx_125_7, rx_125_9, y1, q0, pz_n00, if_true]
  · rcases pz_any x (d 0 1) (by omega) with hx | ⟨p, hp, rfl⟩
    · refine ⟨pm_i (-2), M, M, ?_, ?_, d, e, hG, hX, hY⟩
      · simp only [rx_61_0, rx_61_1, rx_61_4, rx_61_7, rx_61_10, rx_61_12, rx_61_13, rx_61_14, rx_61_17, rx_61_18, rx_61_21, rx_61_24, rx_61_26, rx_61_27, rx_61_28, rx_61_29, rx_61_32, rx_61_35, rx_61_36, rx_61_38, rx_61_41, cx_exists x1 hF, q0, if_false, pz_bind, pz_psh, pz_n10, cx_hasDay_n x2 hx, pz_n00, if_true]
      · simp only [rx_125_0, rx_125_1, rx_125_4, rx_125_7, rx_125_9, rx_125_10, rx_125_11, rx_125_12, rx_125_15, rx_125_18, rx_125_20, y1, pz_eq0 (show d 0 0 < 2147483648 by omega), q0, if_false, mx_isDay_n y2 hx, pz_bind, pz_psh, pz_n00, if_true]
    · have hp5 : p < 8 := by omega
      obtain ⟨M1, r1, r2, r3⟩ := cx_fit (c := 17) (kk := 5) (hi := 9) (n := 8) hG hX (by decide) rfl hp5 (by decide) (by decide) (x7 p hp)
      have hY1 : iy M1 d e := iy_fr hY (fun k a _ => r3 k (by omega)) (fun j _ => by rw [r3 23 (by decide)])
      have hwas : M1 31 p = nI (d 5 p) := by
        rw [r3 31 (by decide)]
        exact y7 p hp
      obtain ⟨M2, t1, t2, t3⟩ := mx_rai_l hG hp5 hwas 10 0 (by omega) M1 (d 5 p) (by rw [iv_up_id]; exact hY1)
      refine ⟨pm_i (nI (sp_fit (fun u => sp_ra (iv_up d 5 p u)) 10)), M1, M2, ?_, ?_, d, e, hG, ix_fr r2 (fun k a _ _ _ _ => t3 k a), t2⟩
      · simp only [rx_61_0, rx_61_1, rx_61_4, rx_61_7, rx_61_10, rx_61_12, rx_61_13, rx_61_14, rx_61_17, rx_61_18, rx_61_21, rx_61_24, rx_61_26, rx_61_27, rx_61_28, rx_61_29, rx_61_32, rx_61_35, rx_61_36, rx_61_38, rx_61_41, cx_exists x1 hF, q0, if_false, pz_bind, pz_psh, pz_n10, cx_hasDay_y x2 hD hp, r1]
      · simp only [rx_125_0, rx_125_1, rx_125_4, rx_125_7, rx_125_9, rx_125_10, rx_125_11, rx_125_12, rx_125_15, rx_125_18, rx_125_20, rx_125_21, rx_125_22, rx_125_25, rx_125_26, rx_125_27, rx_125_28, rx_125_29, rx_125_30, rx_125_31, hY1.1.1, pz_eq0 (show d 0 0 < 2147483648 by omega), q0, mx_isDay_y hY1.1.2.1 hD hp, pz_bind, pz_psh, pz_n10, if_false, pz_ald_31 hp5, pz_nlz_i, pz_nlz_n]
        exact t1
