/-! most. -/
def sp_cn (F D : Nat) (nd kd lm rn : Nat → Nat) (s : Nat) : Nat := sp_bc (sp_en nd (sp_a F kd lm rn (fun _ => s) 0 D) F)
def sp_m (cn : Nat → Nat) : Nat → Nat × Nat
  | 0 => (0, cn 0)
  | s + 1 => if (sp_m cn s).2 < cn (s + 1) ∨ (cn (s + 1) = (sp_m cn s).2 ∧ sp_bc (s + 1) < sp_bc (sp_m cn s).1) then (s + 1, cn (s + 1)) else sp_m cn s
theorem sp_m_le (cn : Nat → Nat) : ∀ s, (sp_m cn s).1 ≤ s
  | 0 => Nat.le_refl 0
  | s + 1 => by
    have h := sp_m_le cn s
    unfold sp_m
    split
    · exact Nat.le_refl _
    · omega
theorem sp_m_b (cn : Nat → Nat) (h : ∀ s, cn s ≤ 6) : ∀ s, (sp_m cn s).2 ≤ 6
  | 0 => h 0
  | s + 1 => by
    have h2 := sp_m_b cn h s
    unfold sp_m
    split
    · exact h _
    · exact h2
theorem sp_en_lt (nd a : Nat → Nat) : ∀ f, sp_en nd a f < 2 ^ f
  | 0 => Nat.one_pos
  | f + 1 => by
    have h := sp_en_lt nd a f
    have hp : (2 : Nat) ^ (f + 1) = 2 ^ f + 2 ^ f := by rw [Nat.pow_succ]; omega
    unfold sp_en
    split
    · exact Nat.or_lt_two_pow (by omega) (by omega)
    · omega
theorem sp_en_64 {nd a : Nat → Nat} {F : Nat} (h : F ≤ 6) : sp_en nd a F < 64 := Nat.lt_of_lt_of_le (sp_en_lt nd a F) (Nat.pow_le_pow_right (n := 2) (by omega) h)
theorem cx_most_l {F D : Nat} {nd hd kd lm rn : Nat → Nat} (hB : iv_B F D nd hd kd lm rn) : ∀ (dd s : Nat), s + 1 + dd = 2 ^ (F - 1) → ∀ (M : pm_M) (o4 : Option pm_V), iv_L M F D nd hd kd lm rn →
    ∃ M2, pm_Rc pm_X0 53 (20, [some (pm_r 0), some (pm_i (nI (sp_m (sp_cn F D nd kd lm rn) s).1)), some (pm_i (nI (sp_m (sp_cn F D nd kd lm rn) s).2)), some (pm_i (nI (s + 1))), o4], [], M) = some (some (pm_i (nI (sp_m (sp_cn F D nd kd lm rn) (2 ^ (F - 1) - 1)).1)), M2) ∧ fr_S M M2 := by
  have hF : F ≤ 6 := by
    have := hB.1
    omega
  have hD : D ≤ 8 := by
    have := hB.1
    omega
  have hN := pz_p5 hF
  intro dd
  induction dd with
  | zero =>
    intro s hs M o4 hL
    have e : 2 ^ (F - 1) - 1 = s := by omega
    have e2 : 2 ^ (F - 1) = s + 1 := by omega
    rw [e]
    refine ⟨M, ?_, fr_S.refl⟩
    have h9 := cx_setsOfPosts (M := M) hL.1 hF
    rw [e2] at h9
    rw [rx_53_20]
    simp only [rx_53_0, rx_53_1, rx_53_4, rx_53_7, rx_53_10, rx_53_12, rx_53_13, rx_53_15, rx_53_16, rx_53_17, rx_53_18, rx_53_19, rx_53_21, rx_53_22, rx_53_25, rx_53_28, rx_53_31, rx_53_32, rx_53_33, rx_53_36, rx_53_39, rx_53_40, rx_53_41, rx_53_44, rx_53_45, rx_53_48, rx_53_49, rx_53_52, rx_53_55, rx_53_58, rx_53_60, rx_53_62, rx_53_63, rx_53_66, rx_53_68, rx_53_69, rx_53_72, rx_53_73, rx_53_74, rx_53_77, rx_53_80, rx_53_81, rx_53_82, rx_53_84, rx_53_85, rx_53_88, rx_53_91, rx_53_92, h9, pz_bind, pz_psh, pz_lt (show s + 1 < 2147483648 by omega) (show s + 1 < 2147483648 by omega), Nat.lt_irrefl, if_false]
  | succ dd ih =>
    intro s hs M o4 hL
    obtain ⟨M1, r1, r2, r3⟩ := cx_blow (P := s + 1) (C := 0) (t := D) hL hB (Nat.le_refl _) (by omega) (by omega)
    have hL1 := hL.fr r2
    obtain ⟨c, ec⟩ : ∃ c, c = sp_cn F D nd kd lm rn (s + 1) := ⟨_, rfl⟩
    obtain ⟨b, f, ebf⟩ : ∃ b f, sp_m (sp_cn F D nd kd lm rn) s = (b, f) := ⟨_, _, rfl⟩
    have hc6 : ∀ s, sp_cn F D nd kd lm rn s ≤ 6 := fun s => sp_bk_le 6 _
    have hb := sp_m_le (sp_cn F D nd kd lm rn) s
    have hf := sp_m_b (sp_cn F D nd kd lm rn) hc6 s
    have hc := hc6 (s + 1)
    rw [ebf] at hb hf
    rw [← ec] at hc
    dsimp only at hb hf
    have ha9 : ∀ g, sp_a F kd lm rn (fun _ => s + 1) 0 D g ≤ 1000 := fun g => by
      have := sp_a_le F kd lm rn (fun _ => s + 1) 0 hB.2.2.2.2.2 D g
      omega
    have hcont := cx_cont hF hL1.1 hL1.2.2.1 r3.2.1 hB.2.1 ha9
    have hbc := cx_bitCount (M := M1) (sp_en_64 (nd := nd) (a := sp_a F kd lm rn (fun _ => s + 1) 0 D) hF)
    rw [show sp_bc (sp_en nd (sp_a F kd lm rn (fun _ => s + 1) 0 D) F) = c from ec.symm] at hbc
    obtain ⟨M2, t1, t2⟩ := ih (s + 1) (by omega) M1 (some (pm_i (nI c))) hL1
    have l1 : sp_bc (s + 1) ≤ 6 := sp_bk_le 6 (s + 1)
    have l2 : sp_bc b ≤ 6 := sp_bk_le 6 b
    refine ⟨M2, ?_, r2.trans t2⟩
    rw [rx_53_20]
    simp only [rx_53_0, rx_53_1, rx_53_4, rx_53_7, rx_53_10, rx_53_12, rx_53_13, rx_53_15, rx_53_16, rx_53_17, rx_53_18, rx_53_19, rx_53_21, rx_53_22, rx_53_25, rx_53_28, rx_53_31, rx_53_32, rx_53_33, rx_53_36, rx_53_39, rx_53_40, rx_53_41, rx_53_44, rx_53_45, rx_53_48, rx_53_49, rx_53_52, rx_53_55, rx_53_58, rx_53_60, rx_53_62, rx_53_63, rx_53_66, rx_53_68, rx_53_69, rx_53_72, rx_53_73, rx_53_74, rx_53_77, rx_53_80, rx_53_81, rx_53_82, rx_53_84, rx_53_85, rx_53_88, rx_53_91, rx_53_92, cx_setsOfPosts (M := M) hL.1 hF, pz_bind, pz_psh, pz_psh0, pz_lt (show s + 1 < 2147483648 by omega) (show 2 ^ (F - 1) < 2147483648 by omega), show s + 1 < 2 ^ (F - 1) by omega, if_true, hL.2.1, r1, hcont, hbc, ebf, pz_lt (show f < 2147483648 by omega) (show c < 2147483648 by omega), pz_eq (show c < 2147483648 by omega) (show f < 2147483648 by omega), pz_nlz_i, pz_add]
    by_cases q1 : f < c
    · have hm : sp_m (sp_cn F D nd kd lm rn) (s + 1) = (s + 1, c) := by
        show (if _ then _ else _) = _
        rw [ebf, ← ec, if_pos (Or.inl q1)]
      rw [hm] at t1
      simp only [q1, if_true]
      exact t1
    · by_cases q2 : c = f
      · by_cases q3 : sp_bc (s + 1) < sp_bc b
        · have hm : sp_m (sp_cn F D nd kd lm rn) (s + 1) = (s + 1, c) := by
            show (if _ then _ else _) = _
            rw [ebf, ← ec, if_pos (Or.inr ⟨q2, q3⟩)]
          rw [hm] at t1
          have hfw := cx_isFewer_y (M := M1) (s := s + 1) (b := some b) (by omega) (fun b0 h => by cases h; omega) (Or.inr ⟨b, rfl, q3⟩)
          have hfw2 : pm_Rc pm_X0 52 (0, [some (pm_i (nI (s + 1))), some (pm_i (nI b))], [], M1) = some (some (pm_i (nI 1)), M1) := hfw
          simp only [q1, if_false]
          rw [if_pos q2, hfw2]
          simp only [pz_bind, pz_psh, rx_53_0, rx_53_1, rx_53_4, rx_53_7, rx_53_10, rx_53_12, rx_53_13, rx_53_15, rx_53_16, rx_53_17, rx_53_18, rx_53_19, rx_53_21, rx_53_22, rx_53_25, rx_53_28, rx_53_31, rx_53_32, rx_53_33, rx_53_36, rx_53_39, rx_53_40, rx_53_41, rx_53_44, rx_53_45, rx_53_48, rx_53_49, rx_53_52, rx_53_55, rx_53_58, rx_53_60, rx_53_62, rx_53_63, rx_53_66, rx_53_68, rx_53_69, rx_53_72, rx_53_73, rx_53_74, rx_53_77, rx_53_80, rx_53_81, rx_53_82, rx_53_84, rx_53_85, rx_53_88, rx_53_91, rx_53_92, pz_n10, if_false, pz_nlz_i, pz_add]
          exact t1
        · have hm : sp_m (sp_cn F D nd kd lm rn) (s + 1) = (b, f) := by
            show (if _ then _ else _) = _
            rw [ebf, ← ec, if_neg (fun h => h.elim (fun h => q1 h) (fun h => q3 h.2))]
          rw [hm] at t1
          have hfw := cx_isFewer_n (M := M1) (s := s + 1) (b := some b) (by omega) (fun b0 h => by cases h; omega) (fun h => by
            rcases h with h | ⟨b1, h, h2⟩
            · cases h
            · cases h
              exact q3 h2)
          have hfw2 : pm_Rc pm_X0 52 (0, [some (pm_i (nI (s + 1))), some (pm_i (nI b))], [], M1) = some (some (pm_i (nI 0)), M1) := hfw
          simp only [q1, if_false]
          rw [if_pos q2, hfw2]
          simp only [pz_bind, pz_psh, rx_53_0, rx_53_1, rx_53_4, rx_53_7, rx_53_10, rx_53_12, rx_53_13, rx_53_15, rx_53_16, rx_53_17, rx_53_18, rx_53_19, rx_53_21, rx_53_22, rx_53_25, rx_53_28, rx_53_31, rx_53_32, rx_53_33, rx_53_36, rx_53_39, rx_53_40, rx_53_41, rx_53_44, rx_53_45, rx_53_48, rx_53_49, rx_53_52, rx_53_55, rx_53_58, rx_53_60, rx_53_62, rx_53_63, rx_53_66, rx_53_68, rx_53_69, rx_53_72, rx_53_73, rx_53_74, rx_53_77, rx_53_80, rx_53_81, rx_53_82, rx_53_84, rx_53_85, rx_53_88, rx_53_91, rx_53_92, pz_n00, if_true, pz_nlz_i, pz_add]
          exact t1
      · have hm : sp_m (sp_cn F D nd kd lm rn) (s + 1) = (b, f) := by
          show (if _ then _ else _) = _
          rw [ebf, ← ec, if_neg (fun h => h.elim (fun h => q1 h) (fun h => q2 h.1))]
        rw [hm] at t1
        simp only [q1, q2, if_false]
        exact t1
theorem mx_most_l {F D : Nat} {nd hd kd lm rn : Nat → Nat} (hB : iv_B F D nd hd kd lm rn) : ∀ (dd s : Nat), s + 1 + dd = 2 ^ (F - 1) → ∀ (M : pm_M) (o4 : Option pm_V), iv_N M F D nd hd kd lm rn → M 23 25 = nI 0 →
    ∃ M2, pm_Rc pm_X0 116 (17, [some (pm_r 23), some (pm_i (nI (sp_m (sp_cn F D nd kd lm rn) s).1)), some (pm_i (nI (sp_m (sp_cn F D nd kd lm rn) s).2)), some (pm_i (nI (s + 1))), o4], [], M) = some (some (pm_i (nI (sp_m (sp_cn F D nd kd lm rn) (2 ^ (F - 1) - 1)).1)), M2) ∧ fr_Z M M2 := by
  have hF : F ≤ 6 := by
    have := hB.1
    omega
  have hD : D ≤ 8 := by
    have := hB.1
    omega
  have hN := pz_p5 hF
  intro dd
  induction dd with
  | zero =>
    intro s hs M o4 hL hcl
    have e : 2 ^ (F - 1) - 1 = s := by omega
    have e2 : 2 ^ (F - 1) = s + 1 := by omega
    rw [e]
    have hsh : nI 1 <<< (nI (F - 1) &&& 31) = nI (s + 1) := by rw [pz_shl (by omega), e2]
    refine ⟨M, ?_, fr_Z.refl⟩
    rw [rx_116_17]
    simp only [rx_116_0, rx_116_1, rx_116_4, rx_116_7, rx_116_9, rx_116_10, rx_116_12, rx_116_13, rx_116_14, rx_116_15, rx_116_16, rx_116_18, rx_116_19, rx_116_20, rx_116_23, rx_116_24, rx_116_27, rx_116_28, rx_116_29, rx_116_32, rx_116_33, rx_116_36, rx_116_37, rx_116_40, rx_116_43, rx_116_45, rx_116_46, rx_116_48, rx_116_51, rx_116_53, rx_116_54, rx_116_57, rx_116_59, rx_116_60, rx_116_63, rx_116_64, rx_116_67, rx_116_68, rx_116_71, rx_116_74, rx_116_75, rx_116_76, rx_116_78, rx_116_79, rx_116_82, rx_116_85, rx_116_86, mx_posts (M := M) hL.1 hF, hsh, pz_bind, pz_psh, pz_lt (show s + 1 < 2147483648 by omega) (show s + 1 < 2147483648 by omega), Nat.lt_irrefl, if_false]
  | succ dd ih =>
    intro s hs M o4 hL hcl
    obtain ⟨M1, r1, r2, r3⟩ := mx_goDays (P := s + 1) (C := 0) (t := D) hL hB hcl (Nat.le_refl _) (by omega) (by omega)
    have hL1 := hL.fr r2
    obtain ⟨c, ec⟩ : ∃ c, c = sp_cn F D nd kd lm rn (s + 1) := ⟨_, rfl⟩
    obtain ⟨b, f, ebf⟩ : ∃ b f, sp_m (sp_cn F D nd kd lm rn) s = (b, f) := ⟨_, _, rfl⟩
    have hc6 : ∀ s, sp_cn F D nd kd lm rn s ≤ 6 := fun s => sp_bk_le 6 _
    have hb := sp_m_le (sp_cn F D nd kd lm rn) s
    have hf := sp_m_b (sp_cn F D nd kd lm rn) hc6 s
    have hc := hc6 (s + 1)
    rw [ebf] at hb hf
    rw [← ec] at hc
    dsimp only at hb hf
    have ha9 : ∀ g, sp_a F kd lm rn (fun _ => s + 1) 0 D g ≤ 1000 := fun g => by
      have := sp_a_le F kd lm rn (fun _ => s + 1) 0 hB.2.2.2.2.2 D g
      omega
    have hcont := mx_cont hF hL1.1 hL1.2.2.1 r3.2.1 hB.2.1 ha9
    have hbc := mx_size (M := M1) (sp_en_64 (nd := nd) (a := sp_a F kd lm rn (fun _ => s + 1) 0 D) hF)
    rw [show sp_bc (sp_en nd (sp_a F kd lm rn (fun _ => s + 1) 0 D) F) = c from ec.symm] at hbc
    obtain ⟨M2, t1, t2⟩ := ih (s + 1) (by omega) M1 (some (pm_i (nI c))) hL1 (by rw [r2.2 25 (by decide) (by decide) (by decide)]; exact hcl)
    have l1 : sp_bc (s + 1) ≤ 6 := sp_bk_le 6 (s + 1)
    have l2 : sp_bc b ≤ 6 := sp_bk_le 6 b
    refine ⟨M2, ?_, r2.trans t2⟩
    rw [rx_116_17]
    simp only [rx_116_0, rx_116_1, rx_116_4, rx_116_7, rx_116_9, rx_116_10, rx_116_12, rx_116_13, rx_116_14, rx_116_15, rx_116_16, rx_116_18, rx_116_19, rx_116_20, rx_116_23, rx_116_24, rx_116_27, rx_116_28, rx_116_29, rx_116_32, rx_116_33, rx_116_36, rx_116_37, rx_116_40, rx_116_43, rx_116_45, rx_116_46, rx_116_48, rx_116_51, rx_116_53, rx_116_54, rx_116_57, rx_116_59, rx_116_60, rx_116_63, rx_116_64, rx_116_67, rx_116_68, rx_116_71, rx_116_74, rx_116_75, rx_116_76, rx_116_78, rx_116_79, rx_116_82, rx_116_85, rx_116_86, mx_posts (M := M) hL.1 hF, pz_shl (show F - 1 < 31 by omega), pz_bind, pz_psh, pz_psh0, pz_lt (show s + 1 < 2147483648 by omega) (show 2 ^ (F - 1) < 2147483648 by omega), show s + 1 < 2 ^ (F - 1) by omega, if_true, hL.2.1, r1, hcont, hbc, ebf, pz_m9 (show b < 1000 by omega), if_false, pz_lt (show f < 2147483648 by omega) (show c < 2147483648 by omega), pz_eq (show c < 2147483648 by omega) (show f < 2147483648 by omega), mx_size (show s + 1 < 64 by omega), mx_size (show b < 64 by omega), pz_lt (show sp_bc (s + 1) < 2147483648 by omega) (show sp_bc b < 2147483648 by omega), pz_nlz_i, pz_add]
    by_cases q1 : f < c
    · have hm : sp_m (sp_cn F D nd kd lm rn) (s + 1) = (s + 1, c) := by
        show (if _ then _ else _) = _
        rw [ebf, ← ec, if_pos (Or.inl q1)]
      rw [hm] at t1
      simp only [q1, if_true]
      exact t1
    · by_cases q2 : c = f
      · by_cases q3 : sp_bc (s + 1) < sp_bc b
        · have hm : sp_m (sp_cn F D nd kd lm rn) (s + 1) = (s + 1, c) := by
            show (if _ then _ else _) = _
            rw [ebf, ← ec, if_pos (Or.inr ⟨q2, q3⟩)]
          rw [hm] at t1
          simp only [q1, if_false]
          rw [if_pos q2, if_pos q3]
          exact t1
        · have hm : sp_m (sp_cn F D nd kd lm rn) (s + 1) = (b, f) := by
            show (if _ then _ else _) = _
            rw [ebf, ← ec, if_neg (fun h => h.elim (fun h => q1 h) (fun h => q3 h.2))]
          rw [hm] at t1
          simp only [q1, if_false]
          rw [if_pos q2, if_neg q3]
          exact t1
      · have hm : sp_m (sp_cn F D nd kd lm rn) (s + 1) = (b, f) := by
          show (if _ then _ else _) = _
          rw [ebf, ← ec, if_neg (fun h => h.elim (fun h => q1 h) (fun h => q2 h.1))]
        rw [hm] at t1
        simp only [q1, q2, if_false]
        exact t1
theorem op_most : op_ok 53 116 [some (pm_r 0), none, none, none, none] [some (pm_r 23), none, none, none, none] := by
  intro M hM
  obtain ⟨d, e, hG, hX, hY⟩ := hM
  obtain ⟨hB, hn, hq, hl⟩ := id hG
  obtain ⟨xL, xR, xT, xS⟩ := id hX
  obtain ⟨yL, yR, yT, yS⟩ := id hY
  obtain ⟨x1, x2, x3, x4, x5, x6, x7⟩ := id xL
  obtain ⟨y1, y2, y3, y4, y5, y6, y7⟩ := id yL
  obtain ⟨b1, b2, b3, b4, b5, b6⟩ := id hB
  have hF : d 0 0 ≤ 6 := by omega
  have hD : d 0 1 ≤ 8 := by omega
  by_cases q0 : d 0 0 = 0
  · refine ⟨pm_i (-3), M, M, ?_, ?_, d, e, hG, hX, hY⟩
    · simp only [rx_53_0, rx_53_1, rx_53_4, rx_53_7, rx_53_10, rx_53_12, cx_exists x1 hF, q0, pz_bind, pz_psh, pz_n00, if_true]
    · simp only [rx_116_0, rx_116_1, rx_116_4, rx_116_7, rx_116_9, y1, q0, pz_n00, if_true]
  · obtain ⟨M1, r1, r2, r3⟩ := cx_blow (P := 0) (C := 0) (t := d 0 1) xL hB (by omega) (by omega) (by omega)
    have hL1 := xL.fr r2
    obtain ⟨c, ec⟩ : ∃ c, c = sp_cn (d 0 0) (d 0 1) (d 1) (d 3) (d 4) (d 5) 0 := ⟨_, rfl⟩
    have hc : c ≤ 6 := by
      rw [ec]
      exact sp_bk_le 6 _
    have ha9 : ∀ g, sp_a (d 0 0) (d 3) (d 4) (d 5) (fun _ => 0) 0 (d 0 1) g ≤ 1000 := fun g => by
      have := sp_a_le (d 0 0) (d 3) (d 4) (d 5) (fun _ => 0) 0 b6 (d 0 1) g
      omega
    have hcont := cx_cont hF hL1.1 hL1.2.2.1 r3.2.1 b2 ha9
    have hbc := cx_bitCount (M := M1) (sp_en_64 (nd := d 1) (a := sp_a (d 0 0) (d 3) (d 4) (d 5) (fun _ => 0) 0 (d 0 1)) hF)
    rw [show sp_bc (sp_en (d 1) (sp_a (d 0 0) (d 3) (d 4) (d 5) (fun _ => 0) 0 (d 0 1)) (d 0 0)) = c from ec.symm] at hbc
    have hp1 : 1 ≤ 2 ^ (d 0 0 - 1) := Nat.one_le_two_pow
    obtain ⟨M2, t1, t2⟩ := cx_most_l hB (2 ^ (d 0 0 - 1) - 1) 0 (by omega) M1 (some (pm_i (nI c))) hL1
    have hY1 := iy_S_fr hY (r2.trans t2)
    obtain ⟨z1, z2, z3, z4⟩ := id hY1
    obtain ⟨M3, u1, u2, u3⟩ := mx_goDays (P := 0) (C := 0) (t := d 0 1) z1 hB z3.2.2 (by omega) (by omega) (by omega)
    have hN1 := z1.fr u2
    have hcont2 := mx_cont hF hN1.1 hN1.2.2.1 u3.2.1 b2 ha9
    have hbc2 := mx_size (M := M3) (sp_en_64 (nd := d 1) (a := sp_a (d 0 0) (d 3) (d 4) (d 5) (fun _ => 0) 0 (d 0 1)) hF)
    rw [show sp_bc (sp_en (d 1) (sp_a (d 0 0) (d 3) (d 4) (d 5) (fun _ => 0) 0 (d 0 1)) (d 0 0)) = c from ec.symm] at hbc2
    obtain ⟨M4, v1, v2⟩ := mx_most_l hB (2 ^ (d 0 0 - 1) - 1) 0 (by omega) M3 (some (pm_i (nI c))) hN1 (by rw [u2.2 25 (by decide) (by decide) (by decide)]; exact z3.2.2)
    have hm : sp_m (sp_cn (d 0 0) (d 0 1) (d 1) (d 3) (d 4) (d 5)) 0 = (0, c) := by rw [ec]; rfl
    rw [hm] at t1 v1
    have hm1 : ((-1 : Int32) < nI c) = True := by
      refine eq_true ?_
      rw [Int32.lt_iff_toInt_lt, nI_toInt (by omega)]
      have h8 : (-1 : Int32).toInt = -1 := by decide
      omega
    refine ⟨pm_i (nI (sp_m (sp_cn (d 0 0) (d 0 1) (d 1) (d 3) (d 4) (d 5)) (2 ^ (d 0 0 - 1) - 1)).1), M2, M4, ?_, ?_, d, e, hG, ix_Z_fr (ix_S_fr hX (r2.trans t2)) (u2.trans v2), iy_Z_fr hY1 (u2.trans v2)⟩
    · have hgo : pm_Rc pm_X0 53 (0, [some (pm_r 0), none, none, none, none], [], M) = pm_Rc pm_X0 53 (20, [some (pm_r 0), some (pm_i (-9)), some (pm_i (-1)), some (pm_i (nI 0)), none], [], M) := by
        simp only [rx_53_0, rx_53_1, rx_53_4, rx_53_7, rx_53_10, rx_53_12, rx_53_13, rx_53_15, rx_53_16, rx_53_17, rx_53_18, rx_53_19, cx_exists x1 hF, q0, if_false, pz_bind, pz_psh, pz_n10, pz_nlz_r, pz_nlz_i]
      rw [hgo, rx_53_20]
      simp only [rx_53_0, rx_53_1, rx_53_4, rx_53_7, rx_53_10, rx_53_12, rx_53_13, rx_53_15, rx_53_16, rx_53_17, rx_53_18, rx_53_19, rx_53_21, rx_53_22, rx_53_25, rx_53_28, rx_53_31, rx_53_32, rx_53_33, rx_53_36, rx_53_39, rx_53_40, rx_53_41, rx_53_44, rx_53_45, rx_53_48, rx_53_49, rx_53_52, rx_53_55, rx_53_58, rx_53_60, rx_53_62, rx_53_63, rx_53_66, rx_53_68, rx_53_69, rx_53_72, rx_53_73, rx_53_74, rx_53_77, rx_53_80, rx_53_81, rx_53_82, rx_53_84, rx_53_85, rx_53_88, rx_53_91, rx_53_92, cx_setsOfPosts (M := M) x1 hF, pz_bind, pz_psh, pz_psh0, pz_lt (show 0 < 2147483648 by omega) (show 2 ^ (d 0 0 - 1) < 2147483648 by have := pz_p5 hF; omega), show 0 < 2 ^ (d 0 0 - 1) by omega, if_true, x2, r1, hcont, hbc, hm1, pz_nlz_i, pz_add]
      exact t1
    · have hgo : pm_Rc pm_X0 116 (0, [some (pm_r 23), none, none, none, none], [], M2) = pm_Rc pm_X0 116 (17, [some (pm_r 23), some (pm_i (-9)), some (pm_i (nI 0)), some (pm_i (nI 0)), none], [], M2) := by
        simp only [rx_116_0, rx_116_1, rx_116_4, rx_116_7, rx_116_9, rx_116_10, rx_116_12, rx_116_13, rx_116_14, rx_116_15, rx_116_16, z1.1, pz_eq0 (show d 0 0 < 2147483648 by omega), q0, if_false, pz_nlz_r, pz_nlz_i]
      rw [hgo, rx_116_17]
      simp only [rx_116_0, rx_116_1, rx_116_4, rx_116_7, rx_116_9, rx_116_10, rx_116_12, rx_116_13, rx_116_14, rx_116_15, rx_116_16, rx_116_18, rx_116_19, rx_116_20, rx_116_23, rx_116_24, rx_116_27, rx_116_28, rx_116_29, rx_116_32, rx_116_33, rx_116_36, rx_116_37, rx_116_40, rx_116_43, rx_116_45, rx_116_46, rx_116_48, rx_116_51, rx_116_53, rx_116_54, rx_116_57, rx_116_59, rx_116_60, rx_116_63, rx_116_64, rx_116_67, rx_116_68, rx_116_71, rx_116_74, rx_116_75, rx_116_76, rx_116_78, rx_116_79, rx_116_82, rx_116_85, rx_116_86, mx_posts (M := M2) z1.1 hF, pz_shl (show d 0 0 - 1 < 31 by omega), pz_bind, pz_psh, pz_psh0, pz_lt (show 0 < 2147483648 by omega) (show 2 ^ (d 0 0 - 1) < 2147483648 by have := pz_p5 hF; omega), show 0 < 2 ^ (d 0 0 - 1) by omega, if_true, z1.2.1, u1, hcont2, hbc2, pz_nlz_i, pz_add]
      exact v1
