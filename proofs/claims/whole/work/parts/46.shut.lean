/-! shut; whether a field floods. -/
def sp_ev (F : Nat) (hd kd lm rr pp : Nat → Nat) (C f : Nat) : Nat → Bool
  | 0 => false
  | t + 1 => sp_ev F hd kd lm rr pp C f t || decide (hd f < sp_w F kd lm rr pp C (t + 1) f)
theorem sp_ev_up {F : Nat} {hd kd lm rr pp : Nat → Nat} {C f t : Nat} : ∀ k, sp_ev F hd kd lm rr pp C f t = true → sp_ev F hd kd lm rr pp C f (t + k) = true
  | 0, h => h
  | k + 1, h => by
    have h2 := sp_ev_up k h
    show (sp_ev F hd kd lm rr pp C f (t + k) || _) = true
    rw [h2]
    rfl
theorem sp_ff_bit {ev : Nat → Bool} {t f : Nat} {s : sp_S} : ∀ n, (sp_ff ev t n s).2.1.testBit f = (s.2.1.testBit f || (decide (f < n) && ev f))
  | 0 => by simp [sp_ff]
  | n + 1 => by
    have h := sp_ff_bit (ev := ev) (t := t) (f := f) (s := s) n
    unfold sp_ff
    by_cases q : ev n = true
    · rw [if_pos q]
      show ((sp_ff ev t n s).2.1 ||| 2 ^ n).testBit f = _
      rw [Nat.testBit_or, h, Nat.testBit_two_pow]
      by_cases q2 : n = f
      · subst q2
        simp [q]
      · by_cases q3 : f < n
        · simp [q2, q3, Nat.lt_succ_of_lt q3]
        · simp [q2, q3, show ¬ f < n + 1 by omega]
    · rw [if_neg q, h]
      by_cases q2 : n = f
      · subst q2
        simp [q]
      · by_cases q3 : f < n
        · simp [q3, Nat.lt_succ_of_lt q3]
        · simp [q3, show ¬ f < n + 1 by omega]
theorem sp_s_bit {F : Nat} {hd kd lm rr pp : Nat → Nat} {C f : Nat} (hf : f < F) : ∀ t, (sp_s F hd kd lm rr pp C t).2.1.testBit f = sp_ev F hd kd lm rr pp C f t
  | 0 => by
    show (0 : Nat).testBit f = false
    exact Nat.zero_testBit f
  | t + 1 => by
    show (sp_ff _ t F (sp_s F hd kd lm rr pp C t)).2.1.testBit f = _
    rw [sp_ff_bit, sp_s_bit hf t]
    simp [hf, sp_ev]
theorem sp_ff_64 {ev : Nat → Bool} {t : Nat} {s : sp_S} (hs : s.2.1 < 64) : ∀ n, n ≤ 6 → (sp_ff ev t n s).2.1 < 64
  | 0, _ => hs
  | n + 1, hn => by
    have h := sp_ff_64 (ev := ev) (t := t) hs n (by omega)
    unfold sp_ff
    split
    · show (sp_ff ev t n s).2.1 ||| 2 ^ n < 64
      have hp : 2 ^ n ≤ 2 ^ 5 := Nat.pow_le_pow_right (by omega) (by omega)
      exact Nat.or_lt_two_pow (n := 6) h (by omega)
    · exact h
theorem sp_s_64 {F : Nat} {hd kd lm rr pp : Nat → Nat} {C : Nat} (hF : F ≤ 6) : ∀ t, (sp_s F hd kd lm rr pp C t).2.1 < 64
  | 0 => by
    show 0 < 64
    omega
  | t + 1 => sp_ff_64 (sp_s_64 hF t) F hF
theorem mx_flood_l {F D C S f : Nat} {nd hd kd lm rn rr : Nat → Nat} (hB : iv_B F D nd hd kd lm rn) (hf : f < F) (hS : S < 2147483648) (hC : C < 2147483648) (hrr : ∀ t, t < D → (if S.testBit t = true then rn t else 0) = rr t) (hr9 : ∀ t, rr t ≤ 9) :
    ∀ (dd t : Nat), t + dd = D → sp_ev F hd kd lm rr (fun _ => 0) C f t = false → ∀ M : pm_M, iv_N M F D nd hd kd lm rn → M 23 25 = nI C → iv_Z M F (sp_w F kd lm rr (fun _ => 0) C t) (sp_a F kd lm rr (fun _ => 0) C t) (sp_s F hd kd lm rr (fun _ => 0) C t) →
    ∃ M2, pm_Rc pm_X0 118 (6, [some (pm_r 23), some (pm_i (nI f)), some (pm_i (nI S)), some (pm_i (nI t))], [], M) = some (some (pm_i (nI (if sp_ev F hd kd lm rr (fun _ => 0) C f D = true then 1 else 0))), M2) ∧ fr_Z M M2 := by
  obtain ⟨b1, b2, b3, b4, b5, b6⟩ := id hB
  intro dd
  induction dd with
  | zero =>
    intro t ht hev M hL hcl hZ
    have e : t = D := by omega
    subst e
    refine ⟨M, ?_, fr_Z.refl⟩
    rw [rx_118_6]
    simp only [rx_118_0, rx_118_1, rx_118_4, rx_118_5, rx_118_7, rx_118_8, rx_118_11, rx_118_14, rx_118_15, rx_118_16, rx_118_17, rx_118_18, rx_118_19, rx_118_20, rx_118_21, rx_118_22, rx_118_25, rx_118_26, rx_118_29, rx_118_30, rx_118_31, rx_118_34, rx_118_35, rx_118_36, rx_118_39, rx_118_40, rx_118_43, rx_118_44, rx_118_45, rx_118_46, rx_118_49, rx_118_50, rx_118_51, rx_118_54, rx_118_55_0, rx_118_55_1, rx_118_56, rx_118_59, rx_118_62, rx_118_63_0, rx_118_63_1, hL.2.1, pz_lt (show t < 2147483648 by omega) (show t < 2147483648 by omega), Nat.lt_irrefl, if_false, hev, Bool.false_eq_true]
  | succ dd ih =>
    intro t ht hev M hL hcl hZ
    obtain ⟨M1, r1, r2, r3⟩ := mx_goDay (C := C) (t := t) (rr := rr) (pp := fun _ => 0) hL hB hcl hr9 (by omega) hC (by omega) hZ
    have hgo : pm_Rc pm_X0 118 (6, [some (pm_r 23), some (pm_i (nI f)), some (pm_i (nI S)), some (pm_i (nI t))], [], M) = pm_Rc pm_X0 118 (35, [some (pm_r 23), some (pm_i (nI f)), some (pm_i (nI S)), some (pm_i (nI t))], [pm_i (nI (rr t)), pm_i (nI t), pm_r 23], M) := by
      rw [← hrr t (by omega)]
      by_cases q : S.testBit t = true
      · simp only [rx_118_6, rx_118_7, rx_118_8, rx_118_11, rx_118_14, rx_118_15, rx_118_16, rx_118_17, rx_118_18, rx_118_19, rx_118_20, rx_118_21, rx_118_22, rx_118_25, rx_118_26, rx_118_29, rx_118_30, rx_118_31, rx_118_34, hL.2.1, pz_lt (show t < 2147483648 by omega) (show D < 2147483648 by omega), show t < D by omega, if_true, pz_bit hS (show t < 31 by omega), q, pz_ald_31 (show t < 8 by omega), hL.2.2.2.2.2.2 t (by omega), pz_bind]
      · simp only [rx_118_6, rx_118_7, rx_118_8, rx_118_11, rx_118_14, rx_118_15, rx_118_16, rx_118_17, rx_118_18, rx_118_19, rx_118_20, rx_118_21, rx_118_22, rx_118_25, rx_118_26, rx_118_29, rx_118_30, rx_118_31, rx_118_34, hL.2.1, pz_lt (show t < 2147483648 by omega) (show D < 2147483648 by omega), show t < D by omega, if_true, pz_bit hS (show t < 31 by omega), q, if_false, pz_n01, Bool.false_eq_true]
    have hw := r3.1 f hf
    have hw9 := sp_w_le F kd lm rr (fun _ => 0) C hr9 (t + 1) f
    have hh := (hL.fr r2).2.2.2.1 f hf
    have hb3 := b3 f
    rw [hgo]
    simp only [rx_118_0, rx_118_1, rx_118_4, rx_118_5, rx_118_7, rx_118_8, rx_118_11, rx_118_14, rx_118_15, rx_118_16, rx_118_17, rx_118_18, rx_118_19, rx_118_20, rx_118_21, rx_118_22, rx_118_25, rx_118_26, rx_118_29, rx_118_30, rx_118_31, rx_118_34, rx_118_35, rx_118_36, rx_118_39, rx_118_40, rx_118_43, rx_118_44, rx_118_45, rx_118_46, rx_118_49, rx_118_50, rx_118_51, rx_118_54, rx_118_55_0, rx_118_55_1, rx_118_56, rx_118_59, rx_118_62, rx_118_63_0, rx_118_63_1, r1, pz_bind, pz_psh0, pz_ald_37 (show f < 6 by omega), pz_ald_28 (show f < 6 by omega), hw, hh, pz_lt (show hd f < 2147483648 by omega) (show sp_w F kd lm rr (fun _ => 0) C (t + 1) f < 2147483648 by omega), pz_add, pz_nlz_i]
    by_cases q : hd f < sp_w F kd lm rr (fun _ => 0) C (t + 1) f
    · have h1 : sp_ev F hd kd lm rr (fun _ => 0) C f (t + 1) = true := by
        show (_ || decide _) = true
        rw [decide_eq_true q, Bool.or_true]
      have h2 := sp_ev_up dd h1
      rw [show t + 1 + dd = D by omega] at h2
      refine ⟨M1, ?_, r2⟩
      simp only [q, if_true, h2]
    · have h1 : sp_ev F hd kd lm rr (fun _ => 0) C f (t + 1) = false := by
        show (_ || decide _) = false
        rw [hev, decide_eq_false q]
        rfl
      obtain ⟨M2, t1, t2⟩ := ih (t + 1) (by omega) h1 M1 (hL.fr r2) (by rw [r2.2 25 (by decide) (by decide) (by decide)]; exact hcl) r3
      refine ⟨M2, ?_, r2.trans t2⟩
      simp only [q, if_false]
      exact t1
theorem mx_flood {F D C S f : Nat} {nd hd kd lm rn rr : Nat → Nat} {M : pm_M} (hL : iv_N M F D nd hd kd lm rn) (hB : iv_B F D nd hd kd lm rn) (hcl : M 23 25 = nI C) (hf : f < F) (hS : S < 2147483648) (hC : C < 2147483648) (hrr : ∀ t, t < D → (if S.testBit t = true then rn t else 0) = rr t) (hr9 : ∀ t, rr t ≤ 9) :
    ∃ M2, pm_Rc pm_X0 118 (0, [some (pm_r 23), some (pm_i (nI f)), some (pm_i (nI S)), none], [], M) = some (some (pm_i (nI (if sp_ev F hd kd lm rr (fun _ => 0) C f D = true then 1 else 0))), M2) ∧ fr_Z M M2 := by
  have hF : F ≤ 6 := by
    have := hB.1
    omega
  obtain ⟨M1, r1, r2, r3⟩ := mx_begin (M := M) hF hL.1
  obtain ⟨M2, t1, t2⟩ := mx_flood_l hB hf hS hC hrr hr9 D 0 (by omega) rfl M1 (hL.fr r2) (by rw [r2.2 25 (by decide) (by decide) (by decide)]; exact hcl) r3
  refine ⟨M2, ?_, r2.trans t2⟩
  simp only [rx_118_0, rx_118_1]
  rw [r1]
  simp only [pz_bind, pz_psh0, rx_118_4, rx_118_5, pz_nlz_i]
  exact t1
def sp_oks (F D : Nat) (hd kd lm rn : Nat → Nat) (f s : Nat) : Bool := !(sp_ev F hd kd lm rn (fun _ => 0) s f D)
theorem cx_shut_l {F D f : Nat} {nd hd kd lm rn : Nat → Nat} (hB : iv_B F D nd hd kd lm rn) (hf : f < F) : ∀ (dd s : Nat), s + dd = 2 ^ (F - 1) → ∀ M : pm_M, iv_L M F D nd hd kd lm rn →
    ∃ M2, pm_Rc pm_X0 54 (18, [some (pm_r 0), some (pm_i (nI f)), some (pm_i (sp_enc (sp_best (sp_oks F D hd kd lm rn f) s))), some (pm_i (nI s))], [], M) = some (some (pm_i (sp_enc (sp_best (sp_oks F D hd kd lm rn f) (2 ^ (F - 1))))), M2) ∧ fr_S M M2 := by
  have hF : F ≤ 6 := by
    have := hB.1
    omega
  have hD : D ≤ 8 := by
    have := hB.1
    omega
  have hN := pz_p5 hF
  intro dd
  induction dd with
  | zero =>
    intro s hs M hL
    have e : s = 2 ^ (F - 1) := by omega
    have h9 := cx_setsOfPosts (M := M) hL.1 hF
    rw [← e] at hN h9 ⊢
    refine ⟨M, ?_, fr_S.refl⟩
    rw [rx_54_18]
    simp only [rx_54_0, rx_54_1, rx_54_4, rx_54_5, rx_54_8, rx_54_11, rx_54_12, rx_54_13, rx_54_15, rx_54_16, rx_54_17, rx_54_19, rx_54_20, rx_54_23, rx_54_26, rx_54_29, rx_54_30, rx_54_31, rx_54_34, rx_54_37, rx_54_38, rx_54_39, rx_54_42, rx_54_43, rx_54_46, rx_54_49, rx_54_50, rx_54_53, rx_54_56, rx_54_57, rx_54_58, rx_54_61, rx_54_64, rx_54_65, rx_54_66, rx_54_69, rx_54_72, rx_54_73, h9, pz_bind, pz_psh, pz_lt (show s < 2147483648 by omega) (show s < 2147483648 by omega), Nat.lt_irrefl, if_false]
  | succ dd ih =>
    intro s hs M hL
    obtain ⟨M1, r1, r2, r3⟩ := cx_blow (P := 0) (C := s) (t := D) hL hB (Nat.le_refl _) (by omega) (by omega)
    have h64 := sp_s_64 (hd := hd) (kd := kd) (lm := lm) (rr := rn) (pp := fun _ => 0) (C := s) hF D
    have hbit := sp_s_bit (hd := hd) (kd := kd) (lm := lm) (rr := rn) (pp := fun _ => 0) (C := s) hf D
    have hb64 : ∀ b0, sp_best (sp_oks F D hd kd lm rn f) s = some b0 → b0 < 64 := fun b0 h => by
      have := sp_best_lt s b0 h
      omega
    obtain ⟨M2, t1, t2⟩ := ih (s + 1) (by omega) M1 (hL.fr r2)
    refine ⟨M2, ?_, r2.trans t2⟩
    rw [rx_54_18]
    simp only [rx_54_0, rx_54_1, rx_54_4, rx_54_5, rx_54_8, rx_54_11, rx_54_12, rx_54_13, rx_54_15, rx_54_16, rx_54_17, rx_54_19, rx_54_20, rx_54_23, rx_54_26, rx_54_29, rx_54_30, rx_54_31, rx_54_34, rx_54_37, rx_54_38, rx_54_39, rx_54_42, rx_54_43, rx_54_46, rx_54_49, rx_54_50, rx_54_53, rx_54_56, rx_54_57, rx_54_58, rx_54_61, rx_54_64, rx_54_65, rx_54_66, rx_54_69, rx_54_72, rx_54_73, cx_setsOfPosts (M := M) hL.1 hF, pz_bind, pz_psh, pz_psh0, pz_lt (show s < 2147483648 by omega) (show 2 ^ (F - 1) < 2147483648 by omega), show s < 2 ^ (F - 1) by omega, if_true, hL.2.1, r1, r3.2.2.2.1, cx_isIn (show (sp_s F hd kd lm rn (fun _ => 0) s D).2.1 < 2147483648 by omega) (show f < 31 by omega), hbit]
    by_cases q : sp_ev F hd kd lm rn (fun _ => 0) s f D = true
    · rw [sp_best_n (fun h => by
        have h9 := h.1
        unfold sp_oks at h9
        rw [q] at h9
        cases h9)] at t1
      simp only [q, if_true, pz_n10, if_false, pz_add, pz_nlz_i, pz_nlz_r]
      exact t1
    · have q9 : sp_oks F D hd kd lm rn f s = true := by
        unfold sp_oks
        rw [Bool.not_eq_true] at q
        rw [q]
        rfl
      simp only [q, Bool.false_eq_true, if_false, pz_n00, if_true]
      by_cases q2 : sp_fw s (sp_best (sp_oks F D hd kd lm rn f) s)
      · rw [sp_best_y q9 q2] at t1
        simp only [cx_isFewer_y (show s < 64 by omega) hb64 q2, pz_bind, pz_psh, rx_54_0, rx_54_1, rx_54_4, rx_54_5, rx_54_8, rx_54_11, rx_54_12, rx_54_13, rx_54_15, rx_54_16, rx_54_17, rx_54_19, rx_54_20, rx_54_23, rx_54_26, rx_54_29, rx_54_30, rx_54_31, rx_54_34, rx_54_37, rx_54_38, rx_54_39, rx_54_42, rx_54_43, rx_54_46, rx_54_49, rx_54_50, rx_54_53, rx_54_56, rx_54_57, rx_54_58, rx_54_61, rx_54_64, rx_54_65, rx_54_66, rx_54_69, rx_54_72, rx_54_73, pz_n10, if_false, pz_add, pz_nlz_i, pz_nlz_r]
        exact t1
      · rw [sp_best_n (fun h => q2 h.2)] at t1
        simp only [cx_isFewer_n (show s < 64 by omega) hb64 q2, pz_bind, pz_psh, rx_54_0, rx_54_1, rx_54_4, rx_54_5, rx_54_8, rx_54_11, rx_54_12, rx_54_13, rx_54_15, rx_54_16, rx_54_17, rx_54_19, rx_54_20, rx_54_23, rx_54_26, rx_54_29, rx_54_30, rx_54_31, rx_54_34, rx_54_37, rx_54_38, rx_54_39, rx_54_42, rx_54_43, rx_54_46, rx_54_49, rx_54_50, rx_54_53, rx_54_56, rx_54_57, rx_54_58, rx_54_61, rx_54_64, rx_54_65, rx_54_66, rx_54_69, rx_54_72, rx_54_73, pz_n00, if_true, pz_add, pz_nlz_i, pz_nlz_r]
        exact t1
/-- scratch of the reference, and its closed posts -/
def fr_W (M M2 : pm_M) : Prop := (∀ k, k ≠ 23 → k ≠ 37 → k ≠ 38 → M2 k = M k) ∧ (∀ j, j ≠ 22 → j ≠ 23 → j ≠ 24 → j ≠ 25 → M2 23 j = M 23 j)
theorem fr_W.refl {M : pm_M} : fr_W M M := ⟨fun _ _ _ _ => rfl, fun _ _ _ _ _ => rfl⟩
theorem fr_W.trans {M M2 M3 : pm_M} (h : fr_W M M2) (h2 : fr_W M2 M3) : fr_W M M3 := ⟨fun k a b c => (h2.1 k a b c).trans (h.1 k a b c), fun j a b c e => (h2.2 j a b c e).trans (h.2 j a b c e)⟩
theorem fr_Z.w {M M2 : pm_M} (h : fr_Z M M2) : fr_W M M2 := ⟨h.1, fun j a b c _ => h.2 j a b c⟩
theorem fr_W.cl {M : pm_M} {v : Int32} : fr_W M (pm_up M 23 25 v) := ⟨fun _ a _ _ => pz_up_c a, fun _ _ _ _ e => pz_up_n e⟩
theorem iv_N.frw {M M2 : pm_M} {F D : Nat} {nd hd kd lm rn : Nat → Nat} (h : iv_N M F D nd hd kd lm rn) (hf : fr_W M M2) : iv_N M2 F D nd hd kd lm rn := by
  unfold iv_N at h ⊢
  rw [hf.2 5 (by decide) (by decide) (by decide) (by decide), hf.2 6 (by decide) (by decide) (by decide) (by decide), hf.1 27 (by decide) (by decide) (by decide), hf.1 28 (by decide) (by decide) (by decide), hf.1 29 (by decide) (by decide) (by decide), hf.1 30 (by decide) (by decide) (by decide), hf.1 31 (by decide) (by decide) (by decide)]
  exact h
theorem pz_255 {t : Nat} (h : t < 8) : (255 : Nat).testBit t = true := by
  have h9 : ∀ t, t < 8 → (255 : Nat).testBit t = true := by decide +kernel
  exact h9 t h
theorem mx_shut_l {F D f : Nat} {nd hd kd lm rn : Nat → Nat} (hB : iv_B F D nd hd kd lm rn) (hf : f < F) : ∀ (dd s : Nat), s + dd = 2 ^ (F - 1) → ∀ M : pm_M, iv_N M F D nd hd kd lm rn →
    ∃ M2, pm_Rc pm_X0 117 (15, [some (pm_r 23), some (pm_i (nI f)), some (pm_i (sp_enc (sp_best (sp_oks F D hd kd lm rn f) s))), some (pm_i (nI s))], [], M) = some (some (pm_i (sp_enc (sp_best (sp_oks F D hd kd lm rn f) (2 ^ (F - 1))))), M2) ∧ fr_W M M2 ∧ M2 23 25 = nI 0 := by
  have hF : F ≤ 6 := by
    have := hB.1
    omega
  have hD : D ≤ 8 := by
    have := hB.1
    omega
  have hN := pz_p5 hF
  intro dd
  induction dd with
  | zero =>
    intro s hs M hL
    have e : s = 2 ^ (F - 1) := by omega
    have hsh : nI 1 <<< (nI (F - 1) &&& 31) = nI s := by rw [pz_shl (by omega), e]
    rw [← e] at hN ⊢
    refine ⟨pm_up M 23 25 (nI 0), ?_, fr_W.cl, pz_up_s⟩
    rw [rx_117_15]
    simp only [rx_117_0, rx_117_1, rx_117_2, rx_117_5, rx_117_8, rx_117_9, rx_117_10, rx_117_12, rx_117_13, rx_117_14, rx_117_16, rx_117_17, rx_117_18, rx_117_21, rx_117_22, rx_117_25, rx_117_26, rx_117_28, rx_117_31, rx_117_32, rx_117_35, rx_117_36, rx_117_39, rx_117_42, rx_117_43, rx_117_44, rx_117_47, rx_117_48, rx_117_49, rx_117_52, rx_117_55, rx_117_58, rx_117_59, rx_117_62, rx_117_63, rx_117_64, rx_117_67, rx_117_70, rx_117_71, rx_117_72, rx_117_75, rx_117_76, mx_posts (M := M) hL.1 hF, pz_bind, pz_psh, hsh, pz_lt (show s < 2147483648 by omega) (show s < 2147483648 by omega), Nat.lt_irrefl, if_false]
  | succ dd ih =>
    intro s hs M hL
    have hb64 : ∀ b0, sp_best (sp_oks F D hd kd lm rn f) s = some b0 → b0 < 64 := fun b0 h => by
      have := sp_best_lt s b0 h
      omega
    by_cases q2 : sp_fw s (sp_best (sp_oks F D hd kd lm rn f) s)
    · have hL0 : iv_N (pm_up M 23 25 (nI s)) F D nd hd kd lm rn := hL.frw fr_W.cl
      obtain ⟨M1, r1, r2⟩ := mx_flood (C := s) (S := 255) (f := f) (rr := rn) (M := pm_up M 23 25 (nI s)) hL0 hB pz_up_s hf (by omega) (by omega) (fun t ht => by rw [if_pos (pz_255 (by omega))]) hB.2.2.2.2.2
      obtain ⟨M2, t1, t2, t3⟩ := ih (s + 1) (by omega) M1 (hL0.fr r2)
      refine ⟨M2, ?_, (fr_W.cl.trans r2.w).trans t2, t3⟩
      have hgo : pm_Rc pm_X0 117 (15, [some (pm_r 23), some (pm_i (nI f)), some (pm_i (sp_enc (sp_best (sp_oks F D hd kd lm rn f) s))), some (pm_i (nI s))], [], M) = pm_Rc pm_X0 117 (42, [some (pm_r 23), some (pm_i (nI f)), some (pm_i (sp_enc (sp_best (sp_oks F D hd kd lm rn f) s))), some (pm_i (nI s))], [], M) := by
        rw [rx_117_15]
        rcases q2 with q2 | ⟨b0, q2, q3⟩
        · rw [q2]
          simp only [rx_117_16, rx_117_17, rx_117_18, rx_117_21, rx_117_22, rx_117_25, rx_117_26, rx_117_28, rx_117_31, rx_117_32, rx_117_35, rx_117_36, rx_117_39, mx_posts (M := M) hL.1 hF, pz_bind, pz_psh, pz_shl (show F - 1 < 31 by omega), pz_lt (show s < 2147483648 by omega) (show 2 ^ (F - 1) < 2147483648 by omega), show s < 2 ^ (F - 1) by omega, if_true, sp_enc]
        · have h64 := hb64 b0 q2
          have l1 : sp_bc s ≤ 6 := sp_bk_le 6 s
          have l2 : sp_bc b0 ≤ 6 := sp_bk_le 6 b0
          rw [q2]
          simp only [rx_117_16, rx_117_17, rx_117_18, rx_117_21, rx_117_22, rx_117_25, rx_117_26, rx_117_28, rx_117_31, rx_117_32, rx_117_35, rx_117_36, rx_117_39, mx_posts (M := M) hL.1 hF, pz_bind, pz_psh, pz_shl (show F - 1 < 31 by omega), pz_lt (show s < 2147483648 by omega) (show 2 ^ (F - 1) < 2147483648 by omega), show s < 2 ^ (F - 1) by omega, if_true, sp_enc, pz_m9 (show b0 < 1000 by omega), if_false, mx_size (show s < 64 by omega), mx_size h64, pz_lt (show sp_bc s < 2147483648 by omega) (show sp_bc b0 < 2147483648 by omega), q3]
      rw [hgo]
      simp only [rx_117_0, rx_117_1, rx_117_2, rx_117_5, rx_117_8, rx_117_9, rx_117_10, rx_117_12, rx_117_13, rx_117_14, rx_117_16, rx_117_17, rx_117_18, rx_117_21, rx_117_22, rx_117_25, rx_117_26, rx_117_28, rx_117_31, rx_117_32, rx_117_35, rx_117_36, rx_117_39, rx_117_42, rx_117_43, rx_117_44, rx_117_47, rx_117_48, rx_117_49, rx_117_52, rx_117_55, rx_117_58, rx_117_59, rx_117_62, rx_117_63, rx_117_64, rx_117_67, rx_117_70, rx_117_71, rx_117_72, rx_117_75, rx_117_76, r1, pz_bind, pz_psh]
      by_cases q : sp_ev F hd kd lm rn (fun _ => 0) s f D = true
      · rw [sp_best_n (fun h => by
          have h9 := h.1
          unfold sp_oks at h9
          rw [q] at h9
          cases h9)] at t1
        simp only [q, if_true, pz_n10, if_false, pz_add, pz_nlz_i, pz_nlz_r]
        exact t1
      · have q9 : sp_oks F D hd kd lm rn f s = true := by
          unfold sp_oks
          rw [Bool.not_eq_true] at q
          rw [q]
          rfl
        rw [sp_best_y q9 q2] at t1
        simp only [q, Bool.false_eq_true, if_false, pz_n00, if_true, pz_add, pz_nlz_i, pz_nlz_r]
        exact t1
    · obtain ⟨M2, t1, t2, t3⟩ := ih (s + 1) (by omega) M hL
      refine ⟨M2, ?_, t2, t3⟩
      rw [sp_best_n (fun h => q2 h.2)] at t1
      cases hb : sp_best (sp_oks F D hd kd lm rn f) s with
      | none => exact absurd (Or.inl hb) q2
      | some b0 =>
        have h64 := hb64 b0 hb
        have q3 : ¬ sp_bc s < sp_bc b0 := fun h => q2 (Or.inr ⟨b0, hb, h⟩)
        have l1 : sp_bc s ≤ 6 := sp_bk_le 6 s
        have l2 : sp_bc b0 ≤ 6 := sp_bk_le 6 b0
        rw [hb] at t1
        rw [rx_117_15]
        simp only [rx_117_0, rx_117_1, rx_117_2, rx_117_5, rx_117_8, rx_117_9, rx_117_10, rx_117_12, rx_117_13, rx_117_14, rx_117_16, rx_117_17, rx_117_18, rx_117_21, rx_117_22, rx_117_25, rx_117_26, rx_117_28, rx_117_31, rx_117_32, rx_117_35, rx_117_36, rx_117_39, rx_117_42, rx_117_43, rx_117_44, rx_117_47, rx_117_48, rx_117_49, rx_117_52, rx_117_55, rx_117_58, rx_117_59, rx_117_62, rx_117_63, rx_117_64, rx_117_67, rx_117_70, rx_117_71, rx_117_72, rx_117_75, rx_117_76, mx_posts (M := M) hL.1 hF, pz_bind, pz_psh, pz_shl (show F - 1 < 31 by omega), pz_lt (show s < 2147483648 by omega) (show 2 ^ (F - 1) < 2147483648 by omega), show s < 2 ^ (F - 1) by omega, if_true, sp_enc, pz_m9 (show b0 < 1000 by omega), if_false, mx_size (show s < 64 by omega), mx_size h64, pz_lt (show sp_bc s < 2147483648 by omega) (show sp_bc b0 < 2147483648 by omega), q3, pz_add, pz_nlz_i]
        exact t1
theorem op_shut (x : Int32) : op_ok 54 117 [some (pm_r 0), some (pm_i x), none, none] [some (pm_r 23), some (pm_i x), none, none] := by
  intro M hM
  obtain ⟨d, e, hG, hX, hY⟩ := hM
  obtain ⟨hB, hn, hq, hl⟩ := id hG
  obtain ⟨xL, xR, xT, xS⟩ := id hX
  obtain ⟨yL, yR, yT, yS⟩ := id hY
  obtain ⟨x1, x2, x3, x4, x5, x6, x7⟩ := id xL
  obtain ⟨y1, y2, y3, y4, y5, y6, y7⟩ := id yL
  obtain ⟨b1, b2, b3, b4, b5, b6⟩ := id hB
  have hF : d 0 0 ≤ 6 := by omega
  have hD : d 0 1 ≤ 8 := by omega
  rcases pz_any x (d 0 0) (by omega) with hx | ⟨f, hf, rfl⟩
  · refine ⟨pm_i (-1), M, M, ?_, ?_, d, e, hG, hX, hY⟩
    · simp only [rx_54_0, rx_54_1, rx_54_4, rx_54_5, rx_54_8, rx_54_11, rx_54_12, cx_hasField_n x1 hx, pz_bind, pz_psh, pz_n00, if_true]
    · simp only [rx_117_0, rx_117_1, rx_117_2, rx_117_5, rx_117_8, rx_117_9, mx_isField_n y1 hx, pz_bind, pz_psh, pz_n00, if_true]
  · obtain ⟨M1, r1, r2⟩ := cx_shut_l hB hf (2 ^ (d 0 0 - 1)) 0 (by omega) M xL
    have hY1 := iy_S_fr hY r2
    obtain ⟨z1, z2, z3, z4⟩ := id hY1
    obtain ⟨M2, t1, t2, t3⟩ := mx_shut_l hB hf (2 ^ (d 0 0 - 1)) 0 (by omega) M1 z1
    refine ⟨pm_i (sp_enc (sp_best (sp_oks (d 0 0) (d 0 1) (d 2) (d 3) (d 4) (d 5) f) (2 ^ (d 0 0 - 1)))), M1, M2, ?_, ?_, d, e, hG, ix_fr (ix_S_fr hX r2) (fun k a _ _ _ _ => t2.1 k (by omega) (by omega) (by omega)), iy_fr hY1 (fun k a b => t2.1 k (by omega) (by omega) (by omega)) (fun j hj => ?_)⟩
    · simp only [rx_54_0, rx_54_1, rx_54_4, rx_54_5, rx_54_8, rx_54_11, rx_54_12, rx_54_13, rx_54_15, rx_54_16, rx_54_17, cx_hasField_y x1 hF hf, pz_bind, pz_psh, pz_n10, if_false, pz_nlz_r, pz_nlz_i]
      exact r1
    · simp only [rx_117_0, rx_117_1, rx_117_2, rx_117_5, rx_117_8, rx_117_9, rx_117_10, rx_117_12, rx_117_13, rx_117_14, mx_isField_y z1.1 hF hf, pz_bind, pz_psh, pz_n10, if_false, pz_nlz_r, pz_nlz_i]
      exact t1
    · by_cases q : j = 25
      · rw [q, t3, z3.2.2]
      · exact t2.2 j (by omega) (by omega) (by omega) q
