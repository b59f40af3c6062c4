/-! Sets of posts, counted and tried. -/
def sp_bk : Nat → Nat → Nat
  | 0, _ => 0
  | k + 1, l => l % 2 + sp_bk k (l / 2)
theorem sp_bk_0 : ∀ k, sp_bk k 0 = 0
  | 0 => rfl
  | k + 1 => by
    show 0 % 2 + sp_bk k (0 / 2) = 0
    rw [show 0 / 2 = 0 from rfl, sp_bk_0 k]
abbrev sp_bc (s : Nat) : Nat := sp_bk 6 s
theorem sp_bk_le : ∀ k l, sp_bk k l ≤ k
  | 0, _ => Nat.le_refl 0
  | k + 1, l => by
    have h := sp_bk_le k (l / 2)
    show l % 2 + sp_bk k (l / 2) ≤ k + 1
    omega
def pz_us (x y : Int32) : Int32 := (x.toUInt32 >>> (y.toUInt32 &&& Int32.toUInt32 31)).toInt32
def pz_b1 (x : Int32) : Int32 := x - (pz_us x (nI 1) &&& nI 1431655765)
def pz_b2 (x : Int32) : Int32 := (x &&& nI 858993459) + (pz_us x (nI 2) &&& nI 858993459)
def pz_b3 (x : Int32) : Int32 := (x + pz_us x (nI 4)) &&& nI 252645135
def pz_b4 (x : Int32) : Int32 := x + pz_us x (nI 8)
def pz_b5 (x : Int32) : Int32 := x + pz_us x (nI 16)
theorem pz_bcK : ∀ s, s < 64 → pz_b5 (pz_b4 (pz_b3 (pz_b2 (pz_b1 (nI s))))) &&& nI 63 = nI (sp_bk 6 s) := by decide +kernel
theorem cx_bitCount {M : pm_M} {s : Nat} (h : s < 64) : pm_Rc pm_X0 141 (0, [some (pm_i (nI s))], [], M) = some (some (pm_i (nI (sp_bc s))), M) := by
  have h9 := pz_bcK s h
  have e : pm_Rc pm_X0 141 (0, [some (pm_i (nI s))], [], M) = some (some (pm_i (pz_b5 (pz_b4 (pz_b3 (pz_b2 (pz_b1 (nI s))))) &&& nI 63)), M) := by
    simp only [rx_141_0, rx_141_1, rx_141_2, rx_141_3, rx_141_4, rx_141_7, rx_141_8, rx_141_9, rx_141_10, rx_141_11, rx_141_14, rx_141_15, rx_141_16, rx_141_17, rx_141_18, rx_141_21, rx_141_22, rx_141_23, rx_141_24, rx_141_25, rx_141_26, rx_141_27, rx_141_28, rx_141_29, rx_141_32, rx_141_33, rx_141_34, rx_141_35, rx_141_36, rx_141_38, rx_141_39, rx_141_40, rx_141_41, rx_141_42, rx_141_43, rx_141_45, rx_141_46, rx_141_47, rx_141_48, rx_141_49, rx_141_51, rx_141_52]
    rfl
  rw [e, h9]
theorem pz_and1 {l : Nat} (h : l < 2147483648) : nI l &&& nI 1 = nI (l % 2) := by
  have h4 := pk_andN (n := l) (by omega) (m := nI 1) 1 rfl
  rw [h4]
theorem pz_shr1 {l : Nat} (h : l < 2147483648) : nI l >>> (nI 1 &&& 31) = nI (l / 2) := pk_shrN h _ 1 (by decide)
theorem mx_size_l {M : pm_M} : ∀ (k l n : Nat), l < 2 ^ k → k ≤ 30 → ∀ o0 : Option pm_V, pm_Rc pm_X0 115 (4, [o0, some (pm_i (nI n)), some (pm_i (nI l))], [], M) = some (some (pm_i (nI (n + sp_bk k l))), M) := by
  intro k
  induction k with
  | zero =>
    intro l n hl hk o0
    have e : l = 0 := by
      have : (2 : Nat) ^ 0 = 1 := rfl
      omega
    subst e
    rw [rx_115_4]
    simp only [rx_115_0, rx_115_1, rx_115_2, rx_115_3, rx_115_5, rx_115_8, rx_115_9, rx_115_10, rx_115_11, rx_115_12, rx_115_13, rx_115_14, rx_115_15, rx_115_16, rx_115_17, rx_115_18, rx_115_21, rx_115_22, pz_0lt (show 0 < 2147483648 by omega), Nat.lt_irrefl, if_false]
    rfl
  | succ k ih =>
    intro l n hl hk o0
    have hp : (2 : Nat) ^ (k + 1) ≤ 2 ^ 30 := Nat.pow_le_pow_right (by omega) hk
    have hp2 : (2 : Nat) ^ (k + 1) = 2 * 2 ^ k := by rw [Nat.pow_succ, Nat.mul_comm]
    have hl2 : l < 1073741824 := Nat.lt_of_lt_of_le hl hp
    rw [rx_115_4]
    by_cases q : 0 < l
    · simp only [rx_115_0, rx_115_1, rx_115_2, rx_115_3, rx_115_5, rx_115_8, rx_115_9, rx_115_10, rx_115_11, rx_115_12, rx_115_13, rx_115_14, rx_115_15, rx_115_16, rx_115_17, rx_115_18, rx_115_21, rx_115_22, pz_0lt (show l < 2147483648 by omega), q, if_true, pz_and1 (show l < 2147483648 by omega), pz_add, pz_shr1 (show l < 2147483648 by omega), pz_nlz_i]
      have h9 := ih (l / 2) (n + l % 2) (by omega) (by omega) (pm_nlz o0)
      rw [Nat.add_assoc] at h9
      exact h9
    · have e : l = 0 := by omega
      subst e
      simp only [rx_115_0, rx_115_1, rx_115_2, rx_115_3, rx_115_5, rx_115_8, rx_115_9, rx_115_10, rx_115_11, rx_115_12, rx_115_13, rx_115_14, rx_115_15, rx_115_16, rx_115_17, rx_115_18, rx_115_21, rx_115_22, pz_0lt (show 0 < 2147483648 by omega), Nat.lt_irrefl, if_false, sp_bk_0, Nat.add_zero]
theorem mx_size {M : pm_M} {s : Nat} (h : s < 64) : pm_Rc pm_X0 115 (0, [some (pm_i (nI s)), none, none], [], M) = some (some (pm_i (nI (sp_bc s))), M) := by
  simp only [rx_115_0, rx_115_1, rx_115_2, rx_115_3, pz_nlz_i]
  have h9 := mx_size_l (M := M) 6 s 0 h (by omega) (some (pm_i (nI s)))
  rw [Nat.zero_add] at h9
  exact h9
/-- the best of some sets: the fewest posts, then the least -/
def sp_fw (s : Nat) (b : Option Nat) : Prop := b = none ∨ ∃ b0, b = some b0 ∧ sp_bc s < sp_bc b0
def sp_fwb (s : Nat) (b : Option Nat) : Bool := match b with
  | none => true
  | some b0 => decide (sp_bc s < sp_bc b0)
theorem sp_fwb_iff {s : Nat} {b : Option Nat} : sp_fwb s b = true ↔ sp_fw s b := by
  cases b with
  | none => exact ⟨fun _ => Or.inl rfl, fun _ => rfl⟩
  | some b0 =>
    constructor
    · intro h
      exact Or.inr ⟨b0, rfl, of_decide_eq_true h⟩
    · intro h
      rcases h with h | ⟨b1, h1, h2⟩
      · cases h
      · cases h1
        exact decide_eq_true h2
def sp_best (ok : Nat → Bool) : Nat → Option Nat
  | 0 => none
  | s + 1 => if (ok s && sp_fwb s (sp_best ok s)) = true then some s else sp_best ok s
theorem sp_best_y {ok : Nat → Bool} {s : Nat} (h : ok s = true) (h2 : sp_fw s (sp_best ok s)) : sp_best ok (s + 1) = some s := by
  show (if (ok s && sp_fwb s (sp_best ok s)) = true then some s else sp_best ok s) = some s
  rw [if_pos (by rw [h, sp_fwb_iff.mpr h2]; rfl)]
theorem sp_best_n {ok : Nat → Bool} {s : Nat} (h : ¬ (ok s = true ∧ sp_fw s (sp_best ok s))) : sp_best ok (s + 1) = sp_best ok s := by
  show (if (ok s && sp_fwb s (sp_best ok s)) = true then some s else sp_best ok s) = sp_best ok s
  rw [if_neg (fun q => h (by
    rw [Bool.and_eq_true] at q
    exact ⟨q.1, sp_fwb_iff.mp q.2⟩))]
theorem sp_best_lt {ok : Nat → Bool} : ∀ s b, sp_best ok s = some b → b < s
  | 0, b, h => by cases h
  | s + 1, b, h => by
    by_cases q : ok s = true ∧ sp_fw s (sp_best ok s)
    · rw [sp_best_y q.1 q.2] at h
      cases h
      omega
    · rw [sp_best_n q] at h
      have := sp_best_lt s b h
      omega
def sp_enc (b : Option Nat) : Int32 := match b with
  | none => -9
  | some b => nI b
theorem cx_isFewer_y {M : pm_M} {s : Nat} {b : Option Nat} (hs : s < 64) (hb : ∀ b0, b = some b0 → b0 < 64) (h : sp_fw s b) : pm_Rc pm_X0 52 (0, [some (pm_i (nI s)), some (pm_i (sp_enc b))], [], M) = some (some (pm_i (nI 1)), M) := by
  rcases h with rfl | ⟨b0, rfl, h⟩
  · simp only [rx_52_0, rx_52_1, rx_52_3, rx_52_6, rx_52_7, rx_52_10, rx_52_11, rx_52_14, rx_52_17, rx_52_18, rx_52_21, rx_52_22_0, rx_52_22_1, sp_enc, if_true]
  · have h64 := hb b0 rfl
    have l1 : sp_bc s ≤ 6 := sp_bk_le 6 s
    have l2 : sp_bc b0 ≤ 6 := sp_bk_le 6 b0
    simp only [rx_52_0, rx_52_1, rx_52_3, rx_52_6, rx_52_7, rx_52_10, rx_52_11, rx_52_14, rx_52_17, rx_52_18, rx_52_21, rx_52_22_0, rx_52_22_1, sp_enc, pz_m9 (show b0 < 1000 by omega), if_false, cx_bitCount hs, cx_bitCount h64, pz_bind, pz_psh, pz_lt (show sp_bc s < 2147483648 by omega) (show sp_bc b0 < 2147483648 by omega), h, if_true]
theorem cx_isFewer_n {M : pm_M} {s : Nat} {b : Option Nat} (hs : s < 64) (hb : ∀ b0, b = some b0 → b0 < 64) (h : ¬ sp_fw s b) : pm_Rc pm_X0 52 (0, [some (pm_i (nI s)), some (pm_i (sp_enc b))], [], M) = some (some (pm_i (nI 0)), M) := by
  cases b with
  | none => exact absurd (Or.inl rfl) h
  | some b0 =>
    have h2 : ¬ sp_bc s < sp_bc b0 := fun q => h (Or.inr ⟨b0, rfl, q⟩)
    have h64 := hb b0 rfl
    have l1 : sp_bc s ≤ 6 := sp_bk_le 6 s
    have l2 : sp_bc b0 ≤ 6 := sp_bk_le 6 b0
    simp only [rx_52_0, rx_52_1, rx_52_3, rx_52_6, rx_52_7, rx_52_10, rx_52_11, rx_52_14, rx_52_17, rx_52_18, rx_52_21, rx_52_22_0, rx_52_22_1, sp_enc, pz_m9 (show b0 < 1000 by omega), if_false, cx_bitCount hs, cx_bitCount h64, pz_bind, pz_psh, pz_lt (show sp_bc s < 2147483648 by omega) (show sp_bc b0 < 2147483648 by omega), h2]
theorem pz_p5 {F : Nat} (h : F ≤ 6) : 2 ^ (F - 1) ≤ 32 := Nat.pow_le_pow_right (n := 2) (by omega) (show F - 1 ≤ 5 by omega)
def sp_okp (F D : Nat) (hd kd lm rn : Nat → Nat) (s : Nat) : Bool := decide ((sp_s F hd kd lm rn (fun _ => s) 0 D).1 = 0)
theorem cx_papers_l {F D : Nat} {nd hd kd lm rn : Nat → Nat} (hB : iv_B F D nd hd kd lm rn) : ∀ (dd s : Nat), s + dd = 2 ^ (F - 1) → ∀ M : pm_M, iv_L M F D nd hd kd lm rn →
    ∃ M2, pm_Rc pm_X0 51 (18, [some (pm_r 0), some (pm_i (sp_enc (sp_best (sp_okp F D hd kd lm rn) s))), some (pm_i (nI s))], [], M) = some (some (pm_i (sp_enc (sp_best (sp_okp F D hd kd lm rn) (2 ^ (F - 1))))), M2) ∧ fr_S M M2 := by
  have hF : F ≤ 6 := by
    have := hB.1
    omega
  have hD : D ≤ 8 := by
    have := hB.1
    omega
  have hN := pz_p5 hF
  intro dd
  induction dd with
  | zero =>
    intro s hs M hL
    have e : s = 2 ^ (F - 1) := by omega
    rw [← e] at hN ⊢
    refine ⟨M, ?_, fr_S.refl⟩
    rw [rx_51_18]
    have h9 := cx_setsOfPosts (M := M) hL.1 hF
    rw [← e] at h9
    simp only [rx_51_0, rx_51_1, rx_51_4, rx_51_7, rx_51_10, rx_51_12, rx_51_13, rx_51_15, rx_51_16, rx_51_17, rx_51_19, rx_51_20, rx_51_23, rx_51_26, rx_51_29, rx_51_30, rx_51_31, rx_51_34, rx_51_37, rx_51_38, rx_51_39, rx_51_42, rx_51_43, rx_51_46, rx_51_49, rx_51_52, rx_51_53, rx_51_54, rx_51_57, rx_51_60, rx_51_61, rx_51_62, rx_51_65, rx_51_68, rx_51_69, h9, pz_bind, pz_psh, pz_lt (show s < 2147483648 by omega) (show s < 2147483648 by omega), Nat.lt_irrefl, if_false]
  | succ dd ih =>
    intro s hs M hL
    obtain ⟨M1, r1, r2, r3⟩ := cx_blow (P := s) (C := 0) (t := D) hL hB (Nat.le_refl _) (by omega) (by omega)
    have hn := sp_s_n F hd kd lm rn (fun _ => s) 0 D
    have hn2 : D * F ≤ 8 * 6 := Nat.mul_le_mul hD hF
    have hb64 : ∀ b0, sp_best (sp_okp F D hd kd lm rn) s = some b0 → b0 < 64 := fun b0 h => by
      have := sp_best_lt s b0 h
      omega
    obtain ⟨M2, t1, t2⟩ := ih (s + 1) (by omega) M1 (hL.fr r2)
    refine ⟨M2, ?_, r2.trans t2⟩
    rw [rx_51_18]
    simp only [rx_51_0, rx_51_1, rx_51_4, rx_51_7, rx_51_10, rx_51_12, rx_51_13, rx_51_15, rx_51_16, rx_51_17, rx_51_19, rx_51_20, rx_51_23, rx_51_26, rx_51_29, rx_51_30, rx_51_31, rx_51_34, rx_51_37, rx_51_38, rx_51_39, rx_51_42, rx_51_43, rx_51_46, rx_51_49, rx_51_52, rx_51_53, rx_51_54, rx_51_57, rx_51_60, rx_51_61, rx_51_62, rx_51_65, rx_51_68, rx_51_69, cx_setsOfPosts (M := M) hL.1 hF, pz_bind, pz_psh, pz_psh0, pz_lt (show s < 2147483648 by omega) (show 2 ^ (F - 1) < 2147483648 by omega), show s < 2 ^ (F - 1) by omega, if_true, hL.2.1, r1, r3.2.2.1, pz_eq0 (show (sp_s F hd kd lm rn (fun _ => s) 0 D).1 < 2147483648 by omega)]
    by_cases q : (sp_s F hd kd lm rn (fun _ => s) 0 D).1 = 0
    · simp only [q, if_true]
      by_cases q2 : sp_fw s (sp_best (sp_okp F D hd kd lm rn) s)
      · rw [sp_best_y (decide_eq_true q) q2] at t1
        simp only [cx_isFewer_y (show s < 64 by omega) hb64 q2, pz_bind, pz_psh, rx_51_0, rx_51_1, rx_51_4, rx_51_7, rx_51_10, rx_51_12, rx_51_13, rx_51_15, rx_51_16, rx_51_17, rx_51_19, rx_51_20, rx_51_23, rx_51_26, rx_51_29, rx_51_30, rx_51_31, rx_51_34, rx_51_37, rx_51_38, rx_51_39, rx_51_42, rx_51_43, rx_51_46, rx_51_49, rx_51_52, rx_51_53, rx_51_54, rx_51_57, rx_51_60, rx_51_61, rx_51_62, rx_51_65, rx_51_68, rx_51_69, pz_n10, if_false, pz_add, pz_nlz_i, pz_nlz_r]
        exact t1
      · rw [sp_best_n (fun h => q2 h.2)] at t1
        simp only [cx_isFewer_n (show s < 64 by omega) hb64 q2, pz_bind, pz_psh, rx_51_0, rx_51_1, rx_51_4, rx_51_7, rx_51_10, rx_51_12, rx_51_13, rx_51_15, rx_51_16, rx_51_17, rx_51_19, rx_51_20, rx_51_23, rx_51_26, rx_51_29, rx_51_30, rx_51_31, rx_51_34, rx_51_37, rx_51_38, rx_51_39, rx_51_42, rx_51_43, rx_51_46, rx_51_49, rx_51_52, rx_51_53, rx_51_54, rx_51_57, rx_51_60, rx_51_61, rx_51_62, rx_51_65, rx_51_68, rx_51_69, pz_n00, if_true, pz_add, pz_nlz_i, pz_nlz_r]
        exact t1
    · rw [sp_best_n (fun h => q (of_decide_eq_true h.1))] at t1
      simp only [q, if_false, pz_add, pz_nlz_i, pz_nlz_r]
      exact t1
theorem mx_papers_l {F D : Nat} {nd hd kd lm rn : Nat → Nat} (hB : iv_B F D nd hd kd lm rn) : ∀ (dd s : Nat), s + dd = 2 ^ (F - 1) → ∀ M : pm_M, iv_N M F D nd hd kd lm rn → M 23 25 = nI 0 →
    ∃ M2, pm_Rc pm_X0 114 (15, [some (pm_r 23), some (pm_i (sp_enc (sp_best (sp_okp F D hd kd lm rn) s))), some (pm_i (nI s))], [], M) = some (some (pm_i (sp_enc (sp_best (sp_okp F D hd kd lm rn) (2 ^ (F - 1))))), M2) ∧ fr_Z M M2 := by
  have hF : F ≤ 6 := by
    have := hB.1
    omega
  have hD : D ≤ 8 := by
    have := hB.1
    omega
  have hN := pz_p5 hF
  intro dd
  induction dd with
  | zero =>
    intro s hs M hL hcl
    have e : s = 2 ^ (F - 1) := by omega
    have hsh : nI 1 <<< (nI (F - 1) &&& 31) = nI s := by rw [pz_shl (by omega), e]
    rw [← e] at hN ⊢
    refine ⟨M, ?_, fr_Z.refl⟩
    rw [rx_114_15]
    simp only [rx_114_0, rx_114_1, rx_114_4, rx_114_7, rx_114_9, rx_114_10, rx_114_12, rx_114_13, rx_114_14, rx_114_16, rx_114_17, rx_114_18, rx_114_21, rx_114_22, rx_114_25, rx_114_26, rx_114_28, rx_114_31, rx_114_32, rx_114_35, rx_114_36, rx_114_39, rx_114_42, rx_114_43, rx_114_44, rx_114_47, rx_114_48, rx_114_51, rx_114_52, rx_114_55, rx_114_58, rx_114_59, rx_114_62, rx_114_63, rx_114_64, rx_114_67, rx_114_70, rx_114_71, mx_posts (M := M) hL.1 hF, pz_bind, pz_psh, hsh, pz_lt (show s < 2147483648 by omega) (show s < 2147483648 by omega), Nat.lt_irrefl, if_false]
  | succ dd ih =>
    intro s hs M hL hcl
    have hb64 : ∀ b0, sp_best (sp_okp F D hd kd lm rn) s = some b0 → b0 < 64 := fun b0 h => by
      have := sp_best_lt s b0 h
      omega
    by_cases q2 : sp_fw s (sp_best (sp_okp F D hd kd lm rn) s)
    · obtain ⟨M1, r1, r2, r3⟩ := mx_goDays (P := s) (C := 0) (t := D) hL hB hcl (Nat.le_refl _) (by omega) (by omega)
      have hn := sp_s_n F hd kd lm rn (fun _ => s) 0 D
      have hn2 : D * F ≤ 8 * 6 := Nat.mul_le_mul hD hF
      obtain ⟨M2, t1, t2⟩ := ih (s + 1) (by omega) M1 (hL.fr r2) (by rw [r2.2 25 (by decide) (by decide) (by decide)]; exact hcl)
      refine ⟨M2, ?_, r2.trans t2⟩
      have hgo : pm_Rc pm_X0 114 (15, [some (pm_r 23), some (pm_i (sp_enc (sp_best (sp_okp F D hd kd lm rn) s))), some (pm_i (nI s))], [], M) = pm_Rc pm_X0 114 (42, [some (pm_r 23), some (pm_i (sp_enc (sp_best (sp_okp F D hd kd lm rn) s))), some (pm_i (nI s))], [], M) := by
        rw [rx_114_15]
        rcases q2 with q2 | ⟨b0, q2, q3⟩
        · rw [q2]
          simp only [rx_114_16, rx_114_17, rx_114_18, rx_114_21, rx_114_22, rx_114_25, rx_114_26, rx_114_28, rx_114_31, rx_114_32, rx_114_35, rx_114_36, rx_114_39, mx_posts (M := M) hL.1 hF, pz_bind, pz_psh, pz_shl (show F - 1 < 31 by omega), pz_lt (show s < 2147483648 by omega) (show 2 ^ (F - 1) < 2147483648 by omega), show s < 2 ^ (F - 1) by omega, if_true, sp_enc]
        · have h64 := hb64 b0 q2
          have l1 : sp_bc s ≤ 6 := sp_bk_le 6 s
          have l2 : sp_bc b0 ≤ 6 := sp_bk_le 6 b0
          rw [q2]
          simp only [rx_114_16, rx_114_17, rx_114_18, rx_114_21, rx_114_22, rx_114_25, rx_114_26, rx_114_28, rx_114_31, rx_114_32, rx_114_35, rx_114_36, rx_114_39, mx_posts (M := M) hL.1 hF, pz_bind, pz_psh, pz_shl (show F - 1 < 31 by omega), pz_lt (show s < 2147483648 by omega) (show 2 ^ (F - 1) < 2147483648 by omega), show s < 2 ^ (F - 1) by omega, if_true, sp_enc, pz_m9 (show b0 < 1000 by omega), if_false, mx_size (show s < 64 by omega), mx_size h64, pz_lt (show sp_bc s < 2147483648 by omega) (show sp_bc b0 < 2147483648 by omega), q3]
      rw [hgo]
      simp only [rx_114_0, rx_114_1, rx_114_4, rx_114_7, rx_114_9, rx_114_10, rx_114_12, rx_114_13, rx_114_14, rx_114_16, rx_114_17, rx_114_18, rx_114_21, rx_114_22, rx_114_25, rx_114_26, rx_114_28, rx_114_31, rx_114_32, rx_114_35, rx_114_36, rx_114_39, rx_114_42, rx_114_43, rx_114_44, rx_114_47, rx_114_48, rx_114_51, rx_114_52, rx_114_55, rx_114_58, rx_114_59, rx_114_62, rx_114_63, rx_114_64, rx_114_67, rx_114_70, rx_114_71, hL.2.1, r1, pz_bind, pz_psh0, r3.2.2.1, pz_eq0 (show (sp_s F hd kd lm rn (fun _ => s) 0 D).1 < 2147483648 by omega)]
      by_cases q : (sp_s F hd kd lm rn (fun _ => s) 0 D).1 = 0
      · rw [sp_best_y (decide_eq_true q) q2] at t1
        simp only [q, if_true, pz_add, pz_nlz_i, pz_nlz_r]
        exact t1
      · rw [sp_best_n (fun h => q (of_decide_eq_true h.1))] at t1
        simp only [q, if_false, pz_add, pz_nlz_i, pz_nlz_r]
        exact t1
    · obtain ⟨M2, t1, t2⟩ := ih (s + 1) (by omega) M hL hcl
      refine ⟨M2, ?_, t2⟩
      rw [sp_best_n (fun h => q2 h.2)] at t1
      cases hb : sp_best (sp_okp F D hd kd lm rn) s with
      | none => exact absurd (Or.inl hb) q2
      | some b0 =>
        have h64 := hb64 b0 hb
        have q3 : ¬ sp_bc s < sp_bc b0 := fun h => q2 (Or.inr ⟨b0, hb, h⟩)
        have l1 : sp_bc s ≤ 6 := sp_bk_le 6 s
        have l2 : sp_bc b0 ≤ 6 := sp_bk_le 6 b0
        rw [hb] at t1
        rw [rx_114_15]
        simp only [rx_114_0, rx_114_1, rx_114_4, rx_114_7, rx_114_9, rx_114_10, rx_114_12, rx_114_13, rx_114_14, rx_114_16, rx_114_17, rx_114_18, rx_114_21, rx_114_22, rx_114_25, rx_114_26, rx_114_28, rx_114_31, rx_114_32, rx_114_35, rx_114_36, rx_114_39, rx_114_42, rx_114_43, rx_114_44, rx_114_47, rx_114_48, rx_114_51, rx_114_52, rx_114_55, rx_114_58, rx_114_59, rx_114_62, rx_114_63, rx_114_64, rx_114_67, rx_114_70, rx_114_71, mx_posts (M := M) hL.1 hF, pz_bind, pz_psh, pz_shl (show F - 1 < 31 by omega), pz_lt (show s < 2147483648 by omega) (show 2 ^ (F - 1) < 2147483648 by omega), show s < 2 ^ (F - 1) by omega, if_true, sp_enc, pz_m9 (show b0 < 1000 by omega), if_false, mx_size (show s < 64 by omega), mx_size h64, pz_lt (show sp_bc s < 2147483648 by omega) (show sp_bc b0 < 2147483648 by omega), q3, pz_add, pz_nlz_i]
        exact t1
theorem op_papers : op_ok 51 114 [some (pm_r 0), none, none] [some (pm_r 23), none, none] := by
  intro M hM
  obtain ⟨d, e, hG, hX, hY⟩ := hM
  obtain ⟨hB, hn, hq, hl⟩ := id hG
  obtain ⟨xL, xR, xT, xS⟩ := id hX
  obtain ⟨yL, yR, yT, yS⟩ := id hY
  obtain ⟨x1, x2, x3, x4, x5, x6, x7⟩ := id xL
  obtain ⟨y1, y2, y3, y4, y5, y6, y7⟩ := id yL
  obtain ⟨b1, b2, b3, b4, b5, b6⟩ := id hB
  have hF : d 0 0 ≤ 6 := by omega
  have hD : d 0 1 ≤ 8 := by omega
  by_cases q0 : d 0 0 = 0
  · refine ⟨pm_i (-3), M, M, ?_, ?_, d, e, hG, hX, hY⟩
    · simp only [rx_51_0, rx_51_1, rx_51_4, rx_51_7, rx_51_10, rx_51_12, cx_exists x1 hF, q0, pz_bind, pz_psh, pz_n00, if_true]
    · simp only [rx_114_0, rx_114_1, rx_114_4, rx_114_7, rx_114_9, y1, q0, pz_n00, if_true]
  · obtain ⟨M1, r1, r2⟩ := cx_papers_l hB (2 ^ (d 0 0 - 1)) 0 (by omega) M xL
    have hY1 := iy_S_fr hY r2
    obtain ⟨z1, z2, z3, z4⟩ := id hY1
    obtain ⟨M2, t1, t2⟩ := mx_papers_l hB (2 ^ (d 0 0 - 1)) 0 (by omega) M1 z1 z3.2.2
    refine ⟨pm_i (sp_enc (sp_best (sp_okp (d 0 0) (d 0 1) (d 2) (d 3) (d 4) (d 5)) (2 ^ (d 0 0 - 1)))), M1, M2, ?_, ?_, d, e, hG, ix_Z_fr (ix_S_fr hX r2) t2, iy_Z_fr hY1 t2⟩
    · simp only [rx_51_0, rx_51_1, rx_51_4, rx_51_7, rx_51_10, rx_51_12, rx_51_13, rx_51_15, rx_51_16, rx_51_17, cx_exists x1 hF, q0, if_false, pz_bind, pz_psh, pz_n10, pz_nlz_r, pz_nlz_i]
      exact r1
    · simp only [rx_114_0, rx_114_1, rx_114_4, rx_114_7, rx_114_9, rx_114_10, rx_114_12, rx_114_13, rx_114_14, z1.1, pz_eq0 (show d 0 0 < 2147483648 by omega), q0, if_false, pz_nlz_r, pz_nlz_i]
      exact t1
