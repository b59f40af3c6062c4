/-! texts: the reference reads. -/
def fr_T (M M2 : pm_M) : Prop := (∀ k, k ≠ 23 → ¬ (32 ≤ k ∧ k ≤ 36) → M2 k = M k) ∧ ∀ j, j ≠ 12 → j ≠ 13 → j ≠ 14 → M2 23 j = M 23 j
theorem fr_T.refl {M : pm_M} : fr_T M M := ⟨fun _ _ _ => rfl, fun _ _ _ _ => rfl⟩
theorem fr_T.trans {M M2 M3 : pm_M} (h : fr_T M M2) (h2 : fr_T M2 M3) : fr_T M M3 := ⟨fun k a b => (h2.1 k a b).trans (h.1 k a b), fun j a b c => (h2.2 j a b c).trans (h.2 j a b c)⟩
theorem fr_T.upj {M M2 : pm_M} {j : Nat} {v : Int32} (h : fr_T M M2) (hj : j = 12 ∨ j = 13 ∨ j = 14) : fr_T M (pm_up M2 23 j v) := ⟨fun k a b => by rw [pz_up_c a]; exact h.1 k a b, fun i a b c => by rw [pz_up_n (by omega)]; exact h.2 i a b c⟩
theorem fr_T.upc {M M2 : pm_M} {k j : Nat} {v : Int32} (h : fr_T M M2) (hk : 32 ≤ k ∧ k ≤ 36) : fr_T M (pm_up M2 k j v) := ⟨fun a q r => by rw [pz_up_c (by omega)]; exact h.1 a q r, fun i a b c => by rw [pz_up_c (by omega)]; exact h.2 i a b c⟩
theorem mx_sign_y {M : pm_M} {a0 n p : Nat} {s : Int32} (h12 : M 23 12 = nI (a0 + p)) (hp : p < n) (ha : a0 + n ≤ 240) (hc : M 26 (a0 + p) = s) : pm_Rc pm_X0 86 (0, [some (pm_r 23), some (pm_i (nI (a0 + n))), some (pm_i s)], [], M) = some (some (pm_i (nI 1)), pm_up M 23 12 (nI (a0 + p + 1))) := by
  simp only [rx_86_0, rx_86_1, rx_86_4, rx_86_5, rx_86_8, rx_86_9, rx_86_12, rx_86_13, rx_86_16, rx_86_17, rx_86_18, rx_86_21, rx_86_22_0, rx_86_22_1, rx_86_23, rx_86_24, rx_86_25, rx_86_28, rx_86_29, rx_86_30, rx_86_33, rx_86_34_0, rx_86_34_1, h12, pz_lt (show a0 + p < 2147483648 by omega) (show a0 + n < 2147483648 by omega), show a0 + p < a0 + n by omega, if_true, pz_ald_26 (show a0 + p < 240 by omega), pz_bind, hc, pz_add]
theorem mx_sign_n {M : pm_M} {a0 n p : Nat} {s : Int32} (h12 : M 23 12 = nI (a0 + p)) (ha : a0 + n ≤ 240) (hb : p = n ∨ (p < n ∧ ¬ M 26 (a0 + p) = s)) : pm_Rc pm_X0 86 (0, [some (pm_r 23), some (pm_i (nI (a0 + n))), some (pm_i s)], [], M) = some (some (pm_i (nI 0)), M) := by
  rcases hb with rfl | ⟨hp, hb⟩
  · simp only [rx_86_0, rx_86_1, rx_86_4, rx_86_5, rx_86_8, rx_86_9, rx_86_12, rx_86_13, rx_86_16, rx_86_17, rx_86_18, rx_86_21, rx_86_22_0, rx_86_22_1, rx_86_23, rx_86_24, rx_86_25, rx_86_28, rx_86_29, rx_86_30, rx_86_33, rx_86_34_0, rx_86_34_1, h12, pz_lt (show a0 + p < 2147483648 by omega) (show a0 + p < 2147483648 by omega), Nat.lt_irrefl, if_false]
  · simp only [rx_86_0, rx_86_1, rx_86_4, rx_86_5, rx_86_8, rx_86_9, rx_86_12, rx_86_13, rx_86_16, rx_86_17, rx_86_18, rx_86_21, rx_86_22_0, rx_86_22_1, rx_86_23, rx_86_24, rx_86_25, rx_86_28, rx_86_29, rx_86_30, rx_86_33, rx_86_34_0, rx_86_34_1, h12, pz_lt (show a0 + p < 2147483648 by omega) (show a0 + n < 2147483648 by omega), show a0 + p < a0 + n by omega, if_true, pz_ald_26 (show a0 + p < 240 by omega), pz_bind, hb, if_false]
theorem mx_dig_y {M : pm_M} {a0 n p lo hi v : Nat} (h12 : M 23 12 = nI (a0 + p)) (hp : p < n) (ha : a0 + n ≤ 240) (hc : M 26 (a0 + p) = nI (48 + v)) (h1 : lo ≤ v) (h2 : v ≤ hi) (h3 : hi ≤ 9) : pm_Rc pm_X0 87 (0, [some (pm_r 23), some (pm_i (nI (a0 + n))), some (pm_i (nI lo)), some (pm_i (nI hi))], [], M) = some (some (pm_i (nI v)), pm_up M 23 12 (nI (a0 + p + 1))) := by
  simp only [rx_87_0, rx_87_1, rx_87_4, rx_87_5, rx_87_8, rx_87_9, rx_87_12, rx_87_13, rx_87_16, rx_87_17, rx_87_19, rx_87_20, rx_87_21, rx_87_23, rx_87_24, rx_87_25, rx_87_28, rx_87_31, rx_87_33, rx_87_34, rx_87_35, rx_87_36, rx_87_39, rx_87_40, rx_87_41, rx_87_44, rx_87_45, rx_87_48, rx_87_49, rx_87_52, rx_87_53, rx_87_54, rx_87_55, rx_87_57, rx_87_58, h12, pz_lt (show a0 + p < 2147483648 by omega) (show a0 + n < 2147483648 by omega), show a0 + p < a0 + n by omega, if_true, pz_ald_26 (show a0 + p < 240 by omega), pz_bind, hc, pz_add, mx_within_y (show 48 + lo ≤ 48 + v by omega) (show 48 + v ≤ 48 + hi by omega) (show 48 + hi < 1000 by omega), pz_psh, pz_n10, if_false, pz_up_s, pz_up_c (show (26 : Nat) ≠ 23 by decide), pz_sub (show 1 ≤ a0 + p + 1 by omega), Nat.add_sub_cancel, pz_sub (show 48 ≤ 48 + v by omega), Nat.add_sub_cancel_left]
theorem mx_dig_n {M : pm_M} {a0 n p lo hi : Nat} (h12 : M 23 12 = nI (a0 + p)) (ha : a0 + n ≤ 240) (h3 : hi ≤ 9) (hlo : lo ≤ hi) (hb : p = n ∨ (p < n ∧ ¬ ∃ v, lo ≤ v ∧ v ≤ hi ∧ M 26 (a0 + p) = nI (48 + v))) : pm_Rc pm_X0 87 (0, [some (pm_r 23), some (pm_i (nI (a0 + n))), some (pm_i (nI lo)), some (pm_i (nI hi))], [], M) = some (some (pm_i (-9)), M) := by
  rcases hb with rfl | ⟨hp, hb⟩
  · simp only [rx_87_0, rx_87_1, rx_87_4, rx_87_5, rx_87_8, rx_87_9, rx_87_12, rx_87_13, rx_87_16, rx_87_17, rx_87_19, rx_87_20, rx_87_21, rx_87_23, rx_87_24, rx_87_25, rx_87_28, rx_87_31, rx_87_33, rx_87_34, rx_87_35, rx_87_36, rx_87_39, rx_87_40, rx_87_41, rx_87_44, rx_87_45, rx_87_48, rx_87_49, rx_87_52, rx_87_53, rx_87_54, rx_87_55, rx_87_57, rx_87_58, h12, pz_lt (show a0 + p < 2147483648 by omega) (show a0 + p < 2147483648 by omega), Nat.lt_irrefl, if_false]
  · have hw : (!decide (M 26 (a0 + p) < nI (48 + lo)) && !decide (nI (48 + hi) < M 26 (a0 + p))) = false := by
      rcases pz_any (M 26 (a0 + p)) (48 + hi + 1) (by omega) with ho | ⟨u, hu, e⟩
      · rcases ho with ho | ⟨ho, ho2⟩
        · have h9 : M 26 (a0 + p) < nI (48 + lo) := by
            rw [Int32.lt_iff_toInt_lt] at ho ⊢
            rw [nI_toInt (by omega)]
            simp at ho
            omega
          simp [h9]
        · have h9 := pz_ge1 (n := 48 + hi) (by omega) ho2
          simp [h9]
      · by_cases q : u < 48 + lo
        · have h9 : M 26 (a0 + p) < nI (48 + lo) := by
            rw [e, pz_lt (by omega) (by omega)]
            exact q
          simp [h9]
        · exact absurd ⟨u - 48, by omega, by omega, by rw [e, show 48 + (u - 48) = u by omega]⟩ hb
    simp only [rx_87_0, rx_87_1, rx_87_4, rx_87_5, rx_87_8, rx_87_9, rx_87_12, rx_87_13, rx_87_16, rx_87_17, rx_87_19, rx_87_20, rx_87_21, rx_87_23, rx_87_24, rx_87_25, rx_87_28, rx_87_31, rx_87_33, rx_87_34, rx_87_35, rx_87_36, rx_87_39, rx_87_40, rx_87_41, rx_87_44, rx_87_45, rx_87_48, rx_87_49, rx_87_52, rx_87_53, rx_87_54, rx_87_55, rx_87_57, rx_87_58, h12, pz_lt (show a0 + p < 2147483648 by omega) (show a0 + n < 2147483648 by omega), show a0 + p < a0 + n by omega, if_true, pz_ald_26 (show a0 + p < 240 by omega), pz_bind, pz_add, mx_within_r, hw, Bool.false_eq_true, if_false, pz_psh, pz_n00]
/-- digits of a text -/
def sp_dg (c : Nat → Int32) (p : Nat) : Nat := (c p - nI 48).toNatClampNeg
theorem sp_dg_of {c : Nat → Int32} {p : Nat} (h : sp_is 3 (c p)) : sp_dg c p ≤ 9 ∧ c p = nI (48 + sp_dg c p) := by
  obtain ⟨v, hv, e⟩ := sp_is_3.mp h
  have e2 : sp_dg c p = v := by
    unfold sp_dg
    rw [e, pz_sub (by omega), Nat.add_sub_cancel_left, nI_clamp (by omega)]
  rw [e2]
  exact ⟨hv, e⟩
theorem sp_no3 {x : Int32} (h : ¬ sp_is 3 x) : ¬ ∃ v, 0 ≤ v ∧ v ≤ 9 ∧ x = nI (48 + v) := fun ⟨v, _, hv, e⟩ => h (sp_is_3.mpr ⟨v, hv, e⟩)
def sp_kd (x : Int32) : Nat := if x = nI 99 then 1 else if x = nI 102 then 2 else 0
theorem sp_kd_le (x : Int32) : sp_kd x ≤ 2 := by
  unfold sp_kd
  split
  · omega
  · split <;> omega
/-- a field's two digits -/
theorem mx_field_y {M : pm_M} {a0 n p f : Nat} {c : Nat → Int32} (hcc : ∀ t, t < n → M 26 (a0 + t) = c t) (h12 : M 23 12 = nI (a0 + p)) (ha : a0 + n ≤ 240) (hp : p + 1 < n) (hf : f < 6) (g1 : sp_is 3 (c p)) (g2 : sp_is 3 (c (p + 1))) :
    ∃ M2, pm_Rc pm_X0 88 (0, [some (pm_r 23), some (pm_i (nI (a0 + n))), some (pm_i (nI f))], [], M) = some (some (pm_i (nI 1)), M2) ∧ fr_T M M2 ∧ M2 23 12 = nI (a0 + (p + 2)) ∧ M2 23 13 = M 23 13 ∧ M2 32 f = nI (sp_dg c p) ∧ M2 33 f = nI (sp_dg c (p + 1)) ∧ ∀ g, g ≠ f → M2 32 g = M 32 g ∧ M2 33 g = M 33 g := by
  obtain ⟨d1, e1⟩ := sp_dg_of g1
  obtain ⟨d2, e2⟩ := sp_dg_of g2
  have r1 := mx_dig_y (lo := 0) (hi := 9) h12 (show p < n by omega) ha ((hcc p (by omega)).trans e1) (by omega) d1 (by omega)
  obtain ⟨M1, eM1⟩ : ∃ M1, M1 = pm_up (pm_up M 23 12 (nI (a0 + p + 1))) 32 f (nI (sp_dg c p)) := ⟨_, rfl⟩
  have r2 := mx_dig_y (M := M1) (a0 := a0) (n := n) (p := p + 1) (v := sp_dg c (p + 1)) (lo := 0) (hi := 9) (by rw [eM1, pz_up_c (by decide), pz_up_s]; rfl) hp ha (by rw [eM1, pz_up_c (by decide), pz_up_c (by decide), hcc (p + 1) hp]; exact e2) (by omega) d2 (by omega)
  refine ⟨pm_up (pm_up M1 23 12 (nI (a0 + (p + 1) + 1))) 33 f (nI (sp_dg c (p + 1))), ?_, ?_, ?_, ?_, ?_, ?_, ?_⟩
  · simp only [rx_88_0, rx_88_1, rx_88_4, rx_88_5, rx_88_6, rx_88_7, rx_88_8, rx_88_10, rx_88_13, rx_88_14, rx_88_15, rx_88_18, rx_88_19, rx_88_20, rx_88_22, rx_88_25, rx_88_26_0, rx_88_26_1, rx_88_27, rx_88_28, rx_88_31, rx_88_32, rx_88_33, rx_88_34, rx_88_35, rx_88_37, rx_88_40, rx_88_41, rx_88_42, rx_88_45, rx_88_46, rx_88_47, rx_88_49, rx_88_52, rx_88_53, rx_88_56, rx_88_57_0, rx_88_57_1, r1, pz_bind, pz_psh, pz_ast_32 hf, pz_ald_32 hf, pz_up_s, pz_m9 (show sp_dg c p < 1000 by omega), if_false]
    rw [← eM1]
    simp only [rx_88_40, rx_88_41, rx_88_42, rx_88_45, rx_88_46, rx_88_47, rx_88_49, rx_88_52, rx_88_53, rx_88_56, rx_88_57_0, rx_88_57_1, r2, pz_bind, pz_psh, pz_ast_33 hf, pz_ald_33 hf, pz_up_s, pz_m9 (show sp_dg c (p + 1) < 1000 by omega), if_false]
  · rw [eM1]
    exact (((fr_T.refl.upj (by decide)).upc (by decide)).upj (by decide)).upc (by decide)
  · rw [pz_up_c (by decide), pz_up_s]
    rfl
  · rw [eM1, pz_up_c (by decide), pz_up_n (by decide), pz_up_c (by decide), pz_up_n (by decide)]
  · rw [eM1, pz_up_c (by decide), pz_up_c (by decide), pz_up_s]
  · rw [pz_up_s]
  · intro g hg
    rw [eM1, pz_up_c (by decide), pz_up_c (by decide), pz_up_n hg, pz_up_c (by decide), pz_up_n hg, pz_up_c (by decide), pz_up_c (by decide), pz_up_c (by decide)]
    exact ⟨rfl, rfl⟩
theorem mx_field_n {M : pm_M} {a0 n p q f : Nat} {c : Nat → Int32} (hcc : ∀ t, t < n → M 26 (a0 + t) = c t) (h12 : M 23 12 = nI (a0 + p)) (ha : a0 + n ≤ 240) (hf : f < 6) (hq : q = p ∨ (q = p + 1 ∧ p < n ∧ sp_is 3 (c p))) (hb : q = n ∨ (q < n ∧ ¬ sp_is 3 (c q))) :
    ∃ M2, pm_Rc pm_X0 88 (0, [some (pm_r 23), some (pm_i (nI (a0 + n))), some (pm_i (nI f))], [], M) = some (some (pm_i (nI 0)), M2) ∧ fr_T M M2 ∧ M2 23 12 = nI (a0 + q) := by
  rcases hq with rfl | ⟨rfl, hp, g1⟩
  · have r1 := mx_dig_n (lo := 0) (hi := 9) h12 ha (by omega) (by omega) (by
      rcases hb with hb | ⟨hb, hb2⟩
      · exact Or.inl hb
      · refine Or.inr ⟨hb, ?_⟩
        rw [hcc q hb]
        exact sp_no3 hb2)
    refine ⟨pm_up M 32 f (-9), ?_, fr_T.refl.upc (by decide), by rw [pz_up_c (by decide)]; exact h12⟩
    simp only [rx_88_0, rx_88_1, rx_88_4, rx_88_5, rx_88_6, rx_88_7, rx_88_8, rx_88_10, rx_88_13, rx_88_14, rx_88_15, rx_88_18, rx_88_19, rx_88_20, rx_88_22, rx_88_25, rx_88_26_0, rx_88_26_1, rx_88_27, rx_88_28, rx_88_31, rx_88_32, rx_88_33, rx_88_34, rx_88_35, rx_88_37, rx_88_40, rx_88_41, rx_88_42, rx_88_45, rx_88_46, rx_88_47, rx_88_49, rx_88_52, rx_88_53, rx_88_56, rx_88_57_0, rx_88_57_1, r1, pz_bind, pz_psh, pz_ast_32 hf, pz_ald_32 hf, pz_up_s, if_true]
  · obtain ⟨d1, e1⟩ := sp_dg_of g1
    have r1 := mx_dig_y (lo := 0) (hi := 9) h12 hp ha ((hcc p hp).trans e1) (by omega) d1 (by omega)
    obtain ⟨M1, eM1⟩ : ∃ M1, M1 = pm_up (pm_up M 23 12 (nI (a0 + p + 1))) 32 f (nI (sp_dg c p)) := ⟨_, rfl⟩
    have h12b : M1 23 12 = nI (a0 + (p + 1)) := by
      rw [eM1, pz_up_c (by decide), pz_up_s]
      rfl
    have r2 := mx_dig_n (M := M1) (a0 := a0) (n := n) (p := p + 1) (lo := 0) (hi := 9) h12b ha (by omega) (by omega) (by
      rcases hb with hb | ⟨hb, hb2⟩
      · exact Or.inl hb
      · refine Or.inr ⟨hb, ?_⟩
        rw [eM1, pz_up_c (by decide), pz_up_c (by decide), hcc (p + 1) hb]
        exact sp_no3 hb2)
    refine ⟨pm_up M1 33 f (-9), ?_, ?_, by rw [pz_up_c (by decide)]; exact h12b⟩
    · simp only [rx_88_0, rx_88_1, rx_88_4, rx_88_5, rx_88_6, rx_88_7, rx_88_8, rx_88_10, rx_88_13, rx_88_14, rx_88_15, rx_88_18, rx_88_19, rx_88_20, rx_88_22, rx_88_25, rx_88_26_0, rx_88_26_1, rx_88_27, rx_88_28, rx_88_31, rx_88_32, rx_88_33, rx_88_34, rx_88_35, rx_88_37, rx_88_40, rx_88_41, rx_88_42, rx_88_45, rx_88_46, rx_88_47, rx_88_49, rx_88_52, rx_88_53, rx_88_56, rx_88_57_0, rx_88_57_1, r1, pz_bind, pz_psh, pz_ast_32 hf, pz_ald_32 hf, pz_up_s, pz_m9 (show sp_dg c p < 1000 by omega), if_false]
      rw [← eM1]
      simp only [rx_88_40, rx_88_41, rx_88_42, rx_88_45, rx_88_46, rx_88_47, rx_88_49, rx_88_52, rx_88_53, rx_88_56, rx_88_57_0, rx_88_57_1, r2, pz_bind, pz_psh, pz_ast_33 hf, pz_ald_33 hf, pz_up_s, if_true]
    · rw [eM1]
      exact ((fr_T.refl.upj (by decide)).upc (by decide)).upc (by decide)
/-- a post's letter and digit -/
theorem mx_post_k {M : pm_M} {a0 n p i : Nat} {c : Nat → Int32} (hcc : ∀ t, t < n → M 26 (a0 + t) = c t) (h12 : M 23 12 = nI (a0 + p)) (ha : a0 + n ≤ 240) (hi : i < 5) (hp : p < n) (g1 : sp_is 5 (c p)) :
    pm_Rc pm_X0 89 (0, [some (pm_r 23), some (pm_i (nI (a0 + n))), some (pm_i (nI i)), none], [], M) = pm_Rc pm_X0 89 (83, [some (pm_r 23), some (pm_i (nI (a0 + n))), some (pm_i (nI i)), some (pm_i (c p))], [], pm_up (pm_up M 34 i (nI (sp_kd (c p)))) 23 12 (nI (a0 + (p + 1)))) := by
  unfold sp_kd
  rcases sp_is_5.mp g1 with h | h | h <;> simp only [rx_89_0, rx_89_1, rx_89_4, rx_89_5, rx_89_8, rx_89_9, rx_89_12, rx_89_13, rx_89_16, rx_89_17, rx_89_20, rx_89_21, rx_89_22, rx_89_23, rx_89_26, rx_89_27, rx_89_28, rx_89_30, rx_89_33, rx_89_34, rx_89_37, rx_89_38, rx_89_40, rx_89_43, rx_89_44, rx_89_47, rx_89_48, rx_89_50, rx_89_53, rx_89_54, rx_89_57, rx_89_59, rx_89_60, rx_89_61, rx_89_64, rx_89_65, rx_89_66, rx_89_68, rx_89_71, rx_89_72_0, rx_89_72_1, rx_89_73, rx_89_74, rx_89_75, rx_89_78, rx_89_79, rx_89_80, h12, pz_lt (show a0 + p < 2147483648 by omega) (show a0 + n < 2147483648 by omega), show a0 + p < a0 + n by omega, if_true, pz_ald_26 (show a0 + p < 240 by omega), hcc p hp, h, pz_bind, pz_nlz_i, pz_nlz_n, if_false, pz_k1, pz_k2, pz_k3, show (nI 99 = nI 112) = False by simp [show ¬ (nI 99 = nI 112) by decide], show (nI 102 = nI 112) = False by simp [show ¬ (nI 102 = nI 112) by decide], pz_ast_34 hi, pz_ald_34 hi, pz_up_s, pz_n09, pz_n19, pz_n29, pz_up_c (show (23 : Nat) ≠ 34 by decide), pz_add, Nat.add_assoc]
theorem mx_post_y {M : pm_M} {a0 n p i : Nat} {c : Nat → Int32} (hcc : ∀ t, t < n → M 26 (a0 + t) = c t) (h12 : M 23 12 = nI (a0 + p)) (ha : a0 + n ≤ 240) (hp : p + 1 < n) (hi : i < 5) (g1 : sp_is 5 (c p)) (g2 : sp_is 3 (c (p + 1))) :
    ∃ M2, pm_Rc pm_X0 89 (0, [some (pm_r 23), some (pm_i (nI (a0 + n))), some (pm_i (nI i)), none], [], M) = some (some (pm_i (nI 1)), M2) ∧ fr_T M M2 ∧ M2 23 12 = nI (a0 + (p + 2)) ∧ M2 23 13 = M 23 13 ∧ M2 34 i = nI (sp_kd (c p)) ∧ M2 35 i = nI (sp_dg c (p + 1)) ∧ (∀ g, g ≠ i → M2 34 g = M 34 g ∧ M2 35 g = M 35 g) ∧ M2 32 = M 32 ∧ M2 33 = M 33 := by
  obtain ⟨d2, e2⟩ := sp_dg_of g2
  have r1 := mx_post_k hcc h12 ha hi (by omega) g1
  obtain ⟨M1, eM1⟩ : ∃ M1, M1 = pm_up (pm_up M 34 i (nI (sp_kd (c p)))) 23 12 (nI (a0 + (p + 1))) := ⟨_, rfl⟩
  rw [← eM1] at r1
  have r2 := mx_dig_y (M := M1) (a0 := a0) (n := n) (p := p + 1) (v := sp_dg c (p + 1)) (lo := 0) (hi := 9) (by rw [eM1, pz_up_s]) hp ha (by rw [eM1, pz_up_c (by decide), pz_up_c (by decide), hcc (p + 1) hp]; exact e2) (by omega) d2 (by omega)
  refine ⟨pm_up (pm_up M1 23 12 (nI (a0 + (p + 1) + 1))) 35 i (nI (sp_dg c (p + 1))), ?_, ?_, ?_, ?_, ?_, ?_, ?_, ?_, ?_⟩
  · rw [r1]
    simp only [rx_89_83, rx_89_84, rx_89_87, rx_89_88, rx_89_89, rx_89_90, rx_89_91, rx_89_93, rx_89_96, rx_89_97, rx_89_98, rx_89_101, rx_89_102, rx_89_103, rx_89_105, rx_89_108, rx_89_109, rx_89_112, rx_89_113_0, rx_89_113_1, r2, pz_bind, pz_psh, pz_ast_35 hi, pz_ald_35 hi, pz_up_s, pz_m9 (show sp_dg c (p + 1) < 1000 by omega), if_false]
  · rw [eM1]
    exact (((fr_T.refl.upc (by decide)).upj (by decide)).upj (by decide)).upc (by decide)
  · rw [pz_up_c (by decide), pz_up_s]
    rfl
  · rw [eM1, pz_up_c (by decide), pz_up_n (by decide), pz_up_n (by decide), pz_up_c (by decide)]
  · rw [eM1, pz_up_c (by decide), pz_up_c (by decide), pz_up_c (by decide), pz_up_s]
  · rw [pz_up_s]
  · intro g hg
    rw [eM1, pz_up_c (by decide), pz_up_c (by decide), pz_up_c (by decide), pz_up_n hg, pz_up_n hg, pz_up_c (by decide), pz_up_c (by decide), pz_up_c (by decide)]
    exact ⟨rfl, rfl⟩
  · rw [eM1, pz_up_c (by decide), pz_up_c (by decide), pz_up_c (by decide), pz_up_c (by decide)]
  · rw [eM1, pz_up_c (by decide), pz_up_c (by decide), pz_up_c (by decide), pz_up_c (by decide)]
theorem mx_post_n {M : pm_M} {a0 n p q i : Nat} {c : Nat → Int32} (hcc : ∀ t, t < n → M 26 (a0 + t) = c t) (h12 : M 23 12 = nI (a0 + p)) (ha : a0 + n ≤ 240) (hi : i < 5) (hq : (q = p ∧ (q = n ∨ (q < n ∧ ¬ sp_is 5 (c q)))) ∨ (q = p + 1 ∧ p < n ∧ sp_is 5 (c p) ∧ (q = n ∨ (q < n ∧ ¬ sp_is 3 (c q))))) :
    ∃ M2, pm_Rc pm_X0 89 (0, [some (pm_r 23), some (pm_i (nI (a0 + n))), some (pm_i (nI i)), none], [], M) = some (some (pm_i (nI 0)), M2) ∧ fr_T M M2 ∧ M2 23 12 = nI (a0 + q) := by
  rcases hq with ⟨rfl, hb⟩ | ⟨rfl, hp, g1, hb⟩
  · refine ⟨pm_up M 34 i (-9), ?_, fr_T.refl.upc (by decide), by rw [pz_up_c (by decide)]; exact h12⟩
    rcases hb with rfl | ⟨hb, hb2⟩
    · simp only [rx_89_0, rx_89_1, rx_89_4, rx_89_5, rx_89_8, rx_89_9, rx_89_12, rx_89_13, rx_89_16, rx_89_17, rx_89_20, rx_89_21, rx_89_22, rx_89_23, rx_89_26, rx_89_27, rx_89_28, rx_89_30, rx_89_33, rx_89_34, rx_89_37, rx_89_38, rx_89_40, rx_89_43, rx_89_44, rx_89_47, rx_89_48, rx_89_50, rx_89_53, rx_89_54, rx_89_57, rx_89_59, rx_89_60, rx_89_61, rx_89_64, rx_89_65, rx_89_66, rx_89_68, rx_89_71, rx_89_72_0, rx_89_72_1, rx_89_73, rx_89_74, rx_89_75, rx_89_78, rx_89_79, rx_89_80, h12, pz_lt (show a0 + q < 2147483648 by omega) (show a0 + q < 2147483648 by omega), Nat.lt_irrefl, if_false, pz_nlz_i, pz_nlz_n, show (nI 0 = nI 112) = False by simp [show ¬ (nI 0 = nI 112) by decide], show (nI 0 = nI 99) = False by simp [show ¬ (nI 0 = nI 99) by decide], show (nI 0 = nI 102) = False by simp [show ¬ (nI 0 = nI 102) by decide], pz_ast_34 hi, pz_ald_34 hi, pz_bind, pz_up_s, if_true]
    · have k1 : ¬ c q = nI 99 := fun h => hb2 (sp_is_5.mpr (Or.inl h))
      have k2 : ¬ c q = nI 102 := fun h => hb2 (sp_is_5.mpr (Or.inr (Or.inl h)))
      have k3 : ¬ c q = nI 112 := fun h => hb2 (sp_is_5.mpr (Or.inr (Or.inr h)))
      simp only [rx_89_0, rx_89_1, rx_89_4, rx_89_5, rx_89_8, rx_89_9, rx_89_12, rx_89_13, rx_89_16, rx_89_17, rx_89_20, rx_89_21, rx_89_22, rx_89_23, rx_89_26, rx_89_27, rx_89_28, rx_89_30, rx_89_33, rx_89_34, rx_89_37, rx_89_38, rx_89_40, rx_89_43, rx_89_44, rx_89_47, rx_89_48, rx_89_50, rx_89_53, rx_89_54, rx_89_57, rx_89_59, rx_89_60, rx_89_61, rx_89_64, rx_89_65, rx_89_66, rx_89_68, rx_89_71, rx_89_72_0, rx_89_72_1, rx_89_73, rx_89_74, rx_89_75, rx_89_78, rx_89_79, rx_89_80, h12, pz_lt (show a0 + q < 2147483648 by omega) (show a0 + n < 2147483648 by omega), show a0 + q < a0 + n by omega, if_true, if_false, pz_ald_26 (show a0 + q < 240 by omega), hcc q hb, pz_nlz_i, pz_nlz_n, k1, k2, k3, pz_ast_34 hi, pz_ald_34 hi, pz_bind, pz_up_s]
  · have r1 := mx_post_k hcc h12 ha hi hp g1
    obtain ⟨M1, eM1⟩ : ∃ M1, M1 = pm_up (pm_up M 34 i (nI (sp_kd (c p)))) 23 12 (nI (a0 + (p + 1))) := ⟨_, rfl⟩
    rw [← eM1] at r1
    have h12b : M1 23 12 = nI (a0 + (p + 1)) := by rw [eM1, pz_up_s]
    have r2 := mx_dig_n (M := M1) (a0 := a0) (n := n) (p := p + 1) (lo := 0) (hi := 9) h12b ha (by omega) (by omega) (by
      rcases hb with hb | ⟨hb, hb2⟩
      · exact Or.inl hb
      · refine Or.inr ⟨hb, ?_⟩
        rw [eM1, pz_up_c (by decide), pz_up_c (by decide), hcc (p + 1) hb]
        exact sp_no3 hb2)
    refine ⟨pm_up M1 35 i (-9), ?_, ?_, by rw [pz_up_c (by decide)]; exact h12b⟩
    · rw [r1]
      simp only [rx_89_83, rx_89_84, rx_89_87, rx_89_88, rx_89_89, rx_89_90, rx_89_91, rx_89_93, rx_89_96, rx_89_97, rx_89_98, rx_89_101, rx_89_102, rx_89_103, rx_89_105, rx_89_108, rx_89_109, rx_89_112, rx_89_113_0, rx_89_113_1, r2, pz_bind, pz_psh, pz_ast_35 hi, pz_ald_35 hi, pz_up_s, if_true]
    · rw [eM1]
      exact ((fr_T.refl.upc (by decide)).upj (by decide)).upc (by decide)
