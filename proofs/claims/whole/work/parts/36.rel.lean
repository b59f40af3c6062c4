/-! What ties the class to the reference, and what keeps it. -/
abbrev iv_D : Type := Nat → Nat → Nat
def iv_up (d : iv_D) (k j v : Nat) : iv_D := fun a b => if a = k ∧ b = j then v else d a b
theorem iv_up_s {d : iv_D} {k j v : Nat} : iv_up d k j v k j = v := by simp [iv_up]
theorem iv_up_c {d : iv_D} {k j v a : Nat} (h : a ≠ k) : iv_up d k j v a = d a := by
  funext b
  simp [iv_up, h]
theorem iv_up_i {d : iv_D} {k j v b : Nat} : iv_up d k j v k b = if b = j then v else d k b := by simp [iv_up]
def ix_R (M : pm_M) (d : iv_D) : Prop := M 4 0 = nI (d 0 2) ∧ ∀ q, q < d 0 2 → M 18 q = nI (d 6 q) ∧ M 19 q = nI (d 7 q) ∧ M 20 q = nI (d 8 q)
def iy_R (M : pm_M) (d : iv_D) : Prop := M 23 26 = nI (d 0 2) ∧ ∀ q, q < d 0 2 → M 39 q = nI (d 6 q) ∧ M 40 q = nI (d 7 q) ∧ M 41 q = nI (d 8 q)
def ix_S (M : pm_M) (d : iv_D) (e : pm_M) : Prop := ∀ k, k < 4 → M 11 k = nI (d 9 k) - nI 1 ∧ (d 9 k ≠ 0 → M 12 k = nI (d 10 k) ∧ ∀ i, i < d 10 k → M (7 + k) i = e (1 + k) i)
def iy_S (M : pm_M) (d : iv_D) (e : pm_M) : Prop := ∀ k, k < 4 → M 24 k = (if d 9 k = 0 then -9 else nI (d 9 k - 1)) ∧ (d 9 k ≠ 0 → M 25 k = nI (d 10 k) ∧ ∀ i, i < d 10 k → M 26 (60 * k + i) = e (1 + k) i)
def ix (M : pm_M) (d : iv_D) (e : pm_M) : Prop := iv_L M (d 0 0) (d 0 1) (d 1) (d 2) (d 3) (d 4) (d 5) ∧ ix_R M d ∧ (M 0 5 = e 0 0 ∧ M 0 6 = e 0 1) ∧ ix_S M d e
def iy (M : pm_M) (d : iv_D) (e : pm_M) : Prop := iv_N M (d 0 0) (d 0 1) (d 1) (d 2) (d 3) (d 4) (d 5) ∧ iy_R M d ∧ (M 23 1 = e 0 0 ∧ M 23 0 = e 0 1 ∧ M 23 25 = nI 0) ∧ iy_S M d e
def iv_G (d : iv_D) : Prop := iv_B (d 0 0) (d 0 1) (d 1) (d 2) (d 3) (d 4) (d 5) ∧ d 0 2 ≤ 8 ∧ (∀ q, q < d 0 2 → d 6 q < d 0 0 ∧ d 7 q ≤ d 0 1 ∧ d 8 q ≤ 99) ∧ ∀ k, d 9 k ≤ 3 ∧ d 10 k ≤ 60
def iv (M : pm_M) : Prop := ∃ (d : iv_D) (e : pm_M), iv_G d ∧ ix M d e ∧ iy M d e
/-- one call of both: the same answer, and they stay tied -/
def op_ok (yx ym : Nat) (Lx Lm : pm_L) : Prop := ∀ M : pm_M, iv M → ∃ (v : pm_V) (M1 M2 : pm_M), pm_Rc pm_X0 yx (0, Lx, [], M) = some (some v, M1) ∧ pm_Rc pm_X0 ym (0, Lm, [], M1) = some (some v, M2) ∧ iv M2
theorem ix_fr {M M2 : pm_M} {d : iv_D} {e : pm_M} (h : ix M d e) (hc : ∀ k, k < 23 → k ≠ 3 → k ≠ 5 → k ≠ 21 → k ≠ 22 → M2 k = M k) : ix M2 d e := by
  obtain ⟨h1, h2, h3, h4⟩ := h
  refine ⟨?_, ?_, ?_, ?_⟩
  · unfold iv_L at h1 ⊢
    rw [hc 2 (by decide) (by decide) (by decide) (by decide) (by decide), hc 13 (by decide) (by decide) (by decide) (by decide) (by decide), hc 14 (by decide) (by decide) (by decide) (by decide) (by decide), hc 15 (by decide) (by decide) (by decide) (by decide) (by decide), hc 16 (by decide) (by decide) (by decide) (by decide) (by decide), hc 17 (by decide) (by decide) (by decide) (by decide) (by decide)]
    exact h1
  · unfold ix_R at h2 ⊢
    rw [hc 4 (by decide) (by decide) (by decide) (by decide) (by decide), hc 18 (by decide) (by decide) (by decide) (by decide) (by decide), hc 19 (by decide) (by decide) (by decide) (by decide) (by decide), hc 20 (by decide) (by decide) (by decide) (by decide) (by decide)]
    exact h2
  · rw [hc 0 (by decide) (by decide) (by decide) (by decide) (by decide)]
    exact h3
  · intro k hk
    have h5 := h4 k hk
    rw [hc 11 (by decide) (by decide) (by decide) (by decide) (by decide), hc 12 (by decide) (by decide) (by decide) (by decide) (by decide), hc (7 + k) (by omega) (by omega) (by omega) (by omega) (by omega)]
    exact h5
theorem iy_fr {M M2 : pm_M} {d : iv_D} {e : pm_M} (h : iy M d e) (hc : ∀ k, 23 < k → ¬ (32 ≤ k ∧ k ≤ 38) → M2 k = M k) (h23 : ∀ j, j = 0 ∨ j = 1 ∨ j = 5 ∨ j = 6 ∨ j = 25 ∨ j = 26 → M2 23 j = M 23 j) : iy M2 d e := by
  obtain ⟨h1, h2, h3, h4⟩ := h
  refine ⟨?_, ?_, ?_, ?_⟩
  · unfold iv_N at h1 ⊢
    rw [h23 5 (by decide), h23 6 (by decide), hc 27 (by decide) (by decide), hc 28 (by decide) (by decide), hc 29 (by decide) (by decide), hc 30 (by decide) (by decide), hc 31 (by decide) (by decide)]
    exact h1
  · unfold iy_R at h2 ⊢
    rw [h23 26 (by decide), hc 39 (by decide) (by decide), hc 40 (by decide) (by decide), hc 41 (by decide) (by decide)]
    exact h2
  · rw [h23 0 (by decide), h23 1 (by decide), h23 25 (by decide)]
    exact h3
  · intro k hk
    have h5 := h4 k hk
    rw [hc 24 (by decide) (by decide), hc 25 (by decide) (by decide), hc 26 (by decide) (by decide)]
    exact h5
theorem ix_S_fr {M M1 : pm_M} {d : iv_D} {e : pm_M} (h : ix M d e) (hf : fr_S M M1) : ix M1 d e := ix_fr h (fun k _ a _ b c => hf k a b c)
theorem iy_S_fr {M M1 : pm_M} {d : iv_D} {e : pm_M} (h : iy M d e) (hf : fr_S M M1) : iy M1 d e := iy_fr h (fun k a _ => hf k (by omega) (by omega) (by omega)) (fun j _ => by rw [hf 23 (by decide) (by decide) (by decide)])
theorem ix_Z_fr {M M1 : pm_M} {d : iv_D} {e : pm_M} (h : ix M d e) (hf : fr_Z M M1) : ix M1 d e := ix_fr h (fun k a _ _ _ _ => hf.1 k (by omega) (by omega) (by omega))
theorem iy_Z_fr {M M1 : pm_M} {d : iv_D} {e : pm_M} (h : iy M d e) (hf : fr_Z M M1) : iy M1 d e := iy_fr h (fun k a b => hf.1 k (by omega) (by omega) (by omega)) (fun j hj => hf.2 j (by omega) (by omega) (by omega))
theorem iv_G_fr {d : iv_D} (h : iv_G d) : iv_G d := h
/-- faults -/
theorem ix_fault {M : pm_M} {d : iv_D} {e : pm_M} {v : Int32} (h : ix M d e) : ix (pm_up M 0 6 v) d (pm_up e 0 1 v) := by
  obtain ⟨h1, h2, h3, h4⟩ := h
  refine ⟨?_, ?_, ?_, ?_⟩
  · unfold iv_L at h1 ⊢
    simp only [pz_up_c (show (2 : Nat) ≠ 0 by decide), pz_up_c (show (13 : Nat) ≠ 0 by decide), pz_up_c (show (14 : Nat) ≠ 0 by decide), pz_up_c (show (15 : Nat) ≠ 0 by decide), pz_up_c (show (16 : Nat) ≠ 0 by decide), pz_up_c (show (17 : Nat) ≠ 0 by decide)]
    exact h1
  · unfold ix_R at h2 ⊢
    simp only [pz_up_c (show (4 : Nat) ≠ 0 by decide), pz_up_c (show (18 : Nat) ≠ 0 by decide), pz_up_c (show (19 : Nat) ≠ 0 by decide), pz_up_c (show (20 : Nat) ≠ 0 by decide)]
    exact h2
  · rw [pz_up_n (by decide), pz_up_s, pz_up_n (by decide), pz_up_s]
    exact ⟨h3.1, rfl⟩
  · intro k hk
    have h5 := h4 k hk
    rw [pz_up_c (by decide), pz_up_c (by decide), pz_up_c (by omega), pz_up_c (by omega)]
    exact h5
theorem iy_fault {M : pm_M} {d : iv_D} {e : pm_M} {v : Int32} (h : iy M d e) : iy (pm_up M 23 0 v) d (pm_up e 0 1 v) := by
  obtain ⟨h1, h2, h3, h4⟩ := h
  refine ⟨?_, ?_, ?_, ?_⟩
  · unfold iv_N at h1 ⊢
    simp only [pz_up_n (show (5 : Nat) ≠ 0 by decide), pz_up_n (show (6 : Nat) ≠ 0 by decide), pz_up_c (show (27 : Nat) ≠ 23 by decide), pz_up_c (show (28 : Nat) ≠ 23 by decide), pz_up_c (show (29 : Nat) ≠ 23 by decide), pz_up_c (show (30 : Nat) ≠ 23 by decide), pz_up_c (show (31 : Nat) ≠ 23 by decide)]
    exact h1
  · unfold iy_R at h2 ⊢
    simp only [pz_up_n (show (26 : Nat) ≠ 0 by decide), pz_up_c (show (39 : Nat) ≠ 23 by decide), pz_up_c (show (40 : Nat) ≠ 23 by decide), pz_up_c (show (41 : Nat) ≠ 23 by decide)]
    exact h2
  · rw [pz_up_n (show (1 : Nat) ≠ 0 by decide), pz_up_s, pz_up_n (show (25 : Nat) ≠ 0 by decide)]
    simp only [pz_up_i]
    exact ⟨h3.1, rfl, h3.2.2⟩
  · intro k hk
    have h5 := h4 k hk
    rw [pz_up_c (by decide), pz_up_c (by decide), pz_up_c (by decide), pz_up_c (by omega)]
    exact h5
theorem ix_trace {M : pm_M} {d : iv_D} {e : pm_M} {v : Int32} (h : ix M d e) : ix (pm_up M 0 5 v) d (pm_up e 0 0 v) := by
  obtain ⟨h1, h2, h3, h4⟩ := h
  refine ⟨?_, ?_, ?_, ?_⟩
  · unfold iv_L at h1 ⊢
    simp only [pz_up_c (show (2 : Nat) ≠ 0 by decide), pz_up_c (show (13 : Nat) ≠ 0 by decide), pz_up_c (show (14 : Nat) ≠ 0 by decide), pz_up_c (show (15 : Nat) ≠ 0 by decide), pz_up_c (show (16 : Nat) ≠ 0 by decide), pz_up_c (show (17 : Nat) ≠ 0 by decide)]
    exact h1
  · unfold ix_R at h2 ⊢
    simp only [pz_up_c (show (4 : Nat) ≠ 0 by decide), pz_up_c (show (18 : Nat) ≠ 0 by decide), pz_up_c (show (19 : Nat) ≠ 0 by decide), pz_up_c (show (20 : Nat) ≠ 0 by decide)]
    exact h2
  · rw [pz_up_n (show (6 : Nat) ≠ 5 by decide), pz_up_s, pz_up_n (show (1 : Nat) ≠ 0 by decide), pz_up_s]
    exact ⟨rfl, h3.2⟩
  · intro k hk
    have h5 := h4 k hk
    rw [pz_up_c (by decide), pz_up_c (by decide), pz_up_c (by omega), pz_up_c (by omega)]
    exact h5
theorem iy_trace {M : pm_M} {d : iv_D} {e : pm_M} {v : Int32} (h : iy M d e) : iy (pm_up M 23 1 v) d (pm_up e 0 0 v) := by
  obtain ⟨h1, h2, h3, h4⟩ := h
  refine ⟨?_, ?_, ?_, ?_⟩
  · unfold iv_N at h1 ⊢
    simp only [pz_up_n (show (5 : Nat) ≠ 1 by decide), pz_up_n (show (6 : Nat) ≠ 1 by decide), pz_up_c (show (27 : Nat) ≠ 23 by decide), pz_up_c (show (28 : Nat) ≠ 23 by decide), pz_up_c (show (29 : Nat) ≠ 23 by decide), pz_up_c (show (30 : Nat) ≠ 23 by decide), pz_up_c (show (31 : Nat) ≠ 23 by decide)]
    exact h1
  · unfold iy_R at h2 ⊢
    simp only [pz_up_n (show (26 : Nat) ≠ 1 by decide), pz_up_c (show (39 : Nat) ≠ 23 by decide), pz_up_c (show (40 : Nat) ≠ 23 by decide), pz_up_c (show (41 : Nat) ≠ 23 by decide)]
    exact h2
  · rw [pz_up_n (show (0 : Nat) ≠ 1 by decide), pz_up_s, pz_up_n (show (25 : Nat) ≠ 1 by decide), pz_up_n (show (1 : Nat) ≠ 0 by decide), pz_up_s]
    exact ⟨rfl, h3.2⟩
  · intro k hk
    have h5 := h4 k hk
    rw [pz_up_c (by decide), pz_up_c (by decide), pz_up_c (by decide), pz_up_c (by omega)]
    exact h5
/-- a write to the other's cells is nothing to one -/
theorem ix_hi {M : pm_M} {d : iv_D} {e : pm_M} {k j : Nat} {v : Int32} (h : ix M d e) (hk : 23 ≤ k) : ix (pm_up M k j v) d e := ix_fr h (fun q a _ _ _ _ => pz_up_c (by omega))
theorem iy_lo {M : pm_M} {d : iv_D} {e : pm_M} {k j : Nat} {v : Int32} (h : iy M d e) (hk : k < 23) : iy (pm_up M k j v) d e := iy_fr h (fun q a _ => pz_up_c (by omega)) (fun q _ => by rw [pz_up_c (by omega)])
/-! numbers that are out of a row -/
def pz_out (x : Int32) (n : Nat) : Prop := x < 0 ∨ (¬ x < 0 ∧ ¬ x < nI n)
theorem pz_c0 {x : Int32} (h : x < 0) : x < nI 0 := by
  rw [nI_0]
  exact h
theorem pz_n0 {x : Int32} (h : ¬ x < 0) : ¬ x < nI 0 := by
  rw [nI_0]
  exact h
theorem mx_within_y {M : pm_M} {lo v h : Nat} (h1 : lo ≤ v) (h2 : v ≤ h) (h3 : h < 1000) : pm_Rc pm_X0 81 (0, [some (pm_i (nI v)), some (pm_i (nI lo)), some (pm_i (nI h))], [], M) = some (some (pm_i (nI 1)), M) := by
  simp only [rx_81_0, rx_81_1, rx_81_2, rx_81_5, rx_81_6, rx_81_7, rx_81_10, rx_81_11, rx_81_14, rx_81_15_0, rx_81_15_1, pz_lt (show v < 2147483648 by omega) (show lo < 2147483648 by omega), show ¬ v < lo by omega, if_false, pz_lt (show h < 2147483648 by omega) (show v < 2147483648 by omega), show ¬ h < v by omega]
theorem mx_within_n {M : pm_M} {x : Int32} {h : Nat} (h3 : h < 1000) (hx : pz_out x (h + 1)) : pm_Rc pm_X0 81 (0, [some (pm_i x), some (pm_i (nI 0)), some (pm_i (nI h))], [], M) = some (some (pm_i (nI 0)), M) := by
  rcases hx with hx | ⟨hx, hx2⟩
  · simp only [rx_81_0, rx_81_1, rx_81_2, rx_81_5, rx_81_6, rx_81_7, rx_81_10, rx_81_11, rx_81_14, rx_81_15_0, rx_81_15_1, pz_c0 hx, if_true]
  · simp only [rx_81_0, rx_81_1, rx_81_2, rx_81_5, rx_81_6, rx_81_7, rx_81_10, rx_81_11, rx_81_14, rx_81_15_0, rx_81_15_1, pz_n0 hx, if_false, pz_ge1 (show h < 2147483647 by omega) hx2, if_true]
theorem cx_isDigit_y {M : pm_M} {v : Nat} (h : v ≤ 9) : pm_Rc pm_X0 34 (0, [some (pm_i (nI v))], [], M) = some (some (pm_i (nI 1)), M) := by
  simp only [rx_34_0, rx_34_1, rx_34_4, rx_34_5, rx_34_7, rx_34_10, rx_34_11, rx_34_14, rx_34_15_0, rx_34_15_1, pz_lt0 (show v < 2147483648 by omega), if_false, pz_lt (show 9 < 2147483648 by omega) (show v < 2147483648 by omega), show ¬ 9 < v by omega]
theorem cx_isDigit_n {M : pm_M} {x : Int32} (hx : pz_out x 10) : pm_Rc pm_X0 34 (0, [some (pm_i x)], [], M) = some (some (pm_i (nI 0)), M) := by
  rcases hx with hx | ⟨hx, hx2⟩
  · simp only [rx_34_0, rx_34_1, rx_34_4, rx_34_5, rx_34_7, rx_34_10, rx_34_11, rx_34_14, rx_34_15_0, rx_34_15_1, hx, if_true]
  · simp only [rx_34_0, rx_34_1, rx_34_4, rx_34_5, rx_34_7, rx_34_10, rx_34_11, rx_34_14, rx_34_15_0, rx_34_15_1, hx, if_false, pz_ge1 (n := 9) (by omega) hx2, if_true]
theorem cx_hasPost_n {M : pm_M} {F : Nat} {x : Int32} (h : M 2 0 = nI F) (hF : F ≤ 6) (hx : pz_out x (F - 1)) : pm_Rc pm_X0 3 (0, [some (pm_r 2), some (pm_i x)], [], M) = some (some (pm_i (nI 0)), M) := by
  rcases hx with hx | ⟨hx, hx2⟩
  · simp only [rx_3_0, rx_3_1, rx_3_4, rx_3_5, rx_3_6, rx_3_9, rx_3_12, rx_3_13, rx_3_16, rx_3_17_0, rx_3_17_1, hx, if_true]
  · simp only [rx_3_0, rx_3_1, rx_3_4, rx_3_5, rx_3_6, rx_3_9, rx_3_12, rx_3_13, rx_3_16, rx_3_17_0, rx_3_17_1, hx, if_false, cx_posts h hF, pz_bind, pz_psh, hx2]
theorem cx_hasPost_y {M : pm_M} {F p : Nat} (h : M 2 0 = nI F) (hF : F ≤ 6) (hp : p < F - 1) : pm_Rc pm_X0 3 (0, [some (pm_r 2), some (pm_i (nI p))], [], M) = some (some (pm_i (nI 1)), M) := by
  rw [cx_hasPost h hF (by omega), if_pos (by omega)]
theorem mx_isField_y {M : pm_M} {F f : Nat} (h : M 23 5 = nI F) (hF : F ≤ 6) (hf : f < F) : pm_Rc pm_X0 93 (0, [some (pm_r 23), some (pm_i (nI f))], [], M) = some (some (pm_i (nI 1)), M) := by
  simp only [rx_93_0, rx_93_1, rx_93_4, rx_93_5, rx_93_6, rx_93_9, rx_93_12, rx_93_13, rx_93_16, rx_93_17_0, rx_93_17_1, h, pz_lt0 (show f < 2147483648 by omega), if_false, pz_lt (show f < 2147483648 by omega) (show F < 2147483648 by omega), hf, if_true]
theorem mx_isField_n {M : pm_M} {F : Nat} {x : Int32} (h : M 23 5 = nI F) (hx : pz_out x F) : pm_Rc pm_X0 93 (0, [some (pm_r 23), some (pm_i x)], [], M) = some (some (pm_i (nI 0)), M) := by
  rcases hx with hx | ⟨hx, hx2⟩
  · simp only [rx_93_0, rx_93_1, rx_93_4, rx_93_5, rx_93_6, rx_93_9, rx_93_12, rx_93_13, rx_93_16, rx_93_17_0, rx_93_17_1, h, hx, if_true]
  · simp only [rx_93_0, rx_93_1, rx_93_4, rx_93_5, rx_93_6, rx_93_9, rx_93_12, rx_93_13, rx_93_16, rx_93_17_0, rx_93_17_1, h, hx, hx2, if_false]
theorem mx_isDay_y {M : pm_M} {F f : Nat} (h : M 23 6 = nI F) (hF : F ≤ 8) (hf : f < F) : pm_Rc pm_X0 100 (0, [some (pm_r 23), some (pm_i (nI f))], [], M) = some (some (pm_i (nI 1)), M) := by
  simp only [rx_100_0, rx_100_1, rx_100_4, rx_100_5, rx_100_6, rx_100_9, rx_100_12, rx_100_13, rx_100_16, rx_100_17_0, rx_100_17_1, h, pz_lt0 (show f < 2147483648 by omega), if_false, pz_lt (show f < 2147483648 by omega) (show F < 2147483648 by omega), hf, if_true]
theorem mx_isDay_n {M : pm_M} {F : Nat} {x : Int32} (h : M 23 6 = nI F) (hx : pz_out x F) : pm_Rc pm_X0 100 (0, [some (pm_r 23), some (pm_i x)], [], M) = some (some (pm_i (nI 0)), M) := by
  rcases hx with hx | ⟨hx, hx2⟩
  · simp only [rx_100_0, rx_100_1, rx_100_4, rx_100_5, rx_100_6, rx_100_9, rx_100_12, rx_100_13, rx_100_16, rx_100_17_0, rx_100_17_1, h, hx, if_true]
  · simp only [rx_100_0, rx_100_1, rx_100_4, rx_100_5, rx_100_6, rx_100_9, rx_100_12, rx_100_13, rx_100_16, rx_100_17_0, rx_100_17_1, h, hx, hx2, if_false]
theorem mx_isPost_y {M : pm_M} {F p : Nat} (h : M 23 5 = nI F) (hF : F ≤ 6) (hp : p < F - 1) : pm_Rc pm_X0 95 (0, [some (pm_r 23), some (pm_i (nI p))], [], M) = some (some (pm_i (nI 1)), M) := by
  simp only [rx_95_0, rx_95_1, rx_95_4, rx_95_5, rx_95_6, rx_95_9, rx_95_10, rx_95_11, rx_95_14, rx_95_15, rx_95_18, rx_95_19_0, rx_95_19_1, h, pz_lt0 (show p < 2147483648 by omega), if_false, pz_sub (show 1 ≤ F by omega), pz_lt (show p < 2147483648 by omega) (show F - 1 < 2147483648 by omega), hp, if_true]
theorem mx_isPost_n {M : pm_M} {F : Nat} {x : Int32} (h : M 23 5 = nI F) (hx : pz_out x (F - 1)) : pm_Rc pm_X0 95 (0, [some (pm_r 23), some (pm_i x)], [], M) = some (some (pm_i (nI 0)), M) := by
  rcases hx with hx | ⟨hx, hx2⟩
  · simp only [rx_95_0, rx_95_1, rx_95_4, rx_95_5, rx_95_6, rx_95_9, rx_95_10, rx_95_11, rx_95_14, rx_95_15, rx_95_18, rx_95_19_0, rx_95_19_1, h, hx, if_true]
  · cases F with
    | zero =>
      have h9 : ¬ x < nI 0 - nI 1 := by
        rw [Int32.lt_iff_toInt_lt] at hx ⊢
        have : (nI 0 - nI 1 : Int32).toInt = -1 := by decide
        simp at hx
        omega
      simp only [rx_95_0, rx_95_1, rx_95_4, rx_95_5, rx_95_6, rx_95_9, rx_95_10, rx_95_11, rx_95_14, rx_95_15, rx_95_18, rx_95_19_0, rx_95_19_1, h, hx, h9, if_false]
    | succ F =>
      have e : nI (F + 1) - nI 1 = nI (F + 1 - 1) := pz_sub (by omega)
      simp only [rx_95_0, rx_95_1, rx_95_4, rx_95_5, rx_95_6, rx_95_9, rx_95_10, rx_95_11, rx_95_14, rx_95_15, rx_95_18, rx_95_19_0, rx_95_19_1, h, hx, hx2, e, if_false]
theorem mx_posts {M : pm_M} {F : Nat} (h : M 23 5 = nI F) (hF : F ≤ 6) : pm_Rc pm_X0 112 (0, [some (pm_r 23)], [], M) = some (some (pm_i (nI (F - 1))), M) := by
  by_cases q : F = 0
  · subst q
    simp only [rx_112_0, rx_112_1, rx_112_4, rx_112_7, rx_112_8, rx_112_11, rx_112_12, rx_112_15, rx_112_16, rx_112_17, h, pz_n00, if_true]
  · simp only [rx_112_0, rx_112_1, rx_112_4, rx_112_7, rx_112_8, rx_112_11, rx_112_12, rx_112_15, rx_112_16, rx_112_17, h, pz_eq0 (show F < 2147483648 by omega), q, if_false, pz_sub (show 1 ≤ F by omega)]
