/-! land: both sides. -/
def sp_ld (d : iv_D) (F N R : Nat) (c : Nat → Int32) : iv_D := fun a b => if a = 0 then (if b = 0 then F else if b = 1 then N else 0) else if a = 1 then (if b < F then sp_dg c (3 + 3 * b) else 0) else if a = 2 then (if b < F then sp_dg c (4 + 3 * b) else 0) else if a = 3 then (if b < F - 1 then sp_kd (c (3 + 3 * F + 3 * b)) else 0) else if a = 4 then (if b < F - 1 then sp_dg c (4 + 3 * F + 3 * b) else 0) else if a = 5 then (if b < N then sp_dg c (R + b) else 0) else d a b
theorem sp_ld_hi {d : iv_D} {F N R a : Nat} {c : Nat → Int32} (h : 5 < a) : sp_ld d F N R c a = d a := by
  funext b
  unfold sp_ld
  rw [if_neg (by omega), if_neg (by omega), if_neg (by omega), if_neg (by omega), if_neg (by omega), if_neg (by omega)]
theorem op_land (x w y z : Int32) : op_ok 31 79 [some (pm_r 0), some (pm_i x), some (pm_i w), some (pm_i y), some (pm_i z), none] [some (pm_r 23), some (pm_i x), some (pm_i w), some (pm_i y), some (pm_i z), none, none] := by
  intro M hM
  obtain ⟨d, e, hG, hX, hY⟩ := hM
  obtain ⟨hB, hn, hq, hl⟩ := id hG
  obtain ⟨xL, xR, xT, xS⟩ := id hX
  obtain ⟨yL, yR, yT, yS⟩ := id hY
  obtain ⟨x1, x2, x3, x4, x5, x6, x7⟩ := id xL
  obtain ⟨y1, y2, y3, y4, y5, y6, y7⟩ := id yL
  obtain ⟨b1, b2, b3, b4, b5, b6⟩ := id hB
  have hF : d 0 0 ≤ 6 := by omega
  have hD : d 0 1 ≤ 8 := by omega
  rcases pz_any x 4 (by omega) with hx | ⟨k, hk, rfl⟩
  · refine ⟨pm_i (-1), pm_up M 0 6 (nI 0), pm_up (pm_up M 0 6 (nI 0)) 23 0 (nI 0), ?_, ?_, iv_fault hG hX hY⟩
    · simp only [rx_31_0, rx_31_1, rx_31_2, rx_31_5, rx_31_6, rx_31_9, rx_31_12, rx_31_13, cx_isSheet_n hx, pz_bind, pz_psh, pz_n00, if_true]
    · simp only [rx_79_0, rx_79_1, rx_79_2, rx_79_5, rx_79_6, rx_79_9, rx_79_12, rx_79_13, mx_isSheet_n hx, pz_bind, pz_psh, pz_n00, if_true]
  · rcases pz_any w 3 (by omega) with hw | ⟨ln, hln, rfl⟩
    · refine ⟨pm_i (-2), pm_up M 0 6 (nI 0), pm_up (pm_up M 0 6 (nI 0)) 23 0 (nI 0), ?_, ?_, iv_fault hG hX hY⟩
      · simp only [rx_31_0, rx_31_1, rx_31_2, rx_31_5, rx_31_6, rx_31_9, rx_31_12, rx_31_13, rx_31_14, rx_31_15, rx_31_18, rx_31_21, rx_31_23, cx_isSheet_y hk, cx_isLane_n hw, pz_bind, pz_psh, pz_n10, if_false, pz_n00, if_true]
      · simp only [rx_79_0, rx_79_1, rx_79_2, rx_79_5, rx_79_6, rx_79_9, rx_79_12, rx_79_13, rx_79_14, rx_79_15, rx_79_18, rx_79_21, rx_79_23, mx_isSheet_y hk, mx_isSort_n hw, pz_bind, pz_psh, pz_n10, if_false, pz_n00, if_true]
    · obtain ⟨v, hv4, hv0, hvx, hvy⟩ := sx_against (k := k) (L := d 9 k) (s := d 10 k) (lane := ln) (x := y) (z := z) hk (hl k).1 (by omega) (hl k).2
      have hvx := hvx (pm_up M 0 6 (nI 0)) (by rw [pz_up_c (by decide)]; exact (xS k hk).1) (fun h => by rw [pz_up_c (by decide)]; exact ((xS k hk).2 h).1)
      have c0 : pm_Rc pm_X0 31 (0, [some (pm_r 0), some (pm_i (nI k)), some (pm_i (nI ln)), some (pm_i y), some (pm_i z), none], [], M) = pm_Rc pm_X0 31 (40, [some (pm_r 0), some (pm_i (nI k)), some (pm_i (nI ln)), some (pm_i y), some (pm_i z), none], [], pm_up M 0 6 (nI v)) := by
        simp only [rx_31_0, rx_31_1, rx_31_2, rx_31_5, rx_31_6, rx_31_9, rx_31_12, rx_31_13, rx_31_14, rx_31_15, rx_31_18, rx_31_21, rx_31_23, rx_31_24, rx_31_25, rx_31_26, rx_31_29, rx_31_30, rx_31_31, rx_31_32, rx_31_34, rx_31_37, cx_isSheet_y hk, cx_isLane_y (show ln ≤ 2 by omega), pz_bind, pz_psh, pz_n10, if_false, hvx, pz_up_up]
      have m0 : ∀ Mx : pm_M, Mx 24 = M 24 → Mx 25 = M 25 → pm_Rc pm_X0 79 (0, [some (pm_r 23), some (pm_i (nI k)), some (pm_i (nI ln)), some (pm_i y), some (pm_i z), none, none], [], Mx) = pm_Rc pm_X0 79 (35, [some (pm_r 23), some (pm_i (nI k)), some (pm_i (nI ln)), some (pm_i y), some (pm_i z), some (pm_i (nI v)), none], [], pm_up Mx 23 0 (nI 0)) := fun Mx a1 a2 => by
        have hvy := hvy (pm_up Mx 23 0 (nI 0)) (by rw [pz_up_c (by decide), a1]; exact (yS k hk).1) (fun h => by rw [pz_up_c (by decide), a2]; exact ((yS k hk).2 h).1)
        simp only [rx_79_0, rx_79_1, rx_79_2, rx_79_5, rx_79_6, rx_79_9, rx_79_12, rx_79_13, rx_79_14, rx_79_15, rx_79_18, rx_79_21, rx_79_23, rx_79_24, rx_79_25, rx_79_26, rx_79_27, rx_79_28, rx_79_30, rx_79_33, mx_isSheet_y hk, mx_isSort_y (show ln ≤ 2 by omega), pz_bind, pz_psh, pz_n10, if_false, hvy, pz_nlz_i]
      by_cases v0 : v = 0
      · subst v0
        obtain ⟨hlane, i, n, rfl, rfl, hin⟩ := hv0 rfl
        have hk9 : d 9 k ≠ 0 := by omega
        have hS := (hl k).2
        obtain ⟨s1, s2⟩ := (xS k hk).2 hk9
        obtain ⟨s3, s4⟩ := (yS k hk).2 hk9
        obtain ⟨c, hc⟩ : ∃ c : Nat → Int32, c = fun t => e (1 + k) (i + t) := ⟨_, rfl⟩
        obtain ⟨N1, eN1⟩ : ∃ N1, N1 = pm_up M 0 6 (nI 0) := ⟨_, rfl⟩
        obtain ⟨N2, eN2⟩ : ∃ N2, N2 = pm_cp N1 (7 + k) i 5 0 n := ⟨_, rfl⟩
        have hX1 : ix N1 d (pm_up e 0 1 (nI 0)) := by
          rw [eN1]
          exact ix_fault hX
        have hX2 : ix N2 d (pm_up e 0 1 (nI 0)) := by
          rw [eN2]
          exact ix_fr hX1 (fun c _ _ c5 _ _ => pz_cp5_c c5)
        have h5 : ∀ t, t < n → N2 5 t = c t := fun t ht => by
          rw [eN2, pz_cp5 ht, eN1, pz_up_c (by omega), hc]
          exact s2 (i + t) (by omega)
        have hc23 : ∀ b, 23 ≤ b → N2 b = M b := fun b hb => by
          rw [eN2, pz_cp5_c (by omega), eN1, pz_up_c (by omega)]
        have hn60 : n ≤ 60 := by omega
        have c1 : pm_Rc pm_X0 31 (0, [some (pm_r 0), some (pm_i (nI k)), some (pm_i (nI ln)), some (pm_i (nI i)), some (pm_i (nI n)), none], [], M) = pm_Rc pm_X0 31 (70, [some (pm_r 0), some (pm_i (nI k)), some (pm_i (nI ln)), some (pm_i (nI i)), some (pm_i (nI n)), none], [], N2) := by
          rw [c0, ← eN1]
          have f1 : N1 0 6 = nI 0 := by rw [eN1, pz_up_s]
          simp only [rx_31_40, rx_31_41, rx_31_44, rx_31_47, rx_31_49, rx_31_50, rx_31_53, rx_31_54, rx_31_55, rx_31_56, rx_31_59, rx_31_60, rx_31_61, rx_31_63, rx_31_64, rx_31_67, f1, pz_n00, if_true, pz_bind, pz_psh0, cx_read (M := N1) hk (show i + n ≤ 60 by omega), ← eN2]
        have hY2 : ∀ Mx : pm_M, (∀ b, 23 ≤ b → Mx b = M b) → iy (pm_up Mx 23 0 (nI 0)) d (pm_up e 0 1 (nI 0)) := fun Mx hb => iy_fault (iy_fr hY (fun b a _ => hb b (by omega)) (fun j _ => by rw [hb 23 (by decide)]))
        obtain ⟨a0, ea0⟩ : ∃ a0, a0 = 60 * k + i := ⟨_, rfl⟩
        have ha0 : a0 + n ≤ 240 := by omega
        have m1 : ∀ Mx : pm_M, (∀ b, 23 ≤ b → Mx b = M b) → pm_Rc pm_X0 79 (0, [some (pm_r 23), some (pm_i (nI k)), some (pm_i (nI ln)), some (pm_i (nI i)), some (pm_i (nI n)), none, none], [], Mx) = pm_Rc pm_X0 79 (61, [some (pm_r 23), some (pm_i (nI k)), some (pm_i (nI ln)), some (pm_i (nI i)), some (pm_i (nI n)), some (pm_i (nI 0)), some (pm_i (nI a0))], [], pm_up (pm_up Mx 23 0 (nI 0)) 23 12 (nI a0)) := fun Mx hb => by
          rw [m0 Mx (hb 24 (by decide)) (hb 25 (by decide))]
          simp only [rx_79_35, rx_79_37, rx_79_40, rx_79_41, rx_79_43, rx_79_46, rx_79_47, rx_79_49, rx_79_50, rx_79_51, rx_79_52, rx_79_53, rx_79_55, rx_79_56, rx_79_58, pz_n00, if_true, pk_mul, pz_add, pz_nlz_i, ← ea0]
        have h26 : ∀ Mx : pm_M, (∀ b, 23 ≤ b → Mx b = M b) → ∀ t, t < n → (pm_up (pm_up Mx 23 0 (nI 0)) 23 12 (nI a0)) 26 (a0 + t) = c t := fun Mx hb t ht => by
          rw [pz_up_c (by decide), pz_up_c (by decide), hb 26 (by decide), hc, ea0, Nat.add_assoc]
          exact s4 (i + t) (by omega)
        obtain ⟨F, hFv⟩ := sp_fields c
        obtain ⟨R, hR⟩ : ∃ R, R = 2 + 3 * F + 3 * (F - 1) + 1 := ⟨_, rfl⟩
        obtain ⟨p0, hp0, hgo, hbad⟩ := sp_place (fun u => sp_is (sp_wt F u) (c u)) n
        have hFp : 2 ≤ p0 → c 1 = nI (48 + F) ∧ 2 ≤ F ∧ F ≤ 6 := fun h => hFv (hgo 1 (by omega))
        have hgo5 : ∀ u, u < p0 → sp_is (sp_wt F u) (N2 5 u) := fun u hu => by
          rw [h5 u (by omega)]
          exact hgo u hu
        have hFp5 : 2 ≤ p0 → N2 5 1 = nI (48 + F) ∧ 2 ≤ F ∧ F ≤ 6 := fun h => by
          rw [h5 1 (by omega)]
          exact hFp h
        have hb6 : ∀ M3 : pm_M, (∀ b, 23 ≤ b → M3 b = M b) → _ := fun M3 hb => mx_readLand (M := pm_up (pm_up M3 23 0 (nI 0)) 23 12 (nI a0)) ha0 hR hp0 hgo hbad hFp (h26 M3 hb) (by rw [pz_up_s])
        by_cases qf : p0 < n ∨ n < 2 ∨ n ≤ R
        · have hff : (p0 < n ∧ ¬ sp_is (sp_wt F p0) (N2 5 p0)) ∨ (p0 = n ∧ (n < 2 ∨ n ≤ 2 + 3 * F + 3 * (F - 1) + 1)) := by
            rcases hbad with hb | ⟨hb, hb2⟩
            · exact Or.inr ⟨hb, by omega⟩
            · exact Or.inl ⟨hb, by rw [h5 p0 hb]; exact hb2⟩
          have r1 := cx_first_f hn60 hp0 hgo5 hFp5 hff
          obtain ⟨M4, t1, t2, t3⟩ := (hb6 N2 hc23).1 qf
          have hYP := hY2 N2 hc23
          refine ⟨pm_i (-100 - nI p0), N2, M4, ?_, ?_, d, pm_up e 0 1 (nI 0), hG, ix_fr hX2 (fun b b1 b2 b3 b4 b5 => ?_), iy_fr hYP (fun b b1 b2 => ?_) (fun j hj => ?_)⟩
          · rw [c1]
            simp only [rx_31_70, rx_31_71, rx_31_74, rx_31_76, rx_31_79, rx_31_81, rx_31_83, rx_31_85, rx_31_88, rx_31_90, rx_31_92, rx_31_93, r1, pz_bind, pz_psh, pz_nlz_i, pz_m9 (show p0 < 1000 by omega), if_false]
          · rw [m1 N2 hc23]
            simp only [rx_79_61, rx_79_62, rx_79_64, rx_79_66, rx_79_67, rx_79_70, rx_79_73, rx_79_75, rx_79_76, rx_79_79, rx_79_81, rx_79_82, rx_79_83, pz_add, t1, pz_bind, pz_psh, pz_n00, if_true, t3, pz_sub (show a0 ≤ a0 + p0 by omega), Nat.add_sub_cancel_left]
          · rw [t2.1 b (by omega) (by omega), pz_up_c (by omega), pz_up_c (by omega)]
          · rw [t2.1 b (by omega) (by omega), pz_up_c (by omega)]
          · rw [t2.2 j (by omega) (by omega) (by omega), pz_up_n (by omega)]
        · have hpn : p0 = n := by omega
          subst hpn
          have hRn : R < p0 := by omega
          obtain ⟨f1, hF2⟩ := hFp (by omega)
          have r1 := cx_first_ok (F := F) hn60 hgo5 (hFp5 (by omega)) (by omega)
          obtain ⟨N3, u1, u2, u3, u4, u5, u6, u7⟩ := cx_become hn60 hF2 hR hRn hgo f1 h5
          obtain ⟨N4, eN4⟩ : ∃ N4, N4 = pm_up N3 4 0 (nI 0) := ⟨_, rfl⟩
          have hc4 : ∀ b, 23 ≤ b → N4 b = M b := fun b hb => by
            rw [eN4, pz_up_c (by omega), u4 b (by omega) (by omega)]
            exact hc23 b hb
          obtain ⟨M4, t1, t2, t3, t4, t5, t6, t7, t8⟩ := (hb6 N4 hc4).2 rfl (by omega) hRn
          obtain ⟨M5, v1, v2, v3, v4, v5, v6, v7, v8, v9⟩ := mx_takeLand (M := M4) ⟨by omega, hF2.2⟩ t5 t3 t4
          obtain ⟨a8, a1, a2, a3⟩ := sp_all hF2 hR hRn hgo
          obtain ⟨d2, ed2⟩ : ∃ d2, d2 = sp_ld d F (p0 - R) R c := ⟨_, rfl⟩
          have e00 : d2 0 0 = F := by rw [ed2]; rfl
          have e01 : d2 0 1 = p0 - R := by rw [ed2]; rfl
          have e02 : d2 0 2 = 0 := by rw [ed2]; rfl
          have e1 : ∀ g, d2 1 g = if g < F then sp_dg c (3 + 3 * g) else 0 := fun g => by rw [ed2]; rfl
          have e2 : ∀ g, d2 2 g = if g < F then sp_dg c (4 + 3 * g) else 0 := fun g => by rw [ed2]; rfl
          have e3 : ∀ g, d2 3 g = if g < F - 1 then sp_kd (c (3 + 3 * F + 3 * g)) else 0 := fun g => by rw [ed2]; rfl
          have e4 : ∀ g, d2 4 g = if g < F - 1 then sp_dg c (4 + 3 * F + 3 * g) else 0 := fun g => by rw [ed2]; rfl
          have e5 : ∀ g, d2 5 g = if g < p0 - R then sp_dg c (R + g) else 0 := fun g => by rw [ed2]; rfl
          have e9 : d2 9 = d 9 := by rw [ed2]; exact sp_ld_hi (by decide)
          have e10 : d2 10 = d 10 := by rw [ed2]; exact sp_ld_hi (by decide)
          have hG2 : iv_G d2 := by
            refine ⟨⟨?_, ?_, ?_, ?_, ?_, ?_⟩, ?_, ?_, ?_⟩
            · rw [e00, e01]
              omega
            · intro g
              rw [e1]
              split
              · rename_i h
                exact (sp_dg_of (a1 g h).1).1
              · omega
            · intro g
              rw [e2]
              split
              · rename_i h
                exact (sp_dg_of (a1 g h).2).1
              · omega
            · intro g
              rw [e3]
              split
              · exact sp_kd_le _
              · omega
            · intro g
              rw [e4]
              split
              · rename_i h
                exact (sp_dg_of (a2 g h).2).1
              · omega
            · intro g
              rw [e5]
              split
              · rename_i h
                exact (sp_dg_of (a3 g h)).1
              · omega
            · rw [e02]
              omega
            · intro q hq
              rw [e02] at hq
              omega
            · intro q
              rw [e9, e10]
              exact hl q
          have hlow : ∀ b, b < 23 → M5 b = N4 b := fun b hb => by
            rw [v6 b (by omega) (by omega), t2.1 b (by omega) (by omega), pz_up_c (by omega), pz_up_c (by omega)]
          have hXN : ix N4 d2 (pm_up e 0 1 (nI 0)) := by
            refine ⟨⟨?_, ?_, ?_, ?_, ?_, ?_, ?_⟩, ⟨?_, ?_⟩, ?_, ?_⟩
            · rw [e00, eN4, pz_up_c (by decide)]
              exact u2
            · rw [e01, eN4, pz_up_c (by decide)]
              exact u3
            · intro g hg
              rw [e00] at hg
              rw [e1, if_pos hg, eN4, pz_up_c (by decide)]
              exact (u5 g hg).1
            · intro g hg
              rw [e00] at hg
              rw [e2, if_pos hg, eN4, pz_up_c (by decide)]
              exact (u5 g hg).2
            · intro g hg
              rw [e00] at hg
              have hg2 : g < F - 1 := by omega
              rw [e3, if_pos hg2, eN4, pz_up_c (by decide)]
              exact (u6 g hg2).1
            · intro g hg
              rw [e00] at hg
              have hg2 : g < F - 1 := by omega
              rw [e4, if_pos hg2, eN4, pz_up_c (by decide)]
              exact (u6 g hg2).2
            · intro g hg
              rw [e01] at hg
              rw [e5, if_pos hg, eN4, pz_up_c (by decide)]
              exact u7 g hg
            · rw [e02, eN4, pz_up_s]
            · intro q hq
              rw [e02] at hq
              omega
            · rw [eN4, pz_up_c (by decide), u4 0 (by decide) (by decide)]
              exact hX2.2.2.1
            · intro q hq
              have h9 := hX2.2.2.2 q hq
              rw [e9, e10, eN4, pz_up_c (by decide), pz_up_c (by decide), pz_up_c (by omega), u4 11 (by decide) (by decide), u4 12 (by decide) (by decide), u4 (7 + q) (by omega) (by omega)]
              exact h9
          have hYP := hY2 N4 hc4
          have hYN : iy M5 d2 (pm_up e 0 1 (nI 0)) := by
            refine ⟨⟨?_, ?_, ?_, ?_, ?_, ?_, ?_⟩, ⟨?_, ?_⟩, ⟨?_, ?_, ?_⟩, ?_⟩
            · rw [e00]
              exact v2
            · rw [e01]
              exact v3
            · intro g hg
              rw [e00] at hg
              rw [e1, if_pos hg, (v7 g hg).1]
              exact (t6 g hg).1
            · intro g hg
              rw [e00] at hg
              rw [e2, if_pos hg, (v7 g hg).2]
              exact (t6 g hg).2
            · intro g hg
              rw [e00] at hg
              have hg2 : g < F - 1 := by omega
              rw [e3, if_pos hg2, (v8 g hg2).1]
              exact (t7 g hg2).1
            · intro g hg
              rw [e00] at hg
              have hg2 : g < F - 1 := by omega
              rw [e4, if_pos hg2, (v8 g hg2).2]
              exact (t7 g hg2).2
            · intro g hg
              rw [e01] at hg
              rw [e5, if_pos hg, v9 g hg]
              exact t8 g hg
            · rw [e02]
              exact v4
            · intro q hq
              rw [e02] at hq
              omega
            · rw [v5 1 (by decide) (by decide) (by decide), t2.2 1 (by decide) (by decide) (by decide), pz_up_n (by decide)]
              exact hYP.2.2.1.1
            · rw [v5 0 (by decide) (by decide) (by decide), t2.2 0 (by decide) (by decide) (by decide), pz_up_n (by decide)]
              exact hYP.2.2.1.2.1
            · rw [v5 25 (by decide) (by decide) (by decide), t2.2 25 (by decide) (by decide) (by decide), pz_up_n (by decide)]
              exact hYP.2.2.1.2.2
            · intro q hq
              have h9 := yS q hq
              rw [e9, e10, v6 24 (by decide) (by decide), v6 25 (by decide) (by decide), v6 26 (by decide) (by decide), t2.1 24 (by decide) (by decide), t2.1 25 (by decide) (by decide), t2.1 26 (by decide) (by decide)]
              simp only [pz_up_c (show (24 : Nat) ≠ 23 by decide), pz_up_c (show (25 : Nat) ≠ 23 by decide), pz_up_c (show (26 : Nat) ≠ 23 by decide)]
              rw [hc4 24 (by decide), hc4 25 (by decide), hc4 26 (by decide), pz_up_c (show 1 + q ≠ 0 by omega)]
              exact h9
          refine ⟨pm_i (nI (F - 1)), N4, M5, ?_, ?_, d2, pm_up e 0 1 (nI 0), hG2, ix_fr hXN (fun b b1 _ _ _ _ => hlow b b1), hYN⟩
          · rw [c1]
            simp only [rx_31_70, rx_31_71, rx_31_74, rx_31_76, rx_31_79, rx_31_81, rx_31_83, rx_31_85, rx_31_88, rx_31_90, rx_31_92, rx_31_93, rx_31_94, rx_31_95, rx_31_98, rx_31_99, rx_31_102, rx_31_104, r1, pz_bind, pz_psh, pz_nlz_i, if_true]
            rw [u1]
            have f4 : N4 2 0 = nI F := by
              rw [eN4, pz_up_c (by decide)]
              exact u2
            simp only [rx_31_107, rx_31_108, rx_31_111, rx_31_112, rx_31_115, rx_31_116, rx_31_119, rx_31_122, pz_bind, pz_psh0, pz_psh, ← eN4, cx_posts f4 hF2.2]
          · rw [m1 N4 hc4]
            simp only [rx_79_61, rx_79_62, rx_79_64, rx_79_66, rx_79_67, rx_79_70, rx_79_73, rx_79_75, rx_79_76, rx_79_79, rx_79_81, rx_79_82, rx_79_83, rx_79_84, rx_79_85, rx_79_88, rx_79_89, rx_79_92, rx_79_93, rx_79_94, pz_add, t1, pz_bind, pz_psh, pz_psh0, pz_n10, if_false, v1, v2, pz_sub (show 1 ≤ F by omega)]
      · have vne : (nI v = nI 0) = False := by
          rw [pz_eq (by omega) (by omega)]
          exact eq_false v0
        refine ⟨pm_i (-10 - nI v), pm_up M 0 6 (nI v), pm_up (pm_up M 0 6 (nI v)) 23 0 (nI v), ?_, ?_, iv_fault hG hX hY⟩
        · rw [c0]
          simp only [rx_31_40, rx_31_41, rx_31_44, rx_31_47, rx_31_49, rx_31_50, rx_31_53, rx_31_54, pz_up_s, pz_eq0 (show v < 2147483648 by omega), v0, if_false]
        · rw [m0 _ (pz_up_c (by decide)) (pz_up_c (by decide))]
          simp only [rx_79_35, rx_79_37, rx_79_40, rx_79_41, rx_79_43, rx_79_46, rx_84_0, rx_84_1, rx_84_2, rx_84_5, rx_84_7, rx_84_8, rx_84_9, pz_eq0 (show v < 2147483648 by omega), v0, if_false, pz_bind, pz_psh, pz_up_up]
