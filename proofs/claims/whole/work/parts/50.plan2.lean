/-! plan, at last. -/
theorem cx_acp5 {M : pm_M} {k i n : Nat} (hk : k < 4) (hi : i + n ≤ 60) : pm_acp (7 + k) (nI i) 5 (nI 0) (nI n) M = some (pm_cp M (7 + k) i 5 0 n) := by
  unfold pm_acp
  rw [pz_sh7 hk, show pm_sh 5 = some (.inl 60) from rfl]
  show (if _ then some (pm_cp M (7 + k) (nI i).toNatClampNeg 5 (nI 0).toNatClampNeg (nI n).toNatClampNeg) else none) = _
  rw [nI_clamp (by omega), nI_clamp (by omega), nI_clamp (by omega)]
  exact if_pos ⟨nI_pos (by omega), nI_pos (by omega), nI_pos (by omega), by omega, by omega⟩
theorem cx_read {M : pm_M} {k i n : Nat} (hk : k < 4) (hi : i + n ≤ 60) : pm_Rc pm_X0 16 (0, [some (pm_r 1), some (pm_i (nI k)), some (pm_i (nI i)), some (pm_i (nI n)), some (pm_r 5)], [], M) = some (none, pm_cp M (7 + k) i 5 0 n) := by
  simp only [rx_16_0, rx_16_1, rx_16_4, rx_16_5, rx_16_6, rx_16_7, rx_16_9, rx_16_10, rx_16_11, rx_16_14, pz_aald_6 hk, pz_bind, cx_acp5 hk hi]
theorem pz_cp5 {M : pm_M} {k i n t : Nat} (ht : t < n) : pm_cp M (7 + k) i 5 0 n 5 t = M (7 + k) (i + t) := by
  unfold pm_cp
  rw [if_pos rfl, pk_cpy_in (by omega) (by omega), Nat.sub_zero]
theorem pz_cp5_c {M : pm_M} {k i n c : Nat} (hc : c ≠ 5) : pm_cp M (7 + k) i 5 0 n c = M c := by
  exact if_neg hc
theorem mx_plan_l {F D a : Nat} {nd hd kd lm rn pp : Nat → Nat} {o1 o2 o3 o5 o6 : Option pm_V} (hB : iv_B F D nd hd kd lm rn) (ha : a + D ≤ 240) (hpp : ∀ t, t < D → pp t < 2147483648) : ∀ (dd t : Nat), t + dd = D → ∀ M : pm_M, (∀ u, u < D → M 26 (a + u) = nI (pp u)) → iv_N M F D nd hd kd lm rn → M 23 25 = nI 0 → iv_Z M F (sp_w F kd lm rn pp 0 t) (sp_a F kd lm rn pp 0 t) (sp_s F hd kd lm rn pp 0 t) →
    ∃ M2, pm_Rc pm_X0 111 (162, [some (pm_r 23), o1, o2, o3, some (pm_i (nI D)), o5, o6, some (pm_i (nI a)), some (pm_i (nI t))], [], M) = pm_Rc pm_X0 111 (198, [some (pm_r 23), o1, o2, o3, some (pm_i (nI D)), o5, o6, some (pm_i (nI a)), some (pm_i (nI D))], [], M2) ∧ fr_Z M M2 ∧ iv_Z M2 F (sp_w F kd lm rn pp 0 D) (sp_a F kd lm rn pp 0 D) (sp_s F hd kd lm rn pp 0 D) := by
  obtain ⟨b1, b2, b3, b4, b5, b6⟩ := id hB
  intro dd
  induction dd with
  | zero =>
    intro t ht M h26 hL hcl hS
    have e : t = D := by omega
    subst e
    refine ⟨M, ?_, fr_Z.refl, hS⟩
    rw [rx_111_162]
    simp only [rx_111_164, rx_111_166, pz_lt (show t < 2147483648 by omega) (show t < 2147483648 by omega), Nat.lt_irrefl, if_false]
  | succ dd ih =>
    intro t ht M h26 hL hcl hS
    obtain ⟨M1, r1, r2, r3⟩ := mx_goDay (rr := rn) (pp := pp) hL hB hcl b6 (hpp t (by omega)) (by omega) (by omega) hS
    obtain ⟨M2, t1, t2, t3⟩ := ih (t + 1) (by omega) M1 (fun u hu => by rw [r2.1 26 (by decide) (by decide) (by decide)]; exact h26 u hu) (hL.fr r2) (by rw [r2.2 25 (by decide) (by decide) (by decide)]; exact hcl) r3
    refine ⟨M2, ?_, r2.trans t2, t3⟩
    rw [rx_111_162]
    simp only [rx_111_164, rx_111_166, rx_111_169, rx_111_170, rx_111_172, rx_111_173, rx_111_176, rx_111_178, rx_111_179, rx_111_180, rx_111_183, rx_111_185, rx_111_187, rx_111_188, rx_111_189, pz_lt (show t < 2147483648 by omega) (show D < 2147483648 by omega), show t < D by omega, if_true, pz_ald_31 (show t < 8 by omega), hL.2.2.2.2.2.2 t (by omega), pz_add, pz_ald_26 (show a + t < 240 by omega), h26 t (by omega), pz_bind]
    rw [r1]
    simp only [pz_bind, pz_psh0, rx_111_192, rx_111_195, pz_add, pz_nlz_i]
    exact t1
theorem mx_ask {M : pm_M} {q : Int32} {o1 o2 o3 o4 o6 o7 o8 : Option pm_V} : pm_Rc pm_X0 111 (21, [some (pm_r 23), o1, o2, o3, o4, some (pm_i q), o6, o7, o8], [], M) = if sp_ask q = true then pm_Rc pm_X0 111 (58, [some (pm_r 23), o1, o2, o3, o4, some (pm_i q), o6, o7, o8], [], M) else some (some (pm_i (-2)), M) := by
  have e : sp_ask q = ((!decide (q < nI 0) && !decide (nI 3 < q)) || ((!decide (q < nI 10) && !decide (nI 15 < q)) || (!decide (q < nI 20) && !decide (nI 25 < q)))) := by
    unfold sp_ask
    rw [nI_0]
  rw [e]
  cases h1 : (!decide (q < nI 0) && !decide (nI 3 < q)) <;> cases h2 : (!decide (q < nI 10) && !decide (nI 15 < q)) <;> cases h3 : (!decide (q < nI 20) && !decide (nI 25 < q)) <;> simp only [rx_111_21, rx_111_23, rx_111_24, rx_111_25, rx_111_28, rx_111_31, rx_111_33, rx_111_35, rx_111_37, rx_111_40, rx_111_43, rx_111_45, rx_111_47, rx_111_49, rx_111_52, rx_111_55, rx_111_57, mx_within_r, h1, h2, h3, pz_bind, pz_psh, pz_n10, pz_n00, if_true, if_false, Bool.false_eq_true, Bool.or_true, Bool.or_false, Bool.true_or, Bool.false_or]
theorem op_plan (x w y z q : Int32) : op_ok 46 111 [some (pm_r 0), some (pm_i x), some (pm_i w), some (pm_i y), some (pm_i z), some (pm_i q)] [some (pm_r 23), some (pm_i x), some (pm_i w), some (pm_i y), some (pm_i z), some (pm_i q), none, none, none] := by
  intro M hM
  obtain ⟨d, e, hG, hX, hY⟩ := hM
  obtain ⟨hB, hn, hq, hl⟩ := id hG
  obtain ⟨xL, xR, xT, xS⟩ := id hX
  obtain ⟨yL, yR, yT, yS⟩ := id hY
  obtain ⟨x1, x2, x3, x4, x5, x6, x7⟩ := id xL
  obtain ⟨y1, y2, y3, y4, y5, y6, y7⟩ := id yL
  obtain ⟨b1, b2, b3, b4, b5, b6⟩ := id hB
  have hF : d 0 0 ≤ 6 := by omega
  have hD : d 0 1 ≤ 8 := by omega
  rcases pz_any x 4 (by omega) with hx | ⟨k, hk, rfl⟩
  · refine ⟨pm_i (-1), pm_up M 0 6 (nI 0), pm_up (pm_up M 0 6 (nI 0)) 23 0 (nI 0), ?_, ?_, iv_fault hG hX hY⟩
    · simp only [rx_46_0, rx_46_1, rx_46_2, rx_46_5, rx_46_6, rx_46_9, rx_46_12, rx_46_13, cx_isSheet_n hx, pz_bind, pz_psh, pz_n00, if_true]
    · simp only [rx_111_0, rx_111_1, rx_111_2, rx_111_5, rx_111_6, rx_111_9, rx_111_12, rx_111_13, mx_isSheet_n hx, pz_bind, pz_psh, pz_n00, if_true]
  · rcases pz_any w 3 (by omega) with hw | ⟨ln, hln, rfl⟩
    · refine ⟨pm_i (-2), pm_up M 0 6 (nI 0), pm_up (pm_up M 0 6 (nI 0)) 23 0 (nI 0), ?_, ?_, iv_fault hG hX hY⟩
      · simp only [rx_46_0, rx_46_1, rx_46_2, rx_46_5, rx_46_6, rx_46_9, rx_46_12, rx_46_13, rx_46_14, rx_46_15, rx_46_18, rx_46_21, rx_46_23, rx_46_26, rx_46_29, rx_46_31, cx_isSheet_y hk, cx_isLane_n hw, pz_bind, pz_psh, pz_n10, if_false, pz_n00, if_true]
      · simp only [rx_111_0, rx_111_1, rx_111_2, rx_111_5, rx_111_6, rx_111_9, rx_111_12, rx_111_13, rx_111_14, rx_111_15, rx_111_18, rx_111_55, rx_111_57, mx_isSheet_y hk, mx_isSort_n hw, pz_bind, pz_psh, pz_n10, if_false, pz_n00, if_true]
    · by_cases ha : sp_ask q = true
      · obtain ⟨kk, rfl, hkk⟩ := sp_ask_k ha
        obtain ⟨v, hv4, hv0, hvx, hvy⟩ := sx_against (k := k) (L := d 9 k) (s := d 10 k) (lane := ln) (x := y) (z := z) hk (hl k).1 (by omega) (hl k).2
        have hvx := hvx (pm_up M 0 6 (nI 0)) (by rw [pz_up_c (by decide)]; exact (xS k hk).1) (fun h => by rw [pz_up_c (by decide)]; exact ((xS k hk).2 h).1)
        have c0 : ∀ (o7 o8 : Option pm_V), pm_Rc pm_X0 46 (0, [some (pm_r 0), some (pm_i (nI k)), some (pm_i (nI ln)), some (pm_i y), some (pm_i z), some (pm_i (nI kk))], [], M) = pm_Rc pm_X0 46 (48, [some (pm_r 0), some (pm_i (nI k)), some (pm_i (nI ln)), some (pm_i y), some (pm_i z), some (pm_i (nI kk))], [], pm_up M 0 6 (nI v)) := fun _ _ => by
          simp only [rx_46_0, rx_46_1, rx_46_2, rx_46_5, rx_46_6, rx_46_9, rx_46_12, rx_46_13, rx_46_14, rx_46_15, rx_46_18, rx_46_21, rx_46_23, rx_46_26, rx_46_29, rx_46_31, rx_46_32, rx_46_33, rx_46_34, rx_46_37, rx_46_38, rx_46_39, rx_46_40, rx_46_42, rx_46_45, cx_isSheet_y hk, cx_isLane_y (show ln ≤ 2 by omega), cx_ask, ha, pz_bind, pz_psh, pz_n10, if_false, if_true, hvx, pz_up_up]
        have c0 := c0 none none
        have m0 : ∀ Mx : pm_M, Mx 24 = M 24 → Mx 25 = M 25 → pm_Rc pm_X0 111 (0, [some (pm_r 23), some (pm_i (nI k)), some (pm_i (nI ln)), some (pm_i y), some (pm_i z), some (pm_i (nI kk)), none, none, none], [], Mx) = pm_Rc pm_X0 111 (69, [some (pm_r 23), some (pm_i (nI k)), some (pm_i (nI ln)), some (pm_i y), some (pm_i z), some (pm_i (nI kk)), some (pm_i (nI v)), none, none], [], pm_up Mx 23 0 (nI 0)) := fun Mx a1 a2 => by
          have hvy := hvy (pm_up Mx 23 0 (nI 0)) (by rw [pz_up_c (by decide), a1]; exact (yS k hk).1) (fun h => by rw [pz_up_c (by decide), a2]; exact ((yS k hk).2 h).1)
          simp only [rx_111_0, rx_111_1, rx_111_2, rx_111_5, rx_111_6, rx_111_9, rx_111_12, rx_111_13, rx_111_14, rx_111_15, rx_111_18, mx_isSheet_y hk, mx_isSort_y (show ln ≤ 2 by omega), pz_bind, pz_psh, pz_n10, if_false]
          rw [mx_ask, if_pos ha]
          simp only [rx_111_58, rx_111_59, rx_111_60, rx_111_61, rx_111_62, rx_111_64, rx_111_67, hvy, pz_bind, pz_psh, pz_nlz_i]
        by_cases v0 : v = 0
        · subst v0
          obtain ⟨hlane, i, n, rfl, rfl, hin⟩ := hv0 rfl
          have hk9 : d 9 k ≠ 0 := by omega
          have hS := (hl k).2
          obtain ⟨s1, s2⟩ := (xS k hk).2 hk9
          obtain ⟨s3, s4⟩ := (yS k hk).2 hk9
          by_cases q0 : d 0 0 = 0
          · refine ⟨pm_i (-3), pm_up M 0 6 (nI 0), pm_up (pm_up M 0 6 (nI 0)) 23 0 (nI 0), ?_, ?_, iv_fault hG hX hY⟩
            · rw [c0]
              simp only [rx_46_48, rx_46_49, rx_46_52, rx_46_55, rx_46_57, rx_46_58, rx_46_61, rx_46_62, rx_46_63, rx_46_64, rx_46_67, rx_46_70, rx_46_73, rx_46_75, pz_up_s, pz_n00, if_true, cx_exists (M := pm_up M 0 6 (nI 0)) (by rw [pz_up_c (by decide)]; exact x1) hF, q0, pz_bind, pz_psh]
            · rw [m0 _ (pz_up_c (by decide)) (pz_up_c (by decide))]
              simp only [rx_111_69, rx_111_71, rx_111_74, rx_111_75, rx_111_77, rx_111_80, rx_111_81, rx_111_82, rx_111_85, rx_111_88, rx_111_90, pz_n00, if_true, pz_up_n (show (5 : Nat) ≠ 0 by decide), pz_up_c (show (23 : Nat) ≠ 0 by decide), y1, q0]
          · by_cases qn : n = d 0 1
            · subst qn
              obtain ⟨xs, hxs⟩ : ∃ xs : Nat → Int32, xs = fun t => e (1 + k) (i + t) := ⟨_, rfl⟩
              obtain ⟨N1, eN1⟩ : ∃ N1, N1 = pm_up M 0 6 (nI 0) := ⟨_, rfl⟩
              obtain ⟨N2, eN2⟩ : ∃ N2, N2 = pm_cp N1 (7 + k) i 5 0 (d 0 1) := ⟨_, rfl⟩
              have hX1 : ix N1 d (pm_up e 0 1 (nI 0)) := by
                rw [eN1]
                exact ix_fault hX
              have hX2 : ix N2 d (pm_up e 0 1 (nI 0)) := by
                rw [eN2]
                exact ix_fr hX1 (fun c _ _ c5 _ _ => pz_cp5_c c5)
              have h5 : ∀ t, t < d 0 1 → N2 5 t = xs t := fun t ht => by
                rw [eN2, pz_cp5 ht, eN1, pz_up_c (by omega), hxs]
                exact s2 (i + t) (by omega)
              have hc23 : ∀ c, 23 ≤ c → N2 c = M c := fun c hc => by
                rw [eN2, pz_cp5_c (by omega), eN1, pz_up_c (by omega)]
              have c1 : pm_Rc pm_X0 46 (0, [some (pm_r 0), some (pm_i (nI k)), some (pm_i (nI ln)), some (pm_i (nI i)), some (pm_i (nI (d 0 1))), some (pm_i (nI kk))], [], M) = pm_Rc pm_X0 46 (106, [some (pm_r 0), some (pm_i (nI k)), some (pm_i (nI ln)), some (pm_i (nI i)), some (pm_i (nI (d 0 1))), some (pm_i (nI kk))], [], N2) := by
                rw [c0, ← eN1]
                have f1 : N1 0 6 = nI 0 := by rw [eN1, pz_up_s]
                have f2 : N1 2 0 = nI (d 0 0) := hX1.1.1
                have f3 : N1 2 1 = nI (d 0 1) := hX1.1.2.1
                simp only [rx_46_48, rx_46_49, rx_46_52, rx_46_55, rx_46_57, rx_46_58, rx_46_61, rx_46_62, rx_46_63, rx_46_64, rx_46_67, rx_46_70, rx_46_73, rx_46_75, rx_46_76, rx_46_78, rx_46_79, rx_46_82, rx_46_85, rx_46_88, rx_46_90, rx_46_91, rx_46_92, rx_46_95, rx_46_96, rx_46_97, rx_46_99, rx_46_100, rx_46_103, f1, pz_n00, if_true, cx_exists f2 hF, q0, if_false, pz_n10, f3, pz_bind, pz_psh, pz_psh0, cx_read (M := N1) hk (show i + d 0 1 ≤ 60 by omega), ← eN2]
              have hY2 : ∀ Mx : pm_M, (∀ c, 23 ≤ c → Mx c = M c) → iy (pm_up Mx 23 0 (nI 0)) d (pm_up e 0 1 (nI 0)) := fun Mx hc => iy_fault (iy_fr hY (fun c a _ => hc c (by omega)) (fun j _ => by rw [hc 23 (by decide)]))
              have m1 : ∀ Mx : pm_M, (∀ c, 23 ≤ c → Mx c = M c) → pm_Rc pm_X0 111 (0, [some (pm_r 23), some (pm_i (nI k)), some (pm_i (nI ln)), some (pm_i (nI i)), some (pm_i (nI (d 0 1))), some (pm_i (nI kk)), none, none, none], [], Mx) = pm_Rc pm_X0 111 (114, [some (pm_r 23), some (pm_i (nI k)), some (pm_i (nI ln)), some (pm_i (nI i)), some (pm_i (nI (d 0 1))), some (pm_i (nI kk)), some (pm_i (nI 0)), some (pm_i (nI (60 * k + i))), some (pm_i (nI 0))], [], pm_up Mx 23 0 (nI 0)) := fun Mx hc => by
                have g1 := (hY2 Mx hc).1.1
                have g2 := (hY2 Mx hc).1.2.1
                rw [m0 Mx (hc 24 (by decide)) (hc 25 (by decide))]
                simp only [rx_111_69, rx_111_71, rx_111_74, rx_111_75, rx_111_77, rx_111_80, rx_111_81, rx_111_82, rx_111_85, rx_111_88, rx_111_90, rx_111_91, rx_111_93, rx_111_94, rx_111_97, rx_111_100, rx_111_102, rx_111_103, rx_111_105, rx_111_106, rx_111_107, rx_111_108, rx_111_109, rx_111_111, rx_111_112, pz_n00, if_true, g1, g2, pz_eq0 (show d 0 0 < 2147483648 by omega), q0, if_false, pk_mul, pz_add, pz_nlz_i, pz_nlz_n]
              have h26 : ∀ Mx : pm_M, (∀ c, 23 ≤ c → Mx c = M c) → ∀ t, t < d 0 1 → (pm_up Mx 23 0 (nI 0)) 26 (60 * k + i + t) = xs t := fun Mx hc t ht => by
                rw [pz_up_c (by decide), hc 26 (by decide), hxs, Nat.add_assoc]
                exact s4 (i + t) (by omega)
              have cs := cx_sets (F := d 0 0) (n := d 0 1) hF hX2.1.1 (by omega) h5 (d 0 1) 0 (by omega)
              by_cases hs : ∀ u, u < d 0 1 → sp_in (xs u) (2 ^ (d 0 0 - 1))
              · have hp : ∀ u, u < d 0 1 → xs u = nI (xs u).toNatClampNeg ∧ (xs u).toNatClampNeg < 2 ^ (d 0 0 - 1) := fun u hu => by
                  have h9 := hs u hu
                  have hP := pz_p5 hF
                  rcases pz_any (xs u) (2 ^ (d 0 0 - 1)) (by omega) with ho | ⟨p, hp, ep⟩
                  · rcases ho with ho | ho
                    · exact absurd ho h9.1
                    · exact absurd h9.2 ho.2
                  · rw [ep, nI_clamp (by omega)]
                    exact ⟨rfl, hp⟩
                have hP := pz_p5 hF
                obtain ⟨pp, epp⟩ : ∃ pp : Nat → Nat, pp = fun u => (xs u).toNatClampNeg := ⟨_, rfl⟩
                have hpx : ∀ u, u < d 0 1 → xs u = nI (pp u) := fun u hu => by
                  rw [epp]
                  exact (hp u hu).1
                have hpl : ∀ u, u < d 0 1 → pp u < 2147483648 := fun u hu => by
                  have := (hp u hu).2
                  rw [epp]
                  show (xs u).toNatClampNeg < 2147483648
                  omega
                obtain ⟨M3, r1, r2⟩ := cx_plan (k := kk) (pp := pp) (M := N2) hB hpl (fun u hu => by rw [h5 u hu]; exact hpx u hu) hX2.1 hkk
                have hc3 : ∀ c, 23 ≤ c → M3 c = M c := fun c hc => by
                  rw [r2 c (by omega) (by omega) (by omega)]
                  exact hc23 c hc
                obtain ⟨P, eP⟩ : ∃ P, P = pm_up M3 23 0 (nI 0) := ⟨_, rfl⟩
                have hYP : iy P d (pm_up e 0 1 (nI 0)) := by
                  rw [eP]
                  exact hY2 M3 hc3
                have hXP : ix P d (pm_up e 0 1 (nI 0)) := by
                  rw [eP]
                  exact ix_hi (ix_S_fr hX2 r2) (by decide)
                have hP26 : ∀ t, t < d 0 1 → P 26 (60 * k + i + t) = xs t := by
                  rw [eP]
                  exact h26 M3 hc3
                obtain ⟨z1, z2, z3, z4⟩ := id hYP
                obtain ⟨P1, u1, u2, u3⟩ := mx_begin (M := P) hF z1.1
                obtain ⟨P2, t1, t2, t3⟩ := mx_plan_l (a := 60 * k + i) (pp := pp) (o1 := some (pm_i (nI k))) (o2 := some (pm_i (nI ln))) (o3 := some (pm_i (nI i))) (o5 := some (pm_i (nI kk))) (o6 := some (pm_i (nI 0))) hB (by omega) hpl (d 0 1) 0 (by omega) P1 (fun u hu => by rw [u2.1 26 (by decide) (by decide) (by decide), hP26 u hu]; exact hpx u hu) (z1.fr u2) (by rw [u2.2 25 (by decide) (by decide) (by decide)]; exact z3.2.2) u3
                refine ⟨pm_i (sp_tp (d 0 0) (d 0 1) (d 1) (d 2) (d 3) (d 4) (d 5) pp kk), M3, P2, ?_, ?_, d, pm_up e 0 1 (nI 0), hG, ix_Z_fr (ix_Z_fr hXP u2) t2, iy_Z_fr (iy_Z_fr hYP u2) t2⟩
                · rw [c1]
                  have cs1 : pm_Rc pm_X0 48 (0, [some (pm_r 0), some (pm_i (nI (d 0 1))), none], [], N2) = some (some (pm_i (nI 1)), N2) := by
                    simp only [rx_48_0, rx_48_1, pz_nlz_i]
                    exact cs.1 (fun u _ hu => hs u hu)
                  simp only [rx_46_106, rx_46_107, rx_46_109, rx_46_112, rx_46_115, rx_46_116, rx_46_118, rx_46_121, rx_46_126, cs1, pz_bind, pz_psh, pz_n10, if_false, r1]
                · rw [m1 M3 hc3, ← eP]
                  rw [(mx_sets (a := 60 * k + i) hF z1.1 (by omega) (by omega) hP26 (d 0 1) 0 (by omega) _ rfl).1 (fun u _ hu => hs u hu)]
                  simp only [rx_111_155, rx_111_156, rx_111_159, rx_111_160, u1, pz_bind, pz_psh0, pz_nlz_i]
                  rw [t1]
                  simp only [rx_111_198, rx_111_199, rx_111_201, rx_111_204, mx_tell hB ((z1.fr u2).fr t2) t3 hkk, pz_bind, pz_psh]
              · have hs2 : ∃ u, 0 ≤ u ∧ u < d 0 1 ∧ ¬ sp_in (xs u) (2 ^ (d 0 0 - 1)) := by
                  refine Classical.byContradiction (fun h => hs (fun u hu => Classical.byContradiction (fun h2 => h ⟨u, Nat.zero_le u, hu, h2⟩)))
                have hXP := hY2 N2 hc23
                refine ⟨pm_i (-2), N2, pm_up N2 23 0 (nI 0), ?_, ?_, d, pm_up e 0 1 (nI 0), hG, ix_hi hX2 (by decide), hXP⟩
                · rw [c1]
                  have cs1 : pm_Rc pm_X0 48 (0, [some (pm_r 0), some (pm_i (nI (d 0 1))), none], [], N2) = some (some (pm_i (nI 0)), N2) := by
                    simp only [rx_48_0, rx_48_1, pz_nlz_i]
                    exact cs.2 hs2
                  simp only [rx_46_106, rx_46_107, rx_46_109, rx_46_112, rx_46_115, rx_46_116, rx_46_118, rx_46_121, rx_46_124, rx_46_126, cs1, pz_bind, pz_psh, pz_n00, if_true]
                · rw [m1 N2 hc23]
                  exact (mx_sets (a := 60 * k + i) hF hXP.1.1 (by omega) (by omega) (h26 N2 hc23) (d 0 1) 0 (by omega) _ rfl).2 hs2
            · refine ⟨pm_i (-2), pm_up M 0 6 (nI 0), pm_up (pm_up M 0 6 (nI 0)) 23 0 (nI 0), ?_, ?_, iv_fault hG hX hY⟩
              · rw [c0]
                simp only [rx_46_48, rx_46_49, rx_46_52, rx_46_55, rx_46_57, rx_46_58, rx_46_61, rx_46_62, rx_46_63, rx_46_64, rx_46_67, rx_46_70, rx_46_73, rx_46_75, rx_46_76, rx_46_78, rx_46_79, rx_46_82, rx_46_85, rx_46_88, rx_46_90, pz_up_s, pz_n00, if_true, cx_exists (M := pm_up M 0 6 (nI 0)) (by rw [pz_up_c (by decide)]; exact x1) hF, q0, if_false, pz_n10, pz_bind, pz_psh, pz_up_c (show (2 : Nat) ≠ 0 by decide), x2, pz_eq (show n < 2147483648 by omega) (show d 0 1 < 2147483648 by omega), qn]
              · rw [m0 _ (pz_up_c (by decide)) (pz_up_c (by decide))]
                simp only [rx_111_69, rx_111_71, rx_111_74, rx_111_75, rx_111_77, rx_111_80, rx_111_81, rx_111_82, rx_111_85, rx_111_88, rx_111_90, rx_111_91, rx_111_93, rx_111_94, rx_111_97, rx_111_100, rx_111_102, pz_n00, if_true, pz_up_n (show (5 : Nat) ≠ 0 by decide), pz_up_n (show (6 : Nat) ≠ 0 by decide), pz_up_c (show (23 : Nat) ≠ 0 by decide), y1, y2, q0, pz_eq0 (show d 0 0 < 2147483648 by omega), if_false, pz_eq (show n < 2147483648 by omega) (show d 0 1 < 2147483648 by omega), qn]
        · have vne : (nI v = nI 0) = False := by
            rw [pz_eq (by omega) (by omega)]
            exact eq_false v0
          refine ⟨pm_i (-10 - nI v), pm_up M 0 6 (nI v), pm_up (pm_up M 0 6 (nI v)) 23 0 (nI v), ?_, ?_, iv_fault hG hX hY⟩
          · rw [c0]
            simp only [rx_46_48, rx_46_49, rx_46_52, rx_46_55, rx_46_57, rx_46_58, rx_46_61, rx_46_62, pz_up_s, pz_eq0 (show v < 2147483648 by omega), v0, if_false]
          · rw [m0 _ (pz_up_c (by decide)) (pz_up_c (by decide))]
            simp only [rx_111_69, rx_111_71, rx_111_74, rx_111_75, rx_111_77, rx_111_80, rx_84_0, rx_84_1, rx_84_2, rx_84_5, rx_84_7, rx_84_8, rx_84_9, pz_eq0 (show v < 2147483648 by omega), v0, if_false, pz_bind, pz_psh, pz_up_up]
      · refine ⟨pm_i (-2), pm_up M 0 6 (nI 0), pm_up (pm_up M 0 6 (nI 0)) 23 0 (nI 0), ?_, ?_, iv_fault hG hX hY⟩
        · simp only [rx_46_0, rx_46_1, rx_46_2, rx_46_5, rx_46_6, rx_46_9, rx_46_12, rx_46_13, rx_46_14, rx_46_15, rx_46_18, rx_46_21, rx_46_23, rx_46_26, rx_46_29, rx_46_31, cx_isSheet_y hk, cx_isLane_y (show ln ≤ 2 by omega), cx_ask, ha, Bool.false_eq_true, pz_bind, pz_psh, pz_n10, if_false, pz_n00, if_true]
        · simp only [rx_111_0, rx_111_1, rx_111_2, rx_111_5, rx_111_6, rx_111_9, rx_111_12, rx_111_13, rx_111_14, rx_111_15, rx_111_18, mx_isSheet_y hk, mx_isSort_y (show ln ≤ 2 by omega), pz_bind, pz_psh, pz_n10, if_false]
          rw [mx_ask, if_neg ha]
