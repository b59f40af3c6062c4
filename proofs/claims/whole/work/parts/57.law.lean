/-! The law on the pure machine. -/
def pm_kdP (y : Nat) (res : pm_O) : Prop := (∃ x M2, res = (some (pm_i x), M2) ∧ (pm_ret y = some .int ∨ pm_ret y = some .boolean)) ∨ (∃ x M2, res = (some (pm_l x), M2) ∧ pm_ret y = some .long) ∨ (∃ M2, res = (none, M2) ∧ pm_ret y = none)
set_option maxHeartbeats 4000000 in
theorem pm_kd_stp {X : pm_X} {y pc : Nat} {i : Instr} {ax : List Nat} {ls2 : pm_L} {st : List pm_V} {M : pm_M} {res : pm_O} (hok : pm_okx y pc i ax = true) (hh : pm_stp X (pm_rb y) pc i ax ls2 st M = .inr (.inl res)) : pm_kdP y res := by
  unfold pm_stp at hh
  split at hh
  case h_58 =>
    split at hh
    · split at hh
      · cases hh
      · rename_i v h0
        cases hh
        simp only [pm_okx, Bool.or_eq_true, decide_eq_true_eq] at hok
        exact Or.inl ⟨v, M, rfl, hok⟩
    · cases hh
  case h_59 =>
    split at hh
    · cases hh
      exact Or.inr (Or.inl ⟨_, M, rfl, by simpa [pm_okx] using hok⟩)
    · cases hh
  case h_60 =>
    split at hh
    · cases hh
      exact Or.inr (Or.inr ⟨M, rfl, by simpa [pm_okx] using hok⟩)
    · cases hh
  all_goals exfalso
  all_goals (try unfold pm_ldi at hh)
  all_goals (try unfold pm_lda at hh)
  all_goals (try unfold pm_ldl at hh)
  all_goals (try unfold pm_sti at hh)
  all_goals (try unfold pm_stl at hh)
  all_goals (try unfold pm_bin at hh)
  all_goals (try unfold pm_un at hh)
  all_goals (try unfold pm_ifc at hh)
  all_goals (try unfold pm_icm at hh)
  all_goals (try unfold pm_bad at hh)
  all_goals (repeat' (split at hh))
  all_goals cases hh
theorem pm_kd (hT : pm_okt) : ∀ (n : Nat) (X : pm_X) (y : Nat) (cf : pm_C) (res : pm_O), pm_ex n X y cf = some res → pm_kdP y res := by
  intro n
  induction n with
  | zero =>
    intro X y cf res h
    cases h
  | succ n ih =>
    intro X y cf res h
    obtain ⟨pc, ls2, st, M⟩ := cf
    unfold pm_ex at h
    cases hf : pm_find (pm_rwf y) pc with
    | none =>
      have h1 : pm_next X y (pc, ls2, st, M) = pm_bad := by
        unfold pm_next
        rw [hf]
      rw [h1] at h
      cases h
    | some r =>
      have hnx : pm_next X y (pc, ls2, st, M) = pm_stp X (pm_rb y) pc r.1 r.2.2 ls2 st M := by
        unfold pm_next
        rw [hf]
      have hrow := hT y (pc, r) (pm_find_mem _ _ _ hf)
      unfold pm_okr at hrow
      simp only [Bool.and_eq_true, decide_eq_true_eq] at hrow
      obtain ⟨⟨hdec, hlen0⟩, hok⟩ := hrow
      rw [hnx] at h
      split at h
      · rename_i c2 h1
        exact ih X y c2 res h
      · rename_i r1 h1
        cases h
        exact pm_kd_stp hok h1
      · rename_i q h1
        split at h
        · split at h
          · exact ih X y _ res h
          · cases h
        · cases h
      · cases h
theorem pm_kI {y : Nat} {cf : pm_C} {v : pm_V} {M2 : pm_M} (h : pm_Rc pm_X0 y cf = some (some v, M2)) (hr : pm_ret y = some .int) : ∃ x, v = pm_i x := by
  obtain ⟨n, hn⟩ := pm_Rc_iff.mp h
  rcases pm_kd pm_okt_ok n pm_X0 y cf _ hn with ⟨x, M3, e, _⟩ | ⟨x, M3, _, e⟩ | ⟨M3, e, _⟩
  · cases e
    exact ⟨x, rfl⟩
  · rw [hr] at e
    cases e
  · cases e
theorem pm_kL {y : Nat} {cf : pm_C} {v : pm_V} {M2 : pm_M} (h : pm_Rc pm_X0 y cf = some (some v, M2)) (hr : pm_ret y = some .long) : ∃ x, v = pm_l x := by
  obtain ⟨n, hn⟩ := pm_Rc_iff.mp h
  rcases pm_kd pm_okt_ok n pm_X0 y cf _ hn with ⟨x, M3, _, e⟩ | ⟨x, M3, e, _⟩ | ⟨M3, e, _⟩
  · rw [hr] at e
    rcases e with e | e <;> cases e
  · cases e
    exact ⟨x, rfl⟩
  · cases e
theorem pz_ald99 {L j : Nat} {xs : Nat → Int32} {M : pm_M} (hj : j < L) (hL : L ≤ 384) : pm_ald (L + 1, xs) 99 (nI j) M = some (xs j) := by
  unfold pm_ald
  rw [if_pos rfl]
  show (if pm_in (nI j) (L + 1 - 1) = true then some (xs (nI j).toNatClampNeg) else none) = _
  rw [Nat.add_sub_cancel, if_pos (pz_in hj (by omega)), nI_clamp (by omega)]
theorem pz_lcmp (a : Int64) : (lg_cmp a a = 0) = True := by simp [lg_cmp]
theorem pz_and31 (x : Int32) : ∃ k, k < 32 ∧ x &&& nI 31 = nI k := by
  refine ⟨x.toBitVec.toNat % 32, Nat.mod_lt _ (by omega), ?_⟩
  apply Int32.toBitVec_inj.mp
  rw [Int32.toBitVec_and]
  apply BitVec.eq_of_toNat_eq
  rw [BitVec.toNat_and, show (nI 31).toBitVec.toNat = 2 ^ 5 - 1 from rfl, Nat.and_two_pow_sub_one_eq_mod]
  have e : (nI (x.toBitVec.toNat % 32)).toBitVec.toNat = (x.toBitVec.toNat % 32) % 2 ^ 32 := by
    show (BitVec.ofNat 32 (x.toBitVec.toNat % 32)).toNat = _
    rw [BitVec.toNat_ofNat]
  rw [e]
  omega
theorem pz_over {L i : Nat} (hL : L ≤ 384) (hi : i ≤ 400) : (nI L - nI 6 < nI i) ↔ L < i + 6 := by
  by_cases q : 6 ≤ L
  · rw [pz_sub q, pz_lt (by omega) (by omega)]
    omega
  · have hneg : (nI L - nI 6).toInt < 0 := by
      rcases (show L = 0 ∨ L = 1 ∨ L = 2 ∨ L = 3 ∨ L = 4 ∨ L = 5 by omega) with rfl | rfl | rfl | rfl | rfl | rfl <;> decide
    have h0 : nI L - nI 6 < nI i := by
      rw [Int32.lt_iff_toInt_lt, nI_toInt (n := i) (by omega)]
      omega
    exact ⟨fun _ => by omega, fun _ => h0⟩
abbrev lw_ls (i : Nat) : pm_L := [some (pm_r 99), some (pm_r 0), some (pm_r 23), some (pm_i (nI i))]
theorem lw_op_0 {L i : Nat} {xs : Nat → Int32} {M : pm_M} (hL : L ≤ 384) (hi : i + 6 ≤ L) (hM : iv M) : ∃ M2, pm_Rc (L + 1, xs) 143 (172, lw_ls i, [], M) = pm_Rc (L + 1, xs) 143 (1117, lw_ls i, [], M2) ∧ iv M2 := by
  obtain ⟨v, M1, M2, r1, r2, hM2⟩ := op_land (xs (i + 1)) (xs (i + 2)) (xs (i + 3)) (xs (i + 4)) M hM
  obtain ⟨a, rfl⟩ := pm_kI r1 rfl
  refine ⟨M2, ?_, hM2⟩
  simp only [rx_143_172, rx_143_173, rx_143_174, rx_143_175, rx_143_176, rx_143_177, rx_143_178, rx_143_179, rx_143_180, rx_143_181, rx_143_182, rx_143_183, rx_143_184, rx_143_185, rx_143_186, rx_143_187, rx_143_188, rx_143_189, rx_143_190, rx_143_191, rx_143_192, rx_143_193, rx_143_196, rx_143_197, rx_143_198, rx_143_199, rx_143_200, rx_143_201, rx_143_202, rx_143_203, rx_143_204, rx_143_205, rx_143_206, rx_143_207, rx_143_208, rx_143_209, rx_143_210, rx_143_211, rx_143_212, rx_143_213, rx_143_214, rx_143_215, rx_143_216, rx_143_217, rx_143_220, rx_143_223, rx_143_224_0, rx_143_224_1, pz_ald99 (show i + 1 < L by omega) hL, pz_ald99 (show i + 2 < L by omega) hL, pz_ald99 (show i + 3 < L by omega) hL, pz_ald99 (show i + 4 < L by omega) hL, pz_add, pz_bind, pz_psh, r1, r2, if_true]
theorem lw_op_1 {L i : Nat} {xs : Nat → Int32} {M : pm_M} (hL : L ≤ 384) (hi : i + 6 ≤ L) (hM : iv M) : ∃ M2, pm_Rc (L + 1, xs) 143 (225, lw_ls i, [], M) = pm_Rc (L + 1, xs) 143 (1117, lw_ls i, [], M2) ∧ iv M2 := by
  obtain ⟨v, M1, M2, r1, r2, hM2⟩ := op_ofField (xs (i + 1)) (xs (i + 2)) M hM
  obtain ⟨a, rfl⟩ := pm_kI r1 rfl
  refine ⟨M2, ?_, hM2⟩
  simp only [rx_143_225, rx_143_226, rx_143_227, rx_143_228, rx_143_229, rx_143_230, rx_143_231, rx_143_232, rx_143_233, rx_143_234, rx_143_235, rx_143_236, rx_143_239, rx_143_240, rx_143_241, rx_143_242, rx_143_243, rx_143_244, rx_143_245, rx_143_246, rx_143_247, rx_143_248, rx_143_249, rx_143_250, rx_143_253, rx_143_256, rx_143_257_0, rx_143_257_1, pz_ald99 (show i + 1 < L by omega) hL, pz_ald99 (show i + 2 < L by omega) hL, pz_add, pz_bind, pz_psh, r1, r2, if_true]
theorem lw_op_2 {L i : Nat} {xs : Nat → Int32} {M : pm_M} (hL : L ≤ 384) (hi : i + 6 ≤ L) (hM : iv M) : ∃ M2, pm_Rc (L + 1, xs) 143 (258, lw_ls i, [], M) = pm_Rc (L + 1, xs) 143 (1117, lw_ls i, [], M2) ∧ iv M2 := by
  obtain ⟨v, M1, M2, r1, r2, hM2⟩ := op_ofPost (xs (i + 1)) (xs (i + 2)) M hM
  obtain ⟨a, rfl⟩ := pm_kI r1 rfl
  refine ⟨M2, ?_, hM2⟩
  simp only [rx_143_258, rx_143_259, rx_143_260, rx_143_261, rx_143_262, rx_143_263, rx_143_264, rx_143_265, rx_143_266, rx_143_267, rx_143_268, rx_143_269, rx_143_272, rx_143_273, rx_143_274, rx_143_275, rx_143_276, rx_143_277, rx_143_278, rx_143_279, rx_143_280, rx_143_281, rx_143_282, rx_143_283, rx_143_286, rx_143_289, rx_143_290_0, rx_143_290_1, pz_ald99 (show i + 1 < L by omega) hL, pz_ald99 (show i + 2 < L by omega) hL, pz_add, pz_bind, pz_psh, r1, r2, if_true]
theorem lw_op_3 {L i : Nat} {xs : Nat → Int32} {M : pm_M} (hL : L ≤ 384) (hi : i + 6 ≤ L) (hM : iv M) : ∃ M2, pm_Rc (L + 1, xs) 143 (291, lw_ls i, [], M) = pm_Rc (L + 1, xs) 143 (1117, lw_ls i, [], M2) ∧ iv M2 := by
  obtain ⟨v, M1, M2, r1, r2, hM2⟩ := op_lets (xs (i + 1)) (xs (i + 2)) M hM
  obtain ⟨a, rfl⟩ := pm_kI r1 rfl
  refine ⟨M2, ?_, hM2⟩
  simp only [rx_143_291, rx_143_292, rx_143_293, rx_143_294, rx_143_295, rx_143_296, rx_143_297, rx_143_298, rx_143_299, rx_143_300, rx_143_301, rx_143_302, rx_143_305, rx_143_306, rx_143_307, rx_143_308, rx_143_309, rx_143_310, rx_143_311, rx_143_312, rx_143_313, rx_143_314, rx_143_315, rx_143_316, rx_143_319, rx_143_322, rx_143_323_0, rx_143_323_1, pz_ald99 (show i + 1 < L by omega) hL, pz_ald99 (show i + 2 < L by omega) hL, pz_add, pz_bind, pz_psh, r1, r2, if_true]
theorem lw_op_4 {L i : Nat} {xs : Nat → Int32} {M : pm_M} (hL : L ≤ 384) (hi : i + 6 ≤ L) (hM : iv M) : ∃ M2, pm_Rc (L + 1, xs) 143 (324, lw_ls i, [], M) = pm_Rc (L + 1, xs) 143 (1117, lw_ls i, [], M2) ∧ iv M2 := by
  obtain ⟨v, M1, M2, r1, r2, hM2⟩ := op_limit (xs (i + 1)) (xs (i + 2)) M hM
  obtain ⟨a, rfl⟩ := pm_kI r1 rfl
  refine ⟨M2, ?_, hM2⟩
  simp only [rx_143_324, rx_143_325, rx_143_326, rx_143_327, rx_143_328, rx_143_329, rx_143_330, rx_143_331, rx_143_332, rx_143_333, rx_143_334, rx_143_335, rx_143_338, rx_143_339, rx_143_340, rx_143_341, rx_143_342, rx_143_343, rx_143_344, rx_143_345, rx_143_346, rx_143_347, rx_143_348, rx_143_349, rx_143_352, rx_143_355, rx_143_356_0, rx_143_356_1, pz_ald99 (show i + 1 < L by omega) hL, pz_ald99 (show i + 2 < L by omega) hL, pz_add, pz_bind, pz_psh, r1, r2, if_true]
theorem lw_op_5 {L i : Nat} {xs : Nat → Int32} {M : pm_M} (hL : L ≤ 384) (hi : i + 6 ≤ L) (hM : iv M) : ∃ M2, pm_Rc (L + 1, xs) 143 (357, lw_ls i, [], M) = pm_Rc (L + 1, xs) 143 (1117, lw_ls i, [], M2) ∧ iv M2 := by
  obtain ⟨v, M1, M2, r1, r2, hM2⟩ := op_rain (xs (i + 1)) (xs (i + 2)) M hM
  obtain ⟨a, rfl⟩ := pm_kI r1 rfl
  refine ⟨M2, ?_, hM2⟩
  simp only [rx_143_357, rx_143_358, rx_143_359, rx_143_360, rx_143_361, rx_143_362, rx_143_363, rx_143_364, rx_143_365, rx_143_366, rx_143_367, rx_143_368, rx_143_371, rx_143_372, rx_143_373, rx_143_374, rx_143_375, rx_143_376, rx_143_377, rx_143_378, rx_143_379, rx_143_380, rx_143_381, rx_143_382, rx_143_385, rx_143_388, rx_143_389_0, rx_143_389_1, pz_ald99 (show i + 1 < L by omega) hL, pz_ald99 (show i + 2 < L by omega) hL, pz_add, pz_bind, pz_psh, r1, r2, if_true]
theorem lw_op_6 {L i : Nat} {xs : Nat → Int32} {M : pm_M} (hL : L ≤ 384) (hi : i + 6 ≤ L) (hM : iv M) : ∃ M2, pm_Rc (L + 1, xs) 143 (390, lw_ls i, [], M) = pm_Rc (L + 1, xs) 143 (1117, lw_ls i, [], M2) ∧ iv M2 := by
  obtain ⟨v, M1, M2, r1, r2, hM2⟩ := op_wet (xs (i + 1)) (xs (i + 2)) M hM
  obtain ⟨a, rfl⟩ := pm_kI r1 rfl
  refine ⟨M2, ?_, hM2⟩
  simp only [rx_143_390, rx_143_391, rx_143_392, rx_143_393, rx_143_394, rx_143_395, rx_143_396, rx_143_397, rx_143_398, rx_143_399, rx_143_400, rx_143_401, rx_143_404, rx_143_405, rx_143_406, rx_143_407, rx_143_408, rx_143_409, rx_143_410, rx_143_411, rx_143_412, rx_143_413, rx_143_414, rx_143_415, rx_143_418, rx_143_421, rx_143_422_0, rx_143_422_1, pz_ald99 (show i + 1 < L by omega) hL, pz_ald99 (show i + 2 < L by omega) hL, pz_add, pz_bind, pz_psh, r1, r2, if_true]
theorem lw_op_7 {L i : Nat} {xs : Nat → Int32} {M : pm_M} (hL : L ≤ 384) (hi : i + 6 ≤ L) (hM : iv M) : ∃ M2, pm_Rc (L + 1, xs) 143 (423, lw_ls i, [], M) = pm_Rc (L + 1, xs) 143 (1117, lw_ls i, [], M2) ∧ iv M2 := by
  obtain ⟨v, M1, M2, r1, r2, hM2⟩ := op_fell (xs (i + 1)) (xs (i + 2)) M hM
  obtain ⟨a, rfl⟩ := pm_kI r1 rfl
  refine ⟨M2, ?_, hM2⟩
  simp only [rx_143_423, rx_143_424, rx_143_425, rx_143_426, rx_143_427, rx_143_428, rx_143_429, rx_143_430, rx_143_431, rx_143_432, rx_143_433, rx_143_434, rx_143_437, rx_143_438, rx_143_439, rx_143_440, rx_143_441, rx_143_442, rx_143_443, rx_143_444, rx_143_445, rx_143_446, rx_143_447, rx_143_448, rx_143_451, rx_143_454, rx_143_455_0, rx_143_455_1, pz_ald99 (show i + 1 < L by omega) hL, pz_ald99 (show i + 2 < L by omega) hL, pz_add, pz_bind, pz_psh, r1, r2, if_true]
theorem lw_op_8 {L i : Nat} {xs : Nat → Int32} {M : pm_M} (hL : L ≤ 384) (hi : i + 6 ≤ L) (hM : iv M) : ∃ M2, pm_Rc (L + 1, xs) 143 (456, lw_ls i, [], M) = pm_Rc (L + 1, xs) 143 (1117, lw_ls i, [], M2) ∧ iv M2 := by
  obtain ⟨v, M1, M2, r1, r2, hM2⟩ := op_flood (xs (i + 1)) M hM
  obtain ⟨a, rfl⟩ := pm_kI r1 rfl
  refine ⟨M2, ?_, hM2⟩
  simp only [rx_143_456, rx_143_457, rx_143_458, rx_143_459, rx_143_460, rx_143_461, rx_143_462, rx_143_465, rx_143_466, rx_143_467, rx_143_468, rx_143_469, rx_143_470, rx_143_471, rx_143_474, rx_143_477, rx_143_478_0, rx_143_478_1, pz_ald99 (show i + 1 < L by omega) hL, pz_add, pz_bind, pz_psh, r1, r2, if_true]
theorem lw_op_9 {L i : Nat} {xs : Nat → Int32} {M : pm_M} (hL : L ≤ 384) (hi : i + 6 ≤ L) (hM : iv M) : ∃ M2, pm_Rc (L + 1, xs) 143 (479, lw_ls i, [], M) = pm_Rc (L + 1, xs) 143 (1117, lw_ls i, [], M2) ∧ iv M2 := by
  obtain ⟨v, M1, M2, r1, r2, hM2⟩ := op_enough  M hM
  obtain ⟨a, rfl⟩ := pm_kI r1 rfl
  refine ⟨M2, ?_, hM2⟩
  simp only [rx_143_479, rx_143_480, rx_143_483, rx_143_484, rx_143_487, rx_143_490, rx_143_491_0, rx_143_491_1, pz_add, pz_bind, pz_psh, r1, r2, if_true]
theorem lw_op_10 {L i : Nat} {xs : Nat → Int32} {M : pm_M} (hL : L ≤ 384) (hi : i + 6 ≤ L) (hM : iv M) : ∃ M2, pm_Rc (L + 1, xs) 143 (492, lw_ls i, [], M) = pm_Rc (L + 1, xs) 143 (1117, lw_ls i, [], M2) ∧ iv M2 := by
  obtain ⟨v, M1, M2, r1, r2, hM2⟩ := op_plan (xs (i + 1)) (xs (i + 2)) (xs (i + 3)) (xs (i + 4)) (xs (i + 5)) M hM
  obtain ⟨a, rfl⟩ := pm_kI r1 rfl
  refine ⟨M2, ?_, hM2⟩
  simp only [rx_143_492, rx_143_493, rx_143_494, rx_143_495, rx_143_496, rx_143_497, rx_143_498, rx_143_499, rx_143_500, rx_143_501, rx_143_502, rx_143_503, rx_143_504, rx_143_505, rx_143_506, rx_143_507, rx_143_508, rx_143_509, rx_143_510, rx_143_511, rx_143_512, rx_143_513, rx_143_514, rx_143_515, rx_143_516, rx_143_517, rx_143_518, rx_143_521, rx_143_522, rx_143_523, rx_143_524, rx_143_525, rx_143_526, rx_143_527, rx_143_528, rx_143_529, rx_143_530, rx_143_531, rx_143_532, rx_143_533, rx_143_534, rx_143_535, rx_143_536, rx_143_537, rx_143_538, rx_143_539, rx_143_540, rx_143_541, rx_143_542, rx_143_543, rx_143_544, rx_143_545, rx_143_546, rx_143_547, rx_143_550, rx_143_553, rx_143_554_0, rx_143_554_1, pz_ald99 (show i + 1 < L by omega) hL, pz_ald99 (show i + 2 < L by omega) hL, pz_ald99 (show i + 3 < L by omega) hL, pz_ald99 (show i + 4 < L by omega) hL, pz_ald99 (show i + 5 < L by omega) hL, pz_add, pz_bind, pz_psh, r1, r2, if_true]
theorem lw_op_11 {L i : Nat} {xs : Nat → Int32} {M : pm_M} (hL : L ≤ 384) (hi : i + 6 ≤ L) (hM : iv M) : ∃ M2, pm_Rc (L + 1, xs) 143 (555, lw_ls i, [], M) = pm_Rc (L + 1, xs) 143 (1117, lw_ls i, [], M2) ∧ iv M2 := by
  obtain ⟨v, M1, M2, r1, r2, hM2⟩ := op_papers  M hM
  obtain ⟨a, rfl⟩ := pm_kI r1 rfl
  refine ⟨M2, ?_, hM2⟩
  simp only [rx_143_555, rx_143_556, rx_143_559, rx_143_560, rx_143_563, rx_143_566, rx_143_567_0, rx_143_567_1, pz_add, pz_bind, pz_psh, r1, r2, if_true]
theorem lw_op_12 {L i : Nat} {xs : Nat → Int32} {M : pm_M} (hL : L ≤ 384) (hi : i + 6 ≤ L) (hM : iv M) : ∃ M2, pm_Rc (L + 1, xs) 143 (568, lw_ls i, [], M) = pm_Rc (L + 1, xs) 143 (1117, lw_ls i, [], M2) ∧ iv M2 := by
  obtain ⟨v, M1, M2, r1, r2, hM2⟩ := op_most  M hM
  obtain ⟨a, rfl⟩ := pm_kI r1 rfl
  refine ⟨M2, ?_, hM2⟩
  simp only [rx_143_568, rx_143_569, rx_143_572, rx_143_573, rx_143_576, rx_143_579, rx_143_580_0, rx_143_580_1, pz_add, pz_bind, pz_psh, r1, r2, if_true]
theorem lw_op_13 {L i : Nat} {xs : Nat → Int32} {M : pm_M} (hL : L ≤ 384) (hi : i + 6 ≤ L) (hM : iv M) : ∃ M2, pm_Rc (L + 1, xs) 143 (581, lw_ls i, [], M) = pm_Rc (L + 1, xs) 143 (1117, lw_ls i, [], M2) ∧ iv M2 := by
  obtain ⟨v, M1, M2, r1, r2, hM2⟩ := op_shut (xs (i + 1)) M hM
  obtain ⟨a, rfl⟩ := pm_kI r1 rfl
  refine ⟨M2, ?_, hM2⟩
  simp only [rx_143_581, rx_143_582, rx_143_583, rx_143_584, rx_143_585, rx_143_586, rx_143_587, rx_143_590, rx_143_591, rx_143_592, rx_143_593, rx_143_594, rx_143_595, rx_143_596, rx_143_599, rx_143_602, rx_143_603_0, rx_143_603_1, pz_ald99 (show i + 1 < L by omega) hL, pz_add, pz_bind, pz_psh, r1, r2, if_true]
theorem lw_op_14 {L i : Nat} {xs : Nat → Int32} {M : pm_M} (hL : L ≤ 384) (hi : i + 6 ≤ L) (hM : iv M) : ∃ M2, pm_Rc (L + 1, xs) 143 (604, lw_ls i, [], M) = pm_Rc (L + 1, xs) 143 (1117, lw_ls i, [], M2) ∧ iv M2 := by
  obtain ⟨v, M1, M2, r1, r2, hM2⟩ := op_reading (xs (i + 1)) (xs (i + 2)) (xs (i + 3)) M hM
  obtain ⟨a, rfl⟩ := pm_kI r1 rfl
  refine ⟨M2, ?_, hM2⟩
  simp only [rx_143_604, rx_143_605, rx_143_606, rx_143_607, rx_143_608, rx_143_609, rx_143_610, rx_143_611, rx_143_612, rx_143_613, rx_143_614, rx_143_615, rx_143_616, rx_143_617, rx_143_618, rx_143_619, rx_143_620, rx_143_623, rx_143_624, rx_143_625, rx_143_626, rx_143_627, rx_143_628, rx_143_629, rx_143_630, rx_143_631, rx_143_632, rx_143_633, rx_143_634, rx_143_635, rx_143_636, rx_143_637, rx_143_638, rx_143_639, rx_143_642, rx_143_645, rx_143_646_0, rx_143_646_1, pz_ald99 (show i + 1 < L by omega) hL, pz_ald99 (show i + 2 < L by omega) hL, pz_ald99 (show i + 3 < L by omega) hL, pz_add, pz_bind, pz_psh, r1, r2, if_true]
theorem lw_op_15 {L i : Nat} {xs : Nat → Int32} {M : pm_M} (hL : L ≤ 384) (hi : i + 6 ≤ L) (hM : iv M) : ∃ M2, pm_Rc (L + 1, xs) 143 (647, lw_ls i, [], M) = pm_Rc (L + 1, xs) 143 (1117, lw_ls i, [], M2) ∧ iv M2 := by
  obtain ⟨v, M1, M2, r1, r2, hM2⟩ := op_back (xs (i + 1)) M hM
  obtain ⟨a, rfl⟩ := pm_kI r1 rfl
  refine ⟨M2, ?_, hM2⟩
  simp only [rx_143_647, rx_143_648, rx_143_649, rx_143_650, rx_143_651, rx_143_652, rx_143_653, rx_143_656, rx_143_657, rx_143_658, rx_143_659, rx_143_660, rx_143_661, rx_143_662, rx_143_665, rx_143_668, rx_143_669_0, rx_143_669_1, pz_ald99 (show i + 1 < L by omega) hL, pz_add, pz_bind, pz_psh, r1, r2, if_true]
theorem lw_op_16 {L i : Nat} {xs : Nat → Int32} {M : pm_M} (hL : L ≤ 384) (hi : i + 6 ≤ L) (hM : iv M) : ∃ M2, pm_Rc (L + 1, xs) 143 (670, lw_ls i, [], M) = pm_Rc (L + 1, xs) 143 (1117, lw_ls i, [], M2) ∧ iv M2 := by
  obtain ⟨v, M1, M2, r1, r2, hM2⟩ := op_limits (xs (i + 1)) M hM
  obtain ⟨a, rfl⟩ := pm_kI r1 rfl
  refine ⟨M2, ?_, hM2⟩
  simp only [rx_143_670, rx_143_671, rx_143_672, rx_143_673, rx_143_674, rx_143_675, rx_143_676, rx_143_679, rx_143_680, rx_143_681, rx_143_682, rx_143_683, rx_143_684, rx_143_685, rx_143_688, rx_143_691, rx_143_692_0, rx_143_692_1, pz_ald99 (show i + 1 < L by omega) hL, pz_add, pz_bind, pz_psh, r1, r2, if_true]
theorem lw_op_17 {L i : Nat} {xs : Nat → Int32} {M : pm_M} (hL : L ≤ 384) (hi : i + 6 ≤ L) (hM : iv M) : ∃ M2, pm_Rc (L + 1, xs) 143 (693, lw_ls i, [], M) = pm_Rc (L + 1, xs) 143 (1117, lw_ls i, [], M2) ∧ iv M2 := by
  obtain ⟨v, M1, M2, r1, r2, hM2⟩ := op_kinds (xs (i + 1)) M hM
  obtain ⟨a, rfl⟩ := pm_kI r1 rfl
  refine ⟨M2, ?_, hM2⟩
  simp only [rx_143_693, rx_143_694, rx_143_695, rx_143_696, rx_143_697, rx_143_698, rx_143_699, rx_143_702, rx_143_703, rx_143_704, rx_143_705, rx_143_706, rx_143_707, rx_143_708, rx_143_711, rx_143_714, rx_143_715_0, rx_143_715_1, pz_ald99 (show i + 1 < L by omega) hL, pz_add, pz_bind, pz_psh, r1, r2, if_true]
theorem lw_op_18 {L i : Nat} {xs : Nat → Int32} {M : pm_M} (hL : L ≤ 384) (hi : i + 6 ≤ L) (hM : iv M) : ∃ M2, pm_Rc (L + 1, xs) 143 (716, lw_ls i, [], M) = pm_Rc (L + 1, xs) 143 (1117, lw_ls i, [], M2) ∧ iv M2 := by
  obtain ⟨v, M1, M2, r1, r2, hM2⟩ := op_rains (xs (i + 1)) M hM
  obtain ⟨a, rfl⟩ := pm_kI r1 rfl
  refine ⟨M2, ?_, hM2⟩
  simp only [rx_143_716, rx_143_717, rx_143_718, rx_143_719, rx_143_720, rx_143_721, rx_143_722, rx_143_725, rx_143_726, rx_143_727, rx_143_728, rx_143_729, rx_143_730, rx_143_731, rx_143_734, rx_143_737, rx_143_738_0, rx_143_738_1, pz_ald99 (show i + 1 < L by omega) hL, pz_add, pz_bind, pz_psh, r1, r2, if_true]
theorem lw_op_19 {L i : Nat} {xs : Nat → Int32} {M : pm_M} (hL : L ≤ 384) (hi : i + 6 ≤ L) (hM : iv M) : ∃ M2, pm_Rc (L + 1, xs) 143 (739, lw_ls i, [], M) = pm_Rc (L + 1, xs) 143 (1117, lw_ls i, [], M2) ∧ iv M2 := by
  obtain ⟨v, M1, M2, r1, r2, hM2⟩ := op_odds (xs (i + 1)) (xs (i + 2)) M hM
  obtain ⟨a, rfl⟩ := pm_kL r1 rfl
  refine ⟨M2, ?_, hM2⟩
  simp only [rx_143_739, rx_143_740, rx_143_741, rx_143_742, rx_143_743, rx_143_744, rx_143_745, rx_143_746, rx_143_747, rx_143_748, rx_143_749, rx_143_750, rx_143_753, rx_143_754, rx_143_755, rx_143_756, rx_143_757, rx_143_758, rx_143_759, rx_143_760, rx_143_761, rx_143_762, rx_143_763, rx_143_764, rx_143_767, rx_143_768, rx_143_771, rx_143_772_0, rx_143_772_1, pz_ald99 (show i + 1 < L by omega) hL, pz_ald99 (show i + 2 < L by omega) hL, pz_add, pz_bind, pz_psh, r1, r2, pz_lcmp, if_true]
theorem lw_op_20 {L i : Nat} {xs : Nat → Int32} {M : pm_M} (hL : L ≤ 384) (hi : i + 6 ≤ L) (hM : iv M) : ∃ M2, pm_Rc (L + 1, xs) 143 (773, lw_ls i, [], M) = pm_Rc (L + 1, xs) 143 (1117, lw_ls i, [], M2) ∧ iv M2 := by
  obtain ⟨v, M1, M2, r1, r2, hM2⟩ := op_sheet (xs (i + 1)) (xs (i + 2)) (xs (i + 3)) M hM
  obtain ⟨a, rfl⟩ := pm_kI r1 rfl
  refine ⟨M2, ?_, hM2⟩
  simp only [rx_143_773, rx_143_774, rx_143_775, rx_143_776, rx_143_777, rx_143_778, rx_143_779, rx_143_780, rx_143_781, rx_143_782, rx_143_783, rx_143_784, rx_143_785, rx_143_786, rx_143_787, rx_143_788, rx_143_789, rx_143_792, rx_143_793, rx_143_794, rx_143_795, rx_143_796, rx_143_797, rx_143_798, rx_143_799, rx_143_800, rx_143_801, rx_143_802, rx_143_803, rx_143_804, rx_143_805, rx_143_806, rx_143_807, rx_143_808, rx_143_811, rx_143_814, rx_143_815_0, rx_143_815_1, pz_ald99 (show i + 1 < L by omega) hL, pz_ald99 (show i + 2 < L by omega) hL, pz_ald99 (show i + 3 < L by omega) hL, pz_add, pz_bind, pz_psh, r1, r2, if_true]
theorem lw_op_21 {L i : Nat} {xs : Nat → Int32} {M : pm_M} (hL : L ≤ 384) (hi : i + 6 ≤ L) (hM : iv M) : ∃ M2, pm_Rc (L + 1, xs) 143 (816, lw_ls i, [], M) = pm_Rc (L + 1, xs) 143 (1117, lw_ls i, [], M2) ∧ iv M2 := by
  obtain ⟨v, M1, M2, r1, r2, hM2⟩ := op_lose (xs (i + 1)) M hM
  obtain ⟨a, rfl⟩ := pm_kI r1 rfl
  refine ⟨M2, ?_, hM2⟩
  simp only [rx_143_816, rx_143_817, rx_143_818, rx_143_819, rx_143_820, rx_143_821, rx_143_822, rx_143_825, rx_143_826, rx_143_827, rx_143_828, rx_143_829, rx_143_830, rx_143_831, rx_143_834, rx_143_837, rx_143_838_0, rx_143_838_1, pz_ald99 (show i + 1 < L by omega) hL, pz_add, pz_bind, pz_psh, r1, r2, if_true]
theorem lw_op_22 {L i : Nat} {xs : Nat → Int32} {M : pm_M} (hL : L ≤ 384) (hi : i + 6 ≤ L) (hM : iv M) : ∃ M2, pm_Rc (L + 1, xs) 143 (839, lw_ls i, [], M) = pm_Rc (L + 1, xs) 143 (1117, lw_ls i, [], M2) ∧ iv M2 := by
  obtain ⟨v, M1, M2, r1, r2, hM2⟩ := op_put (xs (i + 1)) (xs (i + 2)) (xs (i + 3)) M hM
  obtain ⟨a, rfl⟩ := pm_kI r1 rfl
  refine ⟨M2, ?_, hM2⟩
  simp only [rx_143_839, rx_143_840, rx_143_841, rx_143_842, rx_143_843, rx_143_844, rx_143_845, rx_143_846, rx_143_847, rx_143_848, rx_143_849, rx_143_850, rx_143_851, rx_143_852, rx_143_853, rx_143_854, rx_143_855, rx_143_858, rx_143_859, rx_143_860, rx_143_861, rx_143_862, rx_143_863, rx_143_864, rx_143_865, rx_143_866, rx_143_867, rx_143_868, rx_143_869, rx_143_870, rx_143_871, rx_143_872, rx_143_873, rx_143_874, rx_143_877, rx_143_880, rx_143_881_0, rx_143_881_1, pz_ald99 (show i + 1 < L by omega) hL, pz_ald99 (show i + 2 < L by omega) hL, pz_ald99 (show i + 3 < L by omega) hL, pz_add, pz_bind, pz_psh, r1, r2, if_true]
theorem lw_op_23 {L i : Nat} {xs : Nat → Int32} {M : pm_M} (hL : L ≤ 384) (hi : i + 6 ≤ L) (hM : iv M) : ∃ M2, pm_Rc (L + 1, xs) 143 (882, lw_ls i, [], M) = pm_Rc (L + 1, xs) 143 (1117, lw_ls i, [], M2) ∧ iv M2 := by
  obtain ⟨v, M1, M2, r1, r2, hM2⟩ := op_cell (xs (i + 1)) (xs (i + 2)) (xs (i + 3)) M hM
  obtain ⟨a, rfl⟩ := pm_kL r1 rfl
  refine ⟨M2, ?_, hM2⟩
  simp only [rx_143_882, rx_143_883, rx_143_884, rx_143_885, rx_143_886, rx_143_887, rx_143_888, rx_143_889, rx_143_890, rx_143_891, rx_143_892, rx_143_893, rx_143_894, rx_143_895, rx_143_896, rx_143_897, rx_143_898, rx_143_901, rx_143_902, rx_143_903, rx_143_904, rx_143_905, rx_143_906, rx_143_907, rx_143_908, rx_143_909, rx_143_910, rx_143_911, rx_143_912, rx_143_913, rx_143_914, rx_143_915, rx_143_916, rx_143_917, rx_143_920, rx_143_921, rx_143_924, rx_143_925_0, rx_143_925_1, pz_ald99 (show i + 1 < L by omega) hL, pz_ald99 (show i + 2 < L by omega) hL, pz_ald99 (show i + 3 < L by omega) hL, pz_add, pz_bind, pz_psh, r1, r2, pz_lcmp, if_true]
theorem lw_op_24 {L i : Nat} {xs : Nat → Int32} {M : pm_M} (hL : L ≤ 384) (hi : i + 6 ≤ L) (hM : iv M) : ∃ M2, pm_Rc (L + 1, xs) 143 (926, lw_ls i, [], M) = pm_Rc (L + 1, xs) 143 (1117, lw_ls i, [], M2) ∧ iv M2 := by
  obtain ⟨v, M1, M2, r1, r2, hM2⟩ := op_copy (xs (i + 1)) (xs (i + 2)) (xs (i + 3)) (xs (i + 4)) (xs (i + 5)) M hM
  obtain ⟨a, rfl⟩ := pm_kI r1 rfl
  refine ⟨M2, ?_, hM2⟩
  simp only [rx_143_926, rx_143_927, rx_143_928, rx_143_929, rx_143_930, rx_143_931, rx_143_932, rx_143_933, rx_143_934, rx_143_935, rx_143_936, rx_143_937, rx_143_938, rx_143_939, rx_143_940, rx_143_941, rx_143_942, rx_143_943, rx_143_944, rx_143_945, rx_143_946, rx_143_947, rx_143_948, rx_143_949, rx_143_950, rx_143_951, rx_143_952, rx_143_955, rx_143_956, rx_143_957, rx_143_958, rx_143_959, rx_143_960, rx_143_961, rx_143_962, rx_143_963, rx_143_964, rx_143_965, rx_143_966, rx_143_967, rx_143_968, rx_143_969, rx_143_970, rx_143_971, rx_143_972, rx_143_973, rx_143_974, rx_143_975, rx_143_976, rx_143_977, rx_143_978, rx_143_979, rx_143_980, rx_143_981, rx_143_984, rx_143_987, rx_143_988_0, rx_143_988_1, pz_ald99 (show i + 1 < L by omega) hL, pz_ald99 (show i + 2 < L by omega) hL, pz_ald99 (show i + 3 < L by omega) hL, pz_ald99 (show i + 4 < L by omega) hL, pz_ald99 (show i + 5 < L by omega) hL, pz_add, pz_bind, pz_psh, r1, r2, if_true]
theorem lw_op_25 {L i : Nat} {xs : Nat → Int32} {M : pm_M} (hL : L ≤ 384) (hi : i + 6 ≤ L) (hM : iv M) : ∃ M2, pm_Rc (L + 1, xs) 143 (989, lw_ls i, [], M) = pm_Rc (L + 1, xs) 143 (1117, lw_ls i, [], M2) ∧ iv M2 := by
  obtain ⟨v, M1, M2, r1, r2, hM2⟩ := op_tell (xs (i + 1)) M hM
  obtain ⟨a, rfl⟩ := pm_kI r1 rfl
  refine ⟨M2, ?_, hM2⟩
  simp only [rx_143_989, rx_143_990, rx_143_991, rx_143_992, rx_143_993, rx_143_994, rx_143_995, rx_143_998, rx_143_999, rx_143_1000, rx_143_1001, rx_143_1002, rx_143_1003, rx_143_1004, rx_143_1007, rx_143_1010, rx_143_1011_0, rx_143_1011_1, pz_ald99 (show i + 1 < L by omega) hL, pz_add, pz_bind, pz_psh, r1, r2, if_true]
theorem lw_op_26 {L i : Nat} {xs : Nat → Int32} {M : pm_M} (hL : L ≤ 384) (hi : i + 6 ≤ L) (hM : iv M) : ∃ M2, pm_Rc (L + 1, xs) 143 (1012, lw_ls i, [], M) = pm_Rc (L + 1, xs) 143 (1117, lw_ls i, [], M2) ∧ iv M2 := by
  obtain ⟨v, M1, M2, r1, r2, hM2⟩ := op_stamp (xs (i + 1)) M hM
  obtain ⟨a, rfl⟩ := pm_kI r1 rfl
  refine ⟨M2, ?_, hM2⟩
  simp only [rx_143_1012, rx_143_1013, rx_143_1014, rx_143_1015, rx_143_1016, rx_143_1017, rx_143_1018, rx_143_1021, rx_143_1022, rx_143_1023, rx_143_1024, rx_143_1025, rx_143_1026, rx_143_1027, rx_143_1030, rx_143_1033, rx_143_1034_0, rx_143_1034_1, pz_ald99 (show i + 1 < L by omega) hL, pz_add, pz_bind, pz_psh, r1, r2, if_true]
theorem lw_op_27 {L i : Nat} {xs : Nat → Int32} {M : pm_M} (hL : L ≤ 384) (hi : i + 6 ≤ L) (hM : iv M) : ∃ M2, pm_Rc (L + 1, xs) 143 (1035, lw_ls i, [], M) = pm_Rc (L + 1, xs) 143 (1117, lw_ls i, [], M2) ∧ iv M2 := by
  obtain ⟨v, M1, M2, r1, r2, hM2⟩ := op_as (xs (i + 1)) (xs (i + 2)) M hM
  obtain ⟨a, rfl⟩ := pm_kI r1 rfl
  refine ⟨M2, ?_, hM2⟩
  simp only [rx_143_1035, rx_143_1036, rx_143_1037, rx_143_1038, rx_143_1039, rx_143_1040, rx_143_1041, rx_143_1042, rx_143_1043, rx_143_1044, rx_143_1045, rx_143_1046, rx_143_1049, rx_143_1050, rx_143_1051, rx_143_1052, rx_143_1053, rx_143_1054, rx_143_1055, rx_143_1056, rx_143_1057, rx_143_1058, rx_143_1059, rx_143_1060, rx_143_1063, rx_143_1066, rx_143_1067_0, rx_143_1067_1, pz_ald99 (show i + 1 < L by omega) hL, pz_ald99 (show i + 2 < L by omega) hL, pz_add, pz_bind, pz_psh, r1, r2, if_true]
theorem lw_op_28 {L i : Nat} {xs : Nat → Int32} {M : pm_M} (hL : L ≤ 384) (hi : i + 6 ≤ L) (hM : iv M) : ∃ M2, pm_Rc (L + 1, xs) 143 (1068, lw_ls i, [], M) = pm_Rc (L + 1, xs) 143 (1117, lw_ls i, [], M2) ∧ iv M2 := by
  obtain ⟨v, M1, M2, r1, r2, hM2⟩ := op_trace  M hM
  obtain ⟨a, rfl⟩ := pm_kI r1 rfl
  refine ⟨M2, ?_, hM2⟩
  simp only [rx_143_1068, rx_143_1069, rx_143_1072, rx_143_1073, rx_143_1076, rx_143_1079, rx_143_1080_0, rx_143_1080_1, pz_add, pz_bind, pz_psh, r1, r2, if_true]
theorem lw_op_29 {L i : Nat} {xs : Nat → Int32} {M : pm_M} (hL : L ≤ 384) (hi : i + 6 ≤ L) (hM : iv M) : ∃ M2, pm_Rc (L + 1, xs) 143 (1081, lw_ls i, [], M) = pm_Rc (L + 1, xs) 143 (1117, lw_ls i, [], M2) ∧ iv M2 := by
  obtain ⟨v, M1, M2, r1, r2, hM2⟩ := op_fault  M hM
  obtain ⟨a, rfl⟩ := pm_kI r1 rfl
  refine ⟨M2, ?_, hM2⟩
  simp only [rx_143_1081, rx_143_1082, rx_143_1085, rx_143_1086, rx_143_1089, rx_143_1092, rx_143_1093_0, rx_143_1093_1, pz_add, pz_bind, pz_psh, r1, r2, if_true]
theorem lw_op_30 {L i : Nat} {xs : Nat → Int32} {M : pm_M} (hL : L ≤ 384) (hi : i + 6 ≤ L) (hM : iv M) : ∃ M2, pm_Rc (L + 1, xs) 143 (1094, lw_ls i, [], M) = pm_Rc (L + 1, xs) 143 (1117, lw_ls i, [], M2) ∧ iv M2 := by
  obtain ⟨v, M1, M2, r1, r2, hM2⟩ := op_many (xs (i + 1)) M hM
  obtain ⟨a, rfl⟩ := pm_kI r1 rfl
  refine ⟨M2, ?_, hM2⟩
  simp only [rx_143_1094, rx_143_1095, rx_143_1096, rx_143_1097, rx_143_1098, rx_143_1099, rx_143_1100, rx_143_1103, rx_143_1104, rx_143_1105, rx_143_1106, rx_143_1107, rx_143_1108, rx_143_1109, rx_143_1112, rx_143_1115, rx_143_1116_0, rx_143_1116_1, pz_ald99 (show i + 1 < L by omega) hL, pz_add, pz_bind, pz_psh, r1, r2, if_true]
theorem lw_loop {L : Nat} {xs : Nat → Int32} (hL : L ≤ 384) : ∀ (n i : Nat), L < i + n + 6 → i ≤ 384 → ∀ M : pm_M, iv M → ∃ M2, pm_Rc (L + 1, xs) 143 (18, lw_ls i, [], M) = some (some (pm_i (nI 1)), M2) := by
  intro n
  induction n with
  | zero =>
    intro i hn hi M hM
    have hx : pm_aln (L + 1, xs) 99 = some (nI L) := rfl
    refine ⟨M, ?_⟩
    rw [rx_143_18]
    simp only [rx_143_19, rx_143_20, rx_143_21, rx_143_23, rx_143_24, rx_143_1123, rx_143_1124_0, rx_143_1124_1, hx, pz_bind, (pz_over hL (show i ≤ 400 by omega)), show L < i + 6 by omega, if_true]
  | succ n ih =>
    intro i hn hi M hM
    have hx : pm_aln (L + 1, xs) 99 = some (nI L) := rfl
    by_cases q : L < i + 6
    · refine ⟨M, ?_⟩
      rw [rx_143_18]
      simp only [rx_143_19, rx_143_20, rx_143_21, rx_143_23, rx_143_24, rx_143_1123, rx_143_1124_0, rx_143_1124_1, hx, pz_bind, (pz_over hL (show i ≤ 400 by omega)), q, if_true]
    · obtain ⟨k, hk, ek⟩ := pz_and31 (xs i)
      have hgo : pm_Rc (L + 1, xs) 143 (18, lw_ls i, [], M) = pm_Rc (L + 1, xs) 143 (33, lw_ls i, [pm_i (nI k)], M) := by
        rw [rx_143_18]
        simp only [rx_143_19, rx_143_20, rx_143_21, rx_143_23, rx_143_24, rx_143_27, rx_143_28, rx_143_29, rx_143_30, rx_143_32, hx, pz_bind, (pz_over hL (show i ≤ 400 by omega)), q, if_false, pz_ald99 (show i < L by omega) hL, ek]
      have hback : ∀ M2 : pm_M, pm_Rc (L + 1, xs) 143 (1117, lw_ls i, [], M2) = pm_Rc (L + 1, xs) 143 (18, lw_ls (i + 6), [], M2) := fun M2 => by
        simp only [rx_143_1117, rx_143_1120, pz_add, pz_nlz_r]
      have hcase : ∃ M2, pm_Rc (L + 1, xs) 143 (33, lw_ls i, [pm_i (nI k)], M) = pm_Rc (L + 1, xs) 143 (1117, lw_ls i, [], M2) ∧ iv M2 := by
        rcases (show k = 0 ∨ k = 1 ∨ k = 2 ∨ k = 3 ∨ k = 4 ∨ k = 5 ∨ k = 6 ∨ k = 7 ∨ k = 8 ∨ k = 9 ∨ k = 10 ∨ k = 11 ∨ k = 12 ∨ k = 13 ∨ k = 14 ∨ k = 15 ∨ k = 16 ∨ k = 17 ∨ k = 18 ∨ k = 19 ∨ k = 20 ∨ k = 21 ∨ k = 22 ∨ k = 23 ∨ k = 24 ∨ k = 25 ∨ k = 26 ∨ k = 27 ∨ k = 28 ∨ k = 29 ∨ k = 30 ∨ k = 31 by omega) with rfl | rfl | rfl | rfl | rfl | rfl | rfl | rfl | rfl | rfl | rfl | rfl | rfl | rfl | rfl | rfl | rfl | rfl | rfl | rfl | rfl | rfl | rfl | rfl | rfl | rfl | rfl | rfl | rfl | rfl | rfl | rfl
        · rw [rx_143_33_0]
          exact lw_op_0 hL (by omega) hM
        · rw [rx_143_33_1]
          exact lw_op_1 hL (by omega) hM
        · rw [rx_143_33_2]
          exact lw_op_2 hL (by omega) hM
        · rw [rx_143_33_3]
          exact lw_op_3 hL (by omega) hM
        · rw [rx_143_33_4]
          exact lw_op_4 hL (by omega) hM
        · rw [rx_143_33_5]
          exact lw_op_5 hL (by omega) hM
        · rw [rx_143_33_6]
          exact lw_op_6 hL (by omega) hM
        · rw [rx_143_33_7]
          exact lw_op_7 hL (by omega) hM
        · rw [rx_143_33_8]
          exact lw_op_8 hL (by omega) hM
        · rw [rx_143_33_9]
          exact lw_op_9 hL (by omega) hM
        · rw [rx_143_33_10]
          exact lw_op_10 hL (by omega) hM
        · rw [rx_143_33_11]
          exact lw_op_11 hL (by omega) hM
        · rw [rx_143_33_12]
          exact lw_op_12 hL (by omega) hM
        · rw [rx_143_33_13]
          exact lw_op_13 hL (by omega) hM
        · rw [rx_143_33_14]
          exact lw_op_14 hL (by omega) hM
        · rw [rx_143_33_15]
          exact lw_op_15 hL (by omega) hM
        · rw [rx_143_33_16]
          exact lw_op_16 hL (by omega) hM
        · rw [rx_143_33_17]
          exact lw_op_17 hL (by omega) hM
        · rw [rx_143_33_18]
          exact lw_op_18 hL (by omega) hM
        · rw [rx_143_33_19]
          exact lw_op_19 hL (by omega) hM
        · rw [rx_143_33_20]
          exact lw_op_20 hL (by omega) hM
        · rw [rx_143_33_21]
          exact lw_op_21 hL (by omega) hM
        · rw [rx_143_33_22]
          exact lw_op_22 hL (by omega) hM
        · rw [rx_143_33_23]
          exact lw_op_23 hL (by omega) hM
        · rw [rx_143_33_24]
          exact lw_op_24 hL (by omega) hM
        · rw [rx_143_33_25]
          exact lw_op_25 hL (by omega) hM
        · rw [rx_143_33_26]
          exact lw_op_26 hL (by omega) hM
        · rw [rx_143_33_27]
          exact lw_op_27 hL (by omega) hM
        · rw [rx_143_33_28]
          exact lw_op_28 hL (by omega) hM
        · rw [rx_143_33_29]
          exact lw_op_29 hL (by omega) hM
        · rw [rx_143_33_30]
          exact lw_op_30 hL (by omega) hM
        · rw [rx_143_33_d]
          exact ⟨M, rfl, hM⟩
      obtain ⟨M2, r1, hM2⟩ := hcase
      obtain ⟨M3, r2⟩ := ih (i + 6) (by omega) (by omega) M2 hM2
      refine ⟨M3, ?_⟩
      rw [hgo, r1, hback]
      exact r2
theorem lw_runs {L : Nat} {xs : Nat → Int32} (hL : L ≤ 384) {M : pm_M} (hM : iv M) : ∃ n M2, pm_ex n (L + 1, xs) 143 (18, lw_ls 0, [], M) = some (some (pm_i (nI 1)), M2) := by
  obtain ⟨M2, h⟩ := lw_loop (xs := xs) hL L 0 (by omega) (by omega) M hM
  obtain ⟨n, hn⟩ := pm_Rc_iff.mp h
  exact ⟨n, M2, hn⟩
