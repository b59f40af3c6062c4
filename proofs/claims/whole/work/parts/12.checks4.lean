/-! The tables' rows, all of them. -/
theorem pm_chunk {α : Type} {l : List α} {f : α → Bool} {b n : Nat} (hb : 0 < b) (hn : l.length ≤ b * n) (h : ∀ j, j < n → ((l.drop (b * j)).take b).all f = true) : l.all f = true := by
  rw [List.all_eq_true]
  intro r hr
  obtain ⟨i, hi⟩ := List.getElem?_of_mem hr
  have hlt : i < l.length := (List.getElem?_eq_some_iff.mp hi).1
  have hd : i = b * (i / b) + i % b := (Nat.div_add_mod i b).symm
  have hm : i % b < b := Nat.mod_lt _ hb
  have hj : i / b < n := by
    rw [Nat.div_lt_iff_lt_mul hb, Nat.mul_comm]
    omega
  refine List.all_eq_true.mp (h (i / b) hj) r ?_
  apply List.mem_of_getElem? (i := i % b)
  rw [List.getElem?_take, if_pos hm, List.getElem?_drop, ← hd]
  exact hi
theorem pm_rc_0 : ∀ j, j < 0 → (((pm_rwf 143).drop (25 * j)).take 25).all (pm_okr 143) = true := lt_0
theorem pm_rc_1 : ∀ j, j < 1 → (((pm_rwf 143).drop (25 * j)).take 25).all (pm_okr 143) = true := lt_s pm_rc_0 pm_rl_0
theorem pm_rc_2 : ∀ j, j < 2 → (((pm_rwf 143).drop (25 * j)).take 25).all (pm_okr 143) = true := lt_s pm_rc_1 pm_rl_1
theorem pm_rc_3 : ∀ j, j < 3 → (((pm_rwf 143).drop (25 * j)).take 25).all (pm_okr 143) = true := lt_s pm_rc_2 pm_rl_2
theorem pm_rc_4 : ∀ j, j < 4 → (((pm_rwf 143).drop (25 * j)).take 25).all (pm_okr 143) = true := lt_s pm_rc_3 pm_rl_3
theorem pm_rc_5 : ∀ j, j < 5 → (((pm_rwf 143).drop (25 * j)).take 25).all (pm_okr 143) = true := lt_s pm_rc_4 pm_rl_4
theorem pm_rc_6 : ∀ j, j < 6 → (((pm_rwf 143).drop (25 * j)).take 25).all (pm_okr 143) = true := lt_s pm_rc_5 pm_rl_5
theorem pm_rc_7 : ∀ j, j < 7 → (((pm_rwf 143).drop (25 * j)).take 25).all (pm_okr 143) = true := lt_s pm_rc_6 pm_rl_6
theorem pm_rc_8 : ∀ j, j < 8 → (((pm_rwf 143).drop (25 * j)).take 25).all (pm_okr 143) = true := lt_s pm_rc_7 pm_rl_7
theorem pm_rc_9 : ∀ j, j < 9 → (((pm_rwf 143).drop (25 * j)).take 25).all (pm_okr 143) = true := lt_s pm_rc_8 pm_rl_8
theorem pm_rc_10 : ∀ j, j < 10 → (((pm_rwf 143).drop (25 * j)).take 25).all (pm_okr 143) = true := lt_s pm_rc_9 pm_rl_9
theorem pm_rc_11 : ∀ j, j < 11 → (((pm_rwf 143).drop (25 * j)).take 25).all (pm_okr 143) = true := lt_s pm_rc_10 pm_rl_10
theorem pm_rc_12 : ∀ j, j < 12 → (((pm_rwf 143).drop (25 * j)).take 25).all (pm_okr 143) = true := lt_s pm_rc_11 pm_rl_11
theorem pm_rc_13 : ∀ j, j < 13 → (((pm_rwf 143).drop (25 * j)).take 25).all (pm_okr 143) = true := lt_s pm_rc_12 pm_rl_12
theorem pm_rc_14 : ∀ j, j < 14 → (((pm_rwf 143).drop (25 * j)).take 25).all (pm_okr 143) = true := lt_s pm_rc_13 pm_rl_13
theorem pm_rc_15 : ∀ j, j < 15 → (((pm_rwf 143).drop (25 * j)).take 25).all (pm_okr 143) = true := lt_s pm_rc_14 pm_rl_14
theorem pm_rc_16 : ∀ j, j < 16 → (((pm_rwf 143).drop (25 * j)).take 25).all (pm_okr 143) = true := lt_s pm_rc_15 pm_rl_15
theorem pm_rc_17 : ∀ j, j < 17 → (((pm_rwf 143).drop (25 * j)).take 25).all (pm_okr 143) = true := lt_s pm_rc_16 pm_rl_16
theorem pm_rc_18 : ∀ j, j < 18 → (((pm_rwf 143).drop (25 * j)).take 25).all (pm_okr 143) = true := lt_s pm_rc_17 pm_rl_17
theorem pm_rc_19 : ∀ j, j < 19 → (((pm_rwf 143).drop (25 * j)).take 25).all (pm_okr 143) = true := lt_s pm_rc_18 pm_rl_18
theorem pm_rc_20 : ∀ j, j < 20 → (((pm_rwf 143).drop (25 * j)).take 25).all (pm_okr 143) = true := lt_s pm_rc_19 pm_rl_19
theorem pm_rc_21 : ∀ j, j < 21 → (((pm_rwf 143).drop (25 * j)).take 25).all (pm_okr 143) = true := lt_s pm_rc_20 pm_rl_20
theorem pm_rc_22 : ∀ j, j < 22 → (((pm_rwf 143).drop (25 * j)).take 25).all (pm_okr 143) = true := lt_s pm_rc_21 pm_rl_21
theorem pm_rc_23 : ∀ j, j < 23 → (((pm_rwf 143).drop (25 * j)).take 25).all (pm_okr 143) = true := lt_s pm_rc_22 pm_rl_22
theorem pm_rc_24 : ∀ j, j < 24 → (((pm_rwf 143).drop (25 * j)).take 25).all (pm_okr 143) = true := lt_s pm_rc_23 pm_rl_23
theorem pm_rc_25 : ∀ j, j < 25 → (((pm_rwf 143).drop (25 * j)).take 25).all (pm_okr 143) = true := lt_s pm_rc_24 pm_rl_24
theorem pm_rc_26 : ∀ j, j < 26 → (((pm_rwf 143).drop (25 * j)).take 25).all (pm_okr 143) = true := lt_s pm_rc_25 pm_rl_25
theorem pm_rc_27 : ∀ j, j < 27 → (((pm_rwf 143).drop (25 * j)).take 25).all (pm_okr 143) = true := lt_s pm_rc_26 pm_rl_26
theorem pm_rc_28 : ∀ j, j < 28 → (((pm_rwf 143).drop (25 * j)).take 25).all (pm_okr 143) = true := lt_s pm_rc_27 pm_rl_27
theorem pm_rc_29 : ∀ j, j < 29 → (((pm_rwf 143).drop (25 * j)).take 25).all (pm_okr 143) = true := lt_s pm_rc_28 pm_rl_28
theorem pm_rc_30 : ∀ j, j < 30 → (((pm_rwf 143).drop (25 * j)).take 25).all (pm_okr 143) = true := lt_s pm_rc_29 pm_rl_29
theorem pm_rc_31 : ∀ j, j < 31 → (((pm_rwf 143).drop (25 * j)).take 25).all (pm_okr 143) = true := lt_s pm_rc_30 pm_rl_30
theorem pm_rc_32 : ∀ j, j < 32 → (((pm_rwf 143).drop (25 * j)).take 25).all (pm_okr 143) = true := lt_s pm_rc_31 pm_rl_31
theorem pm_r_143 : (pm_rwf 143).all (pm_okr 143) = true := pm_chunk (b := 25) (n := 32) (by decide) (by decide +kernel) pm_rc_32
theorem pm_rr_144 : ∀ a, a < 144 → (pm_rwf a).all (pm_okr a) = true := lt_s pm_rr_143 pm_r_143
theorem pm_okt_ok : pm_okt := by
  intro y r hr
  by_cases hy : y < 144
  · exact List.all_eq_true.mp (pm_rr_144 y hy) r hr
  · have h1 : pm_rws[y]? = none := List.getElem?_eq_none (by show 144 ≤ y; omega)
    unfold pm_rwf at hr
    rw [h1] at hr
    cases hr

