/-! Reads and writes, numbers. -/
theorem pz_in {f n : Nat} (h : f < n) (hn : n < 1000) : pm_in (nI f) n = true := by
  unfold pm_in
  rw [nI_toInt (by omega)]
  simp only [Bool.and_eq_true, decide_eq_true_eq]
  omega
theorem pz_psh {v : pm_V} {st : List pm_V} : pm_psh (some v) st = v :: st := rfl
theorem pz_psh0 {st : List pm_V} : pm_psh none st = st := rfl
theorem pz_bind {α β : Type} {a : α} {f : α → Option β} : (some a).bind f = f a := rfl
theorem pz_nlz_i {x : Int32} : pm_nlz (some (pm_i x)) = some (pm_i x) := rfl
theorem pz_nlz_r {x : Nat} : pm_nlz (some (pm_r x)) = some (pm_r x) := rfl
theorem pz_nlz_n : pm_nlz none = none := rfl
theorem pz_up_c {M : pm_M} {k j a : Nat} {v : Int32} (h : a ≠ k) : pm_up M k j v a = M a := by
  funext b
  simp [pm_up, h]
theorem pz_up_s {M : pm_M} {k j : Nat} {v : Int32} : pm_up M k j v k j = v := by simp [pm_up]
theorem pz_up_n {M : pm_M} {k j b : Nat} {v : Int32} (h : b ≠ j) : pm_up M k j v k b = M k b := by simp [pm_up, h]
theorem pz_up_i {M : pm_M} {k j b : Nat} {v : Int32} : pm_up M k j v k b = if b = j then v else M k b := by simp [pm_up]
theorem pz_lt {a b : Nat} (ha : a < 2147483648) (hb : b < 2147483648) : nI a < nI b ↔ a < b := nI_ltI ha hb
theorem pz_eq {a b : Nat} (ha : a < 2147483648) (hb : b < 2147483648) : nI a = nI b ↔ a = b := nI_eq ha hb
theorem pz_lt0 {a : Nat} (ha : a < 2147483648) : ¬ nI a < 0 := nI_pos ha
theorem pz_0lt {a : Nat} (ha : a < 2147483648) : (0 : Int32) < nI a ↔ 0 < a := by
  rw [← nI_0]
  exact nI_ltI (by omega) ha
theorem pz_eq0 {a : Nat} (ha : a < 2147483648) : nI a = 0 ↔ a = 0 := by
  rw [← nI_0]
  exact nI_eq ha (by omega)
theorem pz_sub {a b : Nat} (h : b ≤ a) : nI a - nI b = nI (a - b) := pk_sub h
theorem pz_add {a b : Nat} : nI a + nI b = nI (a + b) := nI_add a b
theorem pz_cl {a : Nat} (ha : a < 2147483648) : (nI a).toNatClampNeg = a := nI_clamp ha
theorem pz_neg_lt0 {a : Nat} (h : 0 < a) (ha : a < 2147483648) : (-nI a : Int32) < 0 := by
  rw [Int32.lt_iff_toInt_lt, sb_negT ha]
  simp
  omega
theorem pz_n10 : (nI 1 = 0) = False := by simp [show ¬ (nI 1 = 0) by decide]
theorem pz_n00 : (nI 0 = 0) = True := by simp [nI_0]
theorem pz_n01 : (nI 0 = nI 1) = False := by simp [show ¬ (nI 0 = nI 1) by decide]
theorem pz_astG {c n f : Nat} {v : Int32} {M : pm_M} (hs : pm_sh c = some (.inl n)) (hn : n < 1000) (h : f < n) : pm_ast c (nI f) v M = some (pm_up M c f v) := by
  unfold pm_ast
  rw [hs]
  show (if pm_in (nI f) n = true then some (pm_up M c (nI f).toNatClampNeg v) else none) = _
  rw [if_pos (pz_in h hn), nI_clamp (by omega)]
theorem pz_aldG {X : pm_X} {c n f : Nat} {M : pm_M} (hs : pm_sh c = some (.inl n)) (hn : n < 1000) (h : f < n) : pm_ald X c (nI f) M = some (M c f) := by
  have hc : ¬ c = 99 := by
    intro q
    rw [q] at hs
    cases hs
  unfold pm_ald
  rw [if_neg hc, hs]
  show (if pm_in (nI f) n = true then some (M c (nI f).toNatClampNeg) else none) = _
  rw [if_pos (pz_in h hn), nI_clamp (by omega)]
theorem pz_alnG {X : pm_X} {c n : Nat} (hs : pm_sh c = some (.inl n)) : pm_aln X c = some (nI n) := by
  have hc : ¬ c = 99 := by
    intro q
    rw [q] at hs
    cases hs
  unfold pm_aln
  rw [if_neg hc, hs]
  rfl
/-- memory with the first n of a cell all the same -/
def pm_fl (M : pm_M) (c n : Nat) (v : Int32) : pm_M := fun a b => if a = c ∧ b < n then v else M a b
theorem pz_fl_0 {M : pm_M} {c : Nat} {v : Int32} : pm_fl M c 0 v = M := by
  funext a b
  simp [pm_fl]
theorem pz_fl_s {M : pm_M} {c i : Nat} {v : Int32} : pm_up (pm_fl M c i v) c i v = pm_fl M c (i + 1) v := by
  funext a b
  unfold pm_up pm_fl
  by_cases h1 : a = c
  · by_cases h2 : b = i
    · simp [h1, h2]
    · by_cases h3 : b < i
      · simp [h1, h2, h3, Nat.lt_succ_of_lt h3]
      · simp [h1, h2, h3, show ¬ b < i + 1 by omega]
  · simp [h1]
theorem pz_fl_c {M : pm_M} {c n a : Nat} {v : Int32} (h : a ≠ c) : pm_fl M c n v a = M a := by
  funext b
  simp [pm_fl, h]
theorem pz_fl_i {M : pm_M} {c n b : Nat} {v : Int32} (h : b < n) : pm_fl M c n v c b = v := by simp [pm_fl, h]
theorem pz_m1 : (-1 : Int32) < 0 := by decide
theorem pz_dec {a : Nat} (ha : a < 2147483648) : (if nI 0 < nI a - nI 1 then nI a - nI 1 else nI 0) = nI (a - 1) := by
  cases a with
  | zero => decide
  | succ a =>
    rw [pz_sub (by omega), show a + 1 - 1 = a from rfl]
    simp only [pz_lt (show 0 < 2147483648 by omega) (show a < 2147483648 by omega)]
    by_cases h : 0 < a
    · rw [if_pos h]
    · rw [if_neg h, show a = 0 by omega]
theorem pz_bit {s f : Nat} (hs : s < 2147483648) (hf : f < 31) : (nI s >>> (nI f &&& 31)) &&& nI 1 = nI (if s.testBit f = true then 1 else 0) := by
  have h1 : ((nI f &&& 31).toBitVec.smod 32).toNat = f := by
    have h2 : ∀ n, n < 32 → ((nI n &&& 31).toBitVec.smod 32).toNat = n := by decide +kernel
    exact h2 f (by omega)
  rw [pk_shrN hs _ f h1]
  have h3 : nI 1 = nI (2 ^ 1 - 1) := rfl
  have h4 := pk_andN (n := s / 2 ^ f) (Nat.lt_of_le_of_lt (Nat.div_le_self _ _) (by omega)) (m := nI 1) 1 rfl
  rw [h4]
  congr 1
  rw [Nat.testBit_eq_decide_div_mod_eq]
  by_cases h : s / 2 ^ f % 2 = 1
  · simp [h]
  · have : s / 2 ^ f % 2 = 0 := by omega
    simp [this]
theorem pz_shl {f : Nat} (hf : f < 31) : nI 1 <<< (nI f &&& 31) = nI (2 ^ f) := by
  have h1 : ((nI f &&& 31).toBitVec.smod 32).toNat = f := by
    have h2 : ∀ n, n < 32 → ((nI n &&& 31).toBitVec.smod 32).toNat = n := by decide +kernel
    exact h2 f (by omega)
  rw [pk_shlN (nI f &&& 31) f h1 (by
    have : 2 ^ f ≤ 2 ^ 30 := Nat.pow_le_pow_right (by omega) (by omega)
    omega), Nat.one_mul]
theorem pz_or {a b : Nat} : nI a ||| nI b = nI (a ||| b) := by
  apply Int32.toBitVec_inj.mp
  rw [Int32.toBitVec_or]
  show BitVec.ofNat 32 a ||| BitVec.ofNat 32 b = BitVec.ofNat 32 (a ||| b)
  exact (BitVec.ofNat_or (x := a) (y := b)).symm
theorem pz_ald_5 {X : pm_X} {f : Nat} {M : pm_M} (h : f < 60) : pm_ald X 5 (nI f) M = some (M 5 f) := by
  show (if pm_in (nI f) 60 = true then some (M 5 (nI f).toNatClampNeg) else none) = _
  rw [if_pos (pz_in h (by omega)), pz_cl (by omega)]
theorem pz_ast_5 {f : Nat} {v : Int32} {M : pm_M} (h : f < 60) : pm_ast 5 (nI f) v M = some (pm_up M 5 f v) := by
  show (if pm_in (nI f) 60 = true then some (pm_up M 5 (nI f).toNatClampNeg v) else none) = _
  rw [if_pos (pz_in h (by omega)), pz_cl (by omega)]
theorem pz_aln_5 {X : pm_X} : pm_aln X 5 = some (nI 60) := rfl
theorem pz_ald_7 {X : pm_X} {f : Nat} {M : pm_M} (h : f < 60) : pm_ald X 7 (nI f) M = some (M 7 f) := by
  show (if pm_in (nI f) 60 = true then some (M 7 (nI f).toNatClampNeg) else none) = _
  rw [if_pos (pz_in h (by omega)), pz_cl (by omega)]
theorem pz_ast_7 {f : Nat} {v : Int32} {M : pm_M} (h : f < 60) : pm_ast 7 (nI f) v M = some (pm_up M 7 f v) := by
  show (if pm_in (nI f) 60 = true then some (pm_up M 7 (nI f).toNatClampNeg v) else none) = _
  rw [if_pos (pz_in h (by omega)), pz_cl (by omega)]
theorem pz_aln_7 {X : pm_X} : pm_aln X 7 = some (nI 60) := rfl
theorem pz_ald_8 {X : pm_X} {f : Nat} {M : pm_M} (h : f < 60) : pm_ald X 8 (nI f) M = some (M 8 f) := by
  show (if pm_in (nI f) 60 = true then some (M 8 (nI f).toNatClampNeg) else none) = _
  rw [if_pos (pz_in h (by omega)), pz_cl (by omega)]
theorem pz_ast_8 {f : Nat} {v : Int32} {M : pm_M} (h : f < 60) : pm_ast 8 (nI f) v M = some (pm_up M 8 f v) := by
  show (if pm_in (nI f) 60 = true then some (pm_up M 8 (nI f).toNatClampNeg v) else none) = _
  rw [if_pos (pz_in h (by omega)), pz_cl (by omega)]
theorem pz_aln_8 {X : pm_X} : pm_aln X 8 = some (nI 60) := rfl
theorem pz_ald_9 {X : pm_X} {f : Nat} {M : pm_M} (h : f < 60) : pm_ald X 9 (nI f) M = some (M 9 f) := by
  show (if pm_in (nI f) 60 = true then some (M 9 (nI f).toNatClampNeg) else none) = _
  rw [if_pos (pz_in h (by omega)), pz_cl (by omega)]
theorem pz_ast_9 {f : Nat} {v : Int32} {M : pm_M} (h : f < 60) : pm_ast 9 (nI f) v M = some (pm_up M 9 f v) := by
  show (if pm_in (nI f) 60 = true then some (pm_up M 9 (nI f).toNatClampNeg v) else none) = _
  rw [if_pos (pz_in h (by omega)), pz_cl (by omega)]
theorem pz_aln_9 {X : pm_X} : pm_aln X 9 = some (nI 60) := rfl
theorem pz_ald_10 {X : pm_X} {f : Nat} {M : pm_M} (h : f < 60) : pm_ald X 10 (nI f) M = some (M 10 f) := by
  show (if pm_in (nI f) 60 = true then some (M 10 (nI f).toNatClampNeg) else none) = _
  rw [if_pos (pz_in h (by omega)), pz_cl (by omega)]
theorem pz_ast_10 {f : Nat} {v : Int32} {M : pm_M} (h : f < 60) : pm_ast 10 (nI f) v M = some (pm_up M 10 f v) := by
  show (if pm_in (nI f) 60 = true then some (pm_up M 10 (nI f).toNatClampNeg v) else none) = _
  rw [if_pos (pz_in h (by omega)), pz_cl (by omega)]
theorem pz_aln_10 {X : pm_X} : pm_aln X 10 = some (nI 60) := rfl
theorem pz_ald_11 {X : pm_X} {f : Nat} {M : pm_M} (h : f < 4) : pm_ald X 11 (nI f) M = some (M 11 f) := by
  show (if pm_in (nI f) 4 = true then some (M 11 (nI f).toNatClampNeg) else none) = _
  rw [if_pos (pz_in h (by omega)), pz_cl (by omega)]
theorem pz_ast_11 {f : Nat} {v : Int32} {M : pm_M} (h : f < 4) : pm_ast 11 (nI f) v M = some (pm_up M 11 f v) := by
  show (if pm_in (nI f) 4 = true then some (pm_up M 11 (nI f).toNatClampNeg v) else none) = _
  rw [if_pos (pz_in h (by omega)), pz_cl (by omega)]
theorem pz_aln_11 {X : pm_X} : pm_aln X 11 = some (nI 4) := rfl
theorem pz_ald_12 {X : pm_X} {f : Nat} {M : pm_M} (h : f < 4) : pm_ald X 12 (nI f) M = some (M 12 f) := by
  show (if pm_in (nI f) 4 = true then some (M 12 (nI f).toNatClampNeg) else none) = _
  rw [if_pos (pz_in h (by omega)), pz_cl (by omega)]
theorem pz_ast_12 {f : Nat} {v : Int32} {M : pm_M} (h : f < 4) : pm_ast 12 (nI f) v M = some (pm_up M 12 f v) := by
  show (if pm_in (nI f) 4 = true then some (pm_up M 12 (nI f).toNatClampNeg v) else none) = _
  rw [if_pos (pz_in h (by omega)), pz_cl (by omega)]
theorem pz_aln_12 {X : pm_X} : pm_aln X 12 = some (nI 4) := rfl
theorem pz_ald_13 {X : pm_X} {f : Nat} {M : pm_M} (h : f < 6) : pm_ald X 13 (nI f) M = some (M 13 f) := by
  show (if pm_in (nI f) 6 = true then some (M 13 (nI f).toNatClampNeg) else none) = _
  rw [if_pos (pz_in h (by omega)), pz_cl (by omega)]
theorem pz_ast_13 {f : Nat} {v : Int32} {M : pm_M} (h : f < 6) : pm_ast 13 (nI f) v M = some (pm_up M 13 f v) := by
  show (if pm_in (nI f) 6 = true then some (pm_up M 13 (nI f).toNatClampNeg v) else none) = _
  rw [if_pos (pz_in h (by omega)), pz_cl (by omega)]
theorem pz_aln_13 {X : pm_X} : pm_aln X 13 = some (nI 6) := rfl
theorem pz_ald_14 {X : pm_X} {f : Nat} {M : pm_M} (h : f < 6) : pm_ald X 14 (nI f) M = some (M 14 f) := by
  show (if pm_in (nI f) 6 = true then some (M 14 (nI f).toNatClampNeg) else none) = _
  rw [if_pos (pz_in h (by omega)), pz_cl (by omega)]
theorem pz_ast_14 {f : Nat} {v : Int32} {M : pm_M} (h : f < 6) : pm_ast 14 (nI f) v M = some (pm_up M 14 f v) := by
  show (if pm_in (nI f) 6 = true then some (pm_up M 14 (nI f).toNatClampNeg v) else none) = _
  rw [if_pos (pz_in h (by omega)), pz_cl (by omega)]
theorem pz_aln_14 {X : pm_X} : pm_aln X 14 = some (nI 6) := rfl
theorem pz_ald_15 {X : pm_X} {f : Nat} {M : pm_M} (h : f < 5) : pm_ald X 15 (nI f) M = some (M 15 f) := by
  show (if pm_in (nI f) 5 = true then some (M 15 (nI f).toNatClampNeg) else none) = _
  rw [if_pos (pz_in h (by omega)), pz_cl (by omega)]
theorem pz_ast_15 {f : Nat} {v : Int32} {M : pm_M} (h : f < 5) : pm_ast 15 (nI f) v M = some (pm_up M 15 f v) := by
  show (if pm_in (nI f) 5 = true then some (pm_up M 15 (nI f).toNatClampNeg v) else none) = _
  rw [if_pos (pz_in h (by omega)), pz_cl (by omega)]
theorem pz_aln_15 {X : pm_X} : pm_aln X 15 = some (nI 5) := rfl
theorem pz_ald_16 {X : pm_X} {f : Nat} {M : pm_M} (h : f < 5) : pm_ald X 16 (nI f) M = some (M 16 f) := by
  show (if pm_in (nI f) 5 = true then some (M 16 (nI f).toNatClampNeg) else none) = _
  rw [if_pos (pz_in h (by omega)), pz_cl (by omega)]
theorem pz_ast_16 {f : Nat} {v : Int32} {M : pm_M} (h : f < 5) : pm_ast 16 (nI f) v M = some (pm_up M 16 f v) := by
  show (if pm_in (nI f) 5 = true then some (pm_up M 16 (nI f).toNatClampNeg v) else none) = _
  rw [if_pos (pz_in h (by omega)), pz_cl (by omega)]
theorem pz_aln_16 {X : pm_X} : pm_aln X 16 = some (nI 5) := rfl
theorem pz_ald_17 {X : pm_X} {f : Nat} {M : pm_M} (h : f < 8) : pm_ald X 17 (nI f) M = some (M 17 f) := by
  show (if pm_in (nI f) 8 = true then some (M 17 (nI f).toNatClampNeg) else none) = _
  rw [if_pos (pz_in h (by omega)), pz_cl (by omega)]
theorem pz_ast_17 {f : Nat} {v : Int32} {M : pm_M} (h : f < 8) : pm_ast 17 (nI f) v M = some (pm_up M 17 f v) := by
  show (if pm_in (nI f) 8 = true then some (pm_up M 17 (nI f).toNatClampNeg v) else none) = _
  rw [if_pos (pz_in h (by omega)), pz_cl (by omega)]
theorem pz_aln_17 {X : pm_X} : pm_aln X 17 = some (nI 8) := rfl
theorem pz_ald_18 {X : pm_X} {f : Nat} {M : pm_M} (h : f < 8) : pm_ald X 18 (nI f) M = some (M 18 f) := by
  show (if pm_in (nI f) 8 = true then some (M 18 (nI f).toNatClampNeg) else none) = _
  rw [if_pos (pz_in h (by omega)), pz_cl (by omega)]
theorem pz_ast_18 {f : Nat} {v : Int32} {M : pm_M} (h : f < 8) : pm_ast 18 (nI f) v M = some (pm_up M 18 f v) := by
  show (if pm_in (nI f) 8 = true then some (pm_up M 18 (nI f).toNatClampNeg v) else none) = _
  rw [if_pos (pz_in h (by omega)), pz_cl (by omega)]
theorem pz_aln_18 {X : pm_X} : pm_aln X 18 = some (nI 8) := rfl
theorem pz_ald_19 {X : pm_X} {f : Nat} {M : pm_M} (h : f < 8) : pm_ald X 19 (nI f) M = some (M 19 f) := by
  show (if pm_in (nI f) 8 = true then some (M 19 (nI f).toNatClampNeg) else none) = _
  rw [if_pos (pz_in h (by omega)), pz_cl (by omega)]
theorem pz_ast_19 {f : Nat} {v : Int32} {M : pm_M} (h : f < 8) : pm_ast 19 (nI f) v M = some (pm_up M 19 f v) := by
  show (if pm_in (nI f) 8 = true then some (pm_up M 19 (nI f).toNatClampNeg v) else none) = _
  rw [if_pos (pz_in h (by omega)), pz_cl (by omega)]
theorem pz_aln_19 {X : pm_X} : pm_aln X 19 = some (nI 8) := rfl
theorem pz_ald_20 {X : pm_X} {f : Nat} {M : pm_M} (h : f < 8) : pm_ald X 20 (nI f) M = some (M 20 f) := by
  show (if pm_in (nI f) 8 = true then some (M 20 (nI f).toNatClampNeg) else none) = _
  rw [if_pos (pz_in h (by omega)), pz_cl (by omega)]
theorem pz_ast_20 {f : Nat} {v : Int32} {M : pm_M} (h : f < 8) : pm_ast 20 (nI f) v M = some (pm_up M 20 f v) := by
  show (if pm_in (nI f) 8 = true then some (pm_up M 20 (nI f).toNatClampNeg v) else none) = _
  rw [if_pos (pz_in h (by omega)), pz_cl (by omega)]
theorem pz_aln_20 {X : pm_X} : pm_aln X 20 = some (nI 8) := rfl
theorem pz_ald_21 {X : pm_X} {f : Nat} {M : pm_M} (h : f < 6) : pm_ald X 21 (nI f) M = some (M 21 f) := by
  show (if pm_in (nI f) 6 = true then some (M 21 (nI f).toNatClampNeg) else none) = _
  rw [if_pos (pz_in h (by omega)), pz_cl (by omega)]
theorem pz_ast_21 {f : Nat} {v : Int32} {M : pm_M} (h : f < 6) : pm_ast 21 (nI f) v M = some (pm_up M 21 f v) := by
  show (if pm_in (nI f) 6 = true then some (pm_up M 21 (nI f).toNatClampNeg v) else none) = _
  rw [if_pos (pz_in h (by omega)), pz_cl (by omega)]
theorem pz_aln_21 {X : pm_X} : pm_aln X 21 = some (nI 6) := rfl
theorem pz_ald_22 {X : pm_X} {f : Nat} {M : pm_M} (h : f < 6) : pm_ald X 22 (nI f) M = some (M 22 f) := by
  show (if pm_in (nI f) 6 = true then some (M 22 (nI f).toNatClampNeg) else none) = _
  rw [if_pos (pz_in h (by omega)), pz_cl (by omega)]
theorem pz_ast_22 {f : Nat} {v : Int32} {M : pm_M} (h : f < 6) : pm_ast 22 (nI f) v M = some (pm_up M 22 f v) := by
  show (if pm_in (nI f) 6 = true then some (pm_up M 22 (nI f).toNatClampNeg v) else none) = _
  rw [if_pos (pz_in h (by omega)), pz_cl (by omega)]
theorem pz_aln_22 {X : pm_X} : pm_aln X 22 = some (nI 6) := rfl
theorem pz_ald_24 {X : pm_X} {f : Nat} {M : pm_M} (h : f < 4) : pm_ald X 24 (nI f) M = some (M 24 f) := by
  show (if pm_in (nI f) 4 = true then some (M 24 (nI f).toNatClampNeg) else none) = _
  rw [if_pos (pz_in h (by omega)), pz_cl (by omega)]
theorem pz_ast_24 {f : Nat} {v : Int32} {M : pm_M} (h : f < 4) : pm_ast 24 (nI f) v M = some (pm_up M 24 f v) := by
  show (if pm_in (nI f) 4 = true then some (pm_up M 24 (nI f).toNatClampNeg v) else none) = _
  rw [if_pos (pz_in h (by omega)), pz_cl (by omega)]
theorem pz_aln_24 {X : pm_X} : pm_aln X 24 = some (nI 4) := rfl
theorem pz_ald_25 {X : pm_X} {f : Nat} {M : pm_M} (h : f < 4) : pm_ald X 25 (nI f) M = some (M 25 f) := by
  show (if pm_in (nI f) 4 = true then some (M 25 (nI f).toNatClampNeg) else none) = _
  rw [if_pos (pz_in h (by omega)), pz_cl (by omega)]
theorem pz_ast_25 {f : Nat} {v : Int32} {M : pm_M} (h : f < 4) : pm_ast 25 (nI f) v M = some (pm_up M 25 f v) := by
  show (if pm_in (nI f) 4 = true then some (pm_up M 25 (nI f).toNatClampNeg v) else none) = _
  rw [if_pos (pz_in h (by omega)), pz_cl (by omega)]
theorem pz_aln_25 {X : pm_X} : pm_aln X 25 = some (nI 4) := rfl
theorem pz_ald_26 {X : pm_X} {f : Nat} {M : pm_M} (h : f < 240) : pm_ald X 26 (nI f) M = some (M 26 f) := by
  show (if pm_in (nI f) 240 = true then some (M 26 (nI f).toNatClampNeg) else none) = _
  rw [if_pos (pz_in h (by omega)), pz_cl (by omega)]
theorem pz_ast_26 {f : Nat} {v : Int32} {M : pm_M} (h : f < 240) : pm_ast 26 (nI f) v M = some (pm_up M 26 f v) := by
  show (if pm_in (nI f) 240 = true then some (pm_up M 26 (nI f).toNatClampNeg v) else none) = _
  rw [if_pos (pz_in h (by omega)), pz_cl (by omega)]
theorem pz_aln_26 {X : pm_X} : pm_aln X 26 = some (nI 240) := rfl
theorem pz_ald_27 {X : pm_X} {f : Nat} {M : pm_M} (h : f < 6) : pm_ald X 27 (nI f) M = some (M 27 f) := by
  show (if pm_in (nI f) 6 = true then some (M 27 (nI f).toNatClampNeg) else none) = _
  rw [if_pos (pz_in h (by omega)), pz_cl (by omega)]
theorem pz_ast_27 {f : Nat} {v : Int32} {M : pm_M} (h : f < 6) : pm_ast 27 (nI f) v M = some (pm_up M 27 f v) := by
  show (if pm_in (nI f) 6 = true then some (pm_up M 27 (nI f).toNatClampNeg v) else none) = _
  rw [if_pos (pz_in h (by omega)), pz_cl (by omega)]
theorem pz_aln_27 {X : pm_X} : pm_aln X 27 = some (nI 6) := rfl
theorem pz_ald_28 {X : pm_X} {f : Nat} {M : pm_M} (h : f < 6) : pm_ald X 28 (nI f) M = some (M 28 f) := by
  show (if pm_in (nI f) 6 = true then some (M 28 (nI f).toNatClampNeg) else none) = _
  rw [if_pos (pz_in h (by omega)), pz_cl (by omega)]
theorem pz_ast_28 {f : Nat} {v : Int32} {M : pm_M} (h : f < 6) : pm_ast 28 (nI f) v M = some (pm_up M 28 f v) := by
  show (if pm_in (nI f) 6 = true then some (pm_up M 28 (nI f).toNatClampNeg v) else none) = _
  rw [if_pos (pz_in h (by omega)), pz_cl (by omega)]
theorem pz_aln_28 {X : pm_X} : pm_aln X 28 = some (nI 6) := rfl
theorem pz_ald_29 {X : pm_X} {f : Nat} {M : pm_M} (h : f < 5) : pm_ald X 29 (nI f) M = some (M 29 f) := by
  show (if pm_in (nI f) 5 = true then some (M 29 (nI f).toNatClampNeg) else none) = _
  rw [if_pos (pz_in h (by omega)), pz_cl (by omega)]
theorem pz_ast_29 {f : Nat} {v : Int32} {M : pm_M} (h : f < 5) : pm_ast 29 (nI f) v M = some (pm_up M 29 f v) := by
  show (if pm_in (nI f) 5 = true then some (pm_up M 29 (nI f).toNatClampNeg v) else none) = _
  rw [if_pos (pz_in h (by omega)), pz_cl (by omega)]
theorem pz_aln_29 {X : pm_X} : pm_aln X 29 = some (nI 5) := rfl
theorem pz_ald_30 {X : pm_X} {f : Nat} {M : pm_M} (h : f < 5) : pm_ald X 30 (nI f) M = some (M 30 f) := by
  show (if pm_in (nI f) 5 = true then some (M 30 (nI f).toNatClampNeg) else none) = _
  rw [if_pos (pz_in h (by omega)), pz_cl (by omega)]
theorem pz_ast_30 {f : Nat} {v : Int32} {M : pm_M} (h : f < 5) : pm_ast 30 (nI f) v M = some (pm_up M 30 f v) := by
  show (if pm_in (nI f) 5 = true then some (pm_up M 30 (nI f).toNatClampNeg v) else none) = _
  rw [if_pos (pz_in h (by omega)), pz_cl (by omega)]
theorem pz_aln_30 {X : pm_X} : pm_aln X 30 = some (nI 5) := rfl
theorem pz_ald_31 {X : pm_X} {f : Nat} {M : pm_M} (h : f < 8) : pm_ald X 31 (nI f) M = some (M 31 f) := by
  show (if pm_in (nI f) 8 = true then some (M 31 (nI f).toNatClampNeg) else none) = _
  rw [if_pos (pz_in h (by omega)), pz_cl (by omega)]
theorem pz_ast_31 {f : Nat} {v : Int32} {M : pm_M} (h : f < 8) : pm_ast 31 (nI f) v M = some (pm_up M 31 f v) := by
  show (if pm_in (nI f) 8 = true then some (pm_up M 31 (nI f).toNatClampNeg v) else none) = _
  rw [if_pos (pz_in h (by omega)), pz_cl (by omega)]
theorem pz_aln_31 {X : pm_X} : pm_aln X 31 = some (nI 8) := rfl
theorem pz_ald_32 {X : pm_X} {f : Nat} {M : pm_M} (h : f < 6) : pm_ald X 32 (nI f) M = some (M 32 f) := by
  show (if pm_in (nI f) 6 = true then some (M 32 (nI f).toNatClampNeg) else none) = _
  rw [if_pos (pz_in h (by omega)), pz_cl (by omega)]
theorem pz_ast_32 {f : Nat} {v : Int32} {M : pm_M} (h : f < 6) : pm_ast 32 (nI f) v M = some (pm_up M 32 f v) := by
  show (if pm_in (nI f) 6 = true then some (pm_up M 32 (nI f).toNatClampNeg v) else none) = _
  rw [if_pos (pz_in h (by omega)), pz_cl (by omega)]
theorem pz_aln_32 {X : pm_X} : pm_aln X 32 = some (nI 6) := rfl
theorem pz_ald_33 {X : pm_X} {f : Nat} {M : pm_M} (h : f < 6) : pm_ald X 33 (nI f) M = some (M 33 f) := by
  show (if pm_in (nI f) 6 = true then some (M 33 (nI f).toNatClampNeg) else none) = _
  rw [if_pos (pz_in h (by omega)), pz_cl (by omega)]
theorem pz_ast_33 {f : Nat} {v : Int32} {M : pm_M} (h : f < 6) : pm_ast 33 (nI f) v M = some (pm_up M 33 f v) := by
  show (if pm_in (nI f) 6 = true then some (pm_up M 33 (nI f).toNatClampNeg v) else none) = _
  rw [if_pos (pz_in h (by omega)), pz_cl (by omega)]
theorem pz_aln_33 {X : pm_X} : pm_aln X 33 = some (nI 6) := rfl
theorem pz_ald_34 {X : pm_X} {f : Nat} {M : pm_M} (h : f < 5) : pm_ald X 34 (nI f) M = some (M 34 f) := by
  show (if pm_in (nI f) 5 = true then some (M 34 (nI f).toNatClampNeg) else none) = _
  rw [if_pos (pz_in h (by omega)), pz_cl (by omega)]
theorem pz_ast_34 {f : Nat} {v : Int32} {M : pm_M} (h : f < 5) : pm_ast 34 (nI f) v M = some (pm_up M 34 f v) := by
  show (if pm_in (nI f) 5 = true then some (pm_up M 34 (nI f).toNatClampNeg v) else none) = _
  rw [if_pos (pz_in h (by omega)), pz_cl (by omega)]
theorem pz_aln_34 {X : pm_X} : pm_aln X 34 = some (nI 5) := rfl
theorem pz_ald_35 {X : pm_X} {f : Nat} {M : pm_M} (h : f < 5) : pm_ald X 35 (nI f) M = some (M 35 f) := by
  show (if pm_in (nI f) 5 = true then some (M 35 (nI f).toNatClampNeg) else none) = _
  rw [if_pos (pz_in h (by omega)), pz_cl (by omega)]
theorem pz_ast_35 {f : Nat} {v : Int32} {M : pm_M} (h : f < 5) : pm_ast 35 (nI f) v M = some (pm_up M 35 f v) := by
  show (if pm_in (nI f) 5 = true then some (pm_up M 35 (nI f).toNatClampNeg v) else none) = _
  rw [if_pos (pz_in h (by omega)), pz_cl (by omega)]
theorem pz_aln_35 {X : pm_X} : pm_aln X 35 = some (nI 5) := rfl
theorem pz_ald_36 {X : pm_X} {f : Nat} {M : pm_M} (h : f < 8) : pm_ald X 36 (nI f) M = some (M 36 f) := by
  show (if pm_in (nI f) 8 = true then some (M 36 (nI f).toNatClampNeg) else none) = _
  rw [if_pos (pz_in h (by omega)), pz_cl (by omega)]
theorem pz_ast_36 {f : Nat} {v : Int32} {M : pm_M} (h : f < 8) : pm_ast 36 (nI f) v M = some (pm_up M 36 f v) := by
  show (if pm_in (nI f) 8 = true then some (pm_up M 36 (nI f).toNatClampNeg v) else none) = _
  rw [if_pos (pz_in h (by omega)), pz_cl (by omega)]
theorem pz_aln_36 {X : pm_X} : pm_aln X 36 = some (nI 8) := rfl
theorem pz_ald_37 {X : pm_X} {f : Nat} {M : pm_M} (h : f < 6) : pm_ald X 37 (nI f) M = some (M 37 f) := by
  show (if pm_in (nI f) 6 = true then some (M 37 (nI f).toNatClampNeg) else none) = _
  rw [if_pos (pz_in h (by omega)), pz_cl (by omega)]
theorem pz_ast_37 {f : Nat} {v : Int32} {M : pm_M} (h : f < 6) : pm_ast 37 (nI f) v M = some (pm_up M 37 f v) := by
  show (if pm_in (nI f) 6 = true then some (pm_up M 37 (nI f).toNatClampNeg v) else none) = _
  rw [if_pos (pz_in h (by omega)), pz_cl (by omega)]
theorem pz_aln_37 {X : pm_X} : pm_aln X 37 = some (nI 6) := rfl
theorem pz_ald_38 {X : pm_X} {f : Nat} {M : pm_M} (h : f < 6) : pm_ald X 38 (nI f) M = some (M 38 f) := by
  show (if pm_in (nI f) 6 = true then some (M 38 (nI f).toNatClampNeg) else none) = _
  rw [if_pos (pz_in h (by omega)), pz_cl (by omega)]
theorem pz_ast_38 {f : Nat} {v : Int32} {M : pm_M} (h : f < 6) : pm_ast 38 (nI f) v M = some (pm_up M 38 f v) := by
  show (if pm_in (nI f) 6 = true then some (pm_up M 38 (nI f).toNatClampNeg v) else none) = _
  rw [if_pos (pz_in h (by omega)), pz_cl (by omega)]
theorem pz_aln_38 {X : pm_X} : pm_aln X 38 = some (nI 6) := rfl
theorem pz_ald_39 {X : pm_X} {f : Nat} {M : pm_M} (h : f < 8) : pm_ald X 39 (nI f) M = some (M 39 f) := by
  show (if pm_in (nI f) 8 = true then some (M 39 (nI f).toNatClampNeg) else none) = _
  rw [if_pos (pz_in h (by omega)), pz_cl (by omega)]
theorem pz_ast_39 {f : Nat} {v : Int32} {M : pm_M} (h : f < 8) : pm_ast 39 (nI f) v M = some (pm_up M 39 f v) := by
  show (if pm_in (nI f) 8 = true then some (pm_up M 39 (nI f).toNatClampNeg v) else none) = _
  rw [if_pos (pz_in h (by omega)), pz_cl (by omega)]
theorem pz_aln_39 {X : pm_X} : pm_aln X 39 = some (nI 8) := rfl
theorem pz_ald_40 {X : pm_X} {f : Nat} {M : pm_M} (h : f < 8) : pm_ald X 40 (nI f) M = some (M 40 f) := by
  show (if pm_in (nI f) 8 = true then some (M 40 (nI f).toNatClampNeg) else none) = _
  rw [if_pos (pz_in h (by omega)), pz_cl (by omega)]
theorem pz_ast_40 {f : Nat} {v : Int32} {M : pm_M} (h : f < 8) : pm_ast 40 (nI f) v M = some (pm_up M 40 f v) := by
  show (if pm_in (nI f) 8 = true then some (pm_up M 40 (nI f).toNatClampNeg v) else none) = _
  rw [if_pos (pz_in h (by omega)), pz_cl (by omega)]
theorem pz_aln_40 {X : pm_X} : pm_aln X 40 = some (nI 8) := rfl
theorem pz_ald_41 {X : pm_X} {f : Nat} {M : pm_M} (h : f < 8) : pm_ald X 41 (nI f) M = some (M 41 f) := by
  show (if pm_in (nI f) 8 = true then some (M 41 (nI f).toNatClampNeg) else none) = _
  rw [if_pos (pz_in h (by omega)), pz_cl (by omega)]
theorem pz_ast_41 {f : Nat} {v : Int32} {M : pm_M} (h : f < 8) : pm_ast 41 (nI f) v M = some (pm_up M 41 f v) := by
  show (if pm_in (nI f) 8 = true then some (pm_up M 41 (nI f).toNatClampNeg v) else none) = _
  rw [if_pos (pz_in h (by omega)), pz_cl (by omega)]
theorem pz_aln_41 {X : pm_X} : pm_aln X 41 = some (nI 8) := rfl
theorem pz_aald_6 {f : Nat} (h : f < 4) : pm_aald 6 (nI f) = some (7 + f) := by
  rcases (show f = 0 ∨ f = 1 ∨ f = 2 ∨ f = 3 by omega) with rfl | rfl | rfl | rfl <;> rfl
