/-! Runs of the pure machine without counting steps. -/
theorem pm_ex_succ : ∀ (n : Nat) (X : pm_X) (y : Nat) (cf : pm_C) (r : pm_O), pm_ex n X y cf = some r → pm_ex (n + 1) X y cf = some r := by
  intro n
  induction n with
  | zero =>
    intro X y cf r h
    cases h
  | succ n ih =>
    intro X y cf r h
    unfold pm_ex at h ⊢
    cases hq : pm_next X y cf with
    | inl c2 =>
      rw [hq] at h
      exact ih X y c2 r h
    | inr q =>
      rw [hq] at h
      cases q with
      | inl r2 => exact h
      | inr q =>
        cases q with
        | inr u => cases h
        | inl q =>
          dsimp only at h ⊢
          split at h
          · rename_i hl
            rw [if_pos hl]
            cases h2 : pm_ex n pm_X0 q.1 (0, pm_ent q.2.1 (pm_ml q.1), [], q.2.2.2.2.2) with
            | none => rw [h2] at h; cases h
            | some r2 =>
              rw [h2] at h
              rw [ih _ _ _ _ h2]
              exact ih _ _ _ _ h
          · cases h
theorem pm_ex_le {n k : Nat} {X : pm_X} {y : Nat} {cf : pm_C} {r : pm_O} (h : pm_ex n X y cf = some r) (hk : n ≤ k) : pm_ex k X y cf = some r := by
  obtain ⟨d, rfl⟩ := Nat.exists_eq_add_of_le hk
  induction d with
  | zero => exact h
  | succ d ih => exact pm_ex_succ _ _ _ _ _ (ih (Nat.le_add_right _ _))
theorem pm_ex_det {n k : Nat} {X : pm_X} {y : Nat} {cf : pm_C} {r r2 : pm_O} (h : pm_ex n X y cf = some r) (h2 : pm_ex k X y cf = some r2) : r = r2 := by
  have a := pm_ex_le h (Nat.le_max_left n k)
  have b := pm_ex_le h2 (Nat.le_max_right n k)
  rw [a] at b
  exact Option.some.inj b

noncomputable def pm_Rc (X : pm_X) (y : Nat) (cf : pm_C) : Option pm_O := (Classical.propDecidable (∃ r, ∃ n, pm_ex n X y cf = some r)).rec (fun _ => none) (fun h => some (Classical.choose h))
theorem pm_Rc_iff {X : pm_X} {y : Nat} {cf : pm_C} {r : pm_O} : pm_Rc X y cf = some r ↔ ∃ n, pm_ex n X y cf = some r := by
  unfold pm_Rc
  cases Classical.propDecidable (∃ r, ∃ n, pm_ex n X y cf = some r) with
  | isFalse h =>
    constructor
    · intro q
      cases q
    · intro q
      exact absurd ⟨r, q⟩ h
  | isTrue h =>
    have hs := Classical.choose_spec h
    constructor
    · intro q
      have e : Classical.choose h = r := Option.some.inj q
      rw [← e]
      exact hs
    · rintro ⟨n, hn⟩
      obtain ⟨k, hk⟩ := hs
      show some (Classical.choose h) = some r
      rw [pm_ex_det hk hn]
theorem pm_R_go {X : pm_X} {y : Nat} {cf c2 : pm_C} (h : pm_next X y cf = .inl c2) : pm_Rc X y cf = pm_Rc X y c2 := by
  apply Option.ext
  intro r
  rw [pm_Rc_iff, pm_Rc_iff]
  constructor
  · rintro ⟨n, hn⟩
    cases n with
    | zero => cases hn
    | succ n =>
      unfold pm_ex at hn
      rw [h] at hn
      exact ⟨n, hn⟩
  · rintro ⟨n, hn⟩
    refine ⟨n + 1, ?_⟩
    unfold pm_ex
    rw [h]
    exact hn
theorem pm_R_ret {X : pm_X} {y : Nat} {cf : pm_C} {r : pm_O} (h : pm_next X y cf = .inr (.inl r)) : pm_Rc X y cf = some r := by
  rw [pm_Rc_iff]
  refine ⟨1, ?_⟩
  unfold pm_ex
  rw [h]
theorem pm_R_bad {X : pm_X} {y : Nat} {cf : pm_C} (h : pm_next X y cf = pm_bad) : pm_Rc X y cf = none := by
  cases hr : pm_Rc X y cf with
  | none => rfl
  | some r =>
    rw [pm_Rc_iff] at hr
    obtain ⟨n, hn⟩ := hr
    cases n with
    | zero => cases hn
    | succ n =>
      unfold pm_ex at hn
      rw [h] at hn
      cases hn
theorem pm_R_call {X : pm_X} {y y2 pc2 : Nat} {cf : pm_C} {vs rest : List pm_V} {ls L : pm_L} {M : pm_M} (h : pm_next X y cf = .inr (.inr (.inl (y2, vs, (pc2, ls, rest, M))))) (hl : (pm_args vs).length ≤ pm_ml y2) (hL : pm_ent vs (pm_ml y2) = L) :
    pm_Rc X y cf = (pm_Rc pm_X0 y2 (0, L, [], M)).bind (fun r => pm_Rc X y (pc2, ls, pm_psh r.1 rest, r.2)) := by
  apply Option.ext
  intro r
  rw [pm_Rc_iff, Option.bind_eq_some_iff]
  constructor
  · rintro ⟨n, hn⟩
    cases n with
    | zero => cases hn
    | succ n =>
      unfold pm_ex at hn
      rw [h] at hn
      dsimp only at hn
      rw [if_pos hl, hL] at hn
      split at hn
      · rename_i r2 h2
        exact ⟨r2, pm_Rc_iff.mpr ⟨n, h2⟩, pm_Rc_iff.mpr ⟨n, hn⟩⟩
      · cases hn
  · rintro ⟨r2, h2, hn⟩
    obtain ⟨n1, h2⟩ := pm_Rc_iff.mp h2
    obtain ⟨n2, hn⟩ := pm_Rc_iff.mp hn
    refine ⟨max n1 n2 + 1, ?_⟩
    unfold pm_ex
    rw [h]
    dsimp only
    rw [if_pos hl, hL, pm_ex_le h2 (Nat.le_max_left n1 n2)]
    exact pm_ex_le hn (Nat.le_max_right n1 n2)
theorem pm_R_opt {α : Type} {X : pm_X} {y : Nat} {cf : pm_C} {o : Option α} {f : α → pm_C} (h : pm_next X y cf = match o with
    | some v => .inl (f v)
    | none => pm_bad) : pm_Rc X y cf = o.bind (fun v => pm_Rc X y (f v)) := by
  cases o with
  | none => exact pm_R_bad h
  | some v => exact pm_R_go h
theorem pm_R_if {X : pm_X} {y : Nat} {cf a b : pm_C} {c : Bool} (h : pm_next X y cf = if c = true then .inl a else .inl b) : pm_Rc X y cf = if c = true then pm_Rc X y a else pm_Rc X y b := by
  cases c with
  | true => exact pm_R_go h
  | false => exact pm_R_go h
theorem pm_R_bif {X : pm_X} {y : Nat} {cf a : pm_C} {c : Prop} [Decidable c] (h : pm_next X y cf = if c then pm_bad else .inl a) : pm_Rc X y cf = if c then none else pm_Rc X y a := by
  by_cases hc : c
  · rw [if_pos hc] at h ⊢
    exact pm_R_bad h
  · rw [if_neg hc] at h ⊢
    exact pm_R_go h
theorem pm_nle {a b : Int32} : b ≤ a ↔ ¬ (a < b) := by
  rw [Int32.le_iff_toInt_le, Int32.lt_iff_toInt_lt, Int.not_lt]
theorem pm_R_ifeq {X : pm_X} {y pc t : Nat} {ls : pm_L} {st : List pm_V} {M : pm_M} {a : Int32} (h : pm_next X y (pc, ls, .inl a :: st, M) = pm_ifc pc t ls (.inl a :: st) M (fun a => decide (a = 0))) : pm_Rc X y (pc, ls, .inl a :: st, M) = if a = 0 then pm_Rc X y (t, ls, st, M) else pm_Rc X y (pc + 3, ls, st, M) := by
  have h2 := pm_R_if (X := X) (y := y) h
  rw [h2]
  by_cases q : a = 0 <;> simp [q]
theorem pm_R_ifne {X : pm_X} {y pc t : Nat} {ls : pm_L} {st : List pm_V} {M : pm_M} {a : Int32} (h : pm_next X y (pc, ls, .inl a :: st, M) = pm_ifc pc t ls (.inl a :: st) M (fun a => !decide (a = 0))) : pm_Rc X y (pc, ls, .inl a :: st, M) = if a = 0 then pm_Rc X y (pc + 3, ls, st, M) else pm_Rc X y (t, ls, st, M) := by
  have h2 := pm_R_if (X := X) (y := y) h
  rw [h2]
  by_cases q : a = 0 <;> simp [q]
theorem pm_R_iflt {X : pm_X} {y pc t : Nat} {ls : pm_L} {st : List pm_V} {M : pm_M} {a : Int32} (h : pm_next X y (pc, ls, .inl a :: st, M) = pm_ifc pc t ls (.inl a :: st) M (fun a => decide (a < 0))) : pm_Rc X y (pc, ls, .inl a :: st, M) = if a < 0 then pm_Rc X y (t, ls, st, M) else pm_Rc X y (pc + 3, ls, st, M) := by
  have h2 := pm_R_if (X := X) (y := y) h
  rw [h2]
  by_cases q : a < 0 <;> simp [q]
theorem pm_R_ifge {X : pm_X} {y pc t : Nat} {ls : pm_L} {st : List pm_V} {M : pm_M} {a : Int32} (h : pm_next X y (pc, ls, .inl a :: st, M) = pm_ifc pc t ls (.inl a :: st) M (fun a => decide (0 ≤ a))) : pm_Rc X y (pc, ls, .inl a :: st, M) = if a < 0 then pm_Rc X y (pc + 3, ls, st, M) else pm_Rc X y (t, ls, st, M) := by
  have h2 := pm_R_if (X := X) (y := y) h
  rw [h2]
  by_cases q : a < 0 <;> simp [pm_nle, q]
theorem pm_R_ifgt {X : pm_X} {y pc t : Nat} {ls : pm_L} {st : List pm_V} {M : pm_M} {a : Int32} (h : pm_next X y (pc, ls, .inl a :: st, M) = pm_ifc pc t ls (.inl a :: st) M (fun a => decide (0 < a))) : pm_Rc X y (pc, ls, .inl a :: st, M) = if 0 < a then pm_Rc X y (t, ls, st, M) else pm_Rc X y (pc + 3, ls, st, M) := by
  have h2 := pm_R_if (X := X) (y := y) h
  rw [h2]
  by_cases q : 0 < a <;> simp [q]
theorem pm_R_ifle {X : pm_X} {y pc t : Nat} {ls : pm_L} {st : List pm_V} {M : pm_M} {a : Int32} (h : pm_next X y (pc, ls, .inl a :: st, M) = pm_ifc pc t ls (.inl a :: st) M (fun a => decide (a ≤ 0))) : pm_Rc X y (pc, ls, .inl a :: st, M) = if 0 < a then pm_Rc X y (pc + 3, ls, st, M) else pm_Rc X y (t, ls, st, M) := by
  have h2 := pm_R_if (X := X) (y := y) h
  rw [h2]
  by_cases q : 0 < a <;> simp [pm_nle, q]
theorem pm_R_iceq {X : pm_X} {y pc t : Nat} {ls : pm_L} {st : List pm_V} {M : pm_M} {a b : Int32} (h : pm_next X y (pc, ls, .inl b :: .inl a :: st, M) = pm_icm pc t ls (.inl b :: .inl a :: st) M (fun a b => decide (a = b))) : pm_Rc X y (pc, ls, .inl b :: .inl a :: st, M) = if a = b then pm_Rc X y (t, ls, st, M) else pm_Rc X y (pc + 3, ls, st, M) := by
  have h2 := pm_R_if (X := X) (y := y) h
  rw [h2]
  by_cases q : a = b <;> simp [q]
theorem pm_R_icne {X : pm_X} {y pc t : Nat} {ls : pm_L} {st : List pm_V} {M : pm_M} {a b : Int32} (h : pm_next X y (pc, ls, .inl b :: .inl a :: st, M) = pm_icm pc t ls (.inl b :: .inl a :: st) M (fun a b => !decide (a = b))) : pm_Rc X y (pc, ls, .inl b :: .inl a :: st, M) = if a = b then pm_Rc X y (pc + 3, ls, st, M) else pm_Rc X y (t, ls, st, M) := by
  have h2 := pm_R_if (X := X) (y := y) h
  rw [h2]
  by_cases q : a = b <;> simp [q]
theorem pm_R_iclt {X : pm_X} {y pc t : Nat} {ls : pm_L} {st : List pm_V} {M : pm_M} {a b : Int32} (h : pm_next X y (pc, ls, .inl b :: .inl a :: st, M) = pm_icm pc t ls (.inl b :: .inl a :: st) M (fun a b => decide (a < b))) : pm_Rc X y (pc, ls, .inl b :: .inl a :: st, M) = if a < b then pm_Rc X y (t, ls, st, M) else pm_Rc X y (pc + 3, ls, st, M) := by
  have h2 := pm_R_if (X := X) (y := y) h
  rw [h2]
  by_cases q : a < b <;> simp [q]
theorem pm_R_icge {X : pm_X} {y pc t : Nat} {ls : pm_L} {st : List pm_V} {M : pm_M} {a b : Int32} (h : pm_next X y (pc, ls, .inl b :: .inl a :: st, M) = pm_icm pc t ls (.inl b :: .inl a :: st) M (fun a b => decide (b ≤ a))) : pm_Rc X y (pc, ls, .inl b :: .inl a :: st, M) = if a < b then pm_Rc X y (pc + 3, ls, st, M) else pm_Rc X y (t, ls, st, M) := by
  have h2 := pm_R_if (X := X) (y := y) h
  rw [h2]
  by_cases q : a < b <;> simp [pm_nle, q]
theorem pm_R_icgt {X : pm_X} {y pc t : Nat} {ls : pm_L} {st : List pm_V} {M : pm_M} {a b : Int32} (h : pm_next X y (pc, ls, .inl b :: .inl a :: st, M) = pm_icm pc t ls (.inl b :: .inl a :: st) M (fun a b => decide (b < a))) : pm_Rc X y (pc, ls, .inl b :: .inl a :: st, M) = if b < a then pm_Rc X y (t, ls, st, M) else pm_Rc X y (pc + 3, ls, st, M) := by
  have h2 := pm_R_if (X := X) (y := y) h
  rw [h2]
  by_cases q : b < a <;> simp [q]
theorem pm_R_icle {X : pm_X} {y pc t : Nat} {ls : pm_L} {st : List pm_V} {M : pm_M} {a b : Int32} (h : pm_next X y (pc, ls, .inl b :: .inl a :: st, M) = pm_icm pc t ls (.inl b :: .inl a :: st) M (fun a b => decide (a ≤ b))) : pm_Rc X y (pc, ls, .inl b :: .inl a :: st, M) = if b < a then pm_Rc X y (pc + 3, ls, st, M) else pm_Rc X y (t, ls, st, M) := by
  have h2 := pm_R_if (X := X) (y := y) h
  rw [h2]
  by_cases q : b < a <;> simp [pm_nle, q]
theorem pm_R_ald {X : pm_X} {y pc : Nat} {ls : pm_L} {st : List pm_V} {M : pm_M} {x : Int32} {k : Nat} (h : pm_next X y (pc, ls, .inl x :: .inr (.inl k) :: st, M) = pm_stp X false pc .iaload [] ls (.inl x :: .inr (.inl k) :: st) M) : pm_Rc X y (pc, ls, .inl x :: .inr (.inl k) :: st, M) = (pm_ald X k x M).bind (fun v => pm_Rc X y (pc + 1, ls, .inl v :: st, M)) := by
  cases ho : pm_ald X k x M with
  | none => exact pm_R_bad (h.trans (by simp [pm_stp, ho]))
  | some v => exact pm_R_go (h.trans (by simp [pm_stp, ho]))
theorem pm_R_ast {X : pm_X} {y pc : Nat} {ls : pm_L} {st : List pm_V} {M : pm_M} {x z : Int32} {k : Nat} (h : pm_next X y (pc, ls, .inl z :: .inl x :: .inr (.inl k) :: st, M) = pm_stp X false pc .iastore [] ls (.inl z :: .inl x :: .inr (.inl k) :: st) M) : pm_Rc X y (pc, ls, .inl z :: .inl x :: .inr (.inl k) :: st, M) = (pm_ast k x z M).bind (fun v => pm_Rc X y (pc + 1, ls, st, v)) := by
  cases ho : pm_ast k x z M with
  | none => exact pm_R_bad (h.trans (by simp [pm_stp, ho]))
  | some v => exact pm_R_go (h.trans (by simp [pm_stp, ho]))
theorem pm_R_aald {X : pm_X} {y pc : Nat} {ls : pm_L} {st : List pm_V} {M : pm_M} {x : Int32} {k : Nat} (h : pm_next X y (pc, ls, .inl x :: .inr (.inl k) :: st, M) = pm_stp X false pc .aaload [] ls (.inl x :: .inr (.inl k) :: st) M) : pm_Rc X y (pc, ls, .inl x :: .inr (.inl k) :: st, M) = (pm_aald k x).bind (fun v => pm_Rc X y (pc + 1, ls, .inr (.inl v) :: st, M)) := by
  cases ho : pm_aald k x with
  | none => exact pm_R_bad (h.trans (by simp [pm_stp, ho]))
  | some v => exact pm_R_go (h.trans (by simp [pm_stp, ho]))
theorem pm_R_aln {X : pm_X} {y pc : Nat} {ls : pm_L} {st : List pm_V} {M : pm_M} {k : Nat} (h : pm_next X y (pc, ls, .inr (.inl k) :: st, M) = pm_stp X false pc .arraylength [] ls (.inr (.inl k) :: st) M) : pm_Rc X y (pc, ls, .inr (.inl k) :: st, M) = (pm_aln X k).bind (fun v => pm_Rc X y (pc + 1, ls, .inl v :: st, M)) := by
  cases ho : pm_aln X k with
  | none => exact pm_R_bad (h.trans (by simp [pm_stp, ho]))
  | some v => exact pm_R_go (h.trans (by simp [pm_stp, ho]))
theorem pm_R_acp {X : pm_X} {y pc : Nat} {ls : pm_L} {M : pm_M} {sp dp n : Int32} {k0 k1 : Nat} (h : pm_next X y (pc, ls, [.inl n, .inl dp, .inr (.inl k1), .inl sp, .inr (.inl k0)], M) = pm_stp X false pc (.invokestatic 0) [0] ls ([.inl n, .inl dp, .inr (.inl k1), .inl sp, .inr (.inl k0)]) M) : pm_Rc X y (pc, ls, [.inl n, .inl dp, .inr (.inl k1), .inl sp, .inr (.inl k0)], M) = (pm_acp k0 sp k1 dp n M).bind (fun v => pm_Rc X y (pc + 3, ls, [], v)) := by
  cases ho : pm_acp k0 sp k1 dp n M with
  | none => exact pm_R_bad (h.trans (by simp [pm_stp, ho]))
  | some v => exact pm_R_go (h.trans (by simp [pm_stp, ho]))
