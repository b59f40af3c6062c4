/-! The pure machine's runs, and what its words and worlds are. -/
def pm_row (y : Nat) : MethodName × ByteArray × Nat × Option FieldType × Nat := (pm_t[y]?).getD (yL_law, cL_law, 4, none, 0)
def pm_nm (y : Nat) : MethodName := (pm_row y).1
def pm_by (y : Nat) : ByteArray := (pm_row y).2.1
def pm_ml (y : Nat) : Nat := (pm_row y).2.2.1
def pm_ret (y : Nat) : Option FieldType := (pm_row y).2.2.2.1
def pm_rk (y : Nat) : Nat := (pm_row y).2.2.2.2
def pm_rwf (y : Nat) : List (Nat × Instr × Nat × List Nat) := (pm_rws[y]?).getD []
def pm_rb (y : Nat) : Bool := match pm_ret y with
  | some .boolean => true
  | _ => false
def pm_next (X : pm_X) (y : Nat) (cf : pm_C) : pm_A := match pm_find (pm_rwf y) cf.1 with
  | some r => pm_stp X (pm_rb y) cf.1 r.1 r.2.2 cf.2.1 cf.2.2.1 cf.2.2.2
  | none => pm_bad
def pm_X0 : pm_X := (0, fun _ => 0)
def pm_ex : Nat → pm_X → Nat → pm_C → Option pm_O
  | 0, _, _, _ => none
  | n + 1, X, y, cf => match pm_next X y cf with
    | .inl c2 => pm_ex n X y c2
    | .inr (.inl r) => some r
    | .inr (.inr (.inl q)) => if (pm_args q.2.1).length ≤ pm_ml q.1 then (match pm_ex n pm_X0 q.1 (0, pm_ent q.2.1 (pm_ml q.1), [], q.2.2.2.2.2) with
      | some r => pm_ex n X y (q.2.2.1, q.2.2.2.1, pm_psh r.1 q.2.2.2.2.1, r.2)
      | none => none) else none
    | .inr (.inr (.inr _)) => none
/-! words -/
def pm_isn (w : Cond) : Bool := match w with
  | .fieldLinkNest _ _ _ _ _ _ => true
  | .methodLinkNest _ _ _ _ => true
  | _ => false
def pm_gw : List Cond := lw_tbl.filter goodWord
def pm_nw : List Cond := lw_tbl.filter pm_isn
theorem pm_gw_of {w : Cond} (h : w ∈ lw_tbl) (g : goodWord w = true) : w ∈ pm_gw := List.mem_filter.mpr ⟨h, g⟩
theorem pm_nw_of {w : Cond} (h : w ∈ lw_tbl) (g : pm_isn w = true) : w ∈ pm_nw := List.mem_filter.mpr ⟨h, g⟩
theorem pm_gw_good {w : Cond} (h : w ∈ pm_gw) : goodWord w = true := (List.mem_filter.mp h).2
abbrev pm_cls : List vw_C := [(RX0, TX0, 7), (RX1, TX1, 4), (RX2, TX2, 3), (RX4, TX4, 6), (RX5, TX5, 7), (RX6, TX6, 30)]
theorem pm_nw_warm {s U : State} (hW : s.WarmedH U.vm) (h : ∀ w ∈ pm_nw, va_Nw w s) : ∀ w ∈ pm_nw, va_Nw w U := by
  intro w hw
  have h1 := h w hw
  have h2 := (List.mem_filter.mp hw).2
  unfold pm_isn at h2
  split at h2
  · exact va_Nw.warmF hW h1
  · exact va_Nw.warmM hW h1
  · cases h2
theorem pm_nw_same {u U : State} (h : u.vm = U.vm) (hz : ∀ w ∈ pm_nw, va_Nw w u) : ∀ w ∈ pm_nw, va_Nw w U := by
  intro w hw
  have h1 := hz w hw
  have h2 := (List.mem_filter.mp hw).2
  unfold pm_isn at h2
  split at h2
  · exact va_Nw.same rfl h h1
  · exact va_Nw.same rfl h h1
  · cases h2
/-! values, locals -/
def pm_to (ad : Nat → Nat) (v : pm_V) : Value := match v with
  | .inl x => .int x
  | .inr (.inl k) => .ref (ad k)
  | .inr (.inr z) => .long z
def pm_loc (ad : Nat → Nat) : Nat → pm_L → List (Nat × Value)
  | _, [] => []
  | i, some v :: t => (i, pm_to ad v) :: pm_loc ad (i + 1) t
  | i, none :: t => pm_loc ad (i + 1) t
theorem pm_loc_iff {ad : Nat → Nat} {q : Nat × Value} : ∀ (ls : pm_L) (i : Nat), q ∈ pm_loc ad i ls ↔ ∃ (j : Nat) (v : pm_V), ls[j]? = some (some v) ∧ q = (i + j, pm_to ad v)
  | [], i => by simp [pm_loc]
  | some w :: t, i => by
    rw [pm_loc, List.mem_cons, pm_loc_iff t (i + 1)]
    constructor
    · rintro (h | ⟨j, v, h1, h2⟩)
      · exact ⟨0, w, rfl, by rw [h]; rfl⟩
      · exact ⟨j + 1, v, h1, by rw [h2]; congr 1; omega⟩
    · rintro ⟨j, v, h1, h2⟩
      cases j with
      | zero =>
        simp at h1
        subst h1
        exact Or.inl h2
      | succ j => exact Or.inr ⟨j, v, by simpa using h1, by rw [h2]; congr 1; omega⟩
  | none :: t, i => by
    rw [pm_loc, pm_loc_iff t (i + 1)]
    constructor
    · rintro ⟨j, v, h1, h2⟩
      exact ⟨j + 1, v, h1, by rw [h2]; congr 1; omega⟩
    · rintro ⟨j, v, h1, h2⟩
      cases j with
      | zero => simp at h1
      | succ j => exact ⟨j, v, by simpa using h1, by rw [h2]; congr 1; omega⟩
theorem pm_get_at {ls : pm_L} {k : Nat} {v : pm_V} (h : pm_get ls k = some v) : ls[k]? = some (some v) := by
  unfold pm_get at h
  split at h
  · rename_i w hw
    cases h
    exact hw
  · cases h
theorem pm_loc_get {ad : Nat → Nat} {ls : pm_L} {k : Nat} {v : pm_V} (h : pm_get ls k = some v) : (k, pm_to ad v) ∈ pm_loc ad 0 ls :=
  (pm_loc_iff ls 0).mpr ⟨k, v, pm_get_at h, by rw [Nat.zero_add]⟩
theorem pm_nlz_some {o : Option pm_V} {w : pm_V} (ad : Nat → Nat) (h : pm_nlz o = some w) : o = some w ∧ ¬ (pm_to ad w).category = 2 := by
  unfold pm_nlz at h
  split at h
  · cases h; exact ⟨rfl, by simp [pm_to, Value.category]⟩
  · cases h; exact ⟨rfl, by simp [pm_to, Value.category]⟩
  · cases h
theorem pm_set_at (ad : Nat → Nat) {v w : pm_V} : ∀ (ls : pm_L) (k j : Nat), (pm_set ls k v)[j]? = some (some w) → (j = k ∧ w = v) ∨ (j ≠ k ∧ ls[j]? = some (some w) ∧ (j + 1 = k → ¬ (pm_to ad w).category = 2))
  | [], k, j, h => by simp [pm_set] at h
  | o :: t, 0, j, h => by
    cases j with
    | zero => simp [pm_set] at h; exact Or.inl ⟨rfl, h.symm⟩
    | succ j => exact Or.inr ⟨by omega, by simpa [pm_set] using h, fun q => by omega⟩
  | o :: [], 1, j, h => by
    cases j with
    | zero =>
      simp [pm_set] at h
      obtain ⟨h1, h2⟩ := pm_nlz_some ad h
      exact Or.inr ⟨by omega, by rw [h1]; rfl, fun _ => h2⟩
    | succ j => simp [pm_set] at h
  | o :: o2 :: t, 1, j, h => by
    cases j with
    | zero =>
      simp [pm_set] at h
      obtain ⟨h1, h2⟩ := pm_nlz_some ad h
      exact Or.inr ⟨by omega, by rw [h1]; rfl, fun _ => h2⟩
    | succ j =>
      cases j with
      | zero => simp [pm_set] at h; exact Or.inl ⟨rfl, h.symm⟩
      | succ j => exact Or.inr ⟨by omega, by simpa [pm_set] using h, fun q => by omega⟩
  | o :: t, k + 2, j, h => by
    cases j with
    | zero => exact Or.inr ⟨by omega, by simpa [pm_set] using h, fun q => by omega⟩
    | succ j =>
      have h1 : (pm_set t (k + 1) v)[j]? = some (some w) := by simpa [pm_set] using h
      rcases pm_set_at ad t (k + 1) j h1 with ⟨a, b⟩ | ⟨a, b, d⟩
      · exact Or.inl ⟨by omega, b⟩
      · exact Or.inr ⟨by omega, by simpa using b, fun q => d (by omega)⟩
theorem pm_setL_at (ad : Nat → Nat) {z : Int64} {w : pm_V} : ∀ (ls : pm_L) (k j : Nat), (pm_setL ls k z)[j]? = some (some w) → (j = k ∧ w = .inr (.inr z)) ∨ (j ≠ k ∧ j ≠ k + 1 ∧ ls[j]? = some (some w) ∧ (j + 1 = k → ¬ (pm_to ad w).category = 2))
  | [], k, j, h => by simp [pm_setL] at h
  | [o], 0, j, h => by
    cases j with
    | zero => simp [pm_setL] at h; exact Or.inl ⟨rfl, h.symm⟩
    | succ j => simp [pm_setL] at h
  | o :: o2 :: t, 0, j, h => by
    cases j with
    | zero => simp [pm_setL] at h; exact Or.inl ⟨rfl, h.symm⟩
    | succ j =>
      cases j with
      | zero => simp [pm_setL] at h
      | succ j => exact Or.inr ⟨by omega, by omega, by simpa [pm_setL] using h, fun q => by omega⟩
  | [o], 1, j, h => by
    cases j with
    | zero =>
      simp [pm_setL] at h
      obtain ⟨h1, h2⟩ := pm_nlz_some ad h
      exact Or.inr ⟨by omega, by omega, by rw [h1]; rfl, fun _ => h2⟩
    | succ j => simp [pm_setL] at h
  | [o, o2], 1, j, h => by
    cases j with
    | zero =>
      simp [pm_setL] at h
      obtain ⟨h1, h2⟩ := pm_nlz_some ad h
      exact Or.inr ⟨by omega, by omega, by rw [h1]; rfl, fun _ => h2⟩
    | succ j =>
      cases j with
      | zero => simp [pm_setL] at h; exact Or.inl ⟨rfl, h.symm⟩
      | succ j => simp [pm_setL] at h
  | o :: o2 :: o3 :: t, 1, j, h => by
    cases j with
    | zero =>
      simp [pm_setL] at h
      obtain ⟨h1, h2⟩ := pm_nlz_some ad h
      exact Or.inr ⟨by omega, by omega, by rw [h1]; rfl, fun _ => h2⟩
    | succ j =>
      cases j with
      | zero => simp [pm_setL] at h; exact Or.inl ⟨rfl, h.symm⟩
      | succ j =>
        cases j with
        | zero => simp [pm_setL] at h
        | succ j => exact Or.inr ⟨by omega, by omega, by simpa [pm_setL] using h, fun q => by omega⟩
  | o :: t, k + 2, j, h => by
    cases j with
    | zero => exact Or.inr ⟨by omega, by omega, by simpa [pm_setL] using h, fun q => by omega⟩
    | succ j =>
      have h1 : (pm_setL t (k + 1) z)[j]? = some (some w) := by simpa [pm_setL] using h
      rcases pm_setL_at ad t (k + 1) j h1 with ⟨a, b⟩ | ⟨a, b, d, f⟩
      · exact Or.inl ⟨by omega, b⟩
      · exact Or.inr ⟨by omega, by omega, by simpa using d, fun q => f (by omega)⟩
theorem pm_lv_set {ad : Nat → Nat} {ls : pm_L} {k n : Nat} {v : pm_V} {A : Array Slot} (h : lv_has A n ((k, pm_to ad v) :: (pm_loc ad 0 ls).filter (fun q => !(q.1 == k) && !(q.1 + 1 == k && q.2.category == 2)))) : lv_has A n (pm_loc ad 0 (pm_set ls k v)) := by
  refine ⟨h.1, h.2.1, fun q hq => h.2.2 q ?_⟩
  obtain ⟨j, w, h1, rfl⟩ := (pm_loc_iff _ 0).mp hq
  rw [Nat.zero_add]
  rcases pm_set_at ad ls k j h1 with ⟨rfl, rfl⟩ | ⟨a, b, d⟩
  · exact List.mem_cons_self
  · refine List.mem_cons_of_mem _ (List.mem_filter.mpr ⟨(pm_loc_iff ls 0).mpr ⟨j, w, b, by rw [Nat.zero_add]⟩, ?_⟩)
    simp [a]
    exact (Decidable.em (j + 1 = k)).elim (fun h => Or.inr (d h)) Or.inl
theorem pm_lv_setL {ad : Nat → Nat} {ls : pm_L} {k n : Nat} {z : Int64} {A : Array Slot} (h : lv_has A n ((k, .long z) :: (pm_loc ad 0 ls).filter (fun q => !(q.1 == k) && (!(q.1 == k + 1) && !(q.1 + 1 == k && q.2.category == 2))))) : lv_has A n (pm_loc ad 0 (pm_setL ls k z)) := by
  refine ⟨h.1, h.2.1, fun q hq => h.2.2 q ?_⟩
  obtain ⟨j, w, h1, rfl⟩ := (pm_loc_iff _ 0).mp hq
  rw [Nat.zero_add]
  rcases pm_setL_at ad ls k j h1 with ⟨rfl, rfl⟩ | ⟨a, a2, b, d⟩
  · exact List.mem_cons_self
  · refine List.mem_cons_of_mem _ (List.mem_filter.mpr ⟨(pm_loc_iff ls 0).mpr ⟨j, w, b, by rw [Nat.zero_add]⟩, ?_⟩)
    simp [a, a2]
    exact (Decidable.em (j + 1 = k)).elim (fun h => Or.inr (d h)) Or.inl
theorem pm_loc_none {ad : Nat → Nat} {q : Nat × Value} (m i : Nat) : ¬ q ∈ pm_loc ad i (List.replicate m none) := by
  intro h
  obtain ⟨j, w, h1, -⟩ := (pm_loc_iff _ i).mp h
  rw [List.getElem?_replicate] at h1
  split at h1 <;> simp at h1
theorem pm_loc_args {ad : Nat → Nat} {q : Nat × Value} (m : Nat) : ∀ (vs : List pm_V) (i : Nat), q ∈ pm_loc ad i (pm_args vs ++ List.replicate m none) → q ∈ lv_args i (vs.map (pm_to ad))
  | [], i, h => absurd h (by simpa [pm_args] using pm_loc_none m i)
  | .inl x :: t, i, h => by
    simp only [pm_args, List.cons_append, pm_loc, List.mem_cons] at h
    simp only [List.map_cons, lv_args, List.mem_cons]
    rcases h with h | h
    · exact Or.inl h
    · exact Or.inr (by simpa [pm_to, Value.category] using pm_loc_args m t (i + 1) h)
  | .inr (.inl x) :: t, i, h => by
    simp only [pm_args, List.cons_append, pm_loc, List.mem_cons] at h
    simp only [List.map_cons, lv_args, List.mem_cons]
    rcases h with h | h
    · exact Or.inl h
    · exact Or.inr (by simpa [pm_to, Value.category] using pm_loc_args m t (i + 1) h)
  | .inr (.inr x) :: t, i, h => by
    simp only [pm_args, List.cons_append, pm_loc, List.mem_cons] at h
    simp only [List.map_cons, lv_args, List.mem_cons]
    rcases h with h | h
    · exact Or.inl h
    · exact Or.inr (by simpa [pm_to, Value.category] using pm_loc_args m t (i + 1 + 1) h)
/-! worlds -/
def pm_fs (ad : Nat → Nat) (f : Nat → Int32) : Nat → List (Option Nat) → List Value
  | _, [] => []
  | j, some q :: t => .ref (ad q) :: pm_fs ad f (j + 1) t
  | j, none :: t => .int (f j) :: pm_fs ad f (j + 1) t
def pm_e (ad : Nat → Nat) (cI cQ : ClassId) (M : pm_M) (k : Nat) (sh : pm_S) : va_E := match sh with
  | .inl n => .inl (cI, n, .inl (M k))
  | .inr (.inl ks) => .inl (cQ, ks.length, .inr (.inr (.inr (.inr (fun i => (ks[i]?).map ad)))))
  | .inr (.inr q) => .inr (q.1, pm_fs ad (M k) 0 q.2)
def pm_wl (ad : Nat → Nat) (cI cQ : ClassId) (M : pm_M) : Nat → List pm_S → va_W
  | _, [] => []
  | k, sh :: t => (ad k, pm_e ad cI cQ M k sh) :: pm_wl ad cI cQ M (k + 1) t
def pm_w (ad : Nat → Nat) (cI cQ : ClassId) (M : pm_M) : va_W := pm_wl ad cI cQ M 0 pm_shl
theorem pm_wl_get {ad : Nat → Nat} {cI cQ : ClassId} {M : pm_M} : ∀ (l : List pm_S) (i k : Nat), (pm_wl ad cI cQ M i l)[k]? = (l[k]?).map (fun sh => (ad (i + k), pm_e ad cI cQ M (i + k) sh))
  | [], i, k => by simp [pm_wl]
  | sh :: t, i, 0 => by simp [pm_wl]
  | sh :: t, i, k + 1 => by
    have h := pm_wl_get (ad := ad) (cI := cI) (cQ := cQ) (M := M) t (i + 1) k
    simp only [pm_wl, List.getElem?_cons_succ]
    rw [h, show i + 1 + k = i + (k + 1) by omega]
theorem pm_w_get {ad : Nat → Nat} {cI cQ : ClassId} {M : pm_M} {k : Nat} {sh : pm_S} (h : pm_sh k = some sh) : (pm_w ad cI cQ M)[k]? = some (ad k, pm_e ad cI cQ M k sh) := by
  unfold pm_w
  rw [pm_wl_get, Nat.zero_add, show pm_shl[k]? = some sh from h]
  rfl
theorem pm_e_same {ad : Nat → Nat} {cI cQ : ClassId} {M M2 : pm_M} {k : Nat} {sh : pm_S} (h : M2 k = M k) : pm_e ad cI cQ M2 k sh = pm_e ad cI cQ M k sh := by
  unfold pm_e
  rw [h]
theorem pm_w_set {ad : Nat → Nat} {cI cQ : ClassId} {M M2 : pm_M} {k : Nat} {sh : pm_S} (h : pm_sh k = some sh) (hM : ∀ a, a ≠ k → M2 a = M a) : (pm_w ad cI cQ M).set k (ad k, pm_e ad cI cQ M2 k sh) = pm_w ad cI cQ M2 := by
  apply List.ext_getElem?
  intro j
  rw [List.getElem?_set]
  by_cases hj : k = j
  · subst hj
    have hl : k < (pm_w ad cI cQ M).length := (List.getElem?_eq_some_iff.mp (pm_w_get (ad := ad) (cI := cI) (cQ := cQ) (M := M) h)).1
    rw [if_pos rfl, if_pos hl, pm_w_get h]
  · rw [if_neg hj]
    unfold pm_w
    rw [pm_wl_get, pm_wl_get]
    cases hs : pm_shl[j]? with
    | none => rfl
    | some sj =>
      simp only [Option.map_some, Nat.zero_add]
      rw [pm_e_same (hM j (fun q => hj q.symm))]
theorem pm_fs_get {ad : Nat → Nat} {f : Nat → Int32} : ∀ (l : List (Option Nat)) (i j : Nat), (pm_fs ad f i l)[j]? = (l[j]?).map (fun o => match o with
    | some q => Value.ref (ad q)
    | none => Value.int (f (i + j)))
  | [], i, j => by simp [pm_fs]
  | some q :: t, i, 0 => by simp [pm_fs]
  | none :: t, i, 0 => by simp [pm_fs]
  | some q :: t, i, j + 1 => by
    simp only [pm_fs, List.getElem?_cons_succ]
    rw [pm_fs_get t (i + 1) j, show i + 1 + j = i + (j + 1) by omega]
  | none :: t, i, j + 1 => by
    simp only [pm_fs, List.getElem?_cons_succ]
    rw [pm_fs_get t (i + 1) j, show i + 1 + j = i + (j + 1) by omega]
theorem pm_fs_set {ad : Nat → Nat} {f : Nat → Int32} {l : List (Option Nat)} {j : Nat} {v : Int32} (h : l[j]? = some none) : (pm_fs ad f 0 l).set j (.int v) = pm_fs ad (fun b => if b = j then v else f b) 0 l := by
  apply List.ext_getElem?
  intro q
  rw [List.getElem?_set, pm_fs_get, pm_fs_get]
  by_cases hq : j = q
  · subst hq
    have hl : j < (pm_fs ad f 0 l).length := by
      have h1 := pm_fs_get (ad := ad) (f := f) l 0 j
      rw [h] at h1
      exact (List.getElem?_eq_some_iff.mp h1).1
    simp [h, hl]
  · rw [if_neg hq]
    cases hl : l[q]? with
    | none => rfl
    | some o =>
      cases o with
      | some z => rfl
      | none => simp [Ne.symm hq]
