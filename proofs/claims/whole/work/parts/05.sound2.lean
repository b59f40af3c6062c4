/-! What a row of the tables must be, and one step of the machine. -/
def pm_ln (i : Instr) : Option Nat := match i with
  | .iload_n _ => some 1 | .iload _ => some 2 | .aload_n _ => some 1 | .aload _ => some 2 | .lload_n _ => some 1 | .lload _ => some 2
  | .istore_n _ => some 1 | .istore _ => some 2 | .lstore _ => some 2 | .iinc _ _ => some 3 | .iconst _ => some 1 | .bipush _ => some 2 | .sipush _ => some 3 | .lconst _ => some 1
  | .ldc_w _ => some 3 | .ldc2_w _ => some 3 | .dup => some 1 | .dup2 => some 1
  | .iadd => some 1 | .isub => some 1 | .imul => some 1 | .iand => some 1 | .ior => some 1 | .ishl => some 1 | .ishr => some 1 | .iushr => some 1 | .irem => some 1
  | .i2l => some 1 | .i2b => some 1 | .i2s => some 1 | .lcmp => some 1 | .ldiv => some 1 | .lrem => some 1 | .lshl => some 1
  | .ifCond _ _ => some 3 | .if_icmp _ _ => some 3 | .goto _ => some 3
  | .getfield _ => some 3 | .putfield _ => some 3 | .iaload => some 1 | .iastore => some 1 | .aaload => some 1 | .arraylength => some 1
  | .invokevirtual _ => some 3 | .invokestatic _ => some 3 | .ireturn => some 1 | .lreturn => some 1 | .return_ => some 1
  | _ => none
def pm_fld (own : String) (ix ci j nest wi : Nat) : Bool := match pm_cls[ci]? with
  | some (C, T, N) => decide (j < N) && decide ((T j).1 = C) && (if nest = 0 then decide (lw_tbl[wi]? = some (.fieldLink own ix C (T j).2.1 (T j).2.2.1)) else decide (lw_tbl[wi]? = some (.fieldLinkNest own ix C (T j).2.1 (T j).2.2.1 "WeatherPass")))
  | none => false
def pm_fli (ci j : Nat) : Bool := match pm_cls[ci]? with
  | some (_, T, _) => (!(T j).2.2.2) && decide (parseFieldDescriptor (T j).2.2.1 = some .int)
  | none => false
def pm_lnk (own : String) (ix y2 nest wi : Nat) : Bool := if nest = 0 then decide (lw_tbl[wi]? = some (.methodLink own ix (pm_nm y2))) else decide (lw_tbl[wi]? = some (.methodLinkNest own ix (pm_nm y2) "WeatherPass"))
def pm_off (pc : Nat) (off : Int) : Bool := decide (0 ≤ (pc : Int) + off)
def pm_stat : List Nat := [20, 21, 22, 23, 24, 25, 26, 32, 33, 34, 42, 47, 52, 80, 81, 82, 115, 127, 141, 142]
def pm_okx (y : Nat) (pc : Nat) (i : Instr) (ax : List Nat) : Bool := match i with
  | .istore_n k => decide ((k : Nat) < pm_ml y)
  | .istore k => decide (k < pm_ml y)
  | .lstore k => decide (k + 1 < pm_ml y)
  | .iinc k _ => decide (k < pm_ml y)
  | .goto o => pm_off pc o
  | .ifCond _ o => pm_off pc o
  | .if_icmp _ o => pm_off pc o
  | .tableswitch d _ _ os => pm_off pc d && os.toList.all (pm_off pc)
  | .lookupswitch d ps => pm_off pc d && ps.toList.all (fun q => pm_off pc q.2) && ((ps.toList.zip (ps.toList.drop 1)).all (fun (a, next) => a.1 < next.1))
  | .ldc_w ix => (match ax with
    | [wi, v] => decide (lw_tbl[wi]? = some (.constant (pm_nm y).cls ix (Int32.ofNat v)))
    | _ => true)
  | .ldc2_w ix => (match ax with
    | [wi, v] => decide (lw_tbl[wi]? = some (.constantLong (pm_nm y).cls ix (Int64.ofNat v)))
    | _ => true)
  | .getfield ix => (match ax with
    | [ci, j, nest, wi] => pm_fld (pm_nm y).cls ix ci j nest wi
    | _ => true)
  | .putfield ix => (match ax with
    | [ci, j, nest, wi] => pm_fld (pm_nm y).cls ix ci j nest wi && pm_fli ci j
    | _ => true)
  | .invokevirtual ix => (match ax with
    | [y2, n, nest, wi, ci] => pm_lnk (pm_nm y).cls ix y2 nest wi && decide (y2 < 143) && decide (pm_rk y2 < pm_rk y) && (!pm_stat.contains y2) && decide ((pm_cls[ci]?).map (fun q => q.1) = some (pm_nm y2).cls) && decide ((parseMethodDescriptor (pm_nm y2).desc).map (fun d => d.parameters.length) = some n)
    | _ => true)
  | .invokestatic ix => (match ax with
    | [y2, n, nest, wi] => pm_lnk (pm_nm y).cls ix y2 nest wi && decide (y2 < 143) && decide (pm_rk y2 < pm_rk y) && (pm_stat.contains y2) && decide ((parseMethodDescriptor (pm_nm y2).desc).map (fun d => d.parameters.length) = some n)
    | [wi] => decide (lw_tbl[wi]? = some (.methodLink (pm_nm y).cls ix arraycopyName)) && decide (1 ≤ pm_rk y)
    | [wi, w, _] => (if w = 0 then decide (lw_tbl[wi]? = some (.methodLink (pm_nm y).cls ix Lib.Math.max.name)) else decide (lw_tbl[wi]? = some (.methodLink (pm_nm y).cls ix Lib.Math.min.name))) && decide (1 ≤ pm_rk y)
    | _ => true)
  | .ireturn => decide (pm_ret y = some .int) || decide (pm_ret y = some .boolean)
  | .lreturn => decide (pm_ret y = some .long)
  | .return_ => decide (pm_ret y = none)
  | _ => true
def pm_okr (y : Nat) (r : Nat × Instr × Nat × List Nat) : Bool :=
  decide (decode (pm_by y) r.1 = .ok (r.2.1, r.2.2.1)) && (match pm_ln r.2.1 with
    | some n => decide (r.2.2.1 = n)
    | none => true) && pm_okx y r.1 r.2.1 r.2.2.2
theorem pm_find_mem : ∀ (l : List (Nat × Instr × Nat × List Nat)) (pc : Nat) (r : Instr × Nat × List Nat), pm_find l pc = some r → (pc, r) ∈ l
  | [], pc, r, h => by simp [pm_find] at h
  | q :: t, pc, r, h => by
    unfold pm_find at h
    split at h
    · rename_i h1
      cases h
      rw [← h1]
      exact List.mem_cons_self
    · exact List.mem_cons_of_mem _ (pm_find_mem t pc r h)
/-- the class files' part of a class's words -/
def pm_okc : Prop := ∀ (ci : Nat) (C : String) (T : u_T) (N : Nat), pm_cls[ci]? = some (C, T, N) → (∀ w ∈ u_ws C T N, w ∈ pm_gw) ∧ (∃ ty : Nat → FieldType, ∀ k, k < N → parseFieldDescriptor (T k).2.2.1 = some (ty k)) ∧ (∀ a, a < N → ∀ b, b < N → a ≠ b → (T a).2.1 ≠ (T b).2.1)
/-- what stays true through a method of the pure machine -/
def pm_E (p : Program) (s : State) (m : MethodId) (args : Array Value) (c : Code) (H0 : Heap) (A : Nat → Prop) (dC : Nat → ClassId) (dI : Nat → Nat → Nat) (ad : Nat → Nat) (cI cQ : ClassId) (X : pm_X) (y : Nat) (R : Room) (cells slots : Nat) : Prop :=
  p.tables.exec = Jvm.exec ∧ c.code = pm_by y ∧ c.maxLocals = pm_ml y ∧ s.vm.findClass (pm_nm y).cls = some m.cls ∧ (∀ w ∈ pm_gw, w.before args s = true) ∧ (∀ w ∈ pm_nw, va_Nw w s) ∧ va_K (dC, dI) pm_cls [(cI, .int), (cQ, .array .int)] s ∧
  (X.1 = 0 ∨ (va_X (ad 99) (X.1 - 1) X.2 s H0 ∧ ad 99 < H0.size ∧ ¬ A (ad 99))) ∧ (pm_rk y ≤ R.frames ∧ 40 * pm_rk y ≤ R.locals ∧ cells ≤ R.cells ∧ slots ≤ R.slots)
/-- from this configuration the machine comes to Q -/
def pm_G (p : Program) (l : Launch) (e : Env) (R : Room) (s : State) (m : MethodId) (args : Array Value) (below : List Frame) (meth : Method) (c : Code) (cells slots : Nat) (Q : State → Prop) (H0 : Heap) (A : Nat → Prop) (dC : Nat → ClassId) (dI : Nat → Nat → Nat) (ad : Nat → Nat) (cI cQ : ClassId) (n : Nat) (cf : pm_C) : Prop :=
  ∀ (H : Heap) (locs : List Loc) (ls : Array Slot), va_P (dC, dI) pm_cls (pm_w ad cI cQ cf.2.2.2) H → va_D A (pm_w ad cI cQ cf.2.2.2) → va_S A H0 H locs → lv_has ls n (pm_loc ad 0 cf.2.1) → W p l e R s m args below meth c H locs cells slots Q (F0 m cf.1 ls (cf.2.2.1.map (pm_to ad)))
theorem pm_in_vp {i : Int32} {n : Nat} (h : pm_in i n = true) : vp_in i n := by
  unfold pm_in at h
  simp only [Bool.and_eq_true, decide_eq_true_eq] at h
  exact vp_in_iff.mpr h
theorem pm_jt_eq {pc : Nat} {o : Int} (h : pm_off pc o = true) : (pc : Int) + o = ((pm_jt pc o : Nat) : Int) := by
  unfold pm_off at h
  simp only [decide_eq_true_eq] at h
  unfold pm_jt
  omega
theorem pm_lk_off {pc : Nat} {d x : Int} : ∀ (l : List (Int × Int)), pm_off pc d = true → l.all (fun q => pm_off pc q.2) = true → pm_off pc (Op.lookupswitch.offset l d x) = true
  | [], h, _ => h
  | q :: t, h, h2 => by
    simp only [List.all_cons, Bool.and_eq_true] at h2
    obtain ⟨a, o⟩ := q
    rw [Op.lookupswitch.offset_cons]
    split
    · exact h2.1
    · exact pm_lk_off t h h2.2
section PMS
variable {p : Program} {l : Launch} {e : Env} {R : Room} {s : State} {m : MethodId} {args : Array Value} {below : List Frame} {meth : Method} {c : Code} {H0 : Heap} {cells slots : Nat} {Q : State → Prop} {dC : Nat → ClassId} {dI : Nat → Nat → Nat} {A : Nat → Prop} {ad : Nat → Nat} {cI cQ : ClassId} {X : pm_X} {y : Nat}
variable {pc len : Nat} {ax : List Nat} {ls2 : pm_L} {st : List pm_V} {M : pm_M} {cf2 : pm_C}
theorem pm_ldi_ok (hE : pm_E p s m args c H0 A dC dI ad cI cQ X y R cells slots) {pc2 k : Nat} (hh : pm_ldi pc2 ls2 k st M = .inl cf2) (hr : ∀ (H : Heap) (locs : List Loc) (ls : Array Slot) (x : Int32), ls[k]? = some (.val (.int x)) → W p l e R s m args below meth c H locs cells slots Q (F0 m pc2 ls (.int x :: st.map (pm_to ad))) → W p l e R s m args below meth c H locs cells slots Q (F0 m pc ls (st.map (pm_to ad))))
    (kk : pm_G p l e R s m args below meth c cells slots Q H0 A dC dI ad cI cQ (pm_ml y) cf2) : pm_G p l e R s m args below meth c cells slots Q H0 A dC dI ad cI cQ (pm_ml y) (pc, ls2, st, M) := by
  intro H locs ls hP hD hS hl
  unfold pm_ldi at hh
  split at hh
  · rename_i x hg
    cases hh
    exact hr H locs ls x (hl.2.2 _ (pm_loc_get (ad := ad) hg)) (kk H locs ls hP hD hS hl)
  · cases hh
theorem pm_lda_ok (hE : pm_E p s m args c H0 A dC dI ad cI cQ X y R cells slots) {pc2 k : Nat} (hh : pm_lda pc2 ls2 k st M = .inl cf2) (hr : ∀ (H : Heap) (locs : List Loc) (ls : Array Slot) (x : Nat), ls[k]? = some (.val (.ref x)) → W p l e R s m args below meth c H locs cells slots Q (F0 m pc2 ls (.ref x :: st.map (pm_to ad))) → W p l e R s m args below meth c H locs cells slots Q (F0 m pc ls (st.map (pm_to ad))))
    (kk : pm_G p l e R s m args below meth c cells slots Q H0 A dC dI ad cI cQ (pm_ml y) cf2) : pm_G p l e R s m args below meth c cells slots Q H0 A dC dI ad cI cQ (pm_ml y) (pc, ls2, st, M) := by
  intro H locs ls hP hD hS hl
  unfold pm_lda at hh
  split at hh
  · rename_i x hg
    cases hh
    exact hr H locs ls (ad x) (hl.2.2 _ (pm_loc_get (ad := ad) hg)) (kk H locs ls hP hD hS hl)
  · cases hh
theorem pm_ldl_ok (hE : pm_E p s m args c H0 A dC dI ad cI cQ X y R cells slots) {pc2 k : Nat} (hh : pm_ldl pc2 ls2 k st M = .inl cf2) (hr : ∀ (H : Heap) (locs : List Loc) (ls : Array Slot) (x : Int64), ls[k]? = some (.val (.long x)) → W p l e R s m args below meth c H locs cells slots Q (F0 m pc2 ls (.long x :: st.map (pm_to ad))) → W p l e R s m args below meth c H locs cells slots Q (F0 m pc ls (st.map (pm_to ad))))
    (kk : pm_G p l e R s m args below meth c cells slots Q H0 A dC dI ad cI cQ (pm_ml y) cf2) : pm_G p l e R s m args below meth c cells slots Q H0 A dC dI ad cI cQ (pm_ml y) (pc, ls2, st, M) := by
  intro H locs ls hP hD hS hl
  unfold pm_ldl at hh
  split at hh
  · rename_i x hg
    cases hh
    exact hr H locs ls x (hl.2.2 _ (pm_loc_get (ad := ad) hg)) (kk H locs ls hP hD hS hl)
  · cases hh
theorem pm_bin_ok {pc2 : Nat} {f : Int32 → Int32 → Int32} (hh : pm_bin pc2 ls2 st M f = .inl cf2) (hr : ∀ (H : Heap) (locs : List Loc) (ls : Array Slot) (a b : Int32) (rest : List Value), W p l e R s m args below meth c H locs cells slots Q (F0 m pc2 ls (.int (f a b) :: rest)) → W p l e R s m args below meth c H locs cells slots Q (F0 m pc ls (.int b :: .int a :: rest)))
    (kk : pm_G p l e R s m args below meth c cells slots Q H0 A dC dI ad cI cQ (pm_ml y) cf2) : pm_G p l e R s m args below meth c cells slots Q H0 A dC dI ad cI cQ (pm_ml y) (pc, ls2, st, M) := by
  intro H locs ls hP hD hS hl
  unfold pm_bin at hh
  split at hh
  · cases hh
    exact hr H locs ls _ _ _ (kk H locs ls hP hD hS hl)
  · cases hh
theorem pm_un_ok {pc2 : Nat} {f : Int32 → pm_V} (hh : pm_un pc2 ls2 st M f = .inl cf2) (hr : ∀ (H : Heap) (locs : List Loc) (ls : Array Slot) (a : Int32) (rest : List Value), W p l e R s m args below meth c H locs cells slots Q (F0 m pc2 ls (pm_to ad (f a) :: rest)) → W p l e R s m args below meth c H locs cells slots Q (F0 m pc ls (.int a :: rest)))
    (kk : pm_G p l e R s m args below meth c cells slots Q H0 A dC dI ad cI cQ (pm_ml y) cf2) : pm_G p l e R s m args below meth c cells slots Q H0 A dC dI ad cI cQ (pm_ml y) (pc, ls2, st, M) := by
  intro H locs ls hP hD hS hl
  unfold pm_un at hh
  split at hh
  · cases hh
    exact hr H locs ls _ _ (kk H locs ls hP hD hS hl)
  · cases hh
theorem pm_ifc_ok {t : Nat} {f : Int32 → Bool} (hh : pm_ifc pc t ls2 st M f = .inl cf2) (hr : ∀ (H : Heap) (locs : List Loc) (ls : Array Slot) (a : Int32) (rest : List Value), (f a = true → W p l e R s m args below meth c H locs cells slots Q (F0 m t ls rest)) → (f a = false → W p l e R s m args below meth c H locs cells slots Q (F0 m (pc + 3) ls rest)) → W p l e R s m args below meth c H locs cells slots Q (F0 m pc ls (.int a :: rest)))
    (kk : pm_G p l e R s m args below meth c cells slots Q H0 A dC dI ad cI cQ (pm_ml y) cf2) : pm_G p l e R s m args below meth c cells slots Q H0 A dC dI ad cI cQ (pm_ml y) (pc, ls2, st, M) := by
  intro H locs ls hP hD hS hl
  unfold pm_ifc at hh
  split at hh
  · split at hh
    · rename_i hf
      cases hh
      exact hr H locs ls _ _ (fun _ => kk H locs ls hP hD hS hl) (fun q => by rw [hf] at q; cases q)
    · rename_i hf
      cases hh
      exact hr H locs ls _ _ (fun q => absurd q hf) (fun _ => kk H locs ls hP hD hS hl)
  · cases hh
theorem pm_icm_ok {t : Nat} {f : Int32 → Int32 → Bool} (hh : pm_icm pc t ls2 st M f = .inl cf2) (hr : ∀ (H : Heap) (locs : List Loc) (ls : Array Slot) (a b : Int32) (rest : List Value), (f a b = true → W p l e R s m args below meth c H locs cells slots Q (F0 m t ls rest)) → (f a b = false → W p l e R s m args below meth c H locs cells slots Q (F0 m (pc + 3) ls rest)) → W p l e R s m args below meth c H locs cells slots Q (F0 m pc ls (.int b :: .int a :: rest)))
    (kk : pm_G p l e R s m args below meth c cells slots Q H0 A dC dI ad cI cQ (pm_ml y) cf2) : pm_G p l e R s m args below meth c cells slots Q H0 A dC dI ad cI cQ (pm_ml y) (pc, ls2, st, M) := by
  intro H locs ls hP hD hS hl
  unfold pm_icm at hh
  split at hh
  · split at hh
    · rename_i hf
      cases hh
      exact hr H locs ls _ _ _ (fun _ => kk H locs ls hP hD hS hl) (fun q => by rw [hf] at q; cases q)
    · rename_i hf
      cases hh
      exact hr H locs ls _ _ _ (fun q => absurd q hf) (fun _ => kk H locs ls hP hD hS hl)
  · cases hh
theorem pm_gw_at (hg : ∀ w ∈ pm_gw, w.before args s = true) {i : Nat} {w : Cond} (h : lw_tbl[i]? = some w) (g : goodWord w = true) : w.before args s = true := hg w (pm_gw_of (List.mem_of_getElem? h) g)
theorem pm_get_ok (hC : pm_okc) (hE : pm_E p s m args c H0 A dC dI ad cI cQ X y R cells slots) {ix ci j nest wi k : Nat} {v : pm_V} {r : List pm_V} (hdg : decode (pm_by y) pc = .ok (.getfield ix, 3)) (hf : pm_fld (pm_nm y).cls ix ci j nest wi = true) (hv : pm_gf ci j k M = some v)
    (kk : pm_G p l e R s m args below meth c cells slots Q H0 A dC dI ad cI cQ (pm_ml y) (pc + 3, ls2, v :: r, M)) : pm_G p l e R s m args below meth c cells slots Q H0 A dC dI ad cI cQ (pm_ml y) (pc, ls2, .inr (.inl k) :: r, M) := by
  intro H locs ls hP hD hS hl
  obtain ⟨hx, hb, -, hown, hg, hn, hK, -, -⟩ := hE
  unfold pm_gf at hv
  split at hv
  · rename_i cc fl hsh
    split at hv
    · rename_i hcc
      subst hcc
      unfold pm_fld at hf
      split at hf
      · rename_i C T N hcl
        obtain ⟨hin, -, -⟩ := hC _ _ _ _ hcl
        simp only [Bool.and_eq_true, decide_eq_true_eq] at hf
        obtain ⟨⟨hj, hTC⟩, hf⟩ := hf
        have he := pm_w_get (ad := ad) (cI := cI) (cQ := cQ) (M := M) hsh
        have hgv : (pm_fs ad (M k) 0 fl)[j]? = some (pm_to ad v) := by
          rw [pm_fs_get]
          split at hv
          · rename_i q hq
            cases hv
            rw [hq]; rfl
          · rename_i hq
            cases hv
            rw [hq]
            simp [pm_to]
          · cases hv
        split at hf
        · simp only [decide_eq_true_eq] at hf
          have hlink := pm_gw_at hg hf rfl
          exact va_get hx hb hg hin hown hK hP k he hcl j hj hlink (fun _ h => by rw [← hTC]; exact h) hgv hdg (kk H locs ls hP hD hS hl)
        · simp only [decide_eq_true_eq] at hf
          have hlink : (Cond.fieldLinkNest (pm_nm y).cls ix C (T j).2.1 (T j).2.2.1 "WeatherPass").before args s = true := va_Nw.use rfl (hn _ (pm_nw_of (List.mem_of_getElem? hf) rfl))
          exact va_getN hx hb hg hin hown hK hP k he hcl j hj hlink (fun _ h => by rw [← hTC]; exact h) hgv hdg (kk H locs ls hP hD hS hl)
      · cases hf
    · cases hv
  · cases hv
theorem pm_put_ok (hC : pm_okc) (hE : pm_E p s m args c H0 A dC dI ad cI cQ X y R cells slots) {ix ci j nest wi k : Nat} {v : Int32} {M2 : pm_M} {r : List pm_V} (hdg : decode (pm_by y) pc = .ok (.putfield ix, 3)) (hf : pm_fld (pm_nm y).cls ix ci j nest wi = true) (hfi : pm_fli ci j = true) (hv : pm_pf ci j k v M = some M2)
    (kk : pm_G p l e R s m args below meth c cells slots Q H0 A dC dI ad cI cQ (pm_ml y) (pc + 3, ls2, r, M2)) : pm_G p l e R s m args below meth c cells slots Q H0 A dC dI ad cI cQ (pm_ml y) (pc, ls2, .inl v :: .inr (.inl k) :: r, M) := by
  intro H locs ls hP hD hS hl
  obtain ⟨hx, hb, -, hown, hg, hn, hK, -, -⟩ := hE
  unfold pm_pf at hv
  split at hv
  · rename_i cc fl hsh
    split at hv
    · rename_i hcc
      subst hcc
      split at hv
      · rename_i hq
        cases hv
        unfold pm_fld at hf
        unfold pm_fli at hfi
        split at hf
        · rename_i C T N hcl
          rw [hcl] at hfi
          obtain ⟨hin, ⟨ty0, hty⟩, hnm⟩ := hC _ _ _ _ hcl
          simp only [Bool.and_eq_true, decide_eq_true_eq] at hf
          simp only [Bool.and_eq_true, decide_eq_true_eq, Bool.not_eq_true'] at hfi
          obtain ⟨⟨hj, hTC⟩, hf⟩ := hf
          have he := pm_w_get (ad := ad) (cI := cI) (cQ := cQ) (M := M) hsh
          have hset : (pm_fs ad (M k) 0 fl).set j (.int v) = pm_fs ad (pm_up M k j v k) 0 fl := by
            rw [pm_fs_set hq]
            congr 1
            funext b
            simp [pm_up]
          have hws : (pm_w ad cI cQ M).set k (ad k, .inr (cc, (pm_fs ad (M k) 0 fl).set j (.int v))) = pm_w ad cI cQ (pm_up M k j v) := by
            rw [hset]
            exact pm_w_set (sh := .inr (.inr (cc, fl))) hsh (fun a ha => by funext b; simp [pm_up, ha])
          have hlen : j < (pm_fs ad (M k) 0 fl).length := by
            have h1 := pm_fs_get (ad := ad) (f := M k) fl 0 j
            rw [hq] at h1
            exact (List.getElem?_eq_some_iff.mp h1).1
          split at hf
          · simp only [decide_eq_true_eq] at hf
            have hlink := pm_gw_at hg hf rfl
            exact va_put hx hb hg hin ty0 hty hnm hown hK hP hD hS k he hcl j hj hlink (fun _ h => by rw [← hTC]; exact h) hfi.1 hfi.2 rfl rfl hlen hdg (fun H1 l1 q1 q2 q3 => kk H1 l1 ls (by rw [← hws]; exact q1) (by rw [← hws]; exact q2) q3 hl)
          · simp only [decide_eq_true_eq] at hf
            have hlink : (Cond.fieldLinkNest (pm_nm y).cls ix C (T j).2.1 (T j).2.2.1 "WeatherPass").before args s = true := va_Nw.use rfl (hn _ (pm_nw_of (List.mem_of_getElem? hf) rfl))
            exact va_putN hx hb hg hin ty0 hty hnm hown hK hP hD hS k he hcl j hj hlink (fun _ h => by rw [← hTC]; exact h) hfi.1 hfi.2 rfl rfl hlen hdg (fun H1 l1 q1 q2 q3 => kk H1 l1 ls (by rw [← hws]; exact q1) (by rw [← hws]; exact q2) q3 hl)
        · cases hf
      · cases hv
    · cases hv
  · cases hv
theorem pm_ald_ok (hE : pm_E p s m args c H0 A dC dI ad cI cQ X y R cells slots) {k : Nat} {x v : Int32} {r : List pm_V} (hdg : decode (pm_by y) pc = .ok (.iaload, 1)) (hv : pm_ald X k x M = some v)
    (kk : pm_G p l e R s m args below meth c cells slots Q H0 A dC dI ad cI cQ (pm_ml y) (pc + 1, ls2, .inl v :: r, M)) : pm_G p l e R s m args below meth c cells slots Q H0 A dC dI ad cI cQ (pm_ml y) (pc, ls2, .inl x :: .inr (.inl k) :: r, M) := by
  intro H locs ls hP hD hS hl
  obtain ⟨hx, hb, -, hown, hg, hn, hK, hX, -⟩ := hE
  unfold pm_ald at hv
  split at hv
  · rename_i hk
    subst hk
    split at hv
    · rename_i hi
      cases hv
      rcases hX with hX | ⟨hX, h1, h2⟩
      · rw [hX] at hi
        unfold pm_in at hi
        simp at hi
        omega
      · exact va_sld hx hb hX h1 h2 hS (pm_in_vp hi) hdg (kk H locs ls hP hD hS hl)
    · cases hv
  · split at hv
    · rename_i n hsh
      split at hv
      · rename_i hi
        cases hv
        exact va_iald hx hb hK hP k 0 (pm_w_get (ad := ad) (cI := cI) (cQ := cQ) (M := M) hsh) rfl (pm_in_vp hi) hdg (kk H locs ls hP hD hS hl)
      · cases hv
    · cases hv
theorem pm_aln_ok (hE : pm_E p s m args c H0 A dC dI ad cI cQ X y R cells slots) {k : Nat} {v : Int32} {r : List pm_V} (hdg : decode (pm_by y) pc = .ok (.arraylength, 1)) (hv : pm_aln X k = some v)
    (kk : pm_G p l e R s m args below meth c cells slots Q H0 A dC dI ad cI cQ (pm_ml y) (pc + 1, ls2, .inl v :: r, M)) : pm_G p l e R s m args below meth c cells slots Q H0 A dC dI ad cI cQ (pm_ml y) (pc, ls2, .inr (.inl k) :: r, M) := by
  intro H locs ls hP hD hS hl
  obtain ⟨hx, hb, -, hown, hg, hn, hK, hX, -⟩ := hE
  unfold pm_aln at hv
  split at hv
  · rename_i hk
    subst hk
    split at hv
    · cases hv
    · rename_i h0
      cases hv
      rcases hX with hX | ⟨hX, h1, h2⟩
      · exact absurd hX h0
      · exact va_slen hx hb hX h1 h2 hS hdg (kk H locs ls hP hD hS hl)
  · split at hv
    · rename_i n hsh
      cases hv
      exact va_alen hx hb hK hP k 0 (pm_w_get (ad := ad) (cI := cI) (cQ := cQ) (M := M) hsh) rfl rfl hdg (kk H locs ls hP hD hS hl)
    · cases hv
theorem pm_ast_ok (hE : pm_E p s m args c H0 A dC dI ad cI cQ X y R cells slots) {k : Nat} {x v : Int32} {M2 : pm_M} {r : List pm_V} (hdg : decode (pm_by y) pc = .ok (.iastore, 1)) (hv : pm_ast k x v M = some M2)
    (kk : pm_G p l e R s m args below meth c cells slots Q H0 A dC dI ad cI cQ (pm_ml y) (pc + 1, ls2, r, M2)) : pm_G p l e R s m args below meth c cells slots Q H0 A dC dI ad cI cQ (pm_ml y) (pc, ls2, .inl v :: .inl x :: .inr (.inl k) :: r, M) := by
  intro H locs ls hP hD hS hl
  obtain ⟨hx, hb, -, hown, hg, hn, hK, hX, -⟩ := hE
  unfold pm_ast at hv
  split at hv
  · rename_i n hsh
    split at hv
    · rename_i hi
      cases hv
      have hws : (pm_w ad cI cQ M).set k (ad k, .inl (cI, n, .inl (upd (M k) x.toNatClampNeg v))) = pm_w ad cI cQ (pm_up M k x.toNatClampNeg v) := by
        have h1 : upd (M k) x.toNatClampNeg v = pm_up M k x.toNatClampNeg v k := by
          funext b
          simp [upd, pm_up]
        rw [h1]
        exact pm_w_set (sh := .inl n) hsh (fun a ha => by funext b; simp [pm_up, ha])
      exact va_iast hx hb hK hP hD hS k 0 (pm_w_get (ad := ad) (cI := cI) (cQ := cQ) (M := M) hsh) rfl (pm_in_vp hi) hdg (fun H1 l1 q1 q2 q3 => kk H1 l1 ls (by rw [← hws]; exact q1) (by rw [← hws]; exact q2) q3 hl)
    · cases hv
  · cases hv
theorem pm_aald_ok (hE : pm_E p s m args c H0 A dC dI ad cI cQ X y R cells slots) {k q : Nat} {x : Int32} {r : List pm_V} (hdg : decode (pm_by y) pc = .ok (.aaload, 1)) (hv : pm_aald k x = some q)
    (kk : pm_G p l e R s m args below meth c cells slots Q H0 A dC dI ad cI cQ (pm_ml y) (pc + 1, ls2, .inr (.inl q) :: r, M)) : pm_G p l e R s m args below meth c cells slots Q H0 A dC dI ad cI cQ (pm_ml y) (pc, ls2, .inl x :: .inr (.inl k) :: r, M) := by
  intro H locs ls hP hD hS hl
  obtain ⟨hx, hb, -, hown, hg, hn, hK, hX, -⟩ := hE
  unfold pm_aald at hv
  split at hv
  · rename_i ks hsh
    split at hv
    · rename_i hi
      have hin := pm_in_vp hi
      have hlt : x.toNatClampNeg < ks.length := Nat.not_le.mp fun q => hin (Or.inr q)
      have he := pm_w_get (ad := ad) (cI := cI) (cQ := cQ) (M := M) hsh
      have hK1 := (hK.2 1 (cQ, .array .int) rfl).1
      refine W.aald (v := .ref (ad q)) (ty := .array .int) hx hb (hP k _ he) (hK1 ks.length (fun j => va_rf ((ks[j]?).map ad))) rfl (fun q => by cases q) (by show ¬ (x < 0 ∨ (arrV _ _ _).slots.size ≤ _); rw [arrV_size]; exact hin) (by show (arrV _ _ _).slots[_]? = _; rw [arrV_read _ _ hlt]; show some (va_rf ((ks[x.toNatClampNeg]?).map ad)) = _; rw [hv]; rfl) rfl rfl hdg (kk H locs ls hP hD hS hl)
    · cases hv
  · cases hv
theorem pm_acp_ok (hE : pm_E p s m args c H0 A dC dI ad cI cQ X y R cells slots) {ix wi k0 k1 : Nat} {sp dp n : Int32} {M2 : pm_M} {r : List pm_V} (hdg : decode (pm_by y) pc = .ok (.invokestatic ix, 3)) (hw : lw_tbl[wi]? = some (.methodLink (pm_nm y).cls ix arraycopyName)) (hrk : 1 ≤ pm_rk y) (hr4 : r.length ≤ 2)
    (h1 : (Cond.native arraycopyName) ∈ pm_gw) (h2 : (Cond.static arraycopyName) ∈ pm_gw) (h3 : (Cond.initialized "java/lang/System") ∈ pm_gw) (hv : pm_acp k0 sp k1 dp n M = some M2)
    (kk : pm_G p l e R s m args below meth c cells slots Q H0 A dC dI ad cI cQ (pm_ml y) (pc + 3, ls2, r, M2)) : pm_G p l e R s m args below meth c cells slots Q H0 A dC dI ad cI cQ (pm_ml y) (pc, ls2, .inl n :: .inl dp :: .inr (.inl k1) :: .inl sp :: .inr (.inl k0) :: r, M) := by
  intro H locs ls hP hD hS hl
  obtain ⟨hx, hb, hml, hown, hg, hn, hK, hX, hR1, hR2, hR3⟩ := hE
  unfold pm_acp at hv
  split at hv
  · rename_i n0 n1 s0 s1
    split at hv
    · rename_i hc
      obtain ⟨c1, c2, c3, c4, c5⟩ := hc
      cases hv
      have hws : (pm_w ad cI cQ M).set k1 (ad k1, .inl (cI, n1, .inl (va_cpy (M k0) (M k1) sp.toNatClampNeg dp.toNatClampNeg n.toNatClampNeg))) = pm_w ad cI cQ (pm_cp M k0 sp.toNatClampNeg k1 dp.toNatClampNeg n.toNatClampNeg) := by
        have h1 : va_cpy (M k0) (M k1) sp.toNatClampNeg dp.toNatClampNeg n.toNatClampNeg = pm_cp M k0 sp.toNatClampNeg k1 dp.toNatClampNeg n.toNatClampNeg k1 := by
          simp [pm_cp]
        rw [h1]
        exact pm_w_set (sh := .inl n1) s1 (fun a ha => by simp [pm_cp, ha])
      have hcat : ∀ (t : List pm_V), ((t.map (pm_to ad)).map fun v => v.category).sum ≤ 2 * t.length := by
        intro t
        induction t with
        | nil => simp
        | cons a t ih =>
          have : (pm_to ad a).category ≤ 2 := by
            rcases lv_cat (pm_to ad a) with h | h <;> omega
          simp only [List.map_cons, List.sum_cons, List.length_cons]
          omega
      have hc2 := hcat r
      have h9 : nativeFrameWords "java/lang/System" "arraycopy" 5 ≤ 20 := by decide
      have hl2 : ((r.map (pm_to ad)).map fun v => v.category).sum + (nativeFrameWords "java/lang/System" "arraycopy" 5 + 11) ≤ R.locals := by omega
      exact va_copyi hx hb (hml.trans hl.1.symm) hown (pm_gw_at hg hw rfl) (hg _ h1) (hg _ h2) (hg _ h3) hK hP hD hS k0 k1 0 0 (pm_w_get (ad := ad) (cI := cI) (cQ := cQ) (M := M) s0) (pm_w_get (ad := ad) (cI := cI) (cQ := cQ) (M := M) s1) rfl rfl rfl c1 c2 c3 c4 c5 (fun i hi => rfl) (by omega) hl2 hdg (fun H1 l1 q1 q2 q3 => kk H1 l1 ls (by rw [← hws]; exact q1) (by rw [← hws]; exact q2) q3 hl)
    · cases hv
  · cases hv
theorem pm_mm_ok (hE : pm_E p s m args c H0 A dC dI ad cI cQ X y R cells slots) {ix wi w : Nat} {a b : Int32} {r : List pm_V} (hdg : decode (pm_by y) pc = .ok (.invokestatic ix, 3)) (hw : (if w = 0 then decide (lw_tbl[wi]? = some (.methodLink (pm_nm y).cls ix Lib.Math.max.name)) else decide (lw_tbl[wi]? = some (.methodLink (pm_nm y).cls ix Lib.Math.min.name))) = true) (hrk : 1 ≤ pm_rk y) (hr4 : r.length ≤ 4)
    (hma : (Cond.static Lib.Math.max.name) ∈ pm_gw ∧ (Cond.initialized "java/lang/Math") ∈ pm_gw ∧ (Cond.code Lib.Math.max.name Lib.Math.max.code 2 (some .int)) ∈ pm_gw ∧ (Cond.static Lib.Math.min.name) ∈ pm_gw ∧ (Cond.code Lib.Math.min.name Lib.Math.min.code 2 (some .int)) ∈ pm_gw)
    (kk : pm_G p l e R s m args below meth c cells slots Q H0 A dC dI ad cI cQ (pm_ml y) (pc + 3, ls2, .inl (if w = 0 then (if a < b then b else a) else (if b < a then b else a)) :: r, M)) : pm_G p l e R s m args below meth c cells slots Q H0 A dC dI ad cI cQ (pm_ml y) (pc, ls2, .inl b :: .inl a :: r, M) := by
  intro H locs ls hP hD hS hl
  obtain ⟨hx, hb, hml, hown, hg, hn, hK, hX, hR1, hR2, hR3, hR4⟩ := hE
  obtain ⟨m1, m2, m3, m4, m5⟩ := hma
  have hcat : ∀ (t : List pm_V), ((t.map (pm_to ad)).map fun v => v.category).sum ≤ 2 * t.length := by
    intro t
    induction t with
    | nil => simp
    | cons a t ih =>
      have : (pm_to ad a).category ≤ 2 := by
        rcases lv_cat (pm_to ad a) with h | h <;> omega
      simp only [List.map_cons, List.sum_cons, List.length_cons]
      omega
  have hc2 := hcat r
  have hk := kk H locs ls hP hD hS hl
  split at hw
  · rename_i h0
    simp only [decide_eq_true_eq] at hw
    rw [if_pos h0] at hk
    exact va_mmax hx hb (hml.trans hl.1.symm) hown (pm_gw_at hg hw rfl) (hg _ m1) (hg _ m2) (hg _ m3) (by omega) (by omega) hR3 hR4 hdg hk
  · rename_i h0
    simp only [decide_eq_true_eq] at hw
    rw [if_neg h0] at hk
    exact va_mmin hx hb (hml.trans hl.1.symm) hown (pm_gw_at hg hw rfl) (hg _ m4) (hg _ m2) (hg _ m5) (by omega) (by omega) hR3 hR4 hdg hk
end PMS
