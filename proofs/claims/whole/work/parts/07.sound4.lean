/-! Whole runs: methods by contract, one proof for all of them. -/
def pm_okm : Prop := ∀ y : Nat, y < 143 → Cond.code (pm_nm y) (pm_by y) (pm_ml y) (pm_ret y) ∈ pm_gw ∧ Cond.initialized (pm_nm y).cls ∈ pm_gw ∧
  (pm_stat.contains y = true → Cond.static (pm_nm y) ∈ pm_gw) ∧ (pm_stat.contains y = false → Cond.instanceMethod (pm_nm y) ∈ pm_gw ∧ Cond.selects (pm_nm y).cls (pm_nm y) (pm_nm y) ∈ pm_gw) ∧
  ((pm_nm y).cls ≠ "java/lang/invoke/MethodHandle" ∧ (pm_nm y).cls ≠ "java/lang/invoke/VarHandle") ∧ plainName (pm_nm y).cls = true ∧ pm_ml y ≤ 20
def pm_okt : Prop := ∀ (y : Nat) (r : Nat × Instr × Nat × List Nat), r ∈ pm_rwf y → pm_okr y r = true
def pm_ws (y : Nat) : List Cond := Cond.code (pm_nm y) (pm_by y) (pm_ml y) (pm_ret y) :: pm_gw
def pm_rm (y : Nat) : Room := { frames := pm_rk y, cells := 0, slots := 0, locals := 40 * pm_rk y }
def pm_ov (ad : Nat → Nat) (o : Option pm_V) : Option Value := o.map (pm_to ad)
def pm_Qc (dC : Nat → ClassId) (dI : Nat → Nat → Nat) (ad : Nat → Nat) (cI cQ : ClassId) (res : pm_O) (A : Nat → Prop) : Array Value → State → Outcome → State → Prop := fun _ st oc t =>
  oc = .returned (pm_ov ad res.1) ∧ va_P (dC, dI) pm_cls (pm_w ad cI cQ res.2) t.heap ∧ va_D A (pm_w ad cI cQ res.2) ∧ va_F A st t
def pm_Pc (dC : Nat → ClassId) (dI : Nat → Nat → Nat) (ad : Nat → Nat) (cI cQ : ClassId) (vs : List pm_V) (M : pm_M) (sz : Nat) : Array Value → State → Prop := va_Pc (vs.map (pm_to ad)) (fun U => U.heap.size = sz ∧ va_P (dC, dI) pm_cls (pm_w ad cI cQ M) U.heap ∧ va_K (dC, dI) pm_cls [(cI, .int), (cQ, .array .int)] U ∧ va_D (fun _ => True) (pm_w ad cI cQ M) ∧ ∀ w ∈ pm_nw, va_Nw w U)
theorem pm_blind {dC : Nat → ClassId} {dI : Nat → Nat → Nat} {ad : Nat → Nat} {cI cQ : ClassId} {vs : List pm_V} {M : pm_M} {sz : Nat} : FrameBlind (pm_Pc dC dI ad cI cQ vs M sz) := by
  intro a U g mk h
  obtain ⟨h0, h1, h2, h3, h4, h5⟩ := h
  exact ⟨h0, h1, h2, va_K.moved (u := U) (U := U.calling g mk a) (Vm.Alike.refl U.vm) h3, h4, pm_nw_same (u := U) rfl h5⟩
theorem pm_good (y : Nat) (h : Cond.code (pm_nm y) (pm_by y) (pm_ml y) (pm_ret y) ∈ pm_gw) : GoodIn pm_gw (pm_ws y) := by
  intro w hw
  rcases List.mem_cons.mp hw with rfl | hw
  · exact ⟨h, good_of_word (pm_gw_good h)⟩
  · exact ⟨hw, good_of_word (pm_gw_good hw)⟩
theorem pm_lgsl (ad : Nat → Nat) : ∀ vs : List pm_V, (lg_sl (vs.map (pm_to ad))).length = (pm_args vs).length
  | [] => rfl
  | .inl x :: t => by
    have h := pm_lgsl ad t
    simp only [lg_sl, List.map_cons, List.flatMap_cons, List.length_append, pm_args, List.length_cons] at h ⊢
    rw [h]
    simp [pm_to, Value.category]
    omega
  | .inr (.inl x) :: t => by
    have h := pm_lgsl ad t
    simp only [lg_sl, List.map_cons, List.flatMap_cons, List.length_append, pm_args, List.length_cons] at h ⊢
    rw [h]
    simp [pm_to, Value.category]
    omega
  | .inr (.inr x) :: t => by
    have h := pm_lgsl ad t
    simp only [lg_sl, List.map_cons, List.flatMap_cons, List.length_append, pm_args, List.length_cons] at h ⊢
    rw [h]
    simp [pm_to, Value.category]
    omega
/-- what the caller of a run must show of its end -/
def pm_Fin (p : Program) (l : Launch) (e : Env) (R : Room) (s : State) (m : MethodId) (args : Array Value) (below : List Frame) (meth : Method) (c : Code) (cells slots : Nat) (Q : State → Prop) (H0 : Heap) (A : Nat → Prop) (dC : Nat → ClassId) (dI : Nat → Nat → Nat) (ad : Nat → Nat) (cI cQ : ClassId) (y : Nat) (res : pm_O) : Prop :=
  ∀ (H : Heap) (locs : List Loc) (ls : Array Slot) (pc : Nat), va_P (dC, dI) pm_cls (pm_w ad cI cQ res.2) H → va_D A (pm_w ad cI cQ res.2) → va_S A H0 H locs →
    (∀ v : Int32, res.1 = some (.inl v) → (pm_ret y = some .int ∨ (pm_ret y = some .boolean ∧ (v = 0 ∨ v = 1))) → decode (pm_by y) pc = .ok (.ireturn, 1) → W p l e R s m args below meth c H locs cells slots Q (F0 m pc ls [.int v])) ∧
    (∀ v : Int64, res.1 = some (.inr (.inr v)) → pm_ret y = some .long → decode (pm_by y) pc = .ok (.lreturn, 1) → W p l e R s m args below meth c H locs cells slots Q (F0 m pc ls [.long v])) ∧
    (res.1 = none → pm_ret y = none → decode (pm_by y) pc = .ok (.return_, 1) → W p l e R s m args below meth c H locs cells slots Q (F0 m pc ls []))
section PMU
variable {p : Program} {l : Launch} {e : Env} {R : Room} {s : State} {m : MethodId} {args : Array Value} {below : List Frame} {meth : Method} {c : Code} {H0 : Heap} {cells slots : Nat} {Q : State → Prop} {dC : Nat → ClassId} {dI : Nat → Nat → Nat} {A : Nat → Prop} {ad : Nat → Nat} {cI cQ : ClassId} {X : pm_X} {y : Nat}
set_option maxHeartbeats 4000000 in
/-- a return -/
theorem pm_ret_ok {pc len : Nat} {i : Instr} {ax : List Nat} {ls2 : pm_L} {st : List pm_V} {M : pm_M} {res : pm_O}
    (hdec : decode (pm_by y) pc = .ok (i, len)) (hlen : ∀ n, pm_ln i = some n → len = n) (hok : pm_okx y pc i ax = true) (hh : pm_stp X (pm_rb y) pc i ax ls2 st M = .inr (.inl res))
    (hfin : pm_Fin p l e R s m args below meth c cells slots Q H0 A dC dI ad cI cQ y res) : pm_G p l e R s m args below meth c cells slots Q H0 A dC dI ad cI cQ (pm_ml y) (pc, ls2, st, M) := by
  intro H locs ls hP hD hS hl
  unfold pm_stp at hh
  split at hh
  case h_58 =>
    have q := hlen 1 rfl
    subst q
    split at hh
    · split at hh
      · cases hh
      · rename_i v h0
        cases hh
        refine (hfin H locs ls pc hP hD hS).1 v rfl ?_ hdec
        simp only [pm_okx, Bool.or_eq_true, decide_eq_true_eq] at hok
        rcases hok with hok | hok
        · exact Or.inl hok
        · refine Or.inr ⟨hok, ?_⟩
          have hb : pm_rb y = true := by unfold pm_rb; rw [hok]
          rw [hb] at h0
          by_cases h9 : v = 0 ∨ v = 1
          · exact h9
          · exact absurd ⟨rfl, h9⟩ h0
    · cases hh
  case h_59 =>
    have q := hlen 1 rfl
    subst q
    split at hh
    · cases hh
      exact (hfin H locs ls pc hP hD hS).2.1 _ rfl (by simpa [pm_okx] using hok) hdec
    · cases hh
  case h_60 =>
    have q := hlen 1 rfl
    subst q
    split at hh
    · cases hh
      exact (hfin H locs ls pc hP hD hS).2.2 rfl (by simpa [pm_okx] using hok) hdec
    · cases hh
  all_goals exfalso
  all_goals (try unfold pm_ldi at hh)
  all_goals (try unfold pm_lda at hh)
  all_goals (try unfold pm_ldl at hh)
  all_goals (try unfold pm_sti at hh)
  all_goals (try unfold pm_stl at hh)
  all_goals (try unfold pm_bin at hh)
  all_goals (try unfold pm_un at hh)
  all_goals (try unfold pm_ifc at hh)
  all_goals (try unfold pm_icm at hh)
  all_goals (try unfold pm_bad at hh)
  all_goals (repeat' (split at hh))
  all_goals cases hh
/-- behind a call -/
theorem pm_run_W {H : Heap} {locs : List Loc} {pc : Nat} {ls : Array Slot} {st0 rest : List Value} {res : pm_O} {A1 : Nat → Prop} {free : Nat → Prop} {a : Array Value}
    (hr : va_Run p l e R s m args below meth c H locs cells slots 0 0 (F0 m pc ls st0) rest (pm_Qc dC dI ad cI cQ res A1 a) free) (hS : va_S A H0 H locs) (hA1 : ∀ q, A1 q → A q) (hf : ∀ q, free q → A q)
    (kk : ∀ (H1 : Heap) (locs1 : List Loc), va_P (dC, dI) pm_cls (pm_w ad cI cQ res.2) H1 → va_D A (pm_w ad cI cQ res.2) → va_S A H0 H1 locs1 → W p l e R s m args below meth c H1 locs1 cells slots Q (F0 m (pc + 3) ls ((pm_ov ad res.1).toList ++ rest))) : W p l e R s m args below meth c H locs cells slots Q (F0 m pc ls st0) := by
  intro T hT Xs
  obtain ⟨v, st₀, t, T', L, h0, X', hL, e1, e2, ⟨hv, hp, hd, hz, hk⟩, hst⟩ := hr T hT Xs
  cases hv
  rw [h0] at hz hk
  obtain ⟨t2, a1, b1⟩ := kk T'.heap (locs ++ L) (by rw [e1]; exact hp) (hd.weaken (fun _ _ _ h => hA1 _ h))
    ⟨Nat.le_trans hS.1 (by rw [e1]; exact hz), fun q h1 h2 => by rw [e1, hk q (Nat.lt_of_lt_of_le h1 hS.1) (fun z => h2 (hA1 q z))]; exact hS.2.1 q h1 h2, fun q hq => by
      rcases List.mem_append.mp hq with h | h
      · exact hS.2.2 q h
      · exact hf _ (hL q h)⟩ T' rfl X'
  exact ⟨t2, hst t2 a1, b1⟩
theorem pm_catsum (ad : Nat → Nat) : ∀ t : List pm_V, ((t.map (pm_to ad)).map fun v => v.category).sum ≤ 2 * t.length
  | [] => by simp
  | a :: t => by
    have ih := pm_catsum ad t
    have h9 : (pm_to ad a).category ≤ 2 := by
      rcases lv_cat (pm_to ad a) with h | h <;> omega
    simp only [List.map_cons, List.sum_cons, List.length_cons]
    omega
set_option maxHeartbeats 8000000 in
/-- a call: from the callee's contract -/
theorem pm_call_ok (hOK : pm_okm) (hA : ∀ q, H0.size ≤ q → A q) (hE : pm_E p s m args c H0 A dC dI ad cI cQ X y R cells slots) {pc len : Nat} {i : Instr} {ax : List Nat} {ls2 : pm_L} {st : List pm_V} {M : pm_M} {q : Nat × List pm_V × pm_C} {res : pm_O}
    (hdec : decode (pm_by y) pc = .ok (i, len)) (hlen : ∀ n, pm_ln i = some n → len = n) (hok : pm_okx y pc i ax = true) (hh : pm_stp X (pm_rb y) pc i ax ls2 st M = .inr (.inr (.inl q)))
    (hM : ∀ sz : Nat, q.1 < 143 → Met l (pm_nm q.1) (pm_ws q.1) (pm_rm q.1) (pm_Pc dC dI ad cI cQ q.2.1 q.2.2.2.2.2 sz) (pm_Qc dC dI ad cI cQ res (va_A (pm_w ad cI cQ q.2.2.2.2.2) sz)) 0 0 (va_A (pm_w ad cI cQ q.2.2.2.2.2) sz))
    (kk : pm_G p l e R s m args below meth c cells slots Q H0 A dC dI ad cI cQ (pm_ml y) (q.2.2.1, q.2.2.2.1, pm_psh res.1 q.2.2.2.2.1, res.2)) : pm_G p l e R s m args below meth c cells slots Q H0 A dC dI ad cI cQ (pm_ml y) (pc, ls2, st, M) := by
  intro H locs ls hP hD hS hl
  obtain ⟨hx, hb, hml, hown, hg, hn, hK, hX, hR1, hR2, hR3, hR4⟩ := id hE
  have hpsh : ∀ r : List pm_V, (pm_ov ad res.1).toList ++ r.map (pm_to ad) = (pm_psh res.1 r).map (pm_to ad) := by
    intro r
    unfold pm_ov pm_psh
    cases res.1 <;> rfl
  unfold pm_stp at hh
  split at hh
  case h_56 =>
    have q9 := hlen 3 rfl
    subst q9
    split at hh
    · rename_i y2 n nest wi ci
      split at hh
      · rename_i k r hdrop
        split at hh
        · rename_i hcond
          obtain ⟨hcl, hr4, hnl⟩ := hcond
          cases hh
          simp only [pm_okx, Bool.and_eq_true, decide_eq_true_eq, Bool.not_eq_true'] at hok
          obtain ⟨⟨⟨⟨⟨hlnk, hy2⟩, hrk⟩, hns⟩, hcn⟩, hpn⟩ := hok
          obtain ⟨f1, f2, f3, f4, f5, f6, f7⟩ := hOK y2 hy2
          obtain ⟨f8, f9⟩ := f4 hns
          have hM2 := hM H.size hy2
          dsimp only at hM2 kk
          have hF : ∀ z, va_A (pm_w ad cI cQ M) H.size z → A z := by
            intro z hz
            rcases hz with ⟨k9, e9, h9⟩ | h9
            · exact hD.2 k9 (z, e9) h9
            · exact hA z (Nat.le_trans hS.1 h9)
          obtain ⟨C, hC9⟩ : ∃ C : vw_C, pm_cls[ci]? = some C := by
            cases h9 : pm_cls[ci]? with
            | none => rw [h9] at hcn; cases hcn
            | some C => exact ⟨C, rfl⟩
          rw [hC9] at hcn
          have hCn : C.1 = (pm_nm y2).cls := Option.some.inj hcn
          have hsh : ∃ fl, pm_sh k = some (.inr (.inr (ci, fl))) := by
            unfold pm_cl at hcl
            split at hcl
            · rename_i cc fl h9
              cases hcl
              exact ⟨fl, h9⟩
            · cases hcl
          obtain ⟨fl, hsh⟩ := hsh
          have he := pm_w_get (ad := ad) (cI := cI) (cQ := cQ) (M := M) hsh
          have hrecv := va_recv (q := C) hK hP hC9 he
          rw [hCn] at hrecv
          have hp : PreV s H (pm_nm y2).cls (ad k) (pm_Pc dC dI ad cI cQ (.inr (.inl k) :: (st.take n).reverse) M H.size) ((st.take n).reverse.map (pm_to ad)) :=
            ⟨pm_blind, hrecv, fun U hU hW => ⟨rfl, by rw [hU], by rw [hU]; exact hP, va_K.moved hW.alike hK, hD.weaken (fun _ _ _ _ => trivial), pm_nw_warm hW hn⟩⟩
          have hst : st.map (pm_to ad) = ((st.take n).reverse.map (pm_to ad)).reverse ++ .ref (ad k) :: r.map (pm_to ad) := by
            conv => lhs; rw [← List.take_append_drop n st, hdrop]
            rw [List.map_append, List.map_reverse, List.reverse_reverse]
            rfl
          have hlen9 : ((st.take n).reverse.map (pm_to ad)).length = n := by
            rw [List.length_map, List.length_reverse, List.length_take]
            omega
          have hW9 : 2 * (F0 m pc ls (st.map (pm_to ad))).monitorRoom + ((r.map (pm_to ad)).map fun v => v.category).sum ≤ 8 := by
            have h8 := pm_catsum ad r
            have h7 : (F0 m pc ls (st.map (pm_to ad))).monitorRoom = 0 := rfl
            omega
          have hrm : (pm_rm y2).frames + 1 ≤ R.frames ∧ 8 + (pm_ml y2 + 11) + (pm_rm y2).locals ≤ R.locals := by
            constructor
            · show pm_rk y2 + 1 ≤ R.frames
              omega
            · show 8 + (pm_ml y2 + 11) + 40 * pm_rk y2 ≤ R.locals
              omega
          unfold pm_lnk at hlnk
          split at hlnk
          · simp only [decide_eq_true_eq] at hlnk
            exact pm_run_W (va_runV (n := n) (rest := r.map (pm_to ad)) ⟨hx, hb, hml, hown, hg⟩ hM2 ⟨callB_of n hg (pm_good y2 f1) rfl rfl rfl (hg _ f2) (pm_gw_at hg hlnk rfl) ⟨f5.1, f5.2, hpn⟩ hrm, hg _ f8, hg _ f9⟩ hp rfl hlen9 hl.1 hst hW9 hdec ⟨hR3, hR4⟩) hS hF hF (fun H1 l1 q1 q2 q3 => by rw [hpsh]; exact kk H1 l1 ls q1 q2 q3 hl)
          · simp only [decide_eq_true_eq] at hlnk
            exact pm_run_W (va_runVN (n := n) (rest := r.map (pm_to ad)) ⟨hx, hb, hml, hown, hg⟩ hM2 ⟨va_cnB n hg (pm_good y2 f1) rfl rfl rfl (hn _ (pm_nw_of (List.mem_of_getElem? hlnk) rfl)) (hg _ f2) ⟨f5.1, f5.2, hpn⟩ hrm, hg _ f8, hg _ f9⟩ hp rfl hlen9 hl.1 hst hW9 hdec ⟨hR3, hR4⟩) hS hF hF (fun H1 l1 q1 q2 q3 => by rw [hpsh]; exact kk H1 l1 ls q1 q2 q3 hl)
        · cases hh
      · cases hh
    · cases hh
  case h_57 =>
    have q9 := hlen 3 rfl
    subst q9
    split at hh
    · rename_i y2 n nest wi
      split at hh
      · rename_i hcond
        obtain ⟨hnl, hr4⟩ := hcond
        cases hh
        simp only [pm_okx, Bool.and_eq_true, decide_eq_true_eq] at hok
        obtain ⟨⟨⟨⟨hlnk, hy2⟩, hrk⟩, hns⟩, hpn⟩ := hok
        obtain ⟨f1, f2, f3, f4, f5, f6, f7⟩ := hOK y2 hy2
        have f8 := f3 hns
        have hM2 := hM H.size hy2
        dsimp only at hM2 kk
        have hF : ∀ z, va_A (pm_w ad cI cQ M) H.size z → A z := by
          intro z hz
          rcases hz with ⟨k9, e9, h9⟩ | h9
          · exact hD.2 k9 (z, e9) h9
          · exact hA z (Nat.le_trans hS.1 h9)
        have hp : PreS s H (pm_Pc dC dI ad cI cQ ((st.take n).reverse) M H.size) ((st.take n).reverse.map (pm_to ad)) :=
          ⟨pm_blind, fun U hU hW => ⟨rfl, by rw [hU], by rw [hU]; exact hP, va_K.moved hW.alike hK, hD.weaken (fun _ _ _ _ => trivial), pm_nw_warm hW hn⟩⟩
        have hst : st.map (pm_to ad) = ((st.take n).reverse.map (pm_to ad)).reverse ++ (st.drop n).map (pm_to ad) := by
          conv => lhs; rw [← List.take_append_drop n st]
          rw [List.map_append, List.map_reverse, List.reverse_reverse]
        have hlen9 : ((st.take n).reverse.map (pm_to ad)).length = n := by
          rw [List.length_map, List.length_reverse, List.length_take]
          omega
        have hW9 : 2 * (F0 m pc ls (st.map (pm_to ad))).monitorRoom + (((st.drop n).map (pm_to ad)).map fun v => v.category).sum ≤ 8 := by
          have h8 := pm_catsum ad (st.drop n)
          have h7 : (F0 m pc ls (st.map (pm_to ad))).monitorRoom = 0 := rfl
          omega
        have hrm : (pm_rm y2).frames + 1 ≤ R.frames ∧ 8 + (pm_ml y2 + 11) + (pm_rm y2).locals ≤ R.locals := by
          constructor
          · show pm_rk y2 + 1 ≤ R.frames
            omega
          · show 8 + (pm_ml y2 + 11) + 40 * pm_rk y2 ≤ R.locals
            omega
        unfold pm_lnk at hlnk
        split at hlnk
        · simp only [decide_eq_true_eq] at hlnk
          exact pm_run_W (va_runS (n := n) (rest := (st.drop n).map (pm_to ad)) ⟨hx, hb, hml, hown, hg⟩ hM2 ⟨callB_of n hg (pm_good y2 f1) rfl rfl rfl (hg _ f2) (pm_gw_at hg hlnk rfl) ⟨f5.1, f5.2, hpn⟩ hrm, hg _ f8⟩ hp rfl hlen9 hl.1 hst hW9 hdec ⟨hR3, hR4⟩) hS hF hF (fun H1 l1 q1 q2 q3 => by rw [hpsh]; exact kk H1 l1 ls q1 q2 q3 hl)
        · simp only [decide_eq_true_eq] at hlnk
          exact pm_run_W (va_runSN (n := n) (rest := (st.drop n).map (pm_to ad)) ⟨hx, hb, hml, hown, hg⟩ hM2 ⟨va_cnB n hg (pm_good y2 f1) rfl rfl rfl (hn _ (pm_nw_of (List.mem_of_getElem? hlnk) rfl)) (hg _ f2) ⟨f5.1, f5.2, hpn⟩ hrm, hg _ f8, trivial⟩ hp rfl hlen9 hl.1 hst hW9 hdec ⟨hR3, hR4⟩) hS hF hF (fun H1 l1 q1 q2 q3 => by rw [hpsh]; exact kk H1 l1 ls q1 q2 q3 hl)
      · cases hh
    · exfalso
      unfold pm_bad at hh
      repeat' (split at hh)
      all_goals cases hh
    · exfalso
      unfold pm_bad at hh
      repeat' (split at hh)
      all_goals cases hh
    · cases hh
  all_goals exfalso
  all_goals (try unfold pm_ldi at hh)
  all_goals (try unfold pm_lda at hh)
  all_goals (try unfold pm_ldl at hh)
  all_goals (try unfold pm_sti at hh)
  all_goals (try unfold pm_stl at hh)
  all_goals (try unfold pm_bin at hh)
  all_goals (try unfold pm_un at hh)
  all_goals (try unfold pm_ifc at hh)
  all_goals (try unfold pm_icm at hh)
  all_goals (try unfold pm_bad at hh)
  all_goals (repeat' (split at hh))
  all_goals cases hh
end PMU
