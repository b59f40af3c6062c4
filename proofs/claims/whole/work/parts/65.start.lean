/-! THE CLAIM: the words of the start, and its first rows. -/
theorem dL_law_0 : decode cL_law 0 = .ok (.new 7, 3) := by decide +kernel
theorem dL_law_3 : decode cL_law 3 = .ok (.dup, 1) := by decide +kernel
theorem dL_law_4 : decode cL_law 4 = .ok (.invokespecial 9, 3) := by decide +kernel
theorem dL_law_7 : decode cL_law 7 = .ok (.astore_n 1, 1) := by decide +kernel
theorem dL_law_8 : decode cL_law 8 = .ok (.new 10, 3) := by decide +kernel
theorem dL_law_11 : decode cL_law 11 = .ok (.dup, 1) := by decide +kernel
theorem dL_law_12 : decode cL_law 12 = .ok (.invokespecial 12, 3) := by decide +kernel
theorem dL_law_15 : decode cL_law 15 = .ok (.astore_n 2, 1) := by decide +kernel
theorem dL_law_16 : decode cL_law 16 = .ok (.iconst 0, 1) := by decide +kernel
theorem dL_law_17 : decode cL_law 17 = .ok (.istore_n 3, 1) := by decide +kernel
/-! THE CLAIM OUT OF ONE WALK OF THE LAW'S BODY. Your part is whole_start (and what it stands on); all else here is the same for every law, but numbers. -/
def R_law : String := "WeatherPassLaw"
def lw_P (b : Addr) (xs : List Int32) (args : Array Value) (s : State) : Prop := args = #[.ref b] ∧ s.IntsAt b xs ∧ xs.length ≤ 384 ∧ (Jvm.Cond.and given_1 narrow_1).before args s = true
def lw_Q (_ : Array Value) (s : State) (o : Outcome) (t : State) : Prop := o = .returned (some (.int 1)) ∧ Framed s o t [] 600000 7302250
def lw_Z (below : List Frame) (a : Array Value) (s : State) : State → Prop := fun t => ∃ o, t.status = .running ∧ Ended t below o ∧ lw_Q a s o t
/-- the law's own end, with 1 on the stack, nothing written that was there before, its room as the claim has it -/
theorem lw_ret {p : Program} {l : Launch} {e : Env} {s : State} {m : MethodId} {below : List Frame} {meth : Method} {c : Code} {b : Nat} (hx : p.tables.exec = Jvm.exec) (hb : c.code = code) (hr : meth.sig.returnType = ret) (hlocks : meth.locks = false) {pc : Nat} {H : Heap} {ls : Array Slot} (hdg : decode code pc = .ok (.ireturn, 1)) : W p l e room_1 s m #[Value.ref b] below meth c H [] 600000 7302250 (lw_Z below #[Value.ref b] s) (F0 m pc ls [.int 1]) := by
  intro T hT X
  obtain ⟨fs, hret, hrun, hended, hW, hframe⟩ := X.leave (v := some (.int 1)) (hlocks := hlocks) (fun h => by rw [hr] at h; cases h)
  have hmeth' : T.vm.method? m = some meth := X.method'
  refine ⟨T.setFrames fs, ?_, .returned (some (.int 1)), hrun, hended, rfl, ⟨_, rfl⟩, hW, hframe⟩
  jvm_step X.here [X.here.top, hx, hb, hdg, hmeth', hr, ret, narrow_b1]
  (try refine ⟨rfl, ?_⟩); (try refine ⟨rfl, ?_⟩)
  first | (intro acts; rw [hret _ acts rfl rfl rfl]) | rw [hret _ _ rfl rfl rfl]
  exact Steps.refl _
/-- what holds at the law's entry: the machine, the code, the tables' words (any of lw_tbl by 'hts w (by decide +kernel)'), the script of L ints xs at the cell b, what the Statement gives of the start (any of its parts by flat_of_before) -/
def lw_At (p : Program) (s : State) (m : MethodId) (meth : Method) (c : Code) (b L : Nat) (xs : Nat → Int32) : Prop :=
  p.tables.exec = Jvm.exec ∧ c.code = code ∧ meth.sig.returnType = ret ∧ c.maxLocals = 4 ∧ s.vm.findClass R_law = some m.cls ∧ (∀ w ∈ lw_tbl, w.before #[Value.ref b] s = true) ∧ va_X b L xs s s.heap ∧ b < s.heap.size ∧ meth.locks = false ∧ (Jvm.Cond.and given_1 narrow_1).before #[Value.ref b] s = true
set_option maxRecDepth 100000 in
theorem cn_gWP : GoodIn lw_tbl wsX5_init := goodIn_of _ (by decide +kernel)
set_option maxRecDepth 100000 in
theorem cn_gModel : GoodIn lw_tbl wsX6_init := goodIn_of _ (by decide +kernel)
theorem cn_nw {args : Array Value} {s : State} (hts : ∀ w ∈ lw_tbl, w.before args s = true) : ∀ w ∈ pm_nw, va_Nw w s := by
  intro w hw
  obtain ⟨h1, h2⟩ := List.mem_filter.mp hw
  have h3 := hts w h1
  unfold pm_isn at h2
  split at h2
  · exact va_Nw.of rfl h3
  · exact va_Nw.of rfl h3
  · cases h2
theorem cn_arrays {args : Array Value} {s : State} (h1 : (Cond.arrayClass .int).before args s = true) (h2 : (Cond.arrayOver (.array .int)).before args s = true) : ∃ cI cQ : ClassId, ∀ (k : Nat) (q : ClassId × FieldType), ([(cI, .int), (cQ, .array .int)] : List (ClassId × FieldType))[k]? = some q → ArrOfT s q.1 q.2 ∧ va_RA s q.1 q.2 := by
  obtain ⟨cI, kI, compI, f1, f2, f3⟩ := Cond.arrayClass_spec h1
  obtain ⟨compQ, cQ, kQ, -, -, g2, g3, g4⟩ := arrayOverA_spec h2
  refine ⟨cI, cQ, fun k q hq => ?_⟩
  match k, hq with
  | 0, hq =>
    cases hq
    exact ⟨fun n z => ⟨(fun q hq => by cases hq), kI, f2, compI, f3⟩, f1⟩
  | 1, hq =>
    cases hq
    exact ⟨fun n z => ⟨(fun q hq => by cases hq), kQ, g2, compQ, g3⟩, g4⟩
  | k + 2, hq => simp at hq
theorem cn_classes {args : Array Value} {s : State} (hts : ∀ w ∈ lw_tbl, w.before args s = true) : ∃ (dC : Nat → ClassId) (dI : Nat → Nat → Nat), ∀ (k : Nat) (q : vw_C), pm_cls[k]? = some q → u_Kn s q.1 q.2.1 q.2.2 (dC k) (dI k) := by
  obtain ⟨c0, i0, k0⟩ := u_known (C := RX0) (T := TX0) (N := 7) (n := 7) hts (fun w hw => (List.mem_filter.mp ((pm_okc_ok 0 _ _ _ rfl).1 w hw)).1) (hts (.instantiable RX0 7) (by decide +kernel))
  obtain ⟨c1, i1, k1⟩ := u_known (C := RX1) (T := TX1) (N := 4) (n := 4) hts (fun w hw => (List.mem_filter.mp ((pm_okc_ok 1 _ _ _ rfl).1 w hw)).1) (hts (.instantiable RX1 4) (by decide +kernel))
  obtain ⟨c2, i2, k2⟩ := u_known (C := RX2) (T := TX2) (N := 3) (n := 3) hts (fun w hw => (List.mem_filter.mp ((pm_okc_ok 2 _ _ _ rfl).1 w hw)).1) (hts (.instantiable RX2 3) (by decide +kernel))
  obtain ⟨c3, i3, k3⟩ := u_known (C := RX4) (T := TX4) (N := 6) (n := 6) hts (fun w hw => (List.mem_filter.mp ((pm_okc_ok 3 _ _ _ rfl).1 w hw)).1) (hts (.instantiable RX4 6) (by decide +kernel))
  obtain ⟨c4, i4, k4⟩ := u_known (C := RX5) (T := TX5) (N := 7) (n := 7) hts (fun w hw => (List.mem_filter.mp ((pm_okc_ok 4 _ _ _ rfl).1 w hw)).1) (hts (.instantiable RX5 7) (by decide +kernel))
  obtain ⟨c5, i5, k5⟩ := u_known (C := RX6) (T := TX6) (N := 30) (n := 30) hts (fun w hw => (List.mem_filter.mp ((pm_okc_ok 5 _ _ _ rfl).1 w hw)).1) (hts (.instantiable RX6 30) (by decide +kernel))
  refine ⟨fun k => if k = 0 then c0 else if k = 1 then c1 else if k = 2 then c2 else if k = 3 then c3 else if k = 4 then c4 else c5, fun k => if k = 0 then i0 else if k = 1 then i1 else if k = 2 then i2 else if k = 3 then i3 else if k = 4 then i4 else i5, ?_⟩
  intro k q hq
  match k, hq with
  | 0, hq => cases hq; exact k0
  | 1, hq => cases hq; exact k1
  | 2, hq => cases hq; exact k2
  | 3, hq => cases hq; exact k3
  | 4, hq => cases hq; exact k4
  | 5, hq => cases hq; exact k5
  | k + 6, hq => simp [pm_cls] at hq
-- ===== YOUR PART BEGINS =====
set_option maxHeartbeats 8000000 in
set_option maxRecDepth 100000 in
theorem whole_start {p : Program} {e : Env} {s : State} {m : MethodId} {below : List Frame} {meth : Method} {c : Code} (l : Launch) {b L : Nat} {xs : Nat → Int32} (hL : L ≤ 384) (C0 : lw_At p s m meth c b L xs) : W p l e room_1 s m #[Value.ref b] below meth c s.heap [] 0 0 (lw_Z below #[Value.ref b] s) (entryFrame m ([Value.ref b] : List Value).toArray 4) := by
  obtain ⟨hx, hb, hr, hml, hown, hts, hX, hbl, hlocks, hgv⟩ := id C0
  have hb : c.code = cL_law := hb
  have hown : s.vm.findClass RL = some m.cls := hown
  have hA : ∀ q : Nat, s.heap.size ≤ q → (fun q : Nat => s.heap.size ≤ q) q := fun _ h => h
  have hbA : ¬ (fun q : Nat => s.heap.size ≤ q) b := Nat.not_le.mpr hbl
  obtain ⟨dC, dI, hKc⟩ := cn_classes hts
  have hAO : va_AOA .int s := va_AOA.of (hts (.arrayOver (.array .int)) (by decide +kernel))
  obtain ⟨cI, cQ, hKa⟩ := cn_arrays (hts (.arrayClass .int) (by decide +kernel)) hAO
  have hN := cn_nw hts
  have hK : va_K (dC, dI) pm_cls [(cI, .int), (cQ, .array .int)] s := ⟨hKc, hKa⟩
  have hS : va_S (fun q : Nat => s.heap.size ≤ q) s.heap s.heap [] := va_S.rf
  have hP : va_P (dC, dI) pm_cls [] s.heap := fun k q h => by simp at h
  have hD : va_D (fun q : Nat => s.heap.size ≤ q) [] := ⟨fun i j p q h => by simp at h, fun k q h => by simp at h⟩
  have hl := lv_entry ([.ref b]) (n := 4) (Nat.le_of_ble_eq_true rfl)
  rw [lg_entry_eq]
  generalize (lg_sl ([.ref b]) ++ List.replicate (4 - (lg_sl ([.ref b])).length) Slot.unset).toArray = ls at hl ⊢
  have hl : lv_has ls 4 [(0, .ref b)] := hl
  refine va_new (ci := 4) (fs := [.null, .null, .null, .null, .null, .int 0, .int 0]) (C := RX5) (T := TX5) (N := 7) hx hb hts (fun w hw => (List.mem_filter.mp ((pm_okc_ok 4 _ _ _ rfl).1 w hw)).1) tyX5 tyX5_ok hown (hts (.classLink RL 7 RX5) (by decide +kernel)) (hts (.instantiable RX5 7) (by decide +kernel)) (hts (.initialized RX5) (by decide +kernel)) hK hP hD hS hA rfl (fun j hj => by rcases (show j = 0 ∨ j = 1 ∨ j = 2 ∨ j = 3 ∨ j = 4 ∨ j = 5 ∨ j = 6 by omega) with rfl | rfl | rfl | rfl | rfl | rfl | rfl <;> rfl) (Nat.le_of_ble_eq_true rfl) (Nat.le_of_ble_eq_true rfl) dL_law_0 (fun h0 H hP hD hS => ?_)
  have hP : va_P (dC, dI) pm_cls [(h0, .inr (4, [.null, .null, .null, .null, .null, .int 0, .int 0]))] H := hP
  have hD : va_D (fun q : Nat => s.heap.size ≤ q) [(h0, .inr (4, [.null, .null, .null, .null, .null, .int 0, .int 0]))] := hD
  refine W.widen (k := 1) (n := 7) (by omega) (by omega) ?_
  refine lv_dup hx hb dL_law_3 rfl ?_
  have hPc := hP.sub (ws' := [(h0, .inr (4, [.null, .null, .null, .null, .null, .int 0, .int 0]))]) [0] rfl
  have hDc := hD.sub (ws' := [(h0, .inr (4, [.null, .null, .null, .null, .null, .int 0, .int 0]))]) [0] (by decide) rfl
  have hFc := va_free (wc := [(h0, .inr (4, [.null, .null, .null, .null, .null, .int 0, .int 0]))]) hD hS hA [0] rfl
  refine va_callv (va_runI (As := []) (rest := [.ref h0]) ⟨hx, hb, hml, hown, hts⟩ (cn_WP l dC dI cI cQ h0 H.size) (cwI 0 hts cn_gWP rfl rfl rfl (hts (.initialized RX5) (by decide +kernel)) (hts (.methodLink RL 9 yX5_init) (by decide +kernel)) (hts (.instanceMethod yX5_init) (by decide +kernel)) rfl (by decide +kernel) ⟨Nat.le_of_ble_eq_true rfl, Nat.le_of_ble_eq_true rfl⟩) ⟨fun a U g mk q => by obtain ⟨q0, q1, qP, qK, qD, qO, qN⟩ := q; exact ⟨q0, q1, qP, va_K.moved (u := U) (U := U.calling g mk a) (Vm.Alike.refl U.vm) qK, qD, over_moved (Vm.Alike.refl U.vm) qO, pm_nw_same (u := U) (U := U.calling g mk a) rfl qN⟩, fun U hU hW => ⟨rfl, by rw [hU], by rw [hU]; exact hPc, va_K.moved hW.alike hK, hDc.weaken (fun _ _ _ _ => trivial), over_moved hW.alike hAO, pm_nw_warm hW hN⟩⟩ rfl rfl hl.1 rfl (lv_room (Nat.le_of_ble_eq_true rfl)) dL_law_4 ⟨Nat.le_of_ble_eq_true rfl, Nat.le_of_ble_eq_true rfl⟩) hS (fun q _ h => hFc q h) hFc (fun u t H1 locs ht hvm hw hB hz1 hk1 hS => ?_)
  obtain ⟨pS, aO, aL, aS, a0, a1, a2, a3, pL, l1, l2, l3, l4, l5, pW, w1, w2, pR, r1, r2, r3, pT, hP1, hK1, hD1⟩ := hB
  rw [ht] at hP1
  obtain ⟨hP, hD⟩ := va_join (wr := []) (w1 := [(h0, .inr (4, [.ref pS, .ref pL, .ref pW, .ref pR, .ref pT, .int 0, .int 0])), (pS, .inr (2, [.ref aO, .ref aL, .ref aS])), (aO, .inl (cQ, 4, .inr (.inr (.inr (.inr (fun i => [a0, a1, a2, a3][i]?)))))), (a0, .inl (cI, 60, .inl (fun _ => 0))), (a1, .inl (cI, 60, .inl (fun _ => 0))), (a2, .inl (cI, 60, .inl (fun _ => 0))), (a3, .inl (cI, 60, .inl (fun _ => 0))), (aS, .inl (cI, 4, .inl (fun _ => 0))), (aL, .inl (cI, 4, .inl (upd (upd (upd (upd (fun _ => 0) 0 (-1)) 1 (-1)) 2 (-1)) 3 (-1)))), (pL, .inr (0, [.int 0, .int 0, .ref l1, .ref l2, .ref l3, .ref l4, .ref l5])), (l1, .inl (cI, 6, .inl (fun _ => 0))), (l2, .inl (cI, 6, .inl (fun _ => 0))), (l3, .inl (cI, 5, .inl (fun _ => 0))), (l4, .inl (cI, 5, .inl (fun _ => 0))), (l5, .inl (cI, 8, .inl (fun _ => 0))), (pW, .inr (3, [.ref w1, .ref w2, .int 0, .int 0, .int 0, .int 0])), (w1, .inl (cI, 6, .inl (fun _ => 0))), (w2, .inl (cI, 6, .inl (fun _ => 0))), (pR, .inr (1, [.int 0, .ref r1, .ref r2, .ref r3])), (r1, .inl (cI, 8, .inl (fun _ => 0))), (r2, .inl (cI, 8, .inl (fun _ => 0))), (r3, .inl (cI, 8, .inl (fun _ => 0))), (pT, .inl (cI, 60, .inl (fun _ => 0)))]) hP hD [0] [] rfl rfl (by decide) (by decide) hk1 hFc hP1 hD1
  clear hPc hDc hFc hP1 hD1 hK1 hk1 hz1 hw hvm ht
  generalize H1 = H at hP hS ⊢
  have hP : va_P (dC, dI) pm_cls [(h0, .inr (4, [.ref pS, .ref pL, .ref pW, .ref pR, .ref pT, .int 0, .int 0])), (pS, .inr (2, [.ref aO, .ref aL, .ref aS])), (aO, .inl (cQ, 4, .inr (.inr (.inr (.inr (fun i => [a0, a1, a2, a3][i]?)))))), (a0, .inl (cI, 60, .inl (fun _ => 0))), (a1, .inl (cI, 60, .inl (fun _ => 0))), (a2, .inl (cI, 60, .inl (fun _ => 0))), (a3, .inl (cI, 60, .inl (fun _ => 0))), (aS, .inl (cI, 4, .inl (fun _ => 0))), (aL, .inl (cI, 4, .inl (upd (upd (upd (upd (fun _ => 0) 0 (-1)) 1 (-1)) 2 (-1)) 3 (-1)))), (pL, .inr (0, [.int 0, .int 0, .ref l1, .ref l2, .ref l3, .ref l4, .ref l5])), (l1, .inl (cI, 6, .inl (fun _ => 0))), (l2, .inl (cI, 6, .inl (fun _ => 0))), (l3, .inl (cI, 5, .inl (fun _ => 0))), (l4, .inl (cI, 5, .inl (fun _ => 0))), (l5, .inl (cI, 8, .inl (fun _ => 0))), (pW, .inr (3, [.ref w1, .ref w2, .int 0, .int 0, .int 0, .int 0])), (w1, .inl (cI, 6, .inl (fun _ => 0))), (w2, .inl (cI, 6, .inl (fun _ => 0))), (pR, .inr (1, [.int 0, .ref r1, .ref r2, .ref r3])), (r1, .inl (cI, 8, .inl (fun _ => 0))), (r2, .inl (cI, 8, .inl (fun _ => 0))), (r3, .inl (cI, 8, .inl (fun _ => 0))), (pT, .inl (cI, 60, .inl (fun _ => 0)))] H := hP
  have hD : va_D (fun q : Nat => s.heap.size ≤ q) [(h0, .inr (4, [.ref pS, .ref pL, .ref pW, .ref pR, .ref pT, .int 0, .int 0])), (pS, .inr (2, [.ref aO, .ref aL, .ref aS])), (aO, .inl (cQ, 4, .inr (.inr (.inr (.inr (fun i => [a0, a1, a2, a3][i]?)))))), (a0, .inl (cI, 60, .inl (fun _ => 0))), (a1, .inl (cI, 60, .inl (fun _ => 0))), (a2, .inl (cI, 60, .inl (fun _ => 0))), (a3, .inl (cI, 60, .inl (fun _ => 0))), (aS, .inl (cI, 4, .inl (fun _ => 0))), (aL, .inl (cI, 4, .inl (upd (upd (upd (upd (fun _ => 0) 0 (-1)) 1 (-1)) 2 (-1)) 3 (-1)))), (pL, .inr (0, [.int 0, .int 0, .ref l1, .ref l2, .ref l3, .ref l4, .ref l5])), (l1, .inl (cI, 6, .inl (fun _ => 0))), (l2, .inl (cI, 6, .inl (fun _ => 0))), (l3, .inl (cI, 5, .inl (fun _ => 0))), (l4, .inl (cI, 5, .inl (fun _ => 0))), (l5, .inl (cI, 8, .inl (fun _ => 0))), (pW, .inr (3, [.ref w1, .ref w2, .int 0, .int 0, .int 0, .int 0])), (w1, .inl (cI, 6, .inl (fun _ => 0))), (w2, .inl (cI, 6, .inl (fun _ => 0))), (pR, .inr (1, [.int 0, .ref r1, .ref r2, .ref r3])), (r1, .inl (cI, 8, .inl (fun _ => 0))), (r2, .inl (cI, 8, .inl (fun _ => 0))), (r3, .inl (cI, 8, .inl (fun _ => 0))), (pT, .inl (cI, 60, .inl (fun _ => 0)))] := hD
  refine W.widen (k := 23) (n := 405) (by omega) (by omega) ?_
  refine lv_astore_n (lv' := [(1, .ref h0), (0, .ref b)]) hx hb dL_law_7 rfl hl (by decide) rfl (fun ls hl => ?_)
  refine va_new (ci := 5) (fs := [.int 0, .int 0, .null, .null, .null, .int 0, .int 0, .null, .null, .null, .null, .null, .int 0, .int 0, .int 0, .null, .null, .null, .null, .null, .null, .null, .int 0, .int 0, .int 0, .int 0, .int 0, .null, .null, .null]) (C := RX6) (T := TX6) (N := 30) hx hb hts (fun w hw => (List.mem_filter.mp ((pm_okc_ok 5 _ _ _ rfl).1 w hw)).1) tyX6 tyX6_ok hown (hts (.classLink RL 10 RX6) (by decide +kernel)) (hts (.instantiable RX6 30) (by decide +kernel)) (hts (.initialized RX6) (by decide +kernel)) hK hP hD hS hA rfl (fun j hj => by rcases (show j = 0 ∨ j = 1 ∨ j = 2 ∨ j = 3 ∨ j = 4 ∨ j = 5 ∨ j = 6 ∨ j = 7 ∨ j = 8 ∨ j = 9 ∨ j = 10 ∨ j = 11 ∨ j = 12 ∨ j = 13 ∨ j = 14 ∨ j = 15 ∨ j = 16 ∨ j = 17 ∨ j = 18 ∨ j = 19 ∨ j = 20 ∨ j = 21 ∨ j = 22 ∨ j = 23 ∨ j = 24 ∨ j = 25 ∨ j = 26 ∨ j = 27 ∨ j = 28 ∨ j = 29 by omega) with rfl | rfl | rfl | rfl | rfl | rfl | rfl | rfl | rfl | rfl | rfl | rfl | rfl | rfl | rfl | rfl | rfl | rfl | rfl | rfl | rfl | rfl | rfl | rfl | rfl | rfl | rfl | rfl | rfl | rfl <;> rfl) (Nat.le_of_ble_eq_true rfl) (Nat.le_of_ble_eq_true rfl) dL_law_8 (fun pM H hP hD hS => ?_)
  have hP : va_P (dC, dI) pm_cls [(h0, .inr (4, [.ref pS, .ref pL, .ref pW, .ref pR, .ref pT, .int 0, .int 0])), (pS, .inr (2, [.ref aO, .ref aL, .ref aS])), (aO, .inl (cQ, 4, .inr (.inr (.inr (.inr (fun i => [a0, a1, a2, a3][i]?)))))), (a0, .inl (cI, 60, .inl (fun _ => 0))), (a1, .inl (cI, 60, .inl (fun _ => 0))), (a2, .inl (cI, 60, .inl (fun _ => 0))), (a3, .inl (cI, 60, .inl (fun _ => 0))), (aS, .inl (cI, 4, .inl (fun _ => 0))), (aL, .inl (cI, 4, .inl (upd (upd (upd (upd (fun _ => 0) 0 (-1)) 1 (-1)) 2 (-1)) 3 (-1)))), (pL, .inr (0, [.int 0, .int 0, .ref l1, .ref l2, .ref l3, .ref l4, .ref l5])), (l1, .inl (cI, 6, .inl (fun _ => 0))), (l2, .inl (cI, 6, .inl (fun _ => 0))), (l3, .inl (cI, 5, .inl (fun _ => 0))), (l4, .inl (cI, 5, .inl (fun _ => 0))), (l5, .inl (cI, 8, .inl (fun _ => 0))), (pW, .inr (3, [.ref w1, .ref w2, .int 0, .int 0, .int 0, .int 0])), (w1, .inl (cI, 6, .inl (fun _ => 0))), (w2, .inl (cI, 6, .inl (fun _ => 0))), (pR, .inr (1, [.int 0, .ref r1, .ref r2, .ref r3])), (r1, .inl (cI, 8, .inl (fun _ => 0))), (r2, .inl (cI, 8, .inl (fun _ => 0))), (r3, .inl (cI, 8, .inl (fun _ => 0))), (pT, .inl (cI, 60, .inl (fun _ => 0))), (pM, .inr (5, [.int 0, .int 0, .null, .null, .null, .int 0, .int 0, .null, .null, .null, .null, .null, .int 0, .int 0, .int 0, .null, .null, .null, .null, .null, .null, .null, .int 0, .int 0, .int 0, .int 0, .int 0, .null, .null, .null]))] H := hP
  have hD : va_D (fun q : Nat => s.heap.size ≤ q) [(h0, .inr (4, [.ref pS, .ref pL, .ref pW, .ref pR, .ref pT, .int 0, .int 0])), (pS, .inr (2, [.ref aO, .ref aL, .ref aS])), (aO, .inl (cQ, 4, .inr (.inr (.inr (.inr (fun i => [a0, a1, a2, a3][i]?)))))), (a0, .inl (cI, 60, .inl (fun _ => 0))), (a1, .inl (cI, 60, .inl (fun _ => 0))), (a2, .inl (cI, 60, .inl (fun _ => 0))), (a3, .inl (cI, 60, .inl (fun _ => 0))), (aS, .inl (cI, 4, .inl (fun _ => 0))), (aL, .inl (cI, 4, .inl (upd (upd (upd (upd (fun _ => 0) 0 (-1)) 1 (-1)) 2 (-1)) 3 (-1)))), (pL, .inr (0, [.int 0, .int 0, .ref l1, .ref l2, .ref l3, .ref l4, .ref l5])), (l1, .inl (cI, 6, .inl (fun _ => 0))), (l2, .inl (cI, 6, .inl (fun _ => 0))), (l3, .inl (cI, 5, .inl (fun _ => 0))), (l4, .inl (cI, 5, .inl (fun _ => 0))), (l5, .inl (cI, 8, .inl (fun _ => 0))), (pW, .inr (3, [.ref w1, .ref w2, .int 0, .int 0, .int 0, .int 0])), (w1, .inl (cI, 6, .inl (fun _ => 0))), (w2, .inl (cI, 6, .inl (fun _ => 0))), (pR, .inr (1, [.int 0, .ref r1, .ref r2, .ref r3])), (r1, .inl (cI, 8, .inl (fun _ => 0))), (r2, .inl (cI, 8, .inl (fun _ => 0))), (r3, .inl (cI, 8, .inl (fun _ => 0))), (pT, .inl (cI, 60, .inl (fun _ => 0))), (pM, .inr (5, [.int 0, .int 0, .null, .null, .null, .int 0, .int 0, .null, .null, .null, .null, .null, .int 0, .int 0, .int 0, .null, .null, .null, .null, .null, .null, .null, .int 0, .int 0, .int 0, .int 0, .int 0, .null, .null, .null]))] := hD
  refine W.widen (k := 24) (n := 435) (by omega) (by omega) ?_
  refine lv_dup hx hb dL_law_11 rfl ?_
  have hPc := hP.sub (ws' := [(pM, .inr (5, [.int 0, .int 0, .null, .null, .null, .int 0, .int 0, .null, .null, .null, .null, .null, .int 0, .int 0, .int 0, .null, .null, .null, .null, .null, .null, .null, .int 0, .int 0, .int 0, .int 0, .int 0, .null, .null, .null]))]) [23] rfl
  have hDc := hD.sub (ws' := [(pM, .inr (5, [.int 0, .int 0, .null, .null, .null, .int 0, .int 0, .null, .null, .null, .null, .null, .int 0, .int 0, .int 0, .null, .null, .null, .null, .null, .null, .null, .int 0, .int 0, .int 0, .int 0, .int 0, .null, .null, .null]))]) [23] (by decide) rfl
  have hKc2 := hK.sub (tys' := [(cI, .int)]) [0] rfl
  have hFc := va_free (wc := [(pM, .inr (5, [.int 0, .int 0, .null, .null, .null, .int 0, .int 0, .null, .null, .null, .null, .null, .int 0, .int 0, .int 0, .null, .null, .null, .null, .null, .null, .null, .int 0, .int 0, .int 0, .int 0, .int 0, .null, .null, .null]))]) hD hS hA [23] rfl
  refine va_callv (va_runI (As := []) (rest := [.ref pM]) ⟨hx, hb, hml, hown, hts⟩ (cn_Model l dC dI cI pM H.size) (cwI 0 hts cn_gModel rfl rfl rfl (hts (.initialized RX6) (by decide +kernel)) (hts (.methodLink RL 12 yX6_init) (by decide +kernel)) (hts (.instanceMethod yX6_init) (by decide +kernel)) rfl (by decide +kernel) ⟨Nat.le_of_ble_eq_true rfl, Nat.le_of_ble_eq_true rfl⟩) ⟨fun a U g mk q => by obtain ⟨q0, q1, qP, qK, qD⟩ := q; exact ⟨q0, q1, qP, va_K.moved (u := U) (U := U.calling g mk a) (Vm.Alike.refl U.vm) qK, qD⟩, fun U hU hW => ⟨rfl, by rw [hU], by rw [hU]; exact hPc, va_K.moved hW.alike hKc2, hDc.weaken (fun _ _ _ _ => trivial)⟩⟩ rfl rfl hl.1 rfl (lv_room (Nat.le_of_ble_eq_true rfl)) dL_law_12 ⟨Nat.le_of_ble_eq_true rfl, Nat.le_of_ble_eq_true rfl⟩) hS (fun q _ h => hFc q h) hFc (fun u t H1 locs ht hvm hw hB hz1 hk1 hS => ?_)
  obtain ⟨m1, m2, m3, m4, m5, m6, m7, m8, m9, m10, m11, m12, m13, m14, m15, m16, m17, m18, hP1, hK1, hD1⟩ := hB
  rw [ht] at hP1
  obtain ⟨hP, hD⟩ := va_join (wr := [(h0, .inr (4, [.ref pS, .ref pL, .ref pW, .ref pR, .ref pT, .int 0, .int 0])), (pS, .inr (2, [.ref aO, .ref aL, .ref aS])), (aO, .inl (cQ, 4, .inr (.inr (.inr (.inr (fun i => [a0, a1, a2, a3][i]?)))))), (a0, .inl (cI, 60, .inl (fun _ => 0))), (a1, .inl (cI, 60, .inl (fun _ => 0))), (a2, .inl (cI, 60, .inl (fun _ => 0))), (a3, .inl (cI, 60, .inl (fun _ => 0))), (aS, .inl (cI, 4, .inl (fun _ => 0))), (aL, .inl (cI, 4, .inl (upd (upd (upd (upd (fun _ => 0) 0 (-1)) 1 (-1)) 2 (-1)) 3 (-1)))), (pL, .inr (0, [.int 0, .int 0, .ref l1, .ref l2, .ref l3, .ref l4, .ref l5])), (l1, .inl (cI, 6, .inl (fun _ => 0))), (l2, .inl (cI, 6, .inl (fun _ => 0))), (l3, .inl (cI, 5, .inl (fun _ => 0))), (l4, .inl (cI, 5, .inl (fun _ => 0))), (l5, .inl (cI, 8, .inl (fun _ => 0))), (pW, .inr (3, [.ref w1, .ref w2, .int 0, .int 0, .int 0, .int 0])), (w1, .inl (cI, 6, .inl (fun _ => 0))), (w2, .inl (cI, 6, .inl (fun _ => 0))), (pR, .inr (1, [.int 0, .ref r1, .ref r2, .ref r3])), (r1, .inl (cI, 8, .inl (fun _ => 0))), (r2, .inl (cI, 8, .inl (fun _ => 0))), (r3, .inl (cI, 8, .inl (fun _ => 0))), (pT, .inl (cI, 60, .inl (fun _ => 0)))]) (w1 := [(pM, .inr (5, [.int 0, .int 0, .ref m1, .ref m2, .ref m3, .int 0, .int 0, .ref m4, .ref m5, .ref m6, .ref m7, .ref m8, .int 0, .int 0, .int 0, .ref m9, .ref m10, .ref m11, .ref m12, .ref m13, .ref m14, .ref m15, .int 0, .int 0, .int 0, .int 0, .int 0, .ref m16, .ref m17, .ref m18])), (m1, .inl (cI, 4, .inl (upd (upd (upd (upd (fun _ => 0) 0 (-9)) 1 (-9)) 2 (-9)) 3 (-9)))), (m2, .inl (cI, 4, .inl (fun _ => 0))), (m3, .inl (cI, 240, .inl (fun _ => 0))), (m4, .inl (cI, 6, .inl (fun _ => 0))), (m5, .inl (cI, 6, .inl (fun _ => 0))), (m6, .inl (cI, 5, .inl (fun _ => 0))), (m7, .inl (cI, 5, .inl (fun _ => 0))), (m8, .inl (cI, 8, .inl (fun _ => 0))), (m9, .inl (cI, 6, .inl (fun _ => 0))), (m10, .inl (cI, 6, .inl (fun _ => 0))), (m11, .inl (cI, 5, .inl (fun _ => 0))), (m12, .inl (cI, 5, .inl (fun _ => 0))), (m13, .inl (cI, 8, .inl (fun _ => 0))), (m14, .inl (cI, 6, .inl (fun _ => 0))), (m15, .inl (cI, 6, .inl (fun _ => 0))), (m16, .inl (cI, 8, .inl (fun _ => 0))), (m17, .inl (cI, 8, .inl (fun _ => 0))), (m18, .inl (cI, 8, .inl (fun _ => 0)))]) hP hD [23] [0, 1, 2, 3, 4, 5, 6, 7, 8, 9, 10, 11, 12, 13, 14, 15, 16, 17, 18, 19, 20, 21, 22] rfl rfl (by decide) (by decide) hk1 hFc hP1 hD1
  clear hPc hDc hKc2 hFc hP1 hD1 hK1 hk1 hz1 hw hvm ht
  generalize H1 = H at hP hS ⊢
  have hP : va_P (dC, dI) pm_cls [(h0, .inr (4, [.ref pS, .ref pL, .ref pW, .ref pR, .ref pT, .int 0, .int 0])), (pS, .inr (2, [.ref aO, .ref aL, .ref aS])), (aO, .inl (cQ, 4, .inr (.inr (.inr (.inr (fun i => [a0, a1, a2, a3][i]?)))))), (a0, .inl (cI, 60, .inl (fun _ => 0))), (a1, .inl (cI, 60, .inl (fun _ => 0))), (a2, .inl (cI, 60, .inl (fun _ => 0))), (a3, .inl (cI, 60, .inl (fun _ => 0))), (aS, .inl (cI, 4, .inl (fun _ => 0))), (aL, .inl (cI, 4, .inl (upd (upd (upd (upd (fun _ => 0) 0 (-1)) 1 (-1)) 2 (-1)) 3 (-1)))), (pL, .inr (0, [.int 0, .int 0, .ref l1, .ref l2, .ref l3, .ref l4, .ref l5])), (l1, .inl (cI, 6, .inl (fun _ => 0))), (l2, .inl (cI, 6, .inl (fun _ => 0))), (l3, .inl (cI, 5, .inl (fun _ => 0))), (l4, .inl (cI, 5, .inl (fun _ => 0))), (l5, .inl (cI, 8, .inl (fun _ => 0))), (pW, .inr (3, [.ref w1, .ref w2, .int 0, .int 0, .int 0, .int 0])), (w1, .inl (cI, 6, .inl (fun _ => 0))), (w2, .inl (cI, 6, .inl (fun _ => 0))), (pR, .inr (1, [.int 0, .ref r1, .ref r2, .ref r3])), (r1, .inl (cI, 8, .inl (fun _ => 0))), (r2, .inl (cI, 8, .inl (fun _ => 0))), (r3, .inl (cI, 8, .inl (fun _ => 0))), (pT, .inl (cI, 60, .inl (fun _ => 0))), (pM, .inr (5, [.int 0, .int 0, .ref m1, .ref m2, .ref m3, .int 0, .int 0, .ref m4, .ref m5, .ref m6, .ref m7, .ref m8, .int 0, .int 0, .int 0, .ref m9, .ref m10, .ref m11, .ref m12, .ref m13, .ref m14, .ref m15, .int 0, .int 0, .int 0, .int 0, .int 0, .ref m16, .ref m17, .ref m18])), (m1, .inl (cI, 4, .inl (upd (upd (upd (upd (fun _ => 0) 0 (-9)) 1 (-9)) 2 (-9)) 3 (-9)))), (m2, .inl (cI, 4, .inl (fun _ => 0))), (m3, .inl (cI, 240, .inl (fun _ => 0))), (m4, .inl (cI, 6, .inl (fun _ => 0))), (m5, .inl (cI, 6, .inl (fun _ => 0))), (m6, .inl (cI, 5, .inl (fun _ => 0))), (m7, .inl (cI, 5, .inl (fun _ => 0))), (m8, .inl (cI, 8, .inl (fun _ => 0))), (m9, .inl (cI, 6, .inl (fun _ => 0))), (m10, .inl (cI, 6, .inl (fun _ => 0))), (m11, .inl (cI, 5, .inl (fun _ => 0))), (m12, .inl (cI, 5, .inl (fun _ => 0))), (m13, .inl (cI, 8, .inl (fun _ => 0))), (m14, .inl (cI, 6, .inl (fun _ => 0))), (m15, .inl (cI, 6, .inl (fun _ => 0))), (m16, .inl (cI, 8, .inl (fun _ => 0))), (m17, .inl (cI, 8, .inl (fun _ => 0))), (m18, .inl (cI, 8, .inl (fun _ => 0)))] H := hP
  have hD : va_D (fun q : Nat => s.heap.size ≤ q) [(h0, .inr (4, [.ref pS, .ref pL, .ref pW, .ref pR, .ref pT, .int 0, .int 0])), (pS, .inr (2, [.ref aO, .ref aL, .ref aS])), (aO, .inl (cQ, 4, .inr (.inr (.inr (.inr (fun i => [a0, a1, a2, a3][i]?)))))), (a0, .inl (cI, 60, .inl (fun _ => 0))), (a1, .inl (cI, 60, .inl (fun _ => 0))), (a2, .inl (cI, 60, .inl (fun _ => 0))), (a3, .inl (cI, 60, .inl (fun _ => 0))), (aS, .inl (cI, 4, .inl (fun _ => 0))), (aL, .inl (cI, 4, .inl (upd (upd (upd (upd (fun _ => 0) 0 (-1)) 1 (-1)) 2 (-1)) 3 (-1)))), (pL, .inr (0, [.int 0, .int 0, .ref l1, .ref l2, .ref l3, .ref l4, .ref l5])), (l1, .inl (cI, 6, .inl (fun _ => 0))), (l2, .inl (cI, 6, .inl (fun _ => 0))), (l3, .inl (cI, 5, .inl (fun _ => 0))), (l4, .inl (cI, 5, .inl (fun _ => 0))), (l5, .inl (cI, 8, .inl (fun _ => 0))), (pW, .inr (3, [.ref w1, .ref w2, .int 0, .int 0, .int 0, .int 0])), (w1, .inl (cI, 6, .inl (fun _ => 0))), (w2, .inl (cI, 6, .inl (fun _ => 0))), (pR, .inr (1, [.int 0, .ref r1, .ref r2, .ref r3])), (r1, .inl (cI, 8, .inl (fun _ => 0))), (r2, .inl (cI, 8, .inl (fun _ => 0))), (r3, .inl (cI, 8, .inl (fun _ => 0))), (pT, .inl (cI, 60, .inl (fun _ => 0))), (pM, .inr (5, [.int 0, .int 0, .ref m1, .ref m2, .ref m3, .int 0, .int 0, .ref m4, .ref m5, .ref m6, .ref m7, .ref m8, .int 0, .int 0, .int 0, .ref m9, .ref m10, .ref m11, .ref m12, .ref m13, .ref m14, .ref m15, .int 0, .int 0, .int 0, .int 0, .int 0, .ref m16, .ref m17, .ref m18])), (m1, .inl (cI, 4, .inl (upd (upd (upd (upd (fun _ => 0) 0 (-9)) 1 (-9)) 2 (-9)) 3 (-9)))), (m2, .inl (cI, 4, .inl (fun _ => 0))), (m3, .inl (cI, 240, .inl (fun _ => 0))), (m4, .inl (cI, 6, .inl (fun _ => 0))), (m5, .inl (cI, 6, .inl (fun _ => 0))), (m6, .inl (cI, 5, .inl (fun _ => 0))), (m7, .inl (cI, 5, .inl (fun _ => 0))), (m8, .inl (cI, 8, .inl (fun _ => 0))), (m9, .inl (cI, 6, .inl (fun _ => 0))), (m10, .inl (cI, 6, .inl (fun _ => 0))), (m11, .inl (cI, 5, .inl (fun _ => 0))), (m12, .inl (cI, 5, .inl (fun _ => 0))), (m13, .inl (cI, 8, .inl (fun _ => 0))), (m14, .inl (cI, 6, .inl (fun _ => 0))), (m15, .inl (cI, 6, .inl (fun _ => 0))), (m16, .inl (cI, 8, .inl (fun _ => 0))), (m17, .inl (cI, 8, .inl (fun _ => 0))), (m18, .inl (cI, 8, .inl (fun _ => 0)))] := hD
  refine W.widen (k := 42) (n := 779) (by omega) (by omega) ?_
  refine lv_astore_n (lv' := [(2, .ref pM), (1, .ref h0), (0, .ref b)]) hx hb dL_law_15 rfl hl (by decide) rfl (fun ls hl => ?_)
  refine lv_iconst (v := 0) hx hb dL_law_16 (by decide) ?_
  refine lv_istore_n (lv' := [(3, .int 0), (2, .ref pM), (1, .ref h0), (0, .ref b)]) hx hb dL_law_17 rfl hl (by decide) rfl (fun ls hl => ?_)
  have eO := cn_outer a0 a1 a2 a3 (cn_ad h0 pS pL pW pR pT aO a0 a1 a2 a3 aL aS l1 l2 l3 l4 l5 r1 r2 r3 w1 w2 pM m1 m2 m3 m4 m5 m6 m7 m8 m9 m10 m11 m12 m13 m14 m15 m16 m17 m18 b) rfl rfl rfl rfl
  rw [eO] at hP hD
  have hP := hP.sub (ws' := pm_w (cn_ad h0 pS pL pW pR pT aO a0 a1 a2 a3 aL aS l1 l2 l3 l4 l5 r1 r2 r3 w1 w2 pM m1 m2 m3 m4 m5 m6 m7 m8 m9 m10 m11 m12 m13 m14 m15 m16 m17 m18 b) cI cQ cn_M) [0, 1, 9, 15, 18, 22, 2, 3, 4, 5, 6, 8, 7, 10, 11, 12, 13, 14, 19, 20, 21, 16, 17, 23, 24, 25, 26, 27, 28, 29, 30, 31, 32, 33, 34, 35, 36, 37, 38, 39, 40, 41] (by rw [cn_w]; rfl)
  have hD := hD.sub (ws' := pm_w (cn_ad h0 pS pL pW pR pT aO a0 a1 a2 a3 aL aS l1 l2 l3 l4 l5 r1 r2 r3 w1 w2 pM m1 m2 m3 m4 m5 m6 m7 m8 m9 m10 m11 m12 m13 m14 m15 m16 m17 m18 b) cI cQ cn_M) [0, 1, 9, 15, 18, 22, 2, 3, 4, 5, 6, 8, 7, 10, 11, 12, 13, 14, 19, 20, 21, 16, 17, 23, 24, 25, 26, 27, 28, 29, 30, 31, 32, 33, 34, 35, 36, 37, 38, 39, 40, 41] (by decide) (by rw [cn_w]; rfl)
  have hb99 : (cn_ad h0 pS pL pW pR pT aO a0 a1 a2 a3 aL aS l1 l2 l3 l4 l5 r1 r2 r3 w1 w2 pM m1 m2 m3 m4 m5 m6 m7 m8 m9 m10 m11 m12 m13 m14 m15 m16 m17 m18 b) 99 = b := rfl
  have hl : lv_has ls 4 (pm_loc (cn_ad h0 pS pL pW pR pT aO a0 a1 a2 a3 aL aS l1 l2 l3 l4 l5 r1 r2 r3 w1 w2 pM m1 m2 m3 m4 m5 m6 m7 m8 m9 m10 m11 m12 m13 m14 m15 m16 m17 m18 b) 0 (lw_ls 0)) := lv_sub hl [3, 2, 1, 0] rfl
  generalize (cn_ad h0 pS pL pW pR pT aO a0 a1 a2 a3 aL aS l1 l2 l3 l4 l5 r1 r2 r3 w1 w2 pM m1 m2 m3 m4 m5 m6 m7 m8 m9 m10 m11 m12 m13 m14 m15 m16 m17 m18 b) = ad at hP hD hb99 hl
  obtain ⟨n, M2, hn⟩ := lw_runs (xs := xs) hL cn_iv
  refine pm_sound pm_okc_ok pm_okt_ok pm_okm_ok pm_ac1 pm_ac2 pm_ac3 pm_mt l dC dI ad cI cQ n (L + 1, xs) 143 _ _ hn (H0 := s.heap) (A := (fun q : Nat => s.heap.size ≤ q)) hA ⟨hx, hb, hml, hown, fun w hw => hts w (List.mem_filter.mp hw).1, hN, hK, Or.inr ⟨by rw [hb99]; exact hX, by rw [hb99]; exact hbl, by rw [hb99]; exact hbA⟩, Nat.le_of_ble_eq_true rfl, Nat.le_of_ble_eq_true rfl, Nat.le_of_ble_eq_true rfl, Nat.le_of_ble_eq_true rfl⟩ ?_ H locs ls hP hD hS hl
  intro H locs ls pc hP hD hS
  refine ⟨?_, ?_, ?_⟩
  · intro v hv _ hdg
    have e9 : v = 1 := by
      have h9 := Option.some.inj hv
      exact (Sum.inl.inj h9).symm
    subst e9
    refine va_forget (fun q hq => hS.2.2 q hq) ?_
    refine W.widen (k := 600000) (n := 7302250) (by omega) (by omega) ?_
    exact lw_ret hx hb hr hlocks hdg
  · intro v hv
    cases hv
  · intro hv
    cases hv
-- ===== YOUR PART ENDS =====
