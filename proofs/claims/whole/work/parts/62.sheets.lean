/-! The constructor of Sheets. -/
def wsX2_init : List Cond := .code yX2_init cX2_init 1 none :: ([.methodLink RX2 3 objectInit, .instanceMethod objectInit, .code objectInit ⟨#[0xb1]⟩ 1 none, .classLink RX2 9 "[[I", .arrayClass .int, .fieldLink RX2 11 "WeatherPass$Sheets" "cells" "[[I", .fieldLink RX2 16 "WeatherPass$Sheets" "lanes" "[I", .fieldLink RX2 20 "WeatherPass$Sheets" "sizes" "[I", .methodLink RX2 23 yJ7_fill_53178, .static yJ7_fill_53178, .initialized RJ7, .code yJ7_fill_53178 cJ7_fill_53178 4 none] ++ wsX20)
set_option maxRecDepth 20000 in
theorem ggX2_init_J7_fill_53178 : GoodIn wsX2_init wsJ7_fill_53178 := goodIn_r _ [12] (by decide +kernel) (by decide +kernel)
set_option maxRecDepth 20000 in
theorem gX2_init_J7_fill_53178 : GoodIn wsX2_init (va_wsS RX2 23 yJ7_fill_53178 wsJ7_fill_53178) := goodIn_app (goodIn_of _ (by decide +kernel)) ggX2_init_J7_fill_53178
theorem dX2_init_0 : decode cX2_init 0 = .ok (.aload_n 0, 1) := by decide +kernel
theorem dX2_init_1 : decode cX2_init 1 = .ok (.invokespecial 3, 3) := by decide +kernel
theorem dX2_init_4 : decode cX2_init 4 = .ok (.aload_n 0, 1) := by decide +kernel
theorem dX2_init_5 : decode cX2_init 5 = .ok (.iconst 4, 1) := by decide +kernel
theorem dX2_init_6 : decode cX2_init 6 = .ok (.bipush 60, 2) := by decide +kernel
theorem dX2_init_8 : decode cX2_init 8 = .ok (.multianewarray 9 2, 4) := by decide +kernel
theorem dX2_init_12 : decode cX2_init 12 = .ok (.putfield 11, 3) := by decide +kernel
theorem dX2_init_15 : decode cX2_init 15 = .ok (.aload_n 0, 1) := by decide +kernel
theorem dX2_init_16 : decode cX2_init 16 = .ok (.iconst 4, 1) := by decide +kernel
theorem dX2_init_17 : decode cX2_init 17 = .ok (.newarray .int, 2) := by decide +kernel
theorem dX2_init_19 : decode cX2_init 19 = .ok (.putfield 16, 3) := by decide +kernel
theorem dX2_init_22 : decode cX2_init 22 = .ok (.aload_n 0, 1) := by decide +kernel
theorem dX2_init_23 : decode cX2_init 23 = .ok (.iconst 4, 1) := by decide +kernel
theorem dX2_init_24 : decode cX2_init 24 = .ok (.newarray .int, 2) := by decide +kernel
theorem dX2_init_26 : decode cX2_init 26 = .ok (.putfield 20, 3) := by decide +kernel
theorem dX2_init_29 : decode cX2_init 29 = .ok (.aload_n 0, 1) := by decide +kernel
theorem dX2_init_30 : decode cX2_init 30 = .ok (.getfield 16, 3) := by decide +kernel
theorem dX2_init_33 : decode cX2_init 33 = .ok (.iconst (-1), 1) := by decide +kernel
theorem dX2_init_34 : decode cX2_init 34 = .ok (.invokestatic 23, 3) := by decide +kernel
theorem dX2_init_37 : decode cX2_init 37 = .ok (.return_, 1) := by decide +kernel
theorem cn_u2 {D : va_G} {cl : List vw_C} {tys : List (ClassId × FieldType)} {i j : Nat} {cI cA : ClassId} {ty : FieldType} {s : State} (hI : tys[i]? = some (cI, .array ty)) (hJ : tys[j]? = some (cA, .array ty)) (h : va_K D cl tys s) : cA = cI := by
  have h3 : s.vm.findClass ("[" ++ (FieldType.array ty).toString) = some cI := (h.2 i _ hI).2
  have h4 : s.vm.findClass ("[" ++ (FieldType.array ty).toString) = some cA := (h.2 j _ hJ).2
  exact Option.some.inj (h4.symm.trans h3)
theorem cn_u3 {D : va_G} {cl : List vw_C} {tys : List (ClassId × FieldType)} {i j : Nat} {cI cA : ClassId} {s : State} (hI : tys[i]? = some (cI, .int)) (hJ : tys[j]? = some (cA, .int)) (h : va_K D cl tys s) : cA = cI := by
  have h3 : s.vm.findClass ("[" ++ FieldType.int.toString) = some cI := (h.2 i _ hI).2
  have h4 : s.vm.findClass ("[" ++ FieldType.int.toString) = some cA := (h.2 j _ hJ).2
  exact Option.some.inj (h4.symm.trans h3)
theorem cn_pl4 (r : Nat → Nat) (f : Nat → va_E) (v : va_E) : va_pl ([] ++ (List.range 4).map r) (vr_up f ((List.range 4).map r) v) = [(r 0, v), (r 1, v), (r 2, v), (r 3, v)] := by
  show va_pl [r 0, r 1, r 2, r 3] (vr_up f [r 0, r 1, r 2, r 3] v) = _
  simp [va_pl, vr_up]
theorem cn_out4 (r : Nat → Nat) : (fun i : Nat => if i < 4 then some (r i) else none) = (fun i => [r 0, r 1, r 2, r 3][i]?) := by
  funext i
  match i with
  | 0 => rfl
  | 1 => rfl
  | 2 => rfl
  | 3 => rfl
  | n + 4 => simp
set_option maxHeartbeats 4000000 in
set_option maxRecDepth 100000 in
theorem cn_Sheets (l : Launch) (dC : Nat → ClassId) (dI : Nat → Nat → Nat) (cI cQ : ClassId) (h0 : Nat) (sz : Nat) : Met l yX2_init wsX2_init ({ frames := 1, cells := 7, slots := 252, locals := 23 }) (va_Pc [.ref h0] (fun U => U.heap.size = sz ∧ va_P (dC, dI) pm_cls [(h0, .inr (2, [.null, .null, .null]))] U.heap ∧ va_K (dC, dI) pm_cls [(cI, .int), (cQ, .array .int)] U ∧ va_D (fun _ => True) [(h0, .inr (2, [.null, .null, .null]))] ∧ va_AOA .int U)) (va_Qv (fun _ : Unit => True) (fun _ t => ∃ (q1 q2 q3 r0 r1 r2 r3 : Nat), va_P (dC, dI) pm_cls [(h0, .inr (2, [.ref q1, .ref q2, .ref q3])), (q1, .inl (cQ, 4, .inr (.inr (.inr (.inr (fun i => [r0, r1, r2, r3][i]?)))))), (r0, .inl (cI, 60, .inl (fun _ => 0))), (r1, .inl (cI, 60, .inl (fun _ => 0))), (r2, .inl (cI, 60, .inl (fun _ => 0))), (r3, .inl (cI, 60, .inl (fun _ => 0))), (q3, .inl (cI, 4, .inl (fun _ => 0))), (q2, .inl (cI, 4, .inl (upd (upd (upd (upd (fun _ => 0) 0 (-1)) 1 (-1)) 2 (-1)) 3 (-1))))] t.heap ∧ va_K (dC, dI) pm_cls [(cI, .int), (cQ, .array .int)] t ∧ va_D (va_A [(h0, .inr (2, [.null, .null, .null]))] sz) [(h0, .inr (2, [.ref q1, .ref q2, .ref q3])), (q1, .inl (cQ, 4, .inr (.inr (.inr (.inr (fun i => [r0, r1, r2, r3][i]?)))))), (r0, .inl (cI, 60, .inl (fun _ => 0))), (r1, .inl (cI, 60, .inl (fun _ => 0))), (r2, .inl (cI, 60, .inl (fun _ => 0))), (r3, .inl (cI, 60, .inl (fun _ => 0))), (q3, .inl (cI, 4, .inl (fun _ => 0))), (q2, .inl (cI, 4, .inl (upd (upd (upd (upd (fun _ => 0) 0 (-1)) 1 (-1)) 2 (-1)) 3 (-1))))]) (va_A [(h0, .inr (2, [.null, .null, .null]))] sz)) 7 252 (va_A [(h0, .inr (2, [.null, .null, .null]))] sz) := by
  refine Met.ofW (cc := cX2_init) (maxL := 1) (ret := none) (by decide) rfl ?_
  intro p e s m args below meth c s₁ B hml hv
  obtain ⟨rfl, hsz, hP, hK, hD0, hAO⟩ := hv
  have hx := B.exec
  have hb := B.bytes
  have hr := B.returns
  have hts := atoms_spec (ws := wsX2_init) B.pre
  have hown : s.vm.findClass RX2 = some m.cls := findClass_of_methodNamed B.named
  have hlocks := B.notSynchronized
  have hin : meth.name = "<init>" := (name_of_methodNamed B.named B.method).1
  subst hsz
  have hD := hD0.self (sz := s.heap.size)
  generalize hAe : va_A [(h0, .inr (2, [.null, .null, .null]))] s.heap.size = A at hD ⊢
  have hA : ∀ q : Nat, s.heap.size ≤ q → A q := fun q h => by rw [← hAe]; exact Or.inr h
  have hS : va_S A s.heap s.heap [] := va_S.rf
  have hP : va_P (dC, dI) pm_cls ([(h0, .inr (2, [.null, .null, .null]))] ++ va_pl [] (fun _ => .inl (cI, 60, .inl fun _ => 0))) s.heap := hP
  have hD : va_D A ([(h0, .inr (2, [.null, .null, .null]))] ++ va_pl [] (fun _ => .inl (cI, 60, .inl fun _ => 0))) := hD
  have hcI : s.vm.findClass (FieldType.array FieldType.int).toString = some cI := (hK.2 0 (cI, .int) rfl).2
  have hl := lv_entry ([.ref h0]) (n := 1) (Nat.le_of_ble_eq_true rfl)
  rw [lg_entry_eq]
  generalize (lg_sl ([.ref h0]) ++ List.replicate (1 - (lg_sl ([.ref h0])).length) Slot.unset).toArray = ls at hl ⊢
  have hl : lv_has ls 1 [(0, .ref h0)] := hl
  refine lv_aload_n hx hb dX2_init_0 rfl (lv_at hl 0 rfl) ?_
  refine W.objInit hx hb hown (hts (.methodLink RX2 3 objectInit) (by decide +kernel)) (hts (.instanceMethod objectInit) (by decide +kernel)) (hts _ (List.mem_cons_of_mem _ (List.mem_append_left _ (List.mem_of_getElem? (i := 2) rfl)))) rfl (by rw [hml]; exact hl.1) rfl dX2_init_1 (Nat.le_of_ble_eq_true rfl) (Nat.le_of_ble_eq_true rfl) ?_
  refine W.eq (g2 := F0 m 4 ls []) rfl ?_
  refine lv_aload_n hx hb dX2_init_4 rfl (lv_at hl 0 rfl) ?_
  refine lv_iconst (v := 4) hx hb dX2_init_5 (by decide) ?_
  refine lv_bipush (v := 60) hx hb dX2_init_6 (by decide) ?_
  refine va_mna (X := [(h0, .inr (2, [.null, .null, .null]))]) (L := []) (f := fun _ => .inl (cI, 60, .inl fun _ => 0)) (ty := .int) (cy := cI) (N' := 4) (K' := 60) (z := (60, .inl fun _ => 0)) hx hb hown (hts (.classLink RX2 9 ("[" ++ (FieldType.array FieldType.int).toString)) (by decide +kernel)) hAO (hts (.arrayClass .int) (by decide +kernel)) hcI hK hP hD hS hA (by decide) (by decide) rfl rfl (by decide) (by decide) (by decide) rfl rfl (by decide) (by decide) (fun _ => rfl) dX2_init_8 (fun q1 r cA H _ _ hK1 hP hD hS => ?_)
  have e9 : cA = cQ := cn_u2 (i := 1) (j := 2) rfl rfl hK1
  rw [cn_pl4, cn_out4, e9] at hP hD
  clear hK1 e9 cA
  generalize r 0 = r0 at hP hD
  generalize r 1 = r1 at hP hD
  generalize r 2 = r2 at hP hD
  generalize r 3 = r3 at hP hD
  have hP : va_P (dC, dI) pm_cls [(h0, .inr (2, [.null, .null, .null])), (q1, .inl (cQ, 4, .inr (.inr (.inr (.inr (fun i => [r0, r1, r2, r3][i]?)))))), (r0, .inl (cI, 60, .inl (fun _ => 0))), (r1, .inl (cI, 60, .inl (fun _ => 0))), (r2, .inl (cI, 60, .inl (fun _ => 0))), (r3, .inl (cI, 60, .inl (fun _ => 0)))] H := hP
  have hD : va_D A [(h0, .inr (2, [.null, .null, .null])), (q1, .inl (cQ, 4, .inr (.inr (.inr (.inr (fun i => [r0, r1, r2, r3][i]?)))))), (r0, .inl (cI, 60, .inl (fun _ => 0))), (r1, .inl (cI, 60, .inl (fun _ => 0))), (r2, .inl (cI, 60, .inl (fun _ => 0))), (r3, .inl (cI, 60, .inl (fun _ => 0)))] := hD
  refine va_putF (D := (dC, dI)) (ci := 2) (v := .ref q1) (ty := .array (.array .int)) (C := RX2) (T := TX2) (N := 3) hx hb hts (by decide +kernel) tyX2 tyX2_ok nmX2 hown hK hP hD hS 0 rfl rfl 0 (by decide) (hts (.fieldLink RX2 11 "WeatherPass$Sheets" "cells" "[[I") (by decide +kernel)) (fun _ h9 => h9) rfl hin rfl (by decide +kernel) rfl rfl (Nat.le_of_ble_eq_true rfl) dX2_init_12 (fun H locs hP hD hS => ?_)
  have hP : va_P (dC, dI) pm_cls [(h0, .inr (2, [.ref q1, .null, .null])), (q1, .inl (cQ, 4, .inr (.inr (.inr (.inr (fun i => [r0, r1, r2, r3][i]?)))))), (r0, .inl (cI, 60, .inl (fun _ => 0))), (r1, .inl (cI, 60, .inl (fun _ => 0))), (r2, .inl (cI, 60, .inl (fun _ => 0))), (r3, .inl (cI, 60, .inl (fun _ => 0)))] H := hP
  have hD : va_D A [(h0, .inr (2, [.ref q1, .null, .null])), (q1, .inl (cQ, 4, .inr (.inr (.inr (.inr (fun i => [r0, r1, r2, r3][i]?)))))), (r0, .inl (cI, 60, .inl (fun _ => 0))), (r1, .inl (cI, 60, .inl (fun _ => 0))), (r2, .inl (cI, 60, .inl (fun _ => 0))), (r3, .inl (cI, 60, .inl (fun _ => 0)))] := hD
  refine lv_aload_n hx hb dX2_init_15 rfl (lv_at hl 0 rfl) ?_
  refine lv_iconst (v := 4) hx hb dX2_init_16 (by decide) ?_
  refine va_newa hx hb (atype := .int) (hts (.arrayClass .int) (by decide +kernel)) (ty := .int) rfl hK hP hD hS hA (N' := 4) (a0 := (4, .inl (fun _ => 0))) (fun _ => rfl) (by decide) rfl (by decide) (by decide) (by decide) dX2_init_17 (fun q2 cB H hK1 hP hD hS => ?_)
  have e9 : cB = cI := cn_u3 (i := 0) (j := 2) rfl rfl hK1
  rw [e9] at hP hD
  clear hK1 e9 cB
  have hP : va_P (dC, dI) pm_cls [(h0, .inr (2, [.ref q1, .null, .null])), (q1, .inl (cQ, 4, .inr (.inr (.inr (.inr (fun i => [r0, r1, r2, r3][i]?)))))), (r0, .inl (cI, 60, .inl (fun _ => 0))), (r1, .inl (cI, 60, .inl (fun _ => 0))), (r2, .inl (cI, 60, .inl (fun _ => 0))), (r3, .inl (cI, 60, .inl (fun _ => 0))), (q2, .inl (cI, 4, .inl (fun _ => 0)))] H := hP
  have hD : va_D A [(h0, .inr (2, [.ref q1, .null, .null])), (q1, .inl (cQ, 4, .inr (.inr (.inr (.inr (fun i => [r0, r1, r2, r3][i]?)))))), (r0, .inl (cI, 60, .inl (fun _ => 0))), (r1, .inl (cI, 60, .inl (fun _ => 0))), (r2, .inl (cI, 60, .inl (fun _ => 0))), (r3, .inl (cI, 60, .inl (fun _ => 0))), (q2, .inl (cI, 4, .inl (fun _ => 0)))] := hD
  refine va_putF (D := (dC, dI)) (ci := 2) (v := .ref q2) (ty := .array .int) (C := RX2) (T := TX2) (N := 3) hx hb hts (by decide +kernel) tyX2 tyX2_ok nmX2 hown hK hP hD hS 0 rfl rfl 1 (by decide) (hts (.fieldLink RX2 16 "WeatherPass$Sheets" "lanes" "[I") (by decide +kernel)) (fun _ h9 => h9) rfl hin rfl (by decide +kernel) rfl rfl (Nat.le_of_ble_eq_true rfl) dX2_init_19 (fun H locs hP hD hS => ?_)
  have hP : va_P (dC, dI) pm_cls [(h0, .inr (2, [.ref q1, .ref q2, .null])), (q1, .inl (cQ, 4, .inr (.inr (.inr (.inr (fun i => [r0, r1, r2, r3][i]?)))))), (r0, .inl (cI, 60, .inl (fun _ => 0))), (r1, .inl (cI, 60, .inl (fun _ => 0))), (r2, .inl (cI, 60, .inl (fun _ => 0))), (r3, .inl (cI, 60, .inl (fun _ => 0))), (q2, .inl (cI, 4, .inl (fun _ => 0)))] H := hP
  have hD : va_D A [(h0, .inr (2, [.ref q1, .ref q2, .null])), (q1, .inl (cQ, 4, .inr (.inr (.inr (.inr (fun i => [r0, r1, r2, r3][i]?)))))), (r0, .inl (cI, 60, .inl (fun _ => 0))), (r1, .inl (cI, 60, .inl (fun _ => 0))), (r2, .inl (cI, 60, .inl (fun _ => 0))), (r3, .inl (cI, 60, .inl (fun _ => 0))), (q2, .inl (cI, 4, .inl (fun _ => 0)))] := hD
  refine lv_aload_n hx hb dX2_init_22 rfl (lv_at hl 0 rfl) ?_
  refine lv_iconst (v := 4) hx hb dX2_init_23 (by decide) ?_
  refine va_newa hx hb (atype := .int) (hts (.arrayClass .int) (by decide +kernel)) (ty := .int) rfl hK hP hD hS hA (N' := 4) (a0 := (4, .inl (fun _ => 0))) (fun _ => rfl) (by decide) rfl (by decide) (by decide) (by decide) dX2_init_24 (fun q3 cB H hK1 hP hD hS => ?_)
  have e9 : cB = cI := cn_u3 (i := 0) (j := 2) rfl rfl hK1
  rw [e9] at hP hD
  clear hK1 e9 cB
  have hP : va_P (dC, dI) pm_cls [(h0, .inr (2, [.ref q1, .ref q2, .null])), (q1, .inl (cQ, 4, .inr (.inr (.inr (.inr (fun i => [r0, r1, r2, r3][i]?)))))), (r0, .inl (cI, 60, .inl (fun _ => 0))), (r1, .inl (cI, 60, .inl (fun _ => 0))), (r2, .inl (cI, 60, .inl (fun _ => 0))), (r3, .inl (cI, 60, .inl (fun _ => 0))), (q2, .inl (cI, 4, .inl (fun _ => 0))), (q3, .inl (cI, 4, .inl (fun _ => 0)))] H := hP
  have hD : va_D A [(h0, .inr (2, [.ref q1, .ref q2, .null])), (q1, .inl (cQ, 4, .inr (.inr (.inr (.inr (fun i => [r0, r1, r2, r3][i]?)))))), (r0, .inl (cI, 60, .inl (fun _ => 0))), (r1, .inl (cI, 60, .inl (fun _ => 0))), (r2, .inl (cI, 60, .inl (fun _ => 0))), (r3, .inl (cI, 60, .inl (fun _ => 0))), (q2, .inl (cI, 4, .inl (fun _ => 0))), (q3, .inl (cI, 4, .inl (fun _ => 0)))] := hD
  refine va_putF (D := (dC, dI)) (ci := 2) (v := .ref q3) (ty := .array .int) (C := RX2) (T := TX2) (N := 3) hx hb hts (by decide +kernel) tyX2 tyX2_ok nmX2 hown hK hP hD hS 0 rfl rfl 2 (by decide) (hts (.fieldLink RX2 20 "WeatherPass$Sheets" "sizes" "[I") (by decide +kernel)) (fun _ h9 => h9) rfl hin rfl (by decide +kernel) rfl rfl (Nat.le_of_ble_eq_true rfl) dX2_init_26 (fun H locs hP hD hS => ?_)
  have hP : va_P (dC, dI) pm_cls [(h0, .inr (2, [.ref q1, .ref q2, .ref q3])), (q1, .inl (cQ, 4, .inr (.inr (.inr (.inr (fun i => [r0, r1, r2, r3][i]?)))))), (r0, .inl (cI, 60, .inl (fun _ => 0))), (r1, .inl (cI, 60, .inl (fun _ => 0))), (r2, .inl (cI, 60, .inl (fun _ => 0))), (r3, .inl (cI, 60, .inl (fun _ => 0))), (q2, .inl (cI, 4, .inl (fun _ => 0))), (q3, .inl (cI, 4, .inl (fun _ => 0)))] H := hP
  have hD : va_D A [(h0, .inr (2, [.ref q1, .ref q2, .ref q3])), (q1, .inl (cQ, 4, .inr (.inr (.inr (.inr (fun i => [r0, r1, r2, r3][i]?)))))), (r0, .inl (cI, 60, .inl (fun _ => 0))), (r1, .inl (cI, 60, .inl (fun _ => 0))), (r2, .inl (cI, 60, .inl (fun _ => 0))), (r3, .inl (cI, 60, .inl (fun _ => 0))), (q2, .inl (cI, 4, .inl (fun _ => 0))), (q3, .inl (cI, 4, .inl (fun _ => 0)))] := hD
  refine lv_aload_n hx hb dX2_init_29 rfl (lv_at hl 0 rfl) ?_
  refine va_get (D := (dC, dI)) (ci := 2) (v := .ref q2) (C := RX2) (T := TX2) (N := 3) hx hb hts (by decide +kernel) hown hK hP 0 rfl rfl 1 (by decide) (hts (.fieldLink RX2 16 "WeatherPass$Sheets" "lanes" "[I") (by decide +kernel)) (fun _ h9 => h9) rfl dX2_init_30 ?_
  refine lv_iconst (v := -1) hx hb dX2_init_33 (by decide) ?_
  have hPc := hP.sub (ws' := [(q2, .inl (cI, 4, .inl (fun _ => 0)))]) [6] rfl
  have hDc := hD.sub (ws' := [(q2, .inl (cI, 4, .inl (fun _ => 0)))]) [6] (by decide) rfl
  have hKc := hK.sub (tys' := [(cI, .int)]) [0] rfl
  have hFc := va_free (wc := [(q2, .inl (cI, 4, .inl (fun _ => 0)))]) hD hS hA [6] rfl
  refine va_callv (va_runS (As := [.ref q2, .int (-1)]) (rest := []) ⟨hx, hb, hml, hown, hts⟩ (cn_fill4 l dC dI cI q2 H.size) (va_cwS 2 hts gX2_init_J7_fill_53178 rfl rfl rfl ⟨by decide +kernel, by decide +kernel, by decide +kernel⟩ ⟨Nat.le_of_ble_eq_true rfl, Nat.le_of_ble_eq_true rfl⟩) ⟨fun a U g mk q => by obtain ⟨q0, q1, qP, qK, qD⟩ := q; exact ⟨q0, q1, qP, va_K.moved (u := U) (U := U.calling g mk a) (Vm.Alike.refl U.vm) qK, qD⟩, fun U hU hW => ⟨rfl, by rw [hU], by rw [hU]; exact hPc, va_K.moved hW.alike hKc, hDc.weaken (fun _ _ _ _ => trivial)⟩⟩ rfl rfl hl.1 rfl (lv_room (Nat.le_of_ble_eq_true rfl)) dX2_init_34 ⟨(by decide), (by decide)⟩) hS (fun q _ h => hFc q h) hFc (fun u t H1 locs ht hvm hw hB hz1 hk1 hS => ?_)
  obtain ⟨hP1, hK1, hD1⟩ := hB
  rw [ht] at hP1
  have hK1 := va_K.moved hvm.symm hK1
  obtain ⟨hP, hD⟩ := va_join (wr := [(h0, .inr (2, [.ref q1, .ref q2, .ref q3])), (q1, .inl (cQ, 4, .inr (.inr (.inr (.inr (fun i => [r0, r1, r2, r3][i]?)))))), (r0, .inl (cI, 60, .inl (fun _ => 0))), (r1, .inl (cI, 60, .inl (fun _ => 0))), (r2, .inl (cI, 60, .inl (fun _ => 0))), (r3, .inl (cI, 60, .inl (fun _ => 0))), (q3, .inl (cI, 4, .inl (fun _ => 0)))]) (w1 := [(q2, .inl (cI, 4, .inl (upd (upd (upd (upd (fun _ => 0) 0 (-1)) 1 (-1)) 2 (-1)) 3 (-1))))]) hP hD [6] [0, 1, 2, 3, 4, 5, 7] rfl rfl (by decide) (by decide) hk1 hFc hP1 hD1
  generalize H1 = H at hP hS ⊢
  have hP : va_P (dC, dI) pm_cls [(h0, .inr (2, [.ref q1, .ref q2, .ref q3])), (q1, .inl (cQ, 4, .inr (.inr (.inr (.inr (fun i => [r0, r1, r2, r3][i]?)))))), (r0, .inl (cI, 60, .inl (fun _ => 0))), (r1, .inl (cI, 60, .inl (fun _ => 0))), (r2, .inl (cI, 60, .inl (fun _ => 0))), (r3, .inl (cI, 60, .inl (fun _ => 0))), (q3, .inl (cI, 4, .inl (fun _ => 0))), (q2, .inl (cI, 4, .inl (upd (upd (upd (upd (fun _ => 0) 0 (-1)) 1 (-1)) 2 (-1)) 3 (-1))))] H := hP
  have hD : va_D A [(h0, .inr (2, [.ref q1, .ref q2, .ref q3])), (q1, .inl (cQ, 4, .inr (.inr (.inr (.inr (fun i => [r0, r1, r2, r3][i]?)))))), (r0, .inl (cI, 60, .inl (fun _ => 0))), (r1, .inl (cI, 60, .inl (fun _ => 0))), (r2, .inl (cI, 60, .inl (fun _ => 0))), (r3, .inl (cI, 60, .inl (fun _ => 0))), (q3, .inl (cI, 4, .inl (fun _ => 0))), (q2, .inl (cI, 4, .inl (upd (upd (upd (upd (fun _ => 0) 0 (-1)) 1 (-1)) 2 (-1)) 3 (-1))))] := hD
  exact W.vret hx hb hr (fun t ht hW => ⟨⟨(), rfl, trivial, q1, q2, q3, r0, r1, r2, r3, by rw [ht]; exact hP, va_K.moved hW.alike hK, hD⟩, hS.F ht⟩) hS.2.2 dX2_init_37
