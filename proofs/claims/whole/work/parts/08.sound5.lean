/-! THE soundness: what the pure machine runs to, the machine runs to. -/
set_option maxHeartbeats 4000000 in
theorem pm_sound (hC : pm_okc) (hT : pm_okt) (hOK : pm_okm) (ha1 : (Cond.native arraycopyName) ∈ pm_gw) (ha2 : (Cond.static arraycopyName) ∈ pm_gw) (ha3 : (Cond.initialized "java/lang/System") ∈ pm_gw) (hma : (Cond.static Lib.Math.max.name) ∈ pm_gw ∧ (Cond.initialized "java/lang/Math") ∈ pm_gw ∧ (Cond.code Lib.Math.max.name Lib.Math.max.code 2 (some .int)) ∈ pm_gw ∧ (Cond.static Lib.Math.min.name) ∈ pm_gw ∧ (Cond.code Lib.Math.min.name Lib.Math.min.code 2 (some .int)) ∈ pm_gw) (l : Launch) (dC : Nat → ClassId) (dI : Nat → Nat → Nat) (ad : Nat → Nat) (cI cQ : ClassId) :
    ∀ (n : Nat) (X : pm_X) (y : Nat) (cf : pm_C) (res : pm_O), pm_ex n X y cf = some res →
    ∀ {p : Program} {e : Env} {R : Room} {s : State} {m : MethodId} {args : Array Value} {below : List Frame} {meth : Method} {c : Code} {H0 : Heap} {cells slots : Nat} {Q : State → Prop} {A : Nat → Prop},
      (∀ q, H0.size ≤ q → A q) → pm_E p s m args c H0 A dC dI ad cI cQ X y R cells slots → pm_Fin p l e R s m args below meth c cells slots Q H0 A dC dI ad cI cQ y res →
      pm_G p l e R s m args below meth c cells slots Q H0 A dC dI ad cI cQ (pm_ml y) cf := by
  intro n
  induction n with
  | zero =>
    intro X y cf res h
    cases h
  | succ n ih =>
    intro X y cf res h p e R s m args below meth c H0 cells slots Q A hA hE hfin
    obtain ⟨pc, ls2, st, M⟩ := cf
    unfold pm_ex at h
    cases hf : pm_find (pm_rwf y) pc with
    | none =>
      have h1 : pm_next X y (pc, ls2, st, M) = pm_bad := by
        unfold pm_next
        rw [hf]
      rw [h1] at h
      cases h
    | some r =>
      have hnx : pm_next X y (pc, ls2, st, M) = pm_stp X (pm_rb y) pc r.1 r.2.2 ls2 st M := by
        unfold pm_next
        rw [hf]
      have hrow := hT y (pc, r) (pm_find_mem _ _ _ hf)
      unfold pm_okr at hrow
      simp only [Bool.and_eq_true, decide_eq_true_eq] at hrow
      obtain ⟨⟨hdec, hlen0⟩, hok⟩ := hrow
      have hlen : ∀ k, pm_ln r.1 = some k → r.2.1 = k := by
        intro k hk
        rw [hk] at hlen0
        simpa using hlen0
      rw [hnx] at h
      split at h
      · rename_i c2 h1
        exact pm_stp_ok hC ha1 ha2 ha3 hma hE hdec hlen hok h1 (ih X y c2 res h hA hE hfin)
      · rename_i r1 h1
        cases h
        exact pm_ret_ok hdec hlen hok h1 hfin
      · rename_i q h1
        split at h
        · rename_i hal
          split at h
          · rename_i r2 h2
            refine pm_call_ok (res := r2) hOK hA hE hdec hlen hok h1 ?_ (ih X y _ res h hA hE hfin)
            intro sz hy2
            obtain ⟨f1, f2, f3, f4, f5, f6, f7⟩ := hOK q.1 hy2
            refine Met.ofW (cc := pm_by q.1) (maxL := pm_ml q.1) (ret := pm_ret q.1) f6 rfl ?_
            intro p' e' s' m' args' below' meth' c' s₁ B hml' hv
            obtain ⟨rfl, hsz, hP, hK, hD0, hnw⟩ := hv
            have hx' := B.exec
            have hb' := B.bytes
            have hr' := B.returns
            have hts' := atoms_spec (ws := pm_ws q.1) B.pre
            have hown' : s'.vm.findClass (pm_nm q.1).cls = some m'.cls := findClass_of_methodNamed B.named
            have hlocks' := B.notSynchronized
            subst hsz
            have hD := hD0.self (sz := s'.heap.size)
            generalize hAe : va_A (pm_w ad cI cQ q.2.2.2.2.2) s'.heap.size = A' at hD ⊢
            have hA' : ∀ z : Nat, s'.heap.size ≤ z → A' z := fun z hz => by rw [← hAe]; exact Or.inr hz
            have hl := lv_entry (q.2.1.map (pm_to ad)) (n := pm_ml q.1) (by rw [pm_lgsl]; exact hal)
            rw [lg_entry_eq]
            have hl2 : lv_has ((lg_sl (q.2.1.map (pm_to ad)) ++ List.replicate (pm_ml q.1 - (lg_sl (q.2.1.map (pm_to ad))).length) Slot.unset).toArray) (pm_ml q.1) (pm_loc ad 0 (pm_ent q.2.1 (pm_ml q.1))) :=
              ⟨hl.1, hl.2.1, fun z hz => hl.2.2 z (pm_loc_args _ q.2.1 0 hz)⟩
            refine ih pm_X0 q.1 (0, pm_ent q.2.1 (pm_ml q.1), [], q.2.2.2.2.2) r2 h2 (A := A') hA' ⟨hx', hb', hml', hown', fun w hw => hts' w (List.mem_cons_of_mem _ hw), hnw, hK, Or.inl rfl, Nat.le_refl _, Nat.le_refl _, Nat.le_refl _, Nat.le_refl _⟩ ?_ s'.heap [] _ hP hD va_S.rf hl2
            intro H locs ls pc9 hP9 hD9 hS9
            refine ⟨fun v hv hret hdg => ?_, fun v hv hret hdg => ?_, fun hv hret hdg => ?_⟩
            · rcases hret with hret | ⟨hret, hv01⟩
              · exact W.zret (ty := .int) hx' hb' (hr'.trans hret) rfl (fun t ht hW => ⟨by rw [hv]; rfl, by rw [ht]; exact hP9, hD9, hS9.F ht⟩) hS9.2.2 hdg
              · exact W.zret (ty := .boolean) hx' hb' (hr'.trans hret) (by rcases hv01 with h | h <;> subst h <;> rfl) (fun t ht hW => ⟨by rw [hv]; rfl, by rw [ht]; exact hP9, hD9, hS9.F ht⟩) hS9.2.2 hdg
            · exact W.lret hx' hb' (hr'.trans hret) (fun t ht hW => ⟨by rw [hv]; rfl, by rw [ht]; exact hP9, hD9, hS9.F ht⟩) hS9.2.2 hdg
            · exact W.vret hx' hb' (hr'.trans hret) (fun t ht hW => ⟨by rw [hv]; rfl, by rw [ht]; exact hP9, hD9, hS9.F ht⟩) hS9.2.2 hdg
          · cases h
        · cases h
      · cases h
