/-! One step, by instruction. -/
section PMT
variable {p : Program} {l : Launch} {e : Env} {R : Room} {s : State} {m : MethodId} {args : Array Value} {below : List Frame} {meth : Method} {c : Code} {H0 : Heap} {cells slots : Nat} {Q : State → Prop} {dC : Nat → ClassId} {dI : Nat → Nat → Nat} {A : Nat → Prop} {ad : Nat → Nat} {cI cQ : ClassId} {X : pm_X} {y : Nat}
set_option maxHeartbeats 4000000 in
theorem pm_stp_ok (hC : pm_okc) (ha1 : (Cond.native arraycopyName) ∈ pm_gw) (ha2 : (Cond.static arraycopyName) ∈ pm_gw) (ha3 : (Cond.initialized "java/lang/System") ∈ pm_gw) (hma : (Cond.static Lib.Math.max.name) ∈ pm_gw ∧ (Cond.initialized "java/lang/Math") ∈ pm_gw ∧ (Cond.code Lib.Math.max.name Lib.Math.max.code 2 (some .int)) ∈ pm_gw ∧ (Cond.static Lib.Math.min.name) ∈ pm_gw ∧ (Cond.code Lib.Math.min.name Lib.Math.min.code 2 (some .int)) ∈ pm_gw) (hE : pm_E p s m args c H0 A dC dI ad cI cQ X y R cells slots) {pc len : Nat} {i : Instr} {ax : List Nat} {ls2 : pm_L} {st : List pm_V} {M : pm_M} {cf2 : pm_C}
    (hdec : decode (pm_by y) pc = .ok (i, len)) (hlen : ∀ n, pm_ln i = some n → len = n) (hok : pm_okx y pc i ax = true) (hh : pm_stp X (pm_rb y) pc i ax ls2 st M = .inl cf2)
    (kk : pm_G p l e R s m args below meth c cells slots Q H0 A dC dI ad cI cQ (pm_ml y) cf2) : pm_G p l e R s m args below meth c cells slots Q H0 A dC dI ad cI cQ (pm_ml y) (pc, ls2, st, M) := by
  obtain ⟨hx, hb, hml, hown, hg, hn, hK, hX, hRm⟩ := id hE
  unfold pm_stp at hh
  split at hh
  · have q := hlen 1 rfl
    subst q
    exact pm_ldi_ok hE hh (fun H locs ls x h1 h2 => lv_iload_n hx hb hdec rfl h1 h2) kk
  · have q := hlen 2 rfl
    subst q
    exact pm_ldi_ok hE hh (fun H locs ls x h1 h2 => lv_iload hx hb hdec h1 h2) kk
  · have q := hlen 1 rfl
    subst q
    exact pm_lda_ok hE hh (fun H locs ls x h1 h2 => lv_aload_n hx hb hdec rfl h1 h2) kk
  · have q := hlen 2 rfl
    subst q
    exact pm_lda_ok hE hh (fun H locs ls x h1 h2 => lv_aload hx hb hdec h1 h2) kk
  · have q := hlen 1 rfl
    subst q
    exact pm_ldl_ok hE hh (fun H locs ls x h1 h2 => lv_lload_n hx hb hdec rfl h1 h2) kk
  · have q := hlen 2 rfl
    subst q
    exact pm_ldl_ok hE hh (fun H locs ls x h1 h2 => lv_lload hx hb hdec h1 h2) kk
  · have q := hlen 1 rfl
    subst q
    unfold pm_sti at hh
    split at hh
    · cases hh
      intro H locs ls hP hD hS hl
      exact lv_istore_n hx hb hdec rfl hl (by simpa [pm_okx] using hok) rfl (fun ls' hl' => kk H locs ls' hP hD hS (pm_lv_set hl'))
    · cases hh
  · have q := hlen 2 rfl
    subst q
    unfold pm_sti at hh
    split at hh
    · cases hh
      intro H locs ls hP hD hS hl
      exact lv_istore hx hb hdec hl (by simpa [pm_okx] using hok) rfl (fun ls' hl' => kk H locs ls' hP hD hS (pm_lv_set hl'))
    · cases hh
  · have q := hlen 2 rfl
    subst q
    unfold pm_stl at hh
    split at hh
    · cases hh
      intro H locs ls hP hD hS hl
      exact lv_lstore hx hb hdec hl (by simpa [pm_okx] using hok) rfl (fun ls' hl' => kk H locs ls' hP hD hS (pm_lv_setL hl'))
    · cases hh
  · have q := hlen 3 rfl
    subst q
    split at hh
    · rename_i x hgx
      cases hh
      intro H locs ls hP hD hS hl
      obtain ⟨j, hj⟩ := List.getElem?_of_mem (pm_loc_get (ad := ad) hgx)
      exact lv_iinc hx hb hdec hl hj rfl (by simpa [pm_okx] using hok) rfl (fun ls' hl' => kk H locs ls' hP hD hS (pm_lv_set (v := .inl _) hl'))
    · cases hh
  · have q := hlen 1 rfl
    subst q
    cases hh
    intro H locs ls hP hD hS hl
    exact lv_iconst hx hb hdec rfl (kk H locs ls hP hD hS hl)
  · have q := hlen 2 rfl
    subst q
    cases hh
    intro H locs ls hP hD hS hl
    exact lv_bipush hx hb hdec rfl (kk H locs ls hP hD hS hl)
  · have q := hlen 3 rfl
    subst q
    cases hh
    intro H locs ls hP hD hS hl
    exact lv_sipush hx hb hdec rfl (kk H locs ls hP hD hS hl)
  · have q := hlen 1 rfl
    subst q
    cases hh
    intro H locs ls hP hD hS hl
    exact lv_lconst hx hb hdec rfl (kk H locs ls hP hD hS hl)
  · have q := hlen 3 rfl
    subst q
    split at hh
    · cases hh
      intro H locs ls hP hD hS hl
      simp only [pm_okx, decide_eq_true_eq] at hok
      exact lv_ldcw hx hb hown (pm_gw_at hg hok rfl) hdec (kk H locs ls hP hD hS hl)
    · cases hh
  · have q := hlen 3 rfl
    subst q
    split at hh
    · cases hh
      intro H locs ls hP hD hS hl
      simp only [pm_okx, decide_eq_true_eq] at hok
      exact lv_ldc2 hx hb hown (pm_gw_at hg hok rfl) hdec (kk H locs ls hP hD hS hl)
    · cases hh
  · have q := hlen 1 rfl
    subst q
    split at hh
    · cases hh
      intro H locs ls hP hD hS hl
      exact lv_dup hx hb hdec rfl (kk H locs ls hP hD hS hl)
    · cases hh
      intro H locs ls hP hD hS hl
      exact lv_dup hx hb hdec rfl (kk H locs ls hP hD hS hl)
    · cases hh
  · have q := hlen 1 rfl
    subst q
    split at hh
    · cases hh
      intro H locs ls hP hD hS hl
      exact lv_dup2_11 hx hb hdec rfl rfl (kk H locs ls hP hD hS hl)
    · cases hh
  · have q := hlen 1 rfl
    subst q
    exact pm_bin_ok hh (fun H locs ls a b r h => lv_iadd hx hb hdec h) kk
  · have q := hlen 1 rfl
    subst q
    exact pm_bin_ok hh (fun H locs ls a b r h => lv_isub hx hb hdec h) kk
  · have q := hlen 1 rfl
    subst q
    exact pm_bin_ok hh (fun H locs ls a b r h => lv_imul hx hb hdec h) kk
  · have q := hlen 1 rfl
    subst q
    exact pm_bin_ok hh (fun H locs ls a b r h => lv_iand hx hb hdec h) kk
  · have q := hlen 1 rfl
    subst q
    exact pm_bin_ok hh (fun H locs ls a b r h => lv_ior hx hb hdec h) kk
  · have q := hlen 1 rfl
    subst q
    exact pm_bin_ok hh (fun H locs ls a b r h => lv_ishl hx hb hdec h) kk
  · have q := hlen 1 rfl
    subst q
    exact pm_bin_ok hh (fun H locs ls a b r h => lv_ishr hx hb hdec h) kk
  · have q := hlen 1 rfl
    subst q
    exact pm_bin_ok hh (fun H locs ls a b r h => lv_iushr hx hb hdec rfl h) kk
  · have q := hlen 1 rfl
    subst q
    split at hh
    · split at hh
      · cases hh
      · rename_i h0
        cases hh
        intro H locs ls hP hD hS hl
        exact lv_irem hx hb hdec h0 (kk H locs ls hP hD hS hl)
    · cases hh
  · have q := hlen 1 rfl
    subst q
    exact pm_un_ok hh (fun H locs ls a r h => lv_i2l hx hb hdec rfl h) kk
  · have q := hlen 1 rfl
    subst q
    exact pm_un_ok hh (fun H locs ls a r h => lv_i2b hx hb hdec rfl h) kk
  · have q := hlen 1 rfl
    subst q
    exact pm_un_ok hh (fun H locs ls a r h => lv_i2s hx hb hdec rfl h) kk
  · have q := hlen 1 rfl
    subst q
    split at hh
    · cases hh
      intro H locs ls hP hD hS hl
      exact W.lcmp hx hb hdec (kk H locs ls hP hD hS hl)
    · cases hh
  · have q := hlen 1 rfl
    subst q
    split at hh
    · split at hh
      · cases hh
      · rename_i h0
        cases hh
        intro H locs ls hP hD hS hl
        exact lv_ldiv hx hb hdec h0 (kk H locs ls hP hD hS hl)
    · cases hh
  · have q := hlen 1 rfl
    subst q
    split at hh
    · split at hh
      · cases hh
      · rename_i h0
        cases hh
        intro H locs ls hP hD hS hl
        exact lv_lrem hx hb hdec h0 (kk H locs ls hP hD hS hl)
    · cases hh
  · have q := hlen 1 rfl
    subst q
    split at hh
    · cases hh
      intro H locs ls hP hD hS hl
      exact lv_lshl hx hb hdec rfl (kk H locs ls hP hD hS hl)
    · cases hh
  · have q := hlen 3 rfl
    subst q
    exact pm_ifc_ok hh (fun H locs ls a r k1 k2 => lv_if_eq hx hb hdec (pm_jt_eq (by simpa [pm_okx] using hok)) (fun h => k1 (by simpa using h)) (fun h => k2 (by simpa using h))) kk
  · have q := hlen 3 rfl
    subst q
    exact pm_ifc_ok hh (fun H locs ls a r k1 k2 => lv_if_ne hx hb hdec (pm_jt_eq (by simpa [pm_okx] using hok)) (fun h => k1 (by simpa using h)) (fun h => k2 (by simpa using h))) kk
  · have q := hlen 3 rfl
    subst q
    exact pm_ifc_ok hh (fun H locs ls a r k1 k2 => lv_if_lt hx hb hdec (pm_jt_eq (by simpa [pm_okx] using hok)) (fun h => k1 (decide_eq_true h)) (fun h => k2 (decide_eq_false h))) kk
  · have q := hlen 3 rfl
    subst q
    exact pm_ifc_ok hh (fun H locs ls a r k1 k2 => lv_if_ge hx hb hdec (pm_jt_eq (by simpa [pm_okx] using hok)) (fun h => k1 (decide_eq_true h)) (fun h => k2 (decide_eq_false h))) kk
  · have q := hlen 3 rfl
    subst q
    exact pm_ifc_ok hh (fun H locs ls a r k1 k2 => lv_if_gt hx hb hdec (pm_jt_eq (by simpa [pm_okx] using hok)) (fun h => k1 (decide_eq_true h)) (fun h => k2 (decide_eq_false h))) kk
  · have q := hlen 3 rfl
    subst q
    exact pm_ifc_ok hh (fun H locs ls a r k1 k2 => lv_if_le hx hb hdec (pm_jt_eq (by simpa [pm_okx] using hok)) (fun h => k1 (decide_eq_true h)) (fun h => k2 (decide_eq_false h))) kk
  · have q := hlen 3 rfl
    subst q
    exact pm_icm_ok hh (fun H locs ls a b r k1 k2 => lv_icmp_eq hx hb hdec (pm_jt_eq (by simpa [pm_okx] using hok)) (fun h => k1 (by simpa using h)) (fun h => k2 (by simpa using h))) kk
  · have q := hlen 3 rfl
    subst q
    exact pm_icm_ok hh (fun H locs ls a b r k1 k2 => lv_icmp_ne hx hb hdec (pm_jt_eq (by simpa [pm_okx] using hok)) (fun h => k1 (by simpa using h)) (fun h => k2 (by simpa using h))) kk
  · have q := hlen 3 rfl
    subst q
    exact pm_icm_ok hh (fun H locs ls a b r k1 k2 => lv_icmp_lt hx hb hdec (pm_jt_eq (by simpa [pm_okx] using hok)) (fun h => k1 (decide_eq_true h)) (fun h => k2 (decide_eq_false h))) kk
  · have q := hlen 3 rfl
    subst q
    exact pm_icm_ok hh (fun H locs ls a b r k1 k2 => lv_icmp_ge hx hb hdec (pm_jt_eq (by simpa [pm_okx] using hok)) (fun h => k1 (decide_eq_true h)) (fun h => k2 (decide_eq_false h))) kk
  · have q := hlen 3 rfl
    subst q
    exact pm_icm_ok hh (fun H locs ls a b r k1 k2 => lv_icmp_gt hx hb hdec (pm_jt_eq (by simpa [pm_okx] using hok)) (fun h => k1 (decide_eq_true h)) (fun h => k2 (decide_eq_false h))) kk
  · have q := hlen 3 rfl
    subst q
    exact pm_icm_ok hh (fun H locs ls a b r k1 k2 => lv_icmp_le hx hb hdec (pm_jt_eq (by simpa [pm_okx] using hok)) (fun h => k1 (decide_eq_true h)) (fun h => k2 (decide_eq_false h))) kk
  · have q := hlen 3 rfl
    subst q
    cases hh
    intro H locs ls hP hD hS hl
    exact lv_goto hx hb hdec (pm_jt_eq (by simpa [pm_okx] using hok)) (kk H locs ls hP hD hS hl)
  · simp only [pm_okx, Bool.and_eq_true] at hok
    split at hh
    · split at hh
      · rename_i h0
        cases hh
        intro H locs ls hP hD hS hl
        exact lv_tableOut hx hb hdec h0 (pm_jt_eq hok.1) (kk H locs ls hP hD hS hl)
      · rename_i h0
        split at hh
        · rename_i o ho
          cases hh
          intro H locs ls hP hD hS hl
          have ho2 := ho
          rw [← Array.getElem?_toList] at ho2
          have hmem := List.mem_of_getElem? ho2
          exact lv_tableIn hx hb hdec (fun q => h0 (Or.inl q)) (fun q => h0 (Or.inr q)) ho (pm_jt_eq (List.all_eq_true.mp hok.2 o hmem)) (kk H locs ls hP hD hS hl)
        · cases hh
    · cases hh
  · simp only [pm_okx, Bool.and_eq_true] at hok
    split at hh
    · cases hh
      intro H locs ls hP hD hS hl
      exact lv_lookup hx hb hdec hok.2 rfl (pm_jt_eq (pm_lk_off _ hok.1.1 hok.1.2)) (kk H locs ls hP hD hS hl)
    · cases hh
  · have q := hlen 3 rfl
    subst q
    split at hh
    · split at hh
      · rename_i hv
        cases hh
        exact pm_get_ok hC hE hdec (by simpa [pm_okx] using hok) hv kk
      · cases hh
    · cases hh
  · have q := hlen 3 rfl
    subst q
    split at hh
    · split at hh
      · rename_i hv
        cases hh
        simp only [pm_okx, Bool.and_eq_true] at hok
        exact pm_put_ok hC hE hdec hok.1 hok.2 hv kk
      · cases hh
    · cases hh
  · have q := hlen 1 rfl
    subst q
    split at hh
    · split at hh
      · rename_i hv
        cases hh
        exact pm_ald_ok hE hdec hv kk
      · cases hh
    · cases hh
  · have q := hlen 1 rfl
    subst q
    split at hh
    · split at hh
      · rename_i hv
        cases hh
        exact pm_ast_ok hE hdec hv kk
      · cases hh
    · cases hh
  · have q := hlen 1 rfl
    subst q
    split at hh
    · split at hh
      · rename_i hv
        cases hh
        exact pm_aald_ok hE hdec hv kk
      · cases hh
    · cases hh
  · have q := hlen 1 rfl
    subst q
    split at hh
    · split at hh
      · rename_i hv
        cases hh
        exact pm_aln_ok hE hdec hv kk
      · cases hh
    · cases hh
  · split at hh
    · split at hh
      · split at hh
        · cases hh
        · cases hh
      · cases hh
    · cases hh
  · have q := hlen 3 rfl
    subst q
    split at hh
    · split at hh
      · cases hh
      · cases hh
    · split at hh
      · split at hh
        · rename_i hr4
          split at hh
          · rename_i hv
            cases hh
            simp only [pm_okx, Bool.and_eq_true, decide_eq_true_eq] at hok
            exact pm_acp_ok hE hdec hok.1 hok.2 hr4 ha1 ha2 ha3 hv kk
          · cases hh
        · cases hh
      · cases hh
    · split at hh
      · split at hh
        · rename_i hr4
          cases hh
          have hok2 := hok
          unfold pm_okx at hok2
          rw [Bool.and_eq_true, decide_eq_true_eq] at hok2
          exact pm_mm_ok hE hdec hok2.1 hok2.2 hr4 hma kk
        · cases hh
      · cases hh
    · cases hh
  · split at hh
    · split at hh
      · cases hh
      · cases hh
    · cases hh
  · split at hh
    · cases hh
    · cases hh
  · split at hh
    · cases hh
    · cases hh
  · cases hh
end PMT
