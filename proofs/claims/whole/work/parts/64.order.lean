/-! The cells in the order of the pure machine, and the first numbers. -/
def cn_F4 : Nat → Int32 := upd (upd (upd (upd (fun _ => 0) 0 (-1)) 1 (-1)) 2 (-1)) 3 (-1)
def cn_F9 : Nat → Int32 := upd (upd (upd (upd (fun _ => 0) 0 (-9)) 1 (-9)) 2 (-9)) 3 (-9)
def cn_M : pm_M := fun k => match k with
  | 11 => cn_F4
  | 24 => cn_F9
  | _ => fun _ => 0
theorem cn_iv : iv cn_M := by
  refine iv_init rfl rfl rfl (fun k hk => ?_) rfl rfl rfl rfl rfl rfl (fun k hk => ?_)
  · match k, hk with
    | 0, _ => rfl
    | 1, _ => rfl
    | 2, _ => rfl
    | 3, _ => rfl
    | k + 4, h => omega
  · match k, hk with
    | 0, _ => rfl
    | 1, _ => rfl
    | 2, _ => rfl
    | 3, _ => rfl
    | k + 4, h => omega
theorem cn_outer (r0 r1 r2 r3 : Nat) (ad : Nat → Nat) (h0 : ad 7 = r0) (h1 : ad 8 = r1) (h2 : ad 9 = r2) (h3 : ad 10 = r3) : (fun i : Nat => [r0, r1, r2, r3][i]?) = (fun i => ([7, 8, 9, 10][i]?).map ad) := by
  subst h0 h1 h2 h3
  funext i
  match i with
  | 0 => rfl
  | 1 => rfl
  | 2 => rfl
  | 3 => rfl
  | n + 4 => rfl
theorem cn_cons {α : Type} {a b : α} {l k : List α} (h : a = b) (h2 : l = k) : a :: l = b :: k := by
  subst h h2
  rfl
def cn_ad (h0 pS pL pW pR pT aO a0 a1 a2 a3 aL aS l1 l2 l3 l4 l5 r1 r2 r3 w1 w2 pM m1 m2 m3 m4 m5 m6 m7 m8 m9 m10 m11 m12 m13 m14 m15 m16 m17 m18 b : Nat) : Nat → Nat := fun k => ([h0, pS, pL, pW, pR, pT, aO, a0, a1, a2, a3, aL, aS, l1, l2, l3, l4, l5, r1, r2, r3, w1, w2, pM, m1, m2, m3, m4, m5, m6, m7, m8, m9, m10, m11, m12, m13, m14, m15, m16, m17, m18][k]?).getD b
set_option maxHeartbeats 4000000 in
set_option maxRecDepth 100000 in
theorem cn_w (h0 pS pL pW pR pT aO a0 a1 a2 a3 aL aS l1 l2 l3 l4 l5 r1 r2 r3 w1 w2 pM m1 m2 m3 m4 m5 m6 m7 m8 m9 m10 m11 m12 m13 m14 m15 m16 m17 m18 b : Nat) (cI cQ : ClassId) : pm_w (cn_ad h0 pS pL pW pR pT aO a0 a1 a2 a3 aL aS l1 l2 l3 l4 l5 r1 r2 r3 w1 w2 pM m1 m2 m3 m4 m5 m6 m7 m8 m9 m10 m11 m12 m13 m14 m15 m16 m17 m18 b) cI cQ cn_M = [(h0, .inr (4, [.ref pS, .ref pL, .ref pW, .ref pR, .ref pT, .int 0, .int 0])), (pS, .inr (2, [.ref aO, .ref aL, .ref aS])), (pL, .inr (0, [.int 0, .int 0, .ref l1, .ref l2, .ref l3, .ref l4, .ref l5])), (pW, .inr (3, [.ref w1, .ref w2, .int 0, .int 0, .int 0, .int 0])), (pR, .inr (1, [.int 0, .ref r1, .ref r2, .ref r3])), (pT, .inl (cI, 60, .inl (fun _ => 0))), (aO, .inl (cQ, 4, .inr (.inr (.inr (.inr (fun i => ([7, 8, 9, 10][i]?).map (cn_ad h0 pS pL pW pR pT aO a0 a1 a2 a3 aL aS l1 l2 l3 l4 l5 r1 r2 r3 w1 w2 pM m1 m2 m3 m4 m5 m6 m7 m8 m9 m10 m11 m12 m13 m14 m15 m16 m17 m18 b))))))), (a0, .inl (cI, 60, .inl (fun _ => 0))), (a1, .inl (cI, 60, .inl (fun _ => 0))), (a2, .inl (cI, 60, .inl (fun _ => 0))), (a3, .inl (cI, 60, .inl (fun _ => 0))), (aL, .inl (cI, 4, .inl (upd (upd (upd (upd (fun _ => 0) 0 (-1)) 1 (-1)) 2 (-1)) 3 (-1)))), (aS, .inl (cI, 4, .inl (fun _ => 0))), (l1, .inl (cI, 6, .inl (fun _ => 0))), (l2, .inl (cI, 6, .inl (fun _ => 0))), (l3, .inl (cI, 5, .inl (fun _ => 0))), (l4, .inl (cI, 5, .inl (fun _ => 0))), (l5, .inl (cI, 8, .inl (fun _ => 0))), (r1, .inl (cI, 8, .inl (fun _ => 0))), (r2, .inl (cI, 8, .inl (fun _ => 0))), (r3, .inl (cI, 8, .inl (fun _ => 0))), (w1, .inl (cI, 6, .inl (fun _ => 0))), (w2, .inl (cI, 6, .inl (fun _ => 0))), (pM, .inr (5, [.int 0, .int 0, .ref m1, .ref m2, .ref m3, .int 0, .int 0, .ref m4, .ref m5, .ref m6, .ref m7, .ref m8, .int 0, .int 0, .int 0, .ref m9, .ref m10, .ref m11, .ref m12, .ref m13, .ref m14, .ref m15, .int 0, .int 0, .int 0, .int 0, .int 0, .ref m16, .ref m17, .ref m18])), (m1, .inl (cI, 4, .inl (upd (upd (upd (upd (fun _ => 0) 0 (-9)) 1 (-9)) 2 (-9)) 3 (-9)))), (m2, .inl (cI, 4, .inl (fun _ => 0))), (m3, .inl (cI, 240, .inl (fun _ => 0))), (m4, .inl (cI, 6, .inl (fun _ => 0))), (m5, .inl (cI, 6, .inl (fun _ => 0))), (m6, .inl (cI, 5, .inl (fun _ => 0))), (m7, .inl (cI, 5, .inl (fun _ => 0))), (m8, .inl (cI, 8, .inl (fun _ => 0))), (m9, .inl (cI, 6, .inl (fun _ => 0))), (m10, .inl (cI, 6, .inl (fun _ => 0))), (m11, .inl (cI, 5, .inl (fun _ => 0))), (m12, .inl (cI, 5, .inl (fun _ => 0))), (m13, .inl (cI, 8, .inl (fun _ => 0))), (m14, .inl (cI, 6, .inl (fun _ => 0))), (m15, .inl (cI, 6, .inl (fun _ => 0))), (m16, .inl (cI, 8, .inl (fun _ => 0))), (m17, .inl (cI, 8, .inl (fun _ => 0))), (m18, .inl (cI, 8, .inl (fun _ => 0)))] := by
  unfold pm_w pm_shl
  repeat' (refine cn_cons ?_ ?_)
  all_goals rfl
