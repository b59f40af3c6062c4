/-! The pure machine: values, memory as numbers by cell and slot, one step of an instruction. -/
abbrev pm_V : Type := Int32 ⊕ (Nat ⊕ Int64)
abbrev pm_i (x : Int32) : pm_V := .inl x
abbrev pm_r (k : Nat) : pm_V := .inr (.inl k)
abbrev pm_l (x : Int64) : pm_V := .inr (.inr x)
abbrev pm_M : Type := Nat → Nat → Int32
abbrev pm_L : Type := List (Option pm_V)
abbrev pm_S : Type := Nat ⊕ (List Nat ⊕ (Nat × List (Option Nat)))
abbrev pm_C : Type := Nat × pm_L × List pm_V × pm_M
abbrev pm_O : Type := Option pm_V × pm_M
abbrev pm_A : Type := pm_C ⊕ (pm_O ⊕ ((Nat × List pm_V × pm_C) ⊕ Unit))
abbrev pm_X : Type := Nat × (Nat → Int32)
def pm_up (M : pm_M) (k j : Nat) (v : Int32) : pm_M := fun a b => if a = k ∧ b = j then v else M a b
def pm_cp (M : pm_M) (k0 sp k1 dp n : Nat) : pm_M := fun a => if a = k1 then va_cpy (M k0) (M k1) sp dp n else M a
def pm_bad : pm_A := .inr (.inr (.inr ()))
/-- the shapes of the cells -/
def pm_shl : List pm_S := [
  .inr (.inr (4, [some 1, some 2, some 3, some 4, some 5, none, none])),
  .inr (.inr (2, [some 6, some 11, some 12])),
  .inr (.inr (0, [none, none, some 13, some 14, some 15, some 16, some 17])),
  .inr (.inr (3, [some 21, some 22, none, none, none, none])),
  .inr (.inr (1, [none, some 18, some 19, some 20])),
  .inl 60, .inr (.inl [7, 8, 9, 10]), .inl 60, .inl 60, .inl 60, .inl 60, .inl 4, .inl 4,
  .inl 6, .inl 6, .inl 5, .inl 5, .inl 8, .inl 8, .inl 8, .inl 8, .inl 6, .inl 6,
  .inr (.inr (5, [none, none, some 24, some 25, some 26, none, none, some 27, some 28, some 29, some 30, some 31, none, none, none, some 32, some 33, some 34, some 35, some 36, some 37, some 38, none, none, none, none, none, some 39, some 40, some 41])),
  .inl 4, .inl 4, .inl 240, .inl 6, .inl 6, .inl 5, .inl 5, .inl 8, .inl 6, .inl 6, .inl 5, .inl 5, .inl 8, .inl 6, .inl 6, .inl 8, .inl 8, .inl 8]
def pm_sh (k : Nat) : Option pm_S := pm_shl[k]?
def pm_in (i : Int32) (n : Nat) : Bool := decide (0 ≤ i.toInt) && decide (i.toInt < n)
def pm_ald (X : pm_X) (k : Nat) (i : Int32) (M : pm_M) : Option Int32 :=
  if k = 99 then (if pm_in i (X.1 - 1) = true then some (X.2 i.toNatClampNeg) else none)
  else match pm_sh k with
    | some (.inl n) => if pm_in i n = true then some (M k i.toNatClampNeg) else none
    | _ => none
def pm_ast (k : Nat) (i v : Int32) (M : pm_M) : Option pm_M := match pm_sh k with
  | some (.inl n) => if pm_in i n = true then some (pm_up M k i.toNatClampNeg v) else none
  | _ => none
def pm_aald (k : Nat) (i : Int32) : Option Nat := match pm_sh k with
  | some (.inr (.inl ks)) => if pm_in i ks.length = true then ks[i.toNatClampNeg]? else none
  | _ => none
def pm_aln (X : pm_X) (k : Nat) : Option Int32 :=
  if k = 99 then (if X.1 = 0 then none else some (Int32.ofNat (X.1 - 1)))
  else match pm_sh k with
    | some (.inl n) => some (Int32.ofNat n)
    | _ => none
def pm_gf (ci j k : Nat) (M : pm_M) : Option pm_V := match pm_sh k with
  | some (.inr (.inr (c, fl))) => if c = ci then (match fl[j]? with
    | some (some q) => some (pm_r q)
    | some none => some (pm_i (M k j))
    | none => none) else none
  | _ => none
def pm_pf (ci j k : Nat) (v : Int32) (M : pm_M) : Option pm_M := match pm_sh k with
  | some (.inr (.inr (c, fl))) => if c = ci then (match fl[j]? with
    | some none => some (pm_up M k j v)
    | _ => none) else none
  | _ => none
def pm_acp (k0 : Nat) (sp : Int32) (k1 : Nat) (dp n : Int32) (M : pm_M) : Option pm_M := match pm_sh k0, pm_sh k1 with
  | some (.inl n0), some (.inl n1) => if ¬ sp < 0 ∧ ¬ dp < 0 ∧ ¬ n < 0 ∧ sp.toNatClampNeg + n.toNatClampNeg ≤ n0 ∧ dp.toNatClampNeg + n.toNatClampNeg ≤ n1 then some (pm_cp M k0 sp.toNatClampNeg k1 dp.toNatClampNeg n.toNatClampNeg) else none
  | _, _ => none
/-- the class of the object in a cell -/
def pm_cl (k : Nat) : Option Nat := match pm_sh k with
  | some (.inr (.inr (c, _))) => some c
  | _ => none
def pm_nlz (o : Option pm_V) : Option pm_V := match o with
  | some (.inl x) => some (.inl x)
  | some (.inr (.inl k)) => some (.inr (.inl k))
  | _ => none
def pm_set : pm_L → Nat → pm_V → pm_L
  | [], _, _ => []
  | _ :: t, 0, v => some v :: t
  | o :: t, 1, v => pm_nlz o :: (match t with
    | [] => []
    | _ :: t2 => some v :: t2)
  | o :: t, k + 2, v => o :: pm_set t (k + 1) v
def pm_setL : pm_L → Nat → Int64 → pm_L
  | [], _, _ => []
  | _ :: t, 0, v => some (.inr (.inr v)) :: (match t with
    | [] => []
    | _ :: t2 => none :: t2)
  | o :: t, 1, v => pm_nlz o :: (match t with
    | [] => []
    | _ :: t2 => some (.inr (.inr v)) :: (match t2 with
      | [] => []
      | _ :: t3 => none :: t3))
  | o :: t, k + 2, v => o :: pm_setL t (k + 1) v
def pm_get (ls : pm_L) (k : Nat) : Option pm_V := match ls[k]? with
  | some (some v) => some v
  | _ => none
def pm_args : List pm_V → pm_L
  | [] => []
  | .inl x :: t => some (.inl x) :: pm_args t
  | .inr (.inl k) :: t => some (.inr (.inl k)) :: pm_args t
  | .inr (.inr z) :: t => some (.inr (.inr z)) :: none :: pm_args t
def pm_ent (vs : List pm_V) (n : Nat) : pm_L := pm_args vs ++ List.replicate (n - (pm_args vs).length) none
def pm_ldi (pc : Nat) (ls : pm_L) (k : Nat) (st : List pm_V) (M : pm_M) : pm_A := match pm_get ls k with
  | some (.inl x) => .inl (pc, ls, .inl x :: st, M)
  | _ => pm_bad
def pm_lda (pc : Nat) (ls : pm_L) (k : Nat) (st : List pm_V) (M : pm_M) : pm_A := match pm_get ls k with
  | some (.inr (.inl x)) => .inl (pc, ls, .inr (.inl x) :: st, M)
  | _ => pm_bad
def pm_ldl (pc : Nat) (ls : pm_L) (k : Nat) (st : List pm_V) (M : pm_M) : pm_A := match pm_get ls k with
  | some (.inr (.inr x)) => .inl (pc, ls, .inr (.inr x) :: st, M)
  | _ => pm_bad
def pm_sti (pc : Nat) (ls : pm_L) (k : Nat) (st : List pm_V) (M : pm_M) : pm_A := match st with
  | .inl x :: r => .inl (pc, pm_set ls k (.inl x), r, M)
  | _ => pm_bad
def pm_stl (pc : Nat) (ls : pm_L) (k : Nat) (st : List pm_V) (M : pm_M) : pm_A := match st with
  | .inr (.inr x) :: r => .inl (pc, pm_setL ls k x, r, M)
  | _ => pm_bad
def pm_bin (pc : Nat) (ls : pm_L) (st : List pm_V) (M : pm_M) (f : Int32 → Int32 → Int32) : pm_A := match st with
  | .inl b :: .inl a :: r => .inl (pc, ls, .inl (f a b) :: r, M)
  | _ => pm_bad
def pm_un (pc : Nat) (ls : pm_L) (st : List pm_V) (M : pm_M) (f : Int32 → pm_V) : pm_A := match st with
  | .inl a :: r => .inl (pc, ls, f a :: r, M)
  | _ => pm_bad
def pm_ifc (pc t : Nat) (ls : pm_L) (st : List pm_V) (M : pm_M) (f : Int32 → Bool) : pm_A := match st with
  | .inl a :: r => if f a = true then .inl (t, ls, r, M) else .inl (pc + 3, ls, r, M)
  | _ => pm_bad
def pm_icm (pc t : Nat) (ls : pm_L) (st : List pm_V) (M : pm_M) (f : Int32 → Int32 → Bool) : pm_A := match st with
  | .inl b :: .inl a :: r => if f a b = true then .inl (t, ls, r, M) else .inl (pc + 3, ls, r, M)
  | _ => pm_bad
def pm_jt (pc : Nat) (off : Int) : Nat := ((pc : Int) + off).toNat
def pm_stp (X : pm_X) (rb : Bool) (pc : Nat) (i : Instr) (ax : List Nat) (ls : pm_L) (st : List pm_V) (M : pm_M) : pm_A := match i with
  | .iload_n k => pm_ldi (pc + 1) ls k st M
  | .iload k => pm_ldi (pc + 2) ls k st M
  | .aload_n k => pm_lda (pc + 1) ls k st M
  | .aload k => pm_lda (pc + 2) ls k st M
  | .lload_n k => pm_ldl (pc + 1) ls k st M
  | .lload k => pm_ldl (pc + 2) ls k st M
  | .istore_n k => pm_sti (pc + 1) ls k st M
  | .istore k => pm_sti (pc + 2) ls k st M
  | .lstore k => pm_stl (pc + 2) ls k st M
  | .iinc k n => (match pm_get ls k with
    | some (.inl x) => .inl (pc + 3, pm_set ls k (.inl (x + Int32.ofInt n)), st, M)
    | _ => pm_bad)
  | .iconst n => .inl (pc + 1, ls, .inl (Int32.ofInt n) :: st, M)
  | .bipush n => .inl (pc + 2, ls, .inl (Int8.ofInt n).toInt32 :: st, M)
  | .sipush n => .inl (pc + 3, ls, .inl (Int16.ofInt n).toInt32 :: st, M)
  | .lconst n => .inl (pc + 1, ls, .inr (.inr (Int64.ofNat n)) :: st, M)
  | .ldc_w _ => (match ax with
    | [_, v] => .inl (pc + 3, ls, .inl (Int32.ofNat v) :: st, M)
    | _ => pm_bad)
  | .ldc2_w _ => (match ax with
    | [_, v] => .inl (pc + 3, ls, .inr (.inr (Int64.ofNat v)) :: st, M)
    | _ => pm_bad)
  | .dup => (match st with
    | .inl a :: r => .inl (pc + 1, ls, .inl a :: .inl a :: r, M)
    | .inr (.inl a) :: r => .inl (pc + 1, ls, .inr (.inl a) :: .inr (.inl a) :: r, M)
    | _ => pm_bad)
  | .dup2 => (match st with
    | .inl b :: .inr (.inl a) :: r => .inl (pc + 1, ls, .inl b :: .inr (.inl a) :: .inl b :: .inr (.inl a) :: r, M)
    | _ => pm_bad)
  | .iadd => pm_bin (pc + 1) ls st M (fun a b => a + b)
  | .isub => pm_bin (pc + 1) ls st M (fun a b => a - b)
  | .imul => pm_bin (pc + 1) ls st M (fun a b => a * b)
  | .iand => pm_bin (pc + 1) ls st M (fun a b => a &&& b)
  | .ior => pm_bin (pc + 1) ls st M (fun a b => a ||| b)
  | .ishl => pm_bin (pc + 1) ls st M (fun a b => a <<< (b &&& 31))
  | .ishr => pm_bin (pc + 1) ls st M (fun a b => a >>> (b &&& 31))
  | .iushr => pm_bin (pc + 1) ls st M (fun a b => (a.toUInt32 >>> (b.toUInt32 &&& Int32.toUInt32 31)).toInt32)
  | .irem => (match st with
    | .inl b :: .inl a :: r => if b = 0 then pm_bad else .inl (pc + 1, ls, .inl (a - a / b * b) :: r, M)
    | _ => pm_bad)
  | .i2l => pm_un (pc + 1) ls st M (fun a => .inr (.inr a.toInt64))
  | .i2b => pm_un (pc + 1) ls st M (fun a => .inl a.toInt8.toInt32)
  | .i2s => pm_un (pc + 1) ls st M (fun a => .inl a.toInt16.toInt32)
  | .lcmp => (match st with
    | .inr (.inr b) :: .inr (.inr a) :: r => .inl (pc + 1, ls, .inl (lg_cmp a b) :: r, M)
    | _ => pm_bad)
  | .ldiv => (match st with
    | .inr (.inr b) :: .inr (.inr a) :: r => if b = 0 then pm_bad else .inl (pc + 1, ls, .inr (.inr (a / b)) :: r, M)
    | _ => pm_bad)
  | .lrem => (match st with
    | .inr (.inr b) :: .inr (.inr a) :: r => if b = 0 then pm_bad else .inl (pc + 1, ls, .inr (.inr (a - a / b * b)) :: r, M)
    | _ => pm_bad)
  | .lshl => (match st with
    | .inl b :: .inr (.inr a) :: r => .inl (pc + 1, ls, .inr (.inr (a <<< (b.toInt64 &&& 63))) :: r, M)
    | _ => pm_bad)
  | .ifCond .eq off => pm_ifc pc (pm_jt pc off) ls st M (fun a => decide (a = 0))
  | .ifCond .ne off => pm_ifc pc (pm_jt pc off) ls st M (fun a => !decide (a = 0))
  | .ifCond .lt off => pm_ifc pc (pm_jt pc off) ls st M (fun a => decide (a < 0))
  | .ifCond .ge off => pm_ifc pc (pm_jt pc off) ls st M (fun a => decide (0 ≤ a))
  | .ifCond .gt off => pm_ifc pc (pm_jt pc off) ls st M (fun a => decide (0 < a))
  | .ifCond .le off => pm_ifc pc (pm_jt pc off) ls st M (fun a => decide (a ≤ 0))
  | .if_icmp .eq off => pm_icm pc (pm_jt pc off) ls st M (fun a b => decide (a = b))
  | .if_icmp .ne off => pm_icm pc (pm_jt pc off) ls st M (fun a b => !decide (a = b))
  | .if_icmp .lt off => pm_icm pc (pm_jt pc off) ls st M (fun a b => decide (a < b))
  | .if_icmp .ge off => pm_icm pc (pm_jt pc off) ls st M (fun a b => decide (b ≤ a))
  | .if_icmp .gt off => pm_icm pc (pm_jt pc off) ls st M (fun a b => decide (b < a))
  | .if_icmp .le off => pm_icm pc (pm_jt pc off) ls st M (fun a b => decide (a ≤ b))
  | .goto off => .inl (pm_jt pc off, ls, st, M)
  | .tableswitch d lo hi offs => (match st with
    | .inl x :: r => if x.toInt < lo ∨ hi < x.toInt then .inl (pm_jt pc d, ls, r, M) else (match offs[(x.toInt - lo).toNat]? with
      | some o => .inl (pm_jt pc o, ls, r, M)
      | none => pm_bad)
    | _ => pm_bad)
  | .lookupswitch d ps => (match st with
    | .inl x :: r => .inl (pm_jt pc (Op.lookupswitch.offset ps.toList d x.toInt), ls, r, M)
    | _ => pm_bad)
  | .getfield _ => (match st, ax with
    | .inr (.inl k) :: r, [ci, j, _, _] => (match pm_gf ci j k M with
      | some v => .inl (pc + 3, ls, v :: r, M)
      | none => pm_bad)
    | _, _ => pm_bad)
  | .putfield _ => (match st, ax with
    | .inl v :: .inr (.inl k) :: r, [ci, j, _, _] => (match pm_pf ci j k v M with
      | some M2 => .inl (pc + 3, ls, r, M2)
      | none => pm_bad)
    | _, _ => pm_bad)
  | .iaload => (match st with
    | .inl x :: .inr (.inl k) :: r => (match pm_ald X k x M with
      | some v => .inl (pc + 1, ls, .inl v :: r, M)
      | none => pm_bad)
    | _ => pm_bad)
  | .iastore => (match st with
    | .inl v :: .inl x :: .inr (.inl k) :: r => (match pm_ast k x v M with
      | some M2 => .inl (pc + 1, ls, r, M2)
      | none => pm_bad)
    | _ => pm_bad)
  | .aaload => (match st with
    | .inl x :: .inr (.inl k) :: r => (match pm_aald k x with
      | some q => .inl (pc + 1, ls, .inr (.inl q) :: r, M)
      | none => pm_bad)
    | _ => pm_bad)
  | .arraylength => (match st with
    | .inr (.inl k) :: r => (match pm_aln X k with
      | some v => .inl (pc + 1, ls, .inl v :: r, M)
      | none => pm_bad)
    | _ => pm_bad)
  | .invokevirtual _ => (match ax with
    | [y2, n, _, _, ci] => (match st.drop n with
      | .inr (.inl k) :: r => if pm_cl k = some ci ∧ r.length ≤ 4 ∧ n < st.length then .inr (.inr (.inl (y2, .inr (.inl k) :: (st.take n).reverse, (pc + 3, ls, r, M)))) else pm_bad
      | _ => pm_bad)
    | _ => pm_bad)
  | .invokestatic _ => (match ax with
    | [y2, n, _, _] => if n ≤ st.length ∧ (st.drop n).length ≤ 4 then .inr (.inr (.inl (y2, (st.take n).reverse, (pc + 3, ls, st.drop n, M)))) else pm_bad
    | [_] => (match st with
      | .inl n :: .inl dp :: .inr (.inl k1) :: .inl sp :: .inr (.inl k0) :: r => if r.length ≤ 2 then (match pm_acp k0 sp k1 dp n M with
        | some M2 => .inl (pc + 3, ls, r, M2)
        | none => pm_bad) else pm_bad
      | _ => pm_bad)
    | [_, w, _] => (match st with
      | .inl b :: .inl a :: r => if r.length ≤ 4 then .inl (pc + 3, ls, .inl (if w = 0 then (if a < b then b else a) else (if b < a then b else a)) :: r, M) else pm_bad
      | _ => pm_bad)
    | _ => pm_bad)
  | .ireturn => (match st with
    | [.inl v] => if rb = true ∧ ¬ (v = 0 ∨ v = 1) then pm_bad else .inr (.inl (some (.inl v), M))
    | _ => pm_bad)
  | .lreturn => (match st with
    | [.inr (.inr v)] => .inr (.inl (some (.inr (.inr v)), M))
    | _ => pm_bad)
  | .return_ => (match st with
    | [] => .inr (.inl (none, M))
    | _ => pm_bad)
  | _ => pm_bad
def pm_find : List (Nat × Instr × Nat × List Nat) → Nat → Option (Instr × Nat × List Nat)
  | [], _ => none
  | r :: t, pc => if r.1 = pc then some r.2 else pm_find t pc
def pm_psh (v : Option pm_V) (st : List pm_V) : List pm_V := match v with
  | some v => v :: st
  | none => st
