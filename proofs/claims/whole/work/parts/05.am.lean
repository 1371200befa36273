/-! THE ABSTRACT MACHINE: values are (tag, whole number): 0 an int, 1 a long, 2 nothing, 20 .. 24 arrays, 30 the text constant, 100 and on objects by class. A heap is a list of shapes (tag, length) and one memory of whole numbers. -/
abbrev am_V : Type := Nat × Int
abbrev am_H : Type := List (Nat × Nat)
abbrev am_F : Type := Int → Int → Int
abbrev am_S : Type := am_H × am_F
abbrev am_K : Type := Nat × List am_V × List am_V × am_S
abbrev am_O : Type := am_K ⊕ ((am_V × am_S) ⊕ (Nat × List am_V × am_K))
def am_wI (x : Int) : Int := (Int32.ofInt x).toInt
def am_wL (x : Int) : Int := (Int64.ofInt x).toInt
def am_up (f : am_F) (a k v : Int) : am_F := fun b j => if b = a ∧ j = k then v else f b j
def am_len (sh : am_H) (a : Int) : Int := ((sh.getD a.toNat (0, 0)).2 : Int)
def am_and (a b : Int) : Int := (Int32.ofInt a &&& Int32.ofInt b).toInt
def am_or (a b : Int) : Int := (Int32.ofInt a ||| Int32.ofInt b).toInt
def am_xor (a b : Int) : Int := (Int32.ofInt a ^^^ Int32.ofInt b).toInt
def am_shl (a b : Int) : Int := (Int32.ofInt a <<< (Int32.ofInt b &&& 31)).toInt
def am_shr (a b : Int) : Int := (Int32.ofInt a >>> (Int32.ofInt b &&& 31)).toInt
def am_ush (a b : Int) : Int := (((Int32.ofInt a).toUInt32 >>> ((Int32.ofInt b).toUInt32 &&& Int32.toUInt32 31)).toInt32).toInt
def am_ib (w : Nat) (a b : Int) : Option Int := match w with
  | 0 => some (am_wI (a + b))
  | 1 => some (am_wI (a - b))
  | 2 => some (am_wI (a * b))
  | 3 => if b = 0 then none else some (am_wI (a.tdiv b))
  | 4 => if b = 0 then none else some (am_wI (a.tmod b))
  | 5 => some (am_and a b)
  | 6 => some (am_or a b)
  | 7 => some (am_xor a b)
  | 8 => some (am_shl a b)
  | 9 => some (am_shr a b)
  | 10 => some (am_ush a b)
  | _ => none
def am_lb (w : Nat) (a b : Int) : Option Int := match w with
  | 0 => some (am_wL (a + b))
  | 1 => some (am_wL (a - b))
  | 2 => some (am_wL (a * b))
  | 3 => if b = 0 then none else some (am_wL (a.tdiv b))
  | 4 => if b = 0 then none else some (am_wL (a.tmod b))
  | _ => none
def am_lc (a b : Int) : Int := if a < b then -1 else if a = b then 0 else 1
def am_cv (w t : Nat) (v : Int) : Option am_V := match w, t with
  | 0, 0 => some (1, v)
  | 1, 1 => some (0, am_wI v)
  | 2, 0 => some (0, v % 65536)
  | _, _ => none
def am_cmp (c : Nat) (a b : Int) : Bool := match c with
  | 0 => decide (a = b)
  | 1 => decide (¬ a = b)
  | 2 => decide (a < b)
  | 3 => decide (b ≤ a)
  | 4 => decide (b < a)
  | _ => decide (a ≤ b)
def am_sw (v d : Int) : List Int → Int
  | a :: t :: r => if v = a then t else am_sw v d r
  | _ => d
def am_p0 {α : Type} (st : List am_V) (k : Int → List am_V → Option α) : Option α := match st with
  | (0, v) :: r => k v r
  | _ => none
def am_p1 {α : Type} (st : List am_V) (k : Int → List am_V → Option α) : Option α := match st with
  | (1, v) :: r => k v r
  | _ => none
/-- a reference of that tag that is not null -/
def am_pr {α : Type} (t : Nat) (st : List am_V) (k : Int → List am_V → Option α) : Option α := match st with
  | (u, a) :: r => if u = t ∧ 0 ≤ a then k a r else none
  | [] => none
def am_pv {α : Type} (st : List am_V) (k : am_V → List am_V → Option α) : Option α := match st with
  | v :: r => k v r
  | [] => none
def am_nx (pc : Nat) (ls st : List am_V) (s : am_S) : Option am_O := some (.inl (pc, ls, st, s))
/-- whether a value's tag is of a load's or store's kind -/
def am_kd (c : Nat) (v : am_V) : Bool := match c with
  | 0 => v.1 == 0
  | 1 => v.1 == 1
  | _ => decide (20 ≤ v.1) && !(v.1 == 30) && decide (0 ≤ v.2)
/-- a long whose second half lies at k is no more -/
def am_clr (k : Nat) (ls : List am_V) : List am_V := match k with
  | 0 => ls
  | j + 1 => match ls[j]? with
    | some (1, _) => ls.set j (2, 0)
    | _ => ls
def am_set1 (k : Nat) (v : am_V) (ls : List am_V) : List am_V := (am_clr k ls).set k v
def am_set2 (k : Nat) (v : am_V) (ls : List am_V) : List am_V := ((am_clr k ls).set k v).set (k + 1) (2, 0)
/-- what may lie in a slot: kinds of elements 0 int, 1 long, else a reference of that tag -/
def am_et (c k : Nat) : Nat := if 100 ≤ c then (am_ftl.getD (c - 100) []).getD k 2 else if c = 21 then 1 else if c = 24 then 107 else 0
def am_fitE (c : Nat) (v : Int) : Bool := match c with
  | 22 => decide (0 ≤ v) && decide (v < 65536)
  | 23 => decide (v = 0) || decide (v = 1)
  | _ => true
def am_dfl (t : Nat) : Int := if 20 ≤ t then -1 else 0
def am_new (s : am_S) (c n : Nat) : am_S := (s.1 ++ [(c, n)], fun a k => if a = (s.1.length : Int) then am_dfl (am_et c k.toNat) else s.2 a k)
def am_cs (st : List am_V) : Nat := (st.map fun v => if v.1 = 1 then 2 else 1).sum
def am_pt (mi : Nat) : List Nat := match am_M[mi]? with | some q => q.2.2.2.2.2.1 | none => []
def am_rt (mi : Nat) : Nat := match am_M[mi]? with | some q => q.2.2.2.2.2.2.1 | none => 9
def am_ml (mi : Nat) : Nat := match am_M[mi]? with | some q => q.2.2.1 | none => 0
def am_en (n : Nat) (as : List am_V) : List am_V := (as.flatMap fun v => if v.1 = 1 then [v, (2, 0)] else [v]) ++ List.replicate (n - (as.flatMap fun v => if v.1 = 1 then [v, (2, 0)] else [v]).length) (2, 0)
def am_txt : List Int := [116, 104, 105, 110, 103, 32, 119, 111, 114, 116, 104, 32, 117, 115, 101, 32, 102, 114, 97, 105, 108, 32, 109, 101, 110, 100, 101, 114, 32, 115, 107, 105, 108, 108, 32, 104, 111, 117, 114, 115, 32, 116, 114, 105, 97, 108, 32, 105, 115, 32, 115, 116, 97, 110, 100, 115, 32, 102, 97, 108, 108, 115, 32, 116, 97, 107, 101, 115, 32, 102, 105, 110, 101, 32, 102, 105, 114, 115, 116, 32, 99, 97, 116, 32, 98, 114, 101, 97, 107, 115, 32, 109, 101, 110, 100, 115, 32, 100, 97, 121, 32, 103, 108, 117, 101, 32, 110, 117, 109, 98, 101, 114, 32, 102, 111, 114, 103, 101, 100, 32, 108, 97, 115, 116, 32, 111, 114, 32, 97, 110, 100, 32, 110, 111, 116, 32, 97, 108, 108, 32, 109, 105, 110, 32, 109, 97, 120, 32, 111, 102, 116, 101, 110, 32, 116, 111, 116, 97, 108, 32, 109, 111, 115, 116, 32, 108, 101, 97, 115, 116, 32]
def am_cpy (f : am_F) (a0 sp a dp n : Int) : am_F := fun b j => if b = a ∧ dp ≤ j ∧ j < dp + n then f a0 (sp + (j - dp)) else f b j
def am_st (i : am_I) (ls st : List am_V) (s : am_S) : Option am_O := match i with
  | (op, n, xs) => match op with
    | 0 => am_nx n ls ((0, xs.getD 0 0) :: st) s
    | 1 => am_nx n ls ((1, xs.getD 0 0) :: st) s
    | 2 => match ls[(xs.getD 1 0).toNat]? with
      | some v => if am_kd (xs.getD 0 0).toNat v = true then am_nx n ls (v :: st) s else none
      | none => none
    | 3 => am_pv st fun v r => if am_kd (xs.getD 0 0).toNat v = true ∧ (xs.getD 1 0).toNat + (if v.1 = 1 then 1 else 0) < ls.length then (if v.1 = 1 then am_nx n (am_set2 (xs.getD 1 0).toNat v ls) r s else am_nx n (am_set1 (xs.getD 1 0).toNat v ls) r s) else none
    | 4 => match ls[(xs.getD 0 0).toNat]? with
      | some (0, v) => am_nx n (am_set1 (xs.getD 0 0).toNat (0, am_wI (v + xs.getD 1 0)) ls) st s
      | _ => none
    | 5 => am_p0 st fun b r => am_p0 r fun a r => match am_ib (xs.getD 0 0).toNat a b with | some v => am_nx n ls ((0, v) :: r) s | none => none
    | 6 => am_p1 st fun b r => am_p1 r fun a r => match am_lb (xs.getD 0 0).toNat a b with | some v => am_nx n ls ((1, v) :: r) s | none => none
    | 7 => am_p1 st fun b r => am_p1 r fun a r => am_nx n ls ((0, am_lc a b) :: r) s
    | 8 => am_pv st fun v r => match am_cv (xs.getD 0 0).toNat v.1 v.2 with | some w => am_nx n ls (w :: r) s | none => none
    | 9 => am_pv st fun v r => if v.1 = 1 then none else match (xs.getD 0 0).toNat with
      | 0 => am_nx n ls r s
      | 1 => am_nx n ls (v :: v :: r) s
      | 2 => am_pv r fun w r => if w.1 = 1 then none else am_nx n ls (v :: w :: v :: w :: r) s
      | _ => am_pv r fun w r => if w.1 = 1 then none else am_nx n ls (v :: w :: v :: r) s
    | 10 => am_nx (xs.getD 0 0).toNat ls st s
    | 11 => am_p0 st fun b r => am_p0 r fun a r => if am_cmp (xs.getD 0 0).toNat a b = true then am_nx (xs.getD 1 0).toNat ls r s else am_nx n ls r s
    | 12 => am_p0 st fun a r => if am_cmp (xs.getD 0 0).toNat a 0 = true then am_nx (xs.getD 1 0).toNat ls r s else am_nx n ls r s
    | 13 => am_p0 st fun a r => am_nx (am_sw a (xs.getD 0 0) (xs.drop 1)).toNat ls r s
    | 20 => am_pr (xs.getD 0 0).toNat st fun a r => am_nx n ls (((xs.getD 2 0).toNat, s.2 a (xs.getD 1 0)) :: r) s
    | 21 => am_pv st fun v r => am_pr (xs.getD 0 0).toNat r fun a r => if v.1 = (xs.getD 2 0).toNat ∧ (xs.getD 3 0 = 1 → v.2 = 0 ∨ v.2 = 1) ∧ (20 ≤ v.1 → 0 ≤ v.2) then am_nx n ls r (s.1, am_up s.2 a (xs.getD 1 0) v.2) else none
    | 22 => am_p0 st fun j r => am_pr (xs.getD 0 0).toNat r fun a r => if 0 ≤ j ∧ j < am_len s.1 a then am_nx n ls (((xs.getD 1 0).toNat, s.2 a j) :: r) s else none
    | 23 => am_pv st fun v r => am_p0 r fun j r => am_pr (xs.getD 0 0).toNat r fun a r => if v.1 = (xs.getD 1 0).toNat ∧ am_fitE (xs.getD 0 0).toNat v.2 = true ∧ (20 ≤ v.1 → 0 ≤ v.2) ∧ 0 ≤ j ∧ j < am_len s.1 a then am_nx n ls r (s.1, am_up s.2 a j v.2) else none
    | 24 => am_pv st fun v r => if 20 ≤ v.1 ∧ v.1 ≤ 24 ∧ 0 ≤ v.2 then am_nx n ls ((0, am_len s.1 v.2) :: r) s else none
    | 25 => am_nx n ls (((xs.getD 0 0).toNat, (s.1.length : Int)) :: st) (am_new s (xs.getD 0 0).toNat (xs.getD 1 0).toNat)
    | 26 => am_p0 st fun k r => if 0 ≤ k ∧ k ≤ 10000 then am_nx n ls (((xs.getD 0 0).toNat, (s.1.length : Int)) :: r) (am_new s (xs.getD 0 0).toNat k.toNat) else none
    | 27 => am_p0 st fun k r => if 0 ≤ k ∧ k ≤ 10000 then am_nx n ls ((24, (s.1.length : Int)) :: r) (am_new s 24 k.toNat) else none
    | 28 => if (am_pt (xs.getD 1 0).toNat).length ≤ st.length ∧ ((st.take (am_pt (xs.getD 1 0).toNat).length).reverse.map Prod.fst) = am_pt (xs.getD 1 0).toNat ∧ (xs.getD 0 0 = 0 ∨ 0 ≤ ((st.take (am_pt (xs.getD 1 0).toNat).length).reverse.getD 0 (0, -1)).2) ∧ am_cs (st.drop (am_pt (xs.getD 1 0).toNat).length) ≤ 8 then some (.inr (.inr ((xs.getD 1 0).toNat, (st.take (am_pt (xs.getD 1 0).toNat).length).reverse, n, ls, st.drop (am_pt (xs.getD 1 0).toNat).length, s))) else none
    | 29 => match (xs.getD 0 0).toNat, st with
      | 0, [(0, v)] => some (.inr (.inl ((0, v), s)))
      | 4, [(0, v)] => if v = 0 ∨ v = 1 then some (.inr (.inl ((0, v), s))) else none
      | 1, [(1, v)] => some (.inr (.inl ((1, v), s)))
      | 3, [] => some (.inr (.inl ((3, 0), s)))
      | _, _ => none
    | 33 => am_p0 st fun k r => am_p0 r fun dp r => am_pr 20 r fun a r => am_p0 r fun sp r => am_pr 20 r fun a0 r => if 0 ≤ k ∧ 0 ≤ dp ∧ 0 ≤ sp ∧ sp + k ≤ am_len s.1 a0 ∧ dp + k ≤ am_len s.1 a ∧ am_cs r ≤ 8 then am_nx n ls r (s.1, am_cpy s.2 a0 sp a dp k) else none
    | 34 => am_pv st fun v r => if 20 ≤ v.1 ∧ ¬ v.1 = 30 ∧ 0 ≤ v.2 ∧ am_cs r ≤ 8 then am_nx n ls r s else none
    | 30 => am_nx n ls ((30, 0) :: st) s
    | 31 => am_pr 30 st fun _ r => if am_cs r ≤ 8 then am_nx n ls ((0, (am_txt.length : Int)) :: r) s else none
    | 32 => am_p0 st fun j r => am_pr 30 r fun _ r => if 0 ≤ j ∧ j < (am_txt.length : Int) ∧ am_cs r ≤ 8 then am_nx n ls ((0, am_txt.getD j.toNat 0) :: r) s else none
    | _ => none
def am_ins (mi pc : Nat) : Option am_I := ((am_C[mi]?).getD []).lookup pc
def am_stp (mi : Nat) (c : am_K) : Option am_O := match am_ins mi c.1 with
  | some i => am_st i c.2.1 c.2.2.1 c.2.2.2
  | none => none
def am_run : Nat → Nat → Nat → am_K → Option (am_V × am_S)
  | 0, _, _, _ => none
  | n + 1, d, mi, c => match am_stp mi c with
    | none => none
    | some (.inl c') => am_run n d mi c'
    | some (.inr (.inl r)) => some r
    | some (.inr (.inr (m', as, pc, ls, st, s))) => match d with
      | 0 => none
      | d' + 1 => match am_run n d' m' (0, am_en (am_ml m') as, [], s) with
        | none => none
        | some (v, s') => am_run n (d' + 1) mi (pc, ls, if v.1 = 3 then st else v :: st, s')
/-- the code lists are the bytes: what a decoded instruction means here -/
def am_fl (oc idx : Nat) : Option (Nat × Nat × Nat × Nat × Nat × Nat) := (am_FL.getD oc []).lookup idx
def am_ll (oc idx : Nat) : Option (Nat × Nat × Nat) := (am_LL.getD oc []).lookup idx
def am_kl (oc idx : Nat) : Option (Int × Nat) := (am_KL.getD oc []).lookup idx
def am_jl (oc idx : Nat) : Option (Int × Nat) := (am_JL.getD oc []).lookup idx
def am_ck (oc idx : Nat) : Option (Nat × Nat × Nat × Nat × Nat) := (am_CK.getD oc []).lookup idx
def am_cc (c : Jvm.ClassFile.Cond) : Nat := match c with | .eq => 0 | .ne => 1 | .lt => 2 | .ge => 3 | .gt => 4 | .le => 5
def am_ilen (i : Instr) : Nat := match i with
  | .bipush _ | .ldc _ | .iload _ | .lload _ | .aload _ | .istore _ | .lstore _ | .astore _ | .newarray _ => 2
  | .sipush _ | .ldc_w _ | .ldc2_w _ | .iinc _ _ | .if_icmp _ _ | .ifCond _ _ | .goto _ | .getfield _ | .putfield _ | .invokevirtual _ | .invokespecial _ | .invokestatic _ | .new _ | .anewarray _ => 3
  | .tableswitch _ _ _ _ | .lookupswitch _ _ => 0
  | _ => 1
def am_tb (pc lo : Int) : List Int → List Int
  | [] => []
  | f :: r => lo :: (pc + f) :: am_tb pc (lo + 1) r
def am_lk (pc : Int) : List (Int × Int) → List Int
  | [] => []
  | f :: r => f.1 :: (pc + f.2) :: am_lk pc r
def am_enc (oc : Nat) (ini : Bool) (rt pc : Nat) (i : Instr) (n : Nat) : am_I := match i with
  | .iconst v => if -128 ≤ v ∧ v ≤ 127 then (0, n, [v]) else (99, n, [])
  | .bipush v => if -128 ≤ v ∧ v ≤ 127 then (0, n, [v]) else (99, n, [])
  | .sipush v => if -32768 ≤ v ∧ v ≤ 32767 then (0, n, [v]) else (99, n, [])
  | .ldc k => match am_kl oc k with
    | some e => (0, n, [e.1])
    | none => if oc = 4 ∧ k = 139 then (30, n, []) else (99, n, [])
  | .ldc_w k => match am_kl oc k with
    | some e => (0, n, [e.1])
    | none => (99, n, [])
  | .lconst v => (1, n, [((v : Nat) : Int)])
  | .ldc2_w k => match am_jl oc k with
    | some e => (1, n, [e.1])
    | none => (99, n, [])
  | .iload k => (2, n, [0, (k : Int)])
  | .iload_n k => (2, n, [0, ((k : Nat) : Int)])
  | .lload k => (2, n, [1, (k : Int)])
  | .lload_n k => (2, n, [1, ((k : Nat) : Int)])
  | .aload k => (2, n, [2, (k : Int)])
  | .aload_n k => (2, n, [2, ((k : Nat) : Int)])
  | .istore k => (3, n, [0, (k : Int)])
  | .istore_n k => (3, n, [0, ((k : Nat) : Int)])
  | .lstore k => (3, n, [1, (k : Int)])
  | .lstore_n k => (3, n, [1, ((k : Nat) : Int)])
  | .astore k => (3, n, [2, (k : Int)])
  | .astore_n k => (3, n, [2, ((k : Nat) : Int)])
  | .iinc k v => (4, n, [(k : Int), v])
  | .iadd => (5, n, [0])
  | .isub => (5, n, [1])
  | .imul => (5, n, [2])
  | .idiv => (5, n, [3])
  | .irem => (5, n, [4])
  | .iand => (5, n, [5])
  | .ior => (5, n, [6])
  | .ixor => (5, n, [7])
  | .ishl => (5, n, [8])
  | .ishr => (5, n, [9])
  | .iushr => (5, n, [10])
  | .ladd => (6, n, [0])
  | .lsub => (6, n, [1])
  | .lmul => (6, n, [2])
  | .ldiv => (6, n, [3])
  | .lrem => (6, n, [4])
  | .lcmp => (7, n, [])
  | .i2l => (8, n, [0])
  | .l2i => (8, n, [1])
  | .i2c => (8, n, [2])
  | .pop => (9, n, [0])
  | .dup => (9, n, [1])
  | .dup2 => (9, n, [2])
  | .dup_x1 => (9, n, [3])
  | .goto f => (10, n, [(pc : Int) + f])
  | .if_icmp c f => (11, n, [(am_cc c : Int), (pc : Int) + f])
  | .ifCond c f => (12, n, [(am_cc c : Int), (pc : Int) + f])
  | .tableswitch d lo hi fs => if lo + fs.size = hi + 1 ∧ (fs.toList.all fun f => decide (0 ≤ (pc : Int) + f)) = true ∧ 0 ≤ (pc : Int) + d then (13, n, ((pc : Int) + d) :: am_tb pc lo fs.toList) else (99, n, [])
  | .lookupswitch d ps => if (ps.toList.zip (ps.toList.drop 1)).all (fun (a, next) => a.1 < next.1) = true ∧ (ps.toList.all fun f => decide (0 ≤ (pc : Int) + f.2)) = true ∧ 0 ≤ (pc : Int) + d then (13, n, ((pc : Int) + d) :: am_lk pc ps.toList) else (99, n, [])
  | .getfield k => match am_fl oc k with
    | some e => (20, n, [(e.1 : Int), (e.2.1 : Int), (e.2.2.1 : Int)])
    | none => (99, n, [])
  | .putfield k => match am_fl oc k with
    | some e => if e.2.2.2.2.1 = 0 ∨ (ini = true ∧ e.1 = 100 + oc) then (21, n, [(e.1 : Int), (e.2.1 : Int), (e.2.2.1 : Int), (e.2.2.2.1 : Int)]) else (99, n, [])
    | none => (99, n, [])
  | .iaload => (22, n, [20, 0])
  | .laload => (22, n, [21, 1])
  | .caload => (22, n, [22, 0])
  | .baload => (22, n, [23, 0])
  | .aaload => (22, n, [24, 107])
  | .iastore => (23, n, [20, 0])
  | .lastore => (23, n, [21, 1])
  | .castore => (23, n, [22, 0])
  | .bastore => (23, n, [23, 0])
  | .aastore => (23, n, [24, 107])
  | .arraylength => (24, n, [])
  | .new k => match am_ck oc k with
    | some e => if 100 ≤ e.1 then (25, n, [(e.1 : Int), (e.2.1 : Int)]) else (99, n, [])
    | none => (99, n, [])
  | .newarray t => match t with
    | .int => (26, n, [20])
    | .long => (26, n, [21])
    | .char => (26, n, [22])
    | .boolean => (26, n, [23])
    | _ => (99, n, [])
  | .anewarray k => match am_ck oc k with
    | some e => if e.1 = 107 then (27, n, []) else (99, n, [])
    | none => (99, n, [])
  | .invokestatic k => match am_ll oc k with
    | some e => if e.1 = 0 then (28, n, [0, (e.2.1 : Int)]) else if e.1 = 5 then (33, n, []) else (99, n, [])
    | none => (99, n, [])
  | .invokevirtual k => match am_ll oc k with
    | some e => if e.1 = 1 then (28, n, [1, (e.2.1 : Int)]) else if e.1 = 6 then (31, n, []) else if e.1 = 7 then (32, n, []) else (99, n, [])
    | none => (99, n, [])
  | .invokespecial k => match am_ll oc k with
    | some e => if e.1 = 2 then (28, n, [2, (e.2.1 : Int)]) else if e.1 = 3 then (28, n, [3, (e.2.1 : Int)]) else if e.1 = 4 then (34, n, []) else (99, n, [])
    | none => (99, n, [])
  | .ireturn => if rt = 0 ∨ rt = 4 then (29, n, [(rt : Int)]) else (99, n, [])
  | .lreturn => if rt = 1 then (29, n, [1]) else (99, n, [])
  | .return_ => if rt = 3 then (29, n, [3]) else (99, n, [])
  | _ => (99, n, [])
/-- one row of a code list is right -/
def am_okR (cc : ByteArray) (oc : Nat) (ini : Bool) (rt : Nat) (q : Nat × am_I) : Bool := match decode cc q.1 with
  | .ok (i, len) => (am_ilen i == 0 || am_ilen i == len) && (decide (am_enc oc ini rt q.1 i (q.1 + len) = q.2))
  | .error _ => false
def am_okM (mi : Nat) : Bool := match am_M[mi]?, am_C[mi]? with
  | some q, some c => c.all (am_okR q.2.1 q.2.2.2.2.1 (q.2.2.2.2.2.2.2.1 == 2) q.2.2.2.2.2.2.1)
  | _, _ => false
