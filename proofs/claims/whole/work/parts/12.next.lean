/-! no jump goes below 0 -/
def am_nn (i : am_I) : Bool := match i.1 with
  | 10 => decide (0 ≤ i.2.2.getD 0 0)
  | 11 => decide (0 ≤ i.2.2.getD 1 0)
  | 12 => decide (0 ≤ i.2.2.getD 1 0)
  | _ => true
set_option maxRecDepth 100000 in
theorem am_nnok : am_C.all (fun c => c.all fun q => am_nn q.2) = true := by decide +kernel
theorem am_ln {a len k : Nat} (h : a = 0 ∨ a = len) (h2 : a = k) (h3 : ¬ k = 0) : len = k := by omega
/-- what a step may be: a next place, the shapes grown at the end -/
def am_isI (s : am_S) (o : Option am_O) : Prop := o = none ∨ ∃ q : am_K, o = some (.inl q) ∧ ∃ z, q.2.2.2.1 = s.1 ++ z
theorem am_isI_none {s : am_S} : am_isI s none := Or.inl rfl
theorem am_isI_nx {s s' : am_S} {n : Nat} {ls st : List am_V} (h : ∃ z, s'.1 = s.1 ++ z) : am_isI s (am_nx n ls st s') := Or.inr ⟨_, rfl, h⟩
theorem am_isI_p0 {s : am_S} {st : List am_V} {k : Int → List am_V → Option am_O} (h : ∀ v r, am_isI s (k v r)) : am_isI s (am_p0 st k) := by
  unfold am_p0; split
  · exact h _ _
  · exact Or.inl rfl
theorem am_isI_p1 {s : am_S} {st : List am_V} {k : Int → List am_V → Option am_O} (h : ∀ v r, am_isI s (k v r)) : am_isI s (am_p1 st k) := by
  unfold am_p1; split
  · exact h _ _
  · exact Or.inl rfl
theorem am_isI_pr {t : Nat} {s : am_S} {st : List am_V} {k : Int → List am_V → Option am_O} (h : ∀ v r, am_isI s (k v r)) : am_isI s (am_pr t st k) := by
  unfold am_pr; split
  · split
    · exact h _ _
    · exact Or.inl rfl
  · exact Or.inl rfl
theorem am_isI_pv {s : am_S} {st : List am_V} {k : am_V → List am_V → Option am_O} (h : ∀ v r, am_isI s (k v r)) : am_isI s (am_pv st k) := by
  unfold am_pv; split
  · exact h _ _
  · exact Or.inl rfl
theorem am_isI_ite {s : am_S} {c : Prop} {d : Decidable c} {a b : Option am_O} (ha : am_isI s a) (hb : am_isI s b) : am_isI s (@ite _ c d a b) := by
  by_cases h : c
  · rw [if_pos h]; exact ha
  · rw [if_neg h]; exact hb
theorem am_st_isI (op n : Nat) (xs : List Int) (ls st : List am_V) (s : am_S) (h8 : ¬ op = 28) (h9 : ¬ op = 29) : am_isI s (am_st (op, n, xs) ls st s) := by
  have e0 : ∃ z, s.1 = s.1 ++ z := ⟨[], (List.append_nil _).symm⟩
  have e1 : ∀ c k, ∃ z, (am_new s c k).1 = s.1 ++ z := fun c k => ⟨_, rfl⟩
  unfold am_st
  dsimp only
  split
  all_goals first
    | exact absurd rfl h8
    | exact absurd rfl h9
    | exact am_isI_none
    | exact am_isI_nx e0
    | exact am_isI_nx (e1 _ _)
    | skip
  all_goals (repeat' first
    | exact am_isI_none
    | exact am_isI_nx e0
    | exact am_isI_nx (e1 _ _)
    | (apply am_isI_p0; intro _ _)
    | (apply am_isI_p1; intro _ _)
    | (apply am_isI_pr; intro _ _)
    | (apply am_isI_pv; intro _ _)
    | apply am_isI_ite
    | split)
theorem am_st28 (n : Nat) (xs : List Int) (ls st : List am_V) (s : am_S) : am_st (28, n, xs) ls st s = if (am_pt (xs.getD 1 0).toNat).length ≤ st.length ∧ ((st.take (am_pt (xs.getD 1 0).toNat).length).reverse.map Prod.fst) = am_pt (xs.getD 1 0).toNat ∧ (xs.getD 0 0 = 0 ∨ 0 ≤ ((st.take (am_pt (xs.getD 1 0).toNat).length).reverse.getD 0 (0, -1)).2) ∧ am_cs (st.drop (am_pt (xs.getD 1 0).toNat).length) ≤ 8 then some (.inr (.inr ((xs.getD 1 0).toNat, (st.take (am_pt (xs.getD 1 0).toNat).length).reverse, n, ls, st.drop (am_pt (xs.getD 1 0).toNat).length, s))) else none := rfl
theorem am_28 {n : Nat} {xs : List Int} {ls st : List am_V} {s : am_S} {o : am_O} (h : am_st (28, n, xs) ls st s = some o) : ∃ q, o = .inr (.inr q) := by
  rw [am_st28] at h
  split at h
  · cases h; exact ⟨_, rfl⟩
  · cases h
theorem am_st29 (n : Nat) (xs : List Int) (ls st : List am_V) (s : am_S) : am_st (29, n, xs) ls st s = (match (xs.getD 0 0).toNat, st with
      | 0, [(0, v)] => some (.inr (.inl ((0, v), s)))
      | 4, [(0, v)] => if v = 0 ∨ v = 1 then some (.inr (.inl ((0, v), s))) else none
      | 1, [(1, v)] => some (.inr (.inl ((1, v), s)))
      | 3, [] => some (.inr (.inl ((3, 0), s)))
      | _, _ => none) := rfl
theorem am_29 {n : Nat} {xs : List Int} {ls st : List am_V} {s : am_S} {o : am_O} (h : am_st (29, n, xs) ls st s = some o) : ∃ q, o = .inr (.inl q) := by
  rw [am_st29] at h
  split at h
  · cases h; exact ⟨_, rfl⟩
  · split at h
    · cases h; exact ⟨_, rfl⟩
    · cases h
  · cases h; exact ⟨_, rfl⟩
  · cases h; exact ⟨_, rfl⟩
  · cases h

section
variable {p : Program} {l : Launch} {e : Env} {R : Room} {s : State} {m : MethodId} {args : Array Value} {below : List Frame} {meth : Method} {c : Code} {H : Heap} {locs : List Loc} {cells slots : Nat} {Q : State → Prop} {D : va_G} {dA : Nat → ClassId} {sa sv : Nat} {A : Nat → Prop} {cc : ByteArray} {ml oc rt : Nat} {ini : Bool} {own : String} {pc : Nat} {ls : Array Slot} {ad : List Nat} {sh sh' : am_H} {f f' : am_F} {L S L' S' : List am_V} {pc' : Nat}

theorem am_next {ins : Instr} {len : Nat} (C : am_Cx p s m args meth c D dA sa sv A cc ml oc ini own) (hd : decode cc pc = .ok (ins, len)) (hlen : am_ilen ins = 0 ∨ am_ilen ins = len) (hnn : am_nn (am_enc oc ini rt pc ins (pc + len)) = true) (hJ : am_J D dA sa ad A s.heap ml ls L S sh f H locs) (hst : am_st (am_enc oc ini rt pc ins (pc + len)) L S (sh, f) = some (.inl (pc', L', S', sh', f'))) (hR : cells + (sh'.length - sh.length) ≤ R.cells ∧ slots + (am_tot sh' - am_tot sh) ≤ R.slots) (hR3 : 6 ≤ R.frames ∧ 200 ≤ R.locals) (kk : am_KK p l e R s m args below meth c D dA sa A ml cells slots Q ad sh pc' L' S' sh' f') : W p l e R s m args below meth c H locs cells slots Q (F0 m pc ls (S.map (am_rv sa ad))) := by
  have hR2 : 1 ≤ R.frames ∧ 60 ≤ R.locals := ⟨by omega, by omega⟩
  have hR4 : cells + 0 ≤ R.cells ∧ slots + 0 ≤ R.slots := ⟨by omega, by omega⟩
  have hbad : ∀ n, am_st (99, n, []) L S (sh, f) = some (.inl (pc', L', S', sh', f')) → False := fun n h => by cases h
  cases ins with
  | iconst v =>
    obtain rfl : len = 1 := am_ln hlen rfl (by decide)
    exact am_s_iconst C hd hJ hst kk
  | bipush v =>
    obtain rfl : len = 2 := am_ln hlen rfl (by decide)
    exact am_s_bipush C hd hJ hst kk
  | sipush v =>
    obtain rfl : len = 3 := am_ln hlen rfl (by decide)
    exact am_s_sipush C hd hJ hst kk
  | ldc2_w v =>
    obtain rfl : len = 3 := am_ln hlen rfl (by decide)
    exact am_s_ldc2_w C hd hJ hst kk
  | lconst v =>
    obtain rfl : len = 1 := am_ln hlen rfl (by decide)
    exact am_s_lconst C hd hJ hst kk
  | iload k =>
    obtain rfl : len = 2 := am_ln hlen rfl (by decide)
    exact am_s_iload C hd hJ hst kk
  | iload_n k =>
    obtain rfl : len = 1 := am_ln hlen rfl (by decide)
    exact am_s_iload_n C hd hJ hst kk
  | istore k =>
    obtain rfl : len = 2 := am_ln hlen rfl (by decide)
    exact am_s_istore C hd hJ hst kk
  | istore_n k =>
    obtain rfl : len = 1 := am_ln hlen rfl (by decide)
    exact am_s_istore_n C hd hJ hst kk
  | lload k =>
    obtain rfl : len = 2 := am_ln hlen rfl (by decide)
    exact am_s_lload C hd hJ hst kk
  | lload_n k =>
    obtain rfl : len = 1 := am_ln hlen rfl (by decide)
    exact am_s_lload_n C hd hJ hst kk
  | lstore k =>
    obtain rfl : len = 2 := am_ln hlen rfl (by decide)
    exact am_s_lstore C hd hJ hst kk
  | lstore_n k =>
    obtain rfl : len = 1 := am_ln hlen rfl (by decide)
    exact am_s_lstore_n C hd hJ hst kk
  | aload k =>
    obtain rfl : len = 2 := am_ln hlen rfl (by decide)
    exact am_s_aload C hd hJ hst kk
  | aload_n k =>
    obtain rfl : len = 1 := am_ln hlen rfl (by decide)
    exact am_s_aload_n C hd hJ hst kk
  | astore k =>
    obtain rfl : len = 2 := am_ln hlen rfl (by decide)
    exact am_s_astore C hd hJ hst kk
  | astore_n k =>
    obtain rfl : len = 1 := am_ln hlen rfl (by decide)
    exact am_s_astore_n C hd hJ hst kk
  | iinc k v =>
    obtain rfl : len = 3 := am_ln hlen rfl (by decide)
    exact am_s_iinc C hd hJ hst kk
  | iadd =>
    obtain rfl : len = 1 := am_ln hlen rfl (by decide)
    exact am_s_iadd C hd hJ hst kk
  | isub =>
    obtain rfl : len = 1 := am_ln hlen rfl (by decide)
    exact am_s_isub C hd hJ hst kk
  | imul =>
    obtain rfl : len = 1 := am_ln hlen rfl (by decide)
    exact am_s_imul C hd hJ hst kk
  | idiv =>
    obtain rfl : len = 1 := am_ln hlen rfl (by decide)
    exact am_s_idiv C hd hJ hst kk
  | irem =>
    obtain rfl : len = 1 := am_ln hlen rfl (by decide)
    exact am_s_irem C hd hJ hst kk
  | iand =>
    obtain rfl : len = 1 := am_ln hlen rfl (by decide)
    exact am_s_iand C hd hJ hst kk
  | ior =>
    obtain rfl : len = 1 := am_ln hlen rfl (by decide)
    exact am_s_ior C hd hJ hst kk
  | ixor =>
    obtain rfl : len = 1 := am_ln hlen rfl (by decide)
    exact am_s_ixor C hd hJ hst kk
  | ishl =>
    obtain rfl : len = 1 := am_ln hlen rfl (by decide)
    exact am_s_ishl C hd hJ hst kk
  | ishr =>
    obtain rfl : len = 1 := am_ln hlen rfl (by decide)
    exact am_s_ishr C hd hJ hst kk
  | iushr =>
    obtain rfl : len = 1 := am_ln hlen rfl (by decide)
    exact am_s_iushr C hd hJ hst kk
  | ladd =>
    obtain rfl : len = 1 := am_ln hlen rfl (by decide)
    exact am_s_ladd C hd hJ hst kk
  | lsub =>
    obtain rfl : len = 1 := am_ln hlen rfl (by decide)
    exact am_s_lsub C hd hJ hst kk
  | lmul =>
    obtain rfl : len = 1 := am_ln hlen rfl (by decide)
    exact am_s_lmul C hd hJ hst kk
  | ldiv =>
    obtain rfl : len = 1 := am_ln hlen rfl (by decide)
    exact am_s_ldiv C hd hJ hst kk
  | lrem =>
    obtain rfl : len = 1 := am_ln hlen rfl (by decide)
    exact am_s_lrem C hd hJ hst kk
  | lcmp =>
    obtain rfl : len = 1 := am_ln hlen rfl (by decide)
    exact am_s_lcmp C hd hJ hst kk
  | i2l =>
    obtain rfl : len = 1 := am_ln hlen rfl (by decide)
    exact am_s_i2l C hd hJ hst kk
  | l2i =>
    obtain rfl : len = 1 := am_ln hlen rfl (by decide)
    exact am_s_l2i C hd hJ hst kk
  | i2c =>
    obtain rfl : len = 1 := am_ln hlen rfl (by decide)
    exact am_s_i2c C hd hJ hst kk
  | pop =>
    obtain rfl : len = 1 := am_ln hlen rfl (by decide)
    exact am_s_pop C hd hJ hst kk
  | dup =>
    obtain rfl : len = 1 := am_ln hlen rfl (by decide)
    exact am_s_dup C hd hJ hst kk
  | dup2 =>
    obtain rfl : len = 1 := am_ln hlen rfl (by decide)
    exact am_s_dup2 C hd hJ hst kk
  | dup_x1 =>
    obtain rfl : len = 1 := am_ln hlen rfl (by decide)
    exact am_s_dup_x1 C hd hJ hst kk
  | iaload =>
    obtain rfl : len = 1 := am_ln hlen rfl (by decide)
    exact am_s_iaload C hd hJ hst kk
  | laload =>
    obtain rfl : len = 1 := am_ln hlen rfl (by decide)
    exact am_s_laload C hd hJ hst kk
  | caload =>
    obtain rfl : len = 1 := am_ln hlen rfl (by decide)
    exact am_s_caload C hd hJ hst kk
  | baload =>
    obtain rfl : len = 1 := am_ln hlen rfl (by decide)
    exact am_s_baload C hd hJ hst kk
  | aaload =>
    obtain rfl : len = 1 := am_ln hlen rfl (by decide)
    exact am_s_aaload C hd hJ hst kk
  | iastore =>
    obtain rfl : len = 1 := am_ln hlen rfl (by decide)
    exact am_s_iastore C hd hJ hst kk
  | lastore =>
    obtain rfl : len = 1 := am_ln hlen rfl (by decide)
    exact am_s_lastore C hd hJ hst kk
  | castore =>
    obtain rfl : len = 1 := am_ln hlen rfl (by decide)
    exact am_s_castore C hd hJ hst kk
  | bastore =>
    obtain rfl : len = 1 := am_ln hlen rfl (by decide)
    exact am_s_bastore C hd hJ hst kk
  | aastore =>
    obtain rfl : len = 1 := am_ln hlen rfl (by decide)
    exact am_s_aastore C hd hJ hst kk
  | arraylength =>
    obtain rfl : len = 1 := am_ln hlen rfl (by decide)
    exact am_s_arraylength C hd hJ hst kk
  | getfield k =>
    obtain rfl : len = 3 := am_ln hlen rfl (by decide)
    exact am_s_getfield C hd hJ hst kk
  | putfield k =>
    obtain rfl : len = 3 := am_ln hlen rfl (by decide)
    exact am_s_putfield C hd hJ hst kk
  | tableswitch d lo hi fs => exact am_s_tableswitch C hd hJ hst kk
  | lookupswitch d ps => exact am_s_lookupswitch C hd hJ hst kk
  | goto o =>
    obtain rfl : len = 3 := am_ln hlen rfl (by decide)
    exact am_s_goto C hd hJ hst (of_decide_eq_true hnn) kk
  | if_icmp cd o =>
    obtain rfl : len = 3 := am_ln hlen rfl (by decide)
    cases cd with
    | eq => exact am_s_icmp_eq C hd hJ hst (of_decide_eq_true hnn) kk
    | ne => exact am_s_icmp_ne C hd hJ hst (of_decide_eq_true hnn) kk
    | lt => exact am_s_icmp_lt C hd hJ hst (of_decide_eq_true hnn) kk
    | ge => exact am_s_icmp_ge C hd hJ hst (of_decide_eq_true hnn) kk
    | gt => exact am_s_icmp_gt C hd hJ hst (of_decide_eq_true hnn) kk
    | le => exact am_s_icmp_le C hd hJ hst (of_decide_eq_true hnn) kk
  | ifCond cd o =>
    obtain rfl : len = 3 := am_ln hlen rfl (by decide)
    cases cd with
    | eq => exact am_s_if_eq C hd hJ hst (of_decide_eq_true hnn) kk
    | ne => exact am_s_if_ne C hd hJ hst (of_decide_eq_true hnn) kk
    | lt => exact am_s_if_lt C hd hJ hst (of_decide_eq_true hnn) kk
    | ge => exact am_s_if_ge C hd hJ hst (of_decide_eq_true hnn) kk
    | gt => exact am_s_if_gt C hd hJ hst (of_decide_eq_true hnn) kk
    | le => exact am_s_if_le C hd hJ hst (of_decide_eq_true hnn) kk
  | ldc k =>
    obtain rfl : len = 2 := am_ln hlen rfl (by decide)
    cases hk : am_kl oc k with
    | some q => exact am_s_ldc C hd hJ hst (by rw [hk]; rfl) kk
    | none =>
      by_cases h2 : oc = 4 ∧ k = 139
      · have hst2 : am_nx (pc + 2) L ((30, 0) :: S) (sh, f) = some (.inl (pc', L', S', sh', f')) := by
          rw [← hst]; unfold am_enc; dsimp only; rw [hk]; dsimp only; rw [if_pos h2]; rfl
        obtain ⟨rfl, rfl⟩ := h2
        exact am_s_sldc C hd hJ hst2 kk
      · exfalso
        unfold am_enc at hst; dsimp only at hst; rw [hk] at hst; dsimp only at hst; rw [if_neg h2] at hst
        exact hbad _ hst
  | ldc_w k =>
    obtain rfl : len = 3 := am_ln hlen rfl (by decide)
    cases hk : am_kl oc k with
    | some q => exact am_s_ldc_w C hd hJ hst (by rw [hk]; rfl) kk
    | none =>
      exfalso
      unfold am_enc at hst; dsimp only at hst; rw [hk] at hst
      exact hbad _ hst
  | new k =>
    obtain rfl : len = 3 := am_ln hlen rfl (by decide)
    exact am_s_new C hd hJ hst hR kk
  | newarray t =>
    obtain rfl : len = 2 := am_ln hlen rfl (by decide)
    cases t with
    | int => exact am_s_newint C hd hJ hst hR kk
    | long => exact am_s_newlong C hd hJ hst hR kk
    | char => exact am_s_newchar C hd hJ hst hR kk
    | boolean => exact am_s_newbool C hd hJ hst hR kk
    | float => exact (hbad _ hst).elim
    | double => exact (hbad _ hst).elim
    | byte => exact (hbad _ hst).elim
    | short => exact (hbad _ hst).elim
  | anewarray k =>
    obtain rfl : len = 3 := am_ln hlen rfl (by decide)
    exact am_s_anewarray C hd hJ hst hR kk
  | invokestatic k =>
    obtain rfl : len = 3 := am_ln hlen rfl (by decide)
    cases hk : am_ll oc k with
    | none =>
      exfalso
      unfold am_enc at hst; dsimp only at hst; rw [hk] at hst
      exact hbad _ hst
    | some q =>
      obtain ⟨kd, mi, ti⟩ := q
      by_cases h5 : kd = 5
      · subst h5
        exact am_s_acopy C hd hJ hst hk hR2 kk
      · exfalso
        unfold am_enc at hst; dsimp only at hst; rw [hk] at hst; dsimp only at hst
        by_cases h0 : kd = 0
        · rw [if_pos h0] at hst
          obtain ⟨q, hq⟩ := am_28 hst
          cases hq
        · rw [if_neg h0, if_neg h5] at hst
          exact hbad _ hst
  | invokevirtual k =>
    obtain rfl : len = 3 := am_ln hlen rfl (by decide)
    cases hk : am_ll oc k with
    | none =>
      exfalso
      unfold am_enc at hst; dsimp only at hst; rw [hk] at hst
      exact hbad _ hst
    | some q =>
      obtain ⟨kd, mi, ti⟩ := q
      by_cases h6 : kd = 6
      · subst h6
        exact am_s_slen C hd hJ hst hk hR3 hR4 kk
      · by_cases h7 : kd = 7
        · subst h7
          exact am_s_schar C hd hJ hst hk hR3 hR4 kk
        · exfalso
          unfold am_enc at hst; dsimp only at hst; rw [hk] at hst; dsimp only at hst
          by_cases h0 : kd = 1
          · rw [if_pos h0] at hst
            obtain ⟨q, hq⟩ := am_28 hst
            cases hq
          · rw [if_neg h0, if_neg h6, if_neg h7] at hst
            exact hbad _ hst
  | invokespecial k =>
    obtain rfl : len = 3 := am_ln hlen rfl (by decide)
    cases hk : am_ll oc k with
    | none =>
      exfalso
      unfold am_enc at hst; dsimp only at hst; rw [hk] at hst
      exact hbad _ hst
    | some q =>
      obtain ⟨kd, mi, ti⟩ := q
      by_cases h4 : kd = 4
      · subst h4
        exact am_s_oinit C hd hJ hst hk hR2 kk
      · exfalso
        unfold am_enc at hst; dsimp only at hst; rw [hk] at hst; dsimp only at hst
        by_cases h0 : kd = 2
        · rw [if_pos h0] at hst
          obtain ⟨q, hq⟩ := am_28 hst
          cases hq
        · rw [if_neg h0] at hst
          by_cases h3 : kd = 3
          · rw [if_pos h3] at hst
            obtain ⟨q, hq⟩ := am_28 hst
            cases hq
          · rw [if_neg h3, if_neg h4] at hst
            exact hbad _ hst
  | ireturn =>
    exfalso
    unfold am_enc at hst; dsimp only at hst
    by_cases h : rt = 0 ∨ rt = 4
    · rw [if_pos h] at hst
      obtain ⟨q, hq⟩ := am_29 hst
      cases hq
    · rw [if_neg h] at hst; exact hbad _ hst
  | lreturn =>
    exfalso
    unfold am_enc at hst; dsimp only at hst
    by_cases h : rt = 1
    · rw [if_pos h] at hst
      obtain ⟨q, hq⟩ := am_29 hst
      cases hq
    · rw [if_neg h] at hst; exact hbad _ hst
  | return_ =>
    exfalso
    unfold am_enc at hst; dsimp only at hst
    by_cases h : rt = 3
    · rw [if_pos h] at hst
      obtain ⟨q, hq⟩ := am_29 hst
      cases hq
    · rw [if_neg h] at hst; exact hbad _ hst
  | _ => exact (hbad _ hst).elim

end
