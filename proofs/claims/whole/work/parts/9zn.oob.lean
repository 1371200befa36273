/-! nothing is written out of bounds -/
def aU (s : am_S) : Prop := ∀ (c k : Nat), s.1[c]? = some (20, k) → ∀ j : Int, (j < 0 ∨ (200 ≤ j ∧ (k : Int) ≤ j)) → s.2 c j = 0
def aUo : am_O → Prop
  | .inl c => aU c.2.2.2
  | .inr (.inl r) => aU r.2
  | .inr (.inr q) => aU q.2.2.2.2.2
section
variable {s : am_S}
theorem aU_f {a x v : Int} (h : aU s) (h0 : 0 ≤ x) (h1 : x < 200) : aU (s.1, am_up s.2 a x v) := fun c k hc j hj => by
  show am_up s.2 a x v c j = 0
  rw [am_un (by omega)]
  exact h c k hc j hj
theorem am_lnk {sh : am_H} {c k : Nat} (h : sh[c]? = some (20, k)) {a : Int} (e : (c : Int) = a) : am_len sh a = k := by
  subst e
  unfold am_len
  rw [List.getD_eq_getElem?_getD, Int.toNat_natCast, h]
  rfl
theorem aU_a {a x v : Int} (h : aU s) (h0 : 0 ≤ x) (h1 : x < am_len s.1 a) : aU (s.1, am_up s.2 a x v) := fun c k hc j hj => by
  show am_up s.2 a x v c j = 0
  by_cases q : (c : Int) = a ∧ j = x
  · have : am_len s.1 a = k := am_lnk hc q.1
    omega
  · rw [am_un q]
    exact h c k hc j hj
theorem aU_c {a0 sp a dp n : Int} (h : aU s) (h0 : 0 ≤ dp) (h1 : dp + n ≤ am_len s.1 a) : aU (s.1, am_cpy s.2 a0 sp a dp n) := fun c k hc j hj => by
  show am_cpy s.2 a0 sp a dp n c j = 0
  unfold am_cpy
  by_cases q : (c : Int) = a ∧ dp ≤ j ∧ j < dp + n
  · have : am_len s.1 a = k := am_lnk hc q.1
    omega
  · rw [if_neg q]
    exact h c k hc j hj
theorem aU_n {t n : Nat} (h : aU s) : aU (am_new s t n) := fun c k hc j hj => by
  show (if (c : Int) = (s.1.length : Int) then am_dfl (am_et t j.toNat) else s.2 c j) = 0
  have hc : (s.1 ++ [(t, n)])[c]? = some (20, k) := hc
  by_cases q : c < s.1.length
  · rw [if_neg (by omega)]
    rw [List.getElem?_append_left q] at hc
    exact h c k hc j hj
  · by_cases q2 : c = s.1.length
    · subst q2
      rw [List.getElem?_append_right (Nat.le_refl _)] at hc
      simp at hc
      rw [if_pos rfl, hc.1]
      simp [am_et, am_dfl]
    · rw [List.getElem?_append_right (by omega), List.getElem?_eq_none (by simp; omega)] at hc
      cases hc
def aG (x : Option am_O) : Prop := ∀ o, x = some o → aUo o
theorem G_no : aG none := fun o h => by cases h
theorem G_nx {pc : Nat} {ls st : List am_V} {s' : am_S} (hu : aU s') : aG (am_nx pc ls st s') := fun o h => by
  cases h
  exact hu
theorem G_r {v : am_V} {s' : am_S} (hu : aU s') : aG (some (.inr (.inl (v, s')))) := fun o h => by
  cases h
  exact hu
theorem G_q {m : Nat} {as ls st : List am_V} {pc : Nat} {s' : am_S} (hu : aU s') : aG (some (.inr (.inr (m, as, pc, ls, st, s')))) := fun o h => by
  cases h
  exact hu
theorem G_pv {st : List am_V} {k : am_V → List am_V → Option am_O} (h : ∀ v r, aG (k v r)) : aG (am_pv st k) := by
  unfold am_pv
  split
  · exact h _ _
  · exact G_no
theorem G_p0 {st : List am_V} {k : Int → List am_V → Option am_O} (h : ∀ v r, aG (k v r)) : aG (am_p0 st k) := by
  unfold am_p0
  split
  · exact h _ _
  · exact G_no
theorem G_p1 {st : List am_V} {k : Int → List am_V → Option am_O} (h : ∀ v r, aG (k v r)) : aG (am_p1 st k) := by
  unfold am_p1
  split
  · exact h _ _
  · exact G_no
theorem G_pr {t : Nat} {st : List am_V} {k : Int → List am_V → Option am_O} (h : ∀ v r, aG (k v r)) : aG (am_pr t st k) := by
  unfold am_pr
  split
  · split
    · exact h _ _
    · exact G_no
  · exact G_no
theorem G_if {c : Prop} [Decidable c] {x y : Option am_O} (h1 : c → aG x) (h2 : aG y) : aG (if c then x else y) := by
  split
  · rename_i q; exact h1 q
  · exact h2
theorem aU_st {op n : Nat} {xs : List Int} {ls st : List am_V} (hi : op = 21 → 0 ≤ xs.getD 1 0 ∧ xs.getD 1 0 < 200) (hU : aU s) : aG (am_st (op, n, xs) ls st s) := by
  unfold am_st
  dsimp only
  split
  all_goals (repeat (first
    | with_reducible exact G_no
    | with_reducible exact G_nx hU
    | with_reducible exact G_nx (aU_n hU)
    | with_reducible exact G_r hU
    | with_reducible exact G_q hU
    | with_reducible exact G_nx (aU_f hU (hi rfl).1 (hi rfl).2)
    | with_reducible refine G_pv (fun _ _ => ?_)
    | with_reducible refine G_p0 (fun _ _ => ?_)
    | with_reducible refine G_p1 (fun _ _ => ?_)
    | with_reducible refine G_pr (fun _ _ => ?_)
    | with_reducible refine G_if (fun hc => ?_) ?_
    | with_reducible exact G_nx (aU_a hU hc.2.2.2.1 hc.2.2.2.2)
    | with_reducible exact G_nx (aU_c hU hc.2.1 hc.2.2.2.2.1)
    | split))
theorem lk_mem {α : Type} {pc : Nat} {i : α} : ∀ {l : List (Nat × α)}, l.lookup pc = some i → (pc, i) ∈ l
  | [], h => by cases h
  | (p, x) :: l, h => by
    rw [List.lookup_cons] at h
    split at h
    · rename_i q
      have q : pc = p := by simpa using q
      cases h
      rw [q]
      exact List.mem_cons_self
    · exact List.mem_cons_of_mem _ (lk_mem h)
set_option maxRecDepth 100000 in
theorem aU_c21 : (am_C.all fun l => l.all fun q => !(q.2.1 == 21) || (decide (0 ≤ q.2.2.2.getD 1 0) && decide (q.2.2.2.getD 1 0 < 200))) = true := by decide +kernel
theorem aU_stp {mi : Nat} {c : am_K} {o : am_O} (h : am_stp mi c = some o) (hU : aU c.2.2.2) : aUo o := by
  unfold am_stp at h
  split at h
  · rename_i i hi
    obtain ⟨op, n, xs⟩ := i
    refine aU_st ?_ hU o h
    intro e
    unfold am_ins at hi
    have hm := lk_mem hi
    match hx : am_C[mi]? with
    | none => rw [hx] at hm; cases hm
    | some l =>
      rw [hx] at hm
      have h1 := List.all_eq_true.mp (List.all_eq_true.mp aU_c21 l (List.mem_of_getElem? hx)) _ hm
      simp only [e, beq_self_eq_true, Bool.not_true, Bool.false_or, Bool.and_eq_true, decide_eq_true_eq] at h1
      exact h1
  · cases h
theorem aU_run : ∀ (n d mi : Nat) (c : am_K) (v : am_V) (s' : am_S), am_run n d mi c = some (v, s') → aU c.2.2.2 → aU s' := by
  intro n
  induction n with
  | zero => intro d mi c v s' h _; cases h
  | succ n ih =>
    intro d mi c v s' h hU
    unfold am_run at h
    split at h
    · cases h
    · rename_i c' hc
      exact ih _ _ _ _ _ h (aU_stp hc hU)
    · rename_i r hc
      have := aU_stp hc hU
      cases h
      exact this
    · rename_i m' as pc ls st s1 hc
      have h1 := aU_stp hc hU
      split at h
      · cases h
      · split at h
        · cases h
        · rename_i v2 s2 hr
          exact ih _ _ _ _ _ h (ih _ _ _ _ _ hr h1)
end
