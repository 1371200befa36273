theorem am_ok0 {sh : am_H} {x : Int} (h : am_inI x) : am_okv sh (0, x) := ⟨fun _ => h, fun q => (by cases q), fun q => absurd q (by show ¬ 20 ≤ 0; decide)⟩
theorem am_ok1 {sh : am_H} {x : Int} (h : am_inL x) : am_okv sh (1, x) := ⟨fun q => (by cases q), fun _ => h, fun q => absurd q (by show ¬ 20 ≤ 1; decide)⟩
theorem am_ok2 {sh : am_H} {x : Int} : am_okv sh (2, x) := ⟨fun q => (by cases q), fun q => (by cases q), fun q => absurd q (by show ¬ 20 ≤ 2; decide)⟩
theorem am_ok30 {sh : am_H} {x : Int} : am_okv sh (30, x) := ⟨fun q => (by cases q), fun q => (by cases q), fun _ q => absurd rfl q⟩
theorem am_rv_ext {sa : Nat} {ad z : List Nat} {sh : am_H} {v : am_V} (hl : ad.length = sh.length) (h : am_okv sh v) : am_rv sa (ad ++ z) v = am_rv sa ad v := by
  unfold am_rv
  by_cases h0 : v.1 = 0
  · rw [if_pos h0, if_pos h0]
  rw [if_neg h0, if_neg h0]
  by_cases h1 : v.1 = 1
  · rw [if_pos h1, if_pos h1]
  rw [if_neg h1, if_neg h1]
  by_cases h4 : v.1 = 30
  · rw [if_pos h4, if_pos h4]
  rw [if_neg h4, if_neg h4]
  by_cases h5 : v.2 < 0 ∨ v.1 < 20
  · rw [if_pos h5, if_pos h5]
  rw [if_neg h5, if_neg h5]
  obtain ⟨n, hn2⟩ := h.2.2 (by omega) h4 (by omega)
  have hlt : v.2.toNat < ad.length := by rw [hl]; exact (List.getElem?_eq_some_iff.mp hn2).1
  simp [List.getD_eq_getElem?_getD, List.getElem?_append_left hlt]
theorem am_lv_set1 {sa : Nat} {ad : List Nat} {k : Nat} {v : am_V} {L : List am_V} (hk : k < L.length) : ∀ q ∈ am_lv sa ad (am_set1 k v L), q ∈ (k, am_rv sa ad v) :: (am_lv sa ad L).filter (fun q => !(q.1 == k) && !(q.1 + 1 == k && q.2.category == 2)) := by
  intro q hq
  obtain ⟨w, hw, h2, he⟩ := am_lv_of hq
  obtain ⟨i, x⟩ := q
  dsimp only at hw he
  subst he
  by_cases hi : i = k
  · subst hi
    have hlen : i < (am_clr i L).length := by
      unfold am_clr; split
      · exact hk
      · split <;> simp <;> omega
    unfold am_set1 at hw
    rw [List.getElem?_set_self hlen] at hw
    cases hw
    exact List.mem_cons_self
  · unfold am_set1 at hw
    rw [List.getElem?_set_ne (fun q => hi q.symm)] at hw
    have key : L[i]? = some w ∧ ¬ (i + 1 = k ∧ w.1 = 1) := by
      unfold am_clr at hw
      split at hw
      · exact ⟨hw, fun q => by omega⟩
      · rename_i j
        split at hw
        · rename_i y hj
          by_cases hij : i = j
          · subst hij
            rw [List.getElem?_set_self (List.getElem?_eq_some_iff.mp hj).1] at hw
            cases hw
            exact absurd rfl h2
          · rw [List.getElem?_set_ne (fun q => hij q.symm)] at hw
            exact ⟨hw, fun q => by omega⟩
        · rename_i hno
          refine ⟨hw, fun q => ?_⟩
          have : i = j := by omega
          subst this
          obtain ⟨t, y⟩ := w
          have h1 : t = 1 := q.2
          subst h1
          exact hno y hw
    refine List.mem_cons_of_mem _ (List.mem_filter.mpr ⟨am_lv_mem key.1 h2, ?_⟩)
    have h5 : (am_rv sa ad w).category = if w.1 = 1 then 2 else 1 := am_cat2
    by_cases h6 : w.1 = 1
    · have : ¬ i + 1 = k := fun q => key.2 ⟨q, h6⟩
      simp [hi, this]
    · rw [if_neg h6] at h5
      simp [hi, h5]
theorem am_lv_set2 {sa : Nat} {ad : List Nat} {k : Nat} {v : am_V} {L : List am_V} (hk : k + 1 < L.length) : ∀ q ∈ am_lv sa ad (am_set2 k v L), q ∈ (k, am_rv sa ad v) :: (am_lv sa ad L).filter (fun q => !(q.1 == k) && (!(q.1 == k + 1) && !(q.1 + 1 == k && q.2.category == 2))) := by
  intro q hq
  obtain ⟨w, hw, h2, he⟩ := am_lv_of hq
  obtain ⟨i, x⟩ := q
  dsimp only at hw he
  subst he
  have hlen : k + 1 < (am_set1 k v L).length := by
    unfold am_set1 am_clr; split
    · simpa using hk
    · split <;> simp <;> omega
  unfold am_set2 at hw
  by_cases h1 : i = k + 1
  · subst h1
    rw [List.getElem?_set_self (by simpa [am_set1] using hlen)] at hw
    cases hw
    exact absurd rfl h2
  · rw [List.getElem?_set_ne (fun q => h1 q.symm)] at hw
    have := am_lv_set1 (sa := sa) (ad := ad) (k := k) (v := v) (L := L) (by omega) _ (am_lv_mem (sa := sa) (ad := ad) (L := am_set1 k v L) hw h2)
    rcases List.mem_cons.mp this with h | h
    · rw [h]; exact List.mem_cons_self
    · obtain ⟨h3, h4⟩ := List.mem_filter.mp h
      refine List.mem_cons_of_mem _ (List.mem_filter.mpr ⟨h3, ?_⟩)
      simp only [Bool.and_eq_true] at h4 ⊢
      exact ⟨h4.1, by simp [h1], h4.2⟩
theorem am_mem_clr {k : Nat} {L : List am_V} {w : am_V} (h : w ∈ am_clr k L) : w = (2, 0) ∨ w ∈ L := by
  unfold am_clr at h
  split at h
  · exact Or.inr h
  · split at h
    · rcases List.mem_or_eq_of_mem_set h with h | h
      · exact Or.inr h
      · exact Or.inl h
    · exact Or.inr h
theorem am_mem_set1 {k : Nat} {v : am_V} {L : List am_V} {w : am_V} (h : w ∈ am_set1 k v L) : w = v ∨ w = (2, 0) ∨ w ∈ L := by
  rcases List.mem_or_eq_of_mem_set h with h | h
  · exact Or.inr (am_mem_clr h)
  · exact Or.inl h
theorem am_mem_set2 {k : Nat} {v : am_V} {L : List am_V} {w : am_V} (h : w ∈ am_set2 k v L) : w = v ∨ w = (2, 0) ∨ w ∈ L := by
  rcases List.mem_or_eq_of_mem_set h with h | h
  · exact am_mem_set1 h
  · exact Or.inr (Or.inl h)
theorem am_clr_len {k : Nat} {L : List am_V} : (am_clr k L).length = L.length := by
  unfold am_clr; split
  · rfl
  · split <;> simp
theorem am_set1_len {k : Nat} {v : am_V} {L : List am_V} : (am_set1 k v L).length = L.length := by simp [am_set1, am_clr_len]
theorem am_set2_len {k : Nat} {v : am_V} {L : List am_V} : (am_set2 k v L).length = L.length := by simp [am_set2, am_clr_len]
theorem am_ld_some {kc : Int} {k n : Nat} {L S : List am_V} {s : am_S} {q : am_K} (h : am_st (2, n, [kc, (k : Int)]) L S s = some (.inl q)) : ∃ v, L[k]? = some v ∧ am_kd kc.toNat v = true ∧ q = (n, L, v :: S, s) := by
  have h : (match L[((k : Int)).toNat]? with | some v => if am_kd kc.toNat v = true then am_nx n L (v :: S) s else none | none => none) = some (Sum.inl q) := h
  rw [Int.toNat_natCast] at h
  cases hL : L[k]? with
  | none => rw [hL] at h; cases h
  | some v =>
    rw [hL] at h
    dsimp only at h
    split at h
    · exact ⟨v, rfl, by assumption, am_nx_some h⟩
    · cases h
theorem am_sto_some {kc : Int} {k n : Nat} {L S : List am_V} {s : am_S} {q : am_K} (h : am_st (3, n, [kc, (k : Int)]) L S s = some (.inl q)) : ∃ v r, S = v :: r ∧ am_kd kc.toNat v = true ∧ k + (if v.1 = 1 then 1 else 0) < L.length ∧ q = (n, if v.1 = 1 then am_set2 k v L else am_set1 k v L, r, s) := by
  obtain ⟨v, r, rfl, h'⟩ := am_pv_some (show am_pv S (fun v r => if am_kd kc.toNat v = true ∧ ((k : Int)).toNat + (if v.1 = 1 then 1 else 0) < L.length then (if v.1 = 1 then am_nx n (am_set2 ((k : Int)).toNat v L) r s else am_nx n (am_set1 ((k : Int)).toNat v L) r s) else none) = some (Sum.inl q) from h)
  clear h
  have h := h'
  clear h'
  rw [Int.toNat_natCast] at h
  by_cases h2 : am_kd kc.toNat v = true ∧ (k + if v.1 = 1 then 1 else 0) < L.length
  · rw [if_pos h2] at h
    refine ⟨v, r, rfl, h2.1, h2.2, ?_⟩
    by_cases h1 : v.1 = 1
    · rw [if_pos h1] at h
      rw [am_nx_some h, if_pos h1]
    · rw [if_neg h1] at h
      rw [am_nx_some h, if_neg h1]
  · rw [if_neg h2] at h; cases h
theorem am_kd0 {v : am_V} (h : am_kd 0 v = true) : v = (0, v.2) := by
  obtain ⟨t, x⟩ := v
  have h : (t == 0) = true := h
  rw [show t = 0 from by simpa using h]
theorem am_kd1 {v : am_V} (h : am_kd 1 v = true) : v = (1, v.2) := by
  obtain ⟨t, x⟩ := v
  have h : (t == 1) = true := h
  rw [show t = 1 from by simpa using h]
theorem am_kd2 {v : am_V} (h : am_kd 2 v = true) : 20 ≤ v.1 ∧ ¬ v.1 = 30 ∧ 0 ≤ v.2 := by
  have h : (decide (20 ≤ v.1) && !(v.1 == 30) && decide (0 ≤ v.2)) = true := h
  simp only [Bool.and_eq_true, decide_eq_true_eq, Bool.not_eq_true', beq_eq_false_iff_ne] at h
  exact ⟨h.1.1, h.1.2, h.2⟩

section
variable {p : Program} {l : Launch} {e : Env} {R : Room} {s : State} {m : MethodId} {args : Array Value} {below : List Frame} {meth : Method} {c : Code} {H : Heap} {locs : List Loc} {cells slots : Nat} {Q : State → Prop} {D : va_G} {dA : Nat → ClassId} {sa sv : Nat} {A : Nat → Prop} {cc : ByteArray} {ml oc rt : Nat} {ini : Bool} {own : String} {pc : Nat} {ls : Array Slot} {ad : List Nat} {sh sh' : am_H} {f f' : am_F} {L S L' S' : List am_V} {pc' : Nat}

abbrev am_KK (p : Program) (l : Launch) (e : Env) (R : Room) (s : State) (m : MethodId) (args : Array Value) (below : List Frame) (meth : Method) (c : Code) (D : va_G) (dA : Nat → ClassId) (sa : Nat) (A : Nat → Prop) (ml cells slots : Nat) (Q : State → Prop) (ad : List Nat) (sh : am_H) (pc' : Nat) (L' S' : List am_V) (sh' : am_H) (f' : am_F) : Prop :=
  ∀ (ad' : List Nat) (ls' : Array Slot) (H' : Heap) (locs' : List Loc), (∃ z, ad' = ad ++ z) → am_J D dA sa ad' A s.heap ml ls' L' S' sh' f' H' locs' → W p l e R s m args below meth c H' locs' (cells + (sh'.length - sh.length)) (slots + (am_tot sh' - am_tot sh)) Q (F0 m pc' ls' (S'.map (am_rv sa ad')))

theorem am_s_iconst {v : Int} (C : am_Cx p s m args meth c D dA sa sv A cc ml oc ini own) (hd : decode cc pc = .ok (.iconst v, 1)) (hJ : am_J D dA sa ad A s.heap ml ls L S sh f H locs) (hst : am_st (am_enc oc ini rt pc (.iconst v) (pc + 1)) L S (sh, f) = some (.inl (pc', L', S', sh', f'))) (kk : am_KK p l e R s m args below meth c D dA sa A ml cells slots Q ad sh pc' L' S' sh' f') : W p l e R s m args below meth c H locs cells slots Q (F0 m pc ls (S.map (am_rv sa ad))) := by
  obtain ⟨hx, hb, hml, hon, hown, hts, hK, hA, hin, hFo, hlk⟩ := C
  by_cases h : (-128) ≤ v ∧ v ≤ 127
  · have hst : am_nx (pc + 1) L ((0, v) :: S) (sh, f) = some (.inl (pc', L', S', sh', f')) := by
      rw [← hst]; unfold am_enc; dsimp only; rw [if_pos h]; rfl
    cases am_nx_some hst
    refine lv_iconst hx hb hd (v := Int32.ofInt v) (rfl) ?_
    have k0 := kk ad ls H locs ⟨[], (List.append_nil _).symm⟩ (hJ.st (List.forall_mem_cons.mpr ⟨am_ok0 ⟨by omega, by omega⟩, hJ.2.1.2⟩))
    rw [Nat.sub_self, Nat.sub_self, Nat.add_zero, Nat.add_zero] at k0
    exact k0
  · exfalso
    unfold am_enc at hst; dsimp only at hst; rw [if_neg h] at hst; cases hst

theorem am_s_bipush {v : Int} (C : am_Cx p s m args meth c D dA sa sv A cc ml oc ini own) (hd : decode cc pc = .ok (.bipush v, 2)) (hJ : am_J D dA sa ad A s.heap ml ls L S sh f H locs) (hst : am_st (am_enc oc ini rt pc (.bipush v) (pc + 2)) L S (sh, f) = some (.inl (pc', L', S', sh', f'))) (kk : am_KK p l e R s m args below meth c D dA sa A ml cells slots Q ad sh pc' L' S' sh' f') : W p l e R s m args below meth c H locs cells slots Q (F0 m pc ls (S.map (am_rv sa ad))) := by
  obtain ⟨hx, hb, hml, hon, hown, hts, hK, hA, hin, hFo, hlk⟩ := C
  by_cases h : (-128) ≤ v ∧ v ≤ 127
  · have hst : am_nx (pc + 2) L ((0, v) :: S) (sh, f) = some (.inl (pc', L', S', sh', f')) := by
      rw [← hst]; unfold am_enc; dsimp only; rw [if_pos h]; rfl
    cases am_nx_some hst
    refine lv_bipush hx hb hd (v := Int32.ofInt v) (Int8.toInt32_ofInt h.1 h.2) ?_
    have k0 := kk ad ls H locs ⟨[], (List.append_nil _).symm⟩ (hJ.st (List.forall_mem_cons.mpr ⟨am_ok0 ⟨by omega, by omega⟩, hJ.2.1.2⟩))
    rw [Nat.sub_self, Nat.sub_self, Nat.add_zero, Nat.add_zero] at k0
    exact k0
  · exfalso
    unfold am_enc at hst; dsimp only at hst; rw [if_neg h] at hst; cases hst

theorem am_s_sipush {v : Int} (C : am_Cx p s m args meth c D dA sa sv A cc ml oc ini own) (hd : decode cc pc = .ok (.sipush v, 3)) (hJ : am_J D dA sa ad A s.heap ml ls L S sh f H locs) (hst : am_st (am_enc oc ini rt pc (.sipush v) (pc + 3)) L S (sh, f) = some (.inl (pc', L', S', sh', f'))) (kk : am_KK p l e R s m args below meth c D dA sa A ml cells slots Q ad sh pc' L' S' sh' f') : W p l e R s m args below meth c H locs cells slots Q (F0 m pc ls (S.map (am_rv sa ad))) := by
  obtain ⟨hx, hb, hml, hon, hown, hts, hK, hA, hin, hFo, hlk⟩ := C
  by_cases h : (-32768) ≤ v ∧ v ≤ 32767
  · have hst : am_nx (pc + 3) L ((0, v) :: S) (sh, f) = some (.inl (pc', L', S', sh', f')) := by
      rw [← hst]; unfold am_enc; dsimp only; rw [if_pos h]; rfl
    cases am_nx_some hst
    refine lv_sipush hx hb hd (v := Int32.ofInt v) (Int16.toInt32_ofInt h.1 h.2) ?_
    have k0 := kk ad ls H locs ⟨[], (List.append_nil _).symm⟩ (hJ.st (List.forall_mem_cons.mpr ⟨am_ok0 ⟨by omega, by omega⟩, hJ.2.1.2⟩))
    rw [Nat.sub_self, Nat.sub_self, Nat.add_zero, Nat.add_zero] at k0
    exact k0
  · exfalso
    unfold am_enc at hst; dsimp only at hst; rw [if_neg h] at hst; cases hst

theorem am_s_ldc {v : Nat} (C : am_Cx p s m args meth c D dA sa sv A cc ml oc ini own) (hd : decode cc pc = .ok (.ldc v, 2)) (hJ : am_J D dA sa ad A s.heap ml ls L S sh f H locs) (hst : am_st (am_enc oc ini rt pc (.ldc v) (pc + 2)) L S (sh, f) = some (.inl (pc', L', S', sh', f'))) (hk : (am_kl oc v).isSome = true) (kk : am_KK p l e R s m args below meth c D dA sa A ml cells slots Q ad sh pc' L' S' sh' f') : W p l e R s m args below meth c H locs cells slots Q (F0 m pc ls (S.map (am_rv sa ad))) := by
  obtain ⟨hx, hb, hml, hon, hown, hts, hK, hA, hin, hFo, hlk⟩ := C
  cases hq : am_kl oc v with
  | none => rw [hq] at hk; cases hk
  | some q =>
    have hst : am_nx (pc + 2) L ((0, q.1) :: S) (sh, f) = some (.inl (pc', L', S', sh', f')) := by
      rw [← hst]; unfold am_enc; dsimp only; rw [hq]; rfl
    cases am_nx_some hst
    obtain ⟨hm, hi⟩ := am_klok hon hq
    refine lv_ldc hx hb hown (hts _ hm) hd ?_
    have k0 := kk ad ls H locs ⟨[], (List.append_nil _).symm⟩ (hJ.st (List.forall_mem_cons.mpr ⟨am_ok0 hi, hJ.2.1.2⟩))
    rw [Nat.sub_self, Nat.sub_self, Nat.add_zero, Nat.add_zero] at k0
    exact k0

theorem am_s_ldc_w {v : Nat} (C : am_Cx p s m args meth c D dA sa sv A cc ml oc ini own) (hd : decode cc pc = .ok (.ldc_w v, 3)) (hJ : am_J D dA sa ad A s.heap ml ls L S sh f H locs) (hst : am_st (am_enc oc ini rt pc (.ldc_w v) (pc + 3)) L S (sh, f) = some (.inl (pc', L', S', sh', f'))) (hk : (am_kl oc v).isSome = true) (kk : am_KK p l e R s m args below meth c D dA sa A ml cells slots Q ad sh pc' L' S' sh' f') : W p l e R s m args below meth c H locs cells slots Q (F0 m pc ls (S.map (am_rv sa ad))) := by
  obtain ⟨hx, hb, hml, hon, hown, hts, hK, hA, hin, hFo, hlk⟩ := C
  cases hq : am_kl oc v with
  | none => rw [hq] at hk; cases hk
  | some q =>
    have hst : am_nx (pc + 3) L ((0, q.1) :: S) (sh, f) = some (.inl (pc', L', S', sh', f')) := by
      rw [← hst]; unfold am_enc; dsimp only; rw [hq]; rfl
    cases am_nx_some hst
    obtain ⟨hm, hi⟩ := am_klok hon hq
    refine lv_ldcw hx hb hown (hts _ hm) hd ?_
    have k0 := kk ad ls H locs ⟨[], (List.append_nil _).symm⟩ (hJ.st (List.forall_mem_cons.mpr ⟨am_ok0 hi, hJ.2.1.2⟩))
    rw [Nat.sub_self, Nat.sub_self, Nat.add_zero, Nat.add_zero] at k0
    exact k0

theorem am_s_ldc2_w {v : Nat} (C : am_Cx p s m args meth c D dA sa sv A cc ml oc ini own) (hd : decode cc pc = .ok (.ldc2_w v, 3)) (hJ : am_J D dA sa ad A s.heap ml ls L S sh f H locs) (hst : am_st (am_enc oc ini rt pc (.ldc2_w v) (pc + 3)) L S (sh, f) = some (.inl (pc', L', S', sh', f'))) (kk : am_KK p l e R s m args below meth c D dA sa A ml cells slots Q ad sh pc' L' S' sh' f') : W p l e R s m args below meth c H locs cells slots Q (F0 m pc ls (S.map (am_rv sa ad))) := by
  obtain ⟨hx, hb, hml, hon, hown, hts, hK, hA, hin, hFo, hlk⟩ := C
  cases hq : am_jl oc v with
  | none => unfold am_enc at hst; dsimp only at hst; rw [hq] at hst; cases hst
  | some q =>
    have hst : am_nx (pc + 3) L ((1, q.1) :: S) (sh, f) = some (.inl (pc', L', S', sh', f')) := by
      rw [← hst]; unfold am_enc; dsimp only; rw [hq]; rfl
    cases am_nx_some hst
    obtain ⟨hm, hi⟩ := am_jlok hon hq
    refine lv_ldc2 hx hb hown (hts _ hm) hd ?_
    have k0 := kk ad ls H locs ⟨[], (List.append_nil _).symm⟩ (hJ.st (List.forall_mem_cons.mpr ⟨am_ok1 hi, hJ.2.1.2⟩))
    rw [Nat.sub_self, Nat.sub_self, Nat.add_zero, Nat.add_zero] at k0
    exact k0

theorem am_s_lconst {v : Fin 2} (C : am_Cx p s m args meth c D dA sa sv A cc ml oc ini own) (hd : decode cc pc = .ok (.lconst v, 1)) (hJ : am_J D dA sa ad A s.heap ml ls L S sh f H locs) (hst : am_st (am_enc oc ini rt pc (.lconst v) (pc + 1)) L S (sh, f) = some (.inl (pc', L', S', sh', f'))) (kk : am_KK p l e R s m args below meth c D dA sa A ml cells slots Q ad sh pc' L' S' sh' f') : W p l e R s m args below meth c H locs cells slots Q (F0 m pc ls (S.map (am_rv sa ad))) := by
  obtain ⟨hx, hb, hml, hon, hown, hts, hK, hA, hin, hFo, hlk⟩ := C
  have hst : am_nx (pc + 1) L ((1, ((v : Nat) : Int)) :: S) (sh, f) = some (.inl (pc', L', S', sh', f')) := hst
  cases am_nx_some hst
  refine lv_lconst hx hb hd (v := Int64.ofInt ((v : Nat) : Int)) rfl ?_
  have k0 := kk ad ls H locs ⟨[], (List.append_nil _).symm⟩ (hJ.st (List.forall_mem_cons.mpr ⟨am_ok1 ⟨by omega, by omega⟩, hJ.2.1.2⟩))
  rw [Nat.sub_self, Nat.sub_self, Nat.add_zero, Nat.add_zero] at k0
  exact k0

theorem am_s_iload {k : Nat} (C : am_Cx p s m args meth c D dA sa sv A cc ml oc ini own) (hd : decode cc pc = .ok (.iload k, 2)) (hJ : am_J D dA sa ad A s.heap ml ls L S sh f H locs) (hst : am_st (am_enc oc ini rt pc (.iload k) (pc + 2)) L S (sh, f) = some (.inl (pc', L', S', sh', f'))) (kk : am_KK p l e R s m args below meth c D dA sa A ml cells slots Q ad sh pc' L' S' sh' f') : W p l e R s m args below meth c H locs cells slots Q (F0 m pc ls (S.map (am_rv sa ad))) := by
  obtain ⟨hx, hb, hml, hon, hown, hts, hK, hA, hin, hFo, hlk⟩ := C
  obtain ⟨v, hv, hk, hq⟩ := am_ld_some (kc := 0) (k := k) (n := pc + 2) hst
  cases hq
  have hk : am_kd 0 v = true := hk
  obtain ⟨t, x⟩ := v
  cases am_kd0 hk
  refine lv_iload hx hb hd (hJ.1.1.2.2 (k, _) (am_lv_mem hv (by show ¬ 0 = 2; decide))) ?_
  have k0 := kk ad ls H locs ⟨[], (List.append_nil _).symm⟩ (hJ.st (List.forall_mem_cons.mpr ⟨hJ.2.1.1 _ (List.mem_of_getElem? hv), hJ.2.1.2⟩))
  rw [Nat.sub_self, Nat.sub_self, Nat.add_zero, Nat.add_zero] at k0
  exact k0

theorem am_s_iload_n {k : Fin 4} (C : am_Cx p s m args meth c D dA sa sv A cc ml oc ini own) (hd : decode cc pc = .ok (.iload_n k, 1)) (hJ : am_J D dA sa ad A s.heap ml ls L S sh f H locs) (hst : am_st (am_enc oc ini rt pc (.iload_n k) (pc + 1)) L S (sh, f) = some (.inl (pc', L', S', sh', f'))) (kk : am_KK p l e R s m args below meth c D dA sa A ml cells slots Q ad sh pc' L' S' sh' f') : W p l e R s m args below meth c H locs cells slots Q (F0 m pc ls (S.map (am_rv sa ad))) := by
  obtain ⟨hx, hb, hml, hon, hown, hts, hK, hA, hin, hFo, hlk⟩ := C
  obtain ⟨v, hv, hk, hq⟩ := am_ld_some (kc := 0) (k := (k : Nat)) (n := pc + 1) hst
  cases hq
  have hk : am_kd 0 v = true := hk
  obtain ⟨t, x⟩ := v
  cases am_kd0 hk
  refine lv_iload_n hx hb hd rfl (hJ.1.1.2.2 ((k : Nat), _) (am_lv_mem hv (by show ¬ 0 = 2; decide))) ?_
  have k0 := kk ad ls H locs ⟨[], (List.append_nil _).symm⟩ (hJ.st (List.forall_mem_cons.mpr ⟨hJ.2.1.1 _ (List.mem_of_getElem? hv), hJ.2.1.2⟩))
  rw [Nat.sub_self, Nat.sub_self, Nat.add_zero, Nat.add_zero] at k0
  exact k0

theorem am_s_lload {k : Nat} (C : am_Cx p s m args meth c D dA sa sv A cc ml oc ini own) (hd : decode cc pc = .ok (.lload k, 2)) (hJ : am_J D dA sa ad A s.heap ml ls L S sh f H locs) (hst : am_st (am_enc oc ini rt pc (.lload k) (pc + 2)) L S (sh, f) = some (.inl (pc', L', S', sh', f'))) (kk : am_KK p l e R s m args below meth c D dA sa A ml cells slots Q ad sh pc' L' S' sh' f') : W p l e R s m args below meth c H locs cells slots Q (F0 m pc ls (S.map (am_rv sa ad))) := by
  obtain ⟨hx, hb, hml, hon, hown, hts, hK, hA, hin, hFo, hlk⟩ := C
  obtain ⟨v, hv, hk, hq⟩ := am_ld_some (kc := 1) (k := k) (n := pc + 2) hst
  cases hq
  have hk : am_kd 1 v = true := hk
  obtain ⟨t, x⟩ := v
  cases am_kd1 hk
  refine lv_lload hx hb hd (hJ.1.1.2.2 (k, _) (am_lv_mem hv (by show ¬ 1 = 2; decide))) ?_
  have k0 := kk ad ls H locs ⟨[], (List.append_nil _).symm⟩ (hJ.st (List.forall_mem_cons.mpr ⟨hJ.2.1.1 _ (List.mem_of_getElem? hv), hJ.2.1.2⟩))
  rw [Nat.sub_self, Nat.sub_self, Nat.add_zero, Nat.add_zero] at k0
  exact k0

theorem am_s_lload_n {k : Fin 4} (C : am_Cx p s m args meth c D dA sa sv A cc ml oc ini own) (hd : decode cc pc = .ok (.lload_n k, 1)) (hJ : am_J D dA sa ad A s.heap ml ls L S sh f H locs) (hst : am_st (am_enc oc ini rt pc (.lload_n k) (pc + 1)) L S (sh, f) = some (.inl (pc', L', S', sh', f'))) (kk : am_KK p l e R s m args below meth c D dA sa A ml cells slots Q ad sh pc' L' S' sh' f') : W p l e R s m args below meth c H locs cells slots Q (F0 m pc ls (S.map (am_rv sa ad))) := by
  obtain ⟨hx, hb, hml, hon, hown, hts, hK, hA, hin, hFo, hlk⟩ := C
  obtain ⟨v, hv, hk, hq⟩ := am_ld_some (kc := 1) (k := (k : Nat)) (n := pc + 1) hst
  cases hq
  have hk : am_kd 1 v = true := hk
  obtain ⟨t, x⟩ := v
  cases am_kd1 hk
  refine lv_lload_n hx hb hd rfl (hJ.1.1.2.2 ((k : Nat), _) (am_lv_mem hv (by show ¬ 1 = 2; decide))) ?_
  have k0 := kk ad ls H locs ⟨[], (List.append_nil _).symm⟩ (hJ.st (List.forall_mem_cons.mpr ⟨hJ.2.1.1 _ (List.mem_of_getElem? hv), hJ.2.1.2⟩))
  rw [Nat.sub_self, Nat.sub_self, Nat.add_zero, Nat.add_zero] at k0
  exact k0

theorem am_s_aload {k : Nat} (C : am_Cx p s m args meth c D dA sa sv A cc ml oc ini own) (hd : decode cc pc = .ok (.aload k, 2)) (hJ : am_J D dA sa ad A s.heap ml ls L S sh f H locs) (hst : am_st (am_enc oc ini rt pc (.aload k) (pc + 2)) L S (sh, f) = some (.inl (pc', L', S', sh', f'))) (kk : am_KK p l e R s m args below meth c D dA sa A ml cells slots Q ad sh pc' L' S' sh' f') : W p l e R s m args below meth c H locs cells slots Q (F0 m pc ls (S.map (am_rv sa ad))) := by
  obtain ⟨hx, hb, hml, hon, hown, hts, hK, hA, hin, hFo, hlk⟩ := C
  obtain ⟨v, hv, hk, hq⟩ := am_ld_some (kc := 2) (k := k) (n := pc + 2) hst
  cases hq
  have hk : am_kd 2 v = true := hk
  obtain ⟨g1, g2, g3⟩ := am_kd2 hk
  obtain ⟨t, x⟩ := v
  have hl := hJ.1.1.2.2 (k, _) (am_lv_mem hv (by show ¬ t = 2; have : 20 ≤ t := g1; omega))
  dsimp only at hl g1 g2 g3
  rw [am_rvr g1 g2 g3] at hl
  refine lv_aload hx hb hd hl ?_
  rw [← am_rvr (sa := sa) (ad := ad) g1 g2 g3]
  have k0 := kk ad ls H locs ⟨[], (List.append_nil _).symm⟩ (hJ.st (List.forall_mem_cons.mpr ⟨hJ.2.1.1 _ (List.mem_of_getElem? hv), hJ.2.1.2⟩))
  rw [Nat.sub_self, Nat.sub_self, Nat.add_zero, Nat.add_zero] at k0
  exact k0

theorem am_s_aload_n {k : Fin 4} (C : am_Cx p s m args meth c D dA sa sv A cc ml oc ini own) (hd : decode cc pc = .ok (.aload_n k, 1)) (hJ : am_J D dA sa ad A s.heap ml ls L S sh f H locs) (hst : am_st (am_enc oc ini rt pc (.aload_n k) (pc + 1)) L S (sh, f) = some (.inl (pc', L', S', sh', f'))) (kk : am_KK p l e R s m args below meth c D dA sa A ml cells slots Q ad sh pc' L' S' sh' f') : W p l e R s m args below meth c H locs cells slots Q (F0 m pc ls (S.map (am_rv sa ad))) := by
  obtain ⟨hx, hb, hml, hon, hown, hts, hK, hA, hin, hFo, hlk⟩ := C
  obtain ⟨v, hv, hk, hq⟩ := am_ld_some (kc := 2) (k := (k : Nat)) (n := pc + 1) hst
  cases hq
  have hk : am_kd 2 v = true := hk
  obtain ⟨g1, g2, g3⟩ := am_kd2 hk
  obtain ⟨t, x⟩ := v
  have hl := hJ.1.1.2.2 ((k : Nat), _) (am_lv_mem hv (by show ¬ t = 2; have : 20 ≤ t := g1; omega))
  dsimp only at hl g1 g2 g3
  rw [am_rvr g1 g2 g3] at hl
  refine lv_aload_n hx hb hd rfl hl ?_
  rw [← am_rvr (sa := sa) (ad := ad) g1 g2 g3]
  have k0 := kk ad ls H locs ⟨[], (List.append_nil _).symm⟩ (hJ.st (List.forall_mem_cons.mpr ⟨hJ.2.1.1 _ (List.mem_of_getElem? hv), hJ.2.1.2⟩))
  rw [Nat.sub_self, Nat.sub_self, Nat.add_zero, Nat.add_zero] at k0
  exact k0

theorem am_s_istore {k : Nat} (C : am_Cx p s m args meth c D dA sa sv A cc ml oc ini own) (hd : decode cc pc = .ok (.istore k, 2)) (hJ : am_J D dA sa ad A s.heap ml ls L S sh f H locs) (hst : am_st (am_enc oc ini rt pc (.istore k) (pc + 2)) L S (sh, f) = some (.inl (pc', L', S', sh', f'))) (kk : am_KK p l e R s m args below meth c D dA sa A ml cells slots Q ad sh pc' L' S' sh' f') : W p l e R s m args below meth c H locs cells slots Q (F0 m pc ls (S.map (am_rv sa ad))) := by
  obtain ⟨hx, hb, hml, hon, hown, hts, hK, hA, hin, hFo, hlk⟩ := C
  obtain ⟨v, r, rfl, hk, hlt, hq⟩ := am_sto_some (kc := 0) (k := k) (n := pc + 2) hst
  obtain ⟨ov, hr⟩ := List.forall_mem_cons.mp hJ.2.1.2
  have hk : am_kd 0 v = true := hk
  obtain ⟨t, x⟩ := v
  cases am_kd0 hk
  rw [if_neg (by show ¬ (0 : Nat) = 1; decide)] at hlt hq
  cases hq
  rw [List.map_cons]
  refine lv_istore hx hb hd hJ.1.1 (by rw [← hJ.1.2]; simpa using hlt) rfl (fun ls1 hl1 => ?_)
  have hl2 : lv_has ls1 ml (am_lv sa ad (am_set1 k (0, x) L)) := am_lh_sub hl1 (am_lv_set1 (by simpa using hlt))
  have k0 := kk ad ls1 H locs ⟨[], (List.append_nil _).symm⟩ ⟨⟨hl2, by rw [am_set1_len]; exact hJ.1.2⟩, ⟨fun w hw => ?_, hr⟩, hJ.2.2⟩
  · rw [Nat.sub_self, Nat.sub_self, Nat.add_zero, Nat.add_zero] at k0
    exact k0
  · rcases am_mem_set1 hw with rfl | rfl | h
    · exact ov
    · exact am_ok2
    · exact hJ.2.1.1 w h

theorem am_s_istore_n {k : Fin 4} (C : am_Cx p s m args meth c D dA sa sv A cc ml oc ini own) (hd : decode cc pc = .ok (.istore_n k, 1)) (hJ : am_J D dA sa ad A s.heap ml ls L S sh f H locs) (hst : am_st (am_enc oc ini rt pc (.istore_n k) (pc + 1)) L S (sh, f) = some (.inl (pc', L', S', sh', f'))) (kk : am_KK p l e R s m args below meth c D dA sa A ml cells slots Q ad sh pc' L' S' sh' f') : W p l e R s m args below meth c H locs cells slots Q (F0 m pc ls (S.map (am_rv sa ad))) := by
  obtain ⟨hx, hb, hml, hon, hown, hts, hK, hA, hin, hFo, hlk⟩ := C
  obtain ⟨v, r, rfl, hk, hlt, hq⟩ := am_sto_some (kc := 0) (k := (k : Nat)) (n := pc + 1) hst
  obtain ⟨ov, hr⟩ := List.forall_mem_cons.mp hJ.2.1.2
  have hk : am_kd 0 v = true := hk
  obtain ⟨t, x⟩ := v
  cases am_kd0 hk
  rw [if_neg (by show ¬ (0 : Nat) = 1; decide)] at hlt hq
  cases hq
  rw [List.map_cons]
  refine lv_istore_n hx hb hd rfl hJ.1.1 (by rw [← hJ.1.2]; simpa using hlt) rfl (fun ls1 hl1 => ?_)
  have hl2 : lv_has ls1 ml (am_lv sa ad (am_set1 (k : Nat) (0, x) L)) := am_lh_sub hl1 (am_lv_set1 (by simpa using hlt))
  have k0 := kk ad ls1 H locs ⟨[], (List.append_nil _).symm⟩ ⟨⟨hl2, by rw [am_set1_len]; exact hJ.1.2⟩, ⟨fun w hw => ?_, hr⟩, hJ.2.2⟩
  · rw [Nat.sub_self, Nat.sub_self, Nat.add_zero, Nat.add_zero] at k0
    exact k0
  · rcases am_mem_set1 hw with rfl | rfl | h
    · exact ov
    · exact am_ok2
    · exact hJ.2.1.1 w h

theorem am_s_lstore {k : Nat} (C : am_Cx p s m args meth c D dA sa sv A cc ml oc ini own) (hd : decode cc pc = .ok (.lstore k, 2)) (hJ : am_J D dA sa ad A s.heap ml ls L S sh f H locs) (hst : am_st (am_enc oc ini rt pc (.lstore k) (pc + 2)) L S (sh, f) = some (.inl (pc', L', S', sh', f'))) (kk : am_KK p l e R s m args below meth c D dA sa A ml cells slots Q ad sh pc' L' S' sh' f') : W p l e R s m args below meth c H locs cells slots Q (F0 m pc ls (S.map (am_rv sa ad))) := by
  obtain ⟨hx, hb, hml, hon, hown, hts, hK, hA, hin, hFo, hlk⟩ := C
  obtain ⟨v, r, rfl, hk, hlt, hq⟩ := am_sto_some (kc := 1) (k := k) (n := pc + 2) hst
  obtain ⟨ov, hr⟩ := List.forall_mem_cons.mp hJ.2.1.2
  have hk : am_kd 1 v = true := hk
  obtain ⟨t, x⟩ := v
  cases am_kd1 hk
  rw [if_pos rfl] at hlt hq
  cases hq
  rw [List.map_cons]
  refine lv_lstore hx hb hd hJ.1.1 (by rw [← hJ.1.2]; exact hlt) rfl (fun ls1 hl1 => ?_)
  have hl2 : lv_has ls1 ml (am_lv sa ad (am_set2 k (1, x) L)) := am_lh_sub hl1 (am_lv_set2 (by exact hlt))
  have k0 := kk ad ls1 H locs ⟨[], (List.append_nil _).symm⟩ ⟨⟨hl2, by rw [am_set2_len]; exact hJ.1.2⟩, ⟨fun w hw => ?_, hr⟩, hJ.2.2⟩
  · rw [Nat.sub_self, Nat.sub_self, Nat.add_zero, Nat.add_zero] at k0
    exact k0
  · rcases am_mem_set2 hw with rfl | rfl | h
    · exact ov
    · exact am_ok2
    · exact hJ.2.1.1 w h

theorem am_s_lstore_n {k : Fin 4} (C : am_Cx p s m args meth c D dA sa sv A cc ml oc ini own) (hd : decode cc pc = .ok (.lstore_n k, 1)) (hJ : am_J D dA sa ad A s.heap ml ls L S sh f H locs) (hst : am_st (am_enc oc ini rt pc (.lstore_n k) (pc + 1)) L S (sh, f) = some (.inl (pc', L', S', sh', f'))) (kk : am_KK p l e R s m args below meth c D dA sa A ml cells slots Q ad sh pc' L' S' sh' f') : W p l e R s m args below meth c H locs cells slots Q (F0 m pc ls (S.map (am_rv sa ad))) := by
  obtain ⟨hx, hb, hml, hon, hown, hts, hK, hA, hin, hFo, hlk⟩ := C
  obtain ⟨v, r, rfl, hk, hlt, hq⟩ := am_sto_some (kc := 1) (k := (k : Nat)) (n := pc + 1) hst
  obtain ⟨ov, hr⟩ := List.forall_mem_cons.mp hJ.2.1.2
  have hk : am_kd 1 v = true := hk
  obtain ⟨t, x⟩ := v
  cases am_kd1 hk
  rw [if_pos rfl] at hlt hq
  cases hq
  rw [List.map_cons]
  refine lv_lstore_n hx hb hd rfl hJ.1.1 (by rw [← hJ.1.2]; exact hlt) rfl (fun ls1 hl1 => ?_)
  have hl2 : lv_has ls1 ml (am_lv sa ad (am_set2 (k : Nat) (1, x) L)) := am_lh_sub hl1 (am_lv_set2 (by exact hlt))
  have k0 := kk ad ls1 H locs ⟨[], (List.append_nil _).symm⟩ ⟨⟨hl2, by rw [am_set2_len]; exact hJ.1.2⟩, ⟨fun w hw => ?_, hr⟩, hJ.2.2⟩
  · rw [Nat.sub_self, Nat.sub_self, Nat.add_zero, Nat.add_zero] at k0
    exact k0
  · rcases am_mem_set2 hw with rfl | rfl | h
    · exact ov
    · exact am_ok2
    · exact hJ.2.1.1 w h

theorem am_s_astore {k : Nat} (C : am_Cx p s m args meth c D dA sa sv A cc ml oc ini own) (hd : decode cc pc = .ok (.astore k, 2)) (hJ : am_J D dA sa ad A s.heap ml ls L S sh f H locs) (hst : am_st (am_enc oc ini rt pc (.astore k) (pc + 2)) L S (sh, f) = some (.inl (pc', L', S', sh', f'))) (kk : am_KK p l e R s m args below meth c D dA sa A ml cells slots Q ad sh pc' L' S' sh' f') : W p l e R s m args below meth c H locs cells slots Q (F0 m pc ls (S.map (am_rv sa ad))) := by
  obtain ⟨hx, hb, hml, hon, hown, hts, hK, hA, hin, hFo, hlk⟩ := C
  obtain ⟨v, r, rfl, hk, hlt, hq⟩ := am_sto_some (kc := 2) (k := k) (n := pc + 2) hst
  obtain ⟨ov, hr⟩ := List.forall_mem_cons.mp hJ.2.1.2
  have hk : am_kd 2 v = true := hk
  obtain ⟨g1, g2, g3⟩ := am_kd2 hk
  obtain ⟨t, x⟩ := v
  dsimp only at g1 g2 g3
  rw [if_neg (by show ¬ t = 1; omega)] at hlt hq
  cases hq
  have ev := am_rvr (sa := sa) (ad := ad) g1 g2 g3
  rw [List.map_cons, ev]
  refine lv_astore hx hb hd hJ.1.1 (by rw [← hJ.1.2]; simpa using hlt) rfl (fun ls1 hl1 => ?_)
  rw [← ev] at hl1
  have hl2 : lv_has ls1 ml (am_lv sa ad (am_set1 k (t, x) L)) := am_lh_sub hl1 (am_lv_set1 (by simpa using hlt))
  have k0 := kk ad ls1 H locs ⟨[], (List.append_nil _).symm⟩ ⟨⟨hl2, by rw [am_set1_len]; exact hJ.1.2⟩, ⟨fun w hw => ?_, hr⟩, hJ.2.2⟩
  · rw [Nat.sub_self, Nat.sub_self, Nat.add_zero, Nat.add_zero] at k0
    exact k0
  · rcases am_mem_set1 hw with rfl | rfl | h
    · exact ov
    · exact am_ok2
    · exact hJ.2.1.1 w h

theorem am_s_astore_n {k : Fin 4} (C : am_Cx p s m args meth c D dA sa sv A cc ml oc ini own) (hd : decode cc pc = .ok (.astore_n k, 1)) (hJ : am_J D dA sa ad A s.heap ml ls L S sh f H locs) (hst : am_st (am_enc oc ini rt pc (.astore_n k) (pc + 1)) L S (sh, f) = some (.inl (pc', L', S', sh', f'))) (kk : am_KK p l e R s m args below meth c D dA sa A ml cells slots Q ad sh pc' L' S' sh' f') : W p l e R s m args below meth c H locs cells slots Q (F0 m pc ls (S.map (am_rv sa ad))) := by
  obtain ⟨hx, hb, hml, hon, hown, hts, hK, hA, hin, hFo, hlk⟩ := C
  obtain ⟨v, r, rfl, hk, hlt, hq⟩ := am_sto_some (kc := 2) (k := (k : Nat)) (n := pc + 1) hst
  obtain ⟨ov, hr⟩ := List.forall_mem_cons.mp hJ.2.1.2
  have hk : am_kd 2 v = true := hk
  obtain ⟨g1, g2, g3⟩ := am_kd2 hk
  obtain ⟨t, x⟩ := v
  dsimp only at g1 g2 g3
  rw [if_neg (by show ¬ t = 1; omega)] at hlt hq
  cases hq
  have ev := am_rvr (sa := sa) (ad := ad) g1 g2 g3
  rw [List.map_cons, ev]
  refine lv_astore_n hx hb hd rfl hJ.1.1 (by rw [← hJ.1.2]; simpa using hlt) rfl (fun ls1 hl1 => ?_)
  rw [← ev] at hl1
  have hl2 : lv_has ls1 ml (am_lv sa ad (am_set1 (k : Nat) (t, x) L)) := am_lh_sub hl1 (am_lv_set1 (by simpa using hlt))
  have k0 := kk ad ls1 H locs ⟨[], (List.append_nil _).symm⟩ ⟨⟨hl2, by rw [am_set1_len]; exact hJ.1.2⟩, ⟨fun w hw => ?_, hr⟩, hJ.2.2⟩
  · rw [Nat.sub_self, Nat.sub_self, Nat.add_zero, Nat.add_zero] at k0
    exact k0
  · rcases am_mem_set1 hw with rfl | rfl | h
    · exact ov
    · exact am_ok2
    · exact hJ.2.1.1 w h

theorem am_s_iinc {k : Nat} {v : Int} (C : am_Cx p s m args meth c D dA sa sv A cc ml oc ini own) (hd : decode cc pc = .ok (.iinc k v, 3)) (hJ : am_J D dA sa ad A s.heap ml ls L S sh f H locs) (hst : am_st (am_enc oc ini rt pc (.iinc k v) (pc + 3)) L S (sh, f) = some (.inl (pc', L', S', sh', f'))) (kk : am_KK p l e R s m args below meth c D dA sa A ml cells slots Q ad sh pc' L' S' sh' f') : W p l e R s m args below meth c H locs cells slots Q (F0 m pc ls (S.map (am_rv sa ad))) := by
  obtain ⟨hx, hb, hml, hon, hown, hts, hK, hA, hin, hFo, hlk⟩ := C
  have hst : (match L[((k : Int)).toNat]? with | some (0, y) => am_nx (pc + 3) (am_set1 ((k : Int)).toNat (0, am_wI (y + v)) L) S (sh, f) | _ => none) = some (Sum.inl (pc', L', S', sh', f')) := hst
  rw [Int.toNat_natCast] at hst
  split at hst
  · rename_i y hy
    cases am_nx_some hst
    have hlt : k < L.length := (List.getElem?_eq_some_iff.mp hy).1
    obtain ⟨j, hj⟩ := List.getElem?_of_mem (am_lv_mem (sa := sa) (ad := ad) hy (by show ¬ 0 = 2; decide))
    refine lv_iinc hx hb hd hJ.1.1 (k := j) (v := Int32.ofInt (am_wI (y + v))) hj (by rw [am_ofw, Int32.ofInt_add]) (by rw [← hJ.1.2]; exact hlt) rfl (fun ls1 hl1 => ?_)
    have hl2 : lv_has ls1 ml (am_lv sa ad (am_set1 k (0, am_wI (y + v)) L)) := am_lh_sub hl1 (am_lv_set1 hlt)
    have k0 := kk ad ls1 H locs ⟨[], (List.append_nil _).symm⟩ ⟨⟨hl2, by rw [am_set1_len]; exact hJ.1.2⟩, ⟨fun w hw => ?_, hJ.2.1.2⟩, hJ.2.2⟩
    · rw [Nat.sub_self, Nat.sub_self, Nat.add_zero, Nat.add_zero] at k0
      exact k0
    · rcases am_mem_set1 hw with rfl | rfl | h
      · exact am_ok0 (am_inw _)
      · exact am_ok2
      · exact hJ.2.1.1 w h
  · cases hst

theorem am_s_iadd (C : am_Cx p s m args meth c D dA sa sv A cc ml oc ini own) (hd : decode cc pc = .ok (.iadd, 1)) (hJ : am_J D dA sa ad A s.heap ml ls L S sh f H locs) (hst : am_st (am_enc oc ini rt pc (.iadd) (pc + 1)) L S (sh, f) = some (.inl (pc', L', S', sh', f'))) (kk : am_KK p l e R s m args below meth c D dA sa A ml cells slots Q ad sh pc' L' S' sh' f') : W p l e R s m args below meth c H locs cells slots Q (F0 m pc ls (S.map (am_rv sa ad))) := by
  obtain ⟨hx, hb, hml, hon, hown, hts, hK, hA, hin, hFo, hlk⟩ := C
  obtain ⟨b, r, rfl, h⟩ := am_p0_some (show am_p0 S _ = _ from hst)
  obtain ⟨a, r, rfl, h⟩ := am_p0_some h
  obtain ⟨ob, h5⟩ := List.forall_mem_cons.mp hJ.2.1.2
  obtain ⟨oa, hr⟩ := List.forall_mem_cons.mp h5
  have h : am_nx (pc + 1) L ((0, am_wI (a + b)) :: r) (sh, f) = some (.inl (pc', L', S', sh', f')) := h
  cases am_nx_some h
  have k0 := kk ad ls H locs ⟨[], (List.append_nil _).symm⟩ (hJ.st (List.forall_mem_cons.mpr ⟨am_ok0 (am_inw _), hr⟩))
  rw [Nat.sub_self, Nat.sub_self, Nat.add_zero, Nat.add_zero] at k0
  have e1 : Int32.ofInt (am_wI (a + b)) = Int32.ofInt a + Int32.ofInt b := by rw [am_ofw, Int32.ofInt_add]
  rw [List.map_cons, am_rv0, e1] at k0
  exact lv_iadd hx hb hd k0

theorem am_s_isub (C : am_Cx p s m args meth c D dA sa sv A cc ml oc ini own) (hd : decode cc pc = .ok (.isub, 1)) (hJ : am_J D dA sa ad A s.heap ml ls L S sh f H locs) (hst : am_st (am_enc oc ini rt pc (.isub) (pc + 1)) L S (sh, f) = some (.inl (pc', L', S', sh', f'))) (kk : am_KK p l e R s m args below meth c D dA sa A ml cells slots Q ad sh pc' L' S' sh' f') : W p l e R s m args below meth c H locs cells slots Q (F0 m pc ls (S.map (am_rv sa ad))) := by
  obtain ⟨hx, hb, hml, hon, hown, hts, hK, hA, hin, hFo, hlk⟩ := C
  obtain ⟨b, r, rfl, h⟩ := am_p0_some (show am_p0 S _ = _ from hst)
  obtain ⟨a, r, rfl, h⟩ := am_p0_some h
  obtain ⟨ob, h5⟩ := List.forall_mem_cons.mp hJ.2.1.2
  obtain ⟨oa, hr⟩ := List.forall_mem_cons.mp h5
  have h : am_nx (pc + 1) L ((0, am_wI (a - b)) :: r) (sh, f) = some (.inl (pc', L', S', sh', f')) := h
  cases am_nx_some h
  have k0 := kk ad ls H locs ⟨[], (List.append_nil _).symm⟩ (hJ.st (List.forall_mem_cons.mpr ⟨am_ok0 (am_inw _), hr⟩))
  rw [Nat.sub_self, Nat.sub_self, Nat.add_zero, Nat.add_zero] at k0
  have e1 : Int32.ofInt (am_wI (a - b)) = Int32.ofInt a - Int32.ofInt b := by rw [am_ofw, Int32.ofInt_sub]
  rw [List.map_cons, am_rv0, e1] at k0
  exact lv_isub hx hb hd k0

theorem am_s_imul (C : am_Cx p s m args meth c D dA sa sv A cc ml oc ini own) (hd : decode cc pc = .ok (.imul, 1)) (hJ : am_J D dA sa ad A s.heap ml ls L S sh f H locs) (hst : am_st (am_enc oc ini rt pc (.imul) (pc + 1)) L S (sh, f) = some (.inl (pc', L', S', sh', f'))) (kk : am_KK p l e R s m args below meth c D dA sa A ml cells slots Q ad sh pc' L' S' sh' f') : W p l e R s m args below meth c H locs cells slots Q (F0 m pc ls (S.map (am_rv sa ad))) := by
  obtain ⟨hx, hb, hml, hon, hown, hts, hK, hA, hin, hFo, hlk⟩ := C
  obtain ⟨b, r, rfl, h⟩ := am_p0_some (show am_p0 S _ = _ from hst)
  obtain ⟨a, r, rfl, h⟩ := am_p0_some h
  obtain ⟨ob, h5⟩ := List.forall_mem_cons.mp hJ.2.1.2
  obtain ⟨oa, hr⟩ := List.forall_mem_cons.mp h5
  have h : am_nx (pc + 1) L ((0, am_wI (a * b)) :: r) (sh, f) = some (.inl (pc', L', S', sh', f')) := h
  cases am_nx_some h
  have k0 := kk ad ls H locs ⟨[], (List.append_nil _).symm⟩ (hJ.st (List.forall_mem_cons.mpr ⟨am_ok0 (am_inw _), hr⟩))
  rw [Nat.sub_self, Nat.sub_self, Nat.add_zero, Nat.add_zero] at k0
  have e1 : Int32.ofInt (am_wI (a * b)) = Int32.ofInt a * Int32.ofInt b := by rw [am_ofw, Int32.ofInt_mul]
  rw [List.map_cons, am_rv0, e1] at k0
  exact lv_imul hx hb hd k0

theorem am_s_idiv (C : am_Cx p s m args meth c D dA sa sv A cc ml oc ini own) (hd : decode cc pc = .ok (.idiv, 1)) (hJ : am_J D dA sa ad A s.heap ml ls L S sh f H locs) (hst : am_st (am_enc oc ini rt pc (.idiv) (pc + 1)) L S (sh, f) = some (.inl (pc', L', S', sh', f'))) (kk : am_KK p l e R s m args below meth c D dA sa A ml cells slots Q ad sh pc' L' S' sh' f') : W p l e R s m args below meth c H locs cells slots Q (F0 m pc ls (S.map (am_rv sa ad))) := by
  obtain ⟨hx, hb, hml, hon, hown, hts, hK, hA, hin, hFo, hlk⟩ := C
  obtain ⟨b, r, rfl, h⟩ := am_p0_some (show am_p0 S _ = _ from hst)
  obtain ⟨a, r, rfl, h⟩ := am_p0_some h
  obtain ⟨ob, h5⟩ := List.forall_mem_cons.mp hJ.2.1.2
  obtain ⟨oa, hr⟩ := List.forall_mem_cons.mp h5
  have h : (match (if b = 0 then none else some (am_wI (a.tdiv b))) with | some v => am_nx (pc + 1) L ((0, v) :: r) (sh, f) | none => none) = some (Sum.inl (pc', L', S', sh', f')) := h
  by_cases hz : b = 0
  · rw [if_pos hz] at h; cases h
  rw [if_neg hz] at h
  have h : am_nx (pc + 1) L ((0, am_wI (a.tdiv b)) :: r) (sh, f) = some (.inl (pc', L', S', sh', f')) := h
  cases am_nx_some h
  have hz2 : ¬ Int32.ofInt b = 0 := fun q => hz ((am_eqI (ob.1 rfl) am_in0).mp q)
  have k0 := kk ad ls H locs ⟨[], (List.append_nil _).symm⟩ (hJ.st (List.forall_mem_cons.mpr ⟨am_ok0 (am_inw _), hr⟩))
  rw [Nat.sub_self, Nat.sub_self, Nat.add_zero, Nat.add_zero] at k0
  have e1 : Int32.ofInt (am_wI (a.tdiv b)) = Int32.ofInt a / Int32.ofInt b := by rw [am_ofw, am_tdv (oa.1 rfl) (ob.1 rfl)]
  rw [List.map_cons, am_rv0, e1] at k0
  exact lv_idiv hx hb hd hz2 k0

theorem am_s_irem (C : am_Cx p s m args meth c D dA sa sv A cc ml oc ini own) (hd : decode cc pc = .ok (.irem, 1)) (hJ : am_J D dA sa ad A s.heap ml ls L S sh f H locs) (hst : am_st (am_enc oc ini rt pc (.irem) (pc + 1)) L S (sh, f) = some (.inl (pc', L', S', sh', f'))) (kk : am_KK p l e R s m args below meth c D dA sa A ml cells slots Q ad sh pc' L' S' sh' f') : W p l e R s m args below meth c H locs cells slots Q (F0 m pc ls (S.map (am_rv sa ad))) := by
  obtain ⟨hx, hb, hml, hon, hown, hts, hK, hA, hin, hFo, hlk⟩ := C
  obtain ⟨b, r, rfl, h⟩ := am_p0_some (show am_p0 S _ = _ from hst)
  obtain ⟨a, r, rfl, h⟩ := am_p0_some h
  obtain ⟨ob, h5⟩ := List.forall_mem_cons.mp hJ.2.1.2
  obtain ⟨oa, hr⟩ := List.forall_mem_cons.mp h5
  have h : (match (if b = 0 then none else some (am_wI (a.tmod b))) with | some v => am_nx (pc + 1) L ((0, v) :: r) (sh, f) | none => none) = some (Sum.inl (pc', L', S', sh', f')) := h
  by_cases hz : b = 0
  · rw [if_pos hz] at h; cases h
  rw [if_neg hz] at h
  have h : am_nx (pc + 1) L ((0, am_wI (a.tmod b)) :: r) (sh, f) = some (.inl (pc', L', S', sh', f')) := h
  cases am_nx_some h
  have hz2 : ¬ Int32.ofInt b = 0 := fun q => hz ((am_eqI (ob.1 rfl) am_in0).mp q)
  have k0 := kk ad ls H locs ⟨[], (List.append_nil _).symm⟩ (hJ.st (List.forall_mem_cons.mpr ⟨am_ok0 (am_inw _), hr⟩))
  rw [Nat.sub_self, Nat.sub_self, Nat.add_zero, Nat.add_zero] at k0
  have e1 : Int32.ofInt (am_wI (a.tmod b)) = Int32.ofInt a - Int32.ofInt a / Int32.ofInt b * Int32.ofInt b := by rw [am_ofw, am_tmd (oa.1 rfl) (ob.1 rfl)]
  rw [List.map_cons, am_rv0, e1] at k0
  exact lv_irem hx hb hd hz2 k0

theorem am_s_iand (C : am_Cx p s m args meth c D dA sa sv A cc ml oc ini own) (hd : decode cc pc = .ok (.iand, 1)) (hJ : am_J D dA sa ad A s.heap ml ls L S sh f H locs) (hst : am_st (am_enc oc ini rt pc (.iand) (pc + 1)) L S (sh, f) = some (.inl (pc', L', S', sh', f'))) (kk : am_KK p l e R s m args below meth c D dA sa A ml cells slots Q ad sh pc' L' S' sh' f') : W p l e R s m args below meth c H locs cells slots Q (F0 m pc ls (S.map (am_rv sa ad))) := by
  obtain ⟨hx, hb, hml, hon, hown, hts, hK, hA, hin, hFo, hlk⟩ := C
  obtain ⟨b, r, rfl, h⟩ := am_p0_some (show am_p0 S _ = _ from hst)
  obtain ⟨a, r, rfl, h⟩ := am_p0_some h
  obtain ⟨ob, h5⟩ := List.forall_mem_cons.mp hJ.2.1.2
  obtain ⟨oa, hr⟩ := List.forall_mem_cons.mp h5
  have h : am_nx (pc + 1) L ((0, am_and a b) :: r) (sh, f) = some (.inl (pc', L', S', sh', f')) := h
  cases am_nx_some h
  have k0 := kk ad ls H locs ⟨[], (List.append_nil _).symm⟩ (hJ.st (List.forall_mem_cons.mpr ⟨am_ok0 (am_inT _), hr⟩))
  rw [Nat.sub_self, Nat.sub_self, Nat.add_zero, Nat.add_zero] at k0
  have e1 : Int32.ofInt (am_and a b) = Int32.ofInt a &&& Int32.ofInt b := Int32.ofInt_toInt _
  rw [List.map_cons, am_rv0, e1] at k0
  exact lv_iand hx hb hd k0

theorem am_s_ior (C : am_Cx p s m args meth c D dA sa sv A cc ml oc ini own) (hd : decode cc pc = .ok (.ior, 1)) (hJ : am_J D dA sa ad A s.heap ml ls L S sh f H locs) (hst : am_st (am_enc oc ini rt pc (.ior) (pc + 1)) L S (sh, f) = some (.inl (pc', L', S', sh', f'))) (kk : am_KK p l e R s m args below meth c D dA sa A ml cells slots Q ad sh pc' L' S' sh' f') : W p l e R s m args below meth c H locs cells slots Q (F0 m pc ls (S.map (am_rv sa ad))) := by
  obtain ⟨hx, hb, hml, hon, hown, hts, hK, hA, hin, hFo, hlk⟩ := C
  obtain ⟨b, r, rfl, h⟩ := am_p0_some (show am_p0 S _ = _ from hst)
  obtain ⟨a, r, rfl, h⟩ := am_p0_some h
  obtain ⟨ob, h5⟩ := List.forall_mem_cons.mp hJ.2.1.2
  obtain ⟨oa, hr⟩ := List.forall_mem_cons.mp h5
  have h : am_nx (pc + 1) L ((0, am_or a b) :: r) (sh, f) = some (.inl (pc', L', S', sh', f')) := h
  cases am_nx_some h
  have k0 := kk ad ls H locs ⟨[], (List.append_nil _).symm⟩ (hJ.st (List.forall_mem_cons.mpr ⟨am_ok0 (am_inT _), hr⟩))
  rw [Nat.sub_self, Nat.sub_self, Nat.add_zero, Nat.add_zero] at k0
  have e1 : Int32.ofInt (am_or a b) = Int32.ofInt a ||| Int32.ofInt b := Int32.ofInt_toInt _
  rw [List.map_cons, am_rv0, e1] at k0
  exact lv_ior hx hb hd k0

theorem am_s_ixor (C : am_Cx p s m args meth c D dA sa sv A cc ml oc ini own) (hd : decode cc pc = .ok (.ixor, 1)) (hJ : am_J D dA sa ad A s.heap ml ls L S sh f H locs) (hst : am_st (am_enc oc ini rt pc (.ixor) (pc + 1)) L S (sh, f) = some (.inl (pc', L', S', sh', f'))) (kk : am_KK p l e R s m args below meth c D dA sa A ml cells slots Q ad sh pc' L' S' sh' f') : W p l e R s m args below meth c H locs cells slots Q (F0 m pc ls (S.map (am_rv sa ad))) := by
  obtain ⟨hx, hb, hml, hon, hown, hts, hK, hA, hin, hFo, hlk⟩ := C
  obtain ⟨b, r, rfl, h⟩ := am_p0_some (show am_p0 S _ = _ from hst)
  obtain ⟨a, r, rfl, h⟩ := am_p0_some h
  obtain ⟨ob, h5⟩ := List.forall_mem_cons.mp hJ.2.1.2
  obtain ⟨oa, hr⟩ := List.forall_mem_cons.mp h5
  have h : am_nx (pc + 1) L ((0, am_xor a b) :: r) (sh, f) = some (.inl (pc', L', S', sh', f')) := h
  cases am_nx_some h
  have k0 := kk ad ls H locs ⟨[], (List.append_nil _).symm⟩ (hJ.st (List.forall_mem_cons.mpr ⟨am_ok0 (am_inT _), hr⟩))
  rw [Nat.sub_self, Nat.sub_self, Nat.add_zero, Nat.add_zero] at k0
  have e1 : Int32.ofInt (am_xor a b) = Int32.ofInt a ^^^ Int32.ofInt b := Int32.ofInt_toInt _
  rw [List.map_cons, am_rv0, e1] at k0
  exact lv_ixor hx hb hd k0

theorem am_s_ishl (C : am_Cx p s m args meth c D dA sa sv A cc ml oc ini own) (hd : decode cc pc = .ok (.ishl, 1)) (hJ : am_J D dA sa ad A s.heap ml ls L S sh f H locs) (hst : am_st (am_enc oc ini rt pc (.ishl) (pc + 1)) L S (sh, f) = some (.inl (pc', L', S', sh', f'))) (kk : am_KK p l e R s m args below meth c D dA sa A ml cells slots Q ad sh pc' L' S' sh' f') : W p l e R s m args below meth c H locs cells slots Q (F0 m pc ls (S.map (am_rv sa ad))) := by
  obtain ⟨hx, hb, hml, hon, hown, hts, hK, hA, hin, hFo, hlk⟩ := C
  obtain ⟨b, r, rfl, h⟩ := am_p0_some (show am_p0 S _ = _ from hst)
  obtain ⟨a, r, rfl, h⟩ := am_p0_some h
  obtain ⟨ob, h5⟩ := List.forall_mem_cons.mp hJ.2.1.2
  obtain ⟨oa, hr⟩ := List.forall_mem_cons.mp h5
  have h : am_nx (pc + 1) L ((0, am_shl a b) :: r) (sh, f) = some (.inl (pc', L', S', sh', f')) := h
  cases am_nx_some h
  have k0 := kk ad ls H locs ⟨[], (List.append_nil _).symm⟩ (hJ.st (List.forall_mem_cons.mpr ⟨am_ok0 (am_inT _), hr⟩))
  rw [Nat.sub_self, Nat.sub_self, Nat.add_zero, Nat.add_zero] at k0
  have e1 : Int32.ofInt (am_shl a b) = Int32.ofInt a <<< (Int32.ofInt b &&& 31) := Int32.ofInt_toInt _
  rw [List.map_cons, am_rv0, e1] at k0
  exact lv_ishl hx hb hd k0

theorem am_s_ishr (C : am_Cx p s m args meth c D dA sa sv A cc ml oc ini own) (hd : decode cc pc = .ok (.ishr, 1)) (hJ : am_J D dA sa ad A s.heap ml ls L S sh f H locs) (hst : am_st (am_enc oc ini rt pc (.ishr) (pc + 1)) L S (sh, f) = some (.inl (pc', L', S', sh', f'))) (kk : am_KK p l e R s m args below meth c D dA sa A ml cells slots Q ad sh pc' L' S' sh' f') : W p l e R s m args below meth c H locs cells slots Q (F0 m pc ls (S.map (am_rv sa ad))) := by
  obtain ⟨hx, hb, hml, hon, hown, hts, hK, hA, hin, hFo, hlk⟩ := C
  obtain ⟨b, r, rfl, h⟩ := am_p0_some (show am_p0 S _ = _ from hst)
  obtain ⟨a, r, rfl, h⟩ := am_p0_some h
  obtain ⟨ob, h5⟩ := List.forall_mem_cons.mp hJ.2.1.2
  obtain ⟨oa, hr⟩ := List.forall_mem_cons.mp h5
  have h : am_nx (pc + 1) L ((0, am_shr a b) :: r) (sh, f) = some (.inl (pc', L', S', sh', f')) := h
  cases am_nx_some h
  have k0 := kk ad ls H locs ⟨[], (List.append_nil _).symm⟩ (hJ.st (List.forall_mem_cons.mpr ⟨am_ok0 (am_inT _), hr⟩))
  rw [Nat.sub_self, Nat.sub_self, Nat.add_zero, Nat.add_zero] at k0
  have e1 : Int32.ofInt (am_shr a b) = Int32.ofInt a >>> (Int32.ofInt b &&& 31) := Int32.ofInt_toInt _
  rw [List.map_cons, am_rv0, e1] at k0
  exact lv_ishr hx hb hd k0

theorem am_s_iushr (C : am_Cx p s m args meth c D dA sa sv A cc ml oc ini own) (hd : decode cc pc = .ok (.iushr, 1)) (hJ : am_J D dA sa ad A s.heap ml ls L S sh f H locs) (hst : am_st (am_enc oc ini rt pc (.iushr) (pc + 1)) L S (sh, f) = some (.inl (pc', L', S', sh', f'))) (kk : am_KK p l e R s m args below meth c D dA sa A ml cells slots Q ad sh pc' L' S' sh' f') : W p l e R s m args below meth c H locs cells slots Q (F0 m pc ls (S.map (am_rv sa ad))) := by
  obtain ⟨hx, hb, hml, hon, hown, hts, hK, hA, hin, hFo, hlk⟩ := C
  obtain ⟨b, r, rfl, h⟩ := am_p0_some (show am_p0 S _ = _ from hst)
  obtain ⟨a, r, rfl, h⟩ := am_p0_some h
  obtain ⟨ob, h5⟩ := List.forall_mem_cons.mp hJ.2.1.2
  obtain ⟨oa, hr⟩ := List.forall_mem_cons.mp h5
  have h : am_nx (pc + 1) L ((0, am_ush a b) :: r) (sh, f) = some (.inl (pc', L', S', sh', f')) := h
  cases am_nx_some h
  have k0 := kk ad ls H locs ⟨[], (List.append_nil _).symm⟩ (hJ.st (List.forall_mem_cons.mpr ⟨am_ok0 (am_inT _), hr⟩))
  rw [Nat.sub_self, Nat.sub_self, Nat.add_zero, Nat.add_zero] at k0
  exact lv_iushr hx hb hd (Int32.ofInt_toInt _).symm k0

theorem am_s_ladd (C : am_Cx p s m args meth c D dA sa sv A cc ml oc ini own) (hd : decode cc pc = .ok (.ladd, 1)) (hJ : am_J D dA sa ad A s.heap ml ls L S sh f H locs) (hst : am_st (am_enc oc ini rt pc (.ladd) (pc + 1)) L S (sh, f) = some (.inl (pc', L', S', sh', f'))) (kk : am_KK p l e R s m args below meth c D dA sa A ml cells slots Q ad sh pc' L' S' sh' f') : W p l e R s m args below meth c H locs cells slots Q (F0 m pc ls (S.map (am_rv sa ad))) := by
  obtain ⟨hx, hb, hml, hon, hown, hts, hK, hA, hin, hFo, hlk⟩ := C
  obtain ⟨b, r, rfl, h⟩ := am_p1_some (show am_p1 S _ = _ from hst)
  obtain ⟨a, r, rfl, h⟩ := am_p1_some h
  obtain ⟨ob, h5⟩ := List.forall_mem_cons.mp hJ.2.1.2
  obtain ⟨oa, hr⟩ := List.forall_mem_cons.mp h5
  have h : am_nx (pc + 1) L ((1, am_wL (a + b)) :: r) (sh, f) = some (.inl (pc', L', S', sh', f')) := h
  cases am_nx_some h
  have k0 := kk ad ls H locs ⟨[], (List.append_nil _).symm⟩ (hJ.st (List.forall_mem_cons.mpr ⟨am_ok1 (am_inwL _), hr⟩))
  rw [Nat.sub_self, Nat.sub_self, Nat.add_zero, Nat.add_zero] at k0
  have e1 : Int64.ofInt (am_wL (a + b)) = Int64.ofInt a + Int64.ofInt b := by rw [am_ofL, Int64.ofInt_add]
  rw [List.map_cons, am_rv1, e1] at k0
  exact lv_ladd hx hb hd k0

theorem am_s_lsub (C : am_Cx p s m args meth c D dA sa sv A cc ml oc ini own) (hd : decode cc pc = .ok (.lsub, 1)) (hJ : am_J D dA sa ad A s.heap ml ls L S sh f H locs) (hst : am_st (am_enc oc ini rt pc (.lsub) (pc + 1)) L S (sh, f) = some (.inl (pc', L', S', sh', f'))) (kk : am_KK p l e R s m args below meth c D dA sa A ml cells slots Q ad sh pc' L' S' sh' f') : W p l e R s m args below meth c H locs cells slots Q (F0 m pc ls (S.map (am_rv sa ad))) := by
  obtain ⟨hx, hb, hml, hon, hown, hts, hK, hA, hin, hFo, hlk⟩ := C
  obtain ⟨b, r, rfl, h⟩ := am_p1_some (show am_p1 S _ = _ from hst)
  obtain ⟨a, r, rfl, h⟩ := am_p1_some h
  obtain ⟨ob, h5⟩ := List.forall_mem_cons.mp hJ.2.1.2
  obtain ⟨oa, hr⟩ := List.forall_mem_cons.mp h5
  have h : am_nx (pc + 1) L ((1, am_wL (a - b)) :: r) (sh, f) = some (.inl (pc', L', S', sh', f')) := h
  cases am_nx_some h
  have k0 := kk ad ls H locs ⟨[], (List.append_nil _).symm⟩ (hJ.st (List.forall_mem_cons.mpr ⟨am_ok1 (am_inwL _), hr⟩))
  rw [Nat.sub_self, Nat.sub_self, Nat.add_zero, Nat.add_zero] at k0
  have e1 : Int64.ofInt (am_wL (a - b)) = Int64.ofInt a - Int64.ofInt b := by rw [am_ofL, Int64.ofInt_sub]
  rw [List.map_cons, am_rv1, e1] at k0
  exact lv_lsub hx hb hd k0

theorem am_s_lmul (C : am_Cx p s m args meth c D dA sa sv A cc ml oc ini own) (hd : decode cc pc = .ok (.lmul, 1)) (hJ : am_J D dA sa ad A s.heap ml ls L S sh f H locs) (hst : am_st (am_enc oc ini rt pc (.lmul) (pc + 1)) L S (sh, f) = some (.inl (pc', L', S', sh', f'))) (kk : am_KK p l e R s m args below meth c D dA sa A ml cells slots Q ad sh pc' L' S' sh' f') : W p l e R s m args below meth c H locs cells slots Q (F0 m pc ls (S.map (am_rv sa ad))) := by
  obtain ⟨hx, hb, hml, hon, hown, hts, hK, hA, hin, hFo, hlk⟩ := C
  obtain ⟨b, r, rfl, h⟩ := am_p1_some (show am_p1 S _ = _ from hst)
  obtain ⟨a, r, rfl, h⟩ := am_p1_some h
  obtain ⟨ob, h5⟩ := List.forall_mem_cons.mp hJ.2.1.2
  obtain ⟨oa, hr⟩ := List.forall_mem_cons.mp h5
  have h : am_nx (pc + 1) L ((1, am_wL (a * b)) :: r) (sh, f) = some (.inl (pc', L', S', sh', f')) := h
  cases am_nx_some h
  have k0 := kk ad ls H locs ⟨[], (List.append_nil _).symm⟩ (hJ.st (List.forall_mem_cons.mpr ⟨am_ok1 (am_inwL _), hr⟩))
  rw [Nat.sub_self, Nat.sub_self, Nat.add_zero, Nat.add_zero] at k0
  have e1 : Int64.ofInt (am_wL (a * b)) = Int64.ofInt a * Int64.ofInt b := by rw [am_ofL, Int64.ofInt_mul]
  rw [List.map_cons, am_rv1, e1] at k0
  exact lv_lmul hx hb hd k0

theorem am_s_ldiv (C : am_Cx p s m args meth c D dA sa sv A cc ml oc ini own) (hd : decode cc pc = .ok (.ldiv, 1)) (hJ : am_J D dA sa ad A s.heap ml ls L S sh f H locs) (hst : am_st (am_enc oc ini rt pc (.ldiv) (pc + 1)) L S (sh, f) = some (.inl (pc', L', S', sh', f'))) (kk : am_KK p l e R s m args below meth c D dA sa A ml cells slots Q ad sh pc' L' S' sh' f') : W p l e R s m args below meth c H locs cells slots Q (F0 m pc ls (S.map (am_rv sa ad))) := by
  obtain ⟨hx, hb, hml, hon, hown, hts, hK, hA, hin, hFo, hlk⟩ := C
  obtain ⟨b, r, rfl, h⟩ := am_p1_some (show am_p1 S _ = _ from hst)
  obtain ⟨a, r, rfl, h⟩ := am_p1_some h
  obtain ⟨ob, h5⟩ := List.forall_mem_cons.mp hJ.2.1.2
  obtain ⟨oa, hr⟩ := List.forall_mem_cons.mp h5
  have h : (match (if b = 0 then none else some (am_wL (a.tdiv b))) with | some v => am_nx (pc + 1) L ((1, v) :: r) (sh, f) | none => none) = some (Sum.inl (pc', L', S', sh', f')) := h
  by_cases hz : b = 0
  · rw [if_pos hz] at h; cases h
  rw [if_neg hz] at h
  have h : am_nx (pc + 1) L ((1, am_wL (a.tdiv b)) :: r) (sh, f) = some (.inl (pc', L', S', sh', f')) := h
  cases am_nx_some h
  have hz2 : ¬ Int64.ofInt b = 0 := fun q => hz ((am_eqL (ob.2.1 rfl) ⟨by decide, by decide⟩).mp q)
  have k0 := kk ad ls H locs ⟨[], (List.append_nil _).symm⟩ (hJ.st (List.forall_mem_cons.mpr ⟨am_ok1 (am_inwL _), hr⟩))
  rw [Nat.sub_self, Nat.sub_self, Nat.add_zero, Nat.add_zero] at k0
  have e1 : Int64.ofInt (am_wL (a.tdiv b)) = Int64.ofInt a / Int64.ofInt b := by rw [am_ofL, am_tdvL (oa.2.1 rfl) (ob.2.1 rfl)]
  rw [List.map_cons, am_rv1, e1] at k0
  exact lv_ldiv hx hb hd hz2 k0

theorem am_s_lrem (C : am_Cx p s m args meth c D dA sa sv A cc ml oc ini own) (hd : decode cc pc = .ok (.lrem, 1)) (hJ : am_J D dA sa ad A s.heap ml ls L S sh f H locs) (hst : am_st (am_enc oc ini rt pc (.lrem) (pc + 1)) L S (sh, f) = some (.inl (pc', L', S', sh', f'))) (kk : am_KK p l e R s m args below meth c D dA sa A ml cells slots Q ad sh pc' L' S' sh' f') : W p l e R s m args below meth c H locs cells slots Q (F0 m pc ls (S.map (am_rv sa ad))) := by
  obtain ⟨hx, hb, hml, hon, hown, hts, hK, hA, hin, hFo, hlk⟩ := C
  obtain ⟨b, r, rfl, h⟩ := am_p1_some (show am_p1 S _ = _ from hst)
  obtain ⟨a, r, rfl, h⟩ := am_p1_some h
  obtain ⟨ob, h5⟩ := List.forall_mem_cons.mp hJ.2.1.2
  obtain ⟨oa, hr⟩ := List.forall_mem_cons.mp h5
  have h : (match (if b = 0 then none else some (am_wL (a.tmod b))) with | some v => am_nx (pc + 1) L ((1, v) :: r) (sh, f) | none => none) = some (Sum.inl (pc', L', S', sh', f')) := h
  by_cases hz : b = 0
  · rw [if_pos hz] at h; cases h
  rw [if_neg hz] at h
  have h : am_nx (pc + 1) L ((1, am_wL (a.tmod b)) :: r) (sh, f) = some (.inl (pc', L', S', sh', f')) := h
  cases am_nx_some h
  have hz2 : ¬ Int64.ofInt b = 0 := fun q => hz ((am_eqL (ob.2.1 rfl) ⟨by decide, by decide⟩).mp q)
  have k0 := kk ad ls H locs ⟨[], (List.append_nil _).symm⟩ (hJ.st (List.forall_mem_cons.mpr ⟨am_ok1 (am_inwL _), hr⟩))
  rw [Nat.sub_self, Nat.sub_self, Nat.add_zero, Nat.add_zero] at k0
  have e1 : Int64.ofInt (am_wL (a.tmod b)) = Int64.ofInt a - Int64.ofInt a / Int64.ofInt b * Int64.ofInt b := by rw [am_ofL, am_tmdL (oa.2.1 rfl) (ob.2.1 rfl)]
  rw [List.map_cons, am_rv1, e1] at k0
  exact lv_lrem hx hb hd hz2 k0

theorem am_s_lcmp (C : am_Cx p s m args meth c D dA sa sv A cc ml oc ini own) (hd : decode cc pc = .ok (.lcmp, 1)) (hJ : am_J D dA sa ad A s.heap ml ls L S sh f H locs) (hst : am_st (am_enc oc ini rt pc (.lcmp) (pc + 1)) L S (sh, f) = some (.inl (pc', L', S', sh', f'))) (kk : am_KK p l e R s m args below meth c D dA sa A ml cells slots Q ad sh pc' L' S' sh' f') : W p l e R s m args below meth c H locs cells slots Q (F0 m pc ls (S.map (am_rv sa ad))) := by
  obtain ⟨hx, hb, hml, hon, hown, hts, hK, hA, hin, hFo, hlk⟩ := C
  obtain ⟨b, r, rfl, h⟩ := am_p1_some (show am_p1 S _ = _ from hst)
  obtain ⟨a, r, rfl, h⟩ := am_p1_some h
  obtain ⟨ob, h5⟩ := List.forall_mem_cons.mp hJ.2.1.2
  obtain ⟨oa, hr⟩ := List.forall_mem_cons.mp h5
  have h : am_nx (pc + 1) L ((0, am_lc a b) :: r) (sh, f) = some (.inl (pc', L', S', sh', f')) := h
  cases am_nx_some h
  have k0 := kk ad ls H locs ⟨[], (List.append_nil _).symm⟩ (hJ.st (List.forall_mem_cons.mpr ⟨am_ok0 (by unfold am_lc; constructor <;> (repeat' split) <;> omega), hr⟩))
  rw [Nat.sub_self, Nat.sub_self, Nat.add_zero, Nat.add_zero] at k0
  have e1 : Int32.ofInt (am_lc a b) = lg_cmp (Int64.ofInt a) (Int64.ofInt b) := by
    unfold am_lc lg_cmp
    by_cases h1 : a < b
    · rw [if_pos h1, if_neg (fun q => by have := (am_ltL (ob.2.1 rfl) (oa.2.1 rfl)).mp q; omega), if_neg (fun q => by have := (am_eqL (oa.2.1 rfl) (ob.2.1 rfl)).mp q; omega)]; rfl
    · rw [if_neg h1]
      by_cases h2 : a = b
      · subst h2
        rw [if_pos rfl, if_neg (fun q => by have := (am_ltL (oa.2.1 rfl) (oa.2.1 rfl)).mp q; omega), if_pos rfl]; rfl
      · rw [if_neg h2, if_pos ((am_ltL (ob.2.1 rfl) (oa.2.1 rfl)).mpr (by omega))]; rfl
  rw [List.map_cons, am_rv0, e1] at k0
  exact W.lcmp hx hb hd k0

theorem am_s_i2l (C : am_Cx p s m args meth c D dA sa sv A cc ml oc ini own) (hd : decode cc pc = .ok (.i2l, 1)) (hJ : am_J D dA sa ad A s.heap ml ls L S sh f H locs) (hst : am_st (am_enc oc ini rt pc (.i2l) (pc + 1)) L S (sh, f) = some (.inl (pc', L', S', sh', f'))) (kk : am_KK p l e R s m args below meth c D dA sa A ml cells slots Q ad sh pc' L' S' sh' f') : W p l e R s m args below meth c H locs cells slots Q (F0 m pc ls (S.map (am_rv sa ad))) := by
  obtain ⟨hx, hb, hml, hon, hown, hts, hK, hA, hin, hFo, hlk⟩ := C
  obtain ⟨v, r, rfl, h⟩ := am_pv_some (show am_pv S _ = _ from hst)
  obtain ⟨ov, hr⟩ := List.forall_mem_cons.mp hJ.2.1.2
  obtain ⟨t, x⟩ := v
  match t, ov, h, hJ with
  | 0, ov, h, hJ =>
    have h : am_nx (pc + 1) L ((1, x) :: r) (sh, f) = some (.inl (pc', L', S', sh', f')) := h
    cases am_nx_some h
    have hi := ov.1 rfl
    have k0 := kk ad ls H locs ⟨[], (List.append_nil _).symm⟩ (hJ.st (List.forall_mem_cons.mpr ⟨am_ok1 ⟨by have := hi.1; dsimp only at this; omega, by have := hi.2; dsimp only at this; omega⟩, hr⟩))
    rw [Nat.sub_self, Nat.sub_self, Nat.add_zero, Nat.add_zero] at k0
    exact lv_i2l hx hb hd (am_i2l hi) k0
  | n + 1, ov, h, hJ => cases h

theorem am_s_l2i (C : am_Cx p s m args meth c D dA sa sv A cc ml oc ini own) (hd : decode cc pc = .ok (.l2i, 1)) (hJ : am_J D dA sa ad A s.heap ml ls L S sh f H locs) (hst : am_st (am_enc oc ini rt pc (.l2i) (pc + 1)) L S (sh, f) = some (.inl (pc', L', S', sh', f'))) (kk : am_KK p l e R s m args below meth c D dA sa A ml cells slots Q ad sh pc' L' S' sh' f') : W p l e R s m args below meth c H locs cells slots Q (F0 m pc ls (S.map (am_rv sa ad))) := by
  obtain ⟨hx, hb, hml, hon, hown, hts, hK, hA, hin, hFo, hlk⟩ := C
  obtain ⟨v, r, rfl, h⟩ := am_pv_some (show am_pv S _ = _ from hst)
  obtain ⟨ov, hr⟩ := List.forall_mem_cons.mp hJ.2.1.2
  obtain ⟨t, x⟩ := v
  match t, ov, h, hJ with
  | 0, ov, h, hJ => cases h
  | 1, ov, h, hJ =>
    have h : am_nx (pc + 1) L ((0, am_wI x) :: r) (sh, f) = some (.inl (pc', L', S', sh', f')) := h
    cases am_nx_some h
    have k0 := kk ad ls H locs ⟨[], (List.append_nil _).symm⟩ (hJ.st (List.forall_mem_cons.mpr ⟨am_ok0 (am_inw _), hr⟩))
    rw [Nat.sub_self, Nat.sub_self, Nat.add_zero, Nat.add_zero] at k0
    exact lv_l2i hx hb hd (by rw [am_ofw, Int64.toInt32_ofInt]) k0
  | n + 2, ov, h, hJ => cases h

theorem am_s_i2c (C : am_Cx p s m args meth c D dA sa sv A cc ml oc ini own) (hd : decode cc pc = .ok (.i2c, 1)) (hJ : am_J D dA sa ad A s.heap ml ls L S sh f H locs) (hst : am_st (am_enc oc ini rt pc (.i2c) (pc + 1)) L S (sh, f) = some (.inl (pc', L', S', sh', f'))) (kk : am_KK p l e R s m args below meth c D dA sa A ml cells slots Q ad sh pc' L' S' sh' f') : W p l e R s m args below meth c H locs cells slots Q (F0 m pc ls (S.map (am_rv sa ad))) := by
  obtain ⟨hx, hb, hml, hon, hown, hts, hK, hA, hin, hFo, hlk⟩ := C
  obtain ⟨v, r, rfl, h⟩ := am_pv_some (show am_pv S _ = _ from hst)
  obtain ⟨ov, hr⟩ := List.forall_mem_cons.mp hJ.2.1.2
  obtain ⟨t, x⟩ := v
  match t, ov, h, hJ with
  | 0, ov, h, hJ =>
    have h : am_nx (pc + 1) L ((0, x % 65536) :: r) (sh, f) = some (.inl (pc', L', S', sh', f')) := h
    cases am_nx_some h
    have k0 := kk ad ls H locs ⟨[], (List.append_nil _).symm⟩ (hJ.st (List.forall_mem_cons.mpr ⟨am_ok0 ⟨by omega, by omega⟩, hr⟩))
    rw [Nat.sub_self, Nat.sub_self, Nat.add_zero, Nat.add_zero] at k0
    exact lv_i2c hx hb hd (am_i2c x) k0
  | n + 1, ov, h, hJ => cases h

theorem am_s_pop (C : am_Cx p s m args meth c D dA sa sv A cc ml oc ini own) (hd : decode cc pc = .ok (.pop, 1)) (hJ : am_J D dA sa ad A s.heap ml ls L S sh f H locs) (hst : am_st (am_enc oc ini rt pc (.pop) (pc + 1)) L S (sh, f) = some (.inl (pc', L', S', sh', f'))) (kk : am_KK p l e R s m args below meth c D dA sa A ml cells slots Q ad sh pc' L' S' sh' f') : W p l e R s m args below meth c H locs cells slots Q (F0 m pc ls (S.map (am_rv sa ad))) := by
  obtain ⟨hx, hb, hml, hon, hown, hts, hK, hA, hin, hFo, hlk⟩ := C
  obtain ⟨v, r, rfl, h⟩ := am_pv_some (show am_pv S _ = _ from hst)
  obtain ⟨ov, hr⟩ := List.forall_mem_cons.mp hJ.2.1.2
  by_cases h1 : v.1 = 1
  · rw [if_pos h1] at h; cases h
  rw [if_neg h1] at h
  have h : am_nx (pc + 1) L (r) (sh, f) = some (.inl (pc', L', S', sh', f')) := h
  cases am_nx_some h
  have k0 := kk ad ls H locs ⟨[], (List.append_nil _).symm⟩ (hJ.st (hr))
  rw [Nat.sub_self, Nat.sub_self, Nat.add_zero, Nat.add_zero] at k0
  exact lv_pop hx hb hd (am_cat h1) k0

theorem am_s_dup (C : am_Cx p s m args meth c D dA sa sv A cc ml oc ini own) (hd : decode cc pc = .ok (.dup, 1)) (hJ : am_J D dA sa ad A s.heap ml ls L S sh f H locs) (hst : am_st (am_enc oc ini rt pc (.dup) (pc + 1)) L S (sh, f) = some (.inl (pc', L', S', sh', f'))) (kk : am_KK p l e R s m args below meth c D dA sa A ml cells slots Q ad sh pc' L' S' sh' f') : W p l e R s m args below meth c H locs cells slots Q (F0 m pc ls (S.map (am_rv sa ad))) := by
  obtain ⟨hx, hb, hml, hon, hown, hts, hK, hA, hin, hFo, hlk⟩ := C
  obtain ⟨v, r, rfl, h⟩ := am_pv_some (show am_pv S _ = _ from hst)
  obtain ⟨ov, hr⟩ := List.forall_mem_cons.mp hJ.2.1.2
  by_cases h1 : v.1 = 1
  · rw [if_pos h1] at h; cases h
  rw [if_neg h1] at h
  have h : am_nx (pc + 1) L (v :: v :: r) (sh, f) = some (.inl (pc', L', S', sh', f')) := h
  cases am_nx_some h
  have k0 := kk ad ls H locs ⟨[], (List.append_nil _).symm⟩ (hJ.st (List.forall_mem_cons.mpr ⟨ov, List.forall_mem_cons.mpr ⟨ov, hr⟩⟩))
  rw [Nat.sub_self, Nat.sub_self, Nat.add_zero, Nat.add_zero] at k0
  exact lv_dup hx hb hd (am_cat h1) k0

theorem am_s_dup2 (C : am_Cx p s m args meth c D dA sa sv A cc ml oc ini own) (hd : decode cc pc = .ok (.dup2, 1)) (hJ : am_J D dA sa ad A s.heap ml ls L S sh f H locs) (hst : am_st (am_enc oc ini rt pc (.dup2) (pc + 1)) L S (sh, f) = some (.inl (pc', L', S', sh', f'))) (kk : am_KK p l e R s m args below meth c D dA sa A ml cells slots Q ad sh pc' L' S' sh' f') : W p l e R s m args below meth c H locs cells slots Q (F0 m pc ls (S.map (am_rv sa ad))) := by
  obtain ⟨hx, hb, hml, hon, hown, hts, hK, hA, hin, hFo, hlk⟩ := C
  obtain ⟨v, r, rfl, h⟩ := am_pv_some (show am_pv S _ = _ from hst)
  obtain ⟨ov, hr⟩ := List.forall_mem_cons.mp hJ.2.1.2
  by_cases h1 : v.1 = 1
  · rw [if_pos h1] at h; cases h
  rw [if_neg h1] at h
  obtain ⟨w, r, rfl, h8⟩ := am_pv_some (show am_pv r _ = _ from h)
  clear h
  have h := h8
  clear h8
  obtain ⟨ow, hr⟩ := List.forall_mem_cons.mp hr
  by_cases h2 : w.1 = 1
  · rw [if_pos h2] at h; cases h
  rw [if_neg h2] at h
  have h : am_nx (pc + 1) L (v :: w :: v :: w :: r) (sh, f) = some (.inl (pc', L', S', sh', f')) := h
  cases am_nx_some h
  have k0 := kk ad ls H locs ⟨[], (List.append_nil _).symm⟩ (hJ.st (List.forall_mem_cons.mpr ⟨ov, List.forall_mem_cons.mpr ⟨ow, List.forall_mem_cons.mpr ⟨ov, List.forall_mem_cons.mpr ⟨ow, hr⟩⟩⟩⟩))
  rw [Nat.sub_self, Nat.sub_self, Nat.add_zero, Nat.add_zero] at k0
  exact lv_dup2_11 hx hb hd (am_cat h1) (am_cat h2) k0

theorem am_s_dup_x1 (C : am_Cx p s m args meth c D dA sa sv A cc ml oc ini own) (hd : decode cc pc = .ok (.dup_x1, 1)) (hJ : am_J D dA sa ad A s.heap ml ls L S sh f H locs) (hst : am_st (am_enc oc ini rt pc (.dup_x1) (pc + 1)) L S (sh, f) = some (.inl (pc', L', S', sh', f'))) (kk : am_KK p l e R s m args below meth c D dA sa A ml cells slots Q ad sh pc' L' S' sh' f') : W p l e R s m args below meth c H locs cells slots Q (F0 m pc ls (S.map (am_rv sa ad))) := by
  obtain ⟨hx, hb, hml, hon, hown, hts, hK, hA, hin, hFo, hlk⟩ := C
  obtain ⟨v, r, rfl, h⟩ := am_pv_some (show am_pv S _ = _ from hst)
  obtain ⟨ov, hr⟩ := List.forall_mem_cons.mp hJ.2.1.2
  by_cases h1 : v.1 = 1
  · rw [if_pos h1] at h; cases h
  rw [if_neg h1] at h
  obtain ⟨w, r, rfl, h8⟩ := am_pv_some (show am_pv r _ = _ from h)
  clear h
  have h := h8
  clear h8
  obtain ⟨ow, hr⟩ := List.forall_mem_cons.mp hr
  by_cases h2 : w.1 = 1
  · rw [if_pos h2] at h; cases h
  rw [if_neg h2] at h
  have h : am_nx (pc + 1) L (v :: w :: v :: r) (sh, f) = some (.inl (pc', L', S', sh', f')) := h
  cases am_nx_some h
  have k0 := kk ad ls H locs ⟨[], (List.append_nil _).symm⟩ (hJ.st (List.forall_mem_cons.mpr ⟨ov, List.forall_mem_cons.mpr ⟨ow, List.forall_mem_cons.mpr ⟨ov, hr⟩⟩⟩))
  rw [Nat.sub_self, Nat.sub_self, Nat.add_zero, Nat.add_zero] at k0
  exact lv_dup_x1 hx hb hd (am_cat h1) (am_cat h2) k0

theorem am_s_goto {o : Int} (C : am_Cx p s m args meth c D dA sa sv A cc ml oc ini own) (hd : decode cc pc = .ok (.goto o, 3)) (hJ : am_J D dA sa ad A s.heap ml ls L S sh f H locs) (hst : am_st (am_enc oc ini rt pc (.goto o) (pc + 3)) L S (sh, f) = some (.inl (pc', L', S', sh', f'))) (hg : 0 ≤ (pc : Int) + o) (kk : am_KK p l e R s m args below meth c D dA sa A ml cells slots Q ad sh pc' L' S' sh' f') : W p l e R s m args below meth c H locs cells slots Q (F0 m pc ls (S.map (am_rv sa ad))) := by
  obtain ⟨hx, hb, hml, hon, hown, hts, hK, hA, hin, hFo, hlk⟩ := C
  have hst : am_nx ((pc : Int) + o).toNat L S (sh, f) = some (.inl (pc', L', S', sh', f')) := hst
  cases am_nx_some hst
  have k0 := kk ad ls H locs ⟨[], (List.append_nil _).symm⟩ (hJ.st (hJ.2.1.2))
  rw [Nat.sub_self, Nat.sub_self, Nat.add_zero, Nat.add_zero] at k0
  by_cases h0 : 0 ≤ (pc : Int) + o
  · exact lv_goto hx hb hd (by omega) k0
  · exact absurd hg h0

theorem am_s_icmp_eq {o : Int} (C : am_Cx p s m args meth c D dA sa sv A cc ml oc ini own) (hd : decode cc pc = .ok (.if_icmp .eq o, 3)) (hJ : am_J D dA sa ad A s.heap ml ls L S sh f H locs) (hst : am_st (am_enc oc ini rt pc (.if_icmp .eq o) (pc + 3)) L S (sh, f) = some (.inl (pc', L', S', sh', f'))) (hg : 0 ≤ (pc : Int) + o) (kk : am_KK p l e R s m args below meth c D dA sa A ml cells slots Q ad sh pc' L' S' sh' f') : W p l e R s m args below meth c H locs cells slots Q (F0 m pc ls (S.map (am_rv sa ad))) := by
  obtain ⟨hx, hb, hml, hon, hown, hts, hK, hA, hin, hFo, hlk⟩ := C
  obtain ⟨b, r, rfl, h⟩ := am_p0_some (show am_p0 S _ = _ from hst)
  obtain ⟨a, r, rfl, h⟩ := am_p0_some h
  obtain ⟨ob, h5⟩ := List.forall_mem_cons.mp hJ.2.1.2
  obtain ⟨oa, hr⟩ := List.forall_mem_cons.mp h5
  have h : (if decide (a = b) = true then am_nx ((pc : Int) + o).toNat L r (sh, f) else am_nx (pc + 3) L r (sh, f)) = some (Sum.inl (pc', L', S', sh', f')) := h
  by_cases hc : a = b
  · rw [if_pos (decide_eq_true hc)] at h
    cases am_nx_some h
    have k0 := kk ad ls H locs ⟨[], (List.append_nil _).symm⟩ (hJ.st (hr))
    rw [Nat.sub_self, Nat.sub_self, Nat.add_zero, Nat.add_zero] at k0
    exact lv_icmp_eq (tgt := ((pc : Int) + o).toNat) hx hb hd (by omega) (fun _ => k0) (fun q => absurd ((am_eqI (oa.1 rfl) (ob.1 rfl)).mpr hc) q)
  · rw [if_neg (fun q => hc (of_decide_eq_true q))] at h
    cases am_nx_some h
    have k0 := kk ad ls H locs ⟨[], (List.append_nil _).symm⟩ (hJ.st (hr))
    rw [Nat.sub_self, Nat.sub_self, Nat.add_zero, Nat.add_zero] at k0
    exact lv_icmp_eq (tgt := ((pc : Int) + o).toNat) hx hb hd (by omega) (fun q => absurd ((am_eqI (oa.1 rfl) (ob.1 rfl)).mp q) hc) (fun _ => k0)

theorem am_s_icmp_ne {o : Int} (C : am_Cx p s m args meth c D dA sa sv A cc ml oc ini own) (hd : decode cc pc = .ok (.if_icmp .ne o, 3)) (hJ : am_J D dA sa ad A s.heap ml ls L S sh f H locs) (hst : am_st (am_enc oc ini rt pc (.if_icmp .ne o) (pc + 3)) L S (sh, f) = some (.inl (pc', L', S', sh', f'))) (hg : 0 ≤ (pc : Int) + o) (kk : am_KK p l e R s m args below meth c D dA sa A ml cells slots Q ad sh pc' L' S' sh' f') : W p l e R s m args below meth c H locs cells slots Q (F0 m pc ls (S.map (am_rv sa ad))) := by
  obtain ⟨hx, hb, hml, hon, hown, hts, hK, hA, hin, hFo, hlk⟩ := C
  obtain ⟨b, r, rfl, h⟩ := am_p0_some (show am_p0 S _ = _ from hst)
  obtain ⟨a, r, rfl, h⟩ := am_p0_some h
  obtain ⟨ob, h5⟩ := List.forall_mem_cons.mp hJ.2.1.2
  obtain ⟨oa, hr⟩ := List.forall_mem_cons.mp h5
  have h : (if decide (¬ a = b) = true then am_nx ((pc : Int) + o).toNat L r (sh, f) else am_nx (pc + 3) L r (sh, f)) = some (Sum.inl (pc', L', S', sh', f')) := h
  by_cases hc : ¬ a = b
  · rw [if_pos (decide_eq_true hc)] at h
    cases am_nx_some h
    have k0 := kk ad ls H locs ⟨[], (List.append_nil _).symm⟩ (hJ.st (hr))
    rw [Nat.sub_self, Nat.sub_self, Nat.add_zero, Nat.add_zero] at k0
    exact lv_icmp_ne (tgt := ((pc : Int) + o).toNat) hx hb hd (by omega) (fun _ => k0) (fun q => absurd ((am_eqI (oa.1 rfl) (ob.1 rfl)).mp q) hc)
  · rw [if_neg (fun q => hc (of_decide_eq_true q))] at h
    cases am_nx_some h
    have k0 := kk ad ls H locs ⟨[], (List.append_nil _).symm⟩ (hJ.st (hr))
    rw [Nat.sub_self, Nat.sub_self, Nat.add_zero, Nat.add_zero] at k0
    exact lv_icmp_ne (tgt := ((pc : Int) + o).toNat) hx hb hd (by omega) (fun q => absurd ((am_eqI (oa.1 rfl) (ob.1 rfl)).mpr (Classical.not_not.mp hc)) q) (fun _ => k0)

theorem am_s_icmp_lt {o : Int} (C : am_Cx p s m args meth c D dA sa sv A cc ml oc ini own) (hd : decode cc pc = .ok (.if_icmp .lt o, 3)) (hJ : am_J D dA sa ad A s.heap ml ls L S sh f H locs) (hst : am_st (am_enc oc ini rt pc (.if_icmp .lt o) (pc + 3)) L S (sh, f) = some (.inl (pc', L', S', sh', f'))) (hg : 0 ≤ (pc : Int) + o) (kk : am_KK p l e R s m args below meth c D dA sa A ml cells slots Q ad sh pc' L' S' sh' f') : W p l e R s m args below meth c H locs cells slots Q (F0 m pc ls (S.map (am_rv sa ad))) := by
  obtain ⟨hx, hb, hml, hon, hown, hts, hK, hA, hin, hFo, hlk⟩ := C
  obtain ⟨b, r, rfl, h⟩ := am_p0_some (show am_p0 S _ = _ from hst)
  obtain ⟨a, r, rfl, h⟩ := am_p0_some h
  obtain ⟨ob, h5⟩ := List.forall_mem_cons.mp hJ.2.1.2
  obtain ⟨oa, hr⟩ := List.forall_mem_cons.mp h5
  have h : (if decide (a < b) = true then am_nx ((pc : Int) + o).toNat L r (sh, f) else am_nx (pc + 3) L r (sh, f)) = some (Sum.inl (pc', L', S', sh', f')) := h
  by_cases hc : a < b
  · rw [if_pos (decide_eq_true hc)] at h
    cases am_nx_some h
    have k0 := kk ad ls H locs ⟨[], (List.append_nil _).symm⟩ (hJ.st (hr))
    rw [Nat.sub_self, Nat.sub_self, Nat.add_zero, Nat.add_zero] at k0
    exact lv_icmp_lt (tgt := ((pc : Int) + o).toNat) hx hb hd (by omega) (fun _ => k0) (fun q => absurd ((am_ltI (oa.1 rfl) (ob.1 rfl)).mpr hc) q)
  · rw [if_neg (fun q => hc (of_decide_eq_true q))] at h
    cases am_nx_some h
    have k0 := kk ad ls H locs ⟨[], (List.append_nil _).symm⟩ (hJ.st (hr))
    rw [Nat.sub_self, Nat.sub_self, Nat.add_zero, Nat.add_zero] at k0
    exact lv_icmp_lt (tgt := ((pc : Int) + o).toNat) hx hb hd (by omega) (fun q => absurd ((am_ltI (oa.1 rfl) (ob.1 rfl)).mp q) hc) (fun _ => k0)

theorem am_s_icmp_ge {o : Int} (C : am_Cx p s m args meth c D dA sa sv A cc ml oc ini own) (hd : decode cc pc = .ok (.if_icmp .ge o, 3)) (hJ : am_J D dA sa ad A s.heap ml ls L S sh f H locs) (hst : am_st (am_enc oc ini rt pc (.if_icmp .ge o) (pc + 3)) L S (sh, f) = some (.inl (pc', L', S', sh', f'))) (hg : 0 ≤ (pc : Int) + o) (kk : am_KK p l e R s m args below meth c D dA sa A ml cells slots Q ad sh pc' L' S' sh' f') : W p l e R s m args below meth c H locs cells slots Q (F0 m pc ls (S.map (am_rv sa ad))) := by
  obtain ⟨hx, hb, hml, hon, hown, hts, hK, hA, hin, hFo, hlk⟩ := C
  obtain ⟨b, r, rfl, h⟩ := am_p0_some (show am_p0 S _ = _ from hst)
  obtain ⟨a, r, rfl, h⟩ := am_p0_some h
  obtain ⟨ob, h5⟩ := List.forall_mem_cons.mp hJ.2.1.2
  obtain ⟨oa, hr⟩ := List.forall_mem_cons.mp h5
  have h : (if decide (b ≤ a) = true then am_nx ((pc : Int) + o).toNat L r (sh, f) else am_nx (pc + 3) L r (sh, f)) = some (Sum.inl (pc', L', S', sh', f')) := h
  by_cases hc : b ≤ a
  · rw [if_pos (decide_eq_true hc)] at h
    cases am_nx_some h
    have k0 := kk ad ls H locs ⟨[], (List.append_nil _).symm⟩ (hJ.st (hr))
    rw [Nat.sub_self, Nat.sub_self, Nat.add_zero, Nat.add_zero] at k0
    exact lv_icmp_ge (tgt := ((pc : Int) + o).toNat) hx hb hd (by omega) (fun _ => k0) (fun q => absurd ((am_leI (ob.1 rfl) (oa.1 rfl)).mpr hc) q)
  · rw [if_neg (fun q => hc (of_decide_eq_true q))] at h
    cases am_nx_some h
    have k0 := kk ad ls H locs ⟨[], (List.append_nil _).symm⟩ (hJ.st (hr))
    rw [Nat.sub_self, Nat.sub_self, Nat.add_zero, Nat.add_zero] at k0
    exact lv_icmp_ge (tgt := ((pc : Int) + o).toNat) hx hb hd (by omega) (fun q => absurd ((am_leI (ob.1 rfl) (oa.1 rfl)).mp q) hc) (fun _ => k0)

theorem am_s_icmp_gt {o : Int} (C : am_Cx p s m args meth c D dA sa sv A cc ml oc ini own) (hd : decode cc pc = .ok (.if_icmp .gt o, 3)) (hJ : am_J D dA sa ad A s.heap ml ls L S sh f H locs) (hst : am_st (am_enc oc ini rt pc (.if_icmp .gt o) (pc + 3)) L S (sh, f) = some (.inl (pc', L', S', sh', f'))) (hg : 0 ≤ (pc : Int) + o) (kk : am_KK p l e R s m args below meth c D dA sa A ml cells slots Q ad sh pc' L' S' sh' f') : W p l e R s m args below meth c H locs cells slots Q (F0 m pc ls (S.map (am_rv sa ad))) := by
  obtain ⟨hx, hb, hml, hon, hown, hts, hK, hA, hin, hFo, hlk⟩ := C
  obtain ⟨b, r, rfl, h⟩ := am_p0_some (show am_p0 S _ = _ from hst)
  obtain ⟨a, r, rfl, h⟩ := am_p0_some h
  obtain ⟨ob, h5⟩ := List.forall_mem_cons.mp hJ.2.1.2
  obtain ⟨oa, hr⟩ := List.forall_mem_cons.mp h5
  have h : (if decide (b < a) = true then am_nx ((pc : Int) + o).toNat L r (sh, f) else am_nx (pc + 3) L r (sh, f)) = some (Sum.inl (pc', L', S', sh', f')) := h
  by_cases hc : b < a
  · rw [if_pos (decide_eq_true hc)] at h
    cases am_nx_some h
    have k0 := kk ad ls H locs ⟨[], (List.append_nil _).symm⟩ (hJ.st (hr))
    rw [Nat.sub_self, Nat.sub_self, Nat.add_zero, Nat.add_zero] at k0
    exact lv_icmp_gt (tgt := ((pc : Int) + o).toNat) hx hb hd (by omega) (fun _ => k0) (fun q => absurd ((am_ltI (ob.1 rfl) (oa.1 rfl)).mpr hc) q)
  · rw [if_neg (fun q => hc (of_decide_eq_true q))] at h
    cases am_nx_some h
    have k0 := kk ad ls H locs ⟨[], (List.append_nil _).symm⟩ (hJ.st (hr))
    rw [Nat.sub_self, Nat.sub_self, Nat.add_zero, Nat.add_zero] at k0
    exact lv_icmp_gt (tgt := ((pc : Int) + o).toNat) hx hb hd (by omega) (fun q => absurd ((am_ltI (ob.1 rfl) (oa.1 rfl)).mp q) hc) (fun _ => k0)

theorem am_s_icmp_le {o : Int} (C : am_Cx p s m args meth c D dA sa sv A cc ml oc ini own) (hd : decode cc pc = .ok (.if_icmp .le o, 3)) (hJ : am_J D dA sa ad A s.heap ml ls L S sh f H locs) (hst : am_st (am_enc oc ini rt pc (.if_icmp .le o) (pc + 3)) L S (sh, f) = some (.inl (pc', L', S', sh', f'))) (hg : 0 ≤ (pc : Int) + o) (kk : am_KK p l e R s m args below meth c D dA sa A ml cells slots Q ad sh pc' L' S' sh' f') : W p l e R s m args below meth c H locs cells slots Q (F0 m pc ls (S.map (am_rv sa ad))) := by
  obtain ⟨hx, hb, hml, hon, hown, hts, hK, hA, hin, hFo, hlk⟩ := C
  obtain ⟨b, r, rfl, h⟩ := am_p0_some (show am_p0 S _ = _ from hst)
  obtain ⟨a, r, rfl, h⟩ := am_p0_some h
  obtain ⟨ob, h5⟩ := List.forall_mem_cons.mp hJ.2.1.2
  obtain ⟨oa, hr⟩ := List.forall_mem_cons.mp h5
  have h : (if decide (a ≤ b) = true then am_nx ((pc : Int) + o).toNat L r (sh, f) else am_nx (pc + 3) L r (sh, f)) = some (Sum.inl (pc', L', S', sh', f')) := h
  by_cases hc : a ≤ b
  · rw [if_pos (decide_eq_true hc)] at h
    cases am_nx_some h
    have k0 := kk ad ls H locs ⟨[], (List.append_nil _).symm⟩ (hJ.st (hr))
    rw [Nat.sub_self, Nat.sub_self, Nat.add_zero, Nat.add_zero] at k0
    exact lv_icmp_le (tgt := ((pc : Int) + o).toNat) hx hb hd (by omega) (fun _ => k0) (fun q => absurd ((am_leI (oa.1 rfl) (ob.1 rfl)).mpr hc) q)
  · rw [if_neg (fun q => hc (of_decide_eq_true q))] at h
    cases am_nx_some h
    have k0 := kk ad ls H locs ⟨[], (List.append_nil _).symm⟩ (hJ.st (hr))
    rw [Nat.sub_self, Nat.sub_self, Nat.add_zero, Nat.add_zero] at k0
    exact lv_icmp_le (tgt := ((pc : Int) + o).toNat) hx hb hd (by omega) (fun q => absurd ((am_leI (oa.1 rfl) (ob.1 rfl)).mp q) hc) (fun _ => k0)

theorem am_s_if_eq {o : Int} (C : am_Cx p s m args meth c D dA sa sv A cc ml oc ini own) (hd : decode cc pc = .ok (.ifCond .eq o, 3)) (hJ : am_J D dA sa ad A s.heap ml ls L S sh f H locs) (hst : am_st (am_enc oc ini rt pc (.ifCond .eq o) (pc + 3)) L S (sh, f) = some (.inl (pc', L', S', sh', f'))) (hg : 0 ≤ (pc : Int) + o) (kk : am_KK p l e R s m args below meth c D dA sa A ml cells slots Q ad sh pc' L' S' sh' f') : W p l e R s m args below meth c H locs cells slots Q (F0 m pc ls (S.map (am_rv sa ad))) := by
  obtain ⟨hx, hb, hml, hon, hown, hts, hK, hA, hin, hFo, hlk⟩ := C
  obtain ⟨a, r, rfl, h⟩ := am_p0_some (show am_p0 S _ = _ from hst)
  obtain ⟨oa, hr⟩ := List.forall_mem_cons.mp hJ.2.1.2
  have h : (if decide (a = (0 : Int)) = true then am_nx ((pc : Int) + o).toNat L r (sh, f) else am_nx (pc + 3) L r (sh, f)) = some (Sum.inl (pc', L', S', sh', f')) := h
  by_cases hc : a = (0 : Int)
  · rw [if_pos (decide_eq_true hc)] at h
    cases am_nx_some h
    have k0 := kk ad ls H locs ⟨[], (List.append_nil _).symm⟩ (hJ.st (hr))
    rw [Nat.sub_self, Nat.sub_self, Nat.add_zero, Nat.add_zero] at k0
    exact lv_if_eq (tgt := ((pc : Int) + o).toNat) hx hb hd (by omega) (fun _ => k0) (fun q => absurd ((am_eqI (oa.1 rfl) am_in0).mpr hc) q)
  · rw [if_neg (fun q => hc (of_decide_eq_true q))] at h
    cases am_nx_some h
    have k0 := kk ad ls H locs ⟨[], (List.append_nil _).symm⟩ (hJ.st (hr))
    rw [Nat.sub_self, Nat.sub_self, Nat.add_zero, Nat.add_zero] at k0
    exact lv_if_eq (tgt := ((pc : Int) + o).toNat) hx hb hd (by omega) (fun q => absurd ((am_eqI (oa.1 rfl) am_in0).mp q) hc) (fun _ => k0)

theorem am_s_if_ne {o : Int} (C : am_Cx p s m args meth c D dA sa sv A cc ml oc ini own) (hd : decode cc pc = .ok (.ifCond .ne o, 3)) (hJ : am_J D dA sa ad A s.heap ml ls L S sh f H locs) (hst : am_st (am_enc oc ini rt pc (.ifCond .ne o) (pc + 3)) L S (sh, f) = some (.inl (pc', L', S', sh', f'))) (hg : 0 ≤ (pc : Int) + o) (kk : am_KK p l e R s m args below meth c D dA sa A ml cells slots Q ad sh pc' L' S' sh' f') : W p l e R s m args below meth c H locs cells slots Q (F0 m pc ls (S.map (am_rv sa ad))) := by
  obtain ⟨hx, hb, hml, hon, hown, hts, hK, hA, hin, hFo, hlk⟩ := C
  obtain ⟨a, r, rfl, h⟩ := am_p0_some (show am_p0 S _ = _ from hst)
  obtain ⟨oa, hr⟩ := List.forall_mem_cons.mp hJ.2.1.2
  have h : (if decide (¬ a = (0 : Int)) = true then am_nx ((pc : Int) + o).toNat L r (sh, f) else am_nx (pc + 3) L r (sh, f)) = some (Sum.inl (pc', L', S', sh', f')) := h
  by_cases hc : ¬ a = (0 : Int)
  · rw [if_pos (decide_eq_true hc)] at h
    cases am_nx_some h
    have k0 := kk ad ls H locs ⟨[], (List.append_nil _).symm⟩ (hJ.st (hr))
    rw [Nat.sub_self, Nat.sub_self, Nat.add_zero, Nat.add_zero] at k0
    exact lv_if_ne (tgt := ((pc : Int) + o).toNat) hx hb hd (by omega) (fun _ => k0) (fun q => absurd ((am_eqI (oa.1 rfl) am_in0).mp q) hc)
  · rw [if_neg (fun q => hc (of_decide_eq_true q))] at h
    cases am_nx_some h
    have k0 := kk ad ls H locs ⟨[], (List.append_nil _).symm⟩ (hJ.st (hr))
    rw [Nat.sub_self, Nat.sub_self, Nat.add_zero, Nat.add_zero] at k0
    exact lv_if_ne (tgt := ((pc : Int) + o).toNat) hx hb hd (by omega) (fun q => absurd ((am_eqI (oa.1 rfl) am_in0).mpr (Classical.not_not.mp hc)) q) (fun _ => k0)

theorem am_s_if_lt {o : Int} (C : am_Cx p s m args meth c D dA sa sv A cc ml oc ini own) (hd : decode cc pc = .ok (.ifCond .lt o, 3)) (hJ : am_J D dA sa ad A s.heap ml ls L S sh f H locs) (hst : am_st (am_enc oc ini rt pc (.ifCond .lt o) (pc + 3)) L S (sh, f) = some (.inl (pc', L', S', sh', f'))) (hg : 0 ≤ (pc : Int) + o) (kk : am_KK p l e R s m args below meth c D dA sa A ml cells slots Q ad sh pc' L' S' sh' f') : W p l e R s m args below meth c H locs cells slots Q (F0 m pc ls (S.map (am_rv sa ad))) := by
  obtain ⟨hx, hb, hml, hon, hown, hts, hK, hA, hin, hFo, hlk⟩ := C
  obtain ⟨a, r, rfl, h⟩ := am_p0_some (show am_p0 S _ = _ from hst)
  obtain ⟨oa, hr⟩ := List.forall_mem_cons.mp hJ.2.1.2
  have h : (if decide (a < (0 : Int)) = true then am_nx ((pc : Int) + o).toNat L r (sh, f) else am_nx (pc + 3) L r (sh, f)) = some (Sum.inl (pc', L', S', sh', f')) := h
  by_cases hc : a < (0 : Int)
  · rw [if_pos (decide_eq_true hc)] at h
    cases am_nx_some h
    have k0 := kk ad ls H locs ⟨[], (List.append_nil _).symm⟩ (hJ.st (hr))
    rw [Nat.sub_self, Nat.sub_self, Nat.add_zero, Nat.add_zero] at k0
    exact lv_if_lt (tgt := ((pc : Int) + o).toNat) hx hb hd (by omega) (fun _ => k0) (fun q => absurd ((am_ltI (oa.1 rfl) am_in0).mpr hc) q)
  · rw [if_neg (fun q => hc (of_decide_eq_true q))] at h
    cases am_nx_some h
    have k0 := kk ad ls H locs ⟨[], (List.append_nil _).symm⟩ (hJ.st (hr))
    rw [Nat.sub_self, Nat.sub_self, Nat.add_zero, Nat.add_zero] at k0
    exact lv_if_lt (tgt := ((pc : Int) + o).toNat) hx hb hd (by omega) (fun q => absurd ((am_ltI (oa.1 rfl) am_in0).mp q) hc) (fun _ => k0)

theorem am_s_if_ge {o : Int} (C : am_Cx p s m args meth c D dA sa sv A cc ml oc ini own) (hd : decode cc pc = .ok (.ifCond .ge o, 3)) (hJ : am_J D dA sa ad A s.heap ml ls L S sh f H locs) (hst : am_st (am_enc oc ini rt pc (.ifCond .ge o) (pc + 3)) L S (sh, f) = some (.inl (pc', L', S', sh', f'))) (hg : 0 ≤ (pc : Int) + o) (kk : am_KK p l e R s m args below meth c D dA sa A ml cells slots Q ad sh pc' L' S' sh' f') : W p l e R s m args below meth c H locs cells slots Q (F0 m pc ls (S.map (am_rv sa ad))) := by
  obtain ⟨hx, hb, hml, hon, hown, hts, hK, hA, hin, hFo, hlk⟩ := C
  obtain ⟨a, r, rfl, h⟩ := am_p0_some (show am_p0 S _ = _ from hst)
  obtain ⟨oa, hr⟩ := List.forall_mem_cons.mp hJ.2.1.2
  have h : (if decide ((0 : Int) ≤ a) = true then am_nx ((pc : Int) + o).toNat L r (sh, f) else am_nx (pc + 3) L r (sh, f)) = some (Sum.inl (pc', L', S', sh', f')) := h
  by_cases hc : (0 : Int) ≤ a
  · rw [if_pos (decide_eq_true hc)] at h
    cases am_nx_some h
    have k0 := kk ad ls H locs ⟨[], (List.append_nil _).symm⟩ (hJ.st (hr))
    rw [Nat.sub_self, Nat.sub_self, Nat.add_zero, Nat.add_zero] at k0
    exact lv_if_ge (tgt := ((pc : Int) + o).toNat) hx hb hd (by omega) (fun _ => k0) (fun q => absurd ((am_leI am_in0 (oa.1 rfl)).mpr hc) q)
  · rw [if_neg (fun q => hc (of_decide_eq_true q))] at h
    cases am_nx_some h
    have k0 := kk ad ls H locs ⟨[], (List.append_nil _).symm⟩ (hJ.st (hr))
    rw [Nat.sub_self, Nat.sub_self, Nat.add_zero, Nat.add_zero] at k0
    exact lv_if_ge (tgt := ((pc : Int) + o).toNat) hx hb hd (by omega) (fun q => absurd ((am_leI am_in0 (oa.1 rfl)).mp q) hc) (fun _ => k0)

theorem am_s_if_gt {o : Int} (C : am_Cx p s m args meth c D dA sa sv A cc ml oc ini own) (hd : decode cc pc = .ok (.ifCond .gt o, 3)) (hJ : am_J D dA sa ad A s.heap ml ls L S sh f H locs) (hst : am_st (am_enc oc ini rt pc (.ifCond .gt o) (pc + 3)) L S (sh, f) = some (.inl (pc', L', S', sh', f'))) (hg : 0 ≤ (pc : Int) + o) (kk : am_KK p l e R s m args below meth c D dA sa A ml cells slots Q ad sh pc' L' S' sh' f') : W p l e R s m args below meth c H locs cells slots Q (F0 m pc ls (S.map (am_rv sa ad))) := by
  obtain ⟨hx, hb, hml, hon, hown, hts, hK, hA, hin, hFo, hlk⟩ := C
  obtain ⟨a, r, rfl, h⟩ := am_p0_some (show am_p0 S _ = _ from hst)
  obtain ⟨oa, hr⟩ := List.forall_mem_cons.mp hJ.2.1.2
  have h : (if decide ((0 : Int) < a) = true then am_nx ((pc : Int) + o).toNat L r (sh, f) else am_nx (pc + 3) L r (sh, f)) = some (Sum.inl (pc', L', S', sh', f')) := h
  by_cases hc : (0 : Int) < a
  · rw [if_pos (decide_eq_true hc)] at h
    cases am_nx_some h
    have k0 := kk ad ls H locs ⟨[], (List.append_nil _).symm⟩ (hJ.st (hr))
    rw [Nat.sub_self, Nat.sub_self, Nat.add_zero, Nat.add_zero] at k0
    exact lv_if_gt (tgt := ((pc : Int) + o).toNat) hx hb hd (by omega) (fun _ => k0) (fun q => absurd ((am_ltI am_in0 (oa.1 rfl)).mpr hc) q)
  · rw [if_neg (fun q => hc (of_decide_eq_true q))] at h
    cases am_nx_some h
    have k0 := kk ad ls H locs ⟨[], (List.append_nil _).symm⟩ (hJ.st (hr))
    rw [Nat.sub_self, Nat.sub_self, Nat.add_zero, Nat.add_zero] at k0
    exact lv_if_gt (tgt := ((pc : Int) + o).toNat) hx hb hd (by omega) (fun q => absurd ((am_ltI am_in0 (oa.1 rfl)).mp q) hc) (fun _ => k0)

theorem am_s_if_le {o : Int} (C : am_Cx p s m args meth c D dA sa sv A cc ml oc ini own) (hd : decode cc pc = .ok (.ifCond .le o, 3)) (hJ : am_J D dA sa ad A s.heap ml ls L S sh f H locs) (hst : am_st (am_enc oc ini rt pc (.ifCond .le o) (pc + 3)) L S (sh, f) = some (.inl (pc', L', S', sh', f'))) (hg : 0 ≤ (pc : Int) + o) (kk : am_KK p l e R s m args below meth c D dA sa A ml cells slots Q ad sh pc' L' S' sh' f') : W p l e R s m args below meth c H locs cells slots Q (F0 m pc ls (S.map (am_rv sa ad))) := by
  obtain ⟨hx, hb, hml, hon, hown, hts, hK, hA, hin, hFo, hlk⟩ := C
  obtain ⟨a, r, rfl, h⟩ := am_p0_some (show am_p0 S _ = _ from hst)
  obtain ⟨oa, hr⟩ := List.forall_mem_cons.mp hJ.2.1.2
  have h : (if decide (a ≤ (0 : Int)) = true then am_nx ((pc : Int) + o).toNat L r (sh, f) else am_nx (pc + 3) L r (sh, f)) = some (Sum.inl (pc', L', S', sh', f')) := h
  by_cases hc : a ≤ (0 : Int)
  · rw [if_pos (decide_eq_true hc)] at h
    cases am_nx_some h
    have k0 := kk ad ls H locs ⟨[], (List.append_nil _).symm⟩ (hJ.st (hr))
    rw [Nat.sub_self, Nat.sub_self, Nat.add_zero, Nat.add_zero] at k0
    exact lv_if_le (tgt := ((pc : Int) + o).toNat) hx hb hd (by omega) (fun _ => k0) (fun q => absurd ((am_leI (oa.1 rfl) am_in0).mpr hc) q)
  · rw [if_neg (fun q => hc (of_decide_eq_true q))] at h
    cases am_nx_some h
    have k0 := kk ad ls H locs ⟨[], (List.append_nil _).symm⟩ (hJ.st (hr))
    rw [Nat.sub_self, Nat.sub_self, Nat.add_zero, Nat.add_zero] at k0
    exact lv_if_le (tgt := ((pc : Int) + o).toNat) hx hb hd (by omega) (fun q => absurd ((am_leI (oa.1 rfl) am_in0).mp q) hc) (fun _ => k0)

end
