/-! the pure side: runs over the fixed shapes behind both constructors -/
def aw_SH0 : am_H := [(109, 16), (100, 14), (20, 8), (20, 8), (20, 8), (20, 8), (20, 4), (20, 4), (20, 4), (20, 5), (106, 4), (20, 1616), (20, 10), (20, 10), (108, 2), (20, 1600), (106, 4), (20, 1616), (20, 10), (20, 10), (100, 14), (20, 8), (20, 8), (20, 8), (20, 8), (20, 4), (20, 4), (20, 4), (20, 5), (106, 4), (20, 1616), (20, 10), (20, 10), (104, 13), (105, 1), (20, 100), (101, 4), (20, 8), (20, 32), (20, 4), (103, 9), (20, 6), (20, 8), (20, 8), (20, 10), (20, 6), (107, 12), (20, 8), (20, 8), (20, 8), (20, 8), (20, 8), (20, 8), (20, 50), (20, 50), (20, 50), (107, 12), (20, 8), (20, 8), (20, 8)]
def aw_SH1 : am_H := [(20, 8), (20, 8), (20, 8), (20, 50), (20, 50), (20, 50), (102, 3), (24, 20), (107, 12), (20, 8), (20, 8), (20, 8), (20, 8), (20, 8), (20, 8), (20, 50), (20, 50), (20, 50), (107, 12), (20, 8), (20, 8), (20, 8), (20, 8), (20, 8), (20, 8), (20, 50), (20, 50), (20, 50), (107, 12), (20, 8), (20, 8), (20, 8), (20, 8), (20, 8), (20, 8), (20, 50), (20, 50), (20, 50), (107, 12), (20, 8), (20, 8), (20, 8), (20, 8), (20, 8), (20, 8), (20, 50), (20, 50), (20, 50), (107, 12), (20, 8), (20, 8), (20, 8), (20, 8), (20, 8), (20, 8), (20, 50), (20, 50), (20, 50), (107, 12), (20, 8)]
def aw_SH2 : am_H := [(20, 8), (20, 8), (20, 8), (20, 8), (20, 8), (20, 50), (20, 50), (20, 50), (107, 12), (20, 8), (20, 8), (20, 8), (20, 8), (20, 8), (20, 8), (20, 50), (20, 50), (20, 50), (107, 12), (20, 8), (20, 8), (20, 8), (20, 8), (20, 8), (20, 8), (20, 50), (20, 50), (20, 50), (107, 12), (20, 8), (20, 8), (20, 8), (20, 8), (20, 8), (20, 8), (20, 50), (20, 50), (20, 50), (107, 12), (20, 8), (20, 8), (20, 8), (20, 8), (20, 8), (20, 8), (20, 50), (20, 50), (20, 50), (107, 12), (20, 8), (20, 8), (20, 8), (20, 8), (20, 8), (20, 8), (20, 50), (20, 50), (20, 50), (107, 12), (20, 8)]
def aw_SH3 : am_H := [(20, 8), (20, 8), (20, 8), (20, 8), (20, 8), (20, 50), (20, 50), (20, 50), (107, 12), (20, 8), (20, 8), (20, 8), (20, 8), (20, 8), (20, 8), (20, 50), (20, 50), (20, 50), (107, 12), (20, 8), (20, 8), (20, 8), (20, 8), (20, 8), (20, 8), (20, 50), (20, 50), (20, 50), (107, 12), (20, 8), (20, 8), (20, 8), (20, 8), (20, 8), (20, 8), (20, 50), (20, 50), (20, 50), (107, 12), (20, 8), (20, 8), (20, 8), (20, 8), (20, 8), (20, 8), (20, 50), (20, 50), (20, 50), (107, 12), (20, 8), (20, 8), (20, 8), (20, 8), (20, 8), (20, 8), (20, 50), (20, 50), (20, 50), (107, 12), (20, 8)]
def aw_SH4 : am_H := [(20, 8), (20, 8), (20, 8), (20, 8), (20, 8), (20, 50), (20, 50), (20, 50), (107, 12), (20, 8), (20, 8), (20, 8), (20, 8), (20, 8), (20, 8), (20, 50), (20, 50), (20, 50), (107, 12), (20, 8), (20, 8), (20, 8), (20, 8), (20, 8), (20, 8), (20, 50), (20, 50), (20, 50), (20, 43), (20, 6), (110, 103), (20, 1600), (20, 6), (22, 5), (22, 5), (22, 3), (22, 5), (22, 6), (22, 5), (22, 5), (22, 5), (22, 2), (22, 6), (22, 5), (22, 5), (22, 4), (22, 5), (22, 3), (22, 6), (22, 5), (22, 3), (22, 4), (22, 6), (22, 6), (22, 4), (22, 2), (22, 3), (22, 3), (22, 3), (22, 3)]
def aw_SH5 : am_H := [(22, 3), (20, 6), (21, 48), (20, 48), (20, 16), (20, 20), (20, 20), (20, 3200), (20, 192), (20, 41), (20, 40), (23, 8), (20, 4), (20, 6), (20, 6), (23, 310), (20, 3840), (22, 5), (22, 4), (22, 5), (22, 5), (22, 4), (22, 5), (22, 3), (22, 3), (22, 2), (22, 3), (22, 3), (22, 3), (22, 5), (22, 3), (22, 5), (22, 6), (22, 5), (22, 3), (22, 4), (22, 5), (22, 6), (22, 6), (22, 2), (20, 1700), (20, 1700), (21, 1700), (20, 43)]
def aw_SH : am_H := aw_SH0 ++ aw_SH1 ++ aw_SH2 ++ aw_SH3 ++ aw_SH4 ++ aw_SH5
def aw_wp (d mi pc : Nat) (ls st : List am_V) (f : am_F) (Q : am_V → am_F → Prop) : Prop := ∃ n v f', am_run n d mi (pc, ls, st, aw_SH, f) = some (v, aw_SH, f') ∧ Q v f'
def aw_cl (d mi : Nat) (as : List am_V) (f : am_F) (Q : am_V → am_F → Prop) : Prop := aw_wp d mi 0 (am_en (am_ml mi) as) [] f Q
theorem aw_mono : ∀ (n d mi : Nat) (c : am_K) (r : am_V × am_S) (k : Nat), am_run n d mi c = some r → am_run (n + k) d mi c = some r
  | 0, d, mi, c, r, k, h => by cases h
  | n + 1, d, mi, c, r, k, h => by
    rw [show n + 1 + k = (n + k) + 1 by omega]
    unfold am_run at h ⊢
    cases hs : am_stp mi c with
    | none => rw [hs] at h; cases h
    | some o =>
      rw [hs] at h
      match o, h with
      | .inl c', h => exact aw_mono n d mi c' r k h
      | .inr (.inl r'), h => exact h
      | .inr (.inr (m', as, pc, ls, st, s)), h =>
        match d, h with
        | 0, h => cases h
        | d' + 1, h =>
          dsimp only at h ⊢
          cases hc : am_run n d' m' (0, am_en (am_ml m') as, [], s) with
          | none => rw [hc] at h; cases h
          | some w =>
            rw [hc] at h
            rw [aw_mono n d' m' _ w k hc]
            exact aw_mono n (d' + 1) mi _ r k h
theorem aw_next {d mi pc pc' : Nat} {ls ls' st st' : List am_V} {f f' : am_F} {Q : am_V → am_F → Prop} (hs : am_stp mi (pc, ls, st, aw_SH, f) = some (.inl (pc', ls', st', aw_SH, f'))) : aw_wp d mi pc ls st f Q = aw_wp d mi pc' ls' st' f' Q := by
  apply propext
  constructor
  · rintro ⟨n, v, f1, h, hq⟩
    match n, h with
    | 0, h => cases h
    | n + 1, h =>
      unfold am_run at h
      rw [hs] at h
      exact ⟨n, v, f1, h, hq⟩
  · rintro ⟨n, v, f1, h, hq⟩
    refine ⟨n + 1, v, f1, ?_, hq⟩
    unfold am_run
    rw [hs]
    exact h
theorem aw_stuck {d mi pc : Nat} {ls st : List am_V} {f : am_F} {Q : am_V → am_F → Prop} (hs : am_stp mi (pc, ls, st, aw_SH, f) = none) : aw_wp d mi pc ls st f Q = False := by
  apply propext
  refine ⟨?_, fun h => h.elim⟩
  rintro ⟨n, v, f1, h, hq⟩
  match n, h with
  | 0, h => cases h
  | n + 1, h =>
    unfold am_run at h
    rw [hs] at h
    cases h
theorem aw_ret {d mi pc : Nat} {ls st : List am_V} {f f' : am_F} {v : am_V} {Q : am_V → am_F → Prop} (hs : am_stp mi (pc, ls, st, aw_SH, f) = some (.inr (.inl (v, aw_SH, f')))) : aw_wp d mi pc ls st f Q = Q v f' := by
  apply propext
  constructor
  · rintro ⟨n, v1, f1, h, hq⟩
    match n, h with
    | 0, h => cases h
    | n + 1, h =>
      unfold am_run at h
      rw [hs] at h
      cases h
      exact hq
  · intro hq
    refine ⟨1, v, f', ?_, hq⟩
    unfold am_run
    rw [hs]
theorem aw_call {d mi pc pc' m' : Nat} {as ls ls' st st' : List am_V} {f : am_F} {Q : am_V → am_F → Prop} (hs : am_stp mi (pc, ls, st, aw_SH, f) = some (.inr (.inr (m', as, pc', ls', st', aw_SH, f)))) (hd : 1 ≤ d) : aw_wp d mi pc ls st f Q = aw_cl (d - 1) m' as f (fun v f' => aw_wp d mi pc' ls' (if v.1 = 3 then st' else v :: st') f' Q) := by
  obtain ⟨d', rfl⟩ : ∃ d', d = d' + 1 := ⟨d - 1, by omega⟩
  rw [Nat.add_sub_cancel]
  apply propext
  constructor
  · rintro ⟨n, v, f1, h, hq⟩
    match n, h with
    | 0, h => cases h
    | n + 1, h =>
      unfold am_run at h
      rw [hs] at h
      dsimp only at h
      cases hc : am_run n d' m' (0, am_en (am_ml m') as, [], aw_SH, f) with
      | none => rw [hc] at h; cases h
      | some w =>
        obtain ⟨v1, sh1, f2⟩ := w
        rw [hc] at h
        dsimp only at h
        obtain ⟨z1, hz1⟩ := am_mono n d' m' _ _ _ hc
        obtain ⟨z2, hz2⟩ := am_mono n (d' + 1) mi _ _ _ h
        have hz1 : sh1 = aw_SH ++ z1 := hz1
        have hz2 : aw_SH = sh1 ++ z2 := hz2
        have hl : z1 = [] := by
          have h1 := congrArg List.length hz1
          have h2 := congrArg List.length hz2
          rw [List.length_append] at h1 h2
          exact List.length_eq_zero_iff.mp (by omega)
        rw [hl, List.append_nil] at hz1
        subst hz1
        exact ⟨n, v1, f2, hc, n, v, f1, h, hq⟩
  · rintro ⟨n, v1, f2, hc, n2, v, f1, h, hq⟩
    refine ⟨n + n2 + 1, v, f1, ?_, hq⟩
    unfold am_run
    rw [hs]
    dsimp only
    rw [aw_mono n d' m' _ _ n2 hc]
    dsimp only
    rw [show n + n2 = n2 + n by omega]
    exact aw_mono n2 (d' + 1) mi _ _ n h

theorem aw_ipush {d mi pc n : Nat} {ls st : List am_V} {f : am_F} {Q : am_V → am_F → Prop} {v : Int} (hi : am_ins mi pc = some (0, n, [v])) : aw_wp d mi pc ls st f Q = aw_wp d mi n ls ((0, v) :: st) f Q := aw_next (by unfold am_stp; dsimp only; rw [hi]; rfl)
theorem aw_lpush {d mi pc n : Nat} {ls st : List am_V} {f : am_F} {Q : am_V → am_F → Prop} {v : Int} (hi : am_ins mi pc = some (1, n, [v])) : aw_wp d mi pc ls st f Q = aw_wp d mi n ls ((1, v) :: st) f Q := aw_next (by unfold am_stp; dsimp only; rw [hi]; rfl)
theorem aw_ib0 {d mi pc n : Nat} {ls st : List am_V} {f : am_F} {Q : am_V → am_F → Prop} {a b : Int} (hi : am_ins mi pc = some (5, n, [0])) : aw_wp d mi pc ls ((0, b) :: (0, a) :: st) f Q = aw_wp d mi n ls ((0, am_wI (a + b)) :: st) f Q := aw_next (by unfold am_stp; dsimp only; rw [hi]; rfl)
theorem aw_ib1 {d mi pc n : Nat} {ls st : List am_V} {f : am_F} {Q : am_V → am_F → Prop} {a b : Int} (hi : am_ins mi pc = some (5, n, [1])) : aw_wp d mi pc ls ((0, b) :: (0, a) :: st) f Q = aw_wp d mi n ls ((0, am_wI (a - b)) :: st) f Q := aw_next (by unfold am_stp; dsimp only; rw [hi]; rfl)
theorem aw_ib2 {d mi pc n : Nat} {ls st : List am_V} {f : am_F} {Q : am_V → am_F → Prop} {a b : Int} (hi : am_ins mi pc = some (5, n, [2])) : aw_wp d mi pc ls ((0, b) :: (0, a) :: st) f Q = aw_wp d mi n ls ((0, am_wI (a * b)) :: st) f Q := aw_next (by unfold am_stp; dsimp only; rw [hi]; rfl)
theorem aw_ib5 {d mi pc n : Nat} {ls st : List am_V} {f : am_F} {Q : am_V → am_F → Prop} {a b : Int} (hi : am_ins mi pc = some (5, n, [5])) : aw_wp d mi pc ls ((0, b) :: (0, a) :: st) f Q = aw_wp d mi n ls ((0, am_and a b) :: st) f Q := aw_next (by unfold am_stp; dsimp only; rw [hi]; rfl)
theorem aw_ib6 {d mi pc n : Nat} {ls st : List am_V} {f : am_F} {Q : am_V → am_F → Prop} {a b : Int} (hi : am_ins mi pc = some (5, n, [6])) : aw_wp d mi pc ls ((0, b) :: (0, a) :: st) f Q = aw_wp d mi n ls ((0, am_or a b) :: st) f Q := aw_next (by unfold am_stp; dsimp only; rw [hi]; rfl)
theorem aw_ib7 {d mi pc n : Nat} {ls st : List am_V} {f : am_F} {Q : am_V → am_F → Prop} {a b : Int} (hi : am_ins mi pc = some (5, n, [7])) : aw_wp d mi pc ls ((0, b) :: (0, a) :: st) f Q = aw_wp d mi n ls ((0, am_xor a b) :: st) f Q := aw_next (by unfold am_stp; dsimp only; rw [hi]; rfl)
theorem aw_ib8 {d mi pc n : Nat} {ls st : List am_V} {f : am_F} {Q : am_V → am_F → Prop} {a b : Int} (hi : am_ins mi pc = some (5, n, [8])) : aw_wp d mi pc ls ((0, b) :: (0, a) :: st) f Q = aw_wp d mi n ls ((0, am_shl a b) :: st) f Q := aw_next (by unfold am_stp; dsimp only; rw [hi]; rfl)
theorem aw_ib9 {d mi pc n : Nat} {ls st : List am_V} {f : am_F} {Q : am_V → am_F → Prop} {a b : Int} (hi : am_ins mi pc = some (5, n, [9])) : aw_wp d mi pc ls ((0, b) :: (0, a) :: st) f Q = aw_wp d mi n ls ((0, am_shr a b) :: st) f Q := aw_next (by unfold am_stp; dsimp only; rw [hi]; rfl)
theorem aw_ib10 {d mi pc n : Nat} {ls st : List am_V} {f : am_F} {Q : am_V → am_F → Prop} {a b : Int} (hi : am_ins mi pc = some (5, n, [10])) : aw_wp d mi pc ls ((0, b) :: (0, a) :: st) f Q = aw_wp d mi n ls ((0, am_ush a b) :: st) f Q := aw_next (by unfold am_stp; dsimp only; rw [hi]; rfl)
theorem aw_lb0 {d mi pc n : Nat} {ls st : List am_V} {f : am_F} {Q : am_V → am_F → Prop} {a b : Int} (hi : am_ins mi pc = some (6, n, [0])) : aw_wp d mi pc ls ((1, b) :: (1, a) :: st) f Q = aw_wp d mi n ls ((1, am_wL (a + b)) :: st) f Q := aw_next (by unfold am_stp; dsimp only; rw [hi]; rfl)
theorem aw_lb1 {d mi pc n : Nat} {ls st : List am_V} {f : am_F} {Q : am_V → am_F → Prop} {a b : Int} (hi : am_ins mi pc = some (6, n, [1])) : aw_wp d mi pc ls ((1, b) :: (1, a) :: st) f Q = aw_wp d mi n ls ((1, am_wL (a - b)) :: st) f Q := aw_next (by unfold am_stp; dsimp only; rw [hi]; rfl)
theorem aw_lb2 {d mi pc n : Nat} {ls st : List am_V} {f : am_F} {Q : am_V → am_F → Prop} {a b : Int} (hi : am_ins mi pc = some (6, n, [2])) : aw_wp d mi pc ls ((1, b) :: (1, a) :: st) f Q = aw_wp d mi n ls ((1, am_wL (a * b)) :: st) f Q := aw_next (by unfold am_stp; dsimp only; rw [hi]; rfl)
theorem aw_ib3 {d mi pc n : Nat} {ls st : List am_V} {f : am_F} {Q : am_V → am_F → Prop} {a b : Int} (hi : am_ins mi pc = some (5, n, [3])) : aw_wp d mi pc ls ((0, b) :: (0, a) :: st) f Q = (¬ b = 0 ∧ aw_wp d mi n ls ((0, am_wI (a.tdiv b)) :: st) f Q) := by
  have hs : am_stp mi (pc, ls, (0, b) :: (0, a) :: st, aw_SH, f) = (match (if b = 0 then none else some (am_wI (a.tdiv b))) with | some v => am_nx n ls ((0, v) :: st) (aw_SH, f) | none => none) := by unfold am_stp; dsimp only; rw [hi]; rfl
  by_cases hb : b = 0
  · rw [if_pos hb] at hs
    rw [aw_stuck hs]; simp [hb]
  · rw [if_neg hb] at hs
    rw [aw_next hs]; simp [hb]
theorem aw_ib4 {d mi pc n : Nat} {ls st : List am_V} {f : am_F} {Q : am_V → am_F → Prop} {a b : Int} (hi : am_ins mi pc = some (5, n, [4])) : aw_wp d mi pc ls ((0, b) :: (0, a) :: st) f Q = (¬ b = 0 ∧ aw_wp d mi n ls ((0, am_wI (a.tmod b)) :: st) f Q) := by
  have hs : am_stp mi (pc, ls, (0, b) :: (0, a) :: st, aw_SH, f) = (match (if b = 0 then none else some (am_wI (a.tmod b))) with | some v => am_nx n ls ((0, v) :: st) (aw_SH, f) | none => none) := by unfold am_stp; dsimp only; rw [hi]; rfl
  by_cases hb : b = 0
  · rw [if_pos hb] at hs
    rw [aw_stuck hs]; simp [hb]
  · rw [if_neg hb] at hs
    rw [aw_next hs]; simp [hb]
theorem aw_lb3 {d mi pc n : Nat} {ls st : List am_V} {f : am_F} {Q : am_V → am_F → Prop} {a b : Int} (hi : am_ins mi pc = some (6, n, [3])) : aw_wp d mi pc ls ((1, b) :: (1, a) :: st) f Q = (¬ b = 0 ∧ aw_wp d mi n ls ((1, am_wL (a.tdiv b)) :: st) f Q) := by
  have hs : am_stp mi (pc, ls, (1, b) :: (1, a) :: st, aw_SH, f) = (match (if b = 0 then none else some (am_wL (a.tdiv b))) with | some v => am_nx n ls ((1, v) :: st) (aw_SH, f) | none => none) := by unfold am_stp; dsimp only; rw [hi]; rfl
  by_cases hb : b = 0
  · rw [if_pos hb] at hs
    rw [aw_stuck hs]; simp [hb]
  · rw [if_neg hb] at hs
    rw [aw_next hs]; simp [hb]
theorem aw_lb4 {d mi pc n : Nat} {ls st : List am_V} {f : am_F} {Q : am_V → am_F → Prop} {a b : Int} (hi : am_ins mi pc = some (6, n, [4])) : aw_wp d mi pc ls ((1, b) :: (1, a) :: st) f Q = (¬ b = 0 ∧ aw_wp d mi n ls ((1, am_wL (a.tmod b)) :: st) f Q) := by
  have hs : am_stp mi (pc, ls, (1, b) :: (1, a) :: st, aw_SH, f) = (match (if b = 0 then none else some (am_wL (a.tmod b))) with | some v => am_nx n ls ((1, v) :: st) (aw_SH, f) | none => none) := by unfold am_stp; dsimp only; rw [hi]; rfl
  by_cases hb : b = 0
  · rw [if_pos hb] at hs
    rw [aw_stuck hs]; simp [hb]
  · rw [if_neg hb] at hs
    rw [aw_next hs]; simp [hb]
theorem aw_lcmp {d mi pc n : Nat} {ls st : List am_V} {f : am_F} {Q : am_V → am_F → Prop} {a b : Int} (hi : am_ins mi pc = some (7, n, [])) : aw_wp d mi pc ls ((1, b) :: (1, a) :: st) f Q = aw_wp d mi n ls ((0, am_lc a b) :: st) f Q := aw_next (by unfold am_stp; dsimp only; rw [hi]; rfl)
theorem aw_i2l {d mi pc n : Nat} {ls st : List am_V} {f : am_F} {Q : am_V → am_F → Prop} {a : Int} (hi : am_ins mi pc = some (8, n, [0])) : aw_wp d mi pc ls ((0, a) :: st) f Q = aw_wp d mi n ls ((1, a) :: st) f Q := aw_next (by unfold am_stp; dsimp only; rw [hi]; rfl)
theorem aw_l2i {d mi pc n : Nat} {ls st : List am_V} {f : am_F} {Q : am_V → am_F → Prop} {a : Int} (hi : am_ins mi pc = some (8, n, [1])) : aw_wp d mi pc ls ((1, a) :: st) f Q = aw_wp d mi n ls ((0, am_wI a) :: st) f Q := aw_next (by unfold am_stp; dsimp only; rw [hi]; rfl)
theorem aw_goto {d mi pc n : Nat} {ls st : List am_V} {f : am_F} {Q : am_V → am_F → Prop} {t : Nat} (hi : am_ins mi pc = some (10, n, [(t : Int)])) : aw_wp d mi pc ls st f Q = aw_wp d mi t ls st f Q := aw_next (by unfold am_stp; dsimp only; rw [hi]; rfl)
theorem aw_pop {d mi pc n : Nat} {ls st : List am_V} {f : am_F} {Q : am_V → am_F → Prop} {t : Nat} {v : Int} (hi : am_ins mi pc = some (9, n, [0])) (ht : ¬ t = 1) : aw_wp d mi pc ls ((t, v) :: st) f Q = aw_wp d mi n ls st f Q := aw_next (by unfold am_stp; dsimp only; rw [hi]; exact if_neg ht)
theorem aw_dup {d mi pc n : Nat} {ls st : List am_V} {f : am_F} {Q : am_V → am_F → Prop} {t : Nat} {v : Int} (hi : am_ins mi pc = some (9, n, [1])) (ht : ¬ t = 1) : aw_wp d mi pc ls ((t, v) :: st) f Q = aw_wp d mi n ls ((t, v) :: (t, v) :: st) f Q := aw_next (by unfold am_stp; dsimp only; rw [hi]; exact if_neg ht)
theorem aw_dup2 {d mi pc n : Nat} {ls st : List am_V} {f : am_F} {Q : am_V → am_F → Prop} {t u : Nat} {v w : Int} (hi : am_ins mi pc = some (9, n, [2])) (ht : ¬ t = 1) (hu : ¬ u = 1) : aw_wp d mi pc ls ((t, v) :: (u, w) :: st) f Q = aw_wp d mi n ls ((t, v) :: (u, w) :: (t, v) :: (u, w) :: st) f Q := aw_next (by unfold am_stp; dsimp only; rw [hi]; exact (if_neg ht).trans (if_neg hu))
theorem aw_dupx {d mi pc n : Nat} {ls st : List am_V} {f : am_F} {Q : am_V → am_F → Prop} {t u : Nat} {v w : Int} (hi : am_ins mi pc = some (9, n, [3])) (ht : ¬ t = 1) (hu : ¬ u = 1) : aw_wp d mi pc ls ((t, v) :: (u, w) :: st) f Q = aw_wp d mi n ls ((t, v) :: (u, w) :: (t, v) :: st) f Q := aw_next (by unfold am_stp; dsimp only; rw [hi]; exact (if_neg ht).trans (if_neg hu))
theorem aw_iceq {d mi pc n : Nat} {ls st : List am_V} {f : am_F} {Q : am_V → am_F → Prop} {t : Nat} {a b : Int} (hi : am_ins mi pc = some (11, n, [0, (t : Int)])) : aw_wp d mi pc ls ((0, b) :: (0, a) :: st) f Q = ((a = b → aw_wp d mi t ls st f Q) ∧ (¬ (a = b) → aw_wp d mi n ls st f Q)) := by
  have hs : am_stp mi (pc, ls, (0, b) :: (0, a) :: st, aw_SH, f) = (if decide (a = b) = true then am_nx t ls st (aw_SH, f) else am_nx n ls st (aw_SH, f)) := by unfold am_stp; dsimp only; rw [hi]; rfl
  by_cases hc : a = b
  · rw [if_pos (decide_eq_true hc)] at hs
    rw [aw_next hs]; simp [hc]
  · rw [if_neg (fun q => hc (of_decide_eq_true q))] at hs
    rw [aw_next hs]; simp [hc]
theorem aw_ifeq {d mi pc n : Nat} {ls st : List am_V} {f : am_F} {Q : am_V → am_F → Prop} {t : Nat} {a : Int} (hi : am_ins mi pc = some (12, n, [0, (t : Int)])) : aw_wp d mi pc ls ((0, a) :: st) f Q = ((a = (0 : Int) → aw_wp d mi t ls st f Q) ∧ (¬ (a = (0 : Int)) → aw_wp d mi n ls st f Q)) := by
  have hs : am_stp mi (pc, ls, (0, a) :: st, aw_SH, f) = (if decide (a = (0 : Int)) = true then am_nx t ls st (aw_SH, f) else am_nx n ls st (aw_SH, f)) := by unfold am_stp; dsimp only; rw [hi]; rfl
  by_cases hc : a = (0 : Int)
  · rw [if_pos (decide_eq_true hc)] at hs
    rw [aw_next hs]; simp [hc]
  · rw [if_neg (fun q => hc (of_decide_eq_true q))] at hs
    rw [aw_next hs]; simp [hc]
theorem aw_icne {d mi pc n : Nat} {ls st : List am_V} {f : am_F} {Q : am_V → am_F → Prop} {t : Nat} {a b : Int} (hi : am_ins mi pc = some (11, n, [1, (t : Int)])) : aw_wp d mi pc ls ((0, b) :: (0, a) :: st) f Q = ((¬ a = b → aw_wp d mi t ls st f Q) ∧ (¬ (¬ a = b) → aw_wp d mi n ls st f Q)) := by
  have hs : am_stp mi (pc, ls, (0, b) :: (0, a) :: st, aw_SH, f) = (if decide (¬ a = b) = true then am_nx t ls st (aw_SH, f) else am_nx n ls st (aw_SH, f)) := by unfold am_stp; dsimp only; rw [hi]; rfl
  by_cases hc : ¬ a = b
  · rw [if_pos (decide_eq_true hc)] at hs
    rw [aw_next hs]; simp [hc]
  · rw [if_neg (fun q => hc (of_decide_eq_true q))] at hs
    rw [aw_next hs]; simp [hc]
theorem aw_ifne {d mi pc n : Nat} {ls st : List am_V} {f : am_F} {Q : am_V → am_F → Prop} {t : Nat} {a : Int} (hi : am_ins mi pc = some (12, n, [1, (t : Int)])) : aw_wp d mi pc ls ((0, a) :: st) f Q = ((¬ a = (0 : Int) → aw_wp d mi t ls st f Q) ∧ (¬ (¬ a = (0 : Int)) → aw_wp d mi n ls st f Q)) := by
  have hs : am_stp mi (pc, ls, (0, a) :: st, aw_SH, f) = (if decide (¬ a = (0 : Int)) = true then am_nx t ls st (aw_SH, f) else am_nx n ls st (aw_SH, f)) := by unfold am_stp; dsimp only; rw [hi]; rfl
  by_cases hc : ¬ a = (0 : Int)
  · rw [if_pos (decide_eq_true hc)] at hs
    rw [aw_next hs]; simp [hc]
  · rw [if_neg (fun q => hc (of_decide_eq_true q))] at hs
    rw [aw_next hs]; simp [hc]
theorem aw_iclt {d mi pc n : Nat} {ls st : List am_V} {f : am_F} {Q : am_V → am_F → Prop} {t : Nat} {a b : Int} (hi : am_ins mi pc = some (11, n, [2, (t : Int)])) : aw_wp d mi pc ls ((0, b) :: (0, a) :: st) f Q = ((a < b → aw_wp d mi t ls st f Q) ∧ (¬ (a < b) → aw_wp d mi n ls st f Q)) := by
  have hs : am_stp mi (pc, ls, (0, b) :: (0, a) :: st, aw_SH, f) = (if decide (a < b) = true then am_nx t ls st (aw_SH, f) else am_nx n ls st (aw_SH, f)) := by unfold am_stp; dsimp only; rw [hi]; rfl
  by_cases hc : a < b
  · rw [if_pos (decide_eq_true hc)] at hs
    rw [aw_next hs]; simp [hc]
  · rw [if_neg (fun q => hc (of_decide_eq_true q))] at hs
    rw [aw_next hs]; simp [hc]
theorem aw_iflt {d mi pc n : Nat} {ls st : List am_V} {f : am_F} {Q : am_V → am_F → Prop} {t : Nat} {a : Int} (hi : am_ins mi pc = some (12, n, [2, (t : Int)])) : aw_wp d mi pc ls ((0, a) :: st) f Q = ((a < (0 : Int) → aw_wp d mi t ls st f Q) ∧ (¬ (a < (0 : Int)) → aw_wp d mi n ls st f Q)) := by
  have hs : am_stp mi (pc, ls, (0, a) :: st, aw_SH, f) = (if decide (a < (0 : Int)) = true then am_nx t ls st (aw_SH, f) else am_nx n ls st (aw_SH, f)) := by unfold am_stp; dsimp only; rw [hi]; rfl
  by_cases hc : a < (0 : Int)
  · rw [if_pos (decide_eq_true hc)] at hs
    rw [aw_next hs]; simp [hc]
  · rw [if_neg (fun q => hc (of_decide_eq_true q))] at hs
    rw [aw_next hs]; simp [hc]
theorem aw_icge {d mi pc n : Nat} {ls st : List am_V} {f : am_F} {Q : am_V → am_F → Prop} {t : Nat} {a b : Int} (hi : am_ins mi pc = some (11, n, [3, (t : Int)])) : aw_wp d mi pc ls ((0, b) :: (0, a) :: st) f Q = ((b ≤ a → aw_wp d mi t ls st f Q) ∧ (¬ (b ≤ a) → aw_wp d mi n ls st f Q)) := by
  have hs : am_stp mi (pc, ls, (0, b) :: (0, a) :: st, aw_SH, f) = (if decide (b ≤ a) = true then am_nx t ls st (aw_SH, f) else am_nx n ls st (aw_SH, f)) := by unfold am_stp; dsimp only; rw [hi]; rfl
  by_cases hc : b ≤ a
  · rw [if_pos (decide_eq_true hc)] at hs
    rw [aw_next hs]; simp [hc]
  · rw [if_neg (fun q => hc (of_decide_eq_true q))] at hs
    rw [aw_next hs]; simp [hc]
theorem aw_ifge {d mi pc n : Nat} {ls st : List am_V} {f : am_F} {Q : am_V → am_F → Prop} {t : Nat} {a : Int} (hi : am_ins mi pc = some (12, n, [3, (t : Int)])) : aw_wp d mi pc ls ((0, a) :: st) f Q = (((0 : Int) ≤ a → aw_wp d mi t ls st f Q) ∧ (¬ ((0 : Int) ≤ a) → aw_wp d mi n ls st f Q)) := by
  have hs : am_stp mi (pc, ls, (0, a) :: st, aw_SH, f) = (if decide ((0 : Int) ≤ a) = true then am_nx t ls st (aw_SH, f) else am_nx n ls st (aw_SH, f)) := by unfold am_stp; dsimp only; rw [hi]; rfl
  by_cases hc : (0 : Int) ≤ a
  · rw [if_pos (decide_eq_true hc)] at hs
    rw [aw_next hs]; simp [hc]
  · rw [if_neg (fun q => hc (of_decide_eq_true q))] at hs
    rw [aw_next hs]; simp [hc]
theorem aw_icgt {d mi pc n : Nat} {ls st : List am_V} {f : am_F} {Q : am_V → am_F → Prop} {t : Nat} {a b : Int} (hi : am_ins mi pc = some (11, n, [4, (t : Int)])) : aw_wp d mi pc ls ((0, b) :: (0, a) :: st) f Q = ((b < a → aw_wp d mi t ls st f Q) ∧ (¬ (b < a) → aw_wp d mi n ls st f Q)) := by
  have hs : am_stp mi (pc, ls, (0, b) :: (0, a) :: st, aw_SH, f) = (if decide (b < a) = true then am_nx t ls st (aw_SH, f) else am_nx n ls st (aw_SH, f)) := by unfold am_stp; dsimp only; rw [hi]; rfl
  by_cases hc : b < a
  · rw [if_pos (decide_eq_true hc)] at hs
    rw [aw_next hs]; simp [hc]
  · rw [if_neg (fun q => hc (of_decide_eq_true q))] at hs
    rw [aw_next hs]; simp [hc]
theorem aw_ifgt {d mi pc n : Nat} {ls st : List am_V} {f : am_F} {Q : am_V → am_F → Prop} {t : Nat} {a : Int} (hi : am_ins mi pc = some (12, n, [4, (t : Int)])) : aw_wp d mi pc ls ((0, a) :: st) f Q = (((0 : Int) < a → aw_wp d mi t ls st f Q) ∧ (¬ ((0 : Int) < a) → aw_wp d mi n ls st f Q)) := by
  have hs : am_stp mi (pc, ls, (0, a) :: st, aw_SH, f) = (if decide ((0 : Int) < a) = true then am_nx t ls st (aw_SH, f) else am_nx n ls st (aw_SH, f)) := by unfold am_stp; dsimp only; rw [hi]; rfl
  by_cases hc : (0 : Int) < a
  · rw [if_pos (decide_eq_true hc)] at hs
    rw [aw_next hs]; simp [hc]
  · rw [if_neg (fun q => hc (of_decide_eq_true q))] at hs
    rw [aw_next hs]; simp [hc]
theorem aw_icle {d mi pc n : Nat} {ls st : List am_V} {f : am_F} {Q : am_V → am_F → Prop} {t : Nat} {a b : Int} (hi : am_ins mi pc = some (11, n, [5, (t : Int)])) : aw_wp d mi pc ls ((0, b) :: (0, a) :: st) f Q = ((a ≤ b → aw_wp d mi t ls st f Q) ∧ (¬ (a ≤ b) → aw_wp d mi n ls st f Q)) := by
  have hs : am_stp mi (pc, ls, (0, b) :: (0, a) :: st, aw_SH, f) = (if decide (a ≤ b) = true then am_nx t ls st (aw_SH, f) else am_nx n ls st (aw_SH, f)) := by unfold am_stp; dsimp only; rw [hi]; rfl
  by_cases hc : a ≤ b
  · rw [if_pos (decide_eq_true hc)] at hs
    rw [aw_next hs]; simp [hc]
  · rw [if_neg (fun q => hc (of_decide_eq_true q))] at hs
    rw [aw_next hs]; simp [hc]
theorem aw_ifle {d mi pc n : Nat} {ls st : List am_V} {f : am_F} {Q : am_V → am_F → Prop} {t : Nat} {a : Int} (hi : am_ins mi pc = some (12, n, [5, (t : Int)])) : aw_wp d mi pc ls ((0, a) :: st) f Q = ((a ≤ (0 : Int) → aw_wp d mi t ls st f Q) ∧ (¬ (a ≤ (0 : Int)) → aw_wp d mi n ls st f Q)) := by
  have hs : am_stp mi (pc, ls, (0, a) :: st, aw_SH, f) = (if decide (a ≤ (0 : Int)) = true then am_nx t ls st (aw_SH, f) else am_nx n ls st (aw_SH, f)) := by unfold am_stp; dsimp only; rw [hi]; rfl
  by_cases hc : a ≤ (0 : Int)
  · rw [if_pos (decide_eq_true hc)] at hs
    rw [aw_next hs]; simp [hc]
  · rw [if_neg (fun q => hc (of_decide_eq_true q))] at hs
    rw [aw_next hs]; simp [hc]
theorem aw_ld {d mi pc n : Nat} {ls st : List am_V} {f : am_F} {Q : am_V → am_F → Prop} {c k : Nat} (hi : am_ins mi pc = some (2, n, [(c : Int), (k : Int)])) : aw_wp d mi pc ls st f Q = (am_kd c (ls.getD k (2, 0)) = true ∧ aw_wp d mi n ls (ls.getD k (2, 0) :: st) f Q) := by
  have hs : am_stp mi (pc, ls, st, aw_SH, f) = (match ls[((k : Int)).toNat]? with | some v => if am_kd ((c : Int)).toNat v = true then am_nx n ls (v :: st) (aw_SH, f) else none | none => none) := by unfold am_stp; dsimp only; rw [hi]; rfl
  rw [Int.toNat_natCast, Int.toNat_natCast] at hs
  rw [List.getD_eq_getElem?_getD]
  cases hL : ls[k]? with
  | none =>
    rw [hL] at hs
    rw [aw_stuck hs]
    have : am_kd c (2, 0) = false := by
      match c with
      | 0 => rfl
      | 1 => rfl
      | c + 2 => rfl
    simp [this]
  | some v =>
    rw [hL] at hs
    dsimp only at hs
    by_cases hv : am_kd c v = true
    · rw [if_pos hv] at hs
      rw [aw_next hs]; simp [hv]
    · rw [if_neg hv] at hs
      rw [aw_stuck hs]; simp [hv]
theorem aw_st1 {d mi pc n : Nat} {ls st : List am_V} {f : am_F} {Q : am_V → am_F → Prop} {c k t : Nat} {x : Int} (hi : am_ins mi pc = some (3, n, [(c : Int), (k : Int)])) (hk : am_kd c (t, x) = true) (ht : ¬ t = 1) (hl : k < ls.length) : aw_wp d mi pc ls ((t, x) :: st) f Q = aw_wp d mi n (am_set1 k (t, x) ls) st f Q := by
  refine aw_next ?_
  unfold am_stp
  dsimp only
  rw [hi]
  show (if am_kd ((c : Int)).toNat (t, x) = true ∧ ((k : Int)).toNat + (if t = 1 then 1 else 0) < ls.length then (if t = 1 then am_nx n (am_set2 ((k : Int)).toNat (t, x) ls) st (aw_SH, f) else am_nx n (am_set1 ((k : Int)).toNat (t, x) ls) st (aw_SH, f)) else none) = _
  rw [Int.toNat_natCast, Int.toNat_natCast, if_neg ht, if_neg ht, if_pos ⟨hk, by omega⟩]
  rfl
theorem aw_st2 {d mi pc n : Nat} {ls st : List am_V} {f : am_F} {Q : am_V → am_F → Prop} {k : Nat} {x : Int} (hi : am_ins mi pc = some (3, n, [1, (k : Int)])) (hl : k + 1 < ls.length) : aw_wp d mi pc ls ((1, x) :: st) f Q = aw_wp d mi n (am_set2 k (1, x) ls) st f Q := by
  refine aw_next ?_
  unfold am_stp
  dsimp only
  rw [hi]
  show (if am_kd 1 (1, x) = true ∧ ((k : Int)).toNat + 1 < ls.length then am_nx n (am_set2 ((k : Int)).toNat (1, x) ls) st (aw_SH, f) else none) = _
  rw [Int.toNat_natCast, if_pos ⟨rfl, hl⟩]
  rfl
theorem aw_iinc {d mi pc n : Nat} {ls st : List am_V} {f : am_F} {Q : am_V → am_F → Prop} {k : Nat} {c x : Int} (hi : am_ins mi pc = some (4, n, [(k : Int), c])) (hl : ls[k]? = some (0, x)) : aw_wp d mi pc ls st f Q = aw_wp d mi n (am_set1 k (0, am_wI (x + c)) ls) st f Q := by
  refine aw_next ?_
  unfold am_stp
  dsimp only
  rw [hi]
  show (match ls[((k : Int)).toNat]? with | some (0, v) => am_nx n (am_set1 ((k : Int)).toNat (0, am_wI (v + c)) ls) st (aw_SH, f) | _ => none) = _
  rw [Int.toNat_natCast, hl]
  rfl
theorem aw_get {d mi pc n : Nat} {ls st : List am_V} {f : am_F} {Q : am_V → am_F → Prop} {t k g : Nat} {a : Int} (hi : am_ins mi pc = some (20, n, [(t : Int), (k : Int), (g : Int)])) : aw_wp d mi pc ls ((t, a) :: st) f Q = (0 ≤ a ∧ aw_wp d mi n ls ((g, f a (k : Int)) :: st) f Q) := by
  have hs : am_stp mi (pc, ls, (t, a) :: st, aw_SH, f) = (if t = ((t : Int)).toNat ∧ 0 ≤ a then am_nx n ls ((((g : Int)).toNat, f a (k : Int)) :: st) (aw_SH, f) else none) := by unfold am_stp; dsimp only; rw [hi]; rfl
  rw [Int.toNat_natCast, Int.toNat_natCast] at hs
  by_cases hc : 0 ≤ a
  · rw [if_pos ⟨rfl, hc⟩] at hs
    rw [aw_next hs]; simp [hc]
  · rw [if_neg (fun q => hc q.2)] at hs
    rw [aw_stuck hs]; simp [hc]
theorem aw_put {d mi pc n : Nat} {ls st : List am_V} {f : am_F} {Q : am_V → am_F → Prop} {t k g b : Nat} {a v : Int} (hi : am_ins mi pc = some (21, n, [(t : Int), (k : Int), (g : Int), (b : Int)])) : aw_wp d mi pc ls ((g, v) :: (t, a) :: st) f Q = (0 ≤ a ∧ (b = 1 → v = 0 ∨ v = 1) ∧ (20 ≤ g → 0 ≤ v) ∧ aw_wp d mi n ls st (am_up f a (k : Int) v) Q) := by
  have hs : am_stp mi (pc, ls, (g, v) :: (t, a) :: st, aw_SH, f) = (if t = ((t : Int)).toNat ∧ 0 ≤ a then (if g = ((g : Int)).toNat ∧ ((b : Int) = 1 → v = 0 ∨ v = 1) ∧ (20 ≤ g → 0 ≤ v) then am_nx n ls st (aw_SH, am_up f a (k : Int) v) else none) else none) := by unfold am_stp; dsimp only; rw [hi]; rfl
  rw [Int.toNat_natCast, Int.toNat_natCast] at hs
  by_cases hc : 0 ≤ a
  · rw [if_pos ⟨rfl, hc⟩] at hs
    by_cases h2 : (b = 1 → v = 0 ∨ v = 1) ∧ (20 ≤ g → 0 ≤ v)
    · rw [if_pos ⟨rfl, fun q => h2.1 (by omega), h2.2⟩] at hs
      rw [aw_next hs]
      apply propext
      exact ⟨fun h => ⟨hc, h2.1, h2.2, h⟩, fun h => h.2.2.2⟩
    · rw [if_neg (fun q => h2 ⟨fun z => q.2.1 (by omega), q.2.2⟩)] at hs
      rw [aw_stuck hs]
      apply propext
      exact ⟨fun h => h.elim, fun h => h2 ⟨h.2.1, h.2.2.1⟩⟩
  · rw [if_neg (fun q => hc q.2)] at hs
    rw [aw_stuck hs]; simp [hc]
theorem aw_ald {d mi pc n : Nat} {ls st : List am_V} {f : am_F} {Q : am_V → am_F → Prop} {t g : Nat} {a j : Int} (hi : am_ins mi pc = some (22, n, [(t : Int), (g : Int)])) : aw_wp d mi pc ls ((0, j) :: (t, a) :: st) f Q = (0 ≤ a ∧ 0 ≤ j ∧ j < am_len aw_SH a ∧ aw_wp d mi n ls ((g, f a j) :: st) f Q) := by
  have hs : am_stp mi (pc, ls, (0, j) :: (t, a) :: st, aw_SH, f) = (if t = ((t : Int)).toNat ∧ 0 ≤ a then (if 0 ≤ j ∧ j < am_len aw_SH a then am_nx n ls ((((g : Int)).toNat, f a j) :: st) (aw_SH, f) else none) else none) := by unfold am_stp; dsimp only; rw [hi]; rfl
  rw [Int.toNat_natCast, Int.toNat_natCast] at hs
  by_cases hc : 0 ≤ a
  · rw [if_pos ⟨rfl, hc⟩] at hs
    by_cases h2 : 0 ≤ j ∧ j < am_len aw_SH a
    · rw [if_pos h2] at hs
      rw [aw_next hs]
      apply propext
      exact ⟨fun h => ⟨hc, h2.1, h2.2, h⟩, fun h => h.2.2.2⟩
    · rw [if_neg h2] at hs
      rw [aw_stuck hs]
      apply propext
      exact ⟨fun h => h.elim, fun h => h2 ⟨h.2.1, h.2.2.1⟩⟩
  · rw [if_neg (fun q => hc q.2)] at hs
    rw [aw_stuck hs]; simp [hc]
theorem aw_ast {d mi pc n : Nat} {ls st : List am_V} {f : am_F} {Q : am_V → am_F → Prop} {t g : Nat} {a j v : Int} (hi : am_ins mi pc = some (23, n, [(t : Int), (g : Int)])) : aw_wp d mi pc ls ((g, v) :: (0, j) :: (t, a) :: st) f Q = (0 ≤ a ∧ am_fitE t v = true ∧ (20 ≤ g → 0 ≤ v) ∧ 0 ≤ j ∧ j < am_len aw_SH a ∧ aw_wp d mi n ls st (am_up f a j v) Q) := by
  have hs : am_stp mi (pc, ls, (g, v) :: (0, j) :: (t, a) :: st, aw_SH, f) = (if t = ((t : Int)).toNat ∧ 0 ≤ a then (if g = ((g : Int)).toNat ∧ am_fitE ((t : Int)).toNat v = true ∧ (20 ≤ g → 0 ≤ v) ∧ 0 ≤ j ∧ j < am_len aw_SH a then am_nx n ls st (aw_SH, am_up f a j v) else none) else none) := by unfold am_stp; dsimp only; rw [hi]; rfl
  rw [Int.toNat_natCast, Int.toNat_natCast] at hs
  by_cases hc : 0 ≤ a
  · rw [if_pos ⟨rfl, hc⟩] at hs
    by_cases h2 : am_fitE t v = true ∧ (20 ≤ g → 0 ≤ v) ∧ 0 ≤ j ∧ j < am_len aw_SH a
    · rw [if_pos ⟨rfl, h2⟩] at hs
      rw [aw_next hs]
      apply propext
      exact ⟨fun h => ⟨hc, h2.1, h2.2.1, h2.2.2.1, h2.2.2.2, h⟩, fun h => h.2.2.2.2.2⟩
    · rw [if_neg (fun q => h2 q.2)] at hs
      rw [aw_stuck hs]
      apply propext
      exact ⟨fun h => h.elim, fun h => h2 ⟨h.2.1, h.2.2.1, h.2.2.2.1, h.2.2.2.2.1⟩⟩
  · rw [if_neg (fun q => hc q.2)] at hs
    rw [aw_stuck hs]; simp [hc]
theorem aw_reti {d mi pc n : Nat} {ls st : List am_V} {f : am_F} {Q : am_V → am_F → Prop} {v : Int} (hi : am_ins mi pc = some (29, n, [0])) : aw_wp d mi pc ls [(0, v)] f Q = Q (0, v) f := aw_ret (by unfold am_stp; dsimp only; rw [hi]; rfl)
theorem aw_retl {d mi pc n : Nat} {ls st : List am_V} {f : am_F} {Q : am_V → am_F → Prop} {v : Int} (hi : am_ins mi pc = some (29, n, [1])) : aw_wp d mi pc ls [(1, v)] f Q = Q (1, v) f := aw_ret (by unfold am_stp; dsimp only; rw [hi]; rfl)
theorem aw_retv {d mi pc n : Nat} {ls st : List am_V} {f : am_F} {Q : am_V → am_F → Prop} (hi : am_ins mi pc = some (29, n, [3])) : aw_wp d mi pc ls [] f Q = Q (3, 0) f := aw_ret (by unfold am_stp; dsimp only; rw [hi]; rfl)
theorem aw_retz {d mi pc n : Nat} {ls st : List am_V} {f : am_F} {Q : am_V → am_F → Prop} {v : Int} (hi : am_ins mi pc = some (29, n, [4])) : aw_wp d mi pc ls [(0, v)] f Q = ((v = 0 ∨ v = 1) ∧ Q (0, v) f) := by
  have hs : am_stp mi (pc, ls, [(0, v)], aw_SH, f) = (if v = 0 ∨ v = 1 then some (.inr (.inl ((0, v), aw_SH, f))) else none) := by unfold am_stp; dsimp only; rw [hi]; rfl
  by_cases hc : v = 0 ∨ v = 1
  · rw [if_pos hc] at hs
    rw [aw_ret hs]; simp [hc]
  · rw [if_neg hc] at hs
    rw [aw_stuck hs]; simp [hc]
theorem aw_inv {d mi pc n : Nat} {ls st : List am_V} {f : am_F} {Q : am_V → am_F → Prop} {kd m' : Nat} (as : List am_V) {st' : List am_V} (hi : am_ins mi pc = some (28, n, [(kd : Int), (m' : Int)])) (hst : st = as.reverse ++ st') (hp : as.map Prod.fst = am_pt m') (h0 : kd = 0 ∨ 0 ≤ (as.getD 0 (0, -1)).2) (hc : am_cs st' ≤ 8) (hd : 1 ≤ d) : aw_wp d mi pc ls st f Q = aw_cl (d - 1) m' as f (fun v f' => aw_wp d mi n ls (if v.1 = 3 then st' else v :: st') f' Q) := by
  refine aw_call ?_ hd
  unfold am_stp
  dsimp only
  rw [hi]
  dsimp only
  rw [am_st28]
  have e1 : ([(kd : Int), (m' : Int)].getD 1 0).toNat = m' := Int.toNat_natCast m'
  have e0 : [(kd : Int), (m' : Int)].getD 0 0 = (kd : Int) := rfl
  have el : (am_pt m').length = as.length := by rw [← hp, List.length_map]
  have et : st.take (am_pt m').length = as.reverse := by rw [hst, el, ← List.length_reverse, List.take_left]
  have ed : st.drop (am_pt m').length = st' := by rw [hst, el, ← List.length_reverse, List.drop_left]
  rw [e1, e0, et, ed, List.reverse_reverse, if_pos ⟨by rw [hst, el, List.length_append, List.length_reverse]; omega, hp, h0.imp (fun h => by omega) id, hc⟩]
