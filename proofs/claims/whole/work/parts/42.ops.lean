/-! the instructions that 17 leaves out; lists of locals -/
theorem aw_alen {d mi pc n : Nat} {ls st : List am_V} {f : am_F} {Q : am_V → am_F → Prop} {t : Nat} {a : Int} (hi : am_ins mi pc = some (24, n, [])) : aw_wp d mi pc ls ((t, a) :: st) f Q = ((20 ≤ t ∧ t ≤ 24 ∧ 0 ≤ a) ∧ aw_wp d mi n ls ((0, am_len aw_SH a) :: st) f Q) := by
  have hs : am_stp mi (pc, ls, (t, a) :: st, aw_SH, f) = (if 20 ≤ t ∧ t ≤ 24 ∧ 0 ≤ a then am_nx n ls ((0, am_len aw_SH a) :: st) (aw_SH, f) else none) := by unfold am_stp; dsimp only; rw [hi]; rfl
  by_cases hc : 20 ≤ t ∧ t ≤ 24 ∧ 0 ≤ a
  · rw [if_pos hc] at hs
    rw [aw_next hs]; simp [hc]
  · rw [if_neg hc] at hs
    rw [aw_stuck hs]; simp [hc]
theorem aw_swx {d mi pc n : Nat} {ls st : List am_V} {f : am_F} {Q : am_V → am_F → Prop} {a d0 : Int} {tb : List Int} (hi : am_ins mi pc = some (13, n, d0 :: tb)) : aw_wp d mi pc ls ((0, a) :: st) f Q = aw_wp d mi (am_sw a d0 tb).toNat ls st f Q := aw_next (by unfold am_stp; dsimp only; rw [hi]; rfl)
theorem aw_swc {d mi : Nat} {ls st : List am_V} {f : am_F} {Q : am_V → am_F → Prop} {a d0 c t : Int} {r : List Int} : aw_wp d mi (am_sw a d0 (c :: t :: r)).toNat ls st f Q = ((a = c → aw_wp d mi t.toNat ls st f Q) ∧ (¬ a = c → aw_wp d mi (am_sw a d0 r).toNat ls st f Q)) := by
  have hs : am_sw a d0 (c :: t :: r) = if a = c then t else am_sw a d0 r := rfl
  rw [hs]
  by_cases hc : a = c
  · rw [if_pos hc]; simp [hc]
  · rw [if_neg hc]; simp [hc]
theorem aw_swn {a d0 : Int} : am_sw a d0 [] = d0 := rfl
theorem aw_cpy {d mi pc n : Nat} {ls st : List am_V} {f : am_F} {Q : am_V → am_F → Prop} {k dp a sp a0 : Int} (hi : am_ins mi pc = some (33, n, [])) : aw_wp d mi pc ls ((0, k) :: (0, dp) :: (20, a) :: (0, sp) :: (20, a0) :: st) f Q = ((0 ≤ a ∧ 0 ≤ a0 ∧ 0 ≤ k ∧ 0 ≤ dp ∧ 0 ≤ sp ∧ sp + k ≤ am_len aw_SH a0 ∧ dp + k ≤ am_len aw_SH a ∧ am_cs st ≤ 8) ∧ aw_wp d mi n ls st (am_cpy f a0 sp a dp k) Q) := by
  have hs : am_stp mi (pc, ls, (0, k) :: (0, dp) :: (20, a) :: (0, sp) :: (20, a0) :: st, aw_SH, f) = (if 20 = 20 ∧ 0 ≤ a then (if 20 = 20 ∧ 0 ≤ a0 then (if 0 ≤ k ∧ 0 ≤ dp ∧ 0 ≤ sp ∧ sp + k ≤ am_len aw_SH a0 ∧ dp + k ≤ am_len aw_SH a ∧ am_cs st ≤ 8 then am_nx n ls st (aw_SH, am_cpy f a0 sp a dp k) else none) else none) else none) := by unfold am_stp; dsimp only; rw [hi]; rfl
  by_cases ha : 0 ≤ a
  · rw [if_pos ⟨rfl, ha⟩] at hs
    by_cases hb : 0 ≤ a0
    · rw [if_pos ⟨rfl, hb⟩] at hs
      by_cases hc : 0 ≤ k ∧ 0 ≤ dp ∧ 0 ≤ sp ∧ sp + k ≤ am_len aw_SH a0 ∧ dp + k ≤ am_len aw_SH a ∧ am_cs st ≤ 8
      · rw [if_pos hc] at hs
        rw [aw_next hs]; simp [ha, hb, hc]
      · rw [if_neg hc] at hs
        rw [aw_stuck hs]
        apply propext
        exact ⟨fun h => h.elim, fun h => hc h.1.2.2⟩
    · rw [if_neg (fun q => hb q.2)] at hs
      rw [aw_stuck hs]; simp [hb]
  · rw [if_neg (fun q => ha q.2)] at hs
    rw [aw_stuck hs]; simp [ha]
theorem aw_tpush {d mi pc n : Nat} {ls st : List am_V} {f : am_F} {Q : am_V → am_F → Prop} (hi : am_ins mi pc = some (30, n, [])) : aw_wp d mi pc ls st f Q = aw_wp d mi n ls ((30, 0) :: st) f Q := aw_next (by unfold am_stp; dsimp only; rw [hi]; rfl)
theorem aw_tlen {d mi pc n : Nat} {ls st : List am_V} {f : am_F} {Q : am_V → am_F → Prop} (hi : am_ins mi pc = some (31, n, [])) : aw_wp d mi pc ls ((30, 0) :: st) f Q = (am_cs st ≤ 8 ∧ aw_wp d mi n ls ((0, (am_txt.length : Int)) :: st) f Q) := by
  have hs : am_stp mi (pc, ls, (30, 0) :: st, aw_SH, f) = (if am_cs st ≤ 8 then am_nx n ls ((0, (am_txt.length : Int)) :: st) (aw_SH, f) else none) := by unfold am_stp; dsimp only; rw [hi]; rfl
  by_cases hc : am_cs st ≤ 8
  · rw [if_pos hc] at hs
    rw [aw_next hs]; simp [hc]
  · rw [if_neg hc] at hs
    rw [aw_stuck hs]; simp [hc]
theorem aw_tat {d mi pc n : Nat} {ls st : List am_V} {f : am_F} {Q : am_V → am_F → Prop} {j : Int} (hi : am_ins mi pc = some (32, n, [])) : aw_wp d mi pc ls ((0, j) :: (30, 0) :: st) f Q = ((0 ≤ j ∧ j < (am_txt.length : Int) ∧ am_cs st ≤ 8) ∧ aw_wp d mi n ls ((0, am_txt.getD j.toNat 0) :: st) f Q) := by
  have hs : am_stp mi (pc, ls, (0, j) :: (30, 0) :: st, aw_SH, f) = (if 0 ≤ j ∧ j < (am_txt.length : Int) ∧ am_cs st ≤ 8 then am_nx n ls ((0, am_txt.getD j.toNat 0) :: st) (aw_SH, f) else none) := by unfold am_stp; dsimp only; rw [hi]; rfl
  by_cases hc : 0 ≤ j ∧ j < (am_txt.length : Int) ∧ am_cs st ≤ 8
  · rw [if_pos hc] at hs
    rw [aw_next hs]; simp [hc]
  · rw [if_neg hc] at hs
    rw [aw_stuck hs]; simp [hc]
theorem cs_nil : am_cs [] = 0 := rfl
theorem cs_cons {t : Nat} {a : Int} {l : List am_V} : am_cs ((t, a) :: l) = (if t = 1 then 2 else 1) + am_cs l := by
  unfold am_cs
  rw [List.map_cons, List.sum_cons]
theorem kd2 {t : Nat} {v : Int} : (am_kd 2 (t, v) = true) = (20 ≤ t ∧ ¬ t = 30 ∧ 0 ≤ v) := by
  simp [am_kd, and_assoc]
theorem aw_ldi {d mi pc n : Nat} {ls st : List am_V} {f : am_F} {Q : am_V → am_F → Prop} {k : Nat} {v : Int} (hi : am_ins mi pc = some (2, n, [0, (k : Int)])) (h : ls.getD k (2, 0) = (0, v)) : aw_wp d mi pc ls st f Q = aw_wp d mi n ls ((0, v) :: st) f Q := by
  rw [aw_ld (c := 0) (k := k) hi, h]
  exact propext ⟨fun q => q.2, fun q => ⟨rfl, q⟩⟩
theorem aw_ldl {d mi pc n : Nat} {ls st : List am_V} {f : am_F} {Q : am_V → am_F → Prop} {k : Nat} {v : Int} (hi : am_ins mi pc = some (2, n, [1, (k : Int)])) (h : ls.getD k (2, 0) = (1, v)) : aw_wp d mi pc ls st f Q = aw_wp d mi n ls ((1, v) :: st) f Q := by
  rw [aw_ld (c := 1) (k := k) hi, h]
  exact propext ⟨fun q => q.2, fun q => ⟨rfl, q⟩⟩
theorem aw_lda {d mi pc n : Nat} {ls st : List am_V} {f : am_F} {Q : am_V → am_F → Prop} {k t : Nat} {v : Int} (hi : am_ins mi pc = some (2, n, [2, (k : Int)])) (h : ls.getD k (2, 0) = (t, v)) : aw_wp d mi pc ls st f Q = ((20 ≤ t ∧ ¬ t = 30 ∧ 0 ≤ v) ∧ aw_wp d mi n ls ((t, v) :: st) f Q) := by
  rw [aw_ld (c := 2) (k := k) hi, h, kd2]
theorem sz_0 {v w : am_V} {l : List am_V} : am_set1 0 v (w :: l) = v :: l := rfl
theorem sz_1 {v w : am_V} {t : Nat} {a : Int} {l : List am_V} : am_set1 1 v ((t, a) :: w :: l) = (if t = 1 then (2, 0) else (t, a)) :: v :: l := by
  unfold am_set1 am_clr
  by_cases h : t = 1
  · subst h; rfl
  · rw [if_neg h]
    dsimp only
    split
    · rename_i q; simp at q; omega
    · rfl
theorem sz_s {k : Nat} {v w : am_V} {l : List am_V} : am_set1 (k + 2) v (w :: l) = w :: am_set1 (k + 1) v l := by
  unfold am_set1 am_clr
  dsimp only
  rw [List.getElem?_cons_succ]
  split
  · simp
  · simp
theorem sy_eq {k : Nat} {v : am_V} {l : List am_V} : am_set2 k v l = (am_set1 k v l).set (k + 1) (2, 0) := rfl
theorem s1_0 {v w : am_V} {l : List am_V} : am_set1 0 v (w :: l) = v :: l := rfl
theorem s2_0 {v w u : am_V} {l : List am_V} : am_set2 0 v (w :: u :: l) = v :: (2, 0) :: l := by
  rw [sy_eq, s1_0]; rfl
theorem s1_1 {v w : am_V} {t0 : Nat} {a0 : Int} {l : List am_V} : am_set1 1 v ((t0, a0) :: w :: l) = (if t0 = 1 then (2, 0) else (t0, a0)) :: v :: l := by
  rw [sz_1]
theorem s2_1 {v w u : am_V} {t0 : Nat} {a0 : Int} {l : List am_V} : am_set2 1 v ((t0, a0) :: w :: u :: l) = (if t0 = 1 then (2, 0) else (t0, a0)) :: v :: (2, 0) :: l := by
  rw [sy_eq, s1_1]; rfl
theorem s1_2 {v w : am_V} {t0 t1 : Nat} {a0 a1 : Int} {l : List am_V} : am_set1 2 v ((t0, a0) :: (t1, a1) :: w :: l) = (t0, a0) :: (if t1 = 1 then (2, 0) else (t1, a1)) :: v :: l := by
  rw [sz_s, sz_1]
theorem s2_2 {v w u : am_V} {t0 t1 : Nat} {a0 a1 : Int} {l : List am_V} : am_set2 2 v ((t0, a0) :: (t1, a1) :: w :: u :: l) = (t0, a0) :: (if t1 = 1 then (2, 0) else (t1, a1)) :: v :: (2, 0) :: l := by
  rw [sy_eq, s1_2]; rfl
theorem s1_3 {v w : am_V} {t0 t1 t2 : Nat} {a0 a1 a2 : Int} {l : List am_V} : am_set1 3 v ((t0, a0) :: (t1, a1) :: (t2, a2) :: w :: l) = (t0, a0) :: (t1, a1) :: (if t2 = 1 then (2, 0) else (t2, a2)) :: v :: l := by
  rw [sz_s, sz_s, sz_1]
theorem s2_3 {v w u : am_V} {t0 t1 t2 : Nat} {a0 a1 a2 : Int} {l : List am_V} : am_set2 3 v ((t0, a0) :: (t1, a1) :: (t2, a2) :: w :: u :: l) = (t0, a0) :: (t1, a1) :: (if t2 = 1 then (2, 0) else (t2, a2)) :: v :: (2, 0) :: l := by
  rw [sy_eq, s1_3]; rfl
theorem s1_4 {v w : am_V} {t0 t1 t2 t3 : Nat} {a0 a1 a2 a3 : Int} {l : List am_V} : am_set1 4 v ((t0, a0) :: (t1, a1) :: (t2, a2) :: (t3, a3) :: w :: l) = (t0, a0) :: (t1, a1) :: (t2, a2) :: (if t3 = 1 then (2, 0) else (t3, a3)) :: v :: l := by
  rw [sz_s, sz_s, sz_s, sz_1]
theorem s2_4 {v w u : am_V} {t0 t1 t2 t3 : Nat} {a0 a1 a2 a3 : Int} {l : List am_V} : am_set2 4 v ((t0, a0) :: (t1, a1) :: (t2, a2) :: (t3, a3) :: w :: u :: l) = (t0, a0) :: (t1, a1) :: (t2, a2) :: (if t3 = 1 then (2, 0) else (t3, a3)) :: v :: (2, 0) :: l := by
  rw [sy_eq, s1_4]; rfl
theorem s1_5 {v w : am_V} {t0 t1 t2 t3 t4 : Nat} {a0 a1 a2 a3 a4 : Int} {l : List am_V} : am_set1 5 v ((t0, a0) :: (t1, a1) :: (t2, a2) :: (t3, a3) :: (t4, a4) :: w :: l) = (t0, a0) :: (t1, a1) :: (t2, a2) :: (t3, a3) :: (if t4 = 1 then (2, 0) else (t4, a4)) :: v :: l := by
  rw [sz_s, sz_s, sz_s, sz_s, sz_1]
theorem s2_5 {v w u : am_V} {t0 t1 t2 t3 t4 : Nat} {a0 a1 a2 a3 a4 : Int} {l : List am_V} : am_set2 5 v ((t0, a0) :: (t1, a1) :: (t2, a2) :: (t3, a3) :: (t4, a4) :: w :: u :: l) = (t0, a0) :: (t1, a1) :: (t2, a2) :: (t3, a3) :: (if t4 = 1 then (2, 0) else (t4, a4)) :: v :: (2, 0) :: l := by
  rw [sy_eq, s1_5]; rfl
theorem s1_6 {v w : am_V} {t0 t1 t2 t3 t4 t5 : Nat} {a0 a1 a2 a3 a4 a5 : Int} {l : List am_V} : am_set1 6 v ((t0, a0) :: (t1, a1) :: (t2, a2) :: (t3, a3) :: (t4, a4) :: (t5, a5) :: w :: l) = (t0, a0) :: (t1, a1) :: (t2, a2) :: (t3, a3) :: (t4, a4) :: (if t5 = 1 then (2, 0) else (t5, a5)) :: v :: l := by
  rw [sz_s, sz_s, sz_s, sz_s, sz_s, sz_1]
theorem s2_6 {v w u : am_V} {t0 t1 t2 t3 t4 t5 : Nat} {a0 a1 a2 a3 a4 a5 : Int} {l : List am_V} : am_set2 6 v ((t0, a0) :: (t1, a1) :: (t2, a2) :: (t3, a3) :: (t4, a4) :: (t5, a5) :: w :: u :: l) = (t0, a0) :: (t1, a1) :: (t2, a2) :: (t3, a3) :: (t4, a4) :: (if t5 = 1 then (2, 0) else (t5, a5)) :: v :: (2, 0) :: l := by
  rw [sy_eq, s1_6]; rfl
theorem s1_7 {v w : am_V} {t0 t1 t2 t3 t4 t5 t6 : Nat} {a0 a1 a2 a3 a4 a5 a6 : Int} {l : List am_V} : am_set1 7 v ((t0, a0) :: (t1, a1) :: (t2, a2) :: (t3, a3) :: (t4, a4) :: (t5, a5) :: (t6, a6) :: w :: l) = (t0, a0) :: (t1, a1) :: (t2, a2) :: (t3, a3) :: (t4, a4) :: (t5, a5) :: (if t6 = 1 then (2, 0) else (t6, a6)) :: v :: l := by
  rw [sz_s, sz_s, sz_s, sz_s, sz_s, sz_s, sz_1]
theorem s2_7 {v w u : am_V} {t0 t1 t2 t3 t4 t5 t6 : Nat} {a0 a1 a2 a3 a4 a5 a6 : Int} {l : List am_V} : am_set2 7 v ((t0, a0) :: (t1, a1) :: (t2, a2) :: (t3, a3) :: (t4, a4) :: (t5, a5) :: (t6, a6) :: w :: u :: l) = (t0, a0) :: (t1, a1) :: (t2, a2) :: (t3, a3) :: (t4, a4) :: (t5, a5) :: (if t6 = 1 then (2, 0) else (t6, a6)) :: v :: (2, 0) :: l := by
  rw [sy_eq, s1_7]; rfl
theorem s1_8 {v w : am_V} {t0 t1 t2 t3 t4 t5 t6 t7 : Nat} {a0 a1 a2 a3 a4 a5 a6 a7 : Int} {l : List am_V} : am_set1 8 v ((t0, a0) :: (t1, a1) :: (t2, a2) :: (t3, a3) :: (t4, a4) :: (t5, a5) :: (t6, a6) :: (t7, a7) :: w :: l) = (t0, a0) :: (t1, a1) :: (t2, a2) :: (t3, a3) :: (t4, a4) :: (t5, a5) :: (t6, a6) :: (if t7 = 1 then (2, 0) else (t7, a7)) :: v :: l := by
  rw [sz_s, sz_s, sz_s, sz_s, sz_s, sz_s, sz_s, sz_1]
theorem s2_8 {v w u : am_V} {t0 t1 t2 t3 t4 t5 t6 t7 : Nat} {a0 a1 a2 a3 a4 a5 a6 a7 : Int} {l : List am_V} : am_set2 8 v ((t0, a0) :: (t1, a1) :: (t2, a2) :: (t3, a3) :: (t4, a4) :: (t5, a5) :: (t6, a6) :: (t7, a7) :: w :: u :: l) = (t0, a0) :: (t1, a1) :: (t2, a2) :: (t3, a3) :: (t4, a4) :: (t5, a5) :: (t6, a6) :: (if t7 = 1 then (2, 0) else (t7, a7)) :: v :: (2, 0) :: l := by
  rw [sy_eq, s1_8]; rfl
theorem s1_9 {v w : am_V} {t0 t1 t2 t3 t4 t5 t6 t7 t8 : Nat} {a0 a1 a2 a3 a4 a5 a6 a7 a8 : Int} {l : List am_V} : am_set1 9 v ((t0, a0) :: (t1, a1) :: (t2, a2) :: (t3, a3) :: (t4, a4) :: (t5, a5) :: (t6, a6) :: (t7, a7) :: (t8, a8) :: w :: l) = (t0, a0) :: (t1, a1) :: (t2, a2) :: (t3, a3) :: (t4, a4) :: (t5, a5) :: (t6, a6) :: (t7, a7) :: (if t8 = 1 then (2, 0) else (t8, a8)) :: v :: l := by
  rw [sz_s, sz_s, sz_s, sz_s, sz_s, sz_s, sz_s, sz_s, sz_1]
theorem s2_9 {v w u : am_V} {t0 t1 t2 t3 t4 t5 t6 t7 t8 : Nat} {a0 a1 a2 a3 a4 a5 a6 a7 a8 : Int} {l : List am_V} : am_set2 9 v ((t0, a0) :: (t1, a1) :: (t2, a2) :: (t3, a3) :: (t4, a4) :: (t5, a5) :: (t6, a6) :: (t7, a7) :: (t8, a8) :: w :: u :: l) = (t0, a0) :: (t1, a1) :: (t2, a2) :: (t3, a3) :: (t4, a4) :: (t5, a5) :: (t6, a6) :: (t7, a7) :: (if t8 = 1 then (2, 0) else (t8, a8)) :: v :: (2, 0) :: l := by
  rw [sy_eq, s1_9]; rfl
theorem s1_10 {v w : am_V} {t0 t1 t2 t3 t4 t5 t6 t7 t8 t9 : Nat} {a0 a1 a2 a3 a4 a5 a6 a7 a8 a9 : Int} {l : List am_V} : am_set1 10 v ((t0, a0) :: (t1, a1) :: (t2, a2) :: (t3, a3) :: (t4, a4) :: (t5, a5) :: (t6, a6) :: (t7, a7) :: (t8, a8) :: (t9, a9) :: w :: l) = (t0, a0) :: (t1, a1) :: (t2, a2) :: (t3, a3) :: (t4, a4) :: (t5, a5) :: (t6, a6) :: (t7, a7) :: (t8, a8) :: (if t9 = 1 then (2, 0) else (t9, a9)) :: v :: l := by
  rw [sz_s, sz_s, sz_s, sz_s, sz_s, sz_s, sz_s, sz_s, sz_s, sz_1]
theorem s2_10 {v w u : am_V} {t0 t1 t2 t3 t4 t5 t6 t7 t8 t9 : Nat} {a0 a1 a2 a3 a4 a5 a6 a7 a8 a9 : Int} {l : List am_V} : am_set2 10 v ((t0, a0) :: (t1, a1) :: (t2, a2) :: (t3, a3) :: (t4, a4) :: (t5, a5) :: (t6, a6) :: (t7, a7) :: (t8, a8) :: (t9, a9) :: w :: u :: l) = (t0, a0) :: (t1, a1) :: (t2, a2) :: (t3, a3) :: (t4, a4) :: (t5, a5) :: (t6, a6) :: (t7, a7) :: (t8, a8) :: (if t9 = 1 then (2, 0) else (t9, a9)) :: v :: (2, 0) :: l := by
  rw [sy_eq, s1_10]; rfl
theorem s1_11 {v w : am_V} {t0 t1 t2 t3 t4 t5 t6 t7 t8 t9 t10 : Nat} {a0 a1 a2 a3 a4 a5 a6 a7 a8 a9 a10 : Int} {l : List am_V} : am_set1 11 v ((t0, a0) :: (t1, a1) :: (t2, a2) :: (t3, a3) :: (t4, a4) :: (t5, a5) :: (t6, a6) :: (t7, a7) :: (t8, a8) :: (t9, a9) :: (t10, a10) :: w :: l) = (t0, a0) :: (t1, a1) :: (t2, a2) :: (t3, a3) :: (t4, a4) :: (t5, a5) :: (t6, a6) :: (t7, a7) :: (t8, a8) :: (t9, a9) :: (if t10 = 1 then (2, 0) else (t10, a10)) :: v :: l := by
  rw [sz_s, sz_s, sz_s, sz_s, sz_s, sz_s, sz_s, sz_s, sz_s, sz_s, sz_1]
theorem s2_11 {v w u : am_V} {t0 t1 t2 t3 t4 t5 t6 t7 t8 t9 t10 : Nat} {a0 a1 a2 a3 a4 a5 a6 a7 a8 a9 a10 : Int} {l : List am_V} : am_set2 11 v ((t0, a0) :: (t1, a1) :: (t2, a2) :: (t3, a3) :: (t4, a4) :: (t5, a5) :: (t6, a6) :: (t7, a7) :: (t8, a8) :: (t9, a9) :: (t10, a10) :: w :: u :: l) = (t0, a0) :: (t1, a1) :: (t2, a2) :: (t3, a3) :: (t4, a4) :: (t5, a5) :: (t6, a6) :: (t7, a7) :: (t8, a8) :: (t9, a9) :: (if t10 = 1 then (2, 0) else (t10, a10)) :: v :: (2, 0) :: l := by
  rw [sy_eq, s1_11]; rfl
theorem s1_12 {v w : am_V} {t0 t1 t2 t3 t4 t5 t6 t7 t8 t9 t10 t11 : Nat} {a0 a1 a2 a3 a4 a5 a6 a7 a8 a9 a10 a11 : Int} {l : List am_V} : am_set1 12 v ((t0, a0) :: (t1, a1) :: (t2, a2) :: (t3, a3) :: (t4, a4) :: (t5, a5) :: (t6, a6) :: (t7, a7) :: (t8, a8) :: (t9, a9) :: (t10, a10) :: (t11, a11) :: w :: l) = (t0, a0) :: (t1, a1) :: (t2, a2) :: (t3, a3) :: (t4, a4) :: (t5, a5) :: (t6, a6) :: (t7, a7) :: (t8, a8) :: (t9, a9) :: (t10, a10) :: (if t11 = 1 then (2, 0) else (t11, a11)) :: v :: l := by
  rw [sz_s, sz_s, sz_s, sz_s, sz_s, sz_s, sz_s, sz_s, sz_s, sz_s, sz_s, sz_1]
theorem s2_12 {v w u : am_V} {t0 t1 t2 t3 t4 t5 t6 t7 t8 t9 t10 t11 : Nat} {a0 a1 a2 a3 a4 a5 a6 a7 a8 a9 a10 a11 : Int} {l : List am_V} : am_set2 12 v ((t0, a0) :: (t1, a1) :: (t2, a2) :: (t3, a3) :: (t4, a4) :: (t5, a5) :: (t6, a6) :: (t7, a7) :: (t8, a8) :: (t9, a9) :: (t10, a10) :: (t11, a11) :: w :: u :: l) = (t0, a0) :: (t1, a1) :: (t2, a2) :: (t3, a3) :: (t4, a4) :: (t5, a5) :: (t6, a6) :: (t7, a7) :: (t8, a8) :: (t9, a9) :: (t10, a10) :: (if t11 = 1 then (2, 0) else (t11, a11)) :: v :: (2, 0) :: l := by
  rw [sy_eq, s1_12]; rfl
theorem s1_13 {v w : am_V} {t0 t1 t2 t3 t4 t5 t6 t7 t8 t9 t10 t11 t12 : Nat} {a0 a1 a2 a3 a4 a5 a6 a7 a8 a9 a10 a11 a12 : Int} {l : List am_V} : am_set1 13 v ((t0, a0) :: (t1, a1) :: (t2, a2) :: (t3, a3) :: (t4, a4) :: (t5, a5) :: (t6, a6) :: (t7, a7) :: (t8, a8) :: (t9, a9) :: (t10, a10) :: (t11, a11) :: (t12, a12) :: w :: l) = (t0, a0) :: (t1, a1) :: (t2, a2) :: (t3, a3) :: (t4, a4) :: (t5, a5) :: (t6, a6) :: (t7, a7) :: (t8, a8) :: (t9, a9) :: (t10, a10) :: (t11, a11) :: (if t12 = 1 then (2, 0) else (t12, a12)) :: v :: l := by
  rw [sz_s, sz_s, sz_s, sz_s, sz_s, sz_s, sz_s, sz_s, sz_s, sz_s, sz_s, sz_s, sz_1]
theorem s2_13 {v w u : am_V} {t0 t1 t2 t3 t4 t5 t6 t7 t8 t9 t10 t11 t12 : Nat} {a0 a1 a2 a3 a4 a5 a6 a7 a8 a9 a10 a11 a12 : Int} {l : List am_V} : am_set2 13 v ((t0, a0) :: (t1, a1) :: (t2, a2) :: (t3, a3) :: (t4, a4) :: (t5, a5) :: (t6, a6) :: (t7, a7) :: (t8, a8) :: (t9, a9) :: (t10, a10) :: (t11, a11) :: (t12, a12) :: w :: u :: l) = (t0, a0) :: (t1, a1) :: (t2, a2) :: (t3, a3) :: (t4, a4) :: (t5, a5) :: (t6, a6) :: (t7, a7) :: (t8, a8) :: (t9, a9) :: (t10, a10) :: (t11, a11) :: (if t12 = 1 then (2, 0) else (t12, a12)) :: v :: (2, 0) :: l := by
  rw [sy_eq, s1_13]; rfl
