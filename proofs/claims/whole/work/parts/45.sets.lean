def mfx (f : am_F) : Prop := f 270 0 = 271 ∧ f 270 9 = 272 ∧ f 270 39 = 301 ∧ f 270 40 = 302 ∧ f 270 41 = 303 ∧ f 270 42 = 304 ∧ f 270 45 = 305 ∧ f 270 46 = 306 ∧ f 270 47 = 307 ∧ f 270 51 = 308 ∧ f 270 52 = 309 ∧ f 270 56 = 310 ∧ f 270 59 = 311 ∧ f 270 60 = 312 ∧ f 270 61 = 313 ∧ f 270 62 = 314 ∧ f 270 63 = 315 ∧ f 270 64 = 316 ∧ f 270 91 = 340 ∧ f 270 93 = 341 ∧ f 270 97 = 342 ∧ f 270 101 = 343
/-- a State at a -/
def sS (f : am_F) (a : Int) : Prop := (0 ≤ a ∧ 0 ≤ a + 1 ∧ 0 ≤ a + 2 ∧ 0 ≤ a + 3 ∧ 0 ≤ a + 4 ∧ 0 ≤ a + 5 ∧ 0 ≤ a + 6 ∧ 0 ≤ a + 7 ∧ 0 ≤ a + 8 ∧ 0 ≤ a + 9) ∧ (f a 0 = a + 1 ∧ f a 1 = a + 2 ∧ f a 2 = a + 3 ∧ f a 3 = a + 4 ∧ f a 4 = a + 5 ∧ f a 5 = a + 6 ∧ f a 6 = a + 7 ∧ f a 7 = a + 8 ∧ f a 8 = a + 9) ∧ (am_len aw_SH (a + 1) = 8 ∧ am_len aw_SH (a + 2) = 8 ∧ am_len aw_SH (a + 3) = 8 ∧ am_len aw_SH (a + 4) = 8 ∧ am_len aw_SH (a + 5) = 8 ∧ am_len aw_SH (a + 6) = 8 ∧ am_len aw_SH (a + 7) = 50 ∧ am_len aw_SH (a + 8) = 50 ∧ am_len aw_SH (a + 9) = 50)
/-- an Island at l -/
def sL (f : am_F) (l : Int) : Prop := (0 ≤ l ∧ 0 ≤ l + 1 ∧ 0 ≤ l + 2 ∧ 0 ≤ l + 3 ∧ 0 ≤ l + 4 ∧ 0 ≤ l + 5 ∧ 0 ≤ l + 6 ∧ 0 ≤ l + 7 ∧ 0 ≤ l + 8 ∧ 0 ≤ l + 9 ∧ 0 ≤ l + 10 ∧ 0 ≤ l + 11 ∧ 0 ≤ l + 12) ∧ (f l 0 = l + 1 ∧ f l 1 = l + 2 ∧ f l 2 = l + 3 ∧ f l 3 = l + 4 ∧ f l 4 = l + 5 ∧ f l 5 = l + 6 ∧ f l 6 = l + 7 ∧ f l 7 = l + 8 ∧ f l 8 = l + 9 ∧ f (l + 9) 0 = l + 10 ∧ f (l + 9) 1 = l + 11 ∧ f (l + 9) 2 = l + 12) ∧ (am_len aw_SH (l + 1) = 8 ∧ am_len aw_SH (l + 2) = 8 ∧ am_len aw_SH (l + 3) = 8 ∧ am_len aw_SH (l + 4) = 8 ∧ am_len aw_SH (l + 5) = 4 ∧ am_len aw_SH (l + 6) = 4 ∧ am_len aw_SH (l + 7) = 4 ∧ am_len aw_SH (l + 8) = 5 ∧ am_len aw_SH (l + 10) = 1616 ∧ am_len aw_SH (l + 11) = 10 ∧ am_len aw_SH (l + 12) = 10)
theorem m_setOf {d n : Nat} {f : am_F} {Q : am_V → am_F → Prop} {s : Int} (hm : mfx f) (hn : f 301 3 = n) (h8 : n ≤ 8) : aw_cl (d + 2) 208 [(110, 270), (0, s)] f Q = Q (0, (bm (fun t => decide (f 308 (1 + 5 * (t : Int)) = s)) n : Int)) f := by
  have key : ∀ j t : Nat, t + j = n → aw_wp (d + 2) 208 4 [(110, 270), (0, s), (0, (bm (fun t => decide (f 308 (1 + 5 * (t : Int)) = s)) t : Int)), (0, (t : Int))] [] f (fun v f1 => v = (0, (bm (fun t => decide (f 308 (1 + 5 * (t : Int)) = s)) n : Int)) ∧ f1 = f) := by
    intro j
    unfold mfx at hm
    induction j with
    | zero =>
      intro t ht
      obtain rfl : t = n := by omega
      rw [r208_4]
      simp (disch := omega) [q208, r208_0, r208_1, r208_2, r208_3, r208_5, r208_6, r208_9, r208_12, r208_13, r208_14, r208_17, r208_18, r208_21, r208_22, r208_23, r208_24, r208_25, r208_26, r208_27, r208_30, r208_33, r208_34, q209, r209_0, r209_1, r209_4, r209_5, r209_6, cs_nil, cs_cons, lc_lt, lc_ge, lc_gt, lc_le, lc_eq, hm, hn, ln_301]
    | succ j ih =>
      intro t ht
      have ih' := ih (t + 1) (by omega)
      have c1 : ¬ n ≤ t := by omega
      have c2 : (0 : Int) ≤ 1 + 5 * (t : Int) ∧ 1 + 5 * (t : Int) < 192 := by omega
      rw [r208_4]
      by_cases hp : f 308 (1 + 5 * (t : Int)) = s
      · simpa (disch := omega) [q208, r208_0, r208_1, r208_2, r208_3, r208_5, r208_6, r208_9, r208_12, r208_13, r208_14, r208_17, r208_18, r208_21, r208_22, r208_23, r208_24, r208_25, r208_26, r208_27, r208_30, r208_33, r208_34, q209, r209_0, r209_1, r209_4, r209_5, r209_6, q210, r210_0, r210_1, r210_4, r210_5, r210_6, r210_7, r210_8, r210_9, r210_10, cs_nil, cs_cons, lc_lt, lc_ge, lc_gt, lc_le, lc_eq, hm, hn, ln_301, ln_308, am_wid2, c1, c2, hp, bm, bm_set] using ih'
      · simpa (disch := omega) [q208, r208_0, r208_1, r208_2, r208_3, r208_5, r208_6, r208_9, r208_12, r208_13, r208_14, r208_17, r208_18, r208_21, r208_22, r208_23, r208_24, r208_25, r208_26, r208_27, r208_30, r208_33, r208_34, q209, r209_0, r209_1, r209_4, r209_5, r209_6, q210, r210_0, r210_1, r210_4, r210_5, r210_6, r210_7, r210_8, r210_9, r210_10, cs_nil, cs_cons, lc_lt, lc_ge, lc_gt, lc_le, lc_eq, hm, hn, ln_301, ln_308, am_wid2, c1, c2, hp, bm, bm_set] using ih'
  apply aw_det
  simp [q208, r208_0, r208_1, r208_2, r208_3, r208_5, r208_6, r208_9, r208_12, r208_13, r208_14, r208_17, r208_18, r208_21, r208_22, r208_23, r208_24, r208_25, r208_26, r208_27, r208_30, r208_33, r208_34, cs_nil, cs_cons, lc_lt, lc_ge, lc_gt, lc_le, lc_eq]
  exact key n 0 (by omega)
theorem c_are {d n : Nat} {f : am_F} {Q : am_V → am_F → Prop} {s a l : Int} (hS : sS f a) (hL : sL f l) (hl : f a 9 = l) (hn : f l 9 = n) (h8 : n ≤ 8) : aw_cl d 64 [(107, a), (0, s)] f Q = Q (0, (bm (fun t => decide (f (a + 1) (t : Int) = s)) n : Int)) f := by
  have key : ∀ j t : Nat, t + j = n → aw_wp d 64 4 [(107, a), (0, s), (0, (bm (fun t => decide (f (a + 1) (t : Int) = s)) t : Int)), (0, (t : Int))] [] f (fun v f1 => v = (0, (bm (fun t => decide (f (a + 1) (t : Int) = s)) n : Int)) ∧ f1 = f) := by
    intro j
    unfold sS at hS
    unfold sL at hL
    induction j with
    | zero =>
      intro t ht
      obtain rfl : t = n := by omega
      rw [r64_4]
      simp (disch := omega) [q64, r64_0, r64_1, r64_2, r64_3, r64_5, r64_6, r64_9, r64_12, r64_15, r64_16, r64_17, r64_20, r64_21, r64_22, r64_23, r64_26, r64_27, r64_28, r64_29, r64_32, r64_33, r64_34, r64_35, r64_38, r64_41, r64_42, cs_nil, cs_cons, lc_lt, lc_ge, lc_gt, lc_le, lc_eq, hS, hL, hl, hn]
    | succ j ih =>
      intro t ht
      have ih' := ih (t + 1) (by omega)
      have c1 : ¬ n ≤ t := by omega
      have c2 : (t : Int) < 8 := by omega
      rw [r64_4]
      by_cases hp : f (a + 1) (t : Int) = s
      · simpa (disch := omega) [q64, r64_0, r64_1, r64_2, r64_3, r64_5, r64_6, r64_9, r64_12, r64_15, r64_16, r64_17, r64_20, r64_21, r64_22, r64_23, r64_26, r64_27, r64_28, r64_29, r64_32, r64_33, r64_34, r64_35, r64_38, r64_41, r64_42, cs_nil, cs_cons, lc_lt, lc_ge, lc_gt, lc_le, lc_eq, hS, hL, hl, hn, am_wid2, c1, c2, hp, bm, bm_set, bm_or0] using ih'
      · simpa (disch := omega) [q64, r64_0, r64_1, r64_2, r64_3, r64_5, r64_6, r64_9, r64_12, r64_15, r64_16, r64_17, r64_20, r64_21, r64_22, r64_23, r64_26, r64_27, r64_28, r64_29, r64_32, r64_33, r64_34, r64_35, r64_38, r64_41, r64_42, cs_nil, cs_cons, lc_lt, lc_ge, lc_gt, lc_le, lc_eq, hS, hL, hl, hn, am_wid2, c1, c2, hp, bm, bm_set, bm_or0] using ih'
  apply aw_det
  simp [q64, r64_0, r64_1, r64_2, r64_3, r64_5, r64_6, r64_9, r64_12, r64_15, r64_16, r64_17, r64_20, r64_21, r64_22, r64_23, r64_26, r64_27, r64_28, r64_29, r64_32, r64_33, r64_34, r64_35, r64_38, r64_41, r64_42, cs_nil, cs_cons, lc_lt, lc_ge, lc_gt, lc_le, lc_eq]
  exact key n 0 (by omega)
