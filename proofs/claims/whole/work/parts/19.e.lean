-- M.isIn
theorem e176_0 {d : Nat} {ls st : List am_V} {f : am_F} {Q : am_V → am_F → Prop} : aw_wp d 176 0 ls st f Q = (am_kd 1 (ls.getD 0 (2, 0)) = true ∧ aw_wp d 176 1 ls (ls.getD 0 (2, 0) :: st) f Q) := aw_ld (n := 1) (by decide +kernel)
theorem e176_1 {d : Nat} {ls st : List am_V} {f : am_F} {Q : am_V → am_F → Prop} : aw_wp d 176 1 ls st f Q = (am_kd 1 (ls.getD 2 (2, 0)) = true ∧ aw_wp d 176 2 ls (ls.getD 2 (2, 0) :: st) f Q) := aw_ld (n := 2) (by decide +kernel)
theorem e176_2 {d : Nat} {ls st : List am_V} {f : am_F} {Q : am_V → am_F → Prop} {a b : Int} : aw_wp d 176 2 ls ((1, b) :: (1, a) :: st) f Q = aw_wp d 176 3 ls ((0, am_lc a b) :: st) f Q := aw_lcmp (n := 3) (by decide +kernel)
theorem e176_3 {d : Nat} {ls st : List am_V} {f : am_F} {Q : am_V → am_F → Prop} {a : Int} : aw_wp d 176 3 ls ((0, a) :: st) f Q = ((a < (0 : Int) → aw_wp d 176 17 ls st f Q) ∧ (¬ (a < (0 : Int)) → aw_wp d 176 6 ls st f Q)) := aw_iflt (n := 6) (t := 17) (by decide +kernel)
theorem e176_6 {d : Nat} {ls st : List am_V} {f : am_F} {Q : am_V → am_F → Prop} : aw_wp d 176 6 ls st f Q = (am_kd 1 (ls.getD 0 (2, 0)) = true ∧ aw_wp d 176 7 ls (ls.getD 0 (2, 0) :: st) f Q) := aw_ld (n := 7) (by decide +kernel)
theorem e176_7 {d : Nat} {ls st : List am_V} {f : am_F} {Q : am_V → am_F → Prop} : aw_wp d 176 7 ls st f Q = (am_kd 1 (ls.getD 4 (2, 0)) = true ∧ aw_wp d 176 9 ls (ls.getD 4 (2, 0) :: st) f Q) := aw_ld (n := 9) (by decide +kernel)
theorem e176_9 {d : Nat} {ls st : List am_V} {f : am_F} {Q : am_V → am_F → Prop} {a b : Int} : aw_wp d 176 9 ls ((1, b) :: (1, a) :: st) f Q = aw_wp d 176 10 ls ((0, am_lc a b) :: st) f Q := aw_lcmp (n := 10) (by decide +kernel)
theorem e176_10 {d : Nat} {ls st : List am_V} {f : am_F} {Q : am_V → am_F → Prop} {a : Int} : aw_wp d 176 10 ls ((0, a) :: st) f Q = (((0 : Int) < a → aw_wp d 176 17 ls st f Q) ∧ (¬ ((0 : Int) < a) → aw_wp d 176 13 ls st f Q)) := aw_ifgt (n := 13) (t := 17) (by decide +kernel)
theorem e176_13 {d : Nat} {ls st : List am_V} {f : am_F} {Q : am_V → am_F → Prop} : aw_wp d 176 13 ls st f Q = aw_wp d 176 14 ls ((0, 1) :: st) f Q := aw_ipush (n := 14) (by decide +kernel)
theorem e176_14 {d : Nat} {ls st : List am_V} {f : am_F} {Q : am_V → am_F → Prop} : aw_wp d 176 14 ls st f Q = aw_wp d 176 18 ls st f Q := aw_goto (n := 17) (t := 18) (by decide +kernel)
theorem e176_17 {d : Nat} {ls st : List am_V} {f : am_F} {Q : am_V → am_F → Prop} : aw_wp d 176 17 ls st f Q = aw_wp d 176 18 ls ((0, 0) :: st) f Q := aw_ipush (n := 18) (by decide +kernel)
theorem e176_18 {d : Nat} {ls : List am_V} {f : am_F} {Q : am_V → am_F → Prop} {v : Int} : aw_wp d 176 18 ls [(0, v)] f Q = ((v = 0 ∨ v = 1) ∧ Q (0, v) f) := aw_retz (n := 19) (st := []) (by decide +kernel)
theorem e176 {d : Nat} {f : am_F} {Q : am_V → am_F → Prop} {x0 x1 x2 : Int} : aw_cl d 176 [(1, x0), (1, x1), (1, x2)] f Q = aw_wp d 176 0 [(1, x0), (2, 0), (1, x1), (2, 0), (1, x2), (2, 0)] [] f Q := by
  unfold aw_cl
  rw [show am_ml 176 = 6 by decide +kernel]
  rfl
-- M.look
theorem e162_0 {d : Nat} {ls st : List am_V} {f : am_F} {Q : am_V → am_F → Prop} : aw_wp d 162 0 ls st f Q = (am_kd 2 (ls.getD 0 (2, 0)) = true ∧ aw_wp d 162 1 ls (ls.getD 0 (2, 0) :: st) f Q) := aw_ld (n := 1) (by decide +kernel)
theorem e162_1 {d : Nat} {ls st : List am_V} {f : am_F} {Q : am_V → am_F → Prop} {a : Int} : aw_wp d 162 1 ls ((110, a) :: st) f Q = (0 ≤ a ∧ aw_wp d 162 4 ls ((0, f a 2) :: st) f Q) := aw_get (n := 4) (k := 2) (g := 0) (by decide +kernel)
theorem e162_4 {d : Nat} {ls st : List am_V} {f : am_F} {Q : am_V → am_F → Prop} : aw_wp d 162 4 ls st f Q = (am_kd 2 (ls.getD 0 (2, 0)) = true ∧ aw_wp d 162 5 ls (ls.getD 0 (2, 0) :: st) f Q) := aw_ld (n := 5) (by decide +kernel)
theorem e162_5 {d : Nat} {ls st : List am_V} {f : am_F} {Q : am_V → am_F → Prop} {a : Int} : aw_wp d 162 5 ls ((110, a) :: st) f Q = (0 ≤ a ∧ aw_wp d 162 8 ls ((0, f a 3) :: st) f Q) := aw_get (n := 8) (k := 3) (g := 0) (by decide +kernel)
theorem e162_8 {d : Nat} {ls st : List am_V} {f : am_F} {Q : am_V → am_F → Prop} {a b : Int} : aw_wp d 162 8 ls ((0, b) :: (0, a) :: st) f Q = ((b ≤ a → aw_wp d 162 52 ls st f Q) ∧ (¬ (b ≤ a) → aw_wp d 162 11 ls st f Q)) := aw_icge (n := 11) (t := 52) (by decide +kernel)
theorem e162_11 {d : Nat} {ls st : List am_V} {f : am_F} {Q : am_V → am_F → Prop} : aw_wp d 162 11 ls st f Q = (am_kd 2 (ls.getD 0 (2, 0)) = true ∧ aw_wp d 162 12 ls (ls.getD 0 (2, 0) :: st) f Q) := aw_ld (n := 12) (by decide +kernel)
theorem e162_12 {d : Nat} {ls st : List am_V} {f : am_F} {Q : am_V → am_F → Prop} {a : Int} : aw_wp d 162 12 ls ((110, a) :: st) f Q = (0 ≤ a ∧ aw_wp d 162 15 ls ((20, f a 0) :: st) f Q) := aw_get (n := 15) (k := 0) (g := 20) (by decide +kernel)
theorem e162_15 {d : Nat} {ls st : List am_V} {f : am_F} {Q : am_V → am_F → Prop} : aw_wp d 162 15 ls st f Q = (am_kd 2 (ls.getD 0 (2, 0)) = true ∧ aw_wp d 162 16 ls (ls.getD 0 (2, 0) :: st) f Q) := aw_ld (n := 16) (by decide +kernel)
theorem e162_16 {d : Nat} {ls st : List am_V} {f : am_F} {Q : am_V → am_F → Prop} {a : Int} : aw_wp d 162 16 ls ((110, a) :: st) f Q = (0 ≤ a ∧ aw_wp d 162 19 ls ((0, f a 2) :: st) f Q) := aw_get (n := 19) (k := 2) (g := 0) (by decide +kernel)
theorem e162_19 {d : Nat} {ls st : List am_V} {f : am_F} {Q : am_V → am_F → Prop} {a j : Int} : aw_wp d 162 19 ls ((0, j) :: (20, a) :: st) f Q = (0 ≤ a ∧ 0 ≤ j ∧ j < am_len aw_SH a ∧ aw_wp d 162 20 ls ((0, f a j) :: st) f Q) := aw_ald (n := 20) (g := 0) (by decide +kernel)
theorem e162_20 {d : Nat} {ls st : List am_V} {f : am_F} {Q : am_V → am_F → Prop} : aw_wp d 162 20 ls st f Q = aw_wp d 162 22 ls ((0, 10) :: st) f Q := aw_ipush (n := 22) (by decide +kernel)
theorem e162_22 {d : Nat} {ls st : List am_V} {f : am_F} {Q : am_V → am_F → Prop} {a b : Int} : aw_wp d 162 22 ls ((0, b) :: (0, a) :: st) f Q = ((a = b → aw_wp d 162 39 ls st f Q) ∧ (¬ (a = b) → aw_wp d 162 25 ls st f Q)) := aw_iceq (n := 25) (t := 39) (by decide +kernel)
theorem e162_25 {d : Nat} {ls st : List am_V} {f : am_F} {Q : am_V → am_F → Prop} : aw_wp d 162 25 ls st f Q = (am_kd 2 (ls.getD 0 (2, 0)) = true ∧ aw_wp d 162 26 ls (ls.getD 0 (2, 0) :: st) f Q) := aw_ld (n := 26) (by decide +kernel)
theorem e162_26 {d : Nat} {ls st : List am_V} {f : am_F} {Q : am_V → am_F → Prop} {a : Int} : aw_wp d 162 26 ls ((110, a) :: st) f Q = (0 ≤ a ∧ aw_wp d 162 29 ls ((20, f a 0) :: st) f Q) := aw_get (n := 29) (k := 0) (g := 20) (by decide +kernel)
theorem e162_29 {d : Nat} {ls st : List am_V} {f : am_F} {Q : am_V → am_F → Prop} : aw_wp d 162 29 ls st f Q = (am_kd 2 (ls.getD 0 (2, 0)) = true ∧ aw_wp d 162 30 ls (ls.getD 0 (2, 0) :: st) f Q) := aw_ld (n := 30) (by decide +kernel)
theorem e162_30 {d : Nat} {ls st : List am_V} {f : am_F} {Q : am_V → am_F → Prop} {a : Int} : aw_wp d 162 30 ls ((110, a) :: st) f Q = (0 ≤ a ∧ aw_wp d 162 33 ls ((0, f a 2) :: st) f Q) := aw_get (n := 33) (k := 2) (g := 0) (by decide +kernel)
theorem e162_33 {d : Nat} {ls st : List am_V} {f : am_F} {Q : am_V → am_F → Prop} {a j : Int} : aw_wp d 162 33 ls ((0, j) :: (20, a) :: st) f Q = (0 ≤ a ∧ 0 ≤ j ∧ j < am_len aw_SH a ∧ aw_wp d 162 34 ls ((0, f a j) :: st) f Q) := aw_ald (n := 34) (g := 0) (by decide +kernel)
theorem e162_34 {d : Nat} {ls st : List am_V} {f : am_F} {Q : am_V → am_F → Prop} : aw_wp d 162 34 ls st f Q = aw_wp d 162 36 ls ((0, 32) :: st) f Q := aw_ipush (n := 36) (by decide +kernel)
theorem e162_36 {d : Nat} {ls st : List am_V} {f : am_F} {Q : am_V → am_F → Prop} {a b : Int} : aw_wp d 162 36 ls ((0, b) :: (0, a) :: st) f Q = ((¬ a = b → aw_wp d 162 52 ls st f Q) ∧ (¬ (¬ a = b) → aw_wp d 162 39 ls st f Q)) := aw_icne (n := 39) (t := 52) (by decide +kernel)
theorem e162_39 {d : Nat} {ls st : List am_V} {f : am_F} {Q : am_V → am_F → Prop} : aw_wp d 162 39 ls st f Q = (am_kd 2 (ls.getD 0 (2, 0)) = true ∧ aw_wp d 162 40 ls (ls.getD 0 (2, 0) :: st) f Q) := aw_ld (n := 40) (by decide +kernel)
theorem e162_40 {d : Nat} {ls st : List am_V} {f : am_F} {Q : am_V → am_F → Prop} {t : Nat} {v : Int} (h : ¬ t = 1) : aw_wp d 162 40 ls ((t, v) :: st) f Q = aw_wp d 162 41 ls ((t, v) :: (t, v) :: st) f Q := aw_dup (n := 41) (by decide +kernel) h
theorem e162_41 {d : Nat} {ls st : List am_V} {f : am_F} {Q : am_V → am_F → Prop} {a : Int} : aw_wp d 162 41 ls ((110, a) :: st) f Q = (0 ≤ a ∧ aw_wp d 162 44 ls ((0, f a 2) :: st) f Q) := aw_get (n := 44) (k := 2) (g := 0) (by decide +kernel)
theorem e162_44 {d : Nat} {ls st : List am_V} {f : am_F} {Q : am_V → am_F → Prop} : aw_wp d 162 44 ls st f Q = aw_wp d 162 45 ls ((0, 1) :: st) f Q := aw_ipush (n := 45) (by decide +kernel)
theorem e162_45 {d : Nat} {ls st : List am_V} {f : am_F} {Q : am_V → am_F → Prop} {a b : Int} : aw_wp d 162 45 ls ((0, b) :: (0, a) :: st) f Q = aw_wp d 162 46 ls ((0, am_wI (a + b)) :: st) f Q := aw_ib0 (n := 46) (by decide +kernel)
theorem e162_46 {d : Nat} {ls st : List am_V} {f : am_F} {Q : am_V → am_F → Prop} {a v : Int} : aw_wp d 162 46 ls ((0, v) :: (110, a) :: st) f Q = (0 ≤ a ∧ aw_wp d 162 49 ls st (am_up f a 2 v) Q) := by rw [aw_put (n := 49) (k := 2) (g := 0) (b := 0) (by decide +kernel)]; simp
theorem e162_49 {d : Nat} {ls st : List am_V} {f : am_F} {Q : am_V → am_F → Prop} : aw_wp d 162 49 ls st f Q = aw_wp d 162 0 ls st f Q := aw_goto (n := 52) (t := 0) (by decide +kernel)
theorem e162_52 {d : Nat} {ls st : List am_V} {f : am_F} {Q : am_V → am_F → Prop} : aw_wp d 162 52 ls st f Q = (am_kd 2 (ls.getD 0 (2, 0)) = true ∧ aw_wp d 162 53 ls (ls.getD 0 (2, 0) :: st) f Q) := aw_ld (n := 53) (by decide +kernel)
theorem e162_53 {d : Nat} {ls st : List am_V} {f : am_F} {Q : am_V → am_F → Prop} {a : Int} : aw_wp d 162 53 ls ((110, a) :: st) f Q = (0 ≤ a ∧ aw_wp d 162 56 ls ((0, f a 2) :: st) f Q) := aw_get (n := 56) (k := 2) (g := 0) (by decide +kernel)
theorem e162_56 {d : Nat} {ls st : List am_V} {f : am_F} {Q : am_V → am_F → Prop} : aw_wp d 162 56 ls st f Q = (am_kd 2 (ls.getD 0 (2, 0)) = true ∧ aw_wp d 162 57 ls (ls.getD 0 (2, 0) :: st) f Q) := aw_ld (n := 57) (by decide +kernel)
theorem e162_57 {d : Nat} {ls st : List am_V} {f : am_F} {Q : am_V → am_F → Prop} {a : Int} : aw_wp d 162 57 ls ((110, a) :: st) f Q = (0 ≤ a ∧ aw_wp d 162 60 ls ((0, f a 3) :: st) f Q) := aw_get (n := 60) (k := 3) (g := 0) (by decide +kernel)
theorem e162_60 {d : Nat} {ls st : List am_V} {f : am_F} {Q : am_V → am_F → Prop} {a b : Int} : aw_wp d 162 60 ls ((0, b) :: (0, a) :: st) f Q = ((b ≤ a → aw_wp d 162 75 ls st f Q) ∧ (¬ (b ≤ a) → aw_wp d 162 63 ls st f Q)) := aw_icge (n := 63) (t := 75) (by decide +kernel)
theorem e162_63 {d : Nat} {ls st : List am_V} {f : am_F} {Q : am_V → am_F → Prop} : aw_wp d 162 63 ls st f Q = (am_kd 2 (ls.getD 0 (2, 0)) = true ∧ aw_wp d 162 64 ls (ls.getD 0 (2, 0) :: st) f Q) := aw_ld (n := 64) (by decide +kernel)
theorem e162_64 {d : Nat} {ls st : List am_V} {f : am_F} {Q : am_V → am_F → Prop} {a : Int} : aw_wp d 162 64 ls ((110, a) :: st) f Q = (0 ≤ a ∧ aw_wp d 162 67 ls ((20, f a 0) :: st) f Q) := aw_get (n := 67) (k := 0) (g := 20) (by decide +kernel)
theorem e162_67 {d : Nat} {ls st : List am_V} {f : am_F} {Q : am_V → am_F → Prop} : aw_wp d 162 67 ls st f Q = (am_kd 2 (ls.getD 0 (2, 0)) = true ∧ aw_wp d 162 68 ls (ls.getD 0 (2, 0) :: st) f Q) := aw_ld (n := 68) (by decide +kernel)
theorem e162_68 {d : Nat} {ls st : List am_V} {f : am_F} {Q : am_V → am_F → Prop} {a : Int} : aw_wp d 162 68 ls ((110, a) :: st) f Q = (0 ≤ a ∧ aw_wp d 162 71 ls ((0, f a 2) :: st) f Q) := aw_get (n := 71) (k := 2) (g := 0) (by decide +kernel)
theorem e162_71 {d : Nat} {ls st : List am_V} {f : am_F} {Q : am_V → am_F → Prop} {a j : Int} : aw_wp d 162 71 ls ((0, j) :: (20, a) :: st) f Q = (0 ≤ a ∧ 0 ≤ j ∧ j < am_len aw_SH a ∧ aw_wp d 162 72 ls ((0, f a j) :: st) f Q) := aw_ald (n := 72) (g := 0) (by decide +kernel)
theorem e162_72 {d : Nat} {ls st : List am_V} {f : am_F} {Q : am_V → am_F → Prop} : aw_wp d 162 72 ls st f Q = aw_wp d 162 76 ls st f Q := aw_goto (n := 75) (t := 76) (by decide +kernel)
theorem e162_75 {d : Nat} {ls st : List am_V} {f : am_F} {Q : am_V → am_F → Prop} : aw_wp d 162 75 ls st f Q = aw_wp d 162 76 ls ((0, (-1)) :: st) f Q := aw_ipush (n := 76) (by decide +kernel)
theorem e162_76 {d : Nat} {ls : List am_V} {f : am_F} {Q : am_V → am_F → Prop} {v : Int} : aw_wp d 162 76 ls [(0, v)] f Q = Q (0, v) f := aw_reti (n := 77) (st := []) (by decide +kernel)
theorem e162 {d : Nat} {f : am_F} {Q : am_V → am_F → Prop} {x0 : Int} : aw_cl d 162 [(110, x0)] f Q = aw_wp d 162 0 [(110, x0)] [] f Q := by
  unfold aw_cl
  rw [show am_ml 162 = 1 by decide +kernel]
  rfl
-- M.thingMany
theorem e209_0 {d : Nat} {ls st : List am_V} {f : am_F} {Q : am_V → am_F → Prop} : aw_wp d 209 0 ls st f Q = (am_kd 2 (ls.getD 0 (2, 0)) = true ∧ aw_wp d 209 1 ls (ls.getD 0 (2, 0) :: st) f Q) := aw_ld (n := 1) (by decide +kernel)
theorem e209_1 {d : Nat} {ls st : List am_V} {f : am_F} {Q : am_V → am_F → Prop} {a : Int} : aw_wp d 209 1 ls ((110, a) :: st) f Q = (0 ≤ a ∧ aw_wp d 209 4 ls ((20, f a 39) :: st) f Q) := aw_get (n := 4) (k := 39) (g := 20) (by decide +kernel)
theorem e209_4 {d : Nat} {ls st : List am_V} {f : am_F} {Q : am_V → am_F → Prop} : aw_wp d 209 4 ls st f Q = aw_wp d 209 5 ls ((0, 3) :: st) f Q := aw_ipush (n := 5) (by decide +kernel)
theorem e209_5 {d : Nat} {ls st : List am_V} {f : am_F} {Q : am_V → am_F → Prop} {a j : Int} : aw_wp d 209 5 ls ((0, j) :: (20, a) :: st) f Q = (0 ≤ a ∧ 0 ≤ j ∧ j < am_len aw_SH a ∧ aw_wp d 209 6 ls ((0, f a j) :: st) f Q) := aw_ald (n := 6) (g := 0) (by decide +kernel)
theorem e209_6 {d : Nat} {ls : List am_V} {f : am_F} {Q : am_V → am_F → Prop} {v : Int} : aw_wp d 209 6 ls [(0, v)] f Q = Q (0, v) f := aw_reti (n := 7) (st := []) (by decide +kernel)
theorem e209 {d : Nat} {f : am_F} {Q : am_V → am_F → Prop} {x0 : Int} : aw_cl d 209 [(110, x0)] f Q = aw_wp d 209 0 [(110, x0)] [] f Q := by
  unfold aw_cl
  rw [show am_ml 209 = 1 by decide +kernel]
  rfl
-- M.isThing
theorem e230_0 {d : Nat} {ls st : List am_V} {f : am_F} {Q : am_V → am_F → Prop} : aw_wp d 230 0 ls st f Q = (am_kd 0 (ls.getD 1 (2, 0)) = true ∧ aw_wp d 230 1 ls (ls.getD 1 (2, 0) :: st) f Q) := aw_ld (n := 1) (by decide +kernel)
theorem e230_1 {d : Nat} {ls st : List am_V} {f : am_F} {Q : am_V → am_F → Prop} {a : Int} : aw_wp d 230 1 ls ((0, a) :: st) f Q = aw_wp d 230 2 ls ((1, a) :: st) f Q := aw_i2l (n := 2) (by decide +kernel)
theorem e230_2 {d : Nat} {ls st : List am_V} {f : am_F} {Q : am_V → am_F → Prop} : aw_wp d 230 2 ls st f Q = aw_wp d 230 3 ls ((1, 0) :: st) f Q := aw_lpush (n := 3) (by decide +kernel)
theorem e230_3 {d : Nat} {ls st : List am_V} {f : am_F} {Q : am_V → am_F → Prop} : aw_wp d 230 3 ls st f Q = (am_kd 2 (ls.getD 0 (2, 0)) = true ∧ aw_wp d 230 4 ls (ls.getD 0 (2, 0) :: st) f Q) := aw_ld (n := 4) (by decide +kernel)
theorem e230_4 {d : Nat} {ls st : List am_V} {f : am_F} {Q : am_V → am_F → Prop} {x0 : Int} : aw_wp d 230 4 ls ((110, x0) :: st) f Q = (0 ≤ x0 ∧ am_cs st ≤ 8 ∧ 1 ≤ d ∧ aw_cl (d - 1) 209 [(110, x0)] f (fun v f' => aw_wp d 230 7 ls (if v.1 = 3 then st else v :: st) f' Q)) := (aw_inv2 (n := 7) (kd := 1) (m' := 209) [(110, x0)] (by decide +kernel) (show [110] = am_pt 209 by decide +kernel)).trans (by simp)
theorem e230_7 {d : Nat} {ls st : List am_V} {f : am_F} {Q : am_V → am_F → Prop} : aw_wp d 230 7 ls st f Q = aw_wp d 230 8 ls ((0, 1) :: st) f Q := aw_ipush (n := 8) (by decide +kernel)
theorem e230_8 {d : Nat} {ls st : List am_V} {f : am_F} {Q : am_V → am_F → Prop} {a b : Int} : aw_wp d 230 8 ls ((0, b) :: (0, a) :: st) f Q = aw_wp d 230 9 ls ((0, am_wI (a - b)) :: st) f Q := aw_ib1 (n := 9) (by decide +kernel)
theorem e230_9 {d : Nat} {ls st : List am_V} {f : am_F} {Q : am_V → am_F → Prop} {a : Int} : aw_wp d 230 9 ls ((0, a) :: st) f Q = aw_wp d 230 10 ls ((1, a) :: st) f Q := aw_i2l (n := 10) (by decide +kernel)
theorem e230_10 {d : Nat} {ls st : List am_V} {f : am_F} {Q : am_V → am_F → Prop} {x0 x1 x2 : Int} : aw_wp d 230 10 ls ((1, x2) :: (1, x1) :: (1, x0) :: st) f Q = (am_cs st ≤ 8 ∧ 1 ≤ d ∧ aw_cl (d - 1) 176 [(1, x0), (1, x1), (1, x2)] f (fun v f' => aw_wp d 230 13 ls (if v.1 = 3 then st else v :: st) f' Q)) := (aw_inv2 (n := 13) (kd := 0) (m' := 176) [(1, x0), (1, x1), (1, x2)] (by decide +kernel) (show [1, 1, 1] = am_pt 176 by decide +kernel)).trans (by simp)
theorem e230_13 {d : Nat} {ls : List am_V} {f : am_F} {Q : am_V → am_F → Prop} {v : Int} : aw_wp d 230 13 ls [(0, v)] f Q = ((v = 0 ∨ v = 1) ∧ Q (0, v) f) := aw_retz (n := 14) (st := []) (by decide +kernel)
theorem e230 {d : Nat} {f : am_F} {Q : am_V → am_F → Prop} {x0 x1 : Int} : aw_cl d 230 [(110, x0), (0, x1)] f Q = aw_wp d 230 0 [(110, x0), (0, x1)] [] f Q := by
  unfold aw_cl
  rw [show am_ml 230 = 2 by decide +kernel]
  rfl
-- M.stateOf
theorem e210_0 {d : Nat} {ls st : List am_V} {f : am_F} {Q : am_V → am_F → Prop} : aw_wp d 210 0 ls st f Q = (am_kd 2 (ls.getD 0 (2, 0)) = true ∧ aw_wp d 210 1 ls (ls.getD 0 (2, 0) :: st) f Q) := aw_ld (n := 1) (by decide +kernel)
theorem e210_1 {d : Nat} {ls st : List am_V} {f : am_F} {Q : am_V → am_F → Prop} {a : Int} : aw_wp d 210 1 ls ((110, a) :: st) f Q = (0 ≤ a ∧ aw_wp d 210 4 ls ((20, f a 51) :: st) f Q) := aw_get (n := 4) (k := 51) (g := 20) (by decide +kernel)
theorem e210_4 {d : Nat} {ls st : List am_V} {f : am_F} {Q : am_V → am_F → Prop} : aw_wp d 210 4 ls st f Q = aw_wp d 210 5 ls ((0, 1) :: st) f Q := aw_ipush (n := 5) (by decide +kernel)
theorem e210_5 {d : Nat} {ls st : List am_V} {f : am_F} {Q : am_V → am_F → Prop} : aw_wp d 210 5 ls st f Q = aw_wp d 210 6 ls ((0, 5) :: st) f Q := aw_ipush (n := 6) (by decide +kernel)
theorem e210_6 {d : Nat} {ls st : List am_V} {f : am_F} {Q : am_V → am_F → Prop} : aw_wp d 210 6 ls st f Q = (am_kd 0 (ls.getD 1 (2, 0)) = true ∧ aw_wp d 210 7 ls (ls.getD 1 (2, 0) :: st) f Q) := aw_ld (n := 7) (by decide +kernel)
theorem e210_7 {d : Nat} {ls st : List am_V} {f : am_F} {Q : am_V → am_F → Prop} {a b : Int} : aw_wp d 210 7 ls ((0, b) :: (0, a) :: st) f Q = aw_wp d 210 8 ls ((0, am_wI (a * b)) :: st) f Q := aw_ib2 (n := 8) (by decide +kernel)
theorem e210_8 {d : Nat} {ls st : List am_V} {f : am_F} {Q : am_V → am_F → Prop} {a b : Int} : aw_wp d 210 8 ls ((0, b) :: (0, a) :: st) f Q = aw_wp d 210 9 ls ((0, am_wI (a + b)) :: st) f Q := aw_ib0 (n := 9) (by decide +kernel)
theorem e210_9 {d : Nat} {ls st : List am_V} {f : am_F} {Q : am_V → am_F → Prop} {a j : Int} : aw_wp d 210 9 ls ((0, j) :: (20, a) :: st) f Q = (0 ≤ a ∧ 0 ≤ j ∧ j < am_len aw_SH a ∧ aw_wp d 210 10 ls ((0, f a j) :: st) f Q) := aw_ald (n := 10) (g := 0) (by decide +kernel)
theorem e210_10 {d : Nat} {ls : List am_V} {f : am_F} {Q : am_V → am_F → Prop} {v : Int} : aw_wp d 210 10 ls [(0, v)] f Q = Q (0, v) f := aw_reti (n := 11) (st := []) (by decide +kernel)
theorem e210 {d : Nat} {f : am_F} {Q : am_V → am_F → Prop} {x0 x1 : Int} : aw_cl d 210 [(110, x0), (0, x1)] f Q = aw_wp d 210 0 [(110, x0), (0, x1)] [] f Q := by
  unfold aw_cl
  rw [show am_ml 210 = 2 by decide +kernel]
  rfl
-- M.setOf
theorem e208_0 {d : Nat} {ls st : List am_V} {f : am_F} {Q : am_V → am_F → Prop} : aw_wp d 208 0 ls st f Q = aw_wp d 208 1 ls ((0, 0) :: st) f Q := aw_ipush (n := 1) (by decide +kernel)
theorem e208_1 {d : Nat} {ls st : List am_V} {f : am_F} {Q : am_V → am_F → Prop} {v : Int} (h : 2 < ls.length) : aw_wp d 208 1 ls ((0, v) :: st) f Q = aw_wp d 208 2 (am_set1 2 (0, v) ls) st f Q := aw_st1 (n := 2) (c := 0) (by decide +kernel) rfl (by decide) h
theorem e208_2 {d : Nat} {ls st : List am_V} {f : am_F} {Q : am_V → am_F → Prop} : aw_wp d 208 2 ls st f Q = aw_wp d 208 3 ls ((0, 0) :: st) f Q := aw_ipush (n := 3) (by decide +kernel)
theorem e208_3 {d : Nat} {ls st : List am_V} {f : am_F} {Q : am_V → am_F → Prop} {v : Int} (h : 3 < ls.length) : aw_wp d 208 3 ls ((0, v) :: st) f Q = aw_wp d 208 4 (am_set1 3 (0, v) ls) st f Q := aw_st1 (n := 4) (c := 0) (by decide +kernel) rfl (by decide) h
theorem e208_4 {d : Nat} {ls st : List am_V} {f : am_F} {Q : am_V → am_F → Prop} : aw_wp d 208 4 ls st f Q = (am_kd 0 (ls.getD 3 (2, 0)) = true ∧ aw_wp d 208 5 ls (ls.getD 3 (2, 0) :: st) f Q) := aw_ld (n := 5) (by decide +kernel)
theorem e208_5 {d : Nat} {ls st : List am_V} {f : am_F} {Q : am_V → am_F → Prop} : aw_wp d 208 5 ls st f Q = (am_kd 2 (ls.getD 0 (2, 0)) = true ∧ aw_wp d 208 6 ls (ls.getD 0 (2, 0) :: st) f Q) := aw_ld (n := 6) (by decide +kernel)
theorem e208_6 {d : Nat} {ls st : List am_V} {f : am_F} {Q : am_V → am_F → Prop} {x0 : Int} : aw_wp d 208 6 ls ((110, x0) :: st) f Q = (0 ≤ x0 ∧ am_cs st ≤ 8 ∧ 1 ≤ d ∧ aw_cl (d - 1) 209 [(110, x0)] f (fun v f' => aw_wp d 208 9 ls (if v.1 = 3 then st else v :: st) f' Q)) := (aw_inv2 (n := 9) (kd := 1) (m' := 209) [(110, x0)] (by decide +kernel) (show [110] = am_pt 209 by decide +kernel)).trans (by simp)
theorem e208_9 {d : Nat} {ls st : List am_V} {f : am_F} {Q : am_V → am_F → Prop} {a b : Int} : aw_wp d 208 9 ls ((0, b) :: (0, a) :: st) f Q = ((b ≤ a → aw_wp d 208 33 ls st f Q) ∧ (¬ (b ≤ a) → aw_wp d 208 12 ls st f Q)) := aw_icge (n := 12) (t := 33) (by decide +kernel)
theorem e208_12 {d : Nat} {ls st : List am_V} {f : am_F} {Q : am_V → am_F → Prop} : aw_wp d 208 12 ls st f Q = (am_kd 2 (ls.getD 0 (2, 0)) = true ∧ aw_wp d 208 13 ls (ls.getD 0 (2, 0) :: st) f Q) := aw_ld (n := 13) (by decide +kernel)
theorem e208_13 {d : Nat} {ls st : List am_V} {f : am_F} {Q : am_V → am_F → Prop} : aw_wp d 208 13 ls st f Q = (am_kd 0 (ls.getD 3 (2, 0)) = true ∧ aw_wp d 208 14 ls (ls.getD 3 (2, 0) :: st) f Q) := aw_ld (n := 14) (by decide +kernel)
theorem e208_14 {d : Nat} {ls st : List am_V} {f : am_F} {Q : am_V → am_F → Prop} {x0 x1 : Int} : aw_wp d 208 14 ls ((0, x1) :: (110, x0) :: st) f Q = (0 ≤ x0 ∧ am_cs st ≤ 8 ∧ 1 ≤ d ∧ aw_cl (d - 1) 210 [(110, x0), (0, x1)] f (fun v f' => aw_wp d 208 17 ls (if v.1 = 3 then st else v :: st) f' Q)) := (aw_inv2 (n := 17) (kd := 1) (m' := 210) [(110, x0), (0, x1)] (by decide +kernel) (show [110, 0] = am_pt 210 by decide +kernel)).trans (by simp)
theorem e208_17 {d : Nat} {ls st : List am_V} {f : am_F} {Q : am_V → am_F → Prop} : aw_wp d 208 17 ls st f Q = (am_kd 0 (ls.getD 1 (2, 0)) = true ∧ aw_wp d 208 18 ls (ls.getD 1 (2, 0) :: st) f Q) := aw_ld (n := 18) (by decide +kernel)
theorem e208_18 {d : Nat} {ls st : List am_V} {f : am_F} {Q : am_V → am_F → Prop} {a b : Int} : aw_wp d 208 18 ls ((0, b) :: (0, a) :: st) f Q = ((¬ a = b → aw_wp d 208 27 ls st f Q) ∧ (¬ (¬ a = b) → aw_wp d 208 21 ls st f Q)) := aw_icne (n := 21) (t := 27) (by decide +kernel)
theorem e208_21 {d : Nat} {ls st : List am_V} {f : am_F} {Q : am_V → am_F → Prop} : aw_wp d 208 21 ls st f Q = (am_kd 0 (ls.getD 2 (2, 0)) = true ∧ aw_wp d 208 22 ls (ls.getD 2 (2, 0) :: st) f Q) := aw_ld (n := 22) (by decide +kernel)
theorem e208_22 {d : Nat} {ls st : List am_V} {f : am_F} {Q : am_V → am_F → Prop} : aw_wp d 208 22 ls st f Q = aw_wp d 208 23 ls ((0, 1) :: st) f Q := aw_ipush (n := 23) (by decide +kernel)
theorem e208_23 {d : Nat} {ls st : List am_V} {f : am_F} {Q : am_V → am_F → Prop} : aw_wp d 208 23 ls st f Q = (am_kd 0 (ls.getD 3 (2, 0)) = true ∧ aw_wp d 208 24 ls (ls.getD 3 (2, 0) :: st) f Q) := aw_ld (n := 24) (by decide +kernel)
theorem e208_24 {d : Nat} {ls st : List am_V} {f : am_F} {Q : am_V → am_F → Prop} {a b : Int} : aw_wp d 208 24 ls ((0, b) :: (0, a) :: st) f Q = aw_wp d 208 25 ls ((0, am_shl a b) :: st) f Q := aw_ib8 (n := 25) (by decide +kernel)
theorem e208_25 {d : Nat} {ls st : List am_V} {f : am_F} {Q : am_V → am_F → Prop} {a b : Int} : aw_wp d 208 25 ls ((0, b) :: (0, a) :: st) f Q = aw_wp d 208 26 ls ((0, am_or a b) :: st) f Q := aw_ib6 (n := 26) (by decide +kernel)
theorem e208_26 {d : Nat} {ls st : List am_V} {f : am_F} {Q : am_V → am_F → Prop} {v : Int} (h : 2 < ls.length) : aw_wp d 208 26 ls ((0, v) :: st) f Q = aw_wp d 208 27 (am_set1 2 (0, v) ls) st f Q := aw_st1 (n := 27) (c := 0) (by decide +kernel) rfl (by decide) h
theorem e208_27 {d : Nat} {ls st : List am_V} {f : am_F} {Q : am_V → am_F → Prop} {v : Int} (h : ls[3]? = some (0, v)) : aw_wp d 208 27 ls st f Q = aw_wp d 208 30 (am_set1 3 (0, am_wI (v + 1)) ls) st f Q := aw_iinc (n := 30) (by decide +kernel) h
theorem e208_30 {d : Nat} {ls st : List am_V} {f : am_F} {Q : am_V → am_F → Prop} : aw_wp d 208 30 ls st f Q = aw_wp d 208 4 ls st f Q := aw_goto (n := 33) (t := 4) (by decide +kernel)
theorem e208_33 {d : Nat} {ls st : List am_V} {f : am_F} {Q : am_V → am_F → Prop} : aw_wp d 208 33 ls st f Q = (am_kd 0 (ls.getD 2 (2, 0)) = true ∧ aw_wp d 208 34 ls (ls.getD 2 (2, 0) :: st) f Q) := aw_ld (n := 34) (by decide +kernel)
theorem e208_34 {d : Nat} {ls : List am_V} {f : am_F} {Q : am_V → am_F → Prop} {v : Int} : aw_wp d 208 34 ls [(0, v)] f Q = Q (0, v) f := aw_reti (n := 35) (st := []) (by decide +kernel)
theorem e208 {d : Nat} {f : am_F} {Q : am_V → am_F → Prop} {x0 x1 : Int} : aw_cl d 208 [(110, x0), (0, x1)] f Q = aw_wp d 208 0 [(110, x0), (0, x1), (2, 0), (2, 0)] [] f Q := by
  unfold aw_cl
  rw [show am_ml 208 = 4 by decide +kernel]
  rfl
-- M.fail
theorem e164_0 {d : Nat} {ls st : List am_V} {f : am_F} {Q : am_V → am_F → Prop} : aw_wp d 164 0 ls st f Q = (am_kd 2 (ls.getD 0 (2, 0)) = true ∧ aw_wp d 164 1 ls (ls.getD 0 (2, 0) :: st) f Q) := aw_ld (n := 1) (by decide +kernel)
theorem e164_1 {d : Nat} {ls st : List am_V} {f : am_F} {Q : am_V → am_F → Prop} {a : Int} : aw_wp d 164 1 ls ((110, a) :: st) f Q = (0 ≤ a ∧ aw_wp d 164 4 ls ((0, f a 5) :: st) f Q) := aw_get (n := 4) (k := 5) (g := 0) (by decide +kernel)
theorem e164_4 {d : Nat} {ls st : List am_V} {f : am_F} {Q : am_V → am_F → Prop} {a : Int} : aw_wp d 164 4 ls ((0, a) :: st) f Q = ((a = (0 : Int) → aw_wp d 164 8 ls st f Q) ∧ (¬ (a = (0 : Int)) → aw_wp d 164 7 ls st f Q)) := aw_ifeq (n := 7) (t := 8) (by decide +kernel)
theorem e164_7 {d : Nat} {ls : List am_V} {f : am_F} {Q : am_V → am_F → Prop} : aw_wp d 164 7 ls [] f Q = Q (3, 0) f := aw_retv (n := 8) (st := []) (by decide +kernel)
theorem e164_8 {d : Nat} {ls st : List am_V} {f : am_F} {Q : am_V → am_F → Prop} : aw_wp d 164 8 ls st f Q = (am_kd 2 (ls.getD 0 (2, 0)) = true ∧ aw_wp d 164 9 ls (ls.getD 0 (2, 0) :: st) f Q) := aw_ld (n := 9) (by decide +kernel)
theorem e164_9 {d : Nat} {ls st : List am_V} {f : am_F} {Q : am_V → am_F → Prop} : aw_wp d 164 9 ls st f Q = (am_kd 0 (ls.getD 1 (2, 0)) = true ∧ aw_wp d 164 10 ls (ls.getD 1 (2, 0) :: st) f Q) := aw_ld (n := 10) (by decide +kernel)
theorem e164_10 {d : Nat} {ls st : List am_V} {f : am_F} {Q : am_V → am_F → Prop} {a v : Int} : aw_wp d 164 10 ls ((0, v) :: (110, a) :: st) f Q = (0 ≤ a ∧ aw_wp d 164 13 ls st (am_up f a 5 v) Q) := by rw [aw_put (n := 13) (k := 5) (g := 0) (b := 0) (by decide +kernel)]; simp
theorem e164_13 {d : Nat} {ls st : List am_V} {f : am_F} {Q : am_V → am_F → Prop} : aw_wp d 164 13 ls st f Q = (am_kd 2 (ls.getD 0 (2, 0)) = true ∧ aw_wp d 164 14 ls (ls.getD 0 (2, 0) :: st) f Q) := aw_ld (n := 14) (by decide +kernel)
theorem e164_14 {d : Nat} {ls st : List am_V} {f : am_F} {Q : am_V → am_F → Prop} : aw_wp d 164 14 ls st f Q = (am_kd 0 (ls.getD 2 (2, 0)) = true ∧ aw_wp d 164 15 ls (ls.getD 2 (2, 0) :: st) f Q) := aw_ld (n := 15) (by decide +kernel)
theorem e164_15 {d : Nat} {ls st : List am_V} {f : am_F} {Q : am_V → am_F → Prop} {a v : Int} : aw_wp d 164 15 ls ((0, v) :: (110, a) :: st) f Q = (0 ≤ a ∧ aw_wp d 164 18 ls st (am_up f a 6 v) Q) := by rw [aw_put (n := 18) (k := 6) (g := 0) (b := 0) (by decide +kernel)]; simp
theorem e164_18 {d : Nat} {ls : List am_V} {f : am_F} {Q : am_V → am_F → Prop} : aw_wp d 164 18 ls [] f Q = Q (3, 0) f := aw_retv (n := 19) (st := []) (by decide +kernel)
theorem e164 {d : Nat} {f : am_F} {Q : am_V → am_F → Prop} {x0 x1 x2 : Int} : aw_cl d 164 [(110, x0), (0, x1), (0, x2)] f Q = aw_wp d 164 0 [(110, x0), (0, x1), (0, x2)] [] f Q := by
  unfold aw_cl
  rw [show am_ml 164 = 3 by decide +kernel]
  rfl
theorem tx_isIn {d : Nat} {f : am_F} {Q : am_V → am_F → Prop} {a b c : Int} : aw_cl d 176 [(1, a), (1, b), (1, c)] f Q = Q (0, if b ≤ a ∧ a ≤ c then 1 else 0) f := by
  simp [e176, e176_0, e176_1, e176_2, e176_3, e176_6, e176_7, e176_9, e176_10, e176_13, e176_14, e176_17, e176_18, am_kd, am_lc]
  trace_state
  sorry
theorem tx_fail {d : Nat} {f : am_F} {Q : am_V → am_F → Prop} {k p : Int} : aw_cl d 164 [(110, 270), (0, k), (0, p)] f Q = Q (3, 0) (if f 270 5 = 0 then am_up (am_up f 270 5 k) 270 6 p else f) := by
  simp [e164, e164_0, e164_1, e164_4, e164_7, e164_8, e164_9, e164_10, e164_13, e164_14, e164_15, e164_18, am_kd]
  trace_state
  sorry
theorem tx_thingMany {d : Nat} {f : am_F} {Q : am_V → am_F → Prop} (h : f 270 38 = 301) : aw_cl d 209 [(110, 270)] f Q = Q (0, f 301 3) f := by
  simp [e209, e209_0, e209_1, e209_4, e209_5, e209_6, am_kd, h]
  trace_state
  sorry
