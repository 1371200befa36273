-- 295 M.status
theorem r295_0 {d : Nat} {ls st : List am_V} {f : am_F} {Q : am_V → am_F → Prop} {t0 : Nat} {a0 : Int} {v : Int} : aw_wp d 295 0 ((t0, a0) :: (0, v) :: ls) st f Q = aw_wp d 295 1 ((t0, a0) :: (0, v) :: ls) ((0, v) :: st) f Q := aw_ldi (n := 1) (k := 1) (by decide +kernel) rfl
theorem r295_1 {d : Nat} {ls st : List am_V} {f : am_F} {Q : am_V → am_F → Prop} {a : Int} : aw_wp d 295 1 ls ((0, a) :: st) f Q = aw_wp d 295 2 ls ((1, a) :: st) f Q := aw_i2l (n := 2) (by decide +kernel)
theorem r295_2 {d : Nat} {ls st : List am_V} {f : am_F} {Q : am_V → am_F → Prop} : aw_wp d 295 2 ls st f Q = aw_wp d 295 3 ls ((1, 0) :: st) f Q := aw_lpush (n := 3) (by decide +kernel)
theorem r295_3 {d : Nat} {ls st : List am_V} {f : am_F} {Q : am_V → am_F → Prop} : aw_wp d 295 3 ls st f Q = aw_wp d 295 6 ls ((1, 5) :: st) f Q := aw_lpush (n := 6) (by decide +kernel)
theorem r295_6 {d : Nat} {ls st : List am_V} {f : am_F} {Q : am_V → am_F → Prop} {x0 x1 x2 : Int} : aw_wp d 295 6 ls ((1, x2) :: (1, x1) :: (1, x0) :: st) f Q = (am_cs st ≤ 8 ∧ 1 ≤ d ∧ aw_cl (d - 1) 176 [(1, x0), (1, x1), (1, x2)] f (fun v f' => aw_wp d 295 9 ls (if v.1 = 3 then st else v :: st) f' Q)) := (aw_inv2 (n := 9) (kd := 0) (m' := 176) [(1, x0), (1, x1), (1, x2)] (by decide +kernel) (show [1, 1, 1] = am_pt 176 by decide +kernel)).trans (by simp)
theorem r295_9 {d : Nat} {ls st : List am_V} {f : am_F} {Q : am_V → am_F → Prop} {a : Int} : aw_wp d 295 9 ls ((0, a) :: st) f Q = ((a = (0 : Int) → aw_wp d 295 21 ls st f Q) ∧ (¬ (a = (0 : Int)) → aw_wp d 295 12 ls st f Q)) := aw_ifeq (n := 12) (t := 21) (by decide +kernel)
theorem r295_12 {d : Nat} {ls st : List am_V} {f : am_F} {Q : am_V → am_F → Prop} {t : Nat} {v : Int} : aw_wp d 295 12 ((t, v) :: ls) st f Q = ((20 ≤ t ∧ ¬ t = 30 ∧ 0 ≤ v) ∧ aw_wp d 295 13 ((t, v) :: ls) ((t, v) :: st) f Q) := aw_lda (n := 13) (k := 0) (by decide +kernel) rfl
theorem r295_13 {d : Nat} {ls st : List am_V} {f : am_F} {Q : am_V → am_F → Prop} {a : Int} : aw_wp d 295 13 ls ((110, a) :: st) f Q = (0 ≤ a ∧ aw_wp d 295 16 ls ((20, f a 9) :: st) f Q) := aw_get (n := 16) (k := 9) (g := 20) (by decide +kernel)
theorem r295_16 {d : Nat} {ls st : List am_V} {f : am_F} {Q : am_V → am_F → Prop} {t0 : Nat} {a0 : Int} {v : Int} : aw_wp d 295 16 ((t0, a0) :: (0, v) :: ls) st f Q = aw_wp d 295 17 ((t0, a0) :: (0, v) :: ls) ((0, v) :: st) f Q := aw_ldi (n := 17) (k := 1) (by decide +kernel) rfl
theorem r295_17 {d : Nat} {ls st : List am_V} {f : am_F} {Q : am_V → am_F → Prop} {a j : Int} : aw_wp d 295 17 ls ((0, j) :: (20, a) :: st) f Q = (0 ≤ a ∧ 0 ≤ j ∧ j < am_len aw_SH a ∧ aw_wp d 295 18 ls ((0, f a j) :: st) f Q) := aw_ald (n := 18) (g := 0) (by decide +kernel)
theorem r295_18 {d : Nat} {ls st : List am_V} {f : am_F} {Q : am_V → am_F → Prop} : aw_wp d 295 18 ls st f Q = aw_wp d 295 22 ls st f Q := aw_goto (n := 21) (t := 22) (by decide +kernel)
theorem r295_21 {d : Nat} {ls st : List am_V} {f : am_F} {Q : am_V → am_F → Prop} : aw_wp d 295 21 ls st f Q = aw_wp d 295 22 ls ((0, (-1)) :: st) f Q := aw_ipush (n := 22) (by decide +kernel)
theorem r295_22 {d : Nat} {ls : List am_V} {f : am_F} {Q : am_V → am_F → Prop} {v : Int} : aw_wp d 295 22 ls [(0, v)] f Q = Q (0, v) f := aw_reti (n := 23) (st := []) (by decide +kernel)
theorem q295 {d : Nat} {f : am_F} {Q : am_V → am_F → Prop} {x0 x1 : Int} : aw_cl d 295 [(110, x0), (0, x1)] f Q = aw_wp d 295 0 [(110, x0), (0, x1)] [] f Q := by
  unfold aw_cl
  rw [show am_ml 295 = 2 by decide +kernel]
  rfl
