-- C.fault
theorem e62_0 {d : Nat} {ls st : List am_V} {f : am_F} {Q : am_V → am_F → Prop} : aw_wp d 62 0 ls st f Q = (am_kd 0 (ls.getD 1 (2, 0)) = true ∧ aw_wp d 62 1 ls (ls.getD 1 (2, 0) :: st) f Q) := aw_ld (n := 1) (by decide +kernel)
theorem e62_1 {d : Nat} {ls st : List am_V} {f : am_F} {Q : am_V → am_F → Prop} {a : Int} : aw_wp d 62 1 ls ((0, a) :: st) f Q = ((¬ a = (0 : Int) → aw_wp d 62 9 ls st f Q) ∧ (¬ (¬ a = (0 : Int)) → aw_wp d 62 4 ls st f Q)) := aw_ifne (n := 4) (t := 9) (by decide +kernel)
theorem e62_4 {d : Nat} {ls st : List am_V} {f : am_F} {Q : am_V → am_F → Prop} : aw_wp d 62 4 ls st f Q = (am_kd 2 (ls.getD 0 (2, 0)) = true ∧ aw_wp d 62 5 ls (ls.getD 0 (2, 0) :: st) f Q) := aw_ld (n := 5) (by decide +kernel)
theorem e62_5 {d : Nat} {ls st : List am_V} {f : am_F} {Q : am_V → am_F → Prop} {a : Int} : aw_wp d 62 5 ls ((109, a) :: st) f Q = (0 ≤ a ∧ aw_wp d 62 8 ls ((0, f a 14) :: st) f Q) := aw_get (n := 8) (k := 14) (g := 0) (by decide +kernel)
theorem e62_8 {d : Nat} {ls : List am_V} {f : am_F} {Q : am_V → am_F → Prop} {v : Int} : aw_wp d 62 8 ls [(0, v)] f Q = Q (0, v) f := aw_reti (n := 9) (st := []) (by decide +kernel)
theorem e62_9 {d : Nat} {ls st : List am_V} {f : am_F} {Q : am_V → am_F → Prop} : aw_wp d 62 9 ls st f Q = (am_kd 0 (ls.getD 1 (2, 0)) = true ∧ aw_wp d 62 10 ls (ls.getD 1 (2, 0) :: st) f Q) := aw_ld (n := 10) (by decide +kernel)
theorem e62_10 {d : Nat} {ls st : List am_V} {f : am_F} {Q : am_V → am_F → Prop} : aw_wp d 62 10 ls st f Q = aw_wp d 62 11 ls ((0, 1) :: st) f Q := aw_ipush (n := 11) (by decide +kernel)
theorem e62_11 {d : Nat} {ls st : List am_V} {f : am_F} {Q : am_V → am_F → Prop} {a b : Int} : aw_wp d 62 11 ls ((0, b) :: (0, a) :: st) f Q = ((¬ a = b → aw_wp d 62 21 ls st f Q) ∧ (¬ (¬ a = b) → aw_wp d 62 14 ls st f Q)) := aw_icne (n := 14) (t := 21) (by decide +kernel)
theorem e62_14 {d : Nat} {ls st : List am_V} {f : am_F} {Q : am_V → am_F → Prop} : aw_wp d 62 14 ls st f Q = (am_kd 2 (ls.getD 0 (2, 0)) = true ∧ aw_wp d 62 15 ls (ls.getD 0 (2, 0) :: st) f Q) := aw_ld (n := 15) (by decide +kernel)
theorem e62_15 {d : Nat} {ls st : List am_V} {f : am_F} {Q : am_V → am_F → Prop} {a : Int} : aw_wp d 62 15 ls ((109, a) :: st) f Q = (0 ≤ a ∧ aw_wp d 62 18 ls ((0, f a 15) :: st) f Q) := aw_get (n := 18) (k := 15) (g := 0) (by decide +kernel)
theorem e62_18 {d : Nat} {ls st : List am_V} {f : am_F} {Q : am_V → am_F → Prop} : aw_wp d 62 18 ls st f Q = aw_wp d 62 22 ls st f Q := aw_goto (n := 21) (t := 22) (by decide +kernel)
theorem e62_21 {d : Nat} {ls st : List am_V} {f : am_F} {Q : am_V → am_F → Prop} : aw_wp d 62 21 ls st f Q = aw_wp d 62 22 ls ((0, (-1)) :: st) f Q := aw_ipush (n := 22) (by decide +kernel)
theorem e62_22 {d : Nat} {ls : List am_V} {f : am_F} {Q : am_V → am_F → Prop} {v : Int} : aw_wp d 62 22 ls [(0, v)] f Q = Q (0, v) f := aw_reti (n := 23) (st := []) (by decide +kernel)
theorem e62 {d : Nat} {f : am_F} {Q : am_V → am_F → Prop} {x0 x1 : Int} : aw_cl d 62 [(109, x0), (0, x1)] f Q = aw_wp d 62 0 [(109, x0), (0, x1)] [] f Q := by
  unfold aw_cl
  rw [show am_ml 62 = 2 by decide +kernel]
  rfl
-- C.status
theorem e157_0 {d : Nat} {ls st : List am_V} {f : am_F} {Q : am_V → am_F → Prop} : aw_wp d 157 0 ls st f Q = (am_kd 0 (ls.getD 1 (2, 0)) = true ∧ aw_wp d 157 1 ls (ls.getD 1 (2, 0) :: st) f Q) := aw_ld (n := 1) (by decide +kernel)
theorem e157_1 {d : Nat} {ls st : List am_V} {f : am_F} {Q : am_V → am_F → Prop} {a : Int} : aw_wp d 157 1 ls ((0, a) :: st) f Q = ((a < (0 : Int) → aw_wp d 157 22 ls st f Q) ∧ (¬ (a < (0 : Int)) → aw_wp d 157 4 ls st f Q)) := aw_iflt (n := 4) (t := 22) (by decide +kernel)
theorem e157_4 {d : Nat} {ls st : List am_V} {f : am_F} {Q : am_V → am_F → Prop} : aw_wp d 157 4 ls st f Q = (am_kd 0 (ls.getD 1 (2, 0)) = true ∧ aw_wp d 157 5 ls (ls.getD 1 (2, 0) :: st) f Q) := aw_ld (n := 5) (by decide +kernel)
theorem e157_5 {d : Nat} {ls st : List am_V} {f : am_F} {Q : am_V → am_F → Prop} : aw_wp d 157 5 ls st f Q = (am_kd 2 (ls.getD 0 (2, 0)) = true ∧ aw_wp d 157 6 ls (ls.getD 0 (2, 0) :: st) f Q) := aw_ld (n := 6) (by decide +kernel)
theorem e157_6 {d : Nat} {ls st : List am_V} {f : am_F} {Q : am_V → am_F → Prop} {a : Int} : aw_wp d 157 6 ls ((109, a) :: st) f Q = (0 ≤ a ∧ aw_wp d 157 9 ls ((20, f a 10) :: st) f Q) := aw_get (n := 9) (k := 10) (g := 20) (by decide +kernel)
theorem e157_10 {d : Nat} {ls st : List am_V} {f : am_F} {Q : am_V → am_F → Prop} {a b : Int} : aw_wp d 157 10 ls ((0, b) :: (0, a) :: st) f Q = ((b ≤ a → aw_wp d 157 22 ls st f Q) ∧ (¬ (b ≤ a) → aw_wp d 157 13 ls st f Q)) := aw_icge (n := 13) (t := 22) (by decide +kernel)
theorem e157_13 {d : Nat} {ls st : List am_V} {f : am_F} {Q : am_V → am_F → Prop} : aw_wp d 157 13 ls st f Q = (am_kd 2 (ls.getD 0 (2, 0)) = true ∧ aw_wp d 157 14 ls (ls.getD 0 (2, 0) :: st) f Q) := aw_ld (n := 14) (by decide +kernel)
theorem e157_14 {d : Nat} {ls st : List am_V} {f : am_F} {Q : am_V → am_F → Prop} {a : Int} : aw_wp d 157 14 ls ((109, a) :: st) f Q = (0 ≤ a ∧ aw_wp d 157 17 ls ((20, f a 10) :: st) f Q) := aw_get (n := 17) (k := 10) (g := 20) (by decide +kernel)
theorem e157_17 {d : Nat} {ls st : List am_V} {f : am_F} {Q : am_V → am_F → Prop} : aw_wp d 157 17 ls st f Q = (am_kd 0 (ls.getD 1 (2, 0)) = true ∧ aw_wp d 157 18 ls (ls.getD 1 (2, 0) :: st) f Q) := aw_ld (n := 18) (by decide +kernel)
theorem e157_18 {d : Nat} {ls st : List am_V} {f : am_F} {Q : am_V → am_F → Prop} {a j : Int} : aw_wp d 157 18 ls ((0, j) :: (20, a) :: st) f Q = (0 ≤ a ∧ 0 ≤ j ∧ j < am_len aw_SH a ∧ aw_wp d 157 19 ls ((0, f a j) :: st) f Q) := aw_ald (n := 19) (g := 0) (by decide +kernel)
theorem e157_19 {d : Nat} {ls st : List am_V} {f : am_F} {Q : am_V → am_F → Prop} : aw_wp d 157 19 ls st f Q = aw_wp d 157 23 ls st f Q := aw_goto (n := 22) (t := 23) (by decide +kernel)
theorem e157_22 {d : Nat} {ls st : List am_V} {f : am_F} {Q : am_V → am_F → Prop} : aw_wp d 157 22 ls st f Q = aw_wp d 157 23 ls ((0, (-1)) :: st) f Q := aw_ipush (n := 23) (by decide +kernel)
theorem e157_23 {d : Nat} {ls : List am_V} {f : am_F} {Q : am_V → am_F → Prop} {v : Int} : aw_wp d 157 23 ls [(0, v)] f Q = Q (0, v) f := aw_reti (n := 24) (st := []) (by decide +kernel)
theorem e157 {d : Nat} {f : am_F} {Q : am_V → am_F → Prop} {x0 x1 : Int} : aw_cl d 157 [(109, x0), (0, x1)] f Q = aw_wp d 157 0 [(109, x0), (0, x1)] [] f Q := by
  unfold aw_cl
  rw [show am_ml 157 = 2 by decide +kernel]
  rfl
-- C.octet
theorem e152_0 {d : Nat} {ls st : List am_V} {f : am_F} {Q : am_V → am_F → Prop} : aw_wp d 152 0 ls st f Q = (am_kd 0 (ls.getD 1 (2, 0)) = true ∧ aw_wp d 152 1 ls (ls.getD 1 (2, 0) :: st) f Q) := aw_ld (n := 1) (by decide +kernel)
theorem e152_1 {d : Nat} {ls st : List am_V} {f : am_F} {Q : am_V → am_F → Prop} {a : Int} : aw_wp d 152 1 ls ((0, a) :: st) f Q = ((a < (0 : Int) → aw_wp d 152 21 ls st f Q) ∧ (¬ (a < (0 : Int)) → aw_wp d 152 4 ls st f Q)) := aw_iflt (n := 4) (t := 21) (by decide +kernel)
theorem e152_4 {d : Nat} {ls st : List am_V} {f : am_F} {Q : am_V → am_F → Prop} : aw_wp d 152 4 ls st f Q = (am_kd 0 (ls.getD 1 (2, 0)) = true ∧ aw_wp d 152 5 ls (ls.getD 1 (2, 0) :: st) f Q) := aw_ld (n := 5) (by decide +kernel)
theorem e152_5 {d : Nat} {ls st : List am_V} {f : am_F} {Q : am_V → am_F → Prop} : aw_wp d 152 5 ls st f Q = (am_kd 2 (ls.getD 0 (2, 0)) = true ∧ aw_wp d 152 6 ls (ls.getD 0 (2, 0) :: st) f Q) := aw_ld (n := 6) (by decide +kernel)
theorem e152_6 {d : Nat} {ls st : List am_V} {f : am_F} {Q : am_V → am_F → Prop} {a : Int} : aw_wp d 152 6 ls ((109, a) :: st) f Q = (0 ≤ a ∧ aw_wp d 152 9 ls ((0, f a 12) :: st) f Q) := aw_get (n := 9) (k := 12) (g := 0) (by decide +kernel)
theorem e152_9 {d : Nat} {ls st : List am_V} {f : am_F} {Q : am_V → am_F → Prop} {a b : Int} : aw_wp d 152 9 ls ((0, b) :: (0, a) :: st) f Q = ((b ≤ a → aw_wp d 152 21 ls st f Q) ∧ (¬ (b ≤ a) → aw_wp d 152 12 ls st f Q)) := aw_icge (n := 12) (t := 21) (by decide +kernel)
theorem e152_12 {d : Nat} {ls st : List am_V} {f : am_F} {Q : am_V → am_F → Prop} : aw_wp d 152 12 ls st f Q = (am_kd 2 (ls.getD 0 (2, 0)) = true ∧ aw_wp d 152 13 ls (ls.getD 0 (2, 0) :: st) f Q) := aw_ld (n := 13) (by decide +kernel)
theorem e152_13 {d : Nat} {ls st : List am_V} {f : am_F} {Q : am_V → am_F → Prop} {a : Int} : aw_wp d 152 13 ls ((109, a) :: st) f Q = (0 ≤ a ∧ aw_wp d 152 16 ls ((20, f a 9) :: st) f Q) := aw_get (n := 16) (k := 9) (g := 20) (by decide +kernel)
theorem e152_16 {d : Nat} {ls st : List am_V} {f : am_F} {Q : am_V → am_F → Prop} : aw_wp d 152 16 ls st f Q = (am_kd 0 (ls.getD 1 (2, 0)) = true ∧ aw_wp d 152 17 ls (ls.getD 1 (2, 0) :: st) f Q) := aw_ld (n := 17) (by decide +kernel)
theorem e152_17 {d : Nat} {ls st : List am_V} {f : am_F} {Q : am_V → am_F → Prop} {a j : Int} : aw_wp d 152 17 ls ((0, j) :: (20, a) :: st) f Q = (0 ≤ a ∧ 0 ≤ j ∧ j < am_len aw_SH a ∧ aw_wp d 152 18 ls ((0, f a j) :: st) f Q) := aw_ald (n := 18) (g := 0) (by decide +kernel)
theorem e152_18 {d : Nat} {ls st : List am_V} {f : am_F} {Q : am_V → am_F → Prop} : aw_wp d 152 18 ls st f Q = aw_wp d 152 22 ls st f Q := aw_goto (n := 21) (t := 22) (by decide +kernel)
theorem e152_21 {d : Nat} {ls st : List am_V} {f : am_F} {Q : am_V → am_F → Prop} : aw_wp d 152 21 ls st f Q = aw_wp d 152 22 ls ((0, (-1)) :: st) f Q := aw_ipush (n := 22) (by decide +kernel)
theorem e152_22 {d : Nat} {ls : List am_V} {f : am_F} {Q : am_V → am_F → Prop} {v : Int} : aw_wp d 152 22 ls [(0, v)] f Q = Q (0, v) f := aw_reti (n := 23) (st := []) (by decide +kernel)
theorem e152 {d : Nat} {f : am_F} {Q : am_V → am_F → Prop} {x0 x1 : Int} : aw_cl d 152 [(109, x0), (0, x1)] f Q = aw_wp d 152 0 [(109, x0), (0, x1)] [] f Q := by
  unfold aw_cl
  rw [show am_ml 152 = 2 by decide +kernel]
  rfl
-- C.seed
theorem e142_0 {d : Nat} {ls st : List am_V} {f : am_F} {Q : am_V → am_F → Prop} : aw_wp d 142 0 ls st f Q = (am_kd 0 (ls.getD 1 (2, 0)) = true ∧ aw_wp d 142 1 ls (ls.getD 1 (2, 0) :: st) f Q) := aw_ld (n := 1) (by decide +kernel)
theorem e142_1 {d : Nat} {ls st : List am_V} {f : am_F} {Q : am_V → am_F → Prop} {a : Int} : aw_wp d 142 1 ls ((0, a) :: st) f Q = (((0 : Int) ≤ a → aw_wp d 142 12 ls st f Q) ∧ (¬ ((0 : Int) ≤ a) → aw_wp d 142 4 ls st f Q)) := aw_ifge (n := 4) (t := 12) (by decide +kernel)
theorem e142_4 {d : Nat} {ls st : List am_V} {f : am_F} {Q : am_V → am_F → Prop} : aw_wp d 142 4 ls st f Q = (am_kd 2 (ls.getD 0 (2, 0)) = true ∧ aw_wp d 142 5 ls (ls.getD 0 (2, 0) :: st) f Q) := aw_ld (n := 5) (by decide +kernel)
theorem e142_5 {d : Nat} {ls st : List am_V} {f : am_F} {Q : am_V → am_F → Prop} : aw_wp d 142 5 ls st f Q = aw_wp d 142 6 ls ((0, 5) :: st) f Q := aw_ipush (n := 6) (by decide +kernel)
theorem e142_6 {d : Nat} {ls st : List am_V} {f : am_F} {Q : am_V → am_F → Prop} {x0 x1 : Int} : aw_wp d 142 6 ls ((0, x1) :: (109, x0) :: st) f Q = (0 ≤ x0 ∧ am_cs st ≤ 8 ∧ 1 ≤ d ∧ aw_cl (d - 1) 11 [(109, x0), (0, x1)] f (fun v f' => aw_wp d 142 9 ls (if v.1 = 3 then st else v :: st) f' Q)) := (aw_inv2 (n := 9) (kd := 1) (m' := 11) [(109, x0), (0, x1)] (by decide +kernel) (show [109, 0] = am_pt 11 by decide +kernel)).trans (by simp)
theorem e142_9 {d : Nat} {ls st : List am_V} {f : am_F} {Q : am_V → am_F → Prop} {t : Nat} {v : Int} (h : ¬ t = 1) : aw_wp d 142 9 ls ((t, v) :: st) f Q = aw_wp d 142 10 ls st f Q := aw_pop (n := 10) (by decide +kernel) h
theorem e142_10 {d : Nat} {ls st : List am_V} {f : am_F} {Q : am_V → am_F → Prop} : aw_wp d 142 10 ls st f Q = aw_wp d 142 11 ls ((0, 0) :: st) f Q := aw_ipush (n := 11) (by decide +kernel)
theorem e142_11 {d : Nat} {ls : List am_V} {f : am_F} {Q : am_V → am_F → Prop} {v : Int} : aw_wp d 142 11 ls [(0, v)] f Q = ((v = 0 ∨ v = 1) ∧ Q (0, v) f) := aw_retz (n := 12) (st := []) (by decide +kernel)
theorem e142_12 {d : Nat} {ls st : List am_V} {f : am_F} {Q : am_V → am_F → Prop} : aw_wp d 142 12 ls st f Q = (am_kd 2 (ls.getD 0 (2, 0)) = true ∧ aw_wp d 142 13 ls (ls.getD 0 (2, 0) :: st) f Q) := aw_ld (n := 13) (by decide +kernel)
theorem e142_13 {d : Nat} {ls st : List am_V} {f : am_F} {Q : am_V → am_F → Prop} : aw_wp d 142 13 ls st f Q = (am_kd 0 (ls.getD 1 (2, 0)) = true ∧ aw_wp d 142 14 ls (ls.getD 1 (2, 0) :: st) f Q) := aw_ld (n := 14) (by decide +kernel)
theorem e142_14 {d : Nat} {ls st : List am_V} {f : am_F} {Q : am_V → am_F → Prop} {a : Int} : aw_wp d 142 14 ls ((0, a) :: st) f Q = aw_wp d 142 15 ls ((1, a) :: st) f Q := aw_i2l (n := 15) (by decide +kernel)
theorem e142_15 {d : Nat} {ls st : List am_V} {f : am_F} {Q : am_V → am_F → Prop} {a v : Int} : aw_wp d 142 15 ls ((1, v) :: (109, a) :: st) f Q = (0 ≤ a ∧ aw_wp d 142 18 ls st (am_up f a 13 v) Q) := by rw [aw_put (n := 18) (k := 13) (g := 1) (b := 0) (by decide +kernel)]; simp
theorem e142_18 {d : Nat} {ls st : List am_V} {f : am_F} {Q : am_V → am_F → Prop} : aw_wp d 142 18 ls st f Q = aw_wp d 142 19 ls ((0, 1) :: st) f Q := aw_ipush (n := 19) (by decide +kernel)
theorem e142_19 {d : Nat} {ls : List am_V} {f : am_F} {Q : am_V → am_F → Prop} {v : Int} : aw_wp d 142 19 ls [(0, v)] f Q = ((v = 0 ∨ v = 1) ∧ Q (0, v) f) := aw_retz (n := 20) (st := []) (by decide +kernel)
theorem e142 {d : Nat} {f : am_F} {Q : am_V → am_F → Prop} {x0 x1 : Int} : aw_cl d 142 [(109, x0), (0, x1)] f Q = aw_wp d 142 0 [(109, x0), (0, x1)] [] f Q := by
  unfold aw_cl
  rw [show am_ml 142 = 2 by decide +kernel]
  rfl
-- C.end
theorem e13_0 {d : Nat} {ls st : List am_V} {f : am_F} {Q : am_V → am_F → Prop} : aw_wp d 13 0 ls st f Q = (am_kd 0 (ls.getD 1 (2, 0)) = true ∧ aw_wp d 13 1 ls (ls.getD 1 (2, 0) :: st) f Q) := aw_ld (n := 1) (by decide +kernel)
theorem e13_1 {d : Nat} {ls st : List am_V} {f : am_F} {Q : am_V → am_F → Prop} {a : Int} : aw_wp d 13 1 ls ((0, a) :: st) f Q = ((a < (0 : Int) → aw_wp d 13 15 ls st f Q) ∧ (¬ (a < (0 : Int)) → aw_wp d 13 4 ls st f Q)) := aw_iflt (n := 4) (t := 15) (by decide +kernel)
theorem e13_4 {d : Nat} {ls st : List am_V} {f : am_F} {Q : am_V → am_F → Prop} : aw_wp d 13 4 ls st f Q = (am_kd 0 (ls.getD 1 (2, 0)) = true ∧ aw_wp d 13 5 ls (ls.getD 1 (2, 0) :: st) f Q) := aw_ld (n := 5) (by decide +kernel)
theorem e13_5 {d : Nat} {ls st : List am_V} {f : am_F} {Q : am_V → am_F → Prop} : aw_wp d 13 5 ls st f Q = (am_kd 2 (ls.getD 0 (2, 0)) = true ∧ aw_wp d 13 6 ls (ls.getD 0 (2, 0) :: st) f Q) := aw_ld (n := 6) (by decide +kernel)
theorem e13_6 {d : Nat} {ls st : List am_V} {f : am_F} {Q : am_V → am_F → Prop} {a : Int} : aw_wp d 13 6 ls ((109, a) :: st) f Q = (0 ≤ a ∧ aw_wp d 13 9 ls ((108, f a 0) :: st) f Q) := aw_get (n := 9) (k := 0) (g := 108) (by decide +kernel)
theorem e13_9 {d : Nat} {ls st : List am_V} {f : am_F} {Q : am_V → am_F → Prop} {a : Int} : aw_wp d 13 9 ls ((108, a) :: st) f Q = (0 ≤ a ∧ aw_wp d 13 12 ls ((0, f a 1) :: st) f Q) := aw_get (n := 12) (k := 1) (g := 0) (by decide +kernel)
theorem e13_12 {d : Nat} {ls st : List am_V} {f : am_F} {Q : am_V → am_F → Prop} {a b : Int} : aw_wp d 13 12 ls ((0, b) :: (0, a) :: st) f Q = ((a ≤ b → aw_wp d 13 23 ls st f Q) ∧ (¬ (a ≤ b) → aw_wp d 13 15 ls st f Q)) := aw_icle (n := 15) (t := 23) (by decide +kernel)
theorem e13_15 {d : Nat} {ls st : List am_V} {f : am_F} {Q : am_V → am_F → Prop} : aw_wp d 13 15 ls st f Q = (am_kd 2 (ls.getD 0 (2, 0)) = true ∧ aw_wp d 13 16 ls (ls.getD 0 (2, 0) :: st) f Q) := aw_ld (n := 16) (by decide +kernel)
theorem e13_16 {d : Nat} {ls st : List am_V} {f : am_F} {Q : am_V → am_F → Prop} : aw_wp d 13 16 ls st f Q = aw_wp d 13 17 ls ((0, 0) :: st) f Q := aw_ipush (n := 17) (by decide +kernel)
theorem e13_17 {d : Nat} {ls st : List am_V} {f : am_F} {Q : am_V → am_F → Prop} {x0 x1 : Int} : aw_wp d 13 17 ls ((0, x1) :: (109, x0) :: st) f Q = (0 ≤ x0 ∧ am_cs st ≤ 8 ∧ 1 ≤ d ∧ aw_cl (d - 1) 11 [(109, x0), (0, x1)] f (fun v f' => aw_wp d 13 20 ls (if v.1 = 3 then st else v :: st) f' Q)) := (aw_inv2 (n := 20) (kd := 1) (m' := 11) [(109, x0), (0, x1)] (by decide +kernel) (show [109, 0] = am_pt 11 by decide +kernel)).trans (by simp)
theorem e13_20 {d : Nat} {ls st : List am_V} {f : am_F} {Q : am_V → am_F → Prop} {t : Nat} {v : Int} (h : ¬ t = 1) : aw_wp d 13 20 ls ((t, v) :: st) f Q = aw_wp d 13 21 ls st f Q := aw_pop (n := 21) (by decide +kernel) h
theorem e13_21 {d : Nat} {ls st : List am_V} {f : am_F} {Q : am_V → am_F → Prop} : aw_wp d 13 21 ls st f Q = aw_wp d 13 22 ls ((0, 0) :: st) f Q := aw_ipush (n := 22) (by decide +kernel)
theorem e13_22 {d : Nat} {ls : List am_V} {f : am_F} {Q : am_V → am_F → Prop} {v : Int} : aw_wp d 13 22 ls [(0, v)] f Q = ((v = 0 ∨ v = 1) ∧ Q (0, v) f) := aw_retz (n := 23) (st := []) (by decide +kernel)
theorem e13_23 {d : Nat} {ls st : List am_V} {f : am_F} {Q : am_V → am_F → Prop} : aw_wp d 13 23 ls st f Q = (am_kd 2 (ls.getD 0 (2, 0)) = true ∧ aw_wp d 13 24 ls (ls.getD 0 (2, 0) :: st) f Q) := aw_ld (n := 24) (by decide +kernel)
theorem e13_24 {d : Nat} {ls st : List am_V} {f : am_F} {Q : am_V → am_F → Prop} {a : Int} : aw_wp d 13 24 ls ((109, a) :: st) f Q = (0 ≤ a ∧ aw_wp d 13 27 ls ((108, f a 0) :: st) f Q) := aw_get (n := 27) (k := 0) (g := 108) (by decide +kernel)
theorem e13_27 {d : Nat} {ls st : List am_V} {f : am_F} {Q : am_V → am_F → Prop} : aw_wp d 13 27 ls st f Q = (am_kd 0 (ls.getD 1 (2, 0)) = true ∧ aw_wp d 13 28 ls (ls.getD 1 (2, 0) :: st) f Q) := aw_ld (n := 28) (by decide +kernel)
theorem e13_28 {d : Nat} {ls st : List am_V} {f : am_F} {Q : am_V → am_F → Prop} {a v : Int} : aw_wp d 13 28 ls ((0, v) :: (108, a) :: st) f Q = (0 ≤ a ∧ aw_wp d 13 31 ls st (am_up f a 1 v) Q) := by rw [aw_put (n := 31) (k := 1) (g := 0) (b := 0) (by decide +kernel)]; simp
theorem e13_31 {d : Nat} {ls st : List am_V} {f : am_F} {Q : am_V → am_F → Prop} : aw_wp d 13 31 ls st f Q = aw_wp d 13 32 ls ((0, 1) :: st) f Q := aw_ipush (n := 32) (by decide +kernel)
theorem e13_32 {d : Nat} {ls : List am_V} {f : am_F} {Q : am_V → am_F → Prop} {v : Int} : aw_wp d 13 32 ls [(0, v)] f Q = ((v = 0 ∨ v = 1) ∧ Q (0, v) f) := aw_retz (n := 33) (st := []) (by decide +kernel)
theorem e13 {d : Nat} {f : am_F} {Q : am_V → am_F → Prop} {x0 x1 : Int} : aw_cl d 13 [(109, x0), (0, x1)] f Q = aw_wp d 13 0 [(109, x0), (0, x1)] [] f Q := by
  unfold aw_cl
  rw [show am_ml 13 = 2 by decide +kernel]
  rfl
-- C.refuse
theorem e11_0 {d : Nat} {ls st : List am_V} {f : am_F} {Q : am_V → am_F → Prop} : aw_wp d 11 0 ls st f Q = (am_kd 2 (ls.getD 0 (2, 0)) = true ∧ aw_wp d 11 1 ls (ls.getD 0 (2, 0) :: st) f Q) := aw_ld (n := 1) (by decide +kernel)
theorem e11_1 {d : Nat} {ls st : List am_V} {f : am_F} {Q : am_V → am_F → Prop} {a : Int} : aw_wp d 11 1 ls ((109, a) :: st) f Q = (0 ≤ a ∧ aw_wp d 11 4 ls ((20, f a 10) :: st) f Q) := aw_get (n := 4) (k := 10) (g := 20) (by decide +kernel)
theorem e11_4 {d : Nat} {ls st : List am_V} {f : am_F} {Q : am_V → am_F → Prop} : aw_wp d 11 4 ls st f Q = (am_kd 0 (ls.getD 1 (2, 0)) = true ∧ aw_wp d 11 5 ls (ls.getD 1 (2, 0) :: st) f Q) := aw_ld (n := 5) (by decide +kernel)
theorem e11_5 {d : Nat} {ls st : List am_V} {f : am_F} {Q : am_V → am_F → Prop} {t u : Nat} {v w : Int} (h : ¬ t = 1) (h2 : ¬ u = 1) : aw_wp d 11 5 ls ((t, v) :: (u, w) :: st) f Q = aw_wp d 11 6 ls ((t, v) :: (u, w) :: (t, v) :: (u, w) :: st) f Q := aw_dup2 (n := 6) (by decide +kernel) h h2
theorem e11_6 {d : Nat} {ls st : List am_V} {f : am_F} {Q : am_V → am_F → Prop} {a j : Int} : aw_wp d 11 6 ls ((0, j) :: (20, a) :: st) f Q = (0 ≤ a ∧ 0 ≤ j ∧ j < am_len aw_SH a ∧ aw_wp d 11 7 ls ((0, f a j) :: st) f Q) := aw_ald (n := 7) (g := 0) (by decide +kernel)
theorem e11_7 {d : Nat} {ls st : List am_V} {f : am_F} {Q : am_V → am_F → Prop} : aw_wp d 11 7 ls st f Q = aw_wp d 11 8 ls ((0, 1) :: st) f Q := aw_ipush (n := 8) (by decide +kernel)
theorem e11_8 {d : Nat} {ls st : List am_V} {f : am_F} {Q : am_V → am_F → Prop} {a b : Int} : aw_wp d 11 8 ls ((0, b) :: (0, a) :: st) f Q = aw_wp d 11 9 ls ((0, am_wI (a + b)) :: st) f Q := aw_ib0 (n := 9) (by decide +kernel)
theorem e11_9 {d : Nat} {ls st : List am_V} {f : am_F} {Q : am_V → am_F → Prop} {a j v : Int} : aw_wp d 11 9 ls ((0, v) :: (0, j) :: (20, a) :: st) f Q = (0 ≤ a ∧ 0 ≤ j ∧ j < am_len aw_SH a ∧ aw_wp d 11 10 ls st (am_up f a j v) Q) := by rw [aw_ast (n := 10) (g := 0) (by decide +kernel)]; simp [am_fitE]
theorem e11_10 {d : Nat} {ls st : List am_V} {f : am_F} {Q : am_V → am_F → Prop} : aw_wp d 11 10 ls st f Q = aw_wp d 11 11 ls ((0, (-1)) :: st) f Q := aw_ipush (n := 11) (by decide +kernel)
theorem e11_11 {d : Nat} {ls : List am_V} {f : am_F} {Q : am_V → am_F → Prop} {v : Int} : aw_wp d 11 11 ls [(0, v)] f Q = Q (0, v) f := aw_reti (n := 12) (st := []) (by decide +kernel)
theorem e11 {d : Nat} {f : am_F} {Q : am_V → am_F → Prop} {x0 x1 : Int} : aw_cl d 11 [(109, x0), (0, x1)] f Q = aw_wp d 11 0 [(109, x0), (0, x1)] [] f Q := by
  unfold aw_cl
  rw [show am_ml 11 = 2 by decide +kernel]
  rfl
-- M.fault
theorem e206_0 {d : Nat} {ls st : List am_V} {f : am_F} {Q : am_V → am_F → Prop} : aw_wp d 206 0 ls st f Q = (am_kd 0 (ls.getD 1 (2, 0)) = true ∧ aw_wp d 206 1 ls (ls.getD 1 (2, 0) :: st) f Q) := aw_ld (n := 1) (by decide +kernel)
theorem e206_1 {d : Nat} {ls st : List am_V} {f : am_F} {Q : am_V → am_F → Prop} {a : Int} : aw_wp d 206 1 ls ((0, a) :: st) f Q = ((¬ a = (0 : Int) → aw_wp d 206 11 ls st f Q) ∧ (¬ (¬ a = (0 : Int)) → aw_wp d 206 4 ls st f Q)) := aw_ifne (n := 4) (t := 11) (by decide +kernel)
theorem e206_4 {d : Nat} {ls st : List am_V} {f : am_F} {Q : am_V → am_F → Prop} : aw_wp d 206 4 ls st f Q = (am_kd 2 (ls.getD 0 (2, 0)) = true ∧ aw_wp d 206 5 ls (ls.getD 0 (2, 0) :: st) f Q) := aw_ld (n := 5) (by decide +kernel)
theorem e206_5 {d : Nat} {ls st : List am_V} {f : am_F} {Q : am_V → am_F → Prop} {a : Int} : aw_wp d 206 5 ls ((110, a) :: st) f Q = (0 ≤ a ∧ aw_wp d 206 8 ls ((0, f a 7) :: st) f Q) := aw_get (n := 8) (k := 7) (g := 0) (by decide +kernel)
theorem e206_8 {d : Nat} {ls st : List am_V} {f : am_F} {Q : am_V → am_F → Prop} : aw_wp d 206 8 ls st f Q = aw_wp d 206 24 ls st f Q := aw_goto (n := 11) (t := 24) (by decide +kernel)
theorem e206_11 {d : Nat} {ls st : List am_V} {f : am_F} {Q : am_V → am_F → Prop} : aw_wp d 206 11 ls st f Q = (am_kd 0 (ls.getD 1 (2, 0)) = true ∧ aw_wp d 206 12 ls (ls.getD 1 (2, 0) :: st) f Q) := aw_ld (n := 12) (by decide +kernel)
theorem e206_12 {d : Nat} {ls st : List am_V} {f : am_F} {Q : am_V → am_F → Prop} : aw_wp d 206 12 ls st f Q = aw_wp d 206 13 ls ((0, 1) :: st) f Q := aw_ipush (n := 13) (by decide +kernel)
theorem e206_13 {d : Nat} {ls st : List am_V} {f : am_F} {Q : am_V → am_F → Prop} {a b : Int} : aw_wp d 206 13 ls ((0, b) :: (0, a) :: st) f Q = ((¬ a = b → aw_wp d 206 23 ls st f Q) ∧ (¬ (¬ a = b) → aw_wp d 206 16 ls st f Q)) := aw_icne (n := 16) (t := 23) (by decide +kernel)
theorem e206_16 {d : Nat} {ls st : List am_V} {f : am_F} {Q : am_V → am_F → Prop} : aw_wp d 206 16 ls st f Q = (am_kd 2 (ls.getD 0 (2, 0)) = true ∧ aw_wp d 206 17 ls (ls.getD 0 (2, 0) :: st) f Q) := aw_ld (n := 17) (by decide +kernel)
theorem e206_17 {d : Nat} {ls st : List am_V} {f : am_F} {Q : am_V → am_F → Prop} {a : Int} : aw_wp d 206 17 ls ((110, a) :: st) f Q = (0 ≤ a ∧ aw_wp d 206 20 ls ((0, f a 8) :: st) f Q) := aw_get (n := 20) (k := 8) (g := 0) (by decide +kernel)
theorem e206_20 {d : Nat} {ls st : List am_V} {f : am_F} {Q : am_V → am_F → Prop} : aw_wp d 206 20 ls st f Q = aw_wp d 206 24 ls st f Q := aw_goto (n := 23) (t := 24) (by decide +kernel)
theorem e206_23 {d : Nat} {ls st : List am_V} {f : am_F} {Q : am_V → am_F → Prop} : aw_wp d 206 23 ls st f Q = aw_wp d 206 24 ls ((0, (-1)) :: st) f Q := aw_ipush (n := 24) (by decide +kernel)
theorem e206_24 {d : Nat} {ls : List am_V} {f : am_F} {Q : am_V → am_F → Prop} {v : Int} : aw_wp d 206 24 ls [(0, v)] f Q = Q (0, v) f := aw_reti (n := 25) (st := []) (by decide +kernel)
theorem e206 {d : Nat} {f : am_F} {Q : am_V → am_F → Prop} {x0 x1 : Int} : aw_cl d 206 [(110, x0), (0, x1)] f Q = aw_wp d 206 0 [(110, x0), (0, x1)] [] f Q := by
  unfold aw_cl
  rw [show am_ml 206 = 2 by decide +kernel]
  rfl
-- M.status
theorem e295_0 {d : Nat} {ls st : List am_V} {f : am_F} {Q : am_V → am_F → Prop} : aw_wp d 295 0 ls st f Q = (am_kd 0 (ls.getD 1 (2, 0)) = true ∧ aw_wp d 295 1 ls (ls.getD 1 (2, 0) :: st) f Q) := aw_ld (n := 1) (by decide +kernel)
theorem e295_1 {d : Nat} {ls st : List am_V} {f : am_F} {Q : am_V → am_F → Prop} {a : Int} : aw_wp d 295 1 ls ((0, a) :: st) f Q = aw_wp d 295 2 ls ((1, a) :: st) f Q := aw_i2l (n := 2) (by decide +kernel)
theorem e295_2 {d : Nat} {ls st : List am_V} {f : am_F} {Q : am_V → am_F → Prop} : aw_wp d 295 2 ls st f Q = aw_wp d 295 3 ls ((1, 0) :: st) f Q := aw_lpush (n := 3) (by decide +kernel)
theorem e295_3 {d : Nat} {ls st : List am_V} {f : am_F} {Q : am_V → am_F → Prop} : aw_wp d 295 3 ls st f Q = aw_wp d 295 6 ls ((1, 5) :: st) f Q := aw_lpush (n := 6) (by decide +kernel)
theorem e295_6 {d : Nat} {ls st : List am_V} {f : am_F} {Q : am_V → am_F → Prop} {x0 x1 x2 : Int} : aw_wp d 295 6 ls ((1, x2) :: (1, x1) :: (1, x0) :: st) f Q = (am_cs st ≤ 8 ∧ 1 ≤ d ∧ aw_cl (d - 1) 176 [(1, x0), (1, x1), (1, x2)] f (fun v f' => aw_wp d 295 9 ls (if v.1 = 3 then st else v :: st) f' Q)) := (aw_inv2 (n := 9) (kd := 0) (m' := 176) [(1, x0), (1, x1), (1, x2)] (by decide +kernel) (show [1, 1, 1] = am_pt 176 by decide +kernel)).trans (by simp)
theorem e295_9 {d : Nat} {ls st : List am_V} {f : am_F} {Q : am_V → am_F → Prop} {a : Int} : aw_wp d 295 9 ls ((0, a) :: st) f Q = ((a = (0 : Int) → aw_wp d 295 21 ls st f Q) ∧ (¬ (a = (0 : Int)) → aw_wp d 295 12 ls st f Q)) := aw_ifeq (n := 12) (t := 21) (by decide +kernel)
theorem e295_12 {d : Nat} {ls st : List am_V} {f : am_F} {Q : am_V → am_F → Prop} : aw_wp d 295 12 ls st f Q = (am_kd 2 (ls.getD 0 (2, 0)) = true ∧ aw_wp d 295 13 ls (ls.getD 0 (2, 0) :: st) f Q) := aw_ld (n := 13) (by decide +kernel)
theorem e295_13 {d : Nat} {ls st : List am_V} {f : am_F} {Q : am_V → am_F → Prop} {a : Int} : aw_wp d 295 13 ls ((110, a) :: st) f Q = (0 ≤ a ∧ aw_wp d 295 16 ls ((20, f a 9) :: st) f Q) := aw_get (n := 16) (k := 9) (g := 20) (by decide +kernel)
theorem e295_16 {d : Nat} {ls st : List am_V} {f : am_F} {Q : am_V → am_F → Prop} : aw_wp d 295 16 ls st f Q = (am_kd 0 (ls.getD 1 (2, 0)) = true ∧ aw_wp d 295 17 ls (ls.getD 1 (2, 0) :: st) f Q) := aw_ld (n := 17) (by decide +kernel)
theorem e295_17 {d : Nat} {ls st : List am_V} {f : am_F} {Q : am_V → am_F → Prop} {a j : Int} : aw_wp d 295 17 ls ((0, j) :: (20, a) :: st) f Q = (0 ≤ a ∧ 0 ≤ j ∧ j < am_len aw_SH a ∧ aw_wp d 295 18 ls ((0, f a j) :: st) f Q) := aw_ald (n := 18) (g := 0) (by decide +kernel)
theorem e295_18 {d : Nat} {ls st : List am_V} {f : am_F} {Q : am_V → am_F → Prop} : aw_wp d 295 18 ls st f Q = aw_wp d 295 22 ls st f Q := aw_goto (n := 21) (t := 22) (by decide +kernel)
theorem e295_21 {d : Nat} {ls st : List am_V} {f : am_F} {Q : am_V → am_F → Prop} : aw_wp d 295 21 ls st f Q = aw_wp d 295 22 ls ((0, (-1)) :: st) f Q := aw_ipush (n := 22) (by decide +kernel)
theorem e295_22 {d : Nat} {ls : List am_V} {f : am_F} {Q : am_V → am_F → Prop} {v : Int} : aw_wp d 295 22 ls [(0, v)] f Q = Q (0, v) f := aw_reti (n := 23) (st := []) (by decide +kernel)
theorem e295 {d : Nat} {f : am_F} {Q : am_V → am_F → Prop} {x0 x1 : Int} : aw_cl d 295 [(110, x0), (0, x1)] f Q = aw_wp d 295 0 [(110, x0), (0, x1)] [] f Q := by
  unfold aw_cl
  rw [show am_ml 295 = 2 by decide +kernel]
  rfl
-- M.octet
theorem e291_0 {d : Nat} {ls st : List am_V} {f : am_F} {Q : am_V → am_F → Prop} : aw_wp d 291 0 ls st f Q = (am_kd 0 (ls.getD 1 (2, 0)) = true ∧ aw_wp d 291 1 ls (ls.getD 1 (2, 0) :: st) f Q) := aw_ld (n := 1) (by decide +kernel)
theorem e291_1 {d : Nat} {ls st : List am_V} {f : am_F} {Q : am_V → am_F → Prop} {a : Int} : aw_wp d 291 1 ls ((0, a) :: st) f Q = ((a < (0 : Int) → aw_wp d 291 21 ls st f Q) ∧ (¬ (a < (0 : Int)) → aw_wp d 291 4 ls st f Q)) := aw_iflt (n := 4) (t := 21) (by decide +kernel)
theorem e291_4 {d : Nat} {ls st : List am_V} {f : am_F} {Q : am_V → am_F → Prop} : aw_wp d 291 4 ls st f Q = (am_kd 0 (ls.getD 1 (2, 0)) = true ∧ aw_wp d 291 5 ls (ls.getD 1 (2, 0) :: st) f Q) := aw_ld (n := 5) (by decide +kernel)
theorem e291_5 {d : Nat} {ls st : List am_V} {f : am_F} {Q : am_V → am_F → Prop} : aw_wp d 291 5 ls st f Q = (am_kd 2 (ls.getD 0 (2, 0)) = true ∧ aw_wp d 291 6 ls (ls.getD 0 (2, 0) :: st) f Q) := aw_ld (n := 6) (by decide +kernel)
theorem e291_6 {d : Nat} {ls st : List am_V} {f : am_F} {Q : am_V → am_F → Prop} {a : Int} : aw_wp d 291 6 ls ((110, a) :: st) f Q = (0 ≤ a ∧ aw_wp d 291 9 ls ((0, f a 102) :: st) f Q) := aw_get (n := 9) (k := 102) (g := 0) (by decide +kernel)
theorem e291_9 {d : Nat} {ls st : List am_V} {f : am_F} {Q : am_V → am_F → Prop} {a b : Int} : aw_wp d 291 9 ls ((0, b) :: (0, a) :: st) f Q = ((b ≤ a → aw_wp d 291 21 ls st f Q) ∧ (¬ (b ≤ a) → aw_wp d 291 12 ls st f Q)) := aw_icge (n := 12) (t := 21) (by decide +kernel)
theorem e291_12 {d : Nat} {ls st : List am_V} {f : am_F} {Q : am_V → am_F → Prop} : aw_wp d 291 12 ls st f Q = (am_kd 2 (ls.getD 0 (2, 0)) = true ∧ aw_wp d 291 13 ls (ls.getD 0 (2, 0) :: st) f Q) := aw_ld (n := 13) (by decide +kernel)
theorem e291_13 {d : Nat} {ls st : List am_V} {f : am_F} {Q : am_V → am_F → Prop} {a : Int} : aw_wp d 291 13 ls ((110, a) :: st) f Q = (0 ≤ a ∧ aw_wp d 291 16 ls ((20, f a 101) :: st) f Q) := aw_get (n := 16) (k := 101) (g := 20) (by decide +kernel)
theorem e291_16 {d : Nat} {ls st : List am_V} {f : am_F} {Q : am_V → am_F → Prop} : aw_wp d 291 16 ls st f Q = (am_kd 0 (ls.getD 1 (2, 0)) = true ∧ aw_wp d 291 17 ls (ls.getD 1 (2, 0) :: st) f Q) := aw_ld (n := 17) (by decide +kernel)
theorem e291_17 {d : Nat} {ls st : List am_V} {f : am_F} {Q : am_V → am_F → Prop} {a j : Int} : aw_wp d 291 17 ls ((0, j) :: (20, a) :: st) f Q = (0 ≤ a ∧ 0 ≤ j ∧ j < am_len aw_SH a ∧ aw_wp d 291 18 ls ((0, f a j) :: st) f Q) := aw_ald (n := 18) (g := 0) (by decide +kernel)
theorem e291_18 {d : Nat} {ls st : List am_V} {f : am_F} {Q : am_V → am_F → Prop} : aw_wp d 291 18 ls st f Q = aw_wp d 291 22 ls st f Q := aw_goto (n := 21) (t := 22) (by decide +kernel)
theorem e291_21 {d : Nat} {ls st : List am_V} {f : am_F} {Q : am_V → am_F → Prop} : aw_wp d 291 21 ls st f Q = aw_wp d 291 22 ls ((0, (-1)) :: st) f Q := aw_ipush (n := 22) (by decide +kernel)
theorem e291_22 {d : Nat} {ls : List am_V} {f : am_F} {Q : am_V → am_F → Prop} {v : Int} : aw_wp d 291 22 ls [(0, v)] f Q = Q (0, v) f := aw_reti (n := 23) (st := []) (by decide +kernel)
theorem e291 {d : Nat} {f : am_F} {Q : am_V → am_F → Prop} {x0 x1 : Int} : aw_cl d 291 [(110, x0), (0, x1)] f Q = aw_wp d 291 0 [(110, x0), (0, x1)] [] f Q := by
  unfold aw_cl
  rw [show am_ml 291 = 2 by decide +kernel]
  rfl
-- M.seed
theorem e280_0 {d : Nat} {ls st : List am_V} {f : am_F} {Q : am_V → am_F → Prop} : aw_wp d 280 0 ls st f Q = (am_kd 0 (ls.getD 1 (2, 0)) = true ∧ aw_wp d 280 1 ls (ls.getD 1 (2, 0) :: st) f Q) := aw_ld (n := 1) (by decide +kernel)
theorem e280_1 {d : Nat} {ls st : List am_V} {f : am_F} {Q : am_V → am_F → Prop} {a : Int} : aw_wp d 280 1 ls ((0, a) :: st) f Q = (((0 : Int) ≤ a → aw_wp d 280 16 ls st f Q) ∧ (¬ ((0 : Int) ≤ a) → aw_wp d 280 4 ls st f Q)) := aw_ifge (n := 4) (t := 16) (by decide +kernel)
theorem e280_4 {d : Nat} {ls st : List am_V} {f : am_F} {Q : am_V → am_F → Prop} : aw_wp d 280 4 ls st f Q = (am_kd 2 (ls.getD 0 (2, 0)) = true ∧ aw_wp d 280 5 ls (ls.getD 0 (2, 0) :: st) f Q) := aw_ld (n := 5) (by decide +kernel)
theorem e280_5 {d : Nat} {ls st : List am_V} {f : am_F} {Q : am_V → am_F → Prop} {a : Int} : aw_wp d 280 5 ls ((110, a) :: st) f Q = (0 ≤ a ∧ aw_wp d 280 8 ls ((20, f a 9) :: st) f Q) := aw_get (n := 8) (k := 9) (g := 20) (by decide +kernel)
theorem e280_8 {d : Nat} {ls st : List am_V} {f : am_F} {Q : am_V → am_F → Prop} : aw_wp d 280 8 ls st f Q = aw_wp d 280 9 ls ((0, 5) :: st) f Q := aw_ipush (n := 9) (by decide +kernel)
theorem e280_9 {d : Nat} {ls st : List am_V} {f : am_F} {Q : am_V → am_F → Prop} {t u : Nat} {v w : Int} (h : ¬ t = 1) (h2 : ¬ u = 1) : aw_wp d 280 9 ls ((t, v) :: (u, w) :: st) f Q = aw_wp d 280 10 ls ((t, v) :: (u, w) :: (t, v) :: (u, w) :: st) f Q := aw_dup2 (n := 10) (by decide +kernel) h h2
theorem e280_10 {d : Nat} {ls st : List am_V} {f : am_F} {Q : am_V → am_F → Prop} {a j : Int} : aw_wp d 280 10 ls ((0, j) :: (20, a) :: st) f Q = (0 ≤ a ∧ 0 ≤ j ∧ j < am_len aw_SH a ∧ aw_wp d 280 11 ls ((0, f a j) :: st) f Q) := aw_ald (n := 11) (g := 0) (by decide +kernel)
theorem e280_11 {d : Nat} {ls st : List am_V} {f : am_F} {Q : am_V → am_F → Prop} : aw_wp d 280 11 ls st f Q = aw_wp d 280 12 ls ((0, 1) :: st) f Q := aw_ipush (n := 12) (by decide +kernel)
theorem e280_12 {d : Nat} {ls st : List am_V} {f : am_F} {Q : am_V → am_F → Prop} {a b : Int} : aw_wp d 280 12 ls ((0, b) :: (0, a) :: st) f Q = aw_wp d 280 13 ls ((0, am_wI (a + b)) :: st) f Q := aw_ib0 (n := 13) (by decide +kernel)
theorem e280_13 {d : Nat} {ls st : List am_V} {f : am_F} {Q : am_V → am_F → Prop} {a j v : Int} : aw_wp d 280 13 ls ((0, v) :: (0, j) :: (20, a) :: st) f Q = (0 ≤ a ∧ 0 ≤ j ∧ j < am_len aw_SH a ∧ aw_wp d 280 14 ls st (am_up f a j v) Q) := by rw [aw_ast (n := 14) (g := 0) (by decide +kernel)]; simp [am_fitE]
theorem e280_14 {d : Nat} {ls st : List am_V} {f : am_F} {Q : am_V → am_F → Prop} : aw_wp d 280 14 ls st f Q = aw_wp d 280 15 ls ((0, 0) :: st) f Q := aw_ipush (n := 15) (by decide +kernel)
theorem e280_15 {d : Nat} {ls : List am_V} {f : am_F} {Q : am_V → am_F → Prop} {v : Int} : aw_wp d 280 15 ls [(0, v)] f Q = ((v = 0 ∨ v = 1) ∧ Q (0, v) f) := aw_retz (n := 16) (st := []) (by decide +kernel)
theorem e280_16 {d : Nat} {ls st : List am_V} {f : am_F} {Q : am_V → am_F → Prop} : aw_wp d 280 16 ls st f Q = (am_kd 2 (ls.getD 0 (2, 0)) = true ∧ aw_wp d 280 17 ls (ls.getD 0 (2, 0) :: st) f Q) := aw_ld (n := 17) (by decide +kernel)
theorem e280_17 {d : Nat} {ls st : List am_V} {f : am_F} {Q : am_V → am_F → Prop} : aw_wp d 280 17 ls st f Q = (am_kd 0 (ls.getD 1 (2, 0)) = true ∧ aw_wp d 280 18 ls (ls.getD 1 (2, 0) :: st) f Q) := aw_ld (n := 18) (by decide +kernel)
theorem e280_18 {d : Nat} {ls st : List am_V} {f : am_F} {Q : am_V → am_F → Prop} {a : Int} : aw_wp d 280 18 ls ((0, a) :: st) f Q = aw_wp d 280 19 ls ((1, a) :: st) f Q := aw_i2l (n := 19) (by decide +kernel)
theorem e280_19 {d : Nat} {ls st : List am_V} {f : am_F} {Q : am_V → am_F → Prop} {a v : Int} : aw_wp d 280 19 ls ((1, v) :: (110, a) :: st) f Q = (0 ≤ a ∧ aw_wp d 280 22 ls st (am_up f a 67 v) Q) := by rw [aw_put (n := 22) (k := 67) (g := 1) (b := 0) (by decide +kernel)]; simp
theorem e280_22 {d : Nat} {ls st : List am_V} {f : am_F} {Q : am_V → am_F → Prop} : aw_wp d 280 22 ls st f Q = aw_wp d 280 23 ls ((0, 1) :: st) f Q := aw_ipush (n := 23) (by decide +kernel)
theorem e280_23 {d : Nat} {ls : List am_V} {f : am_F} {Q : am_V → am_F → Prop} {v : Int} : aw_wp d 280 23 ls [(0, v)] f Q = ((v = 0 ∨ v = 1) ∧ Q (0, v) f) := aw_retz (n := 24) (st := []) (by decide +kernel)
theorem e280 {d : Nat} {f : am_F} {Q : am_V → am_F → Prop} {x0 x1 : Int} : aw_cl d 280 [(110, x0), (0, x1)] f Q = aw_wp d 280 0 [(110, x0), (0, x1)] [] f Q := by
  unfold aw_cl
  rw [show am_ml 280 = 2 by decide +kernel]
  rfl
-- M.end
theorem e160_0 {d : Nat} {ls st : List am_V} {f : am_F} {Q : am_V → am_F → Prop} : aw_wp d 160 0 ls st f Q = (am_kd 0 (ls.getD 1 (2, 0)) = true ∧ aw_wp d 160 1 ls (ls.getD 1 (2, 0) :: st) f Q) := aw_ld (n := 1) (by decide +kernel)
theorem e160_1 {d : Nat} {ls st : List am_V} {f : am_F} {Q : am_V → am_F → Prop} {a : Int} : aw_wp d 160 1 ls ((0, a) :: st) f Q = ((a < (0 : Int) → aw_wp d 160 12 ls st f Q) ∧ (¬ (a < (0 : Int)) → aw_wp d 160 4 ls st f Q)) := aw_iflt (n := 4) (t := 12) (by decide +kernel)
theorem e160_4 {d : Nat} {ls st : List am_V} {f : am_F} {Q : am_V → am_F → Prop} : aw_wp d 160 4 ls st f Q = (am_kd 0 (ls.getD 1 (2, 0)) = true ∧ aw_wp d 160 5 ls (ls.getD 1 (2, 0) :: st) f Q) := aw_ld (n := 5) (by decide +kernel)
theorem e160_5 {d : Nat} {ls st : List am_V} {f : am_F} {Q : am_V → am_F → Prop} : aw_wp d 160 5 ls st f Q = (am_kd 2 (ls.getD 0 (2, 0)) = true ∧ aw_wp d 160 6 ls (ls.getD 0 (2, 0) :: st) f Q) := aw_ld (n := 6) (by decide +kernel)
theorem e160_6 {d : Nat} {ls st : List am_V} {f : am_F} {Q : am_V → am_F → Prop} {a : Int} : aw_wp d 160 6 ls ((110, a) :: st) f Q = (0 ≤ a ∧ aw_wp d 160 9 ls ((0, f a 1) :: st) f Q) := aw_get (n := 9) (k := 1) (g := 0) (by decide +kernel)
theorem e160_9 {d : Nat} {ls st : List am_V} {f : am_F} {Q : am_V → am_F → Prop} {a b : Int} : aw_wp d 160 9 ls ((0, b) :: (0, a) :: st) f Q = ((a ≤ b → aw_wp d 160 24 ls st f Q) ∧ (¬ (a ≤ b) → aw_wp d 160 12 ls st f Q)) := aw_icle (n := 12) (t := 24) (by decide +kernel)
theorem e160_12 {d : Nat} {ls st : List am_V} {f : am_F} {Q : am_V → am_F → Prop} : aw_wp d 160 12 ls st f Q = (am_kd 2 (ls.getD 0 (2, 0)) = true ∧ aw_wp d 160 13 ls (ls.getD 0 (2, 0) :: st) f Q) := aw_ld (n := 13) (by decide +kernel)
theorem e160_13 {d : Nat} {ls st : List am_V} {f : am_F} {Q : am_V → am_F → Prop} {a : Int} : aw_wp d 160 13 ls ((110, a) :: st) f Q = (0 ≤ a ∧ aw_wp d 160 16 ls ((20, f a 9) :: st) f Q) := aw_get (n := 16) (k := 9) (g := 20) (by decide +kernel)
theorem e160_16 {d : Nat} {ls st : List am_V} {f : am_F} {Q : am_V → am_F → Prop} : aw_wp d 160 16 ls st f Q = aw_wp d 160 17 ls ((0, 0) :: st) f Q := aw_ipush (n := 17) (by decide +kernel)
theorem e160_17 {d : Nat} {ls st : List am_V} {f : am_F} {Q : am_V → am_F → Prop} {t u : Nat} {v w : Int} (h : ¬ t = 1) (h2 : ¬ u = 1) : aw_wp d 160 17 ls ((t, v) :: (u, w) :: st) f Q = aw_wp d 160 18 ls ((t, v) :: (u, w) :: (t, v) :: (u, w) :: st) f Q := aw_dup2 (n := 18) (by decide +kernel) h h2
theorem e160_18 {d : Nat} {ls st : List am_V} {f : am_F} {Q : am_V → am_F → Prop} {a j : Int} : aw_wp d 160 18 ls ((0, j) :: (20, a) :: st) f Q = (0 ≤ a ∧ 0 ≤ j ∧ j < am_len aw_SH a ∧ aw_wp d 160 19 ls ((0, f a j) :: st) f Q) := aw_ald (n := 19) (g := 0) (by decide +kernel)
theorem e160_19 {d : Nat} {ls st : List am_V} {f : am_F} {Q : am_V → am_F → Prop} : aw_wp d 160 19 ls st f Q = aw_wp d 160 20 ls ((0, 1) :: st) f Q := aw_ipush (n := 20) (by decide +kernel)
theorem e160_20 {d : Nat} {ls st : List am_V} {f : am_F} {Q : am_V → am_F → Prop} {a b : Int} : aw_wp d 160 20 ls ((0, b) :: (0, a) :: st) f Q = aw_wp d 160 21 ls ((0, am_wI (a + b)) :: st) f Q := aw_ib0 (n := 21) (by decide +kernel)
theorem e160_21 {d : Nat} {ls st : List am_V} {f : am_F} {Q : am_V → am_F → Prop} {a j v : Int} : aw_wp d 160 21 ls ((0, v) :: (0, j) :: (20, a) :: st) f Q = (0 ≤ a ∧ 0 ≤ j ∧ j < am_len aw_SH a ∧ aw_wp d 160 22 ls st (am_up f a j v) Q) := by rw [aw_ast (n := 22) (g := 0) (by decide +kernel)]; simp [am_fitE]
theorem e160_22 {d : Nat} {ls st : List am_V} {f : am_F} {Q : am_V → am_F → Prop} : aw_wp d 160 22 ls st f Q = aw_wp d 160 23 ls ((0, 0) :: st) f Q := aw_ipush (n := 23) (by decide +kernel)
theorem e160_23 {d : Nat} {ls : List am_V} {f : am_F} {Q : am_V → am_F → Prop} {v : Int} : aw_wp d 160 23 ls [(0, v)] f Q = ((v = 0 ∨ v = 1) ∧ Q (0, v) f) := aw_retz (n := 24) (st := []) (by decide +kernel)
theorem e160_24 {d : Nat} {ls st : List am_V} {f : am_F} {Q : am_V → am_F → Prop} : aw_wp d 160 24 ls st f Q = (am_kd 2 (ls.getD 0 (2, 0)) = true ∧ aw_wp d 160 25 ls (ls.getD 0 (2, 0) :: st) f Q) := aw_ld (n := 25) (by decide +kernel)
theorem e160_25 {d : Nat} {ls st : List am_V} {f : am_F} {Q : am_V → am_F → Prop} : aw_wp d 160 25 ls st f Q = (am_kd 0 (ls.getD 1 (2, 0)) = true ∧ aw_wp d 160 26 ls (ls.getD 1 (2, 0) :: st) f Q) := aw_ld (n := 26) (by decide +kernel)
theorem e160_26 {d : Nat} {ls st : List am_V} {f : am_F} {Q : am_V → am_F → Prop} {a v : Int} : aw_wp d 160 26 ls ((0, v) :: (110, a) :: st) f Q = (0 ≤ a ∧ aw_wp d 160 29 ls st (am_up f a 1 v) Q) := by rw [aw_put (n := 29) (k := 1) (g := 0) (b := 0) (by decide +kernel)]; simp
theorem e160_29 {d : Nat} {ls st : List am_V} {f : am_F} {Q : am_V → am_F → Prop} : aw_wp d 160 29 ls st f Q = aw_wp d 160 30 ls ((0, 1) :: st) f Q := aw_ipush (n := 30) (by decide +kernel)
theorem e160_30 {d : Nat} {ls : List am_V} {f : am_F} {Q : am_V → am_F → Prop} {v : Int} : aw_wp d 160 30 ls [(0, v)] f Q = ((v = 0 ∨ v = 1) ∧ Q (0, v) f) := aw_retz (n := 31) (st := []) (by decide +kernel)
theorem e160 {d : Nat} {f : am_F} {Q : am_V → am_F → Prop} {x0 x1 : Int} : aw_cl d 160 [(110, x0), (0, x1)] f Q = aw_wp d 160 0 [(110, x0), (0, x1)] [] f Q := by
  unfold aw_cl
  rw [show am_ml 160 = 2 by decide +kernel]
  rfl
-- M.isIn
theorem e176_0 {d : Nat} {ls st : List am_V} {f : am_F} {Q : am_V → am_F → Prop} : aw_wp d 176 0 ls st f Q = (am_kd 1 (ls.getD 0 (2, 0)) = true ∧ aw_wp d 176 1 ls (ls.getD 0 (2, 0) :: st) f Q) := aw_ld (n := 1) (by decide +kernel)
theorem e176_1 {d : Nat} {ls st : List am_V} {f : am_F} {Q : am_V → am_F → Prop} : aw_wp d 176 1 ls st f Q = (am_kd 1 (ls.getD 2 (2, 0)) = true ∧ aw_wp d 176 2 ls (ls.getD 2 (2, 0) :: st) f Q) := aw_ld (n := 2) (by decide +kernel)
theorem e176_2 {d : Nat} {ls st : List am_V} {f : am_F} {Q : am_V → am_F → Prop} {a b : Int} : aw_wp d 176 2 ls ((1, b) :: (1, a) :: st) f Q = aw_wp d 176 3 ls ((0, am_lc a b) :: st) f Q := aw_lcmp (n := 3) (by decide +kernel)
theorem e176_3 {d : Nat} {ls st : List am_V} {f : am_F} {Q : am_V → am_F → Prop} {a : Int} : aw_wp d 176 3 ls ((0, a) :: st) f Q = ((a < (0 : Int) → aw_wp d 176 17 ls st f Q) ∧ (¬ (a < (0 : Int)) → aw_wp d 176 6 ls st f Q)) := aw_iflt (n := 6) (t := 17) (by decide +kernel)
theorem e176_6 {d : Nat} {ls st : List am_V} {f : am_F} {Q : am_V → am_F → Prop} : aw_wp d 176 6 ls st f Q = (am_kd 1 (ls.getD 0 (2, 0)) = true ∧ aw_wp d 176 7 ls (ls.getD 0 (2, 0) :: st) f Q) := aw_ld (n := 7) (by decide +kernel)
theorem e176_7 {d : Nat} {ls st : List am_V} {f : am_F} {Q : am_V → am_F → Prop} : aw_wp d 176 7 ls st f Q = (am_kd 1 (ls.getD 4 (2, 0)) = true ∧ aw_wp d 176 9 ls (ls.getD 4 (2, 0) :: st) f Q) := aw_ld (n := 9) (by decide +kernel)
theorem e176_9 {d : Nat} {ls st : List am_V} {f : am_F} {Q : am_V → am_F → Prop} {a b : Int} : aw_wp d 176 9 ls ((1, b) :: (1, a) :: st) f Q = aw_wp d 176 10 ls ((0, am_lc a b) :: st) f Q := aw_lcmp (n := 10) (by decide +kernel)
theorem e176_10 {d : Nat} {ls st : List am_V} {f : am_F} {Q : am_V → am_F → Prop} {a : Int} : aw_wp d 176 10 ls ((0, a) :: st) f Q = (((0 : Int) < a → aw_wp d 176 17 ls st f Q) ∧ (¬ ((0 : Int) < a) → aw_wp d 176 13 ls st f Q)) := aw_ifgt (n := 13) (t := 17) (by decide +kernel)
theorem e176_13 {d : Nat} {ls st : List am_V} {f : am_F} {Q : am_V → am_F → Prop} : aw_wp d 176 13 ls st f Q = aw_wp d 176 14 ls ((0, 1) :: st) f Q := aw_ipush (n := 14) (by decide +kernel)
theorem e176_14 {d : Nat} {ls st : List am_V} {f : am_F} {Q : am_V → am_F → Prop} : aw_wp d 176 14 ls st f Q = aw_wp d 176 18 ls st f Q := aw_goto (n := 17) (t := 18) (by decide +kernel)
theorem e176_17 {d : Nat} {ls st : List am_V} {f : am_F} {Q : am_V → am_F → Prop} : aw_wp d 176 17 ls st f Q = aw_wp d 176 18 ls ((0, 0) :: st) f Q := aw_ipush (n := 18) (by decide +kernel)
theorem e176_18 {d : Nat} {ls : List am_V} {f : am_F} {Q : am_V → am_F → Prop} {v : Int} : aw_wp d 176 18 ls [(0, v)] f Q = ((v = 0 ∨ v = 1) ∧ Q (0, v) f) := aw_retz (n := 19) (st := []) (by decide +kernel)
theorem e176 {d : Nat} {f : am_F} {Q : am_V → am_F → Prop} {x0 x1 x2 : Int} : aw_cl d 176 [(1, x0), (1, x1), (1, x2)] f Q = aw_wp d 176 0 [(1, x0), (2, 0), (1, x1), (2, 0), (1, x2), (2, 0)] [] f Q := by
  unfold aw_cl
  rw [show am_ml 176 = 6 by decide +kernel]
  rfl
