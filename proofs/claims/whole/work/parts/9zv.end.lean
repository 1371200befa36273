/-! the claim: the constructors set the relation up, the calls keep it -/
theorem cn_k1 (ls : List am_V) : cn_k (0, ls, [], [(109, 16)], [(1, 0, 109, 0)]) = (0, ls, [], am_new ([], fun _ _ => 0) 109 16) := by
  first
  | rfl
  | (unfold cn_k cn_s; simp [cn_d, am_new]; done)
theorem cn_k2 (ls : List am_V) (h : am_H) (m : List cn_N) (k : Nat) (e : k = h.length) : cn_k (0, ls, [], h ++ [(110, 103)], (1, k, 110, 0) :: m) = (0, ls, [], am_new (h, cn_d m) 110 103) := by
  subst e
  first
  | rfl
  | (unfold cn_k cn_s; simp [cn_d, am_new]; done)
theorem cn_s_e (h : am_H) (m : List cn_N) : cn_s (h, m) = (h, cn_d m) := rfl
theorem cn_R1 : am_run 2000 100 0 (0, am_en (am_ml 0) [(109, 0)], [], am_new ([], fun _ _ => 0) 109 16) = some ((3, 0), aw_SH.take 270, cn_d cn_m1) := by
  have e := cn_run_e 2000 100 0 _ _ _ (cn_D_e cn_1)
  rw [cn_k1, cn_s_e] at e
  exact e
theorem cn_R2 : am_run ((am_C[158]?).getD []).length 100 158 (0, am_en (am_ml 158) [(110, 270)], [], am_new (aw_SH.take 270, cn_d cn_m1) 110 103) = some ((3, 0), aw_SH, cn_d cn_mm) := by
  have e := cn_sl_e 100 158 _ [] 0 _ _ _ (List.nil_append _).symm (fun p hp => absurd hp List.not_mem_nil) cn_3 (cn_D_e cn_2)
  rw [cn_k2 _ _ _ 270 al_ln.1.symm, cn_s_e] at e
  exact e
theorem cn_z {a : Nat} (h : cn_r cn_mm a = true) {c : Int} (hc : c = (a : Int)) (j : Int) : cn_d cn_mm c j = 0 := by
  rw [hc]
  exact cn_r_e cn_mm a h j
theorem cn_IV : IV (cn_d cn_mm) := by
  have a0 : ∀ j : Int, cn_d cn_mm 271 j = 0 := fun j => cn_z (c := 271) cn_r0 rfl j
  have a1 : ∀ j : Int, cn_d cn_mm 15 j = 0 := fun j => cn_z (c := 15) cn_r1 rfl j
  have a2 : ∀ j : Int, cn_d cn_mm 269 j = 0 := fun j => cn_z (c := 269) cn_r2 rfl j
  have a3 : ∀ j : Int, cn_d cn_mm 272 j = 0 := fun j => cn_z (c := 272) cn_r3 rfl j
  have a4 : r2c (cn_d cn_mm) = true := by
    rw [← cn_f_e cn_mm]
    exact cn_4
  exact IV_0 (F := cn_d cn_mm) a4 (fun j => ⟨a0 j, a1 j⟩) (fun j => (a3 j).trans (a2 j).symm)
theorem al_IIV : al_I IV := by
  unfold al_I
  exact ⟨2000, ((am_C[158]?).getD []).length, cn_d cn_m1, cn_d cn_mm, cn_R1, cn_R2, cn_IV⟩
theorem whole_start {p : Program} {e : Env} {s : State} {m : MethodId} {below : List Frame} {meth : Method} {c : Code} (l : Launch) {b L : Nat} {xs : Nat → Int32} (hL : L ≤ 3072) (C0 : lw_At p s m meth c b L xs) : W p l e room_1 s m #[Value.ref b] below meth c s.heap [] 0 0 (lw_Z below #[Value.ref b] s) (entryFrame m ([Value.ref b] : List Value).toArray 4) :=
  al_start al_HIV al_IIV l hL C0
