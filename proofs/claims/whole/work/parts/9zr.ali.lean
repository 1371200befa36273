/-! the beginning keeps the relation -/
theorem IV_0 {F : am_F} (hc : r2c F = true) (t1 : ∀ j, F 271 j = 0 ∧ F 15 j = 0) (t2 : ∀ j, F 272 j = F 269 j) : IV F := by
  unfold r2c at hc
  simp only [Bool.and_eq_true, decide_eq_true_eq, beq_iff_eq, List.all_cons, List.all_nil, and_true] at hc
  obtain ⟨⟨⟨⟨⟨⟨⟨⟨⟨⟨⟨a1, a2⟩, ⟨v1, v2, v3, v4, v5, v6, v7, v8, v9, v10, v11, v12, v13, v14, v15, v16, v17, v18, v19, v20, v21, v22, v23, v24, v25, v26, v27⟩⟩, b1⟩, b2⟩, b3⟩, b4⟩, b5⟩, b6⟩, b7⟩, b8⟩, b9⟩ := hc
  have hx : aw_fx F := fun q hq => by simpa using List.all_eq_true.mp a1 q hq
  have hw : aw_wd F := fun q hq => by simpa using List.all_eq_true.mp a2 q hq
  have cf := c_fx hx
  have tw : TW 0 0 0 (fun _ _ => 0) dfl := by
    refine ⟨by omega, by omega, by omega, ?_, ?_, ?_, by decide, by decide⟩
    · intro w w0 w1
      obtain ⟨_, _, b, hb, hty⟩ := ty_dfl w0 (show w < 5 by omega)
      exact ⟨b, hb, hty⟩
    · intro t t0 t1; omega
    · intro t t0 t1; omega
  have oz : OZ 0 (fun _ _ => 0) := ⟨by decide, fun t t0 t1 => by omega⟩
  refine ⟨0, 0, 0, fun _ _ => 0, dfl, fun _ => false, fun _ _ => 0, 1, fun _ _ _ => 0, ⟨hx, hw, Or.inl rfl, v2, v3, v4⟩, ⟨⟨by simp [cf], ⟨fxL hx (Or.inl rfl), by omega, ⟨v5, v6, v7, v8⟩, ?_, ?_, ?_⟩, ⟨fx46 hx, by omega, v1, v9, ?_⟩, tw, oz⟩, v10, by decide, ?_⟩, ⟨⟨⟨⟨fx_270_0 hx, fx_270_9 hx, fx_270_39 hx, fx_270_40 hx, fx_270_41 hx, fx_270_42 hx, fx_270_45 hx, fx_270_46 hx, fx_270_47 hx, fx_270_51 hx, fx_270_52 hx, fx_270_56 hx, fx_270_59 hx, fx_270_60 hx, fx_270_61 hx, fx_270_62 hx, fx_270_63 hx, fx_270_64 hx, fx_270_91 hx, fx_270_93 hx, fx_270_97 hx, fx_270_101 hx⟩, ⟨v11, v12, v13, v14⟩, ?_, ?_, ?_⟩, ⟨v20, ?_, ?_⟩, tw, oz⟩, v21, by decide, ?_⟩, ⟨by rw [v22, v23], by rw [v23]; omega, fun j => ?_⟩, t2, ⟨by rw [v24, v25], by rw [v25]; omega, fun j j0 j1 => ?_⟩, ⟨⟨b1, b2⟩, b3, b4, b5⟩, ⟨?_, ?_, ?_⟩, by rw [v26, v27], ⟨by rw [v27]; omega, ⟨b6, b7⟩, fun i i0 i1 => ?_⟩, by rw [v26]; omega, ⟨b8, b9⟩, fun i i0 i1 => ?_⟩
  all_goals (first
    | (intro t t0 t1; omega)
    | (intro w w0 w1 q; omega)
    | (intro i t _ _ t0 t1; omega)
    | (intro i t _ _ t0 t1; have t1 : t < 0 := t1; omega)
    | (rw [(t1 j).1, (t1 j).2]; omega)
    | (rw [v25] at j1; omega)
    | (rw [v27] at i1; omega)
    | (rw [v26] at i1; omega)
    | skip)
  · intro w w0 w1
    right
    refine ⟨rfl, by omega, ?_, rfl⟩
    rcases (show w = 0 ∨ w = 1 ∨ w = 2 ∨ w = 3 ∨ w = 4 by omega) with e | e | e | e | e <;> subst e
    · exact v15
    · exact v16
    · exact v17
    · exact v18
    · exact v19
