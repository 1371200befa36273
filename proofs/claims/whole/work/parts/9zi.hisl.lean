/-! island, both sides -/
section
variable {d n m r : Nat} {f L z : am_F} {ρ : Int → List Int} {τ : Int → Bool} {l : Int} {Z : Int → am_F} {B : Int → Int} {N : Int} {Q : am_V → am_F → Prop} {I : IS}
theorem dI_1 {v : Int} : (dI I v).1 = I.1 ∧ (dI I v).2.1 = I.2.1 ∧ (dI I v).2.2.2.2 = I.2.2.2.2 := by
  unfold dI
  split <;> exact ⟨rfl, rfl, rfl⟩
theorem dI_n {v w : Int} (h : ¬ w = v) : (dI I v).2.2.2.1 w = I.2.2.2.1 w ∧ (dI I v).2.2.1 w = I.2.2.1 w := by
  unfold dI
  split
  · exact ⟨rfl, rfl⟩
  · exact ⟨u1_n h, u1_n h⟩
theorem dI_t {v w : Int} (h : I.2.2.2.1 w = true) : (dI I v).2.2.2.1 w = true ∧ (dI I v).2.2.1 w = I.2.2.1 w := by
  by_cases q : w = v
  · subst q
    unfold dI
    rw [if_pos h]
    exact ⟨h, rfl⟩
  · rw [(dI_n q).1, (dI_n q).2]
    exact ⟨h, rfl⟩
theorem dI_f {v : Int} (h : ¬ I.2.2.2.1 v = true) : (dI I v).2.2.2.1 v = true ∧ (dI I v).2.2.1 v = dfl v := by
  unfold dI
  rw [if_neg h]
  exact ⟨u1_e, u1_e⟩
def dJ (I : IS) : IS := dI (dI (dI (dI (dI I 0) 1) 2) 3) 4
theorem dJ_1 : (dJ I).1 = I.1 ∧ (dJ I).2.1 = I.2.1 ∧ (dJ I).2.2.2.2 = I.2.2.2.2 := by
  unfold dJ
  simp only [dI_1, and_self]
theorem dJ_t {w : Int} (h : I.2.2.2.1 w = true) : (dJ I).2.2.2.1 w = true ∧ (dJ I).2.2.1 w = I.2.2.1 w := by
  have a := dI_t (v := 0) h
  have b := dI_t (v := 1) a.1
  have c := dI_t (v := 2) b.1
  have e := dI_t (v := 3) c.1
  have g := dI_t (v := 4) e.1
  exact ⟨g.1, by unfold dJ; rw [g.2, e.2, c.2, b.2, a.2]⟩
theorem dJ_f {w : Int} (w0 : 0 ≤ w) (w5 : w < 5) (h : ¬ I.2.2.2.1 w = true) : (dJ I).2.2.2.1 w = true ∧ (dJ I).2.2.1 w = dfl w := by
  unfold dJ
  rcases (show w = 0 ∨ w = 1 ∨ w = 2 ∨ w = 3 ∨ w = 4 by omega) with q | q | q | q | q <;> subst q
  · have a := dI_f h
    have b := dI_t (v := 1) a.1
    have c := dI_t (v := 2) b.1
    have e := dI_t (v := 3) c.1
    have g := dI_t (v := 4) e.1
    exact ⟨g.1, by rw [g.2, e.2, c.2, b.2, a.2]⟩
  · have a := dI_f (I := dI I 0) (v := 1) (by rw [(dI_n (by omega)).1]; exact h)
    have c := dI_t (v := 2) a.1
    have e := dI_t (v := 3) c.1
    have g := dI_t (v := 4) e.1
    exact ⟨g.1, by rw [g.2, e.2, c.2, a.2]⟩
  · have a := dI_f (I := dI (dI I 0) 1) (v := 2) (by rw [(dI_n (by omega)).1, (dI_n (by omega)).1]; exact h)
    have e := dI_t (v := 3) a.1
    have g := dI_t (v := 4) e.1
    exact ⟨g.1, by rw [g.2, e.2, a.2]⟩
  · have a := dI_f (I := dI (dI (dI I 0) 1) 2) (v := 3) (by rw [(dI_n (by omega)).1, (dI_n (by omega)).1, (dI_n (by omega)).1]; exact h)
    have g := dI_t (v := 4) a.1
    exact ⟨g.1, by rw [g.2, a.2]⟩
  · have a := dI_f (I := dI (dI (dI (dI I 0) 1) 2) 3) (v := 4) (by rw [(dI_n (by omega)).1, (dI_n (by omega)).1, (dI_n (by omega)).1, (dI_n (by omega)).1]; exact h)
    exact a
/-- cells that a new island changes -/
def nwc (c j : Int) : Bool := decide (c = 33 ∧ 1 ≤ j) || decide ((c = 1 ∨ c = 20) ∧ 9 ≤ j) || decide (2 ≤ c ∧ c ≤ 9) || decide (21 ≤ c ∧ c ≤ 28) || decide ((c = 10 ∨ c = 29) ∧ j = 3) || decide (11 ≤ c ∧ c ≤ 13) || decide (30 ≤ c ∧ c ≤ 32) || decide (c = 46 ∧ 9 ≤ j) || decide (47 ≤ c ∧ c ≤ 52) || decide (c = 0 ∧ (j = 11 ∨ j = 14 ∨ j = 15)) || decide (c = 14 ∧ j = 1) || decide (c = 66 ∧ j = 2) || decide (c = 269) || decide (c = 272) || decide (c = 270 ∧ ((1 ≤ j ∧ j ≤ 8) ∨ j = 38 ∨ j = 43 ∨ j = 44 ∨ (48 ≤ j ∧ j ≤ 50) ∨ j = 65 ∨ j = 92 ∨ (94 ≤ j ∧ j ≤ 96))) || decide (301 ≤ c ∧ c ≤ 308) || decide (c = 340 ∨ c = 341)
set_option maxRecDepth 100000 in
theorem nw_f : (au_fix.all fun q => !(nwc q.1 q.2.1)) = true := by decide +kernel
set_option maxRecDepth 100000 in
theorem nw_w : (au_wd.all fun q => !(nwc q.1 q.2.1)) = true := by decide +kernel
theorem nw_n {c j : Int} (h : (!(nwc c j)) = true) : ¬ ((c = 33 ∧ 1 ≤ j) ∨ ((c = 1 ∨ c = 20) ∧ 9 ≤ j) ∨ (2 ≤ c ∧ c ≤ 9) ∨ (21 ≤ c ∧ c ≤ 28) ∨ ((c = 10 ∨ c = 29) ∧ j = 3) ∨ (11 ≤ c ∧ c ≤ 13) ∨ (30 ≤ c ∧ c ≤ 32) ∨ (c = 46 ∧ 9 ≤ j) ∨ (47 ≤ c ∧ c ≤ 52) ∨ (c = 0 ∧ (j = 11 ∨ j = 14 ∨ j = 15)) ∨ (c = 14 ∧ j = 1) ∨ (c = 66 ∧ j = 2) ∨ c = 269 ∨ c = 272 ∨ (c = 270 ∧ ((1 ≤ j ∧ j ≤ 8) ∨ j = 38 ∨ j = 43 ∨ j = 44 ∨ (48 ≤ j ∧ j ≤ 50) ∨ j = 65 ∨ j = 92 ∨ (94 ≤ j ∧ j ≤ 96))) ∨ (301 ≤ c ∧ c ≤ 308) ∨ (c = 340 ∨ c = 341)) := by
  unfold nwc at h
  simp only [Bool.not_eq_true', Bool.or_eq_false_iff, decide_eq_false_iff_not] at h
  rintro (q | q | q | q | q | q | q | q | q | q | q | q | q | q | q | q | q) <;> simp only [q, and_self, not_true_eq_false, and_false, false_and, true_or, or_true] at h
/-- all that a new island may change, l its place -/
def fN (l : Int) (f g : am_F) : Prop := ∀ c j : Int, ¬ ((c = 33 ∧ 1 ≤ j) ∨ (c = l ∧ 9 ≤ j) ∨ (l + 1 ≤ c ∧ c ≤ l + 8) ∨ (c = l + 9 ∧ j = 3) ∨ (l + 10 ≤ c ∧ c ≤ l + 12) ∨ (c = 46 ∧ 9 ≤ j) ∨ (47 ≤ c ∧ c ≤ 52) ∨ (c = 0 ∧ (j = 11 ∨ j = 14 ∨ j = 15)) ∨ (c = 14 ∧ j = 1) ∨ (c = 66 ∧ j = 2) ∨ c = 269 ∨ c = 272 ∨ (c = 270 ∧ ((1 ≤ j ∧ j ≤ 8) ∨ j = 38 ∨ j = 43 ∨ j = 44 ∨ (48 ≤ j ∧ j ≤ 50) ∨ j = 65 ∨ j = 92 ∨ (94 ≤ j ∧ j ≤ 96))) ∨ (301 ≤ c ∧ c ≤ 308) ∨ (c = 340 ∨ c = 341)) → g c j = f c j
theorem nw_l {c j : Int} (lc : l = 1 ∨ l = 20) (e : ((c = 33 ∧ 1 ≤ j) ∨ (c = l ∧ 9 ≤ j) ∨ (l + 1 ≤ c ∧ c ≤ l + 8) ∨ (c = l + 9 ∧ j = 3) ∨ (l + 10 ≤ c ∧ c ≤ l + 12) ∨ (c = 46 ∧ 9 ≤ j) ∨ (47 ≤ c ∧ c ≤ 52) ∨ (c = 0 ∧ (j = 11 ∨ j = 14 ∨ j = 15)) ∨ (c = 14 ∧ j = 1) ∨ (c = 66 ∧ j = 2) ∨ c = 269 ∨ c = 272 ∨ (c = 270 ∧ ((1 ≤ j ∧ j ≤ 8) ∨ j = 38 ∨ j = 43 ∨ j = 44 ∨ (48 ≤ j ∧ j ≤ 50) ∨ j = 65 ∨ j = 92 ∨ (94 ≤ j ∧ j ≤ 96))) ∨ (301 ≤ c ∧ c ≤ 308) ∨ (c = 340 ∨ c = 341))) : ((c = 33 ∧ 1 ≤ j) ∨ ((c = 1 ∨ c = 20) ∧ 9 ≤ j) ∨ (2 ≤ c ∧ c ≤ 9) ∨ (21 ≤ c ∧ c ≤ 28) ∨ ((c = 10 ∨ c = 29) ∧ j = 3) ∨ (11 ≤ c ∧ c ≤ 13) ∨ (30 ≤ c ∧ c ≤ 32) ∨ (c = 46 ∧ 9 ≤ j) ∨ (47 ≤ c ∧ c ≤ 52) ∨ (c = 0 ∧ (j = 11 ∨ j = 14 ∨ j = 15)) ∨ (c = 14 ∧ j = 1) ∨ (c = 66 ∧ j = 2) ∨ c = 269 ∨ c = 272 ∨ (c = 270 ∧ ((1 ≤ j ∧ j ≤ 8) ∨ j = 38 ∨ j = 43 ∨ j = 44 ∨ (48 ≤ j ∧ j ≤ 50) ∨ j = 65 ∨ j = 92 ∨ (94 ≤ j ∧ j ≤ 96))) ∨ (301 ≤ c ∧ c ≤ 308) ∨ (c = 340 ∨ c = 341)) := by
  rcases lc with rfl | rfl
  · rcases e with e | e | e | e | e | e | e | e | e | e | e | e | e | e | e
    · exact Or.inl (e)
    · exact Or.inr (Or.inl (⟨Or.inl e.1, e.2⟩))
    · exact Or.inr (Or.inr (Or.inl (by omega)))
    · exact Or.inr (Or.inr (Or.inr (Or.inr (Or.inl (⟨by omega, e.2⟩)))))
    · exact Or.inr (Or.inr (Or.inr (Or.inr (Or.inr (Or.inl (by omega))))))
    · exact Or.inr (Or.inr (Or.inr (Or.inr (Or.inr (Or.inr (Or.inr (Or.inl (e))))))))
    · exact Or.inr (Or.inr (Or.inr (Or.inr (Or.inr (Or.inr (Or.inr (Or.inr (Or.inl (e)))))))))
    · exact Or.inr (Or.inr (Or.inr (Or.inr (Or.inr (Or.inr (Or.inr (Or.inr (Or.inr (Or.inl (e))))))))))
    · exact Or.inr (Or.inr (Or.inr (Or.inr (Or.inr (Or.inr (Or.inr (Or.inr (Or.inr (Or.inr (Or.inl (e)))))))))))
    · exact Or.inr (Or.inr (Or.inr (Or.inr (Or.inr (Or.inr (Or.inr (Or.inr (Or.inr (Or.inr (Or.inr (Or.inl (e))))))))))))
    · exact Or.inr (Or.inr (Or.inr (Or.inr (Or.inr (Or.inr (Or.inr (Or.inr (Or.inr (Or.inr (Or.inr (Or.inr (Or.inl (e)))))))))))))
    · exact Or.inr (Or.inr (Or.inr (Or.inr (Or.inr (Or.inr (Or.inr (Or.inr (Or.inr (Or.inr (Or.inr (Or.inr (Or.inr (Or.inl (e))))))))))))))
    · exact Or.inr (Or.inr (Or.inr (Or.inr (Or.inr (Or.inr (Or.inr (Or.inr (Or.inr (Or.inr (Or.inr (Or.inr (Or.inr (Or.inr (Or.inl (e)))))))))))))))
    · exact Or.inr (Or.inr (Or.inr (Or.inr (Or.inr (Or.inr (Or.inr (Or.inr (Or.inr (Or.inr (Or.inr (Or.inr (Or.inr (Or.inr (Or.inr (Or.inl (e))))))))))))))))
    · exact Or.inr (Or.inr (Or.inr (Or.inr (Or.inr (Or.inr (Or.inr (Or.inr (Or.inr (Or.inr (Or.inr (Or.inr (Or.inr (Or.inr (Or.inr (Or.inr (e))))))))))))))))
  · rcases e with e | e | e | e | e | e | e | e | e | e | e | e | e | e | e
    · exact Or.inl (e)
    · exact Or.inr (Or.inl (⟨Or.inr e.1, e.2⟩))
    · exact Or.inr (Or.inr (Or.inr (Or.inl (by omega))))
    · exact Or.inr (Or.inr (Or.inr (Or.inr (Or.inl (⟨by omega, e.2⟩)))))
    · exact Or.inr (Or.inr (Or.inr (Or.inr (Or.inr (Or.inr (Or.inl (by omega)))))))
    · exact Or.inr (Or.inr (Or.inr (Or.inr (Or.inr (Or.inr (Or.inr (Or.inl (e))))))))
    · exact Or.inr (Or.inr (Or.inr (Or.inr (Or.inr (Or.inr (Or.inr (Or.inr (Or.inl (e)))))))))
    · exact Or.inr (Or.inr (Or.inr (Or.inr (Or.inr (Or.inr (Or.inr (Or.inr (Or.inr (Or.inl (e))))))))))
    · exact Or.inr (Or.inr (Or.inr (Or.inr (Or.inr (Or.inr (Or.inr (Or.inr (Or.inr (Or.inr (Or.inl (e)))))))))))
    · exact Or.inr (Or.inr (Or.inr (Or.inr (Or.inr (Or.inr (Or.inr (Or.inr (Or.inr (Or.inr (Or.inr (Or.inl (e))))))))))))
    · exact Or.inr (Or.inr (Or.inr (Or.inr (Or.inr (Or.inr (Or.inr (Or.inr (Or.inr (Or.inr (Or.inr (Or.inr (Or.inl (e)))))))))))))
    · exact Or.inr (Or.inr (Or.inr (Or.inr (Or.inr (Or.inr (Or.inr (Or.inr (Or.inr (Or.inr (Or.inr (Or.inr (Or.inr (Or.inl (e))))))))))))))
    · exact Or.inr (Or.inr (Or.inr (Or.inr (Or.inr (Or.inr (Or.inr (Or.inr (Or.inr (Or.inr (Or.inr (Or.inr (Or.inr (Or.inr (Or.inl (e)))))))))))))))
    · exact Or.inr (Or.inr (Or.inr (Or.inr (Or.inr (Or.inr (Or.inr (Or.inr (Or.inr (Or.inr (Or.inr (Or.inr (Or.inr (Or.inr (Or.inr (Or.inl (e))))))))))))))))
    · exact Or.inr (Or.inr (Or.inr (Or.inr (Or.inr (Or.inr (Or.inr (Or.inr (Or.inr (Or.inr (Or.inr (Or.inr (Or.inr (Or.inr (Or.inr (Or.inr (e))))))))))))))))
theorem fx_N {g : am_F} (h : aw_fx f) (lc : l = 1 ∨ l = 20) (hg : fN l f g) : aw_fx g := fun x hx => by
  have q := nw_n (List.all_eq_true.mp nw_f x hx)
  rw [hg _ _ (fun e => q (nw_l lc e))]
  exact h x hx
theorem wd_N {g : am_F} (h : aw_wd f) (lc : l = 1 ∨ l = 20) (hg : fN l f g) : aw_wd g := fun x hx => by
  have q := nw_n (List.all_eq_true.mp nw_w x hx)
  rw [hg _ _ (fun e => q (nw_l lc e))]
  exact h x hx
end
