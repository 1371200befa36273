/-! the days in which a thing breaks, by each number that its frail can be -/
theorem dys_s {L : am_F} {ρ : Int → List Int} {n m : Nat} : ∀ (k : Nat) (z : am_F), dys L ρ n m (k + 1) z = day L ρ n m (dys L ρ n m k z)
  | 0, _ => rfl
  | k + 1, z => dys_s k (day L ρ n m z)
theorem dys_d {L : am_F} {ρ : Int → List Int} {n m : Nat} : ∀ (k : Nat) (z : am_F), dys L ρ n m k z 0 0 = z 0 0 + k
  | 0, _ => by simp [dys]
  | k + 1, z => by rw [dys, dys_d k, day_d]; omega
def brF (L : am_F) (ρ : Int → List Int) (n m : Nat) (z : am_F) (t i : Int) (d : Nat) : Bool := aFl L ρ (dys L ρ n m (d - 1) (am_up z 6 t i)) t
def brS (L : am_F) (ρ : Int → List Int) (n m : Nat) (z : am_F) (t i : Int) (D : Nat) : Nat := bm (fun x => decide (0 < x) && brF L ρ n m z t i x) (D + 1)
section
variable {d n m r : Nat} {f L z : am_F} {ρ : Int → List Int} {τ : Int → Bool} {l : Int} {Z : Int → am_F} {Q : am_V → am_F → Prop}
/-- cells of the class's tries -/
abbrev TC (c j : Int) : Prop := c = 35 ∨ (37 ≤ c ∧ c ≤ 39) ∨ c = 44 ∨ (56 ≤ c ∧ c ≤ 65)
theorem c_tryI {t i : Int} {D : Nat} (ht : 0 ≤ t) (htn : t < n) (hi : 0 ≤ i) (hi2 : i < 10) (hD : D ≤ 30) (hd : z 0 0 + D ≤ 999) (hx : f 40 0 = 36 ∧ f 40 4 = 44) : ∀ (j k : Nat) (g : am_F), k + j = D + 1 → 1 ≤ k → CB g 56 l n m r L ρ (dys L ρ n m (k - 1) (am_up z 6 t i)) → CN g 56 (dys L ρ n m (k - 1) (am_up z 6 t i)) → g 44 i = (brS L ρ n m z t i (k - 1) : Int) → (∀ c j : Int, ¬ TC c j → g c j = f c j) → (∀ g', sS g' 56 → g' 44 i = (brS L ρ n m z t i D : Int) → (∀ x : Int, ¬ x = i → g' 44 x = g 44 x) → (∀ c j : Int, ¬ TC c j → g' c j = f c j) → aw_wp (d + 8) 127 72 [(103, 40), (107, 46), (107, 56), (0, t), (0, (D : Int)), (0, i), (0, (D : Int) + 1)] [] g' Q) → aw_wp (d + 8) 127 34 [(103, 40), (107, 46), (107, 56), (0, t), (0, (D : Int)), (0, i), (0, (k : Int))] [] g Q := by
  intro j
  induction j with
  | zero =>
    intro k g h1 h2 h3 h4 h5 h6 hQ
    obtain rfl : k = D + 1 := by omega
    have := hQ g h3.2.2.1.1 (by rw [h5]; rfl) (fun x _ => rfl) h6
    rw [r127_34]
    simpa (disch := omega) [r127_36, r127_38, le_T, lt_T, le_F, lt_F] using this
  | succ j ih =>
    intro k g h1 h2 h3 h4 h5 h6 hQ
    have x0 : g 40 0 = 36 := (h6 _ _ (by omega)).trans hx.1
    have x4 : g 40 4 = 44 := (h6 _ _ (by omega)).trans hx.2
    have hn := h3.2.2.2.1.1
    rw [r127_34]
    simp (disch := omega) [q127, r127_0, r127_1, r127_5, r127_7, r127_10, r127_11, r127_12, r127_15, r127_16, r127_19, r127_20, r127_22, r127_23, r127_24, r127_27, r127_29, r127_30, r127_31, r127_32, r127_36, r127_38, r127_41, r127_42, r127_45, r127_47, r127_48, r127_49, r127_50, r127_53, r127_54, r127_57, r127_58, r127_59, r127_60, r127_61, r127_63, r127_64, r127_65, r127_66, r127_69, r127_72, r127_75, r127_78, cs_nil, cs_cons, lc_lt, lc_ge, lc_gt, lc_le, lc_eq, le_T, lt_T, le_F, lt_F, x0, x4, ln_44, h5]
    refine c_live h3 h4 (by rw [dys_d, am_un (by omega)]; omega) ?_
    intro g1 q1 q2 q3
    obtain ⟨t', rfl⟩ : ∃ t' : Nat, t = t' := ⟨t.toNat, by omega⟩
    have eb := bm_tst (p := fun x => aFl L ρ (dys L ρ n m (k - 1) (am_up z 6 (t' : Int) i)) (x : Int)) (n := n) (t := t') (by omega) (by omega)
    have ed : day L ρ n m (dys L ρ n m (k - 1) (am_up z 6 (t' : Int) i)) = dys L ρ n m (k + 1 - 1) (am_up z 6 (t' : Int) i) := by
      rw [← dys_s, show k - 1 + 1 = k + 1 - 1 by omega]
    rw [ed] at q1 q2
    have y4 : g1 40 4 = 44 := (q3 _ _ (by omega)).trans x4
    have ek : brS L ρ n m z t' i (k - 1) = bm (fun x => decide (0 < x) && brF L ρ n m z t' i x) k := by unfold brS; rw [show k - 1 + 1 = k by omega]
    have ek2 : brS L ρ n m z t' i (k + 1 - 1) = bm (fun x => decide (0 < x) && brF L ρ n m z t' i x) k + if aFl L ρ (dys L ρ n m (k - 1) (am_up z 6 (t' : Int) i)) t' = true then 2 ^ k else 0 := by
      unfold brS
      rw [show k + 1 - 1 + 1 = k + 1 by omega, bm]
      have : (decide (0 < k) && brF L ρ n m z t' i k) = aFl L ρ (dys L ρ n m (k - 1) (am_up z 6 (t' : Int) i)) t' := by
        unfold brF
        simp [show 0 < k by omega]
      rw [this]
    have go : ∀ v : Int, v = (brS L ρ n m z t' i (k + 1 - 1) : Int) → aw_wp (d + 8) 127 34 [(103, 40), (107, 46), (107, 56), (0, (t' : Int)), (0, (D : Int)), (0, i), (0, (k : Int) + 1)] [] (am_up g1 44 i v) Q := by
      intro v hv
      refine ih (k + 1) (am_up g1 44 i v) (by omega) (by omega) (CB_fr q1 (fun c j hc => am_un (by omega))) (CN_fr q2 (fun _ _ _ _ => am_un (by omega)) (am_un (by omega)) (fun _ _ _ => rfl)) (by rw [am_ue]; exact hv) (fun c j hc => ?_) (fun g' w1 w2 w3 w4 => hQ g' w1 w2 (fun x hx => ?_) w4)
      · rw [am_un (by omega), q3 _ _ (by omega), h6 _ _ hc]
      · rw [w3 x hx, am_un (by omega), q3 _ _ (by omega)]
    have s1 := bm_set (p := fun x => decide (0 < x) && brF L ρ n m z t' i x) (n := k) (by omega)
    have s0 := bm_or0 (p := fun x => decide (0 < x) && brF L ρ n m z t' i x) (n := k) (by omega)
    have s2 : am_shl 0 (k : Int) = 0 := shl_0 ⟨k, by omega⟩
    by_cases hf : aFl L ρ (dys L ρ n m (k - 1) (am_up z 6 (t' : Int) i)) t' = true
    · have g0 := go _ rfl
      rw [ek2, if_pos hf] at g0
      simpa (disch := omega) [q127, r127_0, r127_1, r127_5, r127_7, r127_10, r127_11, r127_12, r127_15, r127_16, r127_19, r127_20, r127_22, r127_23, r127_24, r127_27, r127_29, r127_30, r127_31, r127_32, r127_36, r127_38, r127_41, r127_42, r127_45, r127_47, r127_48, r127_49, r127_50, r127_53, r127_54, r127_57, r127_58, r127_59, r127_60, r127_61, r127_63, r127_64, r127_65, r127_66, r127_69, r127_72, r127_75, r127_78, cs_nil, cs_cons, lc_lt, lc_ge, lc_gt, lc_le, lc_eq, eb, hf, ek, s1, y4, ln_44, am_wid2, am_fitE, le_T, lt_T] using g0
    · have g0 := go _ rfl
      rw [ek2, if_neg hf, Nat.add_zero] at g0
      simpa (disch := omega) [q127, r127_0, r127_1, r127_5, r127_7, r127_10, r127_11, r127_12, r127_15, r127_16, r127_19, r127_20, r127_22, r127_23, r127_24, r127_27, r127_29, r127_30, r127_31, r127_32, r127_36, r127_38, r127_41, r127_42, r127_45, r127_47, r127_48, r127_49, r127_50, r127_53, r127_54, r127_57, r127_58, r127_59, r127_60, r127_61, r127_63, r127_64, r127_65, r127_66, r127_69, r127_72, r127_75, r127_78, cs_nil, cs_cons, lc_lt, lc_ge, lc_gt, lc_le, lc_eq, eb, hf, ek, s0, s2, y4, ln_44, am_wid2, am_fitE, le_T, lt_T] using g0
theorem c_try {t : Int} {D : Nat} (ht : 0 ≤ t) (htn : t < n) (hD : D ≤ 30) (hd : z 0 0 + D ≤ 999) (hx : f 40 0 = 36 ∧ f 40 4 = 44) (s56 : sS f 56) (hC : CB f 46 l n m r L ρ z) (hN : CN f 46 z) (hQ : ∀ g, sS g 56 → (∀ i : Int, 0 ≤ i → i < 10 → g 44 i = (brS L ρ n m z t i D : Int)) → (∀ c j : Int, ¬ TC c j → g c j = f c j) → Q (3, 0) g) : aw_cl (d + 8) 127 [(103, 40), (107, 46), (107, 56), (0, t), (0, (D : Int))] f Q := by
  have hl := hC.2.1.2.1
  have hn := hC.2.2.2.1.1
  have key : ∀ (j : Nat) (i : Int) (x : am_V) (g : am_F), i + j = 10 → 0 ≤ i → sS g 56 → (∀ y : Int, 0 ≤ y → y < i → g 44 y = (brS L ρ n m z t y D : Int)) → (∀ c j : Int, ¬ TC c j → g c j = f c j) → aw_wp (d + 8) 127 3 [(103, 40), (107, 46), (107, 56), (0, t), (0, (D : Int)), (0, i), x] [] g Q := by
    intro j
    induction j with
    | zero =>
      intro i x g h1 h2 h3 h4 h5
      obtain ⟨tx, vx⟩ := x
      have := hQ g h3 (fun y a b => h4 y a (by omega)) h5
      rw [r127_3]
      simpa (disch := omega) [q127, r127_0, r127_1, r127_5, r127_7, r127_10, r127_11, r127_12, r127_15, r127_16, r127_19, r127_20, r127_22, r127_23, r127_24, r127_27, r127_29, r127_30, r127_31, r127_32, r127_36, r127_38, r127_41, r127_42, r127_45, r127_47, r127_48, r127_49, r127_50, r127_53, r127_54, r127_57, r127_58, r127_59, r127_60, r127_61, r127_63, r127_64, r127_65, r127_66, r127_69, r127_72, r127_75, r127_78, cs_nil, cs_cons, lc_lt, lc_ge, lc_gt, lc_le, lc_eq, le_T, lt_F] using this
    | succ j ih =>
      intro i x g h1 h2 h3 h4 h5
      obtain ⟨tx, vx⟩ := x
      rw [r127_3]
      simp (disch := omega) [q127, r127_0, r127_1, r127_5, r127_7, r127_10, r127_11, r127_12, r127_15, r127_16, r127_19, r127_20, r127_22, r127_23, r127_24, r127_27, r127_29, r127_30, r127_31, r127_32, r127_36, r127_38, r127_41, r127_42, r127_45, r127_47, r127_48, r127_49, r127_50, r127_53, r127_54, r127_57, r127_58, r127_59, r127_60, r127_61, r127_63, r127_64, r127_65, r127_66, r127_69, r127_72, r127_75, r127_78, cs_nil, cs_cons, lc_lt, lc_ge, lc_gt, lc_le, lc_eq, le_F, lt_T]
      have cz : CZ g 46 l n z := CZ_fr hC.2.2.1 (fun c j _ _ _ => h5 _ _ (by omega))
      have cn : CN g 46 z := CN_fr hN (fun i k _ _ => h5 _ _ (by omega)) (h5 _ _ (by omega)) (fun _ _ _ => rfl)
      refine c_copy cz cn h3 (by omega) (by omega) (by omega) hn ?_
      intro g1 a1 a2 a3
      have x4 : g1 40 4 = 44 := ((a3 _ _ (by omega)).trans (h5 _ _ (by omega))).trans hx.2
      have ys := (sS_u a1.1).2
      have y5 : g1 56 5 = 62 := ys.1.2.2.2.2.2.1
      clear ys
      have b1 : CZ (am_up (am_up g1 62 t i) 44 i 0) 56 l n (am_up z 6 t i) := CZ_fr (CZ_up (a := 56) (i := 6) (t := t) (v := i) a1 (by omega)) (fun c j _ _ _ => am_un (by omega))
      have b2 : CN (am_up (am_up g1 62 t i) 44 i 0) 56 (am_up z 6 t i) := CN_fr (CN_up (a := 56) (i := 6) (t := t) (v := i) a2 (by omega)) (fun _ _ _ _ => am_un (by omega)) (am_un (by omega)) (fun _ _ _ => rfl)
      have fr : ∀ c j : Int, ¬ TC c j → (am_up (am_up g1 62 t i) 44 i 0) c j = f c j := fun c j hc => by rw [am_un (by omega), am_un (by omega), a3 _ _ (by omega), h5 _ _ hc]
      have b3 : CB (am_up (am_up g1 62 t i) 44 i 0) 56 l n m r L ρ (am_up z 6 t i) := by
        refine ⟨?_, CL_fr hC.2.1 hC.2.2.2.1 (fun c j _ _ => fr _ _ (by omega)), b1, hC.2.2.2.1, OZ_up hC.2.2.2.2 (by omega)⟩
        rw [fr _ _ (by omega), fr _ _ (by omega), fr _ _ (by omega), fr _ _ (by omega), fr _ _ (by omega)]
        exact hC.1
      have e0 : brS L ρ n m z t i 0 = 0 := by unfold brS; simp [bm]
      have go := c_tryI (Q := Q) (d := d) (f := f) (l := l) (m := m) (r := r) (L := L) (ρ := ρ) (z := z) ht htn h2 (by omega) hD hd hx D 1 (am_up (am_up g1 62 t i) 44 i 0) (by omega) (by omega) b3 b2 (by rw [am_ue, e0]; rfl) fr (fun g' w1 w2 w3 w4 => by
        have := ih (i + 1) (0, (D : Int) + 1) g' (by omega) (by omega) w1 (fun y a b => by
          by_cases hy : y = i
          · rw [hy]; exact w2
          · rw [w3 y hy, am_un (by omega), am_un (by omega), a3 _ _ (by omega)]
            exact h4 y a (by omega)) w4
        simpa (disch := omega) [q127, r127_0, r127_1, r127_5, r127_7, r127_10, r127_11, r127_12, r127_15, r127_16, r127_19, r127_20, r127_22, r127_23, r127_24, r127_27, r127_29, r127_30, r127_31, r127_32, r127_36, r127_38, r127_41, r127_42, r127_45, r127_47, r127_48, r127_49, r127_50, r127_53, r127_54, r127_57, r127_58, r127_59, r127_60, r127_61, r127_63, r127_64, r127_65, r127_66, r127_69, r127_72, r127_75, r127_78, cs_nil, cs_cons, lc_lt, lc_ge, lc_gt, lc_le, lc_eq, am_wid2] using this)
      simpa (disch := omega) [q127, r127_0, r127_1, r127_5, r127_7, r127_10, r127_11, r127_12, r127_15, r127_16, r127_19, r127_20, r127_22, r127_23, r127_24, r127_27, r127_29, r127_30, r127_31, r127_32, r127_36, r127_38, r127_41, r127_42, r127_45, r127_47, r127_48, r127_49, r127_50, r127_53, r127_54, r127_57, r127_58, r127_59, r127_60, r127_61, r127_63, r127_64, r127_65, r127_66, r127_69, r127_72, r127_75, r127_78, cs_nil, cs_cons, lc_lt, lc_ge, lc_gt, lc_le, lc_eq, y5, x4, ln_62, ln_44, am_un, am_fitE, le_T, lt_T] using go
  have := key 10 0 (2, 0) f (by omega) (by omega) s56 (fun y a b => by omega) (fun _ _ _ => rfl)
  simpa [q127, r127_0, r127_1, r127_5, r127_7, r127_10, r127_11, r127_12, r127_15, r127_16, r127_19, r127_20, r127_22, r127_23, r127_24, r127_27, r127_29, r127_30, r127_31, r127_32, r127_36, r127_38, r127_41, r127_42, r127_45, r127_47, r127_48, r127_49, r127_50, r127_53, r127_54, r127_57, r127_58, r127_59, r127_60, r127_61, r127_63, r127_64, r127_65, r127_66, r127_69, r127_72, r127_75, r127_78, cs_nil, cs_cons, lc_lt, lc_ge, lc_gt, lc_le, lc_eq] using this
/-- cells of the model's tries -/
abbrev UC (c j : Int) : Prop := c = 342 ∨ c = 311 ∨ c = 312 ∨ c = 315 ∨ (c = 308 ∧ j ≤ 40) ∨ (c = 270 ∧ (j = 50 ∨ j = 53 ∨ j = 54 ∨ j = 55 ∨ j = 98 ∨ j = 58))
theorem m_laysI {t i : Int} {D : Nat} (ht : 0 ≤ t) (htn : t < n) (hi : 0 ≤ i) (hi2 : i < 10) (hD : D ≤ 30) (hd : z 0 0 + D ≤ 999) : ∀ (j k : Nat) (g : am_F), k + j = D + 1 → 1 ≤ k → MB g n m r L ρ τ (dys L ρ n m (k - 1) (am_up z 6 t i)) → g 270 57 = 1 → (∀ x : Int, 1 ≤ x → x < k → g 315 (31 * i + x) = if brF L ρ n m z t i x.toNat = true then 1 else 0) → (∀ c j : Int, ¬ UC c j → g c j = f c j) → (∀ g', mfx g' → (∀ x : Int, 1 ≤ x → x ≤ D → g' 315 (31 * i + x) = if brF L ρ n m z t i x.toNat = true then 1 else 0) → (∀ x : Int, x < 31 * i → g' 315 x = g 315 x) → (∀ c j : Int, ¬ UC c j → g' c j = f c j) → aw_wp (d + 8) 271 59 [(110, 270), (0, t), (0, (D : Int)), (0, i), (0, (D : Int) + 1)] [] g' Q) → aw_wp (d + 8) 271 25 [(110, 270), (0, t), (0, (D : Int)), (0, i), (0, (k : Int))] [] g Q := by
  intro j
  induction j with
  | zero =>
    intro k g h1 h2 h3 h57 h4 h5 hQ
    obtain rfl : k = D + 1 := by omega
    have := hQ g h3.1.1 (fun x a b => h4 x a (by omega)) (fun x _ => rfl) h5
    rw [r271_25]
    simpa (disch := omega) [r271_27, r271_28, le_T, lt_T, le_F, lt_F] using this
  | succ j ih =>
    intro k g h1 h2 h3 h57 h4 h5 hQ
    have hn := h3.2.2.1.1
    rw [r271_25]
    simp (disch := omega) [q271, r271_0, r271_1, r271_4, r271_5, r271_7, r271_9, r271_12, r271_13, r271_14, r271_17, r271_18, r271_19, r271_22, r271_23, r271_27, r271_28, r271_31, r271_32, r271_35, r271_36, r271_39, r271_41, r271_42, r271_43, r271_45, r271_46, r271_47, r271_50, r271_51, r271_52, r271_53, r271_56, r271_59, r271_60, r271_63, r271_66, r271_69, r271_70, r271_71, r271_74, r271_75, r271_78, cs_nil, cs_cons, lc_lt, lc_ge, lc_gt, lc_le, lc_eq, le_T, lt_T, le_F, lt_F]
    refine m_day h3 h57 (Or.inr rfl) (fun q => by omega) (by rw [dys_d, am_un (by omega)]; omega) ?_
    intro g1 q1 q2 q3 q4 q5
    have e11 := q4 t ht htn
    have ed : day L ρ n m (dys L ρ n m (k - 1) (am_up z 6 t i)) = dys L ρ n m (k + 1 - 1) (am_up z 6 t i) := by
      rw [← dys_s, show k - 1 + 1 = k + 1 - 1 by omega]
    rw [ed] at q1
    have e01 : (if aFl L ρ (dys L ρ n m (k - 1) (am_up z 6 t i)) t = true then (1 : Int) else 0) = 0 ∨ (if aFl L ρ (dys L ρ n m (k - 1) (am_up z 6 t i)) t = true then (1 : Int) else 0) = 1 := by split <;> simp
    have go := ih (k + 1) (am_up g1 315 (31 * i + k) (if aFl L ρ (dys L ρ n m (k - 1) (am_up z 6 t i)) t = true then 1 else 0)) (by omega) (by omega) (MB_fr q1 (fun c j _ _ => am_un (by omega)) (fun j _ => am_un (by omega))) (by rw [am_un (by omega), q5 _ _ (by omega)]; exact h57) (fun x a b => ?_) (fun c j hc => by rw [am_un (by omega), q5 _ _ (by omega), h5 _ _ hc]) (fun g' w1 w2 w3 w4 => hQ g' w1 w2 (fun x hx => by rw [w3 x hx, am_un (by omega), q5 _ _ (by omega)]) w4)
    · generalize hv : (if aFl L ρ (dys L ρ n m (k - 1) (am_up z 6 t i)) t = true then (1 : Int) else 0) = v at go e01 e11
      have hfit : am_fitE 23 v = true := by rcases e01 with rfl | rfl <;> rfl
      simpa (disch := omega) [q271, r271_0, r271_1, r271_4, r271_5, r271_7, r271_9, r271_12, r271_13, r271_14, r271_17, r271_18, r271_19, r271_22, r271_23, r271_27, r271_28, r271_31, r271_32, r271_35, r271_36, r271_39, r271_41, r271_42, r271_43, r271_45, r271_46, r271_47, r271_50, r271_51, r271_52, r271_53, r271_56, r271_59, r271_60, r271_63, r271_66, r271_69, r271_70, r271_71, r271_74, r271_75, r271_78, cs_nil, cs_cons, lc_lt, lc_ge, lc_gt, lc_le, lc_eq, mfx_u q1.1.1, ln_311, ln_315, e11, hfit, am_wid2, le_T, lt_T] using go
    · by_cases hx : x = k
      · subst hx
        rw [am_ue]
        unfold brF
        rw [Int.toNat_natCast]
      · rw [am_un (by omega), q5 _ _ (by omega)]
        exact h4 x a (by omega)
theorem m_lays {t : Int} {D : Nat} (ht : 0 ≤ t) (htn : t < n) (hD : D ≤ 30) (hd : z 0 0 + D ≤ 999) (h : MB f n m r L ρ τ z) (h53 : f 270 53 = -1) (h57 : f 270 57 = 0) (hQ : ∀ g, (∀ i x : Int, 0 ≤ i → i < 10 → 1 ≤ x → x ≤ D → g 315 (31 * i + x) = if brF L ρ n m z t i x.toNat = true then 1 else 0) → (∀ c j : Int, ¬ (c = 342 ∨ c = 309 ∨ c = 311 ∨ c = 312 ∨ c = 315 ∨ (c = 308 ∧ j < 0) ∨ (c = 270 ∧ (j = 50 ∨ j = 54 ∨ j = 55 ∨ j = 98 ∨ j = 58))) → g c j = f c j) → Q (3, 0) g) : aw_cl (d + 9) 271 [(110, 270), (0, t), (0, (D : Int))] f Q := by
  have hn := h.2.2.1.1
  simp (disch := omega) [q271, r271_0, r271_1, r271_4, r271_5, r271_7, r271_9, r271_12, r271_13, r271_14, r271_17, r271_18, r271_19, r271_22, r271_23, r271_27, r271_28, r271_31, r271_32, r271_35, r271_36, r271_39, r271_41, r271_42, r271_43, r271_45, r271_46, r271_47, r271_50, r271_51, r271_52, r271_53, r271_56, r271_59, r271_60, r271_63, r271_66, r271_69, r271_70, r271_71, r271_74, r271_75, r271_78, cs_nil, cs_cons, lc_lt, lc_ge, lc_gt, lc_le, lc_eq]
  refine m_aside h ?_
  intro f1 a1 a2 a3 a4 a5
  simp (disch := omega) [q271, r271_0, r271_1, r271_4, r271_5, r271_7, r271_9, r271_12, r271_13, r271_14, r271_17, r271_18, r271_19, r271_22, r271_23, r271_27, r271_28, r271_31, r271_32, r271_35, r271_36, r271_39, r271_41, r271_42, r271_43, r271_45, r271_46, r271_47, r271_50, r271_51, r271_52, r271_53, r271_56, r271_59, r271_60, r271_63, r271_66, r271_69, r271_70, r271_71, r271_74, r271_75, r271_78, cs_nil, cs_cons, lc_lt, lc_ge, lc_gt, lc_le, lc_eq]
  have key : ∀ (j : Nat) (i : Int) (x : am_V) (g : am_F), i + j = 10 → 0 ≤ i → (∀ j : Int, 0 ≤ j → j ≤ 40 → g 308 j = f 308 j) → (∀ y x : Int, 0 ≤ y → y < i → 1 ≤ x → x ≤ D → g 315 (31 * y + x) = if brF L ρ n m z t y x.toNat = true then 1 else 0) → (∀ c j : Int, ¬ UC c j → g c j = f1 c j) → aw_wp (d + 9) 271 6 [(110, 270), (0, t), (0, (D : Int)), (0, i), x] [] g Q := by
    intro j
    induction j with
    | zero =>
      intro i x g h1 h2 h3 h4 h5
      obtain ⟨tx, vx⟩ := x
      have hm : mfx g := mfx_fr a1.1.1 (fun j hj => h5 _ _ (by omega))
      rw [r271_6]
      simp (disch := omega) [q271, r271_0, r271_1, r271_4, r271_5, r271_7, r271_9, r271_12, r271_13, r271_14, r271_17, r271_18, r271_19, r271_22, r271_23, r271_27, r271_28, r271_31, r271_32, r271_35, r271_36, r271_39, r271_41, r271_42, r271_43, r271_45, r271_46, r271_47, r271_50, r271_51, r271_52, r271_53, r271_56, r271_59, r271_60, r271_63, r271_66, r271_69, r271_70, r271_71, r271_74, r271_75, r271_78, cs_nil, cs_cons, lc_lt, lc_ge, lc_gt, lc_le, lc_eq, le_T, lt_F]
      refine m_back (mfx_fr hm (fun j hj => am_un (by omega))) ?_
      intro k k1 k2 k3
      suffices hs : Q (3, 0) k by simpa [q271, r271_0, r271_1, r271_4, r271_5, r271_7, r271_9, r271_12, r271_13, r271_14, r271_17, r271_18, r271_19, r271_22, r271_23, r271_27, r271_28, r271_31, r271_32, r271_35, r271_36, r271_39, r271_41, r271_42, r271_43, r271_45, r271_46, r271_47, r271_50, r271_51, r271_52, r271_53, r271_56, r271_59, r271_60, r271_63, r271_66, r271_69, r271_70, r271_71, r271_74, r271_75, r271_78, cs_nil, cs_cons, lc_lt, lc_ge, lc_gt, lc_le, lc_eq] using hs
      refine hQ k (fun y x b1 b2 b3 b4 => ?_) (fun c j hc => ?_)
      · rw [k3 _ _ (by omega), am_un (by omega)]
        exact h4 y x b1 (by omega) b3 b4
      · by_cases h8 : c = 308 ∧ j < 41
        · obtain ⟨rfl, hj⟩ := h8
          rw [k1 j (by omega) hj, am_un (by omega), h5 _ _ (by omega), a4 j (by omega) hj]
        · by_cases h7 : c = 270 ∧ (j = 57 ∨ j = 53)
          · obtain ⟨rfl, rfl | rfl⟩ := h7
            · rw [k2, h57]
            · rw [k3 _ _ (by omega), am_ue, h53]
          · rw [k3 _ _ (by omega), am_un (by omega), h5 _ _ (by omega), a5 _ _ (by omega)]
    | succ j ih =>
      intro i x g h1 h2 h3 h4 h5
      obtain ⟨tx, vx⟩ := x
      have fr : ∀ c j : Int, ¬ UC c j → (am_up (am_up g 270 53 t) 270 54 i) c j = f1 c j := fun c j hc => by rw [am_un (by omega), am_un (by omega), h5 _ _ hc]
      have b3 : MB (am_up (am_up g 270 53 t) 270 54 i) n m r L ρ τ (am_up z 6 t i) := by
        refine ⟨ML_fr a1.1 (fun c j _ _ => fr _ _ (by omega)) (fun j _ => fr _ _ (by omega)), ⟨?_, fun k u c1 c2 c3 c4 => ?_, fun u c1 c2 => ?_⟩, h.2.2.1, OZ_up h.2.2.2 (by omega)⟩
        · rw [am_un (by omega), am_un (by omega), am_un (by omega), h3 _ (by omega) (by omega)]
          exact h.2.1.1
        · rw [am_un (by omega), am_un (by omega), am_un (by omega), h3 _ (by omega) (by omega)]
          exact h.2.1.2.1 k u c1 c2 c3 c4
        · have e1 : (am_up (am_up g 270 53 t) 270 54 i) 270 53 = t := by rw [am_un (by omega), am_ue]
          have e2 : (am_up (am_up g 270 53 t) 270 54 i) 270 54 = i := am_ue
          rw [e1, e2]
          by_cases hu : u = t
          · subst hu
            rw [if_pos rfl, am_ue]
          · have := h.2.1.2.2 u c1 c2
            rw [h53, if_neg (by omega)] at this
            rw [if_neg hu, fr _ _ (by omega), a5 _ _ (by omega), am_un (by omega)]
            exact this
      have go := m_laysI (Q := Q) (d := d + 1) (f := f1) (m := m) (r := r) (L := L) (ρ := ρ) (τ := τ) (z := z) ht htn h2 (by omega) hD hd D 1 (am_up (am_up g 270 53 t) 270 54 i) (by omega) (by omega) b3 (by rw [fr _ _ (by omega)]; exact a2) (fun x _ _ => by omega) fr (fun g' w1 w2 w3 w4 => by
        simp (disch := omega) [q271, r271_0, r271_1, r271_4, r271_5, r271_7, r271_9, r271_12, r271_13, r271_14, r271_17, r271_18, r271_19, r271_22, r271_23, r271_27, r271_28, r271_31, r271_32, r271_35, r271_36, r271_39, r271_41, r271_42, r271_43, r271_45, r271_46, r271_47, r271_50, r271_51, r271_52, r271_53, r271_56, r271_59, r271_60, r271_63, r271_66, r271_69, r271_70, r271_71, r271_74, r271_75, r271_78, cs_nil, cs_cons, lc_lt, lc_ge, lc_gt, lc_le, lc_eq]
        refine m_anew w1 ?_
        intro k k1 k2 k3
        have := ih (i + 1) (0, (D : Int) + 1) k (by omega) (by omega) (fun j p1 p2 => by rw [k1 j p1 (by omega), w4 _ _ (by omega), a4 j p1 (by omega)]) (fun y x p1 p2 p3 p4 => by
          rw [k3 _ _ (by omega)]
          by_cases hy : y = i
          · rw [hy]; exact w2 x p3 p4
          · rw [w3 _ (by omega), am_un (by omega), am_un (by omega)]
            exact h4 y x p1 (by omega) p3 p4) (fun c j hc => by rw [k3 _ _ (by omega), w4 _ _ hc])
        simpa (disch := omega) [q271, r271_0, r271_1, r271_4, r271_5, r271_7, r271_9, r271_12, r271_13, r271_14, r271_17, r271_18, r271_19, r271_22, r271_23, r271_27, r271_28, r271_31, r271_32, r271_35, r271_36, r271_39, r271_41, r271_42, r271_43, r271_45, r271_46, r271_47, r271_50, r271_51, r271_52, r271_53, r271_56, r271_59, r271_60, r271_63, r271_66, r271_69, r271_70, r271_71, r271_74, r271_75, r271_78, cs_nil, cs_cons, lc_lt, lc_ge, lc_gt, lc_le, lc_eq, am_wid2] using this)
      rw [r271_6]
      simpa (disch := omega) [q271, r271_0, r271_1, r271_4, r271_5, r271_7, r271_9, r271_12, r271_13, r271_14, r271_17, r271_18, r271_19, r271_22, r271_23, r271_27, r271_28, r271_31, r271_32, r271_35, r271_36, r271_39, r271_41, r271_42, r271_43, r271_45, r271_46, r271_47, r271_50, r271_51, r271_52, r271_53, r271_56, r271_59, r271_60, r271_63, r271_66, r271_69, r271_70, r271_71, r271_74, r271_75, r271_78, cs_nil, cs_cons, lc_lt, lc_ge, lc_gt, lc_le, lc_eq, le_F, lt_T] using go
  exact key 10 0 _ f1 (by omega) (by omega) (fun j p1 p2 => a5 _ _ (by omega)) (fun y x p1 p2 => by omega) (fun _ _ _ => rfl)
end
