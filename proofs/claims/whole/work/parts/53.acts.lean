/-! breaking, mending, keeping, on both sides -/
theorem sS_u {f : am_F} {a : Int} (h : sS f a) : (0 ≤ a ∧ 0 ≤ a + 1 ∧ 0 ≤ a + 2 ∧ 0 ≤ a + 3 ∧ 0 ≤ a + 4 ∧ 0 ≤ a + 5 ∧ 0 ≤ a + 6 ∧ 0 ≤ a + 7 ∧ 0 ≤ a + 8 ∧ 0 ≤ a + 9) ∧ (f a 0 = a + 1 ∧ f a 1 = a + 2 ∧ f a 2 = a + 3 ∧ f a 3 = a + 4 ∧ f a 4 = a + 5 ∧ f a 5 = a + 6 ∧ f a 6 = a + 7 ∧ f a 7 = a + 8 ∧ f a 8 = a + 9) ∧ (am_len aw_SH (a + 1) = 8 ∧ am_len aw_SH (a + 2) = 8 ∧ am_len aw_SH (a + 3) = 8 ∧ am_len aw_SH (a + 4) = 8 ∧ am_len aw_SH (a + 5) = 8 ∧ am_len aw_SH (a + 6) = 8 ∧ am_len aw_SH (a + 7) = 50 ∧ am_len aw_SH (a + 8) = 50 ∧ am_len aw_SH (a + 9) = 50) := h
theorem sL_u {f : am_F} {l : Int} (h : sL f l) : (0 ≤ l ∧ 0 ≤ l + 1 ∧ 0 ≤ l + 2 ∧ 0 ≤ l + 3 ∧ 0 ≤ l + 4 ∧ 0 ≤ l + 5 ∧ 0 ≤ l + 6 ∧ 0 ≤ l + 7 ∧ 0 ≤ l + 8 ∧ 0 ≤ l + 9 ∧ 0 ≤ l + 10 ∧ 0 ≤ l + 11 ∧ 0 ≤ l + 12) ∧ (f l 0 = l + 1 ∧ f l 1 = l + 2 ∧ f l 2 = l + 3 ∧ f l 3 = l + 4 ∧ f l 4 = l + 5 ∧ f l 5 = l + 6 ∧ f l 6 = l + 7 ∧ f l 7 = l + 8 ∧ f l 8 = l + 9 ∧ f (l + 9) 0 = l + 10 ∧ f (l + 9) 1 = l + 11 ∧ f (l + 9) 2 = l + 12) ∧ (am_len aw_SH (l + 1) = 8 ∧ am_len aw_SH (l + 2) = 8 ∧ am_len aw_SH (l + 3) = 8 ∧ am_len aw_SH (l + 4) = 8 ∧ am_len aw_SH (l + 5) = 4 ∧ am_len aw_SH (l + 6) = 4 ∧ am_len aw_SH (l + 7) = 4 ∧ am_len aw_SH (l + 8) = 5 ∧ am_len aw_SH (l + 10) = 1616 ∧ am_len aw_SH (l + 11) = 10 ∧ am_len aw_SH (l + 12) = 10) := h
theorem mfx_u {f : am_F} (h : mfx f) : f 270 0 = 271 ∧ f 270 9 = 272 ∧ f 270 39 = 301 ∧ f 270 40 = 302 ∧ f 270 41 = 303 ∧ f 270 42 = 304 ∧ f 270 45 = 305 ∧ f 270 46 = 306 ∧ f 270 47 = 307 ∧ f 270 51 = 308 ∧ f 270 52 = 309 ∧ f 270 56 = 310 ∧ f 270 59 = 311 ∧ f 270 60 = 312 ∧ f 270 61 = 313 ∧ f 270 62 = 314 ∧ f 270 63 = 315 ∧ f 270 64 = 316 ∧ f 270 91 = 340 ∧ f 270 93 = 341 ∧ f 270 97 = 342 ∧ f 270 101 = 343 := h
theorem cpy_n {f : am_F} {a0 sp a dp n b j : Int} (h : ¬ b = a) : am_cpy f a0 sp a dp n b j = f b j := if_neg (fun q => h q.1)
theorem cpy_i {f : am_F} {a0 sp a dp n j : Int} (h : dp ≤ j ∧ j < dp + n) : am_cpy f a0 sp a dp n a j = f a0 (sp + (j - dp)) := if_pos ⟨rfl, h⟩
theorem cpy_o {f : am_F} {a0 sp a dp n j : Int} (h : ¬ (dp ≤ j ∧ j < dp + n)) : am_cpy f a0 sp a dp n a j = f a j := if_neg (fun q => h q.2)
/-- what is kept, one more -/
def dr (z : am_F) : am_F := fun i k => if 7 ≤ i ∧ i ≤ 9 ∧ k < 49 then z i (k + 1) else if i = 10 then 49 else z i k
def nte (z : am_F) (t w : Int) : am_F := am_up (am_up (am_up (am_up (if z 10 0 = 50 then dr z else z) 7 (if z 10 0 = 50 then 49 else z 10 0) (z 0 0)) 8 (if z 10 0 = 50 then 49 else z 10 0) t) 9 (if z 10 0 = 50 then 49 else z 10 0) w) 10 0 ((if z 10 0 = 50 then 49 else z 10 0) + 1)
theorem nte_0 {z : am_F} {t w i k : Int} (h : i ≤ 6) : nte z t w i k = z i k := by
  unfold nte
  rw [am_un (by omega), am_un (by omega), am_un (by omega), am_un (by omega)]
  split
  · unfold dr
    rw [if_neg (by omega), if_neg (by omega)]
  · rfl
def inc (x : Int) : Int := if x < 99 then x + 1 else x
def br0 (z : am_F) (t : Int) : am_F := am_up (am_up (am_up z 2 t (inc (z 2 t))) 1 t 1) 5 t 0
def brk (z : am_F) (t : Int) : am_F := nte (br0 z t) t 0
def mn0 (L : am_F) (ρ : Int → List Int) (z : am_F) (t k : Int) : am_F := am_up (am_up (am_up z 4 t (aF L ρ z t k)) 3 t (inc (z 3 t))) 1 t 2
def mnd (L : am_F) (ρ : Int → List Int) (z : am_F) (t k : Int) : am_F := nte (mn0 L ρ z t k) t (k + 1)
def CN (f : am_F) (a : Int) (z : am_F) : Prop := f a 11 = z 10 0 ∧ (0 ≤ z 10 0 ∧ z 10 0 ≤ 50) ∧ ∀ i k : Int, 7 ≤ i → i ≤ 9 → 0 ≤ k → k < z 10 0 → f (a + i) k = z i k
def NM (f : am_F) (z : am_F) : Prop := f 308 41 = z 10 0 ∧ (0 ≤ z 10 0 ∧ z 10 0 ≤ 50) ∧ ∀ i k : Int, 7 ≤ i → i ≤ 9 → 0 ≤ k → k < z 10 0 → f 308 (35 + i + 3 * k) = z i k
theorem CZ_z {f z y : am_F} {a l : Int} {n : Nat} (h : CZ f a l n z) (he : ∀ i t : Int, i ≤ 6 → y i t = z i t) : CZ f a l n y := by
  obtain ⟨h1, h2, h3, h4, h5⟩ := h
  refine ⟨h1, h2, h3, by rw [h4, he _ _ (by omega)], fun i t a1 a2 a3 a4 => by rw [h5 i t a1 a2 a3 a4, he _ _ (by omega)]⟩
theorem MZ_z {f z y : am_F} {n : Nat} (h : MZ f n z) (he : ∀ i t : Int, i ≤ 6 → y i t = z i t) : MZ f n y := by
  obtain ⟨h1, h2, h3⟩ := h
  exact ⟨by rw [h1, he _ _ (by omega)], fun i t a1 a2 a3 a4 => by rw [h2 i t a1 a2 a3 a4, he _ _ (by omega)], fun t a b => by rw [h3 t a b, he _ _ (by omega)]⟩
theorem OZ_z {z y : am_F} {n : Nat} (h : OZ n z) (he : ∀ i t : Int, i ≤ 6 → y i t = z i t) : OZ n y := by
  unfold OZ at h ⊢
  simp (disch := omega) only [he]
  exact h
theorem CZ_up {f z : am_F} {a l i t v : Int} {n : Nat} (h : CZ f a l n z) (hi : 1 ≤ i ∧ i ≤ 6) : CZ (am_up f (a + i) t v) a l n (am_up z i t v) := by
  obtain ⟨h1, h2, h3, h4, h5⟩ := h
  refine ⟨sS_fr h1 (fun j _ _ => am_un (by omega)), h2, by rw [am_un (by omega)]; exact h3, by rw [am_un (by omega), am_un (by omega)]; exact h4, fun i' t' a1 a2 a3 a4 => ?_⟩
  by_cases hq : i' = i ∧ t' = t
  · rw [hq.1, hq.2, am_ue, am_ue]
  · rw [am_un (by omega), am_un (by omega)]
    exact h5 i' t' a1 a2 a3 a4
theorem MZ_up {f z : am_F} {i t v : Int} {n : Nat} (h : MZ f n z) (hi : 1 ≤ i ∧ i ≤ 5) (h0 : 0 ≤ t) : MZ (am_up f 308 (i + 5 * t) v) n (am_up z i t v) := by
  obtain ⟨h1, h2, h3⟩ := h
  refine ⟨by rw [am_un (by omega), am_un (by omega)]; exact h1, fun i' t' a1 a2 a3 a4 => ?_, fun t' a b => ?_⟩
  · by_cases hq : i' = i ∧ t' = t
    · rw [hq.1, hq.2, am_ue, am_ue]
    · rw [am_un (by omega), am_un (by omega)]
      exact h2 i' t' a1 a2 a3 a4
  · rw [am_un (by omega), am_un (by omega), am_un (by omega), am_un (by omega)]
    exact h3 t' a b
theorem CN_fr {f g z y : am_F} {a : Int} (h : CN f a z) (hg : ∀ i k : Int, 7 ≤ i → i ≤ 9 → g (a + i) k = f (a + i) k) (h1 : g a 11 = f a 11) (he : ∀ i k : Int, 7 ≤ i → y i k = z i k) : CN g a y := by
  obtain ⟨e1, e2, e3⟩ := h
  refine ⟨by rw [h1, he _ _ (by omega)]; exact e1, by rw [he _ _ (by omega)]; exact e2, fun i k a1 a2 a3 a4 => ?_⟩
  rw [he 10 0 (by omega)] at a4
  rw [hg i k a1 a2, he _ _ (by omega)]
  exact e3 i k a1 a2 a3 a4
theorem NM_fr {f g z y : am_F} (h : NM f z) (hg : ∀ k : Int, 41 ≤ k → g 308 k = f 308 k) (he : ∀ i k : Int, 7 ≤ i → y i k = z i k) : NM g y := by
  obtain ⟨e1, e2, e3⟩ := h
  refine ⟨by rw [hg _ (by omega), he _ _ (by omega)]; exact e1, by rw [he _ _ (by omega)]; exact e2, fun i k a1 a2 a3 a4 => ?_⟩
  rw [he 10 0 (by omega)] at a4
  rw [hg _ (by omega), he _ _ (by omega)]
  exact e3 i k a1 a2 a3 a4
/-- what work on the State at a leaves as it was -/
def fS (a : Int) (f g : am_F) : Prop := ∀ c j : Int, ¬ (c = 35 ∨ (a ≤ c ∧ c ≤ a + 9)) → g c j = f c j
theorem fS_tr {a : Int} {f g h : am_F} (h1 : fS a f g) (h2 : fS a g h) : fS a f h := fun c j hc => (h2 c j hc).trans (h1 c j hc)
theorem fK_S {a : Int} {f g : am_F} (h : fK f g) : fS a f g := fun c j hc => h c j (by omega)
theorem c_note {d n : Nat} {f z : am_F} {Q : am_V → am_F → Prop} {a l t w : Int} (hz : CZ f a l n z) (hN : CN f a z) (hQ : ∀ g, CZ g a l n (nte z t w) → CN g a (nte z t w) → fS a f g → Q (3, 0) g) : aw_cl (d + 1) 100 [(107, a), (0, t), (0, w)] f Q := by
  have hS := hz.1
  obtain ⟨q1, q2, q3⟩ := hN
  have hd := hz.2.2.2.1
  by_cases h50 : z 10 0 = 50
  · rw [h50] at q1
    simp (disch := omega) [q100, r100_0, r100_1, r100_4, r100_6, r100_9, r100_10, r100_13, r100_16, r100_17, r100_20, r100_23, r100_24, r100_27, r100_30, r100_31, r100_33, r100_36, r100_37, r100_40, r100_41, r100_44, r100_45, r100_48, r100_49, r100_50, r100_53, r100_54, r100_57, r100_58, r100_59, r100_60, r100_63, r100_64, r100_67, r100_68, r100_69, r100_70, r100_71, r100_74, r100_75, r100_76, r100_79, q101, r101_0, r101_1, r101_2, r101_3, r101_4, r101_5, r101_6, r101_7, r101_8, r101_11, cs_nil, cs_cons, lc_lt, lc_ge, lc_gt, lc_le, lc_eq, sS_u hS, q1, hd, am_ue, am_un, cpy_n, am_wid2]
    refine hQ _ ?_ ?_ ?_
    · refine CZ_z (CZ_fr hz (fun c j _ _ _ => ?_)) (fun i k h => nte_0 h)
      simp (disch := omega) only [am_un, cpy_n]
    · unfold CN nte
      simp only [if_pos h50]
      refine ⟨?_, ?_, fun i k a1 a2 a3 a4 => ?_⟩
      · rw [am_ue, am_ue]; rfl
      · rw [am_ue]; omega
      · rw [am_ue] at a4
        rw [am_un (by omega)]
        rcases (show i = 7 ∨ i = 8 ∨ i = 9 by omega) with rfl | rfl | rfl
        · by_cases hk : k = 49
          · subst hk
            simp (disch := omega) only [am_un, am_ue]
          · simp (disch := omega) only [am_un, am_ue, cpy_n, cpy_i, dr]
            rw [if_pos (by omega), show (1 : Int) + (k - 0) = k + 1 by omega]
            exact q3 _ _ (by omega) (by omega) (by omega) (by omega)
        · by_cases hk : k = 49
          · subst hk
            simp (disch := omega) only [am_un, am_ue]
          · simp (disch := omega) only [am_un, am_ue, cpy_n, cpy_i, dr]
            rw [if_pos (by omega), show (1 : Int) + (k - 0) = k + 1 by omega]
            exact q3 _ _ (by omega) (by omega) (by omega) (by omega)
        · by_cases hk : k = 49
          · subst hk
            simp (disch := omega) only [am_un, am_ue]
          · simp (disch := omega) only [am_un, am_ue, cpy_n, cpy_i, dr]
            rw [if_pos (by omega), show (1 : Int) + (k - 0) = k + 1 by omega]
            exact q3 _ _ (by omega) (by omega) (by omega) (by omega)
    · intro c j hc
      simp (disch := omega) only [am_un, cpy_n]
  · have c1 : z 10 0 < 50 := by omega
    have c2 : 0 ≤ z 10 0 := q2.1
    have c3 : ¬ 50 ≤ z 10 0 := by omega
    simp (disch := omega) [q100, r100_0, r100_1, r100_4, r100_6, r100_9, r100_10, r100_13, r100_16, r100_17, r100_20, r100_23, r100_24, r100_27, r100_30, r100_31, r100_33, r100_36, r100_37, r100_40, r100_41, r100_44, r100_45, r100_48, r100_49, r100_50, r100_53, r100_54, r100_57, r100_58, r100_59, r100_60, r100_63, r100_64, r100_67, r100_68, r100_69, r100_70, r100_71, r100_74, r100_75, r100_76, r100_79, q101, r101_0, r101_1, r101_2, r101_3, r101_4, r101_5, r101_6, r101_7, r101_8, r101_11, cs_nil, cs_cons, lc_lt, lc_ge, lc_gt, lc_le, lc_eq, sS_u hS, q1, hd, am_ue, am_un, am_wid2, c1, c2, c3]
    refine hQ _ ?_ ?_ ?_
    · refine CZ_z (CZ_fr hz (fun c j _ _ _ => ?_)) (fun i k h => nte_0 h)
      simp (disch := omega) only [am_un, cpy_n]
    · unfold CN nte
      simp only [if_neg h50]
      refine ⟨?_, ?_, fun i k a1 a2 a3 a4 => ?_⟩
      · rw [am_ue, am_ue]
      · rw [am_ue]; omega
      · rw [am_ue] at a4
        rw [am_un (by omega)]
        rcases (show i = 7 ∨ i = 8 ∨ i = 9 by omega) with rfl | rfl | rfl
        · by_cases hk : k = z 10 0
          · subst hk
            simp (disch := omega) only [am_un, am_ue]
          · simp (disch := omega) only [am_un, am_ue]
            exact q3 _ _ (by omega) (by omega) (by omega) (by omega)
        · by_cases hk : k = z 10 0
          · subst hk
            simp (disch := omega) only [am_un, am_ue]
          · simp (disch := omega) only [am_un, am_ue]
            exact q3 _ _ (by omega) (by omega) (by omega) (by omega)
        · by_cases hk : k = z 10 0
          · subst hk
            simp (disch := omega) only [am_un, am_ue]
          · simp (disch := omega) only [am_un, am_ue]
            exact q3 _ _ (by omega) (by omega) (by omega) (by omega)
    · intro c j hc
      simp (disch := omega) only [am_un]
theorem h_min {d : Nat} {f : am_F} {Q : am_V → am_F → Prop} {x y : Int} : aw_cl d 73 [(0, x), (0, y)] f Q = Q (0, if x ≤ y then x else y) f := by
  apply aw_det
  by_cases h : x ≤ y
  · have h' : ¬ y < x := by omega
    simp [q73, r73_0, r73_1, r73_2, r73_5, r73_6, r73_9, r73_10, cs_nil, cs_cons, lc_lt, lc_ge, lc_gt, lc_le, lc_eq, h, h']
  · have h' : y < x := by omega
    simp [q73, r73_0, r73_1, r73_2, r73_5, r73_6, r73_9, r73_10, cs_nil, cs_cons, lc_lt, lc_ge, lc_gt, lc_le, lc_eq, h, h']
theorem h_max {d : Nat} {f : am_F} {Q : am_V → am_F → Prop} {x y : Int} : aw_cl d 74 [(0, x), (0, y)] f Q = Q (0, if y ≤ x then x else y) f := by
  apply aw_det
  by_cases h : y ≤ x
  · have h' : ¬ x < y := by omega
    simp [q74, r74_0, r74_1, r74_2, r74_5, r74_6, r74_9, r74_10, cs_nil, cs_cons, lc_lt, lc_ge, lc_gt, lc_le, lc_eq, h, h']
  · have h' : x < y := by omega
    simp [q74, r74_0, r74_1, r74_2, r74_5, r74_6, r74_9, r74_10, cs_nil, cs_cons, lc_lt, lc_ge, lc_gt, lc_le, lc_eq, h, h']
theorem inc_m {x : Int} (h : x ≤ 99) : (if 99 ≤ x + 1 then 99 else x + 1) = inc x := by unfold inc; split <;> split <;> omega
theorem inc_b {x : Int} (h0 : 0 ≤ x) (h : x ≤ 99) : 0 ≤ inc x ∧ inc x ≤ 99 := by unfold inc; split <;> omega
theorem CN_up {f z : am_F} {a i t v : Int} (h : CN f a z) (hi : 1 ≤ i ∧ i ≤ 6) : CN (am_up f (a + i) t v) a (am_up z i t v) := CN_fr h (fun i' k _ _ => am_un (by omega)) (am_un (by omega)) (fun i' k _ => am_un (by omega))
theorem c_break {d n : Nat} {f z : am_F} {Q : am_V → am_F → Prop} {a l t : Int} (hz : CZ f a l n z) (hN : CN f a z) (ho : OZ n z) (h8 : n ≤ 8) (h0 : 0 ≤ t) (h1 : t < n) (hQ : ∀ g, CZ g a l n (brk z t) → CN g a (brk z t) → fS a f g → Q (3, 0) g) : aw_cl (d + 2) 99 [(107, a), (0, t)] f Q := by
  have hS := hz.1
  have hb := (ho.2 t h0 h1).2.1
  have hv := hz.2.2.2.2 2 t (by omega) (by omega) h0 h1
  have c1 : t < 8 := by omega
  simp (disch := omega) [q99, r99_0, r99_1, r99_4, r99_5, r99_7, r99_8, r99_11, r99_12, r99_13, r99_14, r99_15, r99_18, r99_19, r99_20, r99_23, r99_24, r99_25, r99_26, r99_27, r99_30, r99_31, r99_32, r99_33, r99_34, r99_35, r99_36, r99_39, cs_nil, cs_cons, lc_lt, lc_ge, lc_gt, lc_le, lc_eq, h_min, sS_u hS, hv, am_ue, am_un, am_wid2, c1, h0]
  rw [show (if 99 ≤ z 2 t + 1 then 99 else z 2 t + 1) = inc (z 2 t) from inc_m hb.2]
  refine c_note (z := br0 z t) (CZ_up (CZ_up (CZ_up hz (by omega)) (by omega)) (by omega)) (CN_up (CN_up (CN_up hN (by omega)) (by omega)) (by omega)) ?_
  intro g i1 i2 i3
  have := hQ g i1 i2 (fS_tr (fun c j hc => by simp (disch := omega) only [am_un]) i3)
  simpa [q99, r99_0, r99_1, r99_4, r99_5, r99_7, r99_8, r99_11, r99_12, r99_13, r99_14, r99_15, r99_18, r99_19, r99_20, r99_23, r99_24, r99_25, r99_26, r99_27, r99_30, r99_31, r99_32, r99_33, r99_34, r99_35, r99_36, r99_39, cs_nil, cs_cons, lc_lt, lc_ge, lc_gt, lc_le, lc_eq] using this
theorem br0_z {z : am_F} {t i k : Int} (h : 7 ≤ i) : br0 z t i k = z i k := by
  unfold br0
  rw [am_un (by omega), am_un (by omega), am_un (by omega)]
theorem mn0_z {L z : am_F} {ρ : Int → List Int} {t m i k : Int} (h : 7 ≤ i) : mn0 L ρ z t m i k = z i k := by
  unfold mn0
  rw [am_un (by omega), am_un (by omega), am_un (by omega)]
theorem clm_b {lo hi v : Int} (h : lo ≤ hi) : lo ≤ clm lo hi v ∧ clm lo hi v ≤ hi := by unfold clm; split <;> (try split) <;> omega
theorem OZ_up {z : am_F} {n : Nat} {i t v : Int} (h : OZ n z) (hi : (i = 1 ∧ 0 ≤ v ∧ v ≤ 2) ∨ ((i = 2 ∨ i = 3 ∨ i = 4) ∧ 0 ≤ v ∧ v ≤ 99) ∨ (i = 5 ∧ (v = 0 ∨ v = 1)) ∨ (i = 6 ∧ 0 ≤ v ∧ v ≤ 9)) : OZ n (am_up z i t v) := by
  obtain ⟨h1, h2⟩ := h
  refine ⟨by rw [am_un (by omega)]; exact h1, fun t' a b => ?_⟩
  have := h2 t' a b
  by_cases ht : t' = t
  · subst ht
    rcases hi with ⟨rfl, _⟩ | ⟨rfl | rfl | rfl, _⟩ | ⟨rfl, _⟩ | ⟨rfl, _⟩
    · rw [am_ue, am_un (by omega), am_un (by omega), am_un (by omega), am_un (by omega), am_un (by omega)]; omega
    · rw [am_ue, am_un (by omega), am_un (by omega), am_un (by omega), am_un (by omega), am_un (by omega)]; omega
    · rw [am_ue, am_un (by omega), am_un (by omega), am_un (by omega), am_un (by omega), am_un (by omega)]; omega
    · rw [am_ue, am_un (by omega), am_un (by omega), am_un (by omega), am_un (by omega), am_un (by omega)]; omega
    · rw [am_ue, am_un (by omega), am_un (by omega), am_un (by omega), am_un (by omega), am_un (by omega)]; omega
    · rw [am_ue, am_un (by omega), am_un (by omega), am_un (by omega), am_un (by omega), am_un (by omega)]; omega
  · rw [am_un (by omega), am_un (by omega), am_un (by omega), am_un (by omega), am_un (by omega), am_un (by omega)]; exact this
theorem OZ_brk {z : am_F} {n : Nat} {t : Int} (h : OZ n z) (h0 : 0 ≤ t) (h1 : t < n) : OZ n (brk z t) := by
  have hb := inc_b (h.2 t h0 h1).2.1.1 (h.2 t h0 h1).2.1.2
  refine OZ_z (z := br0 z t) ?_ (fun i k hi => nte_0 hi)
  exact OZ_up (OZ_up (OZ_up h (by omega)) (by omega)) (by omega)
theorem OZ_mnd {L z : am_F} {ρ : Int → List Int} {n : Nat} {t k : Int} (h : OZ n z) (h0 : 0 ≤ t) (h1 : t < n) : OZ n (mnd L ρ z t k) := by
  have hb := inc_b (h.2 t h0 h1).2.2.1.1 (h.2 t h0 h1).2.2.1.2
  have ha : 0 ≤ aF L ρ z t k ∧ aF L ρ z t k ≤ 99 := clm_b (by omega)
  refine OZ_z (z := mn0 L ρ z t k) ?_ (fun i k hi => nte_0 hi)
  exact OZ_up (OZ_up (OZ_up h (by omega)) (by omega)) (by omega)
theorem CB_S {f g L z y : am_F} {a l : Int} {n m r : Nat} {ρ : Int → List Int} (h : CB f a l n m r L ρ z) (hg : fS a f g) (hz : CZ g a l n y) (ho : OZ n y) : CB g a l n m r L ρ y := by
  obtain ⟨h1, h2, h3, h4, h5⟩ := h
  have hl := h2.2.1
  have ha := h3.2.1
  refine ⟨?_, CL_fr h2 h4 (fun c j _ _ => hg _ _ (by omega)), hz, h4, ho⟩
  rw [hg _ _ (by omega), hg _ _ (by omega), hg _ _ (by omega), hg _ _ (by omega), hg _ _ (by omega)]
  exact h1
set_option maxHeartbeats 4000000 in
theorem c_mendT {d n m r : Nat} {f L z : am_F} {Q : am_V → am_F → Prop} {a l t k : Int} {ρ : Int → List Int} (h : CB f a l n m r L ρ z) (hN : CN f a z) (h0 : 0 ≤ t) (h1 : t < n) (h2 : 0 ≤ k) (h3 : k < m) (hQ : ∀ g, CB g a l n m r L ρ (mnd L ρ z t k) → CN g a (mnd L ρ z t k) → fS a f g → Q (3, 0) g) : aw_cl (d + 5) 105 [(101, 36), (107, a), (0, t), (0, k)] f Q := by
  have hS := h.2.2.1.1
  have hn8 := h.2.2.2.1.1
  have hm4 := h.2.2.2.1.2.1
  have c1 : t < 8 := by omega
  simp [q105, r105_0, r105_1, r105_4, r105_5, r105_6, r105_7, r105_8, r105_9, r105_12, r105_13, r105_14, r105_17, r105_18, r105_20, r105_21, r105_24, r105_25, r105_26, r105_27, r105_28, r105_31, r105_32, r105_33, r105_36, r105_37, r105_38, r105_39, r105_40, r105_41, r105_42, r105_43, r105_44, r105_47, cs_nil, cs_cons, lc_lt, lc_ge, lc_gt, lc_le, lc_eq, sS_u hS, h0, c1]
  refine c_fine h h0 h1 h2 h3 ?_
  intro f1 hf
  have hB := CB_fK h hf
  obtain ⟨hx, hl, hz, hT, ho⟩ := hB
  have ha := hz.2.1
  have hS1 := hz.1
  have hb := (ho.2 t h0 h1).2.2.1
  have hv := hz.2.2.2.2 3 t (by omega) (by omega) h0 h1
  have hN1 : CN f1 a z := CN_fr hN (fun i k _ _ => hf _ _ (by omega)) (hf _ _ (by omega)) (fun _ _ _ => rfl)
  simp (disch := omega) [q105, r105_0, r105_1, r105_4, r105_5, r105_6, r105_7, r105_8, r105_9, r105_12, r105_13, r105_14, r105_17, r105_18, r105_20, r105_21, r105_24, r105_25, r105_26, r105_27, r105_28, r105_31, r105_32, r105_33, r105_36, r105_37, r105_38, r105_39, r105_40, r105_41, r105_42, r105_43, r105_44, r105_47, cs_nil, cs_cons, lc_lt, lc_ge, lc_gt, lc_le, lc_eq, h_min, sS_u hS1, hv, am_ue, am_un, am_wid2, c1, h0]
  rw [show (if 99 ≤ z 3 t + 1 then 99 else z 3 t + 1) = inc (z 3 t) from inc_m hb.2]
  refine c_note (z := mn0 L ρ z t k) (CZ_up (CZ_up (CZ_up hz (by omega)) (by omega)) (by omega)) (CN_up (CN_up (CN_up hN1 (by omega)) (by omega)) (by omega)) ?_
  intro g i1 i2 i3
  have hfr : fS a f g := by
    refine fS_tr (fS_tr (fK_S hf) ?_) i3
    intro c j hc
    simp (disch := omega) only [am_un]
  have := hQ g (CB_S h hfr i1 (OZ_mnd ho h0 h1)) i2 hfr
  simpa [q105, r105_0, r105_1, r105_4, r105_5, r105_6, r105_7, r105_8, r105_9, r105_12, r105_13, r105_14, r105_17, r105_18, r105_20, r105_21, r105_24, r105_25, r105_26, r105_27, r105_28, r105_31, r105_32, r105_33, r105_36, r105_37, r105_38, r105_39, r105_40, r105_41, r105_42, r105_43, r105_44, r105_47, cs_nil, cs_cons, lc_lt, lc_ge, lc_gt, lc_le, lc_eq] using this
/-! the model's side -/
def sft (f : am_F) (k : Int) : am_F := fun c i => if c = 308 ∧ 42 ≤ i ∧ i < k then f 308 (i + 3) else f c i
theorem sft_o {f : am_F} {k c i : Int} (h : ¬ (c = 308 ∧ 42 ≤ i ∧ i < k)) : sft f k c i = f c i := if_neg h
theorem sft_i {f : am_F} {k i : Int} (h : 42 ≤ i ∧ i < k) : sft f k 308 i = f 308 (i + 3) := if_pos ⟨rfl, h⟩
theorem sft_s {f : am_F} {k : Int} (h : 42 ≤ k) : am_up (sft f k) 308 k (f 308 (k + 3)) = sft f (k + 1) := by
  funext c i
  by_cases h1 : c = 308 ∧ i = k
  · rw [h1.1, h1.2, am_ue, sft_i (by omega)]
  · rw [am_un (by omega)]
    by_cases h2 : c = 308 ∧ 42 ≤ i ∧ i < k
    · rw [h2.1, sft_i (by omega), sft_i (by omega)]
    · rw [sft_o (by omega), sft_o (by omega)]
theorem m_keptT {d : Nat} {f : am_F} {Q : am_V → am_F → Prop} {t w : Int} (h : f 270 57 = 1) : aw_cl d 249 [(110, 270), (0, t), (0, w)] f Q = Q (3, 0) f := by
  apply aw_det
  simp [q249, r249_0, r249_1, r249_4, r249_7, r249_8, r249_9, r249_12, r249_14, r249_15, r249_17, r249_20, r249_22, r249_24, r249_27, r249_30, r249_31, r249_34, r249_35, r249_36, r249_39, r249_40, r249_41, r249_42, r249_43, r249_44, r249_47, r249_50, r249_53, r249_54, r249_57, r249_59, r249_60, r249_61, r249_62, r249_63, r249_64, r249_66, r249_67, r249_68, r249_71, r249_73, r249_74, r249_75, r249_76, r249_77, r249_78, r249_79, r249_80, r249_83, r249_84, r249_85, r249_88, r249_89, r249_90, r249_91, r249_92, r249_95, r249_96, r249_97, r249_98, r249_99, r249_100, r249_101, r249_104, r249_105, r249_106, r249_107, r249_108, r249_109, cs_nil, cs_cons, lc_lt, lc_ge, lc_gt, lc_le, lc_eq, h]
theorem m_keptN {d : Nat} {f z : am_F} {Q : am_V → am_F → Prop} {t w : Int} (hm : mfx f) (h57 : f 270 57 = 0) (hd : f 308 0 = z 0 0) (hN : NM f z) (hQ : ∀ g, NM g (nte z t w) → (∀ c j : Int, ¬ (c = 308 ∧ 41 ≤ j) → g c j = f c j) → Q (3, 0) g) : aw_cl d 249 [(110, 270), (0, t), (0, w)] f Q := by
  obtain ⟨q1, q2, q3⟩ := hN
  by_cases h50 : z 10 0 = 50
  · rw [h50] at q1
    have key : ∀ (j : Nat) (k : Int), k + j = 189 → 42 ≤ k → aw_wp d 249 23 [(110, 270), (0, t), (0, w), (0, k)] [] (sft f k) Q := by
      intro j
      induction j with
      | zero =>
        intro k hk _
        obtain rfl : k = 189 := by omega
        rw [r249_23]
        simp (disch := omega) [q249, r249_0, r249_1, r249_4, r249_7, r249_8, r249_9, r249_12, r249_14, r249_15, r249_17, r249_20, r249_22, r249_24, r249_27, r249_30, r249_31, r249_34, r249_35, r249_36, r249_39, r249_40, r249_41, r249_42, r249_43, r249_44, r249_47, r249_50, r249_53, r249_54, r249_57, r249_59, r249_60, r249_61, r249_62, r249_63, r249_64, r249_66, r249_67, r249_68, r249_71, r249_73, r249_74, r249_75, r249_76, r249_77, r249_78, r249_79, r249_80, r249_83, r249_84, r249_85, r249_88, r249_89, r249_90, r249_91, r249_92, r249_95, r249_96, r249_97, r249_98, r249_99, r249_100, r249_101, r249_104, r249_105, r249_106, r249_107, r249_108, r249_109, cs_nil, cs_cons, lc_lt, lc_ge, lc_gt, lc_le, lc_eq, mfx_u hm, ln_308, am_wid2, sft_o, am_un, q1, hd]
        refine hQ _ ?_ ?_
        · unfold NM nte
          simp only [if_pos h50]
          refine ⟨?_, ?_, fun i k a1 a2 a3 a4 => ?_⟩
          · rw [am_un (by omega), am_un (by omega), am_un (by omega), sft_o (by omega), am_ue, q1]; rfl
          · rw [am_ue]; omega
          · rw [am_ue] at a4
            rcases (show i = 7 ∨ i = 8 ∨ i = 9 by omega) with rfl | rfl | rfl
            · by_cases hk : k = 49
              · subst hk
                simp (disch := omega) only [am_un, am_ue, Int.reduceMul, Int.reduceAdd]
              · simp (disch := omega) only [am_un, am_ue, sft_i, dr]
                rw [if_pos (by omega), show (35 : Int) + 7 + 3 * k + 3 = 35 + 7 + 3 * (k + 1) by omega]
                exact q3 _ _ (by omega) (by omega) (by omega) (by omega)
            · by_cases hk : k = 49
              · subst hk
                simp (disch := omega) only [am_un, am_ue, Int.reduceMul, Int.reduceAdd]
              · simp (disch := omega) only [am_un, am_ue, sft_i, dr]
                rw [if_pos (by omega), show (35 : Int) + 8 + 3 * k + 3 = 35 + 8 + 3 * (k + 1) by omega]
                exact q3 _ _ (by omega) (by omega) (by omega) (by omega)
            · by_cases hk : k = 49
              · subst hk
                simp (disch := omega) only [am_un, am_ue, Int.reduceMul, Int.reduceAdd]
              · simp (disch := omega) only [am_un, am_ue, sft_i, dr]
                rw [if_pos (by omega), show (35 : Int) + 9 + 3 * k + 3 = 35 + 9 + 3 * (k + 1) by omega]
                exact q3 _ _ (by omega) (by omega) (by omega) (by omega)
        · intro c j hc
          simp (disch := omega) only [am_un, sft_o]
      | succ j ih =>
        intro k hk hk2
        have ih' := ih (k + 1) (by omega) (by omega)
        have c1 : ¬ 189 ≤ k := by omega
        have c2 : (0 : Int) ≤ k + 3 ∧ k + 3 < 192 := by omega
        have c3 : (0 : Int) ≤ k ∧ k < 192 := by omega
        rw [r249_23]
        simp (disch := omega) [q249, r249_0, r249_1, r249_4, r249_7, r249_8, r249_9, r249_12, r249_14, r249_15, r249_17, r249_20, r249_22, r249_24, r249_27, r249_30, r249_31, r249_34, r249_35, r249_36, r249_39, r249_40, r249_41, r249_42, r249_43, r249_44, r249_47, r249_50, r249_53, r249_54, r249_57, r249_59, r249_60, r249_61, r249_62, r249_63, r249_64, r249_66, r249_67, r249_68, r249_71, r249_73, r249_74, r249_75, r249_76, r249_77, r249_78, r249_79, r249_80, r249_83, r249_84, r249_85, r249_88, r249_89, r249_90, r249_91, r249_92, r249_95, r249_96, r249_97, r249_98, r249_99, r249_100, r249_101, r249_104, r249_105, r249_106, r249_107, r249_108, r249_109, cs_nil, cs_cons, lc_lt, lc_ge, lc_gt, lc_le, lc_eq, mfx_u hm, ln_308, am_wid2, sft_o, c1, c2, c3, sft_s]
        exact ih'
    have := key 147 42 (by omega) (by omega)
    have e : sft f 42 = f := by funext c i; exact sft_o (by omega)
    rw [e] at this
    simpa (disch := omega) [q249, r249_0, r249_1, r249_4, r249_7, r249_8, r249_9, r249_12, r249_14, r249_15, r249_17, r249_20, r249_22, r249_24, r249_27, r249_30, r249_31, r249_34, r249_35, r249_36, r249_39, r249_40, r249_41, r249_42, r249_43, r249_44, r249_47, r249_50, r249_53, r249_54, r249_57, r249_59, r249_60, r249_61, r249_62, r249_63, r249_64, r249_66, r249_67, r249_68, r249_71, r249_73, r249_74, r249_75, r249_76, r249_77, r249_78, r249_79, r249_80, r249_83, r249_84, r249_85, r249_88, r249_89, r249_90, r249_91, r249_92, r249_95, r249_96, r249_97, r249_98, r249_99, r249_100, r249_101, r249_104, r249_105, r249_106, r249_107, r249_108, r249_109, cs_nil, cs_cons, lc_lt, lc_ge, lc_gt, lc_le, lc_eq, mfx_u hm, ln_308, h57, q1] using this
  · have c1 : (0 : Int) ≤ 42 + 3 * (z 10 0 + 1) - 3 ∧ 42 + 3 * (z 10 0 + 1) - 3 < 192 := by omega
    have c2 : (0 : Int) ≤ 42 + 3 * (z 10 0 + 1) - 3 + 1 ∧ 42 + 3 * (z 10 0 + 1) - 3 + 1 < 192 := by omega
    have c3 : (0 : Int) ≤ 42 + 3 * (z 10 0 + 1) - 3 + 2 ∧ 42 + 3 * (z 10 0 + 1) - 3 + 2 < 192 := by omega
    simp (disch := omega) [q249, r249_0, r249_1, r249_4, r249_7, r249_8, r249_9, r249_12, r249_14, r249_15, r249_17, r249_20, r249_22, r249_24, r249_27, r249_30, r249_31, r249_34, r249_35, r249_36, r249_39, r249_40, r249_41, r249_42, r249_43, r249_44, r249_47, r249_50, r249_53, r249_54, r249_57, r249_59, r249_60, r249_61, r249_62, r249_63, r249_64, r249_66, r249_67, r249_68, r249_71, r249_73, r249_74, r249_75, r249_76, r249_77, r249_78, r249_79, r249_80, r249_83, r249_84, r249_85, r249_88, r249_89, r249_90, r249_91, r249_92, r249_95, r249_96, r249_97, r249_98, r249_99, r249_100, r249_101, r249_104, r249_105, r249_106, r249_107, r249_108, r249_109, cs_nil, cs_cons, lc_lt, lc_ge, lc_gt, lc_le, lc_eq, mfx_u hm, ln_308, am_wid2, am_un, am_ue, q1, hd, h57, h50, c1, c2, c3]
    refine ⟨by omega, hQ _ ?_ ?_⟩
    · unfold NM nte
      simp only [if_neg h50]
      refine ⟨?_, ?_, fun i k a1 a2 a3 a4 => ?_⟩
      · rw [am_un (by omega), am_un (by omega), am_un (by omega), am_ue, am_ue]
      · rw [am_ue]; omega
      · rw [am_ue] at a4
        by_cases hk : k = z 10 0
        · subst hk
          rcases (show i = 7 ∨ i = 8 ∨ i = 9 by omega) with rfl | rfl | rfl
          · rw [show (35 : Int) + 7 + 3 * z 10 0 = 42 + 3 * (z 10 0 + 1) - 3 by omega]
            simp (disch := omega) only [am_un, am_ue]
          · rw [show (35 : Int) + 8 + 3 * z 10 0 = 42 + 3 * (z 10 0 + 1) - 3 + 1 by omega]
            simp (disch := omega) only [am_un, am_ue]
          · rw [show (35 : Int) + 9 + 3 * z 10 0 = 42 + 3 * (z 10 0 + 1) - 3 + 2 by omega]
            simp (disch := omega) only [am_un, am_ue]
        · rw [am_un (by omega), am_un (by omega), am_un (by omega), am_un (by omega), am_un (by omega), am_un (by omega), am_un (by omega), am_un (by omega)]
          exact q3 _ _ (by omega) (by omega) (by omega) (by omega)
    · intro c j hc
      simp (disch := omega) only [am_un]
def fM (b : Int) (f g : am_F) : Prop := ∀ c j : Int, ¬ (c = 342 ∨ (c = 308 ∧ (b = 0 ∨ j ≤ 40)) ∨ c = 270 ∧ (j = 50 ∨ j = 55 ∨ j = 98 ∨ j = 58)) → g c j = f c j
theorem fM_tr {b : Int} {f g h : am_F} (h1 : fM b f g) (h2 : fM b g h) : fM b f h := fun c j hc => (h2 c j hc).trans (h1 c j hc)
theorem fU_M {b : Int} {f g : am_F} (h : fU f g) : fM b f g := fun c j hc => h c j (by omega)
theorem MB_mk {f g L z y : am_F} {n m r : Nat} {ρ : Int → List Int} {τ : Int → Bool} (h : MB f n m r L ρ τ z) (hg : ∀ c j : Int, 301 ≤ c → c ≤ 307 → g c j = f c j) (h2 : ∀ j : Int, (j = 0 ∨ j = 9 ∨ (39 ≤ j ∧ j ≤ 42) ∨ (45 ≤ j ∧ j ≤ 47) ∨ j = 51 ∨ j = 52 ∨ j = 56 ∨ (59 ≤ j ∧ j ≤ 64) ∨ j = 91 ∨ j = 93 ∨ j = 97 ∨ j = 101 ∨ j = 44) → g 270 j = f 270 j) (hz : MZ g n y) (ho : OZ n y) : MB g n m r L ρ τ y := ⟨ML_fr h.1 hg h2, hz, h.2.2.1, ho⟩
theorem MB_M {f g L z y : am_F} {n m r : Nat} {b : Int} {ρ : Int → List Int} {τ : Int → Bool} (h : MB f n m r L ρ τ z) (hg : fM b f g) (hz : MZ g n y) (ho : OZ n y) : MB g n m r L ρ τ y := MB_mk h (fun c j _ _ => hg c j (by omega)) (fun j hj => hg 270 j (by omega)) hz ho
theorem m_kept {d n m r : Nat} {f L z : am_F} {Q : am_V → am_F → Prop} {b t w : Int} {ρ : Int → List Int} {τ : Int → Bool} (h : MB f n m r L ρ τ z) (hb : f 270 57 = b) (b01 : b = 0 ∨ b = 1) (hN : b = 0 → NM f z) (hQ : ∀ g, MB g n m r L ρ τ (nte z t w) → (b = 0 → NM g (nte z t w)) → (∀ c j : Int, ¬ (c = 308 ∧ 41 ≤ j ∧ b = 0) → g c j = f c j) → Q (3, 0) g) : aw_cl d 249 [(110, 270), (0, t), (0, w)] f Q := by
  rcases b01 with rfl | rfl
  · refine m_keptN h.1.1 hb h.2.1.1 (hN rfl) ?_
    intro g i1 i2
    have hfr : ∀ c j : Int, ¬ (c = 308 ∧ 41 ≤ j) → g c j = f c j := i2
    refine hQ g (MB_mk h (fun c j _ _ => i2 c j (by omega)) (fun j hj => i2 270 j (by omega)) (MZ_z (MZ_fr h.2.1 h.2.2.1.1 (fun j _ _ => i2 _ _ (by omega)) (fun j => i2 _ _ (by omega)) (i2 _ _ (by omega)) (i2 _ _ (by omega))) (fun i k hi => nte_0 hi)) (OZ_z h.2.2.2 (fun i k hi => nte_0 hi))) (fun _ => i1) (fun c j hc => i2 c j (by omega))
  · rw [m_keptT hb]
    exact hQ f (MB_mk h (fun _ _ _ _ => rfl) (fun _ _ => rfl) (MZ_z h.2.1 (fun i k hi => nte_0 hi)) (OZ_z h.2.2.2 (fun i k hi => nte_0 hi))) (fun q => by omega) (fun _ _ _ => rfl)
theorem up_comm {f : am_F} {a k v b j w : Int} (h : ¬ (a = b ∧ k = j)) : am_up (am_up f a k v) b j w = am_up (am_up f b j w) a k v := by
  funext c i
  unfold am_up
  by_cases h1 : c = b ∧ i = j
  · rw [if_pos h1, if_neg (by omega), if_pos h1]
  · rw [if_neg h1]
    by_cases h2 : c = a ∧ i = k
    · rw [if_pos h2, if_pos h2]
    · rw [if_neg h2, if_neg h2, if_neg h1]
theorem NM_up {f z : am_F} {i t v c j x : Int} (h : NM f z) (hi : i ≤ 6) (hc : c = 308 → j ≤ 40) : NM (am_up f c j x) (am_up z i t v) := NM_fr h (fun k _ => am_un (by omega)) (fun i' k _ => am_un (by omega))
theorem MZ_o {f z : am_F} {n : Nat} {c j x : Int} (h : MZ f n z) (hn : n ≤ 8) (hc : ¬ (c = 308 ∧ j ≤ 40)) (h3 : ¬ c = 303) (h4 : ¬ (c = 270 ∧ (j = 53 ∨ j = 54))) : MZ (am_up f c j x) n z := MZ_fr h hn (fun k _ _ => am_un (by omega)) (fun k => am_un (by omega)) (am_un (by omega)) (am_un (by omega))
set_option maxHeartbeats 4000000 in
theorem m_break {d n m r : Nat} {f L z : am_F} {Q : am_V → am_F → Prop} {b t : Int} {ρ : Int → List Int} {τ : Int → Bool} (h : MB f n m r L ρ τ z) (hb : f 270 57 = b) (b01 : b = 0 ∨ b = 1) (hN : b = 0 → NM f z) (h0 : 0 ≤ t) (h1 : t < n) (hQ : ∀ g, MB g n m r L ρ τ (brk z t) → (b = 0 → NM g (brk z t)) → g 270 58 = am_wI (f 270 58 + 1) → fM b f g → Q (3, 0) g) : aw_cl (d + 1) 248 [(110, 270), (0, t)] f Q := by
  obtain ⟨hl, hz, hT, ho⟩ := id h
  have hm := hl.1
  have hn8 := hT.1
  have y2 := hz.2.1 2 t (by omega) (by omega) h0 h1
  have hbb := (ho.2 t h0 h1).2.1
  have c1 : (0 : Int) ≤ 1 + 5 * t ∧ 1 + 5 * t < 192 := by omega
  have c2 : (0 : Int) ≤ 2 + 5 * t ∧ 2 + 5 * t < 192 := by omega
  have c5 : (0 : Int) ≤ 5 + 5 * t ∧ 5 + 5 * t < 192 := by omega
  have hOb : OZ n (br0 z t) := by
    have hi := inc_b hbb.1 hbb.2
    exact OZ_up (OZ_up (OZ_up ho (by omega)) (by omega)) (by omega)
  by_cases hq : z 2 t < 99
  · have hq' : ¬ 99 ≤ z 2 t := by omega
    have e0 : br0 z t = am_up (am_up (am_up z 1 t 1) 2 t (z 2 t + 1)) 5 t 0 := by
      unfold br0
      rw [show inc (z 2 t) = z 2 t + 1 from if_pos hq, up_comm (a := 2) (b := 1) (by omega)]
    simp (disch := omega) [q248, r248_0, r248_1, r248_4, r248_5, r248_6, r248_7, r248_8, r248_9, r248_10, r248_11, r248_12, r248_15, r248_16, r248_17, r248_18, r248_19, r248_20, r248_21, r248_23, r248_26, r248_27, r248_30, r248_31, r248_32, r248_33, r248_34, r248_35, r248_36, r248_37, r248_38, r248_39, r248_40, r248_41, r248_44, r248_45, r248_46, r248_47, r248_48, r248_49, r248_50, r248_51, r248_52, r248_53, r248_56, r248_57, r248_58, r248_61, r248_62, r248_63, r248_64, r248_67, cs_nil, cs_cons, lc_lt, lc_ge, lc_gt, lc_le, lc_eq, mfx_u hm, ln_308, am_wid2, am_un, am_ue, c1, c2, c5, y2, hq']
    have hZ : MZ (am_up (am_up (am_up (am_up f 308 (1 + 5 * t) 1) 308 (2 + 5 * t) (z 2 t + 1)) 308 (5 + 5 * t) 0) 270 58 (am_wI (f 270 58 + 1))) n (br0 z t) := by
      rw [e0]
      exact MZ_o (MZ_up (MZ_up (MZ_up hz (by omega) h0) (by omega) h0) (by omega) h0) hn8 (by omega) (by omega) (by omega)
    refine m_kept (b := b) (z := br0 z t) (L := L) (ρ := ρ) (τ := τ) (n := n) (m := m) (r := r) (MB_mk h (fun c j _ _ => ?_) (fun j hj => ?_) hZ hOb) (by rw [am_un (by omega), am_un (by omega), am_un (by omega), am_un (by omega)]; exact hb) b01 (fun q => ?_) ?_
    · simp (disch := omega) only [am_un]
    · simp (disch := omega) only [am_un]
    · rw [e0]
      exact NM_fr (NM_up (NM_up (NM_up (hN q) (by omega) (by omega)) (by omega) (by omega)) (by omega) (by omega)) (fun k _ => am_un (by omega)) (fun _ _ _ => rfl)
    · intro g i1 i2 i3
      suffices hs : Q (3, 0) g by simpa [q248, r248_0, r248_1, r248_4, r248_5, r248_6, r248_7, r248_8, r248_9, r248_10, r248_11, r248_12, r248_15, r248_16, r248_17, r248_18, r248_19, r248_20, r248_21, r248_23, r248_26, r248_27, r248_30, r248_31, r248_32, r248_33, r248_34, r248_35, r248_36, r248_37, r248_38, r248_39, r248_40, r248_41, r248_44, r248_45, r248_46, r248_47, r248_48, r248_49, r248_50, r248_51, r248_52, r248_53, r248_56, r248_57, r248_58, r248_61, r248_62, r248_63, r248_64, r248_67, cs_nil, cs_cons, lc_lt, lc_ge, lc_gt, lc_le, lc_eq] using hs
      refine hQ g i1 i2 ?_ ?_
      · rw [i3 _ _ (by omega), am_ue]
      · intro c j hc
        rw [i3 _ _ (by omega)]
        simp (disch := omega) only [am_un]
  · have hq' : 99 ≤ z 2 t := by omega
    have e0 : br0 z t = am_up (am_up z 1 t 1) 5 t 0 := by
      unfold br0
      rw [show inc (z 2 t) = z 2 t from if_neg hq, am_ui]
    simp (disch := omega) [q248, r248_0, r248_1, r248_4, r248_5, r248_6, r248_7, r248_8, r248_9, r248_10, r248_11, r248_12, r248_15, r248_16, r248_17, r248_18, r248_19, r248_20, r248_21, r248_23, r248_26, r248_27, r248_30, r248_31, r248_32, r248_33, r248_34, r248_35, r248_36, r248_37, r248_38, r248_39, r248_40, r248_41, r248_44, r248_45, r248_46, r248_47, r248_48, r248_49, r248_50, r248_51, r248_52, r248_53, r248_56, r248_57, r248_58, r248_61, r248_62, r248_63, r248_64, r248_67, cs_nil, cs_cons, lc_lt, lc_ge, lc_gt, lc_le, lc_eq, mfx_u hm, ln_308, am_wid2, am_un, am_ue, c1, c2, c5, y2, hq']
    have hZ : MZ (am_up (am_up (am_up f 308 (1 + 5 * t) 1) 308 (5 + 5 * t) 0) 270 58 (am_wI (f 270 58 + 1))) n (br0 z t) := by
      rw [e0]
      exact MZ_o (MZ_up (MZ_up hz (by omega) h0) (by omega) h0) hn8 (by omega) (by omega) (by omega)
    refine m_kept (b := b) (z := br0 z t) (L := L) (ρ := ρ) (τ := τ) (n := n) (m := m) (r := r) (MB_mk h (fun c j _ _ => ?_) (fun j hj => ?_) hZ hOb) (by rw [am_un (by omega), am_un (by omega), am_un (by omega)]; exact hb) b01 (fun q => ?_) ?_
    · simp (disch := omega) only [am_un]
    · simp (disch := omega) only [am_un]
    · rw [e0]
      exact NM_fr (NM_up (NM_up (hN q) (by omega) (by omega)) (by omega) (by omega)) (fun k _ => am_un (by omega)) (fun _ _ _ => rfl)
    · intro g i1 i2 i3
      suffices hs : Q (3, 0) g by simpa [q248, r248_0, r248_1, r248_4, r248_5, r248_6, r248_7, r248_8, r248_9, r248_10, r248_11, r248_12, r248_15, r248_16, r248_17, r248_18, r248_19, r248_20, r248_21, r248_23, r248_26, r248_27, r248_30, r248_31, r248_32, r248_33, r248_34, r248_35, r248_36, r248_37, r248_38, r248_39, r248_40, r248_41, r248_44, r248_45, r248_46, r248_47, r248_48, r248_49, r248_50, r248_51, r248_52, r248_53, r248_56, r248_57, r248_58, r248_61, r248_62, r248_63, r248_64, r248_67, cs_nil, cs_cons, lc_lt, lc_ge, lc_gt, lc_le, lc_eq] using hs
      refine hQ g i1 i2 ?_ ?_
      · rw [i3 _ _ (by omega), am_ue]
      · intro c j hc
        rw [i3 _ _ (by omega)]
        simp (disch := omega) only [am_un]
set_option maxHeartbeats 4000000 in
theorem m_mendT {d n m r : Nat} {f L z : am_F} {Q : am_V → am_F → Prop} {b t k : Int} {ρ : Int → List Int} {τ : Int → Bool} (h : MB f n m r L ρ τ z) (hb : f 270 57 = b) (b01 : b = 0 ∨ b = 1) (hN : b = 0 → NM f z) (h0 : 0 ≤ t) (h1 : t < n) (h2 : 0 ≤ k) (h3 : k < m) (hQ : ∀ g, MB g n m r L ρ τ (mnd L ρ z t k) → (b = 0 → NM g (mnd L ρ z t k)) → g 270 58 = f 270 58 → fM b f g → Q (3, 0) g) : aw_cl (d + 5) 253 [(110, 270), (0, t), (0, k)] f Q := by
  simp (disch := omega) [q253, r253_0, r253_1, r253_2, r253_3, r253_6, r253_7, r253_8, r253_11, r253_12, r253_13, r253_14, r253_15, r253_16, r253_17, r253_18, r253_19, r253_22, r253_23, r253_24, r253_25, r253_26, r253_27, r253_28, r253_30, r253_33, r253_34, r253_37, r253_38, r253_39, r253_40, r253_41, r253_42, r253_43, r253_44, r253_45, r253_46, r253_47, r253_48, r253_51, r253_52, r253_53, r253_54, r253_55, r253_56, r253_57, r253_58, r253_59, r253_60, r253_61, r253_62, r253_63, r253_66, cs_nil, cs_cons, lc_lt, lc_ge, lc_gt, lc_le, lc_eq]
  refine m_fine h h0 h1 h2 h3 ?_
  intro f1 hf
  have hB := MB_fU h hf
  obtain ⟨hl, hz, hT, ho⟩ := id hB
  have hb1 : f1 270 57 = b := (hf _ _ (by omega)).trans hb
  have hN1 : b = 0 → NM f1 z := fun q => NM_fr (hN q) (fun k _ => hf _ _ (by omega)) (fun _ _ _ => rfl)
  have hm := hl.1
  have hn8 := hT.1
  have hm4 := hT.2.1
  have y3 := hz.2.1 3 t (by omega) (by omega) h0 h1
  have hbb := (ho.2 t h0 h1).2.2.1
  have c1 : (0 : Int) ≤ 1 + 5 * t ∧ 1 + 5 * t < 192 := by omega
  have c3 : (0 : Int) ≤ 3 + 5 * t ∧ 3 + 5 * t < 192 := by omega
  have c4 : (0 : Int) ≤ 4 + 5 * t ∧ 4 + 5 * t < 192 := by omega
  have ha : 0 ≤ aF L ρ z t k ∧ aF L ρ z t k ≤ 99 := clm_b (by omega)
  have hOb : OZ n (mn0 L ρ z t k) := by
    have hi := inc_b hbb.1 hbb.2
    exact OZ_up (OZ_up (OZ_up ho (by omega)) (by omega)) (by omega)
  by_cases hq : z 3 t < 99
  · have hq' : ¬ 99 ≤ z 3 t := by omega
    have e0 : mn0 L ρ z t k = am_up (am_up (am_up z 1 t 2) 3 t (z 3 t + 1)) 4 t (aF L ρ z t k) := by
      unfold mn0
      rw [show inc (z 3 t) = z 3 t + 1 from if_pos hq, up_comm (a := 3) (b := 1) (by omega), up_comm (a := 4) (b := 1) (by omega), up_comm (a := 4) (b := 3) (by omega)]
    simp (disch := omega) [q253, r253_0, r253_1, r253_2, r253_3, r253_6, r253_7, r253_8, r253_11, r253_12, r253_13, r253_14, r253_15, r253_16, r253_17, r253_18, r253_19, r253_22, r253_23, r253_24, r253_25, r253_26, r253_27, r253_28, r253_30, r253_33, r253_34, r253_37, r253_38, r253_39, r253_40, r253_41, r253_42, r253_43, r253_44, r253_45, r253_46, r253_47, r253_48, r253_51, r253_52, r253_53, r253_54, r253_55, r253_56, r253_57, r253_58, r253_59, r253_60, r253_61, r253_62, r253_63, r253_66, cs_nil, cs_cons, lc_lt, lc_ge, lc_gt, lc_le, lc_eq, mfx_u hm, ln_308, am_wid2, am_un, am_ue, c1, c3, c4, y3, hq']
    have hZ : MZ (am_up (am_up (am_up f1 308 (1 + 5 * t) 2) 308 (3 + 5 * t) (z 3 t + 1)) 308 (4 + 5 * t) (aF L ρ z t k)) n (mn0 L ρ z t k) := by
      rw [e0]
      exact MZ_up (MZ_up (MZ_up hz (by omega) h0) (by omega) h0) (by omega) h0
    refine m_kept (b := b) (z := mn0 L ρ z t k) (L := L) (ρ := ρ) (τ := τ) (n := n) (m := m) (r := r) (MB_mk hB (fun c j _ _ => ?_) (fun j hj => ?_) hZ hOb) (by rw [am_un (by omega), am_un (by omega), am_un (by omega)]; exact hb1) b01 (fun q => ?_) ?_
    · simp (disch := omega) only [am_un]
    · simp (disch := omega) only [am_un]
    · rw [e0]
      exact NM_up (NM_up (NM_up (hN1 q) (by omega) (by omega)) (by omega) (by omega)) (by omega) (by omega)
    · intro g i1 i2 i3
      suffices hs : Q (3, 0) g by simpa [q253, r253_0, r253_1, r253_2, r253_3, r253_6, r253_7, r253_8, r253_11, r253_12, r253_13, r253_14, r253_15, r253_16, r253_17, r253_18, r253_19, r253_22, r253_23, r253_24, r253_25, r253_26, r253_27, r253_28, r253_30, r253_33, r253_34, r253_37, r253_38, r253_39, r253_40, r253_41, r253_42, r253_43, r253_44, r253_45, r253_46, r253_47, r253_48, r253_51, r253_52, r253_53, r253_54, r253_55, r253_56, r253_57, r253_58, r253_59, r253_60, r253_61, r253_62, r253_63, r253_66, cs_nil, cs_cons, lc_lt, lc_ge, lc_gt, lc_le, lc_eq] using hs
      refine hQ g i1 i2 ?_ ?_
      · rw [i3 _ _ (by omega), am_un (by omega), am_un (by omega), am_un (by omega), hf _ _ (by omega)]
      · intro c j hc
        rw [i3 _ _ (by omega), ← hf c j (by omega)]
        simp (disch := omega) only [am_un]
  · have hq' : 99 ≤ z 3 t := by omega
    have e0 : mn0 L ρ z t k = am_up (am_up z 1 t 2) 4 t (aF L ρ z t k) := by
      unfold mn0
      rw [show inc (z 3 t) = z 3 t from if_neg hq, show am_up (am_up z 4 t (aF L ρ z t k)) 3 t (z 3 t) = am_up z 4 t (aF L ρ z t k) from by rw [up_comm (by omega), am_ui], up_comm (a := 4) (b := 1) (by omega)]
    simp (disch := omega) [q253, r253_0, r253_1, r253_2, r253_3, r253_6, r253_7, r253_8, r253_11, r253_12, r253_13, r253_14, r253_15, r253_16, r253_17, r253_18, r253_19, r253_22, r253_23, r253_24, r253_25, r253_26, r253_27, r253_28, r253_30, r253_33, r253_34, r253_37, r253_38, r253_39, r253_40, r253_41, r253_42, r253_43, r253_44, r253_45, r253_46, r253_47, r253_48, r253_51, r253_52, r253_53, r253_54, r253_55, r253_56, r253_57, r253_58, r253_59, r253_60, r253_61, r253_62, r253_63, r253_66, cs_nil, cs_cons, lc_lt, lc_ge, lc_gt, lc_le, lc_eq, mfx_u hm, ln_308, am_wid2, am_un, am_ue, c1, c3, c4, y3, hq']
    have hZ : MZ (am_up (am_up f1 308 (1 + 5 * t) 2) 308 (4 + 5 * t) (aF L ρ z t k)) n (mn0 L ρ z t k) := by
      rw [e0]
      exact MZ_up (MZ_up hz (by omega) h0) (by omega) h0
    refine m_kept (b := b) (z := mn0 L ρ z t k) (L := L) (ρ := ρ) (τ := τ) (n := n) (m := m) (r := r) (MB_mk hB (fun c j _ _ => ?_) (fun j hj => ?_) hZ hOb) (by rw [am_un (by omega), am_un (by omega)]; exact hb1) b01 (fun q => ?_) ?_
    · simp (disch := omega) only [am_un]
    · simp (disch := omega) only [am_un]
    · rw [e0]
      exact NM_up (NM_up (hN1 q) (by omega) (by omega)) (by omega) (by omega)
    · intro g i1 i2 i3
      suffices hs : Q (3, 0) g by simpa [q253, r253_0, r253_1, r253_2, r253_3, r253_6, r253_7, r253_8, r253_11, r253_12, r253_13, r253_14, r253_15, r253_16, r253_17, r253_18, r253_19, r253_22, r253_23, r253_24, r253_25, r253_26, r253_27, r253_28, r253_30, r253_33, r253_34, r253_37, r253_38, r253_39, r253_40, r253_41, r253_42, r253_43, r253_44, r253_45, r253_46, r253_47, r253_48, r253_51, r253_52, r253_53, r253_54, r253_55, r253_56, r253_57, r253_58, r253_59, r253_60, r253_61, r253_62, r253_63, r253_66, cs_nil, cs_cons, lc_lt, lc_ge, lc_gt, lc_le, lc_eq] using hs
      refine hQ g i1 i2 ?_ ?_
      · rw [i3 _ _ (by omega), am_un (by omega), am_un (by omega), hf _ _ (by omega)]
      · intro c j hc
        rw [i3 _ _ (by omega), ← hf c j (by omega)]
        simp (disch := omega) only [am_un]
