/-! values of things on the model's side; the trials that hold -/
theorem m_told {d n m r : Nat} {f L : am_F} {Q : am_V → am_F → Prop} {w : Int} {ρ : Int → List Int} {τ : Int → Bool} (hl : ML f n m r L ρ τ) (hT : TW n m r L ρ) (h0 : 0 ≤ w) (h1 : w < 5 + (r : Int)) : aw_cl d 214 [(110, 270), (0, w)] f Q = Q (0, if τ w = true then 1 else 0) f := by
  have hm := hl.1
  unfold mfx at hm
  have hr := hT.2.2.1
  have c1 : (0 : Int) ≤ 10 + w ∧ 10 + w < 20 := by omega
  apply aw_det
  rcases hl.2.2.2.2 w h0 h1 with ⟨e0, k0, e1, _, e3, _⟩ | ⟨e0, _, e1, _⟩
  · have : ¬ k0 = -1 := by omega
    simp (disch := omega) [q214, r214_0, r214_1, r214_4, r214_6, r214_7, r214_8, r214_9, r214_10, r214_13, r214_14, r214_17, r214_18, cs_nil, cs_cons, lc_lt, lc_ge, lc_gt, lc_le, lc_eq, hm, ln_305, am_wid2, c1, e1, this, e0]
  · simp (disch := omega) [q214, r214_0, r214_1, r214_4, r214_6, r214_7, r214_8, r214_9, r214_10, r214_13, r214_14, r214_17, r214_18, cs_nil, cs_cons, lc_lt, lc_ge, lc_gt, lc_le, lc_eq, hm, ln_305, am_wid2, c1, e1, e0]
theorem ml_un {n m r : Nat} {f L : am_F} {w : Int} {ρ : Int → List Int} {τ : Int → Bool} (hl : ML f n m r L ρ τ) (h0 : 0 ≤ w) (h1 : w < 5 + (r : Int)) (ht : ¬ τ w = true) : ρ w = dfl w := by
  rcases hl.2.2.2.2 w h0 h1 with ⟨e0, _⟩ | ⟨_, _, _, e⟩
  · exact absurd e0 ht
  · exact e
theorem m_stand {d n m r : Nat} {f L z : am_F} {Q : am_V → am_F → Prop} {t : Int} {ρ : Int → List Int} {τ : Int → Bool} (h : MB f n m r L ρ τ z) (h0 : 0 ≤ t) (h1 : t < n) (hQ : ∀ f1, fU f f1 → Q (0, if aSt L ρ z t = true then 1 else 0) f1) : aw_cl (d + 4) 213 [(110, 270), (0, t)] f Q := by
  obtain ⟨hl, hz, hT, ho⟩ := h
  have hm := hl.1
  unfold mfx at hm
  have hn8 := hT.1
  have y1 := hz.2.1 1 t (by omega) (by omega) h0 h1
  have y3 := hz.2.1 3 t (by omega) (by omega) h0 h1
  have c1 : (0 : Int) ≤ 1 + 5 * t ∧ 1 + 5 * t < 192 := by omega
  have c3 : (0 : Int) ≤ 3 + 5 * t ∧ 3 + 5 * t < 192 := by omega
  unfold aSt at hQ
  by_cases hp : z 1 t = 2
  · by_cases ht : τ 0 = true
    · simp (disch := omega) [q213, r213_0, r213_1, r213_2, r213_5, r213_6, r213_9, r213_10, r213_11, r213_12, r213_13, r213_16, r213_19, r213_20, r213_21, r213_22, r213_25, r213_26, r213_27, r213_30, r213_31, r213_34, r213_35, r213_38, r213_39, r213_40, r213_43, r213_46, r213_47, r213_50, r213_51, q210, r210_0, r210_1, r210_4, r210_5, r210_6, r210_7, r210_8, r210_9, r210_10, cs_nil, cs_cons, lc_lt, lc_ge, lc_gt, lc_le, lc_eq, hm, ln_308, am_wid2, c1, y1, hp, m_told hl hT (w := 0), ht]
      refine m_val (w := 0) (z := z) (gv := 0) hT hl hz ho (by omega) h0 h1 ht (by omega) ?_
      intro f1 hf
      have := hQ f1 (fT_U hf)
      have hv := (V_b hT ho (w := 0) (gv := 0) (by omega) h0 h1 (by omega)).2.2 rfl
      by_cases hv0 : V L ρ z t 0 0 = 0
      · simpa [q213, r213_0, r213_1, r213_2, r213_5, r213_6, r213_9, r213_10, r213_11, r213_12, r213_13, r213_16, r213_19, r213_20, r213_21, r213_22, r213_25, r213_26, r213_27, r213_30, r213_31, r213_34, r213_35, r213_38, r213_39, r213_40, r213_43, r213_46, r213_47, r213_50, r213_51, cs_nil, cs_cons, lc_lt, lc_ge, lc_gt, lc_le, lc_eq, hp, hv0] using this
      · have hv1 : V L ρ z t 0 0 = 1 := by omega
        simpa [q213, r213_0, r213_1, r213_2, r213_5, r213_6, r213_9, r213_10, r213_11, r213_12, r213_13, r213_16, r213_19, r213_20, r213_21, r213_22, r213_25, r213_26, r213_27, r213_30, r213_31, r213_34, r213_35, r213_38, r213_39, r213_40, r213_43, r213_46, r213_47, r213_50, r213_51, cs_nil, cs_cons, lc_lt, lc_ge, lc_gt, lc_le, lc_eq, hp, hv1] using this
    · have e : V L ρ z t 0 0 = if 0 < z 3 t then 1 else 0 := by
        unfold V
        rw [ml_un hl (by omega) (by omega) ht]
        simp [dfl, vl, er, e1, jn, ptZ]
      have := hQ f fU_refl
      by_cases h3 : 0 < z 3 t
      · have h3' : ¬ z 3 t ≤ 0 := by omega
        simpa (disch := omega) [q213, r213_0, r213_1, r213_2, r213_5, r213_6, r213_9, r213_10, r213_11, r213_12, r213_13, r213_16, r213_19, r213_20, r213_21, r213_22, r213_25, r213_26, r213_27, r213_30, r213_31, r213_34, r213_35, r213_38, r213_39, r213_40, r213_43, r213_46, r213_47, r213_50, r213_51, q210, r210_0, r210_1, r210_4, r210_5, r210_6, r210_7, r210_8, r210_9, r210_10, q220, r220_0, r220_1, r220_4, r220_5, r220_6, r220_7, r220_8, r220_9, r220_10, cs_nil, cs_cons, lc_lt, lc_ge, lc_gt, lc_le, lc_eq, hm, ln_308, am_wid2, c1, c3, y1, y3, hp, m_told hl hT (w := 0), ht, h3, h3', e] using this
      · have h3' : z 3 t ≤ 0 := by omega
        simpa (disch := omega) [q213, r213_0, r213_1, r213_2, r213_5, r213_6, r213_9, r213_10, r213_11, r213_12, r213_13, r213_16, r213_19, r213_20, r213_21, r213_22, r213_25, r213_26, r213_27, r213_30, r213_31, r213_34, r213_35, r213_38, r213_39, r213_40, r213_43, r213_46, r213_47, r213_50, r213_51, q210, r210_0, r210_1, r210_4, r210_5, r210_6, r210_7, r210_8, r210_9, r210_10, q220, r220_0, r220_1, r220_4, r220_5, r220_6, r220_7, r220_8, r220_9, r220_10, cs_nil, cs_cons, lc_lt, lc_ge, lc_gt, lc_le, lc_eq, hm, ln_308, am_wid2, c1, c3, y1, y3, hp, m_told hl hT (w := 0), ht, h3, h3', e] using this
  · have := hQ f fU_refl
    simpa (disch := omega) [q213, r213_0, r213_1, r213_2, r213_5, r213_6, r213_9, r213_10, r213_11, r213_12, r213_13, r213_16, r213_19, r213_20, r213_21, r213_22, r213_25, r213_26, r213_27, r213_30, r213_31, r213_34, r213_35, r213_38, r213_39, r213_40, r213_43, r213_46, r213_47, r213_50, r213_51, q210, r210_0, r210_1, r210_4, r210_5, r210_6, r210_7, r210_8, r210_9, r210_10, q220, r220_0, r220_1, r220_4, r220_5, r220_6, r220_7, r220_8, r220_9, r220_10, cs_nil, cs_cons, lc_lt, lc_ge, lc_gt, lc_le, lc_eq, hm, ln_308, am_wid2, c1, y1, hp] using this
theorem m_standSet {d n m r : Nat} {f L z : am_F} {Q : am_V → am_F → Prop} {ρ : Int → List Int} {τ : Int → Bool} (h : MB f n m r L ρ τ z) (hQ : ∀ f1, fU f f1 → Q (0, (bm (fun t => aSt L ρ z (t : Int)) n : Int)) f1) : aw_cl (d + 5) 212 [(110, 270)] f Q := by
  have key : ∀ j t : Nat, ∀ g, t + j = n → fU f g → aw_wp (d + 5) 212 4 [(110, 270), (0, (bm (fun t => aSt L ρ z (t : Int)) t : Int)), (0, (t : Int))] [] g Q := by
    intro j
    induction j with
    | zero =>
      intro t g ht hg
      obtain rfl : t = n := by omega
      obtain ⟨hl, hz, hT, ho⟩ := MB_fU h hg
      have hm := hl.1
      unfold mfx at hm
      have hn := hl.2.1.1
      have := hQ g hg
      rw [r212_4]
      simpa [q212, r212_0, r212_1, r212_2, r212_3, r212_5, r212_6, r212_9, r212_12, r212_13, r212_14, r212_17, r212_20, r212_21, r212_22, r212_23, r212_24, r212_25, r212_26, r212_29, r212_32, r212_33, q209, r209_0, r209_1, r209_4, r209_5, r209_6, cs_nil, cs_cons, lc_lt, lc_ge, lc_gt, lc_le, lc_eq, hm, hn, ln_301] using this
    | succ j ih =>
      intro t g ht hg
      have hB := MB_fU h hg
      obtain ⟨hl, hz, hT, ho⟩ := MB_fU h hg
      have hm := hl.1
      unfold mfx at hm
      have hn := hl.2.1.1
      have hn8 := hT.1
      have c1 : ¬ n ≤ t := by omega
      rw [r212_4]
      simp [q212, r212_0, r212_1, r212_2, r212_3, r212_5, r212_6, r212_9, r212_12, r212_13, r212_14, r212_17, r212_20, r212_21, r212_22, r212_23, r212_24, r212_25, r212_26, r212_29, r212_32, r212_33, q209, r209_0, r209_1, r209_4, r209_5, r209_6, cs_nil, cs_cons, lc_lt, lc_ge, lc_gt, lc_le, lc_eq, hm, hn, ln_301, c1]
      refine m_stand hB (by omega) (by omega) ?_
      intro f1 hf
      have ih' := ih (t + 1) f1 (by omega) (fU_tr hg hf)
      by_cases hp : aSt L ρ z (t : Int) = true
      · simpa (disch := omega) [q212, r212_0, r212_1, r212_2, r212_3, r212_5, r212_6, r212_9, r212_12, r212_13, r212_14, r212_17, r212_20, r212_21, r212_22, r212_23, r212_24, r212_25, r212_26, r212_29, r212_32, r212_33, cs_nil, cs_cons, lc_lt, lc_ge, lc_gt, lc_le, lc_eq, hp, bm, bm_set, am_wid2] using ih'
      · simpa (disch := omega) [q212, r212_0, r212_1, r212_2, r212_3, r212_5, r212_6, r212_9, r212_12, r212_13, r212_14, r212_17, r212_20, r212_21, r212_22, r212_23, r212_24, r212_25, r212_26, r212_29, r212_32, r212_33, cs_nil, cs_cons, lc_lt, lc_ge, lc_gt, lc_le, lc_eq, hp, bm, bm_or0, am_wid2] using ih'
  have := key n 0 f (by omega) fU_refl
  simpa [q212, r212_0, r212_1, r212_2, r212_3, r212_5, r212_6, r212_9, r212_12, r212_13, r212_14, r212_17, r212_20, r212_21, r212_22, r212_23, r212_24, r212_25, r212_26, r212_29, r212_32, r212_33, cs_nil, cs_cons, lc_lt, lc_ge, lc_gt, lc_le, lc_eq, bm] using this
theorem m_clm1 {d : Nat} {f : am_F} {Q : am_V → am_F → Prop} {v t k : Int} (hv : -1000000 ≤ v ∧ v ≤ 1000000) (hQ : Q (0, clm 1 99 v) f) : aw_wp d 235 31 [(110, 270), (0, t), (0, k), (2, 0), (2, 0)] [(1, v)] f Q := by
  unfold clm at hQ
  by_cases i1 : v < 1
  · have i2 : ¬ 1 ≤ v := by omega
    simpa [q235, r235_0, r235_1, r235_2, r235_5, r235_8, r235_9, r235_10, r235_11, r235_12, r235_15, r235_17, r235_18, r235_19, r235_20, r235_21, r235_22, r235_25, r235_26, r235_27, r235_28, r235_31, r235_32, r235_33, r235_34, r235_35, r235_38, r235_39, r235_42, r235_43, r235_46, r235_47, r235_50, r235_52, r235_55, r235_56, r235_57, cs_nil, cs_cons, lc_lt, lc_ge, lc_gt, lc_le, lc_eq, i1, i2] using hQ
  · have i2 : 1 ≤ v := by omega
    by_cases i3 : 99 < v
    · have i4 : ¬ v ≤ 99 := by omega
      simpa [q235, r235_0, r235_1, r235_2, r235_5, r235_8, r235_9, r235_10, r235_11, r235_12, r235_15, r235_17, r235_18, r235_19, r235_20, r235_21, r235_22, r235_25, r235_26, r235_27, r235_28, r235_31, r235_32, r235_33, r235_34, r235_35, r235_38, r235_39, r235_42, r235_43, r235_46, r235_47, r235_50, r235_52, r235_55, r235_56, r235_57, cs_nil, cs_cons, lc_lt, lc_ge, lc_gt, lc_le, lc_eq, i1, i2, i3, i4] using hQ
    · have i4 : v ≤ 99 := by omega
      simpa (disch := omega) [q235, r235_0, r235_1, r235_2, r235_5, r235_8, r235_9, r235_10, r235_11, r235_12, r235_15, r235_17, r235_18, r235_19, r235_20, r235_21, r235_22, r235_25, r235_26, r235_27, r235_28, r235_31, r235_32, r235_33, r235_34, r235_35, r235_38, r235_39, r235_42, r235_43, r235_46, r235_47, r235_50, r235_52, r235_55, r235_56, r235_57, cs_nil, cs_cons, lc_lt, lc_ge, lc_gt, lc_le, lc_eq, i1, i2, i3, i4, am_wid2] using hQ
theorem m_hours {d n m r : Nat} {f L z : am_F} {Q : am_V → am_F → Prop} {t k : Int} {ρ : Int → List Int} {τ : Int → Bool} (h : MB f n m r L ρ τ z) (h0 : 0 ≤ t) (h1 : t < n) (h2 : 0 ≤ k) (h3 : k < m) (hQ : ∀ f1, fU f f1 → Q (0, aH L ρ z t k) f1) : aw_cl (d + 4) 235 [(110, 270), (0, t), (0, k)] f Q := by
  obtain ⟨hl, hz, hT, ho⟩ := id h
  have hm := hl.1
  unfold mfx at hm
  have hm4 := hT.2.1
  have hb := hT.2.2.2.2.2.1 k h2 h3
  have hs := (hl.2.2.2.1 k h2 h3).1
  have c1 : (0 : Int) ≤ 8 + 2 * k ∧ 8 + 2 * k < 16 := by omega
  unfold aH at hQ
  by_cases ht : τ 2 = true
  · simp (disch := omega) [q235, r235_0, r235_1, r235_2, r235_5, r235_8, r235_9, r235_10, r235_11, r235_12, r235_15, r235_17, r235_18, r235_19, r235_20, r235_21, r235_22, r235_25, r235_26, r235_27, r235_28, r235_31, r235_32, r235_33, r235_34, r235_35, r235_38, r235_39, r235_42, r235_43, r235_46, r235_47, r235_50, r235_52, r235_55, r235_56, r235_57, cs_nil, cs_cons, lc_lt, lc_ge, lc_gt, lc_le, lc_eq, hm, ln_304, am_wid2, c1, hs, m_told hl hT (w := 2), ht]
    have hf0 : fU f (am_up f 270 55 (L 6 k)) := fun c j hc => am_un (by omega)
    obtain ⟨hl', hz', hT', ho'⟩ := MB_fU h hf0
    refine m_val (w := 2) (z := z) (gv := L 6 k) hT hl' hz' ho (by omega) h0 h1 ht (fun _ => ⟨am_ue, by omega⟩) ?_
    intro f1 hf
    have hv := V_b hT ho (w := 2) (gv := L 6 k) (by omega) h0 h1 (by omega)
    have := m_clm1 (d := d + 4) (Q := Q) (t := t) (k := k) ⟨hv.1, hv.2.1⟩ (hQ f1 (fU_tr hf0 (fT_U hf)))
    simpa using this
  · have e : V L ρ z t (L 6 k) 2 = 4 := by
      unfold V
      rw [ml_un hl (by omega) (by omega) ht]
      simp [dfl, vl, er, e1]
    have := hQ f fU_refl
    simpa (disch := omega) [q235, r235_0, r235_1, r235_2, r235_5, r235_8, r235_9, r235_10, r235_11, r235_12, r235_15, r235_17, r235_18, r235_19, r235_20, r235_21, r235_22, r235_25, r235_26, r235_27, r235_28, r235_31, r235_32, r235_33, r235_34, r235_35, r235_38, r235_39, r235_42, r235_43, r235_46, r235_47, r235_50, r235_52, r235_55, r235_56, r235_57, cs_nil, cs_cons, lc_lt, lc_ge, lc_gt, lc_le, lc_eq, m_told hl hT (w := 2), ht, e, clm] using this
theorem m_clm0 {d : Nat} {f : am_F} {Q : am_V → am_F → Prop} {v t k : Int} (hv : -1000000 ≤ v ∧ v ≤ 1000000) (hQ : Q (0, clm 0 99 v) f) : aw_wp d 237 37 [(110, 270), (0, t), (0, k), (2, 0), (2, 0)] [(1, v)] f Q := by
  unfold clm at hQ
  by_cases i1 : v < 0
  · have i2 : ¬ 0 ≤ v := by omega
    simpa [q237, r237_0, r237_1, r237_2, r237_5, r237_7, r237_8, r237_9, r237_10, r237_11, r237_12, r237_15, r237_16, r237_17, r237_20, r237_23, r237_24, r237_25, r237_26, r237_29, r237_32, r237_33, r237_36, r237_37, r237_38, r237_39, r237_40, r237_41, r237_44, r237_45, r237_48, r237_49, r237_52, r237_53, r237_56, r237_58, r237_61, r237_62, r237_63, cs_nil, cs_cons, lc_lt, lc_ge, lc_gt, lc_le, lc_eq, i1, i2] using hQ
  · have i2 : 0 ≤ v := by omega
    by_cases i3 : 99 < v
    · have i4 : ¬ v ≤ 99 := by omega
      simpa [q237, r237_0, r237_1, r237_2, r237_5, r237_7, r237_8, r237_9, r237_10, r237_11, r237_12, r237_15, r237_16, r237_17, r237_20, r237_23, r237_24, r237_25, r237_26, r237_29, r237_32, r237_33, r237_36, r237_37, r237_38, r237_39, r237_40, r237_41, r237_44, r237_45, r237_48, r237_49, r237_52, r237_53, r237_56, r237_58, r237_61, r237_62, r237_63, cs_nil, cs_cons, lc_lt, lc_ge, lc_gt, lc_le, lc_eq, i1, i2, i3, i4] using hQ
    · have i4 : v ≤ 99 := by omega
      simpa (disch := omega) [q237, r237_0, r237_1, r237_2, r237_5, r237_7, r237_8, r237_9, r237_10, r237_11, r237_12, r237_15, r237_16, r237_17, r237_20, r237_23, r237_24, r237_25, r237_26, r237_29, r237_32, r237_33, r237_36, r237_37, r237_38, r237_39, r237_40, r237_41, r237_44, r237_45, r237_48, r237_49, r237_52, r237_53, r237_56, r237_58, r237_61, r237_62, r237_63, cs_nil, cs_cons, lc_lt, lc_ge, lc_gt, lc_le, lc_eq, i1, i2, i3, i4, am_wid2] using hQ
theorem m_fine {d n m r : Nat} {f L z : am_F} {Q : am_V → am_F → Prop} {t k : Int} {ρ : Int → List Int} {τ : Int → Bool} (h : MB f n m r L ρ τ z) (h0 : 0 ≤ t) (h1 : t < n) (h2 : 0 ≤ k) (h3 : k < m) (hQ : ∀ f1, fU f f1 → Q (0, aF L ρ z t k) f1) : aw_cl (d + 4) 237 [(110, 270), (0, t), (0, k)] f Q := by
  obtain ⟨hl, hz, hT, ho⟩ := id h
  have hm := hl.1
  unfold mfx at hm
  have hm4 := hT.2.1
  have hb := hT.2.2.2.2.2.1 k h2 h3
  have hs := (hl.2.2.2.1 k h2 h3).1
  have c1 : (0 : Int) ≤ 8 + 2 * k ∧ 8 + 2 * k < 16 := by omega
  have hf0 : fU f (am_up f 270 55 (L 6 k)) := fun c j hc => am_un (by omega)
  obtain ⟨hl', hz', hT', ho'⟩ := MB_fU h hf0
  unfold aF at hQ
  by_cases ht : τ 3 = true
  · simp (disch := omega) [q237, r237_0, r237_1, r237_2, r237_5, r237_7, r237_8, r237_9, r237_10, r237_11, r237_12, r237_15, r237_16, r237_17, r237_20, r237_23, r237_24, r237_25, r237_26, r237_29, r237_32, r237_33, r237_36, r237_37, r237_38, r237_39, r237_40, r237_41, r237_44, r237_45, r237_48, r237_49, r237_52, r237_53, r237_56, r237_58, r237_61, r237_62, r237_63, cs_nil, cs_cons, lc_lt, lc_ge, lc_gt, lc_le, lc_eq, hm, ln_304, am_wid2, c1, hs, m_told hl' hT (w := 3), ht]
    refine m_val (w := 3) (z := z) (gv := L 6 k) hT hl' hz' ho (by omega) h0 h1 ht (fun _ => ⟨am_ue, by omega⟩) ?_
    intro f1 hf
    have hv := V_b hT ho (w := 3) (gv := L 6 k) (by omega) h0 h1 (by omega)
    have := m_clm0 (d := d + 4) (Q := Q) (t := t) (k := k) ⟨hv.1, hv.2.1⟩ (hQ f1 (fU_tr hf0 (fT_U hf)))
    simpa [q237, r237_0, r237_1, r237_2, r237_5, r237_7, r237_8, r237_9, r237_10, r237_11, r237_12, r237_15, r237_16, r237_17, r237_20, r237_23, r237_24, r237_25, r237_26, r237_29, r237_32, r237_33, r237_36, r237_37, r237_38, r237_39, r237_40, r237_41, r237_44, r237_45, r237_48, r237_49, r237_52, r237_53, r237_56, r237_58, r237_61, r237_62, r237_63, cs_nil, cs_cons, lc_lt, lc_ge, lc_gt, lc_le, lc_eq] using this
  · have e : V L ρ z t (L 6 k) 3 = L 6 k := by
      unfold V
      rw [ml_un hl (by omega) (by omega) ht]
      simp [dfl, vl, er, e1, ptZ]
    have := m_clm0 (d := d + 4) (Q := Q) (t := t) (k := k) (v := L 6 k) (by omega) (by have := hQ _ hf0; rwa [e] at this)
    simp (disch := omega) [q237, r237_0, r237_1, r237_2, r237_5, r237_7, r237_8, r237_9, r237_10, r237_11, r237_12, r237_15, r237_16, r237_17, r237_20, r237_23, r237_24, r237_25, r237_26, r237_29, r237_32, r237_33, r237_36, r237_37, r237_38, r237_39, r237_40, r237_41, r237_44, r237_45, r237_48, r237_49, r237_52, r237_53, r237_56, r237_58, r237_61, r237_62, r237_63, cs_nil, cs_cons, lc_lt, lc_ge, lc_gt, lc_le, lc_eq, hm, ln_304, am_wid2, c1, hs, m_told hl' hT (w := 3), ht, am_ue] at this ⊢
    exact this
theorem m_first {d n m r : Nat} {f L z : am_F} {Q : am_V → am_F → Prop} {t : Int} {ρ : Int → List Int} {τ : Int → Bool} (h : MB f n m r L ρ τ z) (h0 : 0 ≤ t) (h1 : t < n) (hQ : ∀ f1, fU f f1 → Q (1, V L ρ z t 0 4) f1) : aw_cl (d + 4) 252 [(110, 270), (0, t)] f Q := by
  obtain ⟨hl, hz, hT, ho⟩ := id h
  have hm := hl.1
  unfold mfx at hm
  have hn8 := hT.1
  have hu := (hl.2.2.1 t h0 h1).2
  have c1 : (0 : Int) ≤ 25 + 3 * t ∧ 25 + 3 * t < 48 := by omega
  by_cases ht : τ 4 = true
  · simp (disch := omega) [q252, r252_0, r252_1, r252_2, r252_5, r252_8, r252_9, r252_10, r252_11, r252_14, r252_17, r252_18, r252_19, r252_22, r252_23, cs_nil, cs_cons, lc_lt, lc_ge, lc_gt, lc_le, lc_eq, m_told hl hT (w := 4), ht]
    refine m_val (w := 4) (z := z) (gv := 0) hT hl hz ho (by omega) h0 h1 ht (by omega) ?_
    intro f1 hf
    have := hQ f1 (fT_U hf)
    simpa [q252, r252_0, r252_1, r252_2, r252_5, r252_8, r252_9, r252_10, r252_11, r252_14, r252_17, r252_18, r252_19, r252_22, r252_23, cs_nil, cs_cons, lc_lt, lc_ge, lc_gt, lc_le, lc_eq] using this
  · have e : V L ρ z t 0 4 = L 3 t := by
      unfold V
      rw [ml_un hl (by omega) (by omega) ht]
      simp [dfl, vl, er, e1, ptZ]
    have := hQ f fU_refl
    simpa (disch := omega) [q252, r252_0, r252_1, r252_2, r252_5, r252_8, r252_9, r252_10, r252_11, r252_14, r252_17, r252_18, r252_19, r252_22, r252_23, q218, r218_0, r218_1, r218_4, r218_6, r218_7, r218_8, r218_9, r218_10, r218_11, cs_nil, cs_cons, lc_lt, lc_ge, lc_gt, lc_le, lc_eq, hm, ln_303, am_wid2, c1, hu, m_told hl hT (w := 4), ht, e] using this
theorem m_isTrial {d n m r : Nat} {f L z : am_F} {Q : am_V → am_F → Prop} {t k : Int} {ρ : Int → List Int} {τ : Int → Bool} (h : MB f n m r L ρ τ z) (h0 : 0 ≤ t) (h1 : t < n) (h2 : 0 ≤ k) (h3 : k < r) (hQ : ∀ f1, fU f f1 → Q (0, if V L ρ z t 0 (5 + k) = 0 then 0 else 1) f1) : aw_cl (d + 4) 240 [(110, 270), (0, k), (0, t)] f Q := by
  obtain ⟨hl, hz, hT, ho⟩ := id h
  have hr5 := hT.2.2.1
  have ht : τ (5 + k) = true := by
    rcases hl.2.2.2.2 (5 + k) (by omega) (by omega) with ⟨e0, _⟩ | ⟨_, e, _⟩
    · exact e0
    · omega
  simp (disch := omega) [q240, r240_0, r240_1, r240_2, r240_3, r240_4, r240_5, r240_8, r240_9, r240_10, r240_13, r240_14, r240_17, r240_18, cs_nil, cs_cons, lc_lt, lc_ge, lc_gt, lc_le, lc_eq, am_wid2]
  refine m_val (w := 5 + k) (z := z) (gv := 0) hT hl hz ho (by omega) h0 h1 ht (by omega) ?_
  intro f1 hf
  have := hQ f1 (fT_U hf)
  have hv := (V_b hT ho (w := 5 + k) (gv := 0) (by omega) h0 h1 (by omega)).2.2 (by simp [tyw]; omega)
  by_cases hv0 : V L ρ z t 0 (5 + k) = 0
  · simpa [q240, r240_0, r240_1, r240_2, r240_3, r240_4, r240_5, r240_8, r240_9, r240_10, r240_13, r240_14, r240_17, r240_18, cs_nil, cs_cons, lc_lt, lc_ge, lc_gt, lc_le, lc_eq, hv0] using this
  · have hv1 : V L ρ z t 0 (5 + k) = 1 := by omega
    simpa [q240, r240_0, r240_1, r240_2, r240_3, r240_4, r240_5, r240_8, r240_9, r240_10, r240_13, r240_14, r240_17, r240_18, cs_nil, cs_cons, lc_lt, lc_ge, lc_gt, lc_le, lc_eq, hv1] using this
def aP (L : am_F) (ρ : Int → List Int) (z : am_F) (t k : Int) : Bool := decide (¬ V L ρ z t 0 (5 + k) = 0)
theorem c_passed {d n m r : Nat} {f L z : am_F} {Q : am_V → am_F → Prop} {a l t : Int} {ρ : Int → List Int} (h : CB f a l n m r L ρ z) (h0 : 0 ≤ t) (h1 : t < n) (hQ : ∀ f1, fK f f1 → Q (0, (bm (fun k => aP L ρ z t (k : Int)) r : Int)) f1) : aw_cl (d + 4) 92 [(101, 36), (107, a), (0, t)] f Q := by
  have key : ∀ j k : Nat, ∀ g, k + j = r → fK f g → aw_wp (d + 4) 92 5 [(101, 36), (107, a), (0, t), (0, (bm (fun k => aP L ρ z t (k : Int)) k : Int)), (0, (k : Int))] [] g Q := by
    intro j
    induction j with
    | zero =>
      intro k g ht hg
      obtain rfl : k = r := by omega
      obtain ⟨hx, hl, hz, hT, ho⟩ := CB_fK h hg
      have hS := hz.1
      have hL := hl.1
      have hla := hz.2.2.1
      have hn := hl.2.2.1.2.2.1
      unfold sS at hS
      unfold sL at hL
      have := hQ g hg
      rw [r92_5]
      simpa [q92, r92_0, r92_1, r92_2, r92_3, r92_7, r92_8, r92_11, r92_14, r92_17, r92_18, r92_19, r92_22, r92_23, r92_26, r92_29, r92_31, r92_32, r92_33, r92_34, r92_37, r92_40, r92_41, r92_43, r92_44, r92_47, r92_48, r92_49, r92_50, r92_53, r92_56, r92_57, cs_nil, cs_cons, lc_lt, lc_ge, lc_gt, lc_le, lc_eq, hS, hL, hla, hn] using this
    | succ j ih =>
      intro k g ht hg
      obtain ⟨hx, hl, hz, hT, ho⟩ := CB_fK h hg
      have hS := hz.1
      have hL := hl.1
      have hla := hz.2.2.1
      have hn := hl.2.2.1.2.2.1
      have hr5 := hT.2.2.1
      unfold sS at hS
      unfold sL at hL
      have c1 : ¬ r ≤ k := by omega
      rw [r92_5]
      simp [q92, r92_0, r92_1, r92_2, r92_3, r92_7, r92_8, r92_11, r92_14, r92_17, r92_18, r92_19, r92_22, r92_23, r92_26, r92_29, r92_31, r92_32, r92_33, r92_34, r92_37, r92_40, r92_41, r92_43, r92_44, r92_47, r92_48, r92_49, r92_50, r92_53, r92_56, r92_57, cs_nil, cs_cons, lc_lt, lc_ge, lc_gt, lc_le, lc_eq, hx, hS, hL, hla, hn, c1]
      refine c_val (w := 5 + k) (z := z) hx.1 hT hl hz ho (by omega) h0 h1 rfl (by unfold cr; rw [if_neg (by omega)]; omega) (by omega) ?_
      intro f1 hf
      have ih' := ih (k + 1) f1 (by omega) (fK_tr hg hf)
      by_cases hp : V L ρ z t 0 (5 + (k : Int)) = 0
      · simpa (disch := omega) [q92, r92_0, r92_1, r92_2, r92_3, r92_7, r92_8, r92_11, r92_14, r92_17, r92_18, r92_19, r92_22, r92_23, r92_26, r92_29, r92_31, r92_32, r92_33, r92_34, r92_37, r92_40, r92_41, r92_43, r92_44, r92_47, r92_48, r92_49, r92_50, r92_53, r92_56, r92_57, cs_nil, cs_cons, lc_lt, lc_ge, lc_gt, lc_le, lc_eq, aP, hp, bm, bm_or0, am_wid2] using ih'
      · simpa (disch := omega) [q92, r92_0, r92_1, r92_2, r92_3, r92_7, r92_8, r92_11, r92_14, r92_17, r92_18, r92_19, r92_22, r92_23, r92_26, r92_29, r92_31, r92_32, r92_33, r92_34, r92_37, r92_40, r92_41, r92_43, r92_44, r92_47, r92_48, r92_49, r92_50, r92_53, r92_56, r92_57, cs_nil, cs_cons, lc_lt, lc_ge, lc_gt, lc_le, lc_eq, aP, hp, bm, bm_set, am_wid2] using ih'
  have := key r 0 f (by omega) fK_refl
  simpa [q92, r92_0, r92_1, r92_2, r92_3, r92_7, r92_8, r92_11, r92_14, r92_17, r92_18, r92_19, r92_22, r92_23, r92_26, r92_29, r92_31, r92_32, r92_33, r92_34, r92_37, r92_40, r92_41, r92_43, r92_44, r92_47, r92_48, r92_49, r92_50, r92_53, r92_56, r92_57, cs_nil, cs_cons, lc_lt, lc_ge, lc_gt, lc_le, lc_eq, bm] using this
