/-! breaks, gain, chance -/
section
variable {d n m r : Nat} {f L z : am_F} {ρ : Int → List Int} {τ : Int → Bool} {l : Int} {Z : Int → am_F} {Q : am_V → am_F → Prop}
def fbk (L : am_F) (ρ : Int → List Int) (n m : Nat) (t : Int) : Nat → am_F → Int → Int
  | 0, _, _ => -1
  | j + 1, z, k => if aFl L ρ z t = true then k else fbk L ρ n m t j (day L ρ n m z) (k + 1)
theorem c_breaksL {t M : Int} (ht : 0 ≤ t) (htn : t < n) (hM : M ≤ 60) (hx : f 0 3 = 36 ∧ f 0 7 = 56) : ∀ (j : Nat) (k : Int) (z g : am_F), k + j = M + 1 → 1 ≤ k → z 0 0 + j ≤ 999 → CB g 56 l n m r L ρ z → CN g 56 z → fL 56 f g → (∀ g', sS g' 56 → fL 56 f g' → Q (0, fbk L ρ n m t j z k) g') → aw_wp (d + 8) 106 28 [(109, 0), (0, t), (0, M), (0, k)] [] g Q := by
  intro j
  induction j with
  | zero =>
    intro k z g h1 h2 h5 h6 h7 h8 hQ
    have := hQ g h6.2.2.1.1 h8
    rw [r106_28]
    simpa (disch := omega) [q106, r106_0, r106_1, r106_2, r106_5, r106_8, r106_9, r106_10, r106_11, r106_14, r106_15, r106_16, r106_19, r106_20, r106_23, r106_26, r106_27, r106_29, r106_30, r106_33, r106_34, r106_37, r106_38, r106_41, r106_44, r106_45, r106_46, r106_47, r106_48, r106_49, r106_52, r106_53, r106_54, r106_57, r106_60, r106_61, cs_nil, cs_cons, lc_lt, lc_ge, lc_gt, lc_le, lc_eq, le_T, lt_T, le_F, lt_F, fbk] using this
  | succ j ih =>
    intro k z g h1 h2 h5 h6 h7 h8 hQ
    have x3 : g 0 3 = 36 := (h8 _ _ (by omega)).trans hx.1
    have x6 : g 0 7 = 56 := (h8 _ _ (by omega)).trans hx.2
    have hn := h6.2.2.2.1.1
    rw [r106_28]
    simp (disch := omega) [q106, r106_0, r106_1, r106_2, r106_5, r106_8, r106_9, r106_10, r106_11, r106_14, r106_15, r106_16, r106_19, r106_20, r106_23, r106_26, r106_27, r106_29, r106_30, r106_33, r106_34, r106_37, r106_38, r106_41, r106_44, r106_45, r106_46, r106_47, r106_48, r106_49, r106_52, r106_53, r106_54, r106_57, r106_60, r106_61, cs_nil, cs_cons, lc_lt, lc_ge, lc_gt, lc_le, lc_eq, le_T, lt_F, x3, x6]
    refine c_live h6 h7 (by omega) ?_
    intro g1 q1 q2 q3
    obtain ⟨t', rfl⟩ : ∃ t' : Nat, t = t' := ⟨t.toNat, by omega⟩
    have eb := bm_tst (p := fun t => aFl L ρ z (t : Int)) (n := n) (t := t') (by omega) (by omega)
    by_cases hf : aFl L ρ z (t' : Int) = true
    · have := hQ g1 q1.2.2.1.1 (fL_tr h8 q3)
      rw [fbk, if_pos hf] at this
      simpa (disch := omega) [q106, r106_0, r106_1, r106_2, r106_5, r106_8, r106_9, r106_10, r106_11, r106_14, r106_15, r106_16, r106_19, r106_20, r106_23, r106_26, r106_27, r106_29, r106_30, r106_33, r106_34, r106_37, r106_38, r106_41, r106_44, r106_45, r106_46, r106_47, r106_48, r106_49, r106_52, r106_53, r106_54, r106_57, r106_60, r106_61, cs_nil, cs_cons, lc_lt, lc_ge, lc_gt, lc_le, lc_eq, eb, hf] using this
    · have ih' := ih (k + 1) (day L ρ n m z) g1 (by omega) (by omega) (by rw [day_d]; omega) q1 q2 (fL_tr h8 q3) (fun g' e1 e2 => by
        have := hQ g' e1 e2
        rwa [fbk, if_neg hf] at this)
      simpa (disch := omega) [q106, r106_0, r106_1, r106_2, r106_5, r106_8, r106_9, r106_10, r106_11, r106_14, r106_15, r106_16, r106_19, r106_20, r106_23, r106_26, r106_27, r106_29, r106_30, r106_33, r106_34, r106_37, r106_38, r106_41, r106_44, r106_45, r106_46, r106_47, r106_48, r106_49, r106_52, r106_53, r106_54, r106_57, r106_60, r106_61, cs_nil, cs_cons, lc_lt, lc_ge, lc_gt, lc_le, lc_eq, eb, hf, am_wid2] using ih'
theorem m_breaksN {t : Int} (ht : 0 ≤ t) (htn : t < n) {M : Int} (hM : M ≤ 60) : ∀ (j : Nat) (k : Int) (z g : am_F), k + j = M + 1 → 1 ≤ k → (k + j = 61 ∨ z 0 0 + j = 999) → z 0 0 + j ≤ 999 → g 270 57 = 1 → MB g n m r L ρ τ z → fD 1 f g → (∀ g' x, mfx g' → fD 1 f g' → aw_wp (d + 8) 255 62 [(110, 270), (0, t), (0, fbk L ρ n m t j z k), (0, x)] [] g' Q) → aw_wp (d + 8) 255 18 [(110, 270), (0, t), (0, -1), (0, k)] [] g Q := by
  intro j
  induction j with
  | zero =>
    intro k z g h1 h2 h3 h5 h57 h6 h8 hQ
    have := hQ g k h6.1.1 h8
    have e0 := h6.2.1.1
    rw [fbk] at this
    rw [r255_18]
    by_cases hk : 60 < k
    · simpa (disch := omega) [q255, r255_19, r255_21, le_T, lt_T, le_F, lt_F] using this
    · have hz : 999 ≤ z 0 0 := by omega
      simpa (disch := omega) [q255, r255_19, r255_21, r255_24, r255_25, r255_26, r255_29, r255_30, r255_33, r255_34, r255_35, r255_38, le_T, lt_T, le_F, lt_F, mfx_u h6.1.1, ln_308, e0, hz] using this
  | succ j ih =>
    intro k z g h1 h2 h3 h5 h57 h6 h8 hQ
    have hn := h6.2.2.1.1
    have e0 := h6.2.1.1
    rw [r255_18]
    simp (disch := omega) [q255, r255_19, r255_21, r255_24, r255_25, r255_26, r255_29, r255_30, r255_33, r255_34, r255_35, r255_38, r255_41, r255_42, cs_nil, cs_cons, lc_lt, lc_ge, lc_gt, lc_le, lc_eq, le_T, lt_T, le_F, lt_F, mfx_u h6.1.1, ln_308, e0]
    refine m_day h6 h57 (Or.inr rfl) (fun q => by omega) (by omega) ?_
    intro g1 q1 q2 q3 q4 q5
    have e11 := q4 t ht htn
    by_cases hf : aFl L ρ z t = true
    · rw [if_pos hf] at e11
      have := fun x => hQ g1 x q1.1.1 (fD_tr h8 q5)
      rw [fbk, if_pos hf] at this
      have hk : aw_wp (d + 8) 255 18 [(110, 270), (0, t), (0, k), (0, k + 1)] [] g1 Q := by
        rw [r255_18]
        by_cases hk : 60 < k + 1
        · simpa (disch := omega) [q255, r255_19, r255_21, le_T, lt_T, le_F, lt_F] using this (k + 1)
        · simpa (disch := omega) [q255, r255_19, r255_21, r255_24, r255_25, r255_26, le_T, lt_T, le_F, lt_F, eq_F] using this (k + 1)
      simpa (disch := omega) [q255, r255_0, r255_1, r255_2, r255_5, r255_8, r255_9, r255_10, r255_11, r255_12, r255_13, r255_16, r255_17, r255_19, r255_21, r255_24, r255_25, r255_26, r255_29, r255_30, r255_33, r255_34, r255_35, r255_38, r255_41, r255_42, r255_45, r255_46, r255_49, r255_50, r255_51, r255_54, r255_55, r255_56, r255_59, r255_62, r255_63, r255_66, r255_67, cs_nil, cs_cons, lc_lt, lc_ge, lc_gt, lc_le, lc_eq, mfx_u q1.1.1, ln_311, e11, am_wid2, le_T, lt_T] using hk
    · rw [if_neg hf] at e11
      have ih' := ih (k + 1) (day L ρ n m z) g1 (by omega) (by omega) (by rw [day_d]; omega) (by rw [day_d]; omega) (by rw [q5 _ _ (by omega)]; exact h57) q1 (fD_tr h8 q5) (fun g' x e1 e2 => by
        have := hQ g' x e1 e2
        rwa [fbk, if_neg hf] at this)
      simpa (disch := omega) [q255, r255_0, r255_1, r255_2, r255_5, r255_8, r255_9, r255_10, r255_11, r255_12, r255_13, r255_16, r255_17, r255_19, r255_21, r255_24, r255_25, r255_26, r255_29, r255_30, r255_33, r255_34, r255_35, r255_38, r255_41, r255_42, r255_45, r255_46, r255_49, r255_50, r255_51, r255_54, r255_55, r255_56, r255_59, r255_62, r255_63, r255_66, r255_67, cs_nil, cs_cons, lc_lt, lc_ge, lc_gt, lc_le, lc_eq, mfx_u q1.1.1, ln_311, e11, am_wid2, le_T, lt_T] using ih'
theorem H_breaks (h : IW f n m r L ρ τ z l Z) {t : Int} : HC d 106 255 [(0, t)] 0 f := by
  unfold HC
  have hB := h.2.2.1.1
  have ho := h.2.1.1.2.2.2.2.1
  have hi := h.iv
  have hn := (iw_n h).1
  by_cases hp : 0 ≤ t ∧ t < n
  · obtain ⟨J, hJ⟩ : ∃ J : Nat, (J : Int) = (if 60 ≤ 999 - z 0 0 then 60 else 999 - z 0 0) := ⟨(if 60 ≤ 999 - z 0 0 then 60 else 999 - z 0 0).toNat, by split <;> omega⟩
    have hJ2 : (J : Int) ≤ 60 ∧ z 0 0 + J ≤ 999 ∧ (J = 60 ∨ z 0 0 + J = 999) := by split at hJ <;> omega
    simp (disch := omega) [q106, r106_0, r106_1, r106_2, r106_5, r106_8, r106_9, r106_10, r106_11, r106_14, r106_15, r106_16, r106_19, r106_20, r106_23, r106_26, r106_27, r106_29, r106_30, r106_33, r106_34, r106_37, r106_38, r106_41, r106_44, r106_45, r106_46, r106_47, r106_48, r106_49, r106_52, r106_53, r106_54, r106_57, r106_60, r106_61, cs_nil, cs_cons, lc_lt, lc_ge, lc_gt, lc_le, lc_eq, c_fx h.1.1, c_isT h, c_aheadN h, hp, ← hJ]
    refine c_copyI h ?_
    intro g1 a1 a2 a3
    simp (disch := omega) [q106, r106_0, r106_1, r106_2, r106_5, r106_8, r106_9, r106_10, r106_11, r106_14, r106_15, r106_16, r106_19, r106_20, r106_23, r106_26, r106_27, r106_29, r106_30, r106_33, r106_34, r106_37, r106_38, r106_41, r106_44, r106_45, r106_46, r106_47, r106_48, r106_49, r106_52, r106_53, r106_54, r106_57, r106_60, r106_61, cs_nil, cs_cons, lc_lt, lc_ge, lc_gt, lc_le, lc_eq]
    refine c_breaksL (f := g1) (d := d + 32) hp.1 hp.2 hJ2.1 ⟨(a3 _ _ (by omega)).trans (fx_0_3 h.1.1), (a3 _ _ (by omega)).trans (fx_0_7 h.1.1)⟩ J 1 z g1 (by omega) (by omega) (by omega) a1 a2 (fun _ _ _ => rfl) ?_
    intro g2 b1 b2
    have fr : fL 56 f g2 := fL_tr (fC_L a3) b2
    have hg : ∀ c j : Int, 270 ≤ c → g2 c j = f c j := fun c j hc => fr c j (by omega)
    have hB2 : MB g2 n m r L ρ τ z := MB_fr hB (fun c j _ _ => hg _ _ (by omega)) (fun j _ => hg _ _ (by omega))
    simp (disch := omega) [q255, r255_0, r255_1, r255_2, r255_5, r255_8, r255_9, r255_10, r255_11, r255_12, r255_13, r255_16, r255_17, r255_19, r255_21, r255_24, r255_25, r255_26, r255_29, r255_30, r255_33, r255_34, r255_35, r255_38, r255_41, r255_42, r255_45, r255_46, r255_49, r255_50, r255_51, r255_54, r255_55, r255_56, r255_59, r255_62, r255_63, r255_66, r255_67, cs_nil, cs_cons, lc_lt, lc_ge, lc_gt, lc_le, lc_eq, m_isT hB2, hp]
    refine m_aside hB2 ?_
    intro k1 c1 c2 c3 c4 c5
    simp (disch := omega) [q255, r255_0, r255_1, r255_2, r255_5, r255_8, r255_9, r255_10, r255_11, r255_12, r255_13, r255_16, r255_17, r255_19, r255_21, r255_24, r255_25, r255_26, r255_29, r255_30, r255_33, r255_34, r255_35, r255_38, r255_41, r255_42, r255_45, r255_46, r255_49, r255_50, r255_51, r255_54, r255_55, r255_56, r255_59, r255_62, r255_63, r255_66, r255_67, cs_nil, cs_cons, lc_lt, lc_ge, lc_gt, lc_le, lc_eq]
    refine m_breaksN (f := k1) (d := d + 32) hp.1 hp.2 hJ2.1 J 1 z k1 (by omega) (by omega) (by omega) (by omega) c2 c1 (fun _ _ _ => rfl) ?_
    intro k2 x e1 e2
    simp (disch := omega) [q255, r255_0, r255_1, r255_2, r255_5, r255_8, r255_9, r255_10, r255_11, r255_12, r255_13, r255_16, r255_17, r255_19, r255_21, r255_24, r255_25, r255_26, r255_29, r255_30, r255_33, r255_34, r255_35, r255_38, r255_41, r255_42, r255_45, r255_46, r255_49, r255_50, r255_51, r255_54, r255_55, r255_56, r255_59, r255_62, r255_63, r255_66, r255_67, cs_nil, cs_cons, lc_lt, lc_ge, lc_gt, lc_le, lc_eq]
    refine m_back e1 ?_
    intro k3 i1 i2 i3
    have hs := m_same (l := l) (f := f) (g := g2) (g1 := k1) (g2 := k2) (k := k3) h.1.2.2.2.2.1 c4 c5 (fun c j hc => e2 c j (by omega)) i1 i2 i3 (hg _ _ (by omega))
    have hv := (IW_sp h (fun c j hc => fr c j (by omega)) b1 hs).iv
    simp (disch := omega) [q255, r255_0, r255_1, r255_2, r255_5, r255_8, r255_9, r255_10, r255_11, r255_12, r255_13, r255_16, r255_17, r255_19, r255_21, r255_24, r255_25, r255_26, r255_29, r255_30, r255_33, r255_34, r255_35, r255_38, r255_41, r255_42, r255_45, r255_46, r255_49, r255_50, r255_51, r255_54, r255_55, r255_56, r255_59, r255_62, r255_63, r255_66, r255_67, cs_nil, cs_cons, lc_lt, lc_ge, lc_gt, lc_le, lc_eq, hv]
  · simp (disch := omega) [q106, r106_0, r106_1, r106_2, r106_5, r106_8, r106_9, r106_10, r106_11, r106_14, r106_15, r106_16, r106_19, r106_20, r106_23, r106_26, r106_27, r106_29, r106_30, r106_33, r106_34, r106_37, r106_38, r106_41, r106_44, r106_45, r106_46, r106_47, r106_48, r106_49, r106_52, r106_53, r106_54, r106_57, r106_60, r106_61, q255, r255_0, r255_1, r255_2, r255_5, r255_8, r255_9, r255_10, r255_11, r255_12, r255_13, r255_16, r255_17, r255_19, r255_21, r255_24, r255_25, r255_26, r255_29, r255_30, r255_33, r255_34, r255_35, r255_38, r255_41, r255_42, r255_45, r255_46, r255_49, r255_50, r255_51, r255_54, r255_55, r255_56, r255_59, r255_62, r255_63, r255_66, r255_67, cs_nil, cs_cons, lc_lt, lc_ge, lc_gt, lc_le, lc_eq, c_fx h.1.1, c_isT h, m_isT hB, hp, hi, q106, r106_0, r106_1, r106_2, r106_5, r106_8, r106_9, r106_10, r106_11, r106_14, r106_15, r106_16, r106_19, r106_20, r106_23, r106_26, r106_27, r106_29, r106_30, r106_33, r106_34, r106_37, r106_38, r106_41, r106_44, r106_45, r106_46, r106_47, r106_48, r106_49, r106_52, r106_53, r106_54, r106_57, r106_60, r106_61, q255, r255_0, r255_1, r255_2, r255_5, r255_8, r255_9, r255_10, r255_11, r255_12, r255_13, r255_16, r255_17, r255_19, r255_21, r255_24, r255_25, r255_26, r255_29, r255_30, r255_33, r255_34, r255_35, r255_38, r255_41, r255_42, r255_45, r255_46, r255_49, r255_50, r255_51, r255_54, r255_55, r255_56, r255_59, r255_62, r255_63, r255_66, r255_67, cs_nil, cs_cons, lc_lt, lc_ge, lc_gt, lc_le, lc_eq, m_isT hB, hp]
theorem H_gain (h : IW f n m r L ρ τ z l Z) {t k : Int} : HC d 112 261 [(0, t), (0, k)] 1 f := by
  unfold HC
  have hB := h.2.2.1.1
  have hC := h.2.1.1
  have hi := h.iv
  have hn := (iw_n h).1
  have hT := hC.2.2.2.1
  have hl := h.1.2.2.1
  by_cases hp : 0 ≤ t ∧ t < n
  · by_cases hq : 0 ≤ k ∧ k < m
    · have ec := iw_c h hp.1 hp.2
      by_cases hb : z 1 t = 1
      · have hb1 : bm (fun t' => aSt L ρ (mnd L ρ z t k) (t' : Int)) n < 2147483648 := bm_31 (by omega)
        have hb0 : bm (fun t' => aSt L ρ z (t' : Int)) n < 2147483648 := bm_31 (by omega)
        have ub := fun s : Nat => us_b (g := L 3) (s := s) n (fun t a b => by have := hT.2.2.2.2.1 t a b; omega)
        simp (disch := omega) [q112, r112_0, r112_1, r112_2, r112_5, r112_8, r112_9, r112_10, r112_13, r112_16, r112_17, r112_20, r112_23, r112_24, r112_25, r112_26, r112_29, r112_32, r112_33, r112_34, r112_37, r112_38, r112_41, r112_44, r112_45, r112_48, r112_49, r112_52, r112_53, r112_54, r112_57, r112_58, r112_61, r112_64, r112_65, r112_68, r112_69, r112_72, r112_75, r112_78, r112_79, r112_80, r112_83, r112_86, r112_87, r112_90, r112_91, r112_94, r112_97, r112_100, r112_101, r112_102, cs_nil, cs_cons, lc_lt, lc_ge, lc_gt, lc_le, lc_eq, c_fx h.1.1, iw_S h, c_isT h, c_isM h, ec, hb, hp, hq, le_T, lt_T]
        refine c_copyI h ?_
        intro g1 a1 a2 a3
        have x3 : g1 0 3 = 36 := (a3 _ _ (by omega)).trans (fx_0_3 h.1.1)
        have x7 : g1 0 7 = 56 := (a3 _ _ (by omega)).trans (fx_0_7 h.1.1)
        simp (disch := omega) [q112, r112_0, r112_1, r112_2, r112_5, r112_8, r112_9, r112_10, r112_13, r112_16, r112_17, r112_20, r112_23, r112_24, r112_25, r112_26, r112_29, r112_32, r112_33, r112_34, r112_37, r112_38, r112_41, r112_44, r112_45, r112_48, r112_49, r112_52, r112_53, r112_54, r112_57, r112_58, r112_61, r112_64, r112_65, r112_68, r112_69, r112_72, r112_75, r112_78, r112_79, r112_80, r112_83, r112_86, r112_87, r112_90, r112_91, r112_94, r112_97, r112_100, r112_101, r112_102, cs_nil, cs_cons, lc_lt, lc_ge, lc_gt, lc_le, lc_eq, x3, x7]
        refine c_mendT a1 a2 hp.1 hp.2 hq.1 hq.2 ?_
        intro g2 b1 b2 b3
        have fr2 : fL 56 f g2 := fL_tr (fC_L a3) (fS_L b3)
        have y3 : g2 0 3 = 36 := (fr2 _ _ (by omega)).trans (fx_0_3 h.1.1)
        have y6 : g2 0 6 = 46 := (fr2 _ _ (by omega)).trans (fx_0_6 h.1.1)
        have y7 : g2 0 7 = 56 := (fr2 _ _ (by omega)).trans (fx_0_7 h.1.1)
        have y9 : g2 46 9 = l := (fr2 _ _ (by omega)).trans (iw_l h).2.1
        have hl0 : 0 ≤ l := by omega
        simp (disch := omega) [q112, r112_0, r112_1, r112_2, r112_5, r112_8, r112_9, r112_10, r112_13, r112_16, r112_17, r112_20, r112_23, r112_24, r112_25, r112_26, r112_29, r112_32, r112_33, r112_34, r112_37, r112_38, r112_41, r112_44, r112_45, r112_48, r112_49, r112_52, r112_53, r112_54, r112_57, r112_58, r112_61, r112_64, r112_65, r112_68, r112_69, r112_72, r112_75, r112_78, r112_79, r112_80, r112_83, r112_86, r112_87, r112_90, r112_91, r112_94, r112_97, r112_100, r112_101, r112_102, cs_nil, cs_cons, lc_lt, lc_ge, lc_gt, lc_le, lc_eq, y3, y6, y7, y9, hl0]
        refine c_standing b1 ?_
        intro g3 q1
        have b3' := CB_fK b1 q1
        have z3 : g3 0 3 = 36 := (q1 _ _ (by omega)).trans y3
        have z6 : g3 0 6 = 46 := (q1 _ _ (by omega)).trans y6
        have z9 : g3 46 9 = l := (q1 _ _ (by omega)).trans y9
        simp (disch := omega) [q112, r112_0, r112_1, r112_2, r112_5, r112_8, r112_9, r112_10, r112_13, r112_16, r112_17, r112_20, r112_23, r112_24, r112_25, r112_26, r112_29, r112_32, r112_33, r112_34, r112_37, r112_38, r112_41, r112_44, r112_45, r112_48, r112_49, r112_52, r112_53, r112_54, r112_57, r112_58, r112_61, r112_64, r112_65, r112_68, r112_69, r112_72, r112_75, r112_78, r112_79, r112_80, r112_83, r112_86, r112_87, r112_90, r112_91, r112_94, r112_97, r112_100, r112_101, r112_102, cs_nil, cs_cons, lc_lt, lc_ge, lc_gt, lc_le, lc_eq, c_useOf b3'.2.1 hT hb1, z3, z6, z9, hl0]
        have fr3 : fL 56 f g3 := fL_tr fr2 (fun c j hc => q1 c j (by omega))
        have hC3 : CB g3 46 l n m r L ρ z := by
          refine ⟨b3'.1, b3'.2.1, CZ_fr hC.2.2.1 (fun c j _ _ _ => fr3 _ _ (by omega)), hT, hC.2.2.2.2⟩
        refine c_standing hC3 ?_
        intro g4 q2
        have hC4 := CB_fK hC3 q2
        have u1 := ub (bm (fun t' => aSt L ρ (mnd L ρ z t k) (t' : Int)) n)
        have u0 := ub (bm (fun t' => aSt L ρ z (t' : Int)) n)
        simp (disch := omega) [q112, r112_0, r112_1, r112_2, r112_5, r112_8, r112_9, r112_10, r112_13, r112_16, r112_17, r112_20, r112_23, r112_24, r112_25, r112_26, r112_29, r112_32, r112_33, r112_34, r112_37, r112_38, r112_41, r112_44, r112_45, r112_48, r112_49, r112_52, r112_53, r112_54, r112_57, r112_58, r112_61, r112_64, r112_65, r112_68, r112_69, r112_72, r112_75, r112_78, r112_79, r112_80, r112_83, r112_86, r112_87, r112_90, r112_91, r112_94, r112_97, r112_100, r112_101, r112_102, cs_nil, cs_cons, lc_lt, lc_ge, lc_gt, lc_le, lc_eq, c_useOf hC4.2.1 hT hb0, am_wLd2, hl0]
        have fr4 : fL 56 f g4 := fL_tr fr3 (fun c j hc => q2 c j (by omega))
        have s4 : sS g4 56 := sS_fr b3'.2.2.1.1 (fun j _ _ => q2 _ _ (by omega))
        have hg : ∀ c j : Int, 270 ≤ c → g4 c j = f c j := fun c j hc => fr4 c j (by omega)
        have hB4 : MB g4 n m r L ρ τ z := MB_fr hB (fun c j _ _ => hg _ _ (by omega)) (fun j _ => hg _ _ (by omega))
        simp (disch := omega) [q261, r261_0, r261_1, r261_2, r261_5, r261_8, r261_9, r261_10, r261_13, r261_16, r261_17, r261_18, r261_21, r261_24, r261_27, r261_28, r261_29, r261_30, r261_33, r261_36, r261_37, r261_38, r261_41, r261_42, r261_43, r261_44, r261_47, r261_48, r261_49, r261_52, r261_55, r261_57, r261_58, r261_61, r261_63, r261_64, r261_65, r261_66, cs_nil, cs_cons, lc_lt, lc_ge, lc_gt, lc_le, lc_eq, m_isT hB4, m_isM hB4, m_isBr hB4 hp.1 hp.2, hb, hp, hq]
        refine m_standSet hB4 ?_
        intro k0 v0
        have hBk := MB_fU hB4 v0
        simp (disch := omega) [q261, r261_0, r261_1, r261_2, r261_5, r261_8, r261_9, r261_10, r261_13, r261_16, r261_17, r261_18, r261_21, r261_24, r261_27, r261_28, r261_29, r261_30, r261_33, r261_36, r261_37, r261_38, r261_41, r261_42, r261_43, r261_44, r261_47, r261_48, r261_49, r261_52, r261_55, r261_57, r261_58, r261_61, r261_63, r261_64, r261_65, r261_66, cs_nil, cs_cons, lc_lt, lc_ge, lc_gt, lc_le, lc_eq, m_useBy hBk hb0]
        refine m_aside hBk ?_
        intro k1 c1 c2 c3 c4 c5
        simp (disch := omega) [q261, r261_0, r261_1, r261_2, r261_5, r261_8, r261_9, r261_10, r261_13, r261_16, r261_17, r261_18, r261_21, r261_24, r261_27, r261_28, r261_29, r261_30, r261_33, r261_36, r261_37, r261_38, r261_41, r261_42, r261_43, r261_44, r261_47, r261_48, r261_49, r261_52, r261_55, r261_57, r261_58, r261_61, r261_63, r261_64, r261_65, r261_66, cs_nil, cs_cons, lc_lt, lc_ge, lc_gt, lc_le, lc_eq]
        refine m_mendT (b := 1) c1 c2 (Or.inr rfl) (fun q => by omega) hp.1 hp.2 hq.1 hq.2 ?_
        intro k2 e1 e2 e3 e4
        simp (disch := omega) [q261, r261_0, r261_1, r261_2, r261_5, r261_8, r261_9, r261_10, r261_13, r261_16, r261_17, r261_18, r261_21, r261_24, r261_27, r261_28, r261_29, r261_30, r261_33, r261_36, r261_37, r261_38, r261_41, r261_42, r261_43, r261_44, r261_47, r261_48, r261_49, r261_52, r261_55, r261_57, r261_58, r261_61, r261_63, r261_64, r261_65, r261_66, cs_nil, cs_cons, lc_lt, lc_ge, lc_gt, lc_le, lc_eq]
        refine m_standSet e1 ?_
        intro k3 v3
        have hBk3 := MB_fU e1 v3
        simp (disch := omega) [q261, r261_0, r261_1, r261_2, r261_5, r261_8, r261_9, r261_10, r261_13, r261_16, r261_17, r261_18, r261_21, r261_24, r261_27, r261_28, r261_29, r261_30, r261_33, r261_36, r261_37, r261_38, r261_41, r261_42, r261_43, r261_44, r261_47, r261_48, r261_49, r261_52, r261_55, r261_57, r261_58, r261_61, r261_63, r261_64, r261_65, r261_66, cs_nil, cs_cons, lc_lt, lc_ge, lc_gt, lc_le, lc_eq, m_useBy hBk3 hb1]
        refine m_back hBk3.1.1 ?_
        intro k4 i1 i2 i3
        have hs := m_same (l := l) (f := f) (g := k0) (g1 := k1) (g2 := k3) (k := k4) h.1.2.2.2.2.1 c4 c5 (fun c j hc => (v3 c j (by omega)).trans (e4 c j (by omega))) i1 i2 i3 ((v0 _ _ (by omega)).trans (hg _ _ (by omega)))
        have hv := (IW_sp h (fun c j hc => fr4 c j (by omega)) s4 (fun c j hc => by have q := SC_n hc; exact (hs c j hc).trans (v0 c j (by omega)))).iv
        simp (disch := omega) [q261, r261_0, r261_1, r261_2, r261_5, r261_8, r261_9, r261_10, r261_13, r261_16, r261_17, r261_18, r261_21, r261_24, r261_27, r261_28, r261_29, r261_30, r261_33, r261_36, r261_37, r261_38, r261_41, r261_42, r261_43, r261_44, r261_47, r261_48, r261_49, r261_52, r261_55, r261_57, r261_58, r261_61, r261_63, r261_64, r261_65, r261_66, cs_nil, cs_cons, lc_lt, lc_ge, lc_gt, lc_le, lc_eq, am_wid2, hv]
      · simp (disch := omega) [q112, r112_0, r112_1, r112_2, r112_5, r112_8, r112_9, r112_10, r112_13, r112_16, r112_17, r112_20, r112_23, r112_24, r112_25, r112_26, r112_29, r112_32, r112_33, r112_34, r112_37, r112_38, r112_41, r112_44, r112_45, r112_48, r112_49, r112_52, r112_53, r112_54, r112_57, r112_58, r112_61, r112_64, r112_65, r112_68, r112_69, r112_72, r112_75, r112_78, r112_79, r112_80, r112_83, r112_86, r112_87, r112_90, r112_91, r112_94, r112_97, r112_100, r112_101, r112_102, q261, r261_0, r261_1, r261_2, r261_5, r261_8, r261_9, r261_10, r261_13, r261_16, r261_17, r261_18, r261_21, r261_24, r261_27, r261_28, r261_29, r261_30, r261_33, r261_36, r261_37, r261_38, r261_41, r261_42, r261_43, r261_44, r261_47, r261_48, r261_49, r261_52, r261_55, r261_57, r261_58, r261_61, r261_63, r261_64, r261_65, r261_66, cs_nil, cs_cons, lc_lt, lc_ge, lc_gt, lc_le, lc_eq, c_fx h.1.1, iw_S h, c_isT h, c_isM h, ec, hb, m_isT hB, m_isM hB, m_isBr hB hp.1 hp.2, hp, hq, le_T, lt_T, hi]
    · simp (disch := omega) [q112, r112_0, r112_1, r112_2, r112_5, r112_8, r112_9, r112_10, r112_13, r112_16, r112_17, r112_20, r112_23, r112_24, r112_25, r112_26, r112_29, r112_32, r112_33, r112_34, r112_37, r112_38, r112_41, r112_44, r112_45, r112_48, r112_49, r112_52, r112_53, r112_54, r112_57, r112_58, r112_61, r112_64, r112_65, r112_68, r112_69, r112_72, r112_75, r112_78, r112_79, r112_80, r112_83, r112_86, r112_87, r112_90, r112_91, r112_94, r112_97, r112_100, r112_101, r112_102, q261, r261_0, r261_1, r261_2, r261_5, r261_8, r261_9, r261_10, r261_13, r261_16, r261_17, r261_18, r261_21, r261_24, r261_27, r261_28, r261_29, r261_30, r261_33, r261_36, r261_37, r261_38, r261_41, r261_42, r261_43, r261_44, r261_47, r261_48, r261_49, r261_52, r261_55, r261_57, r261_58, r261_61, r261_63, r261_64, r261_65, r261_66, cs_nil, cs_cons, lc_lt, lc_ge, lc_gt, lc_le, lc_eq, c_fx h.1.1, c_isT h, c_isM h, m_isT hB, m_isM hB, hp, hq, q112, r112_0, r112_1, r112_2, r112_5, r112_8, r112_9, r112_10, r112_13, r112_16, r112_17, r112_20, r112_23, r112_24, r112_25, r112_26, r112_29, r112_32, r112_33, r112_34, r112_37, r112_38, r112_41, r112_44, r112_45, r112_48, r112_49, r112_52, r112_53, r112_54, r112_57, r112_58, r112_61, r112_64, r112_65, r112_68, r112_69, r112_72, r112_75, r112_78, r112_79, r112_80, r112_83, r112_86, r112_87, r112_90, r112_91, r112_94, r112_97, r112_100, r112_101, r112_102, q261, r261_0, r261_1, r261_2, r261_5, r261_8, r261_9, r261_10, r261_13, r261_16, r261_17, r261_18, r261_21, r261_24, r261_27, r261_28, r261_29, r261_30, r261_33, r261_36, r261_37, r261_38, r261_41, r261_42, r261_43, r261_44, r261_47, r261_48, r261_49, r261_52, r261_55, r261_57, r261_58, r261_61, r261_63, r261_64, r261_65, r261_66, cs_nil, cs_cons, lc_lt, lc_ge, lc_gt, lc_le, lc_eq, c_isM h, m_isT hB, m_isM hB, hp, hq, hi]
  · simp (disch := omega) [q112, r112_0, r112_1, r112_2, r112_5, r112_8, r112_9, r112_10, r112_13, r112_16, r112_17, r112_20, r112_23, r112_24, r112_25, r112_26, r112_29, r112_32, r112_33, r112_34, r112_37, r112_38, r112_41, r112_44, r112_45, r112_48, r112_49, r112_52, r112_53, r112_54, r112_57, r112_58, r112_61, r112_64, r112_65, r112_68, r112_69, r112_72, r112_75, r112_78, r112_79, r112_80, r112_83, r112_86, r112_87, r112_90, r112_91, r112_94, r112_97, r112_100, r112_101, r112_102, q261, r261_0, r261_1, r261_2, r261_5, r261_8, r261_9, r261_10, r261_13, r261_16, r261_17, r261_18, r261_21, r261_24, r261_27, r261_28, r261_29, r261_30, r261_33, r261_36, r261_37, r261_38, r261_41, r261_42, r261_43, r261_44, r261_47, r261_48, r261_49, r261_52, r261_55, r261_57, r261_58, r261_61, r261_63, r261_64, r261_65, r261_66, cs_nil, cs_cons, lc_lt, lc_ge, lc_gt, lc_le, lc_eq, c_fx h.1.1, c_isT h, m_isT hB, hp, q112, r112_0, r112_1, r112_2, r112_5, r112_8, r112_9, r112_10, r112_13, r112_16, r112_17, r112_20, r112_23, r112_24, r112_25, r112_26, r112_29, r112_32, r112_33, r112_34, r112_37, r112_38, r112_41, r112_44, r112_45, r112_48, r112_49, r112_52, r112_53, r112_54, r112_57, r112_58, r112_61, r112_64, r112_65, r112_68, r112_69, r112_72, r112_75, r112_78, r112_79, r112_80, r112_83, r112_86, r112_87, r112_90, r112_91, r112_94, r112_97, r112_100, r112_101, r112_102, q261, r261_0, r261_1, r261_2, r261_5, r261_8, r261_9, r261_10, r261_13, r261_16, r261_17, r261_18, r261_21, r261_24, r261_27, r261_28, r261_29, r261_30, r261_33, r261_36, r261_37, r261_38, r261_41, r261_42, r261_43, r261_44, r261_47, r261_48, r261_49, r261_52, r261_55, r261_57, r261_58, r261_61, r261_63, r261_64, r261_65, r261_66, cs_nil, cs_cons, lc_lt, lc_ge, lc_gt, lc_le, lc_eq, m_isT hB, hp, hi]
end
