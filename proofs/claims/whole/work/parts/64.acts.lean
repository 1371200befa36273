/-! strike, mend, forge, undo -/
section
variable {d n m r : Nat} {f L z : am_F} {ρ : Int → List Int} {τ : Int → Bool} {l : Int} {Z : Int → am_F} {Q : am_V → am_F → Prop}
theorem sS_eq {g : am_F} (h1 : sS f 46) (h2 : sS g 46) {j : Int} (h0 : 0 ≤ j) (h8 : j ≤ 8) : g 46 j = f 46 j := by
  have a := (sS_u h1).2.1
  have b := (sS_u h2).2.1
  obtain rfl | rfl | rfl | rfl | rfl | rfl | rfl | rfl | rfl : j = 0 ∨ j = 1 ∨ j = 2 ∨ j = 3 ∨ j = 4 ∨ j = 5 ∨ j = 6 ∨ j = 7 ∨ j = 8 := by omega
  all_goals omega
theorem IW_act (h : IW f n m r L ρ τ z l Z) {g k y : am_F} {Y : Int → am_F} (c0 : ∀ c j : Int, ¬ CC c j → g c j = f c j) (c1 : CZ g 46 l n y) (c2 : CN g 46 y) (c3 : PA g l n Y) (m0 : ∀ c j : Int, ¬ MC c j → k c j = g c j) (m1 : MZ k n y) (m2 : NM k y) (m3 : PB k n Y) (hO : OZ n y) (e : k 270 65 = k 66 2) (fs : FS k) : IW k n m r L ρ τ y l Y := by
  have h' := h
  obtain ⟨_, ⟨b1, _⟩, _, tp, rf, pc, _, _, _⟩ := h
  have hs := fun {j : Int} (q0 : 0 ≤ j) (q8 : j ≤ 8) => sS_eq (j := j) b1.2.2.1.1 c1.1 q0 q8
  have fr : ∀ c j : Int, ¬ CC c j → ¬ MC c j → k c j = f c j := fun c j q1 q2 => (m0 c j q2).trans (c0 c j q1)
  refine IW_mk h' (fun c j hc1 hc2 => ?_) (CZ_fr c1 (fun c j _ _ _ => m0 c j (by omega))) (CN_fr c2 (fun i k _ _ => m0 _ _ (by omega)) (m0 _ _ (by omega)) (fun _ _ _ => rfl)) m1 m2 hO (TP_fr tp (fr _ _ (by omega) (by omega)) (fr _ _ (by omega) (by omega)) (fun j => fr _ _ (by omega) (by omega)) (fun j => fr _ _ (by omega) (by omega))) (RF_fr rf (fun j => fr _ _ (by omega) (by omega)) (fun j => fr _ _ (by omega) (by omega))) (PC_fr pc (fr _ _ (by omega) (by omega)) (fr _ _ (by omega) (by omega)) (fun j => fr _ _ (by omega) (by omega)) (fun j => fr _ _ (by omega) (by omega))) fs ⟨e, PA_fr c3 (fun j _ => m0 _ _ (by omega)) (fun c j _ _ => m0 _ _ (by omega)), m3⟩
  by_cases h46 : c = 46 ∧ 0 ≤ j ∧ j ≤ 8
  · obtain ⟨rfl, q1, q2⟩ := h46
    rw [m0 _ _ (MC_n hc1 hc2)]
    exact hs q1 q2
  · exact fr c j (CC_n hc1 hc2 h46) (MC_n hc1 hc2)
theorem iw_FR (h : IW f n m r L ρ τ z l Z) : FR f n z := by
  intro t a b
  have := h.2.2.1.1.2.1.2.2 t a b
  rw [h.1.2.2.2.2.2, if_neg (by omega)] at this
  exact this.symm
/-- the class has pushed its state -/
theorem c_pushI (h : IW f n m r L ρ τ z l Z) (hQ : ∀ g, PA g l n (psh Z z) → g 66 2 = (if f 66 2 < 20 then f 66 2 + 1 else f 66 2) → CB g 46 l n m r L ρ z → CN g 46 z → (∀ c j : Int, ¬ ((c = 66 ∧ (j = 1 ∨ j = 2)) ∨ (68 ≤ c ∧ c ≤ 267 ∧ ((c - 68) % 10 = 0 → 9 ≤ j))) → g c j = f c j) → Q (3, 0) g) : aw_cl (d + 2) 132 [(102, 66), (107, 46)] f Q := by
  have hl := h.1.2.2.1
  have hb := h.2.1.1
  refine c_push h.1.1 h.2.2.2.2.2.2.2.2.2.1 hb.2.2.1 h.2.1.2 (by omega) (iw_n h).1 ?_
  intro g g1 g2 g3
  refine hQ g g1 g2 ⟨?_, CL_fr hb.2.1 hb.2.2.2.1 (fun c j _ _ => g3 _ _ (by omega)), CZ_fr hb.2.2.1 (fun c j _ _ _ => g3 _ _ (by omega)), hb.2.2.2.1, hb.2.2.2.2⟩ (CN_fr h.2.1.2 (fun i k _ _ => g3 _ _ (by omega)) (g3 _ _ (by omega)) (fun _ _ _ => rfl)) g3
  rw [g3 _ _ (by omega), g3 _ _ (by omega), g3 _ _ (by omega), g3 _ _ (by omega), g3 _ _ (by omega)]
  exact hb.1
/-- the model keeps its state -/
theorem m_keepsI (h : IW f n m r L ρ τ z l Z) {g : am_F} (hg : ∀ c j : Int, 270 ≤ c → g c j = f c j) (hQ : ∀ k, PB k n (psh Z z) → k 270 65 = (if f 66 2 < 20 then f 66 2 + 1 else f 66 2) → MB k n m r L ρ τ z → NM k z → k 270 57 = 0 → (∀ c j : Int, ¬ (c = 316 ∨ (c = 270 ∧ (j = 65 ∨ j = 66))) → k c j = g c j) → Q (3, 0) k) : aw_cl d 276 [(110, 270)] g Q := by
  have hB : MB g n m r L ρ τ z := MB_fr h.2.2.1.1 (fun c j _ _ => hg _ _ (by omega)) (fun j _ => hg _ _ (by omega))
  have hN : NM g z := NM_fr h.2.2.1.2 (fun k _ => hg _ _ (by omega)) (fun _ _ _ => rfl)
  have hn := (iw_n h).1
  have ps := h.2.2.2.2.2.2.2.2
  refine m_keeps (Z := Z) (z := z) hB.1.1 (PB_fr ps.2.2 hn (fun j _ => hg _ _ (by omega)) (fun j => hg _ _ (by omega)) (fun j _ => hg _ _ (by omega))) hB.2.1 hN hB.2.2.2 (FR_fr (iw_FR h) (fun j _ => hg _ _ (by omega))) hn ?_
  intro k k1 k2 k3
  refine hQ k k1 ?_ (MB_fr hB (fun c j _ _ => k3 _ _ (by omega)) (fun j _ => k3 _ _ (by omega))) (NM_fr hN (fun k _ => k3 _ _ (by omega)) (fun _ _ _ => rfl)) ?_ k3
  · rw [k2, hg _ _ (by omega), ps.1]
  · rw [k3 _ _ (by omega), hg _ _ (by omega)]; exact h.1.2.2.2.2.1
theorem m_isBr (h : MB f n m r L ρ τ z) {t : Int} (h0 : 0 ≤ t) (h1 : t < n) : aw_cl (d + 1) 247 [(110, 270), (0, t)] f Q = Q (0, if z 1 t = 1 then 1 else 0) f := by
  have hn := h.2.2.1.1
  have e := h.2.1.2.1 1 t (by omega) (by omega) h0 h1
  by_cases hp : z 1 t = 1
  · simp (disch := omega) [q247, r247_0, r247_1, r247_2, r247_5, r247_6, r247_9, r247_10, r247_13, r247_14, q210, r210_0, r210_1, r210_4, r210_5, r210_6, r210_7, r210_8, r210_9, r210_10, cs_nil, cs_cons, lc_lt, lc_ge, lc_gt, lc_le, lc_eq, mfx_u h.1.1, ln_308, am_wid2, le_T, lt_T, e, hp]
  · simp (disch := omega) [q247, r247_0, r247_1, r247_2, r247_5, r247_6, r247_9, r247_10, r247_13, r247_14, q210, r210_0, r210_1, r210_4, r210_5, r210_6, r210_7, r210_8, r210_9, r210_10, cs_nil, cs_cons, lc_lt, lc_ge, lc_gt, lc_le, lc_eq, mfx_u h.1.1, ln_308, am_wid2, le_T, lt_T, e, hp]
theorem FS_c (h : IW f n m r L ρ τ z l Z) {g k : am_F} (c0 : ∀ c j : Int, ¬ (CC c j ∧ ¬ c = 0) → g c j = f c j) (m0 : ∀ c j : Int, ¬ (MC c j ∧ ¬ (c = 270 ∧ j = 67)) → k c j = g c j) : FS k := FS_fr h.2.2.2.2.2.2.1 (fun j hj => (m0 _ _ (by omega)).trans (c0 _ _ (by omega))) (fun j hj => (m0 _ _ (by omega)).trans (c0 _ _ (by omega)))
theorem H_strike (h : IW f n m r L ρ τ z l Z) {t : Int} : HC d 131 274 [(0, t)] 0 f := by
  unfold HC
  have hB := h.2.2.1.1
  have hm := hB.1.1
  have hi := (IW_ref h (w := 2)).iv
  have hn := (iw_n h).1
  have hB9 := MB_269 hB (j := 2) (v := am_wI (f 269 2 + 1))
  by_cases hp : 0 ≤ t ∧ t < n
  · have ec := iw_c h hp.1 hp.2
    by_cases hb : z 1 t = 1
    · simp (disch := omega) [q131, r131_0, r131_1, r131_2, r131_5, r131_8, r131_9, r131_12, r131_15, r131_16, r131_17, r131_18, r131_21, r131_22, r131_23, r131_26, r131_27, r131_28, r131_29, r131_30, r131_33, r131_34, r131_37, r131_40, r131_41, r131_44, r131_45, r131_48, r131_49, q274, r274_0, r274_1, r274_2, r274_5, r274_8, r274_9, r274_10, r274_13, r274_16, r274_17, r274_20, r274_21, r274_22, r274_25, r274_26, r274_27, r274_30, r274_31, cs_nil, cs_cons, lc_lt, lc_ge, lc_gt, lc_le, lc_eq, c_fx h.1.1, iw_S h, c_isT h, ec, hb, c_refuse h.1.1, m_isT hB9, m_isBr hB9 hp.1 hp.2, m_refuse2 hB9.1.1, am_un, hp, le_T, lt_T, hi]
    · simp (disch := omega) [q131, r131_0, r131_1, r131_2, r131_5, r131_8, r131_9, r131_12, r131_15, r131_16, r131_17, r131_18, r131_21, r131_22, r131_23, r131_26, r131_27, r131_28, r131_29, r131_30, r131_33, r131_34, r131_37, r131_40, r131_41, r131_44, r131_45, r131_48, r131_49, cs_nil, cs_cons, lc_lt, lc_ge, lc_gt, lc_le, lc_eq, c_fx h.1.1, iw_S h, c_isT h, ec, hb, hp, le_T, lt_T]
      refine c_pushI h ?_
      intro g1 a1 a2 a3 a4 a5
      have x6 : g1 0 6 = 46 := (a5 _ _ (by omega)).trans (fx_0_6 h.1.1)
      simp (disch := omega) [q131, r131_0, r131_1, r131_2, r131_5, r131_8, r131_9, r131_12, r131_15, r131_16, r131_17, r131_18, r131_21, r131_22, r131_23, r131_26, r131_27, r131_28, r131_29, r131_30, r131_33, r131_34, r131_37, r131_40, r131_41, r131_44, r131_45, r131_48, r131_49, cs_nil, cs_cons, lc_lt, lc_ge, lc_gt, lc_le, lc_eq, x6]
      refine c_break a3.2.2.1 a4 a3.2.2.2.2 hn hp.1 hp.2 ?_
      intro g2 b1 b2 b3
      simp (disch := omega) [q131, r131_0, r131_1, r131_2, r131_5, r131_8, r131_9, r131_12, r131_15, r131_16, r131_17, r131_18, r131_21, r131_22, r131_23, r131_26, r131_27, r131_28, r131_29, r131_30, r131_33, r131_34, r131_37, r131_40, r131_41, r131_44, r131_45, r131_48, r131_49, cs_nil, cs_cons, lc_lt, lc_ge, lc_gt, lc_le, lc_eq]
      have c270 : ∀ c j : Int, 270 ≤ c → g2 c j = f c j := fun c j hc => (b3 c j (by omega)).trans (a5 c j (by omega))
      have hB2 : MB g2 n m r L ρ τ z := MB_fr hB (fun c j _ _ => c270 _ _ (by omega)) (fun j _ => c270 _ _ (by omega))
      simp (disch := omega) [q274, r274_0, r274_1, r274_2, r274_5, r274_8, r274_9, r274_10, r274_13, r274_16, r274_17, r274_20, r274_21, r274_22, r274_25, r274_26, r274_27, r274_30, r274_31, cs_nil, cs_cons, lc_lt, lc_ge, lc_gt, lc_le, lc_eq, m_isT hB2, m_isBr hB2 hp.1 hp.2, hb, hp]
      refine m_keepsI h c270 ?_
      intro k1 e1 e2 e3 e4 e5 e6
      simp (disch := omega) [q274, r274_0, r274_1, r274_2, r274_5, r274_8, r274_9, r274_10, r274_13, r274_16, r274_17, r274_20, r274_21, r274_22, r274_25, r274_26, r274_27, r274_30, r274_31, cs_nil, cs_cons, lc_lt, lc_ge, lc_gt, lc_le, lc_eq]
      refine m_break (b := 0) e3 e5 (Or.inl rfl) (fun _ => e4) hp.1 hp.2 ?_
      intro k2 q1 q2 q3 q4
      simp (disch := omega) [q274, r274_0, r274_1, r274_2, r274_5, r274_8, r274_9, r274_10, r274_13, r274_16, r274_17, r274_20, r274_21, r274_22, r274_25, r274_26, r274_27, r274_30, r274_31, cs_nil, cs_cons, lc_lt, lc_ge, lc_gt, lc_le, lc_eq]
      have c0 : ∀ c j : Int, ¬ CC c j → g2 c j = f c j := fun c j hc => (b3 c j (by omega)).trans (a5 c j (by omega))
      have m0 : ∀ c j : Int, ¬ MC c j → k2 c j = g2 c j := fun c j hc => (q4 c j (by omega)).trans (e6 c j (by omega))
      refine (IW_act h c0 b1 b2 (PA_fr a1 (fun j _ => b3 _ _ (by omega)) (fun c j _ _ => b3 _ _ (by omega))) m0 q1.2.1 (q2 rfl) (PB_fr e1 hn (fun j _ => q4 _ _ (by omega)) (fun j => q4 _ _ (by omega)) (fun j _ => q4 _ _ (by omega))) q1.2.2.2 ?_ (FS_c h (fun c j hc => (b3 c j (by omega)).trans (a5 c j (by omega))) (fun c j hc => (q4 c j (by omega)).trans (e6 c j (by omega))))).iv
      rw [q4 _ _ (by omega), e2, m0 _ _ (by omega), b3 _ _ (by omega), a2]
  · simp (disch := omega) [q131, r131_0, r131_1, r131_2, r131_5, r131_8, r131_9, r131_12, r131_15, r131_16, r131_17, r131_18, r131_21, r131_22, r131_23, r131_26, r131_27, r131_28, r131_29, r131_30, r131_33, r131_34, r131_37, r131_40, r131_41, r131_44, r131_45, r131_48, r131_49, q274, r274_0, r274_1, r274_2, r274_5, r274_8, r274_9, r274_10, r274_13, r274_16, r274_17, r274_20, r274_21, r274_22, r274_25, r274_26, r274_27, r274_30, r274_31, cs_nil, cs_cons, lc_lt, lc_ge, lc_gt, lc_le, lc_eq, c_fx h.1.1, c_isT h, c_refuse h.1.1, m_isT hB9, m_refuse2 hB9.1.1, hp, q131, r131_0, r131_1, r131_2, r131_5, r131_8, r131_9, r131_12, r131_15, r131_16, r131_17, r131_18, r131_21, r131_22, r131_23, r131_26, r131_27, r131_28, r131_29, r131_30, r131_33, r131_34, r131_37, r131_40, r131_41, r131_44, r131_45, r131_48, r131_49, q274, r274_0, r274_1, r274_2, r274_5, r274_8, r274_9, r274_10, r274_13, r274_16, r274_17, r274_20, r274_21, r274_22, r274_25, r274_26, r274_27, r274_30, r274_31, cs_nil, cs_cons, lc_lt, lc_ge, lc_gt, lc_le, lc_eq, m_isT hB9, m_refuse2 hB9.1.1, hp, am_un, hi, c_refuse h.1.1]
theorem H_mend (h : IW f n m r L ρ τ z l Z) {t k : Int} : HC d 133 277 [(0, t), (0, k)] 0 f := by
  unfold HC
  have hB := h.2.2.1.1
  have hm := hB.1.1
  have hi := (IW_ref h (w := 2)).iv
  have hn := (iw_n h).1
  have hB9 := MB_269 hB (j := 2) (v := am_wI (f 269 2 + 1))
  by_cases hp : 0 ≤ t ∧ t < n
  · by_cases hq : 0 ≤ k ∧ k < m
    · have ec := iw_c h hp.1 hp.2
      by_cases hb : z 1 t = 1
      · simp (disch := omega) [q133, r133_0, r133_1, r133_2, r133_5, r133_8, r133_9, r133_10, r133_13, r133_16, r133_17, r133_20, r133_23, r133_24, r133_25, r133_26, r133_29, r133_30, r133_31, r133_34, r133_35, r133_36, r133_39, r133_40, r133_43, r133_46, r133_47, r133_50, r133_51, r133_54, r133_55, r133_56, r133_59, r133_60, r133_63, r133_66, r133_67, r133_68, cs_nil, cs_cons, lc_lt, lc_ge, lc_gt, lc_le, lc_eq, c_fx h.1.1, iw_S h, c_isT h, c_isM h, ec, hb, hp, hq, le_T, lt_T]
        refine c_pushI h ?_
        intro g1 a1 a2 a3 a4 a5
        have x6 : g1 0 6 = 46 := (a5 _ _ (by omega)).trans (fx_0_6 h.1.1)
        have x3 : g1 0 3 = 36 := (a5 _ _ (by omega)).trans (fx_0_3 h.1.1)
        simp (disch := omega) [q133, r133_0, r133_1, r133_2, r133_5, r133_8, r133_9, r133_10, r133_13, r133_16, r133_17, r133_20, r133_23, r133_24, r133_25, r133_26, r133_29, r133_30, r133_31, r133_34, r133_35, r133_36, r133_39, r133_40, r133_43, r133_46, r133_47, r133_50, r133_51, r133_54, r133_55, r133_56, r133_59, r133_60, r133_63, r133_66, r133_67, r133_68, cs_nil, cs_cons, lc_lt, lc_ge, lc_gt, lc_le, lc_eq, x6, x3]
        refine c_mendT a3 a4 hp.1 hp.2 hq.1 hq.2 ?_
        intro g2 b1 b2 b3
        have y6 : g2 0 6 = 46 := (b3 _ _ (by omega)).trans x6
        have ys := (sS_u b1.2.2.1.1).2
        simp only [Int.reduceAdd] at ys
        have yv : g2 50 t = mnd L ρ z t k 4 t := b1.2.2.1.2.2.2.2 4 t (by omega) (by omega) hp.1 hp.2
        simp (disch := omega) [q133, r133_0, r133_1, r133_2, r133_5, r133_8, r133_9, r133_10, r133_13, r133_16, r133_17, r133_20, r133_23, r133_24, r133_25, r133_26, r133_29, r133_30, r133_31, r133_34, r133_35, r133_36, r133_39, r133_40, r133_43, r133_46, r133_47, r133_50, r133_51, r133_54, r133_55, r133_56, r133_59, r133_60, r133_63, r133_66, r133_67, r133_68, cs_nil, cs_cons, lc_lt, lc_ge, lc_gt, lc_le, lc_eq, y6, ys, hp, yv, le_T, lt_T]
        have c270 : ∀ c j : Int, 270 ≤ c → g2 c j = f c j := fun c j hc => (b3 c j (by omega)).trans (a5 c j (by omega))
        have hB2 : MB g2 n m r L ρ τ z := MB_fr hB (fun c j _ _ => c270 _ _ (by omega)) (fun j _ => c270 _ _ (by omega))
        simp (disch := omega) [q277, r277_0, r277_1, r277_2, r277_5, r277_8, r277_9, r277_10, r277_13, r277_16, r277_17, r277_18, r277_21, r277_24, r277_25, r277_26, r277_29, r277_30, r277_31, r277_34, r277_35, r277_36, r277_37, r277_40, r277_41, r277_42, r277_45, cs_nil, cs_cons, lc_lt, lc_ge, lc_gt, lc_le, lc_eq, m_isT hB2, m_isM hB2, m_isBr hB2 hp.1 hp.2, hb, hp, hq]
        refine m_keepsI h c270 ?_
        intro k1 e1 e2 e3 e4 e5 e6
        simp (disch := omega) [q277, r277_0, r277_1, r277_2, r277_5, r277_8, r277_9, r277_10, r277_13, r277_16, r277_17, r277_18, r277_21, r277_24, r277_25, r277_26, r277_29, r277_30, r277_31, r277_34, r277_35, r277_36, r277_37, r277_40, r277_41, r277_42, r277_45, cs_nil, cs_cons, lc_lt, lc_ge, lc_gt, lc_le, lc_eq]
        refine m_mendT (b := 0) e3 e5 (Or.inl rfl) (fun _ => e4) hp.1 hp.2 hq.1 hq.2 ?_
        intro k2 q1 q2 q3 q4
        have kv : k2 308 (4 + 5 * t) = mnd L ρ z t k 4 t := q1.2.1.2.1 4 t (by omega) (by omega) hp.1 hp.2
        simp (disch := omega) [q277, r277_0, r277_1, r277_2, r277_5, r277_8, r277_9, r277_10, r277_13, r277_16, r277_17, r277_18, r277_21, r277_24, r277_25, r277_26, r277_29, r277_30, r277_31, r277_34, r277_35, r277_36, r277_37, r277_40, r277_41, r277_42, r277_45, q221, r221_0, r221_1, r221_4, r221_5, r221_6, r221_7, r221_8, r221_9, r221_10, cs_nil, cs_cons, lc_lt, lc_ge, lc_gt, lc_le, lc_eq, mfx_u q1.1.1, ln_308, am_wid2, le_T, lt_T, kv]
        have c0 : ∀ c j : Int, ¬ CC c j → g2 c j = f c j := fun c j hc => (b3 c j (by omega)).trans (a5 c j (by omega))
        have m0 : ∀ c j : Int, ¬ MC c j → k2 c j = g2 c j := fun c j hc => (q4 c j (by omega)).trans (e6 c j (by omega))
        refine (IW_act h c0 b1.2.2.1 b2 (PA_fr a1 (fun j _ => b3 _ _ (by omega)) (fun c j _ _ => b3 _ _ (by omega))) m0 q1.2.1 (q2 rfl) (PB_fr e1 hn (fun j _ => q4 _ _ (by omega)) (fun j => q4 _ _ (by omega)) (fun j _ => q4 _ _ (by omega))) q1.2.2.2 ?_ (FS_c h (fun c j hc => (b3 c j (by omega)).trans (a5 c j (by omega))) (fun c j hc => (q4 c j (by omega)).trans (e6 c j (by omega))))).iv
        rw [q4 _ _ (by omega), e2, m0 _ _ (by omega), b3 _ _ (by omega), a2]
      · simp (disch := omega) [q133, r133_0, r133_1, r133_2, r133_5, r133_8, r133_9, r133_10, r133_13, r133_16, r133_17, r133_20, r133_23, r133_24, r133_25, r133_26, r133_29, r133_30, r133_31, r133_34, r133_35, r133_36, r133_39, r133_40, r133_43, r133_46, r133_47, r133_50, r133_51, r133_54, r133_55, r133_56, r133_59, r133_60, r133_63, r133_66, r133_67, r133_68, q277, r277_0, r277_1, r277_2, r277_5, r277_8, r277_9, r277_10, r277_13, r277_16, r277_17, r277_18, r277_21, r277_24, r277_25, r277_26, r277_29, r277_30, r277_31, r277_34, r277_35, r277_36, r277_37, r277_40, r277_41, r277_42, r277_45, cs_nil, cs_cons, lc_lt, lc_ge, lc_gt, lc_le, lc_eq, c_fx h.1.1, iw_S h, c_isT h, c_isM h, ec, hb, c_refuse h.1.1, m_isT hB9, m_isM hB9, m_isBr hB9 hp.1 hp.2, m_refuse hB9.1.1, am_un, hp, hq, le_T, lt_T, hi]
    · simp (disch := omega) [q133, r133_0, r133_1, r133_2, r133_5, r133_8, r133_9, r133_10, r133_13, r133_16, r133_17, r133_20, r133_23, r133_24, r133_25, r133_26, r133_29, r133_30, r133_31, r133_34, r133_35, r133_36, r133_39, r133_40, r133_43, r133_46, r133_47, r133_50, r133_51, r133_54, r133_55, r133_56, r133_59, r133_60, r133_63, r133_66, r133_67, r133_68, q277, r277_0, r277_1, r277_2, r277_5, r277_8, r277_9, r277_10, r277_13, r277_16, r277_17, r277_18, r277_21, r277_24, r277_25, r277_26, r277_29, r277_30, r277_31, r277_34, r277_35, r277_36, r277_37, r277_40, r277_41, r277_42, r277_45, cs_nil, cs_cons, lc_lt, lc_ge, lc_gt, lc_le, lc_eq, c_fx h.1.1, c_isT h, c_isM h, c_refuse h.1.1, m_isT hB9, m_isM hB9, m_refuse hB9.1.1, hp, hq, q133, r133_0, r133_1, r133_2, r133_5, r133_8, r133_9, r133_10, r133_13, r133_16, r133_17, r133_20, r133_23, r133_24, r133_25, r133_26, r133_29, r133_30, r133_31, r133_34, r133_35, r133_36, r133_39, r133_40, r133_43, r133_46, r133_47, r133_50, r133_51, r133_54, r133_55, r133_56, r133_59, r133_60, r133_63, r133_66, r133_67, r133_68, q277, r277_0, r277_1, r277_2, r277_5, r277_8, r277_9, r277_10, r277_13, r277_16, r277_17, r277_18, r277_21, r277_24, r277_25, r277_26, r277_29, r277_30, r277_31, r277_34, r277_35, r277_36, r277_37, r277_40, r277_41, r277_42, r277_45, cs_nil, cs_cons, lc_lt, lc_ge, lc_gt, lc_le, lc_eq, c_isM h, m_isT hB9, m_isM hB9, m_refuse hB9.1.1, hp, hq, am_un, hi, c_refuse h.1.1]
  · simp (disch := omega) [q133, r133_0, r133_1, r133_2, r133_5, r133_8, r133_9, r133_10, r133_13, r133_16, r133_17, r133_20, r133_23, r133_24, r133_25, r133_26, r133_29, r133_30, r133_31, r133_34, r133_35, r133_36, r133_39, r133_40, r133_43, r133_46, r133_47, r133_50, r133_51, r133_54, r133_55, r133_56, r133_59, r133_60, r133_63, r133_66, r133_67, r133_68, q277, r277_0, r277_1, r277_2, r277_5, r277_8, r277_9, r277_10, r277_13, r277_16, r277_17, r277_18, r277_21, r277_24, r277_25, r277_26, r277_29, r277_30, r277_31, r277_34, r277_35, r277_36, r277_37, r277_40, r277_41, r277_42, r277_45, cs_nil, cs_cons, lc_lt, lc_ge, lc_gt, lc_le, lc_eq, c_fx h.1.1, c_isT h, c_refuse h.1.1, m_isT hB9, m_refuse hB9.1.1, hp, q133, r133_0, r133_1, r133_2, r133_5, r133_8, r133_9, r133_10, r133_13, r133_16, r133_17, r133_20, r133_23, r133_24, r133_25, r133_26, r133_29, r133_30, r133_31, r133_34, r133_35, r133_36, r133_39, r133_40, r133_43, r133_46, r133_47, r133_50, r133_51, r133_54, r133_55, r133_56, r133_59, r133_60, r133_63, r133_66, r133_67, r133_68, q277, r277_0, r277_1, r277_2, r277_5, r277_8, r277_9, r277_10, r277_13, r277_16, r277_17, r277_18, r277_21, r277_24, r277_25, r277_26, r277_29, r277_30, r277_31, r277_34, r277_35, r277_36, r277_37, r277_40, r277_41, r277_42, r277_45, cs_nil, cs_cons, lc_lt, lc_ge, lc_gt, lc_le, lc_eq, m_isT hB9, m_refuse hB9.1.1, hp, am_un, hi, c_refuse h.1.1]
theorem H_forge (h : IW f n m r L ρ τ z l Z) {t : Int} : HC d 134 278 [(0, t)] 0 f := by
  unfold HC
  have hB := h.2.2.1.1
  have hm := hB.1.1
  have hi := (IW_ref h (w := 2)).iv
  have hn := (iw_n h).1
  have hB9 := MB_269 hB (j := 2) (v := am_wI (f 269 2 + 1))
  by_cases hp : 0 ≤ t ∧ t < n
  · have ec := iw_c h hp.1 hp.2
    have e308 : ∀ g : am_F, MB g n m r L ρ τ z → ∀ j, j = 1 + 5 * t → g 308 j = z 1 t := fun g hg j hj => by rw [hj]; exact hg.2.1.2.1 1 t (by omega) (by omega) hp.1 hp.2
    by_cases hb : z 1 t = 0
    · simp (disch := omega) [q134, r134_0, r134_1, r134_2, r134_5, r134_8, r134_9, r134_12, r134_15, r134_16, r134_17, r134_20, r134_21, r134_22, r134_25, r134_26, r134_27, r134_28, r134_29, r134_32, r134_33, r134_36, r134_39, r134_40, r134_43, r134_46, r134_47, r134_48, r134_49, r134_50, r134_53, r134_56, r134_57, r134_59, r134_60, r134_61, r134_64, r134_67, r134_68, r134_69, r134_70, r134_71, cs_nil, cs_cons, lc_lt, lc_ge, lc_gt, lc_le, lc_eq, c_fx h.1.1, iw_S h, c_isT h, ec, hb, hp, le_T, lt_T]
      refine c_pushI h ?_
      intro g1 a1 a2 a3 a4 a5
      have x6 : g1 0 6 = 46 := (a5 _ _ (by omega)).trans (fx_0_6 h.1.1)
      have ys := (sS_u a3.2.2.1.1).2
      simp only [Int.reduceAdd] at ys
      simp (disch := omega) [q134, r134_0, r134_1, r134_2, r134_5, r134_8, r134_9, r134_12, r134_15, r134_16, r134_17, r134_20, r134_21, r134_22, r134_25, r134_26, r134_27, r134_28, r134_29, r134_32, r134_33, r134_36, r134_39, r134_40, r134_43, r134_46, r134_47, r134_48, r134_49, r134_50, r134_53, r134_56, r134_57, r134_59, r134_60, r134_61, r134_64, r134_67, r134_68, r134_69, r134_70, r134_71, cs_nil, cs_cons, lc_lt, lc_ge, lc_gt, lc_le, lc_eq, x6, ys, am_un, hp, le_T, lt_T]
      have b1 : CZ (am_up (am_up (am_up g1 47 t 2) 50 t 50) 51 t 1) 46 l n (am_up (am_up (am_up z 1 t 2) 4 t 50) 5 t 1) := CZ_up (a := 46) (i := 5) (CZ_up (a := 46) (i := 4) (CZ_up (a := 46) (i := 1) a3.2.2.1 (by omega)) (by omega)) (by omega)
      have b2 : CN (am_up (am_up (am_up g1 47 t 2) 50 t 50) 51 t 1) 46 (am_up (am_up (am_up z 1 t 2) 4 t 50) 5 t 1) := CN_up (a := 46) (i := 5) (CN_up (a := 46) (i := 4) (CN_up (a := 46) (i := 1) a4 (by omega)) (by omega)) (by omega)
      have b3 : fS 46 g1 (am_up (am_up (am_up g1 47 t 2) 50 t 50) 51 t 1) := fun c j hc => by rw [am_un (by omega), am_un (by omega), am_un (by omega)]
      have hO : OZ n (am_up (am_up (am_up z 1 t 2) 4 t 50) 5 t 1) := OZ_up (OZ_up (OZ_up a3.2.2.2.2 (by omega)) (by omega)) (by omega)
      generalize am_up (am_up (am_up g1 47 t 2) 50 t 50) 51 t 1 = g2 at b1 b2 b3
      have c270 : ∀ c j : Int, 270 ≤ c → g2 c j = f c j := fun c j hc => (b3 c j (by omega)).trans (a5 c j (by omega))
      have hB2 : MB g2 n m r L ρ τ z := MB_fr hB (fun c j _ _ => c270 _ _ (by omega)) (fun j _ => c270 _ _ (by omega))
      simp (disch := omega) [q278, r278_0, r278_1, r278_2, r278_5, r278_8, r278_9, r278_10, r278_13, r278_16, r278_17, r278_20, r278_21, r278_22, r278_25, r278_26, r278_29, r278_30, r278_31, r278_32, r278_33, r278_34, r278_35, r278_36, r278_37, r278_40, r278_41, r278_42, r278_43, r278_44, r278_45, r278_47, r278_48, r278_49, r278_52, r278_53, r278_54, r278_55, r278_56, r278_57, r278_58, r278_59, r278_60, q210, r210_0, r210_1, r210_4, r210_5, r210_6, r210_7, r210_8, r210_9, r210_10, cs_nil, cs_cons, lc_lt, lc_ge, lc_gt, lc_le, lc_eq, mfx_u hB2.1.1, ln_308, am_wid2, m_isT hB2, e308 g2 hB2, hb, hp, le_T, lt_T]
      refine m_keepsI h c270 ?_
      intro k1 e1 e2 e3 e4 e5 e6
      simp (disch := omega) [q278, r278_0, r278_1, r278_2, r278_5, r278_8, r278_9, r278_10, r278_13, r278_16, r278_17, r278_20, r278_21, r278_22, r278_25, r278_26, r278_29, r278_30, r278_31, r278_32, r278_33, r278_34, r278_35, r278_36, r278_37, r278_40, r278_41, r278_42, r278_43, r278_44, r278_45, r278_47, r278_48, r278_49, r278_52, r278_53, r278_54, r278_55, r278_56, r278_57, r278_58, r278_59, r278_60, cs_nil, cs_cons, lc_lt, lc_ge, lc_gt, lc_le, lc_eq, mfx_u e3.1.1, ln_308, am_wid2, am_un, le_T, lt_T]
      have q1 : MZ (am_up (am_up (am_up k1 308 (1 + 5 * t) 2) 308 (4 + 5 * t) 50) 308 (5 + 5 * t) 1) n (am_up (am_up (am_up z 1 t 2) 4 t 50) 5 t 1) := MZ_up (MZ_up (MZ_up e3.2.1 (by omega) hp.1) (by omega) hp.1) (by omega) hp.1
      have q2 : NM (am_up (am_up (am_up k1 308 (1 + 5 * t) 2) 308 (4 + 5 * t) 50) 308 (5 + 5 * t) 1) (am_up (am_up (am_up z 1 t 2) 4 t 50) 5 t 1) := NM_up (NM_up (NM_up e4 (by omega) (by omega)) (by omega) (by omega)) (by omega) (by omega)
      have q4 : ∀ c j : Int, ¬ c = 308 → (am_up (am_up (am_up k1 308 (1 + 5 * t) 2) 308 (4 + 5 * t) 50) 308 (5 + 5 * t) 1) c j = k1 c j := fun c j hc => by rw [am_un (by omega), am_un (by omega), am_un (by omega)]
      generalize am_up (am_up (am_up k1 308 (1 + 5 * t) 2) 308 (4 + 5 * t) 50) 308 (5 + 5 * t) 1 = k2 at q1 q2 q4
      have c0 : ∀ c j : Int, ¬ CC c j → g2 c j = f c j := fun c j hc => (b3 c j (by omega)).trans (a5 c j (by omega))
      have m0 : ∀ c j : Int, ¬ MC c j → k2 c j = g2 c j := fun c j hc => (q4 c j (by omega)).trans (e6 c j (by omega))
      refine (IW_act h c0 b1 b2 (PA_fr a1 (fun j _ => b3 _ _ (by omega)) (fun c j _ _ => b3 _ _ (by omega))) m0 q1 q2 (PB_fr e1 hn (fun j _ => q4 _ _ (by omega)) (fun j => q4 _ _ (by omega)) (fun j _ => q4 _ _ (by omega))) hO ?_ (FS_c h (fun c j hc => (b3 c j (by omega)).trans (a5 c j (by omega))) (fun c j hc => (q4 c j (by omega)).trans (e6 c j (by omega))))).iv
      rw [q4 _ _ (by omega), e2, m0 _ _ (by omega), b3 _ _ (by omega), a2]
    · simp (disch := omega) [q134, r134_0, r134_1, r134_2, r134_5, r134_8, r134_9, r134_12, r134_15, r134_16, r134_17, r134_20, r134_21, r134_22, r134_25, r134_26, r134_27, r134_28, r134_29, r134_32, r134_33, r134_36, r134_39, r134_40, r134_43, r134_46, r134_47, r134_48, r134_49, r134_50, r134_53, r134_56, r134_57, r134_59, r134_60, r134_61, r134_64, r134_67, r134_68, r134_69, r134_70, r134_71, q278, r278_0, r278_1, r278_2, r278_5, r278_8, r278_9, r278_10, r278_13, r278_16, r278_17, r278_20, r278_21, r278_22, r278_25, r278_26, r278_29, r278_30, r278_31, r278_32, r278_33, r278_34, r278_35, r278_36, r278_37, r278_40, r278_41, r278_42, r278_43, r278_44, r278_45, r278_47, r278_48, r278_49, r278_52, r278_53, r278_54, r278_55, r278_56, r278_57, r278_58, r278_59, r278_60, q210, r210_0, r210_1, r210_4, r210_5, r210_6, r210_7, r210_8, r210_9, r210_10, cs_nil, cs_cons, lc_lt, lc_ge, lc_gt, lc_le, lc_eq, c_fx h.1.1, iw_S h, c_isT h, ec, hb, c_refuse h.1.1, m_isT hB9, mfx_u hB9.1.1, ln_308, am_wid2, e308 _ hB9, e308 _ hB, m_refuse2 hB9.1.1, am_un, hp, le_T, lt_T, hi]
  · simp (disch := omega) [q134, r134_0, r134_1, r134_2, r134_5, r134_8, r134_9, r134_12, r134_15, r134_16, r134_17, r134_20, r134_21, r134_22, r134_25, r134_26, r134_27, r134_28, r134_29, r134_32, r134_33, r134_36, r134_39, r134_40, r134_43, r134_46, r134_47, r134_48, r134_49, r134_50, r134_53, r134_56, r134_57, r134_59, r134_60, r134_61, r134_64, r134_67, r134_68, r134_69, r134_70, r134_71, q278, r278_0, r278_1, r278_2, r278_5, r278_8, r278_9, r278_10, r278_13, r278_16, r278_17, r278_20, r278_21, r278_22, r278_25, r278_26, r278_29, r278_30, r278_31, r278_32, r278_33, r278_34, r278_35, r278_36, r278_37, r278_40, r278_41, r278_42, r278_43, r278_44, r278_45, r278_47, r278_48, r278_49, r278_52, r278_53, r278_54, r278_55, r278_56, r278_57, r278_58, r278_59, r278_60, cs_nil, cs_cons, lc_lt, lc_ge, lc_gt, lc_le, lc_eq, c_fx h.1.1, c_isT h, c_refuse h.1.1, m_isT hB9, m_refuse2 hB9.1.1, hp, q134, r134_0, r134_1, r134_2, r134_5, r134_8, r134_9, r134_12, r134_15, r134_16, r134_17, r134_20, r134_21, r134_22, r134_25, r134_26, r134_27, r134_28, r134_29, r134_32, r134_33, r134_36, r134_39, r134_40, r134_43, r134_46, r134_47, r134_48, r134_49, r134_50, r134_53, r134_56, r134_57, r134_59, r134_60, r134_61, r134_64, r134_67, r134_68, r134_69, r134_70, r134_71, q278, r278_0, r278_1, r278_2, r278_5, r278_8, r278_9, r278_10, r278_13, r278_16, r278_17, r278_20, r278_21, r278_22, r278_25, r278_26, r278_29, r278_30, r278_31, r278_32, r278_33, r278_34, r278_35, r278_36, r278_37, r278_40, r278_41, r278_42, r278_43, r278_44, r278_45, r278_47, r278_48, r278_49, r278_52, r278_53, r278_54, r278_55, r278_56, r278_57, r278_58, r278_59, r278_60, cs_nil, cs_cons, lc_lt, lc_ge, lc_gt, lc_le, lc_eq, m_isT hB9, m_refuse2 hB9.1.1, hp, am_un, hi, c_refuse h.1.1]
end
