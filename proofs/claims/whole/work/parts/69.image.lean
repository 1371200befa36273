/-! image, on -/
def sl (g : Int → Int) : Nat → Int
  | 0 => 113
  | k + 1 => (3 * sl g k + g k) % 251
theorem sl_b {g : Int → Int} : ∀ k, 0 ≤ sl g k ∧ sl g k ≤ 250
  | 0 => by simp [sl]
  | k + 1 => by rw [sl]; omega
theorem sl_e {g h : Int → Int} : ∀ k : Nat, (∀ j : Int, 0 ≤ j → j < k → g j = h j) → sl g k = sl h k
  | 0, _ => rfl
  | k + 1, e => by rw [sl, sl, sl_e k (fun j a b => e j a (by omega)), e k (by omega) (by omega)]
section
variable {d n m r : Nat} {f L z : am_F} {ρ : Int → List Int} {τ : Int → Bool} {l : Int} {Z : Int → am_F} {Q : am_V → am_F → Prop}
theorem c_seal {a : Int} {K : Nat} {g : Int → Int} (ha : 0 ≤ a) (hK : (K : Int) ≤ 1000) (hl : (K : Int) ≤ am_len aw_SH a) (he : ∀ j : Int, 0 ≤ j → j < K → f a j = g j) (hb : ∀ j : Int, 0 ≤ j → j < K → 0 ≤ g j ∧ g j ≤ 1000) : aw_cl d 151 [(20, a), (0, (K : Int))] f Q = Q (0, sl g K) f := by
  have key : ∀ j k : Nat, k + j = K → aw_wp d 151 5 [(20, a), (0, (K : Int)), (0, sl g k), (0, (k : Int))] [] f (fun v f1 => v = (0, sl g K) ∧ f1 = f) := by
    intro j
    induction j with
    | zero =>
      intro k hk
      obtain rfl : k = K := by omega
      rw [r151_5]
      simp [q151, r151_0, r151_2, r151_3, r151_4, r151_6, r151_7, r151_10, r151_11, r151_12, r151_13, r151_14, r151_15, r151_16, r151_17, r151_20, r151_21, r151_22, r151_25, r151_28, r151_29, cs_nil, cs_cons, lc_lt, lc_ge, lc_gt, lc_le, lc_eq]
    | succ j ih =>
      intro k hk
      have ih' := ih (k + 1) (by omega)
      have c1 : ¬ K ≤ k := by omega
      have c2 : (k : Int) < am_len aw_SH a := by omega
      have b := hb k (by omega) (by omega)
      have s := sl_b (g := g) k
      have e := he k (by omega) (by omega)
      have t : (3 * sl g k + g k).tmod 251 = (3 * sl g k + g k) % 251 := Int.tmod_eq_emod_of_nonneg (by omega)
      clear hl
      rw [r151_5]
      simpa (disch := omega) [q151, r151_0, r151_2, r151_3, r151_4, r151_6, r151_7, r151_10, r151_11, r151_12, r151_13, r151_14, r151_15, r151_16, r151_17, r151_20, r151_21, r151_22, r151_25, r151_28, r151_29, cs_nil, cs_cons, lc_lt, lc_ge, lc_gt, lc_le, lc_eq, c1, c2, ha, e, am_wid2, t, sl] using ih'
  apply aw_det
  have := key K 0 (by omega)
  simpa [q151, r151_0, r151_2, r151_3, r151_4, r151_6, r151_7, r151_10, r151_11, r151_12, r151_13, r151_14, r151_15, r151_16, r151_17, r151_20, r151_21, r151_22, r151_25, r151_28, r151_29, cs_nil, cs_cons, lc_lt, lc_ge, lc_gt, lc_le, lc_eq, sl] using this
theorem m_seal {a : Int} {K : Nat} {g : Int → Int} (ha : 0 ≤ a) (hK : (K : Int) ≤ 1000) (hl : (K : Int) ≤ am_len aw_SH a) (he : ∀ j : Int, 0 ≤ j → j < K → f a j = g j) (hb : ∀ j : Int, 0 ≤ j → j < K → 0 ≤ g j ∧ g j ≤ 1000) : aw_cl d 290 [(20, a), (0, (K : Int))] f Q = Q (0, sl g K) f := by
  have key : ∀ j k : Nat, k + j = K → aw_wp d 290 5 [(20, a), (0, (K : Int)), (0, sl g k), (0, (k : Int))] [] f (fun v f1 => v = (0, sl g K) ∧ f1 = f) := by
    intro j
    induction j with
    | zero =>
      intro k hk
      obtain rfl : k = K := by omega
      rw [r290_5]
      simp [q290, r290_0, r290_2, r290_3, r290_4, r290_6, r290_7, r290_10, r290_11, r290_12, r290_13, r290_14, r290_15, r290_16, r290_17, r290_20, r290_21, r290_22, r290_25, r290_28, r290_29, cs_nil, cs_cons, lc_lt, lc_ge, lc_gt, lc_le, lc_eq]
    | succ j ih =>
      intro k hk
      have ih' := ih (k + 1) (by omega)
      have c1 : ¬ K ≤ k := by omega
      have c2 : (k : Int) < am_len aw_SH a := by omega
      have b := hb k (by omega) (by omega)
      have s := sl_b (g := g) k
      have e := he k (by omega) (by omega)
      have t : (3 * sl g k + g k).tmod 251 = (3 * sl g k + g k) % 251 := Int.tmod_eq_emod_of_nonneg (by omega)
      clear hl
      rw [r290_5]
      simpa (disch := omega) [q290, r290_0, r290_2, r290_3, r290_4, r290_6, r290_7, r290_10, r290_11, r290_12, r290_13, r290_14, r290_15, r290_16, r290_17, r290_20, r290_21, r290_22, r290_25, r290_28, r290_29, cs_nil, cs_cons, lc_lt, lc_ge, lc_gt, lc_le, lc_eq, c1, c2, ha, e, am_wid2, t, sl] using ih'
  apply aw_det
  have := key K 0 (by omega)
  simpa [q290, r290_0, r290_2, r290_3, r290_4, r290_6, r290_7, r290_10, r290_11, r290_12, r290_13, r290_14, r290_15, r290_16, r290_17, r290_20, r290_21, r290_22, r290_25, r290_28, r290_29, cs_nil, cs_cons, lc_lt, lc_ge, lc_gt, lc_le, lc_eq, sl] using this
def im (z : am_F) (j : Int) : Int := if j = 0 then z 0 0 / 256 else if j = 1 then z 0 0 % 256 else z (1 + (j - 2) % 5) ((j - 2) / 5)
theorem im_t {z : am_F} {t i : Int} (h0 : 0 ≤ t) (h1 : 1 ≤ i) (h2 : i ≤ 5) : im z (1 + i + 5 * t) = z i t := by
  unfold im
  rw [if_neg (by omega), if_neg (by omega), show 1 + (1 + i + 5 * t - 2) % 5 = i by omega, show (1 + i + 5 * t - 2) / 5 = t by omega]
theorem im_b (ho : OZ n z) {j : Int} (h0 : 0 ≤ j) (h1 : j < 2 + 5 * n) : 0 ≤ im z j ∧ im z j ≤ 1000 := by
  unfold im
  have h9 := ho.1
  split
  · omega
  split
  · omega
  · have q := ho.2 ((j - 2) / 5) (by omega) (by omega)
    obtain e | e | e | e | e : (j - 2) % 5 = 0 ∨ (j - 2) % 5 = 1 ∨ (j - 2) % 5 = 2 ∨ (j - 2) % 5 = 3 ∨ (j - 2) % 5 = 4 := by omega
    · rw [e]; have := q.1; simp; omega
    · rw [e]; have := q.2.1; simp; omega
    · rw [e]; have := q.2.2.1; simp; omega
    · rw [e]; have := q.2.2.2.1; simp; omega
    · rw [e]; have := q.2.2.2.2.1; simp; omega
theorem c_imageL (h : IW f n m r L ρ τ z l Z) : ∀ (j : Nat) (t : Int) (g : am_F), t + j = n → 0 ≤ t → (∀ c j : Int, ¬ c = 268 → g c j = f c j) → (∀ j : Int, 0 ≤ j → j < 2 + 5 * t → g 268 j = im z j) → (∀ g', (∀ c j : Int, ¬ c = 268 → g' c j = f c j) → (∀ j : Int, 0 ≤ j → j < 2 + 5 * (n : Int) → g' 268 j = im z j) → aw_wp (d + 1) 150 154 [(109, 0), (0, 2 + 5 * (n : Int)), (0, (n : Int))] [] g' Q) → aw_wp (d + 1) 150 44 [(109, 0), (0, 2 + 5 * t), (0, t)] [] g Q := by
  intro j
  have hn := (iw_n h).1
  induction j with
  | zero =>
    intro t g h1 h2 h3 h4 hQ
    obtain rfl : t = n := by omega
    have := hQ g h3 h4
    have x6 : g 0 6 = 46 := (h3 _ _ (by omega)).trans (fx_0_6 h.1.1)
    have x9 : g 46 9 = l := (h3 _ _ (by omega)).trans (iw_l h).2.1
    have hl := h.1.2.2.1
    have hl0 : 0 ≤ l := by omega
    have xn : g l 9 = n := (h3 _ _ (by omega)).trans (iw_l h).2.2.1
    rw [r150_44]
    simpa (disch := omega) [r150_45, r150_46, r150_49, r150_52, r150_55, x6, x9, xn, hl0] using this
  | succ j ih =>
    intro t g h1 h2 h3 h4 hQ
    have x6 : g 0 6 = 46 := (h3 _ _ (by omega)).trans (fx_0_6 h.1.1)
    have x10 : g 0 9 = 268 := (h3 _ _ (by omega)).trans (fx_0_9 h.1.1)
    have x9 : g 46 9 = l := (h3 _ _ (by omega)).trans (iw_l h).2.1
    have hl := h.1.2.2.1
    have hl0 : 0 ≤ l := by omega
    have xn : g l 9 = n := (h3 _ _ (by omega)).trans (iw_l h).2.2.1
    have c := iw_c h (t := t) (by omega) (by omega)
    have s := iw_S h
    have y0 : g 46 0 = 47 := (h3 _ _ (by omega)).trans s.1.1
    have y1 : g 46 1 = 48 := (h3 _ _ (by omega)).trans s.1.2.1
    have y2 : g 46 2 = 49 := (h3 _ _ (by omega)).trans s.1.2.2.1
    have y3 : g 46 3 = 50 := (h3 _ _ (by omega)).trans s.1.2.2.2.1
    have y4 : g 46 4 = 51 := (h3 _ _ (by omega)).trans s.1.2.2.2.2.1
    have v1 : g 47 t = z 1 t := (h3 _ _ (by omega)).trans c.2.2.1
    have v2 : g 48 t = z 2 t := (h3 _ _ (by omega)).trans c.2.2.2.1
    have v3 : g 49 t = z 3 t := (h3 _ _ (by omega)).trans c.2.2.2.2.1
    have v4 : g 50 t = z 4 t := (h3 _ _ (by omega)).trans c.2.2.2.2.2.1
    have v5 : g 51 t = z 5 t := (h3 _ _ (by omega)).trans c.2.2.2.2.2.2.1
    clear c s
    have ih' := ih (t + 1) (am_up (am_up (am_up (am_up (am_up g 268 (2 + 5 * t) (z 1 t)) 268 (2 + 5 * t + 1) (z 2 t)) 268 (2 + 5 * t + 1 + 1) (z 3 t)) 268 (2 + 5 * t + 1 + 1 + 1) (z 4 t)) 268 (2 + 5 * t + 1 + 1 + 1 + 1) (z 5 t)) (by omega) (by omega) (fun c j hc => by rw [am_un (by omega), am_un (by omega), am_un (by omega), am_un (by omega), am_un (by omega), h3 _ _ hc]) (fun j a b => ?_) hQ
    · rw [show 2 + 5 * (t + 1) = 2 + 5 * t + 1 + 1 + 1 + 1 + 1 by omega] at ih'
      rw [r150_44]
      simp (disch := omega) only [q150, r150_0, r150_1, r150_2, r150_3, r150_6, r150_7, r150_10, r150_11, r150_14, r150_17, r150_20, r150_21, r150_22, r150_23, r150_26, r150_27, r150_30, r150_31, r150_34, r150_37, r150_40, r150_41, r150_42, r150_43, r150_45, r150_46, r150_49, r150_52, r150_55, r150_58, r150_59, r150_62, r150_63, r150_66, r150_67, r150_70, r150_73, r150_74, r150_75, r150_76, r150_77, r150_80, r150_81, r150_84, r150_85, r150_88, r150_91, r150_92, r150_93, r150_94, r150_95, r150_98, r150_99, r150_102, r150_103, r150_106, r150_109, r150_110, r150_111, r150_112, r150_113, r150_116, r150_117, r150_120, r150_121, r150_124, r150_127, r150_128, r150_129, r150_130, r150_131, r150_134, r150_135, r150_138, r150_139, r150_142, r150_145, r150_146, r150_147, r150_148, r150_151, r150_154, r150_155, r150_158, r150_159, r150_160, r150_163, r150_164, r150_167, r150_168, r150_169, r150_170, r150_171, r150_172, r150_175, r150_176, r150_179, x6, x9, xn, x10, y0, y1, y2, y3, y4, v1, v2, v3, v4, v5, ln_268, ln_47, ln_48, ln_49, ln_50, ln_51, am_un, am_wid2]
      simpa (disch := omega) [q150, r150_0, r150_1, r150_2, r150_3, r150_6, r150_7, r150_10, r150_11, r150_14, r150_17, r150_20, r150_21, r150_22, r150_23, r150_26, r150_27, r150_30, r150_31, r150_34, r150_37, r150_40, r150_41, r150_42, r150_43, r150_45, r150_46, r150_49, r150_52, r150_55, r150_58, r150_59, r150_62, r150_63, r150_66, r150_67, r150_70, r150_73, r150_74, r150_75, r150_76, r150_77, r150_80, r150_81, r150_84, r150_85, r150_88, r150_91, r150_92, r150_93, r150_94, r150_95, r150_98, r150_99, r150_102, r150_103, r150_106, r150_109, r150_110, r150_111, r150_112, r150_113, r150_116, r150_117, r150_120, r150_121, r150_124, r150_127, r150_128, r150_129, r150_130, r150_131, r150_134, r150_135, r150_138, r150_139, r150_142, r150_145, r150_146, r150_147, r150_148, r150_151, r150_154, r150_155, r150_158, r150_159, r150_160, r150_163, r150_164, r150_167, r150_168, r150_169, r150_170, r150_171, r150_172, r150_175, r150_176, r150_179, x6, x9, xn, x10, y0, y1, y2, y3, y4, v1, v2, v3, v4, v5, ln_268, ln_47, ln_48, ln_49, ln_50, ln_51, am_un, am_wid2, hl0, le_T, lt_T, le_F, lt_F, am_fitE] using ih'
    · by_cases hj : j < 2 + 5 * t
      · rw [am_un (by omega), am_un (by omega), am_un (by omega), am_un (by omega), am_un (by omega)]
        exact h4 j a hj
      · obtain rfl | rfl | rfl | rfl | rfl : j = 1 + 1 + 5 * t ∨ j = 1 + 2 + 5 * t ∨ j = 1 + 3 + 5 * t ∨ j = 1 + 4 + 5 * t ∨ j = 1 + 5 + 5 * t := by omega
        · rw [im_t h2 (by omega) (by omega), am_un (by omega), am_un (by omega), am_un (by omega), am_un (by omega), show 1 + 1 + 5 * t = 2 + 5 * t by omega, am_ue]
        · rw [im_t h2 (by omega) (by omega), am_un (by omega), am_un (by omega), am_un (by omega), show 1 + 2 + 5 * t = 2 + 5 * t + 1 by omega, am_ue]
        · rw [im_t h2 (by omega) (by omega), am_un (by omega), am_un (by omega), show 1 + 3 + 5 * t = 2 + 5 * t + 1 + 1 by omega, am_ue]
        · rw [im_t h2 (by omega) (by omega), am_un (by omega), show 1 + 4 + 5 * t = 2 + 5 * t + 1 + 1 + 1 by omega, am_ue]
        · rw [im_t h2 (by omega) (by omega), show 1 + 5 + 5 * t = 2 + 5 * t + 1 + 1 + 1 + 1 by omega, am_ue]
theorem c_image (h : IW f n m r L ρ τ z l Z) (hQ : ∀ g, (∀ c j : Int, ¬ (c = 268 ∨ c = 0 ∧ j = 12) → g c j = f c j) → (∀ j : Int, 0 ≤ j → j < 2 + 5 * (n : Int) → g 268 j = im z j) → g 268 (2 + 5 * (n : Int)) = sl (im z) (2 + 5 * n) → g 0 12 = 3 + 5 * (n : Int) → Q (0, 3 + 5 * (n : Int)) g) : aw_cl (d + 1) 150 [(109, 0)] f Q := by
  have hn := (iw_n h).1
  have ho := h.2.1.1.2.2.2.2
  have h9 := ho.1
  have t1 : (z 0 0).tdiv 256 = z 0 0 / 256 := Int.tdiv_eq_ediv_of_nonneg h9.1
  have t2 : (z 0 0).tmod 256 = z 0 0 % 256 := Int.tmod_eq_emod_of_nonneg h9.1
  simp (disch := omega) [q150, r150_0, r150_1, r150_2, r150_3, r150_6, r150_7, r150_10, r150_11, r150_14, r150_17, r150_20, r150_21, r150_22, r150_23, r150_26, r150_27, r150_30, r150_31, r150_34, r150_37, r150_40, r150_41, r150_42, r150_43, r150_45, r150_46, r150_49, r150_52, r150_55, r150_58, r150_59, r150_62, r150_63, r150_66, r150_67, r150_70, r150_73, r150_74, r150_75, r150_76, r150_77, r150_80, r150_81, r150_84, r150_85, r150_88, r150_91, r150_92, r150_93, r150_94, r150_95, r150_98, r150_99, r150_102, r150_103, r150_106, r150_109, r150_110, r150_111, r150_112, r150_113, r150_116, r150_117, r150_120, r150_121, r150_124, r150_127, r150_128, r150_129, r150_130, r150_131, r150_134, r150_135, r150_138, r150_139, r150_142, r150_145, r150_146, r150_147, r150_148, r150_151, r150_154, r150_155, r150_158, r150_159, r150_160, r150_163, r150_164, r150_167, r150_168, r150_169, r150_170, r150_171, r150_172, r150_175, r150_176, r150_179, cs_nil, cs_cons, lc_lt, lc_ge, lc_gt, lc_le, lc_eq, c_fx h.1.1, iw_S h, ln_268, am_un, am_wid2, t1, t2, am_fitE]
  refine c_imageL h n 0 _ (by omega) (by omega) (fun c j hc => by rw [am_un (by omega), am_un (by omega)]) (fun j a b => ?_) ?_
  · obtain rfl | rfl : j = 0 ∨ j = 1 := by omega
    · rw [am_un (by omega), am_ue]; rfl
    · rw [am_ue]; rfl
  · intro g g1 g2
    have x10 : g 0 9 = 268 := (g1 _ _ (by omega)).trans (fx_0_9 h.1.1)
    have e := fun (dd : Nat) (QQ : am_V → am_F → Prop) => c_seal (d := dd) (f := g) (Q := QQ) (a := 268) (K := 2 + 5 * n) (g := im z) (by omega) (by omega) (by rw [ln_268]; omega) (fun j a b => g2 j a (by omega)) (fun j a b => im_b ho a (by omega))
    have e9 : ((2 + 5 * n : Nat) : Int) = 2 + 5 * (n : Int) := by omega
    rw [e9] at e
    simp (disch := omega) [q150, r150_0, r150_1, r150_2, r150_3, r150_6, r150_7, r150_10, r150_11, r150_14, r150_17, r150_20, r150_21, r150_22, r150_23, r150_26, r150_27, r150_30, r150_31, r150_34, r150_37, r150_40, r150_41, r150_42, r150_43, r150_45, r150_46, r150_49, r150_52, r150_55, r150_58, r150_59, r150_62, r150_63, r150_66, r150_67, r150_70, r150_73, r150_74, r150_75, r150_76, r150_77, r150_80, r150_81, r150_84, r150_85, r150_88, r150_91, r150_92, r150_93, r150_94, r150_95, r150_98, r150_99, r150_102, r150_103, r150_106, r150_109, r150_110, r150_111, r150_112, r150_113, r150_116, r150_117, r150_120, r150_121, r150_124, r150_127, r150_128, r150_129, r150_130, r150_131, r150_134, r150_135, r150_138, r150_139, r150_142, r150_145, r150_146, r150_147, r150_148, r150_151, r150_154, r150_155, r150_158, r150_159, r150_160, r150_163, r150_164, r150_167, r150_168, r150_169, r150_170, r150_171, r150_172, r150_175, r150_176, r150_179, cs_nil, cs_cons, lc_lt, lc_ge, lc_gt, lc_le, lc_eq, x10, e, ln_268, am_un, am_ue, am_wid2, am_fitE, le_T, lt_T]
    rw [show 2 + 5 * (n : Int) + 1 = 3 + 5 * (n : Int) by omega]
    refine hQ _ (fun c j hc => ?_) (fun j a b => ?_) ?_ am_ue
    · rw [am_un (by omega), am_un (by omega), g1 _ _ (by omega)]
    · rw [am_un (by omega), am_un (by omega), g2 j a b]
    · rw [am_un (by omega), am_ue]
theorem m_imageL (h : MB f n m r L ρ τ z) : ∀ (j : Nat) (k : Int) (g : am_F), k + j = 5 * (n : Int) → 0 ≤ k → (∀ c j : Int, ¬ (c = 343 ∨ (c = 270 ∧ j = 102)) → g c j = f c j) → g 270 102 = 2 + k → (∀ j : Int, 0 ≤ j → j < 2 + k → g 343 j = im z j) → (∀ g', (∀ c j : Int, ¬ (c = 343 ∨ (c = 270 ∧ j = 102)) → g' c j = f c j) → g' 270 102 = 2 + 5 * (n : Int) → (∀ j : Int, 0 ≤ j → j < 2 + 5 * (n : Int) → g' 343 j = im z j) → aw_wp (d + 1) 288 63 [(110, 270), (0, 5 * (n : Int))] [] g' Q) → aw_wp (d + 1) 288 35 [(110, 270), (0, k)] [] g Q := by
  intro j
  have hn := h.2.2.1.1
  induction j with
  | zero =>
    intro k g h1 h2 h3 h5 h4 hQ
    obtain rfl : k = 5 * n := by omega
    have := hQ g h3 h5 h4
    have hm : mfx g := mfx_fr h.1.1 (fun j hj => h3 _ _ (by omega))
    have hn3 : g 301 3 = n := (h3 _ _ (by omega)).trans (mb_m h).1
    rw [r288_35]
    simpa (disch := omega) [r288_36, r288_37, r288_38, r288_41, r288_42, q209, r209_0, r209_1, r209_4, r209_5, r209_6, cs_nil, cs_cons, lc_lt, lc_ge, lc_gt, lc_le, lc_eq, mfx_u hm, hn3, ln_301, am_wid2] using this
  | succ j ih =>
    intro k g h1 h2 h3 h5 h4 hQ
    have hm : mfx g := mfx_fr h.1.1 (fun j hj => h3 _ _ (by omega))
    have hn3 : g 301 3 = n := (h3 _ _ (by omega)).trans (mb_m h).1
    have ev : g 308 (1 + k) = im z (2 + k) := by
      rw [h3 _ _ (by omega), show 2 + k = 1 + (1 + k % 5) + 5 * (k / 5) by omega, im_t (by omega) (by omega) (by omega), ← h.2.1.2.1 (1 + k % 5) (k / 5) (by omega) (by omega) (by omega) (by omega)]
      congr 1; omega
    have ih' := ih (k + 1) (am_up (am_up g 343 (2 + k) (im z (2 + k))) 270 102 (2 + k + 1)) (by omega) (by omega) (fun c j hc => by rw [am_un (by omega), am_un (by omega), h3 _ _ hc]) (by rw [am_ue]; omega) (fun j a b => ?_) hQ
    · rw [r288_35]
      simpa (disch := omega) [q288, r288_0, r288_1, r288_2, r288_5, r288_6, r288_7, r288_10, r288_11, r288_12, r288_15, r288_16, r288_19, r288_20, r288_21, r288_24, r288_25, r288_26, r288_29, r288_30, r288_33, r288_34, r288_36, r288_37, r288_38, r288_41, r288_42, r288_45, r288_46, r288_47, r288_50, r288_51, r288_52, r288_53, r288_54, r288_57, r288_60, r288_63, r288_64, r288_65, r288_68, r288_69, r288_72, r288_75, r288_78, r288_79, r288_82, q289, r289_0, r289_1, r289_4, r289_5, r289_8, r289_9, r289_10, r289_11, r289_12, r289_15, r289_16, r289_17, r289_20, q209, r209_0, r209_1, r209_4, r209_5, r209_6, cs_nil, cs_cons, lc_lt, lc_ge, lc_gt, lc_le, lc_eq, mfx_u hm, hn3, h5, ev, ln_301, ln_308, ln_343, am_un, am_wid2, am_fitE, le_T, lt_T, le_F, lt_F] using ih'
    · by_cases hj : j = 2 + k
      · subst hj
        rw [am_un (by omega), am_ue]
      · rw [am_un (by omega), am_un (by omega), h4 j a (by omega)]
theorem m_image (h : MB f n m r L ρ τ z) (hQ : ∀ g, (∀ c j : Int, ¬ (c = 343 ∨ (c = 270 ∧ j = 102)) → g c j = f c j) → (∀ j : Int, 0 ≤ j → j < 2 + 5 * (n : Int) → g 343 j = im z j) → g 343 (2 + 5 * (n : Int)) = sl (im z) (2 + 5 * n) → g 270 102 = 3 + 5 * (n : Int) → Q (0, 3 + 5 * (n : Int)) g) : aw_cl (d + 2) 288 [(110, 270)] f Q := by
  have hn := h.2.2.1.1
  have ho := h.2.2.2
  have h9 := ho.1
  have e0 := h.2.1.1
  have t1 : (z 0 0).tdiv 256 = z 0 0 / 256 := Int.tdiv_eq_ediv_of_nonneg h9.1
  have t2 : (z 0 0).tmod 256 = z 0 0 % 256 := Int.tmod_eq_emod_of_nonneg h9.1
  simp (disch := omega) [q288, r288_0, r288_1, r288_2, r288_5, r288_6, r288_7, r288_10, r288_11, r288_12, r288_15, r288_16, r288_19, r288_20, r288_21, r288_24, r288_25, r288_26, r288_29, r288_30, r288_33, r288_34, r288_36, r288_37, r288_38, r288_41, r288_42, r288_45, r288_46, r288_47, r288_50, r288_51, r288_52, r288_53, r288_54, r288_57, r288_60, r288_63, r288_64, r288_65, r288_68, r288_69, r288_72, r288_75, r288_78, r288_79, r288_82, q289, r289_0, r289_1, r289_4, r289_5, r289_8, r289_9, r289_10, r289_11, r289_12, r289_15, r289_16, r289_17, r289_20, cs_nil, cs_cons, lc_lt, lc_ge, lc_gt, lc_le, lc_eq, mfx_u h.1.1, e0, ln_308, ln_343, am_un, am_ue, am_wid2, t1, t2, am_fitE]
  refine m_imageL (d := d + 1) h (5 * n) 0 _ (by omega) (by omega) (fun c j hc => by rw [am_un (by omega), am_un (by omega), am_un (by omega), am_un (by omega), am_un (by omega)]) (by rw [am_ue]; rfl) (fun j a b => ?_) ?_
  · obtain rfl | rfl : j = 0 ∨ j = 1 := by omega
    · rw [am_un (by omega), am_un (by omega), am_un (by omega), am_ue]; rfl
    · rw [am_un (by omega), am_ue]; rfl
  · intro g g1 g3 g2
    have hm : mfx g := mfx_fr h.1.1 (fun j hj => g1 _ _ (by omega))
    have e := fun (dd : Nat) (QQ : am_V → am_F → Prop) => m_seal (d := dd) (f := g) (Q := QQ) (a := 343) (K := 2 + 5 * n) (g := im z) (by omega) (by omega) (by rw [ln_343]; omega) (fun j a b => g2 j a (by omega)) (fun j a b => im_b ho a (by omega))
    have e9 : ((2 + 5 * n : Nat) : Int) = 2 + 5 * (n : Int) := by omega
    rw [e9] at e
    simp (disch := omega) [q288, r288_0, r288_1, r288_2, r288_5, r288_6, r288_7, r288_10, r288_11, r288_12, r288_15, r288_16, r288_19, r288_20, r288_21, r288_24, r288_25, r288_26, r288_29, r288_30, r288_33, r288_34, r288_36, r288_37, r288_38, r288_41, r288_42, r288_45, r288_46, r288_47, r288_50, r288_51, r288_52, r288_53, r288_54, r288_57, r288_60, r288_63, r288_64, r288_65, r288_68, r288_69, r288_72, r288_75, r288_78, r288_79, r288_82, q289, r289_0, r289_1, r289_4, r289_5, r289_8, r289_9, r289_10, r289_11, r289_12, r289_15, r289_16, r289_17, r289_20, cs_nil, cs_cons, lc_lt, lc_ge, lc_gt, lc_le, lc_eq, mfx_u hm, g3, e, ln_343, am_un, am_ue, am_wid2, am_fitE, le_T, lt_T]
    rw [show 2 + 5 * (n : Int) + 1 = 3 + 5 * (n : Int) by omega]
    refine hQ _ (fun c j hc => ?_) (fun j a b => ?_) ?_ am_ue
    · rw [am_un (by omega), am_un (by omega), g1 _ _ (by omega)]
    · rw [am_un (by omega), am_un (by omega), g2 j a b]
    · rw [am_un (by omega), am_ue]
theorem H_image (h : IW f n m r L ρ τ z l Z) : HC d 150 288 [] 0 f := by
  unfold HC
  have hn := (iw_n h).1
  obtain ⟨_, _, _, tp, rf, pc, fs, _⟩ := id h
  refine c_image (d := d + 39) h ?_
  intro g a1 a2 a3 a4
  refine m_image (d := d + 38) (MB_fr h.2.2.1.1 (fun c j _ _ => a1 _ _ (by omega)) (fun j _ => a1 _ _ (by omega))) ?_
  intro k b1 b2 b3 b4
  have fr : ∀ c j : Int, ¬ (c = 268 ∨ c = 0 ∧ j = 12 ∨ c = 343 ∨ (c = 270 ∧ j = 102)) → k c j = f c j := fun c j hc => (b1 c j (by omega)).trans (a1 c j (by omega))
  have k12 : k 0 12 = 3 + 5 * (n : Int) := (b1 _ _ (by omega)).trans a4
  refine ⟨rfl, rfl, (IW_o h (fun c j _ hc => fr c j (by omega)) (TP_fr tp (fr _ _ (by omega)) (fr _ _ (by omega)) (fun j => fr _ _ (by omega)) (fun j => fr _ _ (by omega))) (RF_fr rf (fun j => fr _ _ (by omega)) (fun j => fr _ _ (by omega))) ⟨by rw [b4, k12], by omega, fun j q1 q2 => ?_⟩ (FS_fr fs (fun j _ => fr _ _ (by omega)) (fun j _ => fr _ _ (by omega)))).iv⟩
  rw [k12] at q2
  rw [b1 268 j (by omega)]
  by_cases hj : j = 2 + 5 * (n : Int)
  · subst hj
    rw [b3, a3]
  · rw [b2 j q1 (by omega), a2 j q1 (by omega)]
end
