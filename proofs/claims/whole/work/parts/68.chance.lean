/-! chance -/
section
variable {d n m r : Nat} {f L z : am_F} {ρ : Int → List Int} {τ : Int → Bool} {l : Int} {Z : Int → am_F} {Q : am_V → am_F → Prop}
def sd (s : Int) : Int := (1103515245 * s + 12345) % 2147483648
theorem sd_b {s : Int} : 0 ≤ sd s ∧ sd s < 2147483648 := by unfold sd; omega
theorem c_draw {s k : Int} (hs : f 0 13 = s) (h0 : 0 ≤ s) (h1 : s < 2147483648) (hk : 0 < k) (hk2 : k < 2147483648) : aw_cl d 139 [(109, 0), (0, k)] f Q = Q (0, sd s / 64 % k) (am_up f 0 13 (sd s)) := by
  apply aw_det
  have e1 : (1103515245 * s + 12345).tmod 2147483648 = sd s := Int.tmod_eq_emod_of_nonneg (by omega)
  have b := sd_b (s := s)
  have e2 : (sd s).tdiv 64 = sd s / 64 := Int.tdiv_eq_ediv_of_nonneg b.1
  have e3 : (sd s / 64).tmod k = sd s / 64 % k := Int.tmod_eq_emod_of_nonneg (by omega)
  have e4 : 0 ≤ sd s / 64 % k := Int.emod_nonneg _ (by omega)
  have e5 : sd s / 64 % k < k := Int.emod_lt_of_pos _ hk
  simp (disch := omega) [q139, r139_0, r139_1, r139_4, r139_5, r139_8, r139_9, r139_12, r139_13, r139_16, r139_17, r139_20, r139_21, r139_24, r139_25, r139_28, r139_31, r139_32, r139_33, r139_34, r139_35, r139_36, r139_39, r139_40, cs_nil, cs_cons, lc_lt, lc_ge, lc_gt, lc_le, lc_eq, hs, am_wLd2, e1, e2, e3, am_ue, am_wid2, le_T, lt_T, le_F, lt_F, show ¬ k = 0 by omega]
theorem m_draw {s k : Int} (hs : f 270 67 = s) (h0 : 0 ≤ s) (h1 : s < 2147483648) (hk : 0 < k) (hk2 : k < 2147483648) : aw_cl d 282 [(110, 270), (0, k)] f Q = Q (0, sd s / 64 % k) (am_up f 270 67 (sd s)) := by
  apply aw_det
  have e1 : (1103515245 * s + 12345).tmod 2147483648 = sd s := Int.tmod_eq_emod_of_nonneg (by omega)
  have b := sd_b (s := s)
  have e2 : (sd s).tdiv 64 = sd s / 64 := Int.tdiv_eq_ediv_of_nonneg b.1
  have e3 : (sd s / 64).tmod k = sd s / 64 % k := Int.tmod_eq_emod_of_nonneg (by omega)
  have e4 : 0 ≤ sd s / 64 % k := Int.emod_nonneg _ (by omega)
  have e5 : sd s / 64 % k < k := Int.emod_lt_of_pos _ hk
  simp (disch := omega) [q282, r282_0, r282_1, r282_4, r282_5, r282_8, r282_9, r282_12, r282_13, r282_16, r282_17, r282_20, r282_21, r282_24, r282_27, r282_28, r282_29, r282_30, r282_31, r282_32, cs_nil, cs_cons, lc_lt, lc_ge, lc_gt, lc_le, lc_eq, hs, am_wLd2, e1, e2, e3, am_ue, am_wid2, le_T, lt_T, le_F, lt_F, show ¬ k = 0 by omega]
abbrev isC (L : am_F) (n : Nat) (s : Int) : Prop := sd s / 64 % 100 < L 0 0 ∧ 0 < n
def czz (n : Nat) (z : am_F) (s : Int) : am_F := if z 1 (sd (sd s) / 64 % n) = 1 then z else brk z (sd (sd s) / 64 % n)
theorem CB_13 {v : Int} {a : Int} (h : CB f a l n m r L ρ z) : CB (am_up f 0 13 v) a l n m r L ρ z := by
  have h1 := h.2.1.2.1
  have h2 := h.2.2.1.2.1
  refine ⟨?_, CL_fr h.2.1 h.2.2.2.1 (fun c j _ _ => am_un (by omega)), CZ_fr h.2.2.1 (fun c j _ _ _ => am_un (by omega)), h.2.2.2.1, h.2.2.2.2⟩
  rw [am_un (by omega), am_un (by omega), am_un (by omega), am_un (by omega), am_un (by omega)]
  exact h.1
theorem CN_13 {v : Int} {a : Int} (h : CN f a z) (ha : 46 ≤ a) : CN (am_up f 0 13 v) a z := CN_fr h (fun i k _ _ => am_un (by omega)) (am_un (by omega)) (fun _ _ _ => rfl)
theorem c_catN {s : Int} (hx : f 0 6 = 46) (hC : CB f 46 l n m r L ρ z) (hs : f 0 13 = s) (h0 : 0 ≤ s) (h1 : s < 2147483648) (hc : ¬ isC L n s) : aw_cl (d + 4) 138 [(109, 0)] f Q = Q (0, 0) (am_up f 0 13 (sd s)) := by
  apply aw_det
  have hl := hC.2.1.2.1
  have e9 : f 46 9 = l := hC.2.2.1.2.2.1
  have el := hC.2.1.2.2.1
  by_cases h2 : sd s / 64 % 100 < L 0 0
  · have hn : n = 0 := by omega
    simp (disch := omega) [q138, r138_0, r138_1, r138_3, r138_6, r138_7, r138_10, r138_13, r138_16, r138_19, r138_20, r138_23, r138_26, r138_29, r138_32, r138_33, r138_34, r138_35, r138_36, r138_39, r138_42, r138_45, r138_48, r138_49, r138_50, r138_53, r138_56, r138_57, r138_58, r138_59, r138_62, r138_63, r138_66, r138_67, r138_70, r138_71, cs_nil, cs_cons, lc_lt, lc_ge, lc_gt, lc_le, lc_eq, c_draw hs h0 h1, am_un, hx, e9, el, le_T, lt_T, le_F, lt_F, h2, hn]
  · simp (disch := omega) [q138, r138_0, r138_1, r138_3, r138_6, r138_7, r138_10, r138_13, r138_16, r138_19, r138_20, r138_23, r138_26, r138_29, r138_32, r138_33, r138_34, r138_35, r138_36, r138_39, r138_42, r138_45, r138_48, r138_49, r138_50, r138_53, r138_56, r138_57, r138_58, r138_59, r138_62, r138_63, r138_66, r138_67, r138_70, r138_71, cs_nil, cs_cons, lc_lt, lc_ge, lc_gt, lc_le, lc_eq, c_draw hs h0 h1, am_un, hx, e9, el, le_T, lt_T, le_F, lt_F]
theorem c_catY {s : Int} (hx : f 0 6 = 46) (hC : CB f 46 l n m r L ρ z) (hN : CN f 46 z) (hs : f 0 13 = s) (h0 : 0 ≤ s) (h1 : s < 2147483648) (hc : isC L n s) (hQ : ∀ g, CB g 46 l n m r L ρ (czz n z s) → CN g 46 (czz n z s) → g 0 13 = sd (sd s) → (∀ c j : Int, ¬ (c = 35 ∨ (46 ≤ c ∧ c ≤ 55) ∨ (c = 0 ∧ j = 13)) → g c j = f c j) → Q (0, 1) g) : aw_cl (d + 4) 138 [(109, 0)] f Q := by
  have hl := hC.2.1.2.1
  have e9 : f 46 9 = l := hC.2.2.1.2.2.1
  have el := hC.2.1.2.2.1
  have hn8 := hC.2.2.2.1.1
  obtain ⟨h2, hn⟩ := hc
  have b := sd_b (s := s)
  have ht0 : 0 ≤ sd (sd s) / 64 % (n : Int) := Int.emod_nonneg _ (by omega)
  have ht1 : sd (sd s) / 64 % (n : Int) < n := Int.emod_lt_of_pos _ (by omega)
  have hC2 : CB (am_up (am_up f 0 13 (sd s)) 0 13 (sd (sd s))) 46 l n m r L ρ z := CB_13 (CB_13 hC)
  have hN2 : CN (am_up (am_up f 0 13 (sd s)) 0 13 (sd (sd s))) 46 z := CN_13 (CN_13 hN (by omega)) (by omega)
  have ys := (sS_u hC.2.2.1.1).2
  simp only [Int.reduceAdd] at ys
  have ev : f 47 (sd (sd s) / 64 % (n : Int)) = z 1 (sd (sd s) / 64 % (n : Int)) := hC.2.2.1.2.2.2.2 1 _ (by omega) (by omega) ht0 ht1
  have hd2 : ∀ (d : Nat) (Q : am_V → am_F → Prop), aw_cl d 139 [(109, 0), (0, (n : Int))] (am_up f 0 13 (sd s)) Q = Q (0, sd (sd s) / 64 % n) (am_up (am_up f 0 13 (sd s)) 0 13 (sd (sd s))) := fun d Q => c_draw am_ue b.1 b.2 (by omega) (by omega)
  unfold czz at hQ
  generalize sd (sd s) / 64 % (n : Int) = t at *
  by_cases hb : z 1 t = 1
  · rw [if_pos hb] at hQ
    have := hQ _ hC2 hN2 am_ue (fun c j hc => by rw [am_un (by omega), am_un (by omega)])
    simpa (disch := omega) [q138, r138_0, r138_1, r138_3, r138_6, r138_7, r138_10, r138_13, r138_16, r138_19, r138_20, r138_23, r138_26, r138_29, r138_32, r138_33, r138_34, r138_35, r138_36, r138_39, r138_42, r138_45, r138_48, r138_49, r138_50, r138_53, r138_56, r138_57, r138_58, r138_59, r138_62, r138_63, r138_66, r138_67, r138_70, r138_71, cs_nil, cs_cons, lc_lt, lc_ge, lc_gt, lc_le, lc_eq, c_draw hs h0 h1, hd2, am_un, hx, e9, el, ys, ev, hb, le_T, lt_T, le_F, lt_F, show ¬ n = 0 by omega] using this
  · rw [if_neg hb] at hQ
    simp (disch := omega) [q138, r138_0, r138_1, r138_3, r138_6, r138_7, r138_10, r138_13, r138_16, r138_19, r138_20, r138_23, r138_26, r138_29, r138_32, r138_33, r138_34, r138_35, r138_36, r138_39, r138_42, r138_45, r138_48, r138_49, r138_50, r138_53, r138_56, r138_57, r138_58, r138_59, r138_62, r138_63, r138_66, r138_67, r138_70, r138_71, cs_nil, cs_cons, lc_lt, lc_ge, lc_gt, lc_le, lc_eq, c_draw hs h0 h1, hd2, am_un, hx, e9, el, ys, ev, hb, le_T, lt_T, le_F, lt_F, show ¬ n = 0 by omega]
    refine c_break hC2.2.2.1 hN2 hC2.2.2.2.2 hn8 ht0 ht1 ?_
    intro g q1 q2 q3
    have := hQ g (CB_S hC2 q3 q1 (OZ_brk hC2.2.2.2.2 ht0 ht1)) q2 ((q3 _ _ (by omega)).trans am_ue) (fun c j hc => by rw [q3 _ _ (by omega), am_un (by omega), am_un (by omega)])
    simpa (disch := omega) [q138, r138_0, r138_1, r138_3, r138_6, r138_7, r138_10, r138_13, r138_16, r138_19, r138_20, r138_23, r138_26, r138_29, r138_32, r138_33, r138_34, r138_35, r138_36, r138_39, r138_42, r138_45, r138_48, r138_49, r138_50, r138_53, r138_56, r138_57, r138_58, r138_59, r138_62, r138_63, r138_66, r138_67, r138_70, r138_71, cs_nil, cs_cons, lc_lt, lc_ge, lc_gt, lc_le, lc_eq] using this
def chn (L : am_F) (ρ : Int → List Int) (n m : Nat) : Nat → am_F → Int → Int → (am_F × Int × Int)
  | 0, z, s, c => (z, s, c)
  | j + 1, z, s, c => if isC L n s then chn L ρ n m j (day L ρ n m (czz n z s)) (sd (sd s)) (c + 1) else chn L ρ n m j (day L ρ n m z) (sd s) c
theorem czz_d {s : Int} : czz n z s 0 0 = z 0 0 := by
  unfold czz
  split
  · rfl
  · exact brk_d
theorem fL_13 {g : am_F} {s : Int} (h : f 0 13 = s) (hg : fL 46 f g) : g 0 13 = s := (hg _ _ (by omega)).trans h
theorem c_chanceL {N : Int} (hN : N ≤ 100) (hx : f 0 3 = 36 ∧ f 0 6 = 46) : ∀ (j : Nat) (k b s : Int) (z g : am_F), k + j = N → 0 ≤ k → 0 ≤ b → b ≤ k → z 0 0 + j ≤ 999 → 0 ≤ s → s < 2147483648 → g 0 13 = s → CB g 46 l n m r L ρ z → CN g 46 z → (∀ c j : Int, ¬ (c = 35 ∨ (37 ≤ c ∧ c ≤ 39) ∨ (46 ≤ c ∧ c ≤ 55) ∨ (c = 0 ∧ j = 13)) → g c j = f c j) → (∀ g', CB g' 46 l n m r L ρ (chn L ρ n m j z s b).1 → CN g' 46 (chn L ρ n m j z s b).1 → g' 0 13 = (chn L ρ n m j z s b).2.1 → (0 ≤ (chn L ρ n m j z s b).2.1 ∧ (chn L ρ n m j z s b).2.1 < 2147483648) → (∀ c j : Int, ¬ (c = 35 ∨ (37 ≤ c ∧ c ≤ 39) ∨ (46 ≤ c ∧ c ≤ 55) ∨ (c = 0 ∧ j = 13)) → g' c j = f c j) → Q (0, (chn L ρ n m j z s b).2.2) g') → aw_wp (d + 8) 137 29 [(109, 0), (0, N), (0, b), (0, k)] [] g Q := by
  intro j
  induction j with
  | zero =>
    intro k b s z g h1 h2 h3 h4 h5 s0 s1 hs h6 h7 h8 hQ
    have := hQ g h6 h7 hs ⟨s0, s1⟩ h8
    rw [r137_29]
    simpa (disch := omega) [q137, r137_0, r137_1, r137_2, r137_5, r137_8, r137_9, r137_10, r137_13, r137_14, r137_15, r137_18, r137_19, r137_22, r137_25, r137_26, r137_27, r137_28, r137_30, r137_31, r137_34, r137_35, r137_36, r137_39, r137_42, r137_43, r137_46, r137_47, r137_48, r137_49, r137_50, r137_53, r137_54, r137_57, r137_60, r137_61, r137_64, r137_67, r137_68, cs_nil, cs_cons, lc_lt, lc_ge, lc_gt, lc_le, lc_eq, le_T, lt_F, chn] using this
  | succ j ih =>
    intro k b s z g h1 h2 h3 h4 h5 s0 s1 hs h6 h7 h8 hQ
    have x6 : g 0 6 = 46 := (h8 _ _ (by omega)).trans hx.2
    by_cases hc : isC L n s
    · rw [r137_29]
      simp (disch := omega) [q137, r137_0, r137_1, r137_2, r137_5, r137_8, r137_9, r137_10, r137_13, r137_14, r137_15, r137_18, r137_19, r137_22, r137_25, r137_26, r137_27, r137_28, r137_30, r137_31, r137_34, r137_35, r137_36, r137_39, r137_42, r137_43, r137_46, r137_47, r137_48, r137_49, r137_50, r137_53, r137_54, r137_57, r137_60, r137_61, r137_64, r137_67, r137_68, cs_nil, cs_cons, lc_lt, lc_ge, lc_gt, lc_le, lc_eq, le_F, lt_T]
      refine c_catY x6 h6 h7 hs s0 s1 hc ?_
      intro g1 q1 q2 q3 q4
      have y3 : g1 0 3 = 36 := ((q4 _ _ (by omega)).trans (h8 _ _ (by omega))).trans hx.1
      have y6 : g1 0 6 = 46 := (q4 _ _ (by omega)).trans x6
      simp (disch := omega) [q137, r137_0, r137_1, r137_2, r137_5, r137_8, r137_9, r137_10, r137_13, r137_14, r137_15, r137_18, r137_19, r137_22, r137_25, r137_26, r137_27, r137_28, r137_30, r137_31, r137_34, r137_35, r137_36, r137_39, r137_42, r137_43, r137_46, r137_47, r137_48, r137_49, r137_50, r137_53, r137_54, r137_57, r137_60, r137_61, r137_64, r137_67, r137_68, cs_nil, cs_cons, lc_lt, lc_ge, lc_gt, lc_le, lc_eq, am_wid2, y3, y6]
      refine c_live q1 q2 (by rw [czz_d]; omega) ?_
      intro g2 e1 e2 e3
      have ih' := ih (k + 1) (b + 1) (sd (sd s)) (day L ρ n m (czz n z s)) g2 (by omega) (by omega) (by omega) (by omega) (by rw [day_d, czz_d]; omega) sd_b.1 sd_b.2 (fL_13 q3 e3) e1 e2 (fun c j hc => by rw [e3 _ _ (by omega), q4 _ _ (by omega), h8 _ _ hc]) (by rw [chn, if_pos hc] at hQ; exact hQ)
      simpa (disch := omega) [q137, r137_0, r137_1, r137_2, r137_5, r137_8, r137_9, r137_10, r137_13, r137_14, r137_15, r137_18, r137_19, r137_22, r137_25, r137_26, r137_27, r137_28, r137_30, r137_31, r137_34, r137_35, r137_36, r137_39, r137_42, r137_43, r137_46, r137_47, r137_48, r137_49, r137_50, r137_53, r137_54, r137_57, r137_60, r137_61, r137_64, r137_67, r137_68, cs_nil, cs_cons, lc_lt, lc_ge, lc_gt, lc_le, lc_eq, am_wid2] using ih'
    · rw [r137_29]
      simp (disch := omega) [q137, r137_0, r137_1, r137_2, r137_5, r137_8, r137_9, r137_10, r137_13, r137_14, r137_15, r137_18, r137_19, r137_22, r137_25, r137_26, r137_27, r137_28, r137_30, r137_31, r137_34, r137_35, r137_36, r137_39, r137_42, r137_43, r137_46, r137_47, r137_48, r137_49, r137_50, r137_53, r137_54, r137_57, r137_60, r137_61, r137_64, r137_67, r137_68, cs_nil, cs_cons, lc_lt, lc_ge, lc_gt, lc_le, lc_eq, le_F, lt_T, c_catN x6 h6 hs s0 s1 hc]
      have y3 : am_up g 0 13 (sd s) 0 3 = 36 := ((am_un (by omega)).trans (h8 _ _ (by omega))).trans hx.1
      have y6 : am_up g 0 13 (sd s) 0 6 = 46 := (am_un (by omega)).trans x6
      simp (disch := omega) [q137, r137_0, r137_1, r137_2, r137_5, r137_8, r137_9, r137_10, r137_13, r137_14, r137_15, r137_18, r137_19, r137_22, r137_25, r137_26, r137_27, r137_28, r137_30, r137_31, r137_34, r137_35, r137_36, r137_39, r137_42, r137_43, r137_46, r137_47, r137_48, r137_49, r137_50, r137_53, r137_54, r137_57, r137_60, r137_61, r137_64, r137_67, r137_68, cs_nil, cs_cons, lc_lt, lc_ge, lc_gt, lc_le, lc_eq, am_wid2, y3, y6]
      refine c_live (CB_13 h6) (CN_13 h7 (by omega)) (by omega) ?_
      intro g2 e1 e2 e3
      have ih' := ih (k + 1) b (sd s) (day L ρ n m z) g2 (by omega) (by omega) (by omega) (by omega) (by rw [day_d]; omega) sd_b.1 sd_b.2 (fL_13 am_ue e3) e1 e2 (fun c j hc => by rw [e3 _ _ (by omega), am_un (by omega), h8 _ _ hc]) (by rw [chn, if_neg hc] at hQ; exact hQ)
      simpa (disch := omega) [q137, r137_0, r137_1, r137_2, r137_5, r137_8, r137_9, r137_10, r137_13, r137_14, r137_15, r137_18, r137_19, r137_22, r137_25, r137_26, r137_27, r137_28, r137_30, r137_31, r137_34, r137_35, r137_36, r137_39, r137_42, r137_43, r137_46, r137_47, r137_48, r137_49, r137_50, r137_53, r137_54, r137_57, r137_60, r137_61, r137_64, r137_67, r137_68, cs_nil, cs_cons, lc_lt, lc_ge, lc_gt, lc_le, lc_eq, am_wid2] using ih'
theorem m_chanceL {N : Int} (hN : N ≤ 100) : ∀ (j : Nat) (k b s : Int) (x : am_V) (z g : am_F), k + j = N → 0 ≤ k → 0 ≤ b → b ≤ k → z 0 0 + j ≤ 999 → 0 ≤ s → s < 2147483648 → g 270 67 = s → g 270 57 = 0 → MB g n m r L ρ τ z → NM g z → (∀ c j : Int, ¬ (c = 308 ∨ (309 ≤ c ∧ c ≤ 315) ∨ (340 ≤ c ∧ c ≤ 342) ∨ (c = 270 ∧ (j = 50 ∨ j = 54 ∨ j = 55 ∨ j = 58 ∨ j = 98 ∨ j = 67))) → g c j = f c j) → (∀ g', MB g' n m r L ρ τ (chn L ρ n m j z s b).1 → NM g' (chn L ρ n m j z s b).1 → g' 270 67 = (chn L ρ n m j z s b).2.1 → (∀ c j : Int, ¬ (c = 308 ∨ (309 ≤ c ∧ c ≤ 315) ∨ (340 ≤ c ∧ c ≤ 342) ∨ (c = 270 ∧ (j = 50 ∨ j = 54 ∨ j = 55 ∨ j = 58 ∨ j = 98 ∨ j = 67))) → g' c j = f c j) → Q (0, (chn L ρ n m j z s b).2.2) g') → aw_wp (d + 8) 281 25 [(110, 270), (0, N), (0, b), (0, k), x] [] g Q := by
  intro j
  induction j with
  | zero =>
    intro k b s x z g h1 h2 h3 h4 h5 s0 s1 hs h57 h6 h7 h8 hQ
    obtain ⟨tx, vx⟩ := x
    have := hQ g h6 h7 hs h8
    rw [r281_25]
    simpa (disch := omega) [q281, r281_0, r281_1, r281_2, r281_3, r281_5, r281_8, r281_11, r281_12, r281_13, r281_16, r281_17, r281_18, r281_21, r281_22, r281_23, r281_24, r281_26, r281_27, r281_30, r281_31, r281_33, r281_36, r281_37, r281_40, r281_43, r281_44, r281_47, r281_50, r281_51, r281_52, r281_55, r281_58, r281_60, r281_61, r281_63, r281_66, r281_69, r281_70, r281_72, r281_75, r281_78, r281_79, r281_82, r281_85, r281_88, r281_89, cs_nil, cs_cons, lc_lt, lc_ge, lc_gt, lc_le, lc_eq, le_T, lt_F, chn] using this
  | succ j ih =>
    intro k b s x z g h1 h2 h3 h4 h5 s0 s1 hs h57 h6 h7 h8 hQ
    obtain ⟨tx, vx⟩ := x
    have hn8 := h6.2.2.1.1
    have bs := sd_b (s := s)
    have hB1 : MB (am_up g 270 67 (sd s)) n m r L ρ τ z := MB_fr h6 (fun c j _ _ => am_un (by omega)) (fun j _ => am_un (by omega))
    have hN1 : NM (am_up g 270 67 (sd s)) z := NM_fr h7 (fun k _ => am_un (by omega)) (fun _ _ _ => rfl)
    have go : ∀ (x : am_V) (b' s' : Int) (y g1 : am_F), MB g1 n m r L ρ τ y → NM g1 y → g1 270 67 = s' → g1 270 57 = 0 → y 0 0 = z 0 0 → 0 ≤ s' → s' < 2147483648 → 0 ≤ b' → b' ≤ k + 1 → (∀ c j : Int, ¬ (c = 308 ∨ (309 ≤ c ∧ c ≤ 315) ∨ (340 ≤ c ∧ c ≤ 342) ∨ (c = 270 ∧ (j = 50 ∨ j = 54 ∨ j = 55 ∨ j = 58 ∨ j = 98 ∨ j = 67))) → g1 c j = f c j) → chn L ρ n m (j + 1) z s b = chn L ρ n m j (day L ρ n m y) s' b' → aw_wp (d + 8) 281 78 [(110, 270), (0, N), (0, b'), (0, k), x] [] g1 Q := by
      intro x b' s' y g1 i1 i2 i3 i4 i5 i6 i7 i8 i9 i10 i11
      obtain ⟨tx, vx⟩ := x
      simp (disch := omega) [q281, r281_0, r281_1, r281_2, r281_3, r281_5, r281_8, r281_11, r281_12, r281_13, r281_16, r281_17, r281_18, r281_21, r281_22, r281_23, r281_24, r281_26, r281_27, r281_30, r281_31, r281_33, r281_36, r281_37, r281_40, r281_43, r281_44, r281_47, r281_50, r281_51, r281_52, r281_55, r281_58, r281_60, r281_61, r281_63, r281_66, r281_69, r281_70, r281_72, r281_75, r281_78, r281_79, r281_82, r281_85, r281_88, r281_89, cs_nil, cs_cons, lc_lt, lc_ge, lc_gt, lc_le, lc_eq]
      refine m_day i1 i4 (Or.inl rfl) (fun _ => i2) (by omega) ?_
      intro g2 e1 e2 e3 e4 e5
      have ih' := ih (k + 1) b' s' (tx, vx) (day L ρ n m y) g2 (by omega) (by omega) i8 i9 (by rw [day_d]; omega) i6 i7 ((e5 _ _ (by omega)).trans i3) ((e5 _ _ (by omega)).trans i4) e1 (e2 rfl) (fun c j hc => by rw [e5 _ _ (by omega), i10 _ _ hc]) (by rw [i11] at hQ; exact hQ)
      simpa (disch := omega) [q281, r281_0, r281_1, r281_2, r281_3, r281_5, r281_8, r281_11, r281_12, r281_13, r281_16, r281_17, r281_18, r281_21, r281_22, r281_23, r281_24, r281_26, r281_27, r281_30, r281_31, r281_33, r281_36, r281_37, r281_40, r281_43, r281_44, r281_47, r281_50, r281_51, r281_52, r281_55, r281_58, r281_60, r281_61, r281_63, r281_66, r281_69, r281_70, r281_72, r281_75, r281_78, r281_79, r281_82, r281_85, r281_88, r281_89, cs_nil, cs_cons, lc_lt, lc_ge, lc_gt, lc_le, lc_eq, am_wid2] using ih'
    by_cases hc : isC L n s
    · have hn0 : ¬ n = 0 := by omega
      have ec : chn L ρ n m (j + 1) z s b = chn L ρ n m j (day L ρ n m (czz n z s)) (sd (sd s)) (b + 1) := by rw [chn, if_pos hc]
      have ht0 : 0 ≤ sd (sd s) / 64 % (n : Int) := Int.emod_nonneg _ (by omega)
      have ht1 : sd (sd s) / 64 % (n : Int) < n := Int.emod_lt_of_pos _ (by omega)
      have hB2 : MB (am_up (am_up g 270 67 (sd s)) 270 67 (sd (sd s))) n m r L ρ τ z := MB_fr hB1 (fun c j _ _ => am_un (by omega)) (fun j _ => am_un (by omega))
      have hN2 : NM (am_up (am_up g 270 67 (sd s)) 270 67 (sd (sd s))) z := NM_fr hN1 (fun k _ => am_un (by omega)) (fun _ _ _ => rfl)
      have hd2 : ∀ (d : Nat) (Q : am_V → am_F → Prop), aw_cl d 282 [(110, 270), (0, (n : Int))] (am_up g 270 67 (sd s)) Q = Q (0, sd (sd s) / 64 % n) (am_up (am_up g 270 67 (sd s)) 270 67 (sd (sd s))) := fun d Q => m_draw am_ue bs.1 bs.2 (by omega) (by omega)
      have hl1 : sd s / 64 % 100 < L 0 0 := hc.1
      have g57 : am_up (am_up g 270 67 (sd s)) 270 67 (sd (sd s)) 270 57 = 0 := by rw [am_un (by omega), am_un (by omega)]; exact h57
      have gfr : ∀ c j : Int, ¬ (c = 308 ∨ (309 ≤ c ∧ c ≤ 315) ∨ (340 ≤ c ∧ c ≤ 342) ∨ (c = 270 ∧ (j = 50 ∨ j = 54 ∨ j = 55 ∨ j = 58 ∨ j = 98 ∨ j = 67))) → am_up (am_up g 270 67 (sd s)) 270 67 (sd (sd s)) c j = f c j := fun c j hc => by rw [am_un (by omega), am_un (by omega), h8 _ _ hc]
      have g67 : am_up (am_up g 270 67 (sd s)) 270 67 (sd (sd s)) 270 67 = sd (sd s) := am_ue
      unfold czz at ec
      generalize am_up (am_up g 270 67 (sd s)) 270 67 (sd (sd s)) = g2 at *
      generalize sd (sd s) / 64 % (n : Int) = t at *
      rw [r281_25]
      by_cases hb : z 1 t = 1
      · rw [if_pos hb] at ec
        have := go (0, t) (b + 1) (sd (sd s)) z g2 hB2 hN2 g67 g57 rfl sd_b.1 sd_b.2 (by omega) (by omega) gfr ec
        simpa (disch := omega) [q281, r281_26, r281_27, r281_30, r281_31, r281_33, r281_36, r281_37, r281_40, r281_43, r281_44, r281_47, r281_50, r281_51, r281_52, r281_55, r281_58, r281_60, r281_61, r281_63, r281_66, r281_75, q209, r209_0, r209_1, r209_4, r209_5, r209_6, cs_nil, cs_cons, lc_lt, lc_ge, lc_gt, lc_le, lc_eq, m_draw hs s0 s1, hd2, mfx_u hB1.1.1, mb_m hB1, ln_301, m_isBr hB2 ht0 ht1, hb, am_wid2, le_T, lt_T, le_F, lt_F, hn0] using this
      · rw [if_neg hb] at ec
        simp (disch := omega) [q281, r281_26, r281_27, r281_30, r281_31, r281_33, r281_36, r281_37, r281_40, r281_43, r281_44, r281_47, r281_50, r281_51, r281_52, r281_55, r281_58, r281_60, r281_61, r281_63, r281_66, r281_69, r281_70, r281_72, q209, r209_0, r209_1, r209_4, r209_5, r209_6, cs_nil, cs_cons, lc_lt, lc_ge, lc_gt, lc_le, lc_eq, m_draw hs s0 s1, hd2, mfx_u hB1.1.1, mb_m hB1, ln_301, m_isBr hB2 ht0 ht1, hb, am_wid2, le_T, lt_T, le_F, lt_F, hn0]
        refine m_break (b := 0) hB2 g57 (Or.inl rfl) (fun _ => hN2) ht0 ht1 ?_
        intro g3 e1 e2 e3 e4
        have := go (0, t) (b + 1) (sd (sd s)) (brk z t) g3 e1 (e2 rfl) ((e4 _ _ (by omega)).trans g67) ((e4 _ _ (by omega)).trans g57) brk_d sd_b.1 sd_b.2 (by omega) (by omega) (fun c j hc => by rw [e4 _ _ (by omega), gfr _ _ hc]) ec
        simpa (disch := omega) [q281, r281_75, am_wid2] using this
    · have ec : chn L ρ n m (j + 1) z s b = chn L ρ n m j (day L ρ n m z) (sd s) b := by rw [chn, if_neg hc]
      have := go (tx, vx) b (sd s) z (am_up g 270 67 (sd s)) hB1 hN1 am_ue (by rw [am_un (by omega)]; exact h57) rfl bs.1 bs.2 h3 (by omega) (fun c j hc => by rw [am_un (by omega), h8 _ _ hc]) ec
      rw [r281_25]
      by_cases hl1 : sd s / 64 % 100 < L 0 0
      · have hn : n = 0 := by omega
        subst hn
        simpa (disch := omega) [q281, r281_26, r281_27, r281_30, r281_31, r281_33, r281_36, r281_37, r281_40, r281_43, r281_44, r281_47, q209, r209_0, r209_1, r209_4, r209_5, r209_6, cs_nil, cs_cons, lc_lt, lc_ge, lc_gt, lc_le, lc_eq, m_draw hs s0 s1, mfx_u hB1.1.1, mb_m hB1, ln_301, am_wid2, le_T, lt_T, le_F, lt_F] using this
      · simpa (disch := omega) [q281, r281_26, r281_27, r281_30, r281_31, r281_33, r281_36, r281_37, r281_40, cs_nil, cs_cons, lc_lt, lc_ge, lc_gt, lc_le, lc_eq, m_draw hs s0 s1, mfx_u hB1.1.1, mb_m hB1, am_wid2, le_T, lt_T, le_F, lt_F] using this
theorem H_chance (h : IW f n m r L ρ τ z l Z) {k : Int} (hk : k < 2147483648) : HC d 137 281 [(0, k)] 0 f := by
  unfold HC
  have hB := h.2.2.1.1
  have hm := hB.1.1
  have hi := (IW_ref h (w := 3)).iv
  have hn := (iw_n h).1
  have fs := h.2.2.2.2.2.2.1
  have hB9 := MB_269 hB (j := 3) (v := am_wI (f 269 3 + 1))
  by_cases hc : 1 ≤ k ∧ k ≤ 100 ∧ z 0 0 + k ≤ 999
  · obtain ⟨N, rfl⟩ : ∃ N : Nat, k = N := ⟨k.toNat, by omega⟩
    simp (disch := omega) [q137, r137_0, r137_1, r137_2, r137_5, r137_8, r137_9, r137_10, r137_13, r137_14, r137_15, r137_18, r137_19, r137_22, r137_25, r137_26, r137_27, r137_28, r137_30, r137_31, r137_34, r137_35, r137_36, r137_39, r137_42, r137_43, r137_46, r137_47, r137_48, r137_49, r137_50, r137_53, r137_54, r137_57, r137_60, r137_61, r137_64, r137_67, r137_68, cs_nil, cs_cons, lc_lt, lc_ge, lc_gt, lc_le, lc_eq, c_fx h.1.1, c_can h hk, hc]
    refine c_pushI h ?_
    intro g1 a1 a2 a3 a4 a5
    simp (disch := omega) [q137, r137_0, r137_1, r137_2, r137_5, r137_8, r137_9, r137_10, r137_13, r137_14, r137_15, r137_18, r137_19, r137_22, r137_25, r137_26, r137_27, r137_28, r137_30, r137_31, r137_34, r137_35, r137_36, r137_39, r137_42, r137_43, r137_46, r137_47, r137_48, r137_49, r137_50, r137_53, r137_54, r137_57, r137_60, r137_61, r137_64, r137_67, r137_68, cs_nil, cs_cons, lc_lt, lc_ge, lc_gt, lc_le, lc_eq]
    refine c_chanceL (f := g1) (d := d + 32) (by omega) ⟨(a5 _ _ (by omega)).trans (fx_0_3 h.1.1), (a5 _ _ (by omega)).trans (fx_0_6 h.1.1)⟩ N 0 0 (f 0 13) z g1 (by omega) (by omega) (by omega) (by omega) (by omega) fs.2.2.1 fs.2.2.2 (a5 _ _ (by omega)) a3 a4 (fun _ _ _ => rfl) ?_
    intro g2 b1 b2 b13 b14 b3
    have c270 : ∀ c j : Int, 270 ≤ c → g2 c j = f c j := fun c j hc => (b3 c j (by omega)).trans (a5 c j (by omega))
    have hB2 : MB g2 n m r L ρ τ z := MB_fr hB (fun c j _ _ => c270 _ _ (by omega)) (fun j _ => c270 _ _ (by omega))
    simp (disch := omega) [q281, r281_0, r281_1, r281_2, r281_3, r281_5, r281_8, r281_11, r281_12, r281_13, r281_16, r281_17, r281_18, r281_21, r281_22, r281_23, r281_24, r281_26, r281_27, r281_30, r281_31, r281_33, r281_36, r281_37, r281_40, r281_43, r281_44, r281_47, r281_50, r281_51, r281_52, r281_55, r281_58, r281_60, r281_61, r281_63, r281_66, r281_69, r281_70, r281_72, r281_75, r281_78, r281_79, r281_82, r281_85, r281_88, r281_89, cs_nil, cs_cons, lc_lt, lc_ge, lc_gt, lc_le, lc_eq, m_ahead hB2, hc]
    refine m_keepsI h c270 ?_
    intro k1 e1 e2 e3 e4 e5 e6
    simp (disch := omega) [q281, r281_0, r281_1, r281_2, r281_3, r281_5, r281_8, r281_11, r281_12, r281_13, r281_16, r281_17, r281_18, r281_21, r281_22, r281_23, r281_24, r281_26, r281_27, r281_30, r281_31, r281_33, r281_36, r281_37, r281_40, r281_43, r281_44, r281_47, r281_50, r281_51, r281_52, r281_55, r281_58, r281_60, r281_61, r281_63, r281_66, r281_69, r281_70, r281_72, r281_75, r281_78, r281_79, r281_82, r281_85, r281_88, r281_89, cs_nil, cs_cons, lc_lt, lc_ge, lc_gt, lc_le, lc_eq]
    refine m_chanceL (f := k1) (d := d + 32) (by omega) N 0 0 (f 0 13) _ z k1 (by omega) (by omega) (by omega) (by omega) (by omega) fs.2.2.1 fs.2.2.2 (by rw [e6 _ _ (by omega), c270 _ _ (by omega)]; exact fs.2.1) e5 e3 e4 (fun _ _ _ => rfl) ?_
    intro k2 q1 q2 q67 q4
    have c0 : ∀ c j : Int, ¬ CC c j → g2 c j = f c j := fun c j hc => (b3 c j (by omega)).trans (a5 c j (by omega))
    have m0 : ∀ c j : Int, ¬ MC c j → k2 c j = g2 c j := fun c j hc => (q4 c j (by omega)).trans (e6 c j (by omega))
    refine ⟨rfl, (IW_act h c0 b1.2.2.1 b2 (PA_fr a1 (fun j _ => b3 _ _ (by omega)) (fun c j _ _ => b3 _ _ (by omega))) m0 q1.2.1 q2 (PB_fr e1 hn (fun j _ => q4 _ _ (by omega)) (fun j => q4 _ _ (by omega)) (fun j _ => q4 _ _ (by omega))) q1.2.2.2 ?_ ⟨⟨?_, ?_⟩, ?_, ?_⟩).iv⟩
    · rw [q4 _ _ (by omega), e2, m0 _ _ (by omega), b3 _ _ (by omega), a2]
    · rw [m0 _ _ (by omega), m0 _ _ (by omega), c270 _ _ (by omega), c0 _ _ (by omega)]; exact fs.1.1
    · rw [m0 _ _ (by omega), m0 _ _ (by omega), c270 _ _ (by omega), c0 _ _ (by omega)]; exact fs.1.2
    · rw [q67, m0 _ _ (by omega), b13]
    · rw [m0 _ _ (by omega), b13]; exact b14
  · simp (disch := omega) [q137, r137_0, r137_1, r137_2, r137_5, r137_8, r137_9, r137_10, r137_13, r137_14, r137_15, r137_18, r137_19, r137_22, r137_25, r137_26, r137_27, r137_28, r137_30, r137_31, r137_34, r137_35, r137_36, r137_39, r137_42, r137_43, r137_46, r137_47, r137_48, r137_49, r137_50, r137_53, r137_54, r137_57, r137_60, r137_61, r137_64, r137_67, r137_68, q281, r281_0, r281_1, r281_2, r281_3, r281_5, r281_8, r281_11, r281_12, r281_13, r281_16, r281_17, r281_18, r281_21, r281_22, r281_23, r281_24, r281_26, r281_27, r281_30, r281_31, r281_33, r281_36, r281_37, r281_40, r281_43, r281_44, r281_47, r281_50, r281_51, r281_52, r281_55, r281_58, r281_60, r281_61, r281_63, r281_66, r281_69, r281_70, r281_72, r281_75, r281_78, r281_79, r281_82, r281_85, r281_88, r281_89, cs_nil, cs_cons, lc_lt, lc_ge, lc_gt, lc_le, lc_eq, c_fx h.1.1, c_can h hk, c_refuse h.1.1, m_ahead hB9 (show (100 : Int) ≤ 1000 by omega) (show (-1000 : Int) ≤ 1 by omega), m_refuse hB9.1.1, hc, q137, r137_0, r137_1, r137_2, r137_5, r137_8, r137_9, r137_10, r137_13, r137_14, r137_15, r137_18, r137_19, r137_22, r137_25, r137_26, r137_27, r137_28, r137_30, r137_31, r137_34, r137_35, r137_36, r137_39, r137_42, r137_43, r137_46, r137_47, r137_48, r137_49, r137_50, r137_53, r137_54, r137_57, r137_60, r137_61, r137_64, r137_67, r137_68, q281, r281_0, r281_1, r281_2, r281_3, r281_5, r281_8, r281_11, r281_12, r281_13, r281_16, r281_17, r281_18, r281_21, r281_22, r281_23, r281_24, r281_26, r281_27, r281_30, r281_31, r281_33, r281_36, r281_37, r281_40, r281_43, r281_44, r281_47, r281_50, r281_51, r281_52, r281_55, r281_58, r281_60, r281_61, r281_63, r281_66, r281_69, r281_70, r281_72, r281_75, r281_78, r281_79, r281_82, r281_85, r281_88, r281_89, cs_nil, cs_cons, lc_lt, lc_ge, lc_gt, lc_le, lc_eq, m_ahead hB9, m_refuse hB9.1.1, hc, am_un, hi, c_refuse h.1.1]
end
