/-! days ahead: later, breaks, gain -/
section
variable {d n m r : Nat} {f L z : am_F} {ρ : Int → List Int} {τ : Int → Bool} {l : Int} {Z : Int → am_F} {Q : am_V → am_F → Prop}
theorem sS_eq56 {g : am_F} (h1 : sS f 56) (h2 : sS g 56) {j : Int} (h0 : 0 ≤ j) (h8 : j ≤ 8) : g 56 j = f 56 j := by
  have a := (sS_u h1).2.1
  have b := (sS_u h2).2.1
  obtain rfl | rfl | rfl | rfl | rfl | rfl | rfl | rfl | rfl : j = 0 ∨ j = 1 ∨ j = 2 ∨ j = 3 ∨ j = 4 ∨ j = 5 ∨ j = 6 ∨ j = 7 ∨ j = 8 := by omega
  all_goals omega
/-- the class has tried something, and so has the model -/
theorem IW_sp (h : IW f n m r L ρ τ z l Z) {g k : am_F} (c0 : ∀ c j : Int, ¬ (c = 35 ∨ (37 ≤ c ∧ c ≤ 39) ∨ (c = 40 ∧ 6 ≤ j) ∨ (41 ≤ c ∧ c ≤ 45) ∨ (56 ≤ c ∧ c ≤ 65)) → g c j = f c j) (s : sS g 56) (m0 : ∀ c j : Int, ¬ SC l c j → k c j = g c j) : IW k n m r L ρ τ z l Z := by
  refine IW_fr h (fun c j hc => ?_)
  rw [m0 c j hc]
  have q := SC_n hc
  by_cases h56 : c = 56
  · subst h56
    exact sS_eq56 (fx56 h.1.1) s (by omega) (by omega)
  · exact c0 c j (by omega)
theorem c_copyI (h : IW f n m r L ρ τ z l Z) (hQ : ∀ g, CB g 56 l n m r L ρ z → CN g 56 z → fC 56 f g → Q (3, 0) g) : aw_cl (d + 1) 96 [(107, 56), (107, 46)] f Q := by
  have hl := h.1.2.2.1
  have hb := h.2.1.1
  refine c_copy hb.2.2.1 h.2.1.2 (fx56 h.1.1) (by omega) (by omega) (by omega) (iw_n h).1 ?_
  intro g g1 g2 g3
  refine hQ g ⟨?_, CL_fr hb.2.1 hb.2.2.2.1 (fun c j _ _ => g3 _ _ (by omega)), g1, hb.2.2.2.1, hb.2.2.2.2⟩ g2 g3
  rw [g3 _ _ (by omega), g3 _ _ (by omega), g3 _ _ (by omega), g3 _ _ (by omega), g3 _ _ (by omega)]
  exact hb.1
theorem m_aside (h : MB f n m r L ρ τ z) (hQ : ∀ g, MB g n m r L ρ τ z → g 270 57 = 1 → g 270 58 = 0 → (∀ j : Int, 0 ≤ j → j < 41 → g 309 j = f 308 j) → (∀ c j : Int, ¬ (c = 309 ∨ (c = 270 ∧ (j = 57 ∨ j = 58))) → g c j = f c j) → Q (3, 0) g) : aw_cl d 244 [(110, 270)] f Q := by
  have hm1 : mfx (am_up f 270 57 1) := mfx_fr h.1.1 (fun j hj => am_un (by omega))
  have key : ∀ (j : Nat) (k : Int), k + j = 41 → 0 ≤ k → aw_wp d 244 31 [(110, 270), (0, 41)] [] (am_cpy (am_up f 270 57 1) 308 0 309 0 41) Q → aw_wp d 244 7 [(110, 270), (0, k)] [] (am_cpy (am_up f 270 57 1) 308 0 309 0 k) Q := by
    intro j
    induction j with
    | zero =>
      intro k hk h0 hQ
      obtain rfl : k = 41 := by omega
      rw [r244_7]
      simpa [q244, r244_8, r244_10] using hQ
    | succ j ih =>
      intro k hk h0 hQ
      have ih' := ih (k + 1) (by omega) (by omega) hQ
      have e := cpy_s (f := am_up f 270 57 1) (a0 := 308) (sp := 0) (a := 309) (dp := 0) (k := k) (by omega) h0
      rw [Int.zero_add] at e
      rw [am_un (by omega)] at e
      rw [r244_7]
      simpa (disch := omega) [q244, r244_0, r244_1, r244_2, r244_5, r244_6, r244_8, r244_10, r244_13, r244_14, r244_17, r244_18, r244_19, r244_22, r244_23, r244_24, r244_25, r244_28, r244_31, r244_32, r244_33, r244_36, cs_nil, cs_cons, lc_lt, lc_ge, lc_gt, lc_le, lc_eq, mfx_u hm1, mfx_u h.1.1, ln_308, ln_309, cpy_n, am_un, am_wid2, le_T, lt_T, le_F, lt_F, e] using ih'
  simp (disch := omega) [q244, r244_0, r244_1, r244_2, r244_5, r244_6, r244_8, r244_10, r244_13, r244_14, r244_17, r244_18, r244_19, r244_22, r244_23, r244_24, r244_25, r244_28, r244_31, r244_32, r244_33, r244_36, cs_nil, cs_cons, lc_lt, lc_ge, lc_gt, lc_le, lc_eq]
  have k0 := key 41 0 (by omega) (by omega)
  rw [cpy_0] at k0
  apply k0
  simp (disch := omega) [q244, r244_0, r244_1, r244_2, r244_5, r244_6, r244_8, r244_10, r244_13, r244_14, r244_17, r244_18, r244_19, r244_22, r244_23, r244_24, r244_25, r244_28, r244_31, r244_32, r244_33, r244_36, cs_nil, cs_cons, lc_lt, lc_ge, lc_gt, lc_le, lc_eq]
  have hfr : ∀ c j : Int, ¬ (c = 309 ∨ (c = 270 ∧ (j = 57 ∨ j = 58))) → (am_up (am_cpy (am_up f 270 57 1) 308 0 309 0 41) 270 58 0) c j = f c j := fun c j hc => by rw [am_un (by omega), cpy_n (by omega), am_un (by omega)]
  refine hQ _ (MB_fr h (fun c j _ _ => hfr c j (by omega)) (fun j _ => hfr _ _ (by omega))) ?_ am_ue (fun j a b => ?_) hfr
  · rw [am_un (by omega), cpy_n (by omega), am_ue]
  · rw [am_un (by omega), cpy_i (by omega), am_un (by omega)]; congr 1; omega
theorem m_back {g : am_F} (hm : mfx g) (hQ : ∀ k, (∀ j : Int, 0 ≤ j → j < 41 → k 308 j = g 309 j) → k 270 57 = 0 → (∀ c j : Int, ¬ ((c = 308 ∧ 0 ≤ j ∧ j < 41) ∨ (c = 270 ∧ j = 57)) → k c j = g c j) → Q (3, 0) k) : aw_cl d 254 [(110, 270)] g Q := by
  have key : ∀ (j : Nat) (k : Int), k + j = 41 → 0 ≤ k → aw_wp d 254 26 [(110, 270), (0, 41)] [] (am_cpy g 309 0 308 0 41) Q → aw_wp d 254 2 [(110, 270), (0, k)] [] (am_cpy g 309 0 308 0 k) Q := by
    intro j
    induction j with
    | zero =>
      intro k hk h0 hQ
      obtain rfl : k = 41 := by omega
      rw [r254_2]
      simpa [q254, r254_3, r254_5] using hQ
    | succ j ih =>
      intro k hk h0 hQ
      have ih' := ih (k + 1) (by omega) (by omega) hQ
      have e := cpy_s (f := g) (a0 := 309) (sp := 0) (a := 308) (dp := 0) (k := k) (by omega) h0
      rw [Int.zero_add] at e
      rw [r254_2]
      simpa (disch := omega) [q254, r254_0, r254_1, r254_3, r254_5, r254_8, r254_9, r254_12, r254_13, r254_14, r254_17, r254_18, r254_19, r254_20, r254_23, r254_26, r254_27, r254_28, r254_31, cs_nil, cs_cons, lc_lt, lc_ge, lc_gt, lc_le, lc_eq, mfx_u hm, ln_308, ln_309, cpy_n, am_wid2, le_T, lt_T, le_F, lt_F, e] using ih'
  simp (disch := omega) [q254, r254_0, r254_1, r254_3, r254_5, r254_8, r254_9, r254_12, r254_13, r254_14, r254_17, r254_18, r254_19, r254_20, r254_23, r254_26, r254_27, r254_28, r254_31, cs_nil, cs_cons, lc_lt, lc_ge, lc_gt, lc_le, lc_eq]
  have k0 := key 41 0 (by omega) (by omega)
  rw [cpy_0] at k0
  apply k0
  simp (disch := omega) [q254, r254_0, r254_1, r254_3, r254_5, r254_8, r254_9, r254_12, r254_13, r254_14, r254_17, r254_18, r254_19, r254_20, r254_23, r254_26, r254_27, r254_28, r254_31, cs_nil, cs_cons, lc_lt, lc_ge, lc_gt, lc_le, lc_eq]
  refine hQ _ (fun j a b => ?_) am_ue (fun c j hc => ?_)
  · rw [am_un (by omega), cpy_i (by omega)]; congr 1; omega
  · rw [am_un (by omega)]
    by_cases h8 : c = 308
    · subst h8; exact cpy_o (by omega)
    · exact cpy_n h8
theorem m_anew {g : am_F} (hm : mfx g) (hQ : ∀ k, (∀ j : Int, 0 ≤ j → j < 41 → k 308 j = g 309 j) → k 270 58 = 0 → (∀ c j : Int, ¬ ((c = 308 ∧ 0 ≤ j ∧ j < 41) ∨ (c = 270 ∧ j = 58)) → k c j = g c j) → Q (3, 0) k) : aw_cl d 260 [(110, 270)] g Q := by
  have key : ∀ (j : Nat) (k : Int), k + j = 41 → 0 ≤ k → aw_wp d 260 26 [(110, 270), (0, 41)] [] (am_cpy g 309 0 308 0 41) Q → aw_wp d 260 2 [(110, 270), (0, k)] [] (am_cpy g 309 0 308 0 k) Q := by
    intro j
    induction j with
    | zero =>
      intro k hk h0 hQ
      obtain rfl : k = 41 := by omega
      rw [r260_2]
      simpa [q260, r260_3, r260_5] using hQ
    | succ j ih =>
      intro k hk h0 hQ
      have ih' := ih (k + 1) (by omega) (by omega) hQ
      have e := cpy_s (f := g) (a0 := 309) (sp := 0) (a := 308) (dp := 0) (k := k) (by omega) h0
      rw [Int.zero_add] at e
      rw [r260_2]
      simpa (disch := omega) [q260, r260_0, r260_1, r260_3, r260_5, r260_8, r260_9, r260_12, r260_13, r260_14, r260_17, r260_18, r260_19, r260_20, r260_23, r260_26, r260_27, r260_28, r260_31, cs_nil, cs_cons, lc_lt, lc_ge, lc_gt, lc_le, lc_eq, mfx_u hm, ln_308, ln_309, cpy_n, am_wid2, le_T, lt_T, le_F, lt_F, e] using ih'
  simp (disch := omega) [q260, r260_0, r260_1, r260_3, r260_5, r260_8, r260_9, r260_12, r260_13, r260_14, r260_17, r260_18, r260_19, r260_20, r260_23, r260_26, r260_27, r260_28, r260_31, cs_nil, cs_cons, lc_lt, lc_ge, lc_gt, lc_le, lc_eq]
  have k0 := key 41 0 (by omega) (by omega)
  rw [cpy_0] at k0
  apply k0
  simp (disch := omega) [q260, r260_0, r260_1, r260_3, r260_5, r260_8, r260_9, r260_12, r260_13, r260_14, r260_17, r260_18, r260_19, r260_20, r260_23, r260_26, r260_27, r260_28, r260_31, cs_nil, cs_cons, lc_lt, lc_ge, lc_gt, lc_le, lc_eq]
  refine hQ _ (fun j a b => ?_) am_ue (fun c j hc => ?_)
  · rw [am_un (by omega), cpy_i (by omega)]; congr 1; omega
  · rw [am_un (by omega)]
    by_cases h8 : c = 308
    · subst h8; exact cpy_o (by omega)
    · exact cpy_n h8
/-- tried and taken back, the model stands as it stood -/
theorem m_same {g g1 g2 k : am_F} (h57 : f 270 57 = 0) (a1 : ∀ j : Int, 0 ≤ j → j < 41 → g1 309 j = g 308 j) (a2 : ∀ c j : Int, ¬ (c = 309 ∨ (c = 270 ∧ (j = 57 ∨ j = 58))) → g1 c j = g c j) (b1 : ∀ c j : Int, ¬ (c = 342 ∨ c = 311 ∨ c = 312 ∨ (c = 308 ∧ j ≤ 40) ∨ (310 ≤ c ∧ c ≤ 315) ∨ (c = 270 ∧ (j = 50 ∨ j = 54 ∨ j = 55 ∨ j = 98 ∨ j = 58))) → g2 c j = g1 c j) (c1 : ∀ j : Int, 0 ≤ j → j < 41 → k 308 j = g2 309 j) (c2 : k 270 57 = 0) (c3 : ∀ c j : Int, ¬ ((c = 308 ∧ 0 ≤ j ∧ j < 41) ∨ (c = 270 ∧ j = 57)) → k c j = g2 c j) (h57' : g 270 57 = f 270 57) : ∀ c j : Int, ¬ SC l c j → k c j = g c j := by
  intro c j hc
  have q := SC_n hc
  by_cases h8 : c = 308 ∧ j < 41
  · obtain ⟨rfl, hj⟩ := h8
    rw [c1 j (by omega) hj, b1 _ _ (by omega), a1 j (by omega) hj]
  · by_cases h7 : c = 270 ∧ j = 57
    · rw [h7.1, h7.2, c2, h57', h57]
    · rw [c3 c j (by omega), b1 c j (by omega), a2 c j (by omega)]
theorem c_aheadN (h : IW f n m r L ρ τ z l Z) : aw_cl (d + 1) 95 [(109, 0)] f Q = Q (0, if 60 ≤ 999 - z 0 0 then 60 else 999 - z 0 0) f := by
  have ho := h.2.1.1.2.2.2.2.1
  simp (disch := omega) [q95, r95_0, r95_2, r95_5, r95_6, r95_9, r95_12, r95_13, r95_16, cs_nil, cs_cons, lc_lt, lc_ge, lc_gt, lc_le, lc_eq, c_fx h.1.1, iw_S h, am_wid2, h_min]
theorem c_laterL {N w : Int} (hN : N ≤ 100) (hx : f 0 3 = 36 ∧ f 0 7 = 56) : ∀ (j : Nat) (k : Int) (b : Int) (z g : am_F), k + j = N → 0 ≤ k → 0 ≤ b → b ≤ 8 * k → z 0 0 + j ≤ 999 → CB g 56 l n m r L ρ z → CN g 56 z → fL 56 f g → (∀ g', CB g' 56 l n m r L ρ (dys L ρ n m j z) → CN g' 56 (dys L ρ n m j z) → fL 56 f g' → aw_wp (d + 8) 94 68 [(109, 0), (0, N), (0, w), (0, b + dct L ρ n m j z), (0, N)] [] g' Q) → aw_wp (d + 8) 94 39 [(109, 0), (0, N), (0, w), (0, b), (0, k)] [] g Q := by
  intro j
  induction j with
  | zero =>
    intro k b z g h1 h2 h3 h4 h5 h6 h7 h8 hQ
    have := hQ g h6 h7 h8
    obtain rfl : k = N := by omega
    rw [r94_39]
    simpa (disch := omega) [q94, r94_41, r94_42, dct] using this
  | succ j ih =>
    intro k b z g h1 h2 h3 h4 h5 h6 h7 h8 hQ
    have x3 : g 0 3 = 36 := (h8 _ _ (by omega)).trans hx.1
    have x6 : g 0 7 = 56 := (h8 _ _ (by omega)).trans hx.2
    have hn := h6.2.2.2.1.1
    rw [r94_39]
    simp (disch := omega) [q94, r94_0, r94_1, r94_4, r94_5, r94_6, r94_9, r94_12, r94_13, r94_16, r94_17, r94_18, r94_21, r94_22, r94_23, r94_24, r94_27, r94_28, r94_31, r94_34, r94_35, r94_36, r94_37, r94_41, r94_42, r94_45, r94_46, r94_47, r94_50, r94_51, r94_54, r94_57, r94_60, r94_61, r94_62, r94_65, r94_68, r94_69, r94_96, r94_97, r94_100, r94_101, r94_104, r94_107, r94_108, r94_109, r94_112, r94_113, r94_116, r94_117, r94_118, r94_121, r94_124, r94_125, r94_128, r94_129, r94_132, r94_135, r94_138, r94_139, r94_140, cs_nil, cs_cons, lc_lt, lc_ge, lc_gt, lc_le, lc_eq, le_F, lt_T, x3, x6]
    refine c_live h6 h7 (by omega) ?_
    intro g1 q1 q2 q3
    have hb : bm (fun t => aFl L ρ z (t : Int)) n < 256 := bm_8 hn
    have hp : pop (bm (fun t => aFl L ρ z (t : Int)) n) = ct (fun t => aFl L ρ z (t : Int)) n := pop_bm hn
    have hc := ct_le (p := fun t => aFl L ρ z (t : Int)) n
    have ih' := ih (k + 1) (b + ct (fun t => aFl L ρ z (t : Int)) n) (day L ρ n m z) g1 (by omega) (by omega) (by omega) (by omega) (by rw [day_d]; omega) q1 q2 (fL_tr h8 q3) (fun g' e1 e2 e3 => by
      have := hQ g' e1 e2 e3
      rw [dct] at this
      rwa [show b + (ct (fun t => aFl L ρ z (t : Int)) n : Int) + (dct L ρ n m j (day L ρ n m z) : Int) = b + ((ct (fun t => aFl L ρ z (t : Int)) n + dct L ρ n m j (day L ρ n m z) : Nat) : Int) by omega])
    simpa (disch := omega) [q94, r94_0, r94_1, r94_4, r94_5, r94_6, r94_9, r94_12, r94_13, r94_16, r94_17, r94_18, r94_21, r94_22, r94_23, r94_24, r94_27, r94_28, r94_31, r94_34, r94_35, r94_36, r94_37, r94_41, r94_42, r94_45, r94_46, r94_47, r94_50, r94_51, r94_54, r94_57, r94_60, r94_61, r94_62, r94_65, r94_68, r94_69, r94_96, r94_97, r94_100, r94_101, r94_104, r94_107, r94_108, r94_109, r94_112, r94_113, r94_116, r94_117, r94_118, r94_121, r94_124, r94_125, r94_128, r94_129, r94_132, r94_135, r94_138, r94_139, r94_140, cs_nil, cs_cons, lc_lt, lc_ge, lc_gt, lc_le, lc_eq, c_bits hb, hp, am_wid2] using ih'
theorem fC_L {a : Int} {g : am_F} (h : fC a f g) : fL a f g := fun c j hc => h c j (by omega)
def lat (L : am_F) (ρ : Int → List Int) (n m : Nat) (N : Nat) (w : Int) (z : am_F) : Int := if w = 0 then (bm (fun t => aSt L ρ (dys L ρ n m N z) (t : Int)) n : Int) else if w = 1 then (bm (fun t => decide ((dys L ρ n m N z) 1 (t : Int) = 1)) n : Int) else if w = 2 then us (L 3) (bm (fun t => aSt L ρ (dys L ρ n m N z) (t : Int)) n) n else (dct L ρ n m N z : Int)
theorem c_later (h : IW f n m r L ρ τ z l Z) {N : Nat} {w : Int} (hN : N ≤ 60) (hd : z 0 0 + N ≤ 999) (hw : 0 ≤ w ∧ w ≤ 3) (hQ : ∀ g, sS g 56 → fL 56 f g → Q (0, lat L ρ n m N w z) g) : aw_cl (d + 12) 94 [(109, 0), (0, (N : Int)), (0, w)] f Q := by
  have e : (N : Int) ≤ (if 60 ≤ 999 - z 0 0 then 60 else 999 - z 0 0) := by split <;> omega
  have hn := (iw_n h).1
  simp (disch := omega) [q94, r94_0, r94_1, r94_4, r94_5, r94_6, r94_9, r94_12, r94_13, r94_16, r94_17, r94_18, r94_21, r94_22, r94_23, r94_24, r94_27, r94_28, r94_31, r94_34, r94_35, r94_36, r94_37, r94_41, r94_42, r94_45, r94_46, r94_47, r94_50, r94_51, r94_54, r94_57, r94_60, r94_61, r94_62, r94_65, r94_68, r94_69, r94_96, r94_97, r94_100, r94_101, r94_104, r94_107, r94_108, r94_109, r94_112, r94_113, r94_116, r94_117, r94_118, r94_121, r94_124, r94_125, r94_128, r94_129, r94_132, r94_135, r94_138, r94_139, r94_140, cs_nil, cs_cons, lc_lt, lc_ge, lc_gt, lc_le, lc_eq, c_fx h.1.1, c_aheadN h, le_T, lt_T, le_F, lt_F, e]
  refine c_copyI h ?_
  intro g1 a1 a2 a3
  simp (disch := omega) [q94, r94_0, r94_1, r94_4, r94_5, r94_6, r94_9, r94_12, r94_13, r94_16, r94_17, r94_18, r94_21, r94_22, r94_23, r94_24, r94_27, r94_28, r94_31, r94_34, r94_35, r94_36, r94_37, r94_41, r94_42, r94_45, r94_46, r94_47, r94_50, r94_51, r94_54, r94_57, r94_60, r94_61, r94_62, r94_65, r94_68, r94_69, r94_96, r94_97, r94_100, r94_101, r94_104, r94_107, r94_108, r94_109, r94_112, r94_113, r94_116, r94_117, r94_118, r94_121, r94_124, r94_125, r94_128, r94_129, r94_132, r94_135, r94_138, r94_139, r94_140, cs_nil, cs_cons, lc_lt, lc_ge, lc_gt, lc_le, lc_eq]
  refine c_laterL (f := g1) (d := d + 4) (by omega) ⟨(a3 _ _ (by omega)).trans (fx_0_3 h.1.1), (a3 _ _ (by omega)).trans (fx_0_7 h.1.1)⟩ N 0 0 z g1 (by omega) (by omega) (by omega) (by omega) (by omega) a1 a2 (fun _ _ _ => rfl) ?_
  intro g2 b1 b2 b3
  have fr : fL 56 f g2 := fL_tr (fC_L a3) b3
  have x3 : g2 0 3 = 36 := (fr _ _ (by omega)).trans (fx_0_3 h.1.1)
  have x7 : g2 0 7 = 56 := (fr _ _ (by omega)).trans (fx_0_7 h.1.1)
  have hb : bm (fun t => aSt L ρ (dys L ρ n m N z) (t : Int)) n < 2147483648 := bm_31 (by omega)
  unfold lat at hQ
  obtain rfl | rfl | rfl | rfl : w = 0 ∨ w = 1 ∨ w = 2 ∨ w = 3 := by omega
  · simp (disch := omega) [q94, r94_0, r94_1, r94_4, r94_5, r94_6, r94_9, r94_12, r94_13, r94_16, r94_17, r94_18, r94_21, r94_22, r94_23, r94_24, r94_27, r94_28, r94_31, r94_34, r94_35, r94_36, r94_37, r94_41, r94_42, r94_45, r94_46, r94_47, r94_50, r94_51, r94_54, r94_57, r94_60, r94_61, r94_62, r94_65, r94_68, r94_69, r94_96, r94_97, r94_100, r94_101, r94_104, r94_107, r94_108, r94_109, r94_112, r94_113, r94_116, r94_117, r94_118, r94_121, r94_124, r94_125, r94_128, r94_129, r94_132, r94_135, r94_138, r94_139, r94_140, cs_nil, cs_cons, lc_lt, lc_ge, lc_gt, lc_le, lc_eq, x3, x7]
    refine c_standing b1 ?_
    intro g3 q1
    have := hQ g3 (CB_fK b1 q1).2.2.1.1 (fL_tr fr (fun c j hc => q1 c j (by omega)))
    simpa [q94, r94_0, r94_1, r94_4, r94_5, r94_6, r94_9, r94_12, r94_13, r94_16, r94_17, r94_18, r94_21, r94_22, r94_23, r94_24, r94_27, r94_28, r94_31, r94_34, r94_35, r94_36, r94_37, r94_41, r94_42, r94_45, r94_46, r94_47, r94_50, r94_51, r94_54, r94_57, r94_60, r94_61, r94_62, r94_65, r94_68, r94_69, r94_96, r94_97, r94_100, r94_101, r94_104, r94_107, r94_108, r94_109, r94_112, r94_113, r94_116, r94_117, r94_118, r94_121, r94_124, r94_125, r94_128, r94_129, r94_132, r94_135, r94_138, r94_139, r94_140, cs_nil, cs_cons, lc_lt, lc_ge, lc_gt, lc_le, lc_eq] using this
  · simp (disch := omega) [q94, r94_0, r94_1, r94_4, r94_5, r94_6, r94_9, r94_12, r94_13, r94_16, r94_17, r94_18, r94_21, r94_22, r94_23, r94_24, r94_27, r94_28, r94_31, r94_34, r94_35, r94_36, r94_37, r94_41, r94_42, r94_45, r94_46, r94_47, r94_50, r94_51, r94_54, r94_57, r94_60, r94_61, r94_62, r94_65, r94_68, r94_69, r94_96, r94_97, r94_100, r94_101, r94_104, r94_107, r94_108, r94_109, r94_112, r94_113, r94_116, r94_117, r94_118, r94_121, r94_124, r94_125, r94_128, r94_129, r94_132, r94_135, r94_138, r94_139, r94_140, cs_nil, cs_cons, lc_lt, lc_ge, lc_gt, lc_le, lc_eq, x3, x7, c_areZ b1]
    simpa using hQ g2 b1.2.2.1.1 fr
  · have x9 : g2 56 9 = l := b1.2.2.1.2.2.1
    have hl := h.1.2.2.1
    have hl0 : 0 ≤ l := by omega
    simp (disch := omega) [q94, r94_0, r94_1, r94_4, r94_5, r94_6, r94_9, r94_12, r94_13, r94_16, r94_17, r94_18, r94_21, r94_22, r94_23, r94_24, r94_27, r94_28, r94_31, r94_34, r94_35, r94_36, r94_37, r94_41, r94_42, r94_45, r94_46, r94_47, r94_50, r94_51, r94_54, r94_57, r94_60, r94_61, r94_62, r94_65, r94_68, r94_69, r94_96, r94_97, r94_100, r94_101, r94_104, r94_107, r94_108, r94_109, r94_112, r94_113, r94_116, r94_117, r94_118, r94_121, r94_124, r94_125, r94_128, r94_129, r94_132, r94_135, r94_138, r94_139, r94_140, cs_nil, cs_cons, lc_lt, lc_ge, lc_gt, lc_le, lc_eq, x3, x7, x9, hl0]
    refine c_standing b1 ?_
    intro g3 q1
    have b3' := CB_fK b1 q1
    have := hQ g3 b3'.2.2.1.1 (fL_tr fr (fun c j hc => q1 c j (by omega)))
    simpa (disch := omega) [q94, r94_0, r94_1, r94_4, r94_5, r94_6, r94_9, r94_12, r94_13, r94_16, r94_17, r94_18, r94_21, r94_22, r94_23, r94_24, r94_27, r94_28, r94_31, r94_34, r94_35, r94_36, r94_37, r94_41, r94_42, r94_45, r94_46, r94_47, r94_50, r94_51, r94_54, r94_57, r94_60, r94_61, r94_62, r94_65, r94_68, r94_69, r94_96, r94_97, r94_100, r94_101, r94_104, r94_107, r94_108, r94_109, r94_112, r94_113, r94_116, r94_117, r94_118, r94_121, r94_124, r94_125, r94_128, r94_129, r94_132, r94_135, r94_138, r94_139, r94_140, cs_nil, cs_cons, lc_lt, lc_ge, lc_gt, lc_le, lc_eq, c_useOf b3'.2.1 b3'.2.2.2.1 hb, hl0] using this
  · have := hQ g2 b1.2.2.1.1 fr
    simpa (disch := omega) [q94, r94_0, r94_1, r94_4, r94_5, r94_6, r94_9, r94_12, r94_13, r94_16, r94_17, r94_18, r94_21, r94_22, r94_23, r94_24, r94_27, r94_28, r94_31, r94_34, r94_35, r94_36, r94_37, r94_41, r94_42, r94_45, r94_46, r94_47, r94_50, r94_51, r94_54, r94_57, r94_60, r94_61, r94_62, r94_65, r94_68, r94_69, r94_96, r94_97, r94_100, r94_101, r94_104, r94_107, r94_108, r94_109, r94_112, r94_113, r94_116, r94_117, r94_118, r94_121, r94_124, r94_125, r94_128, r94_129, r94_132, r94_135, r94_138, r94_139, r94_140, cs_nil, cs_cons, lc_lt, lc_ge, lc_gt, lc_le, lc_eq] using this
theorem m_later (h : IW f n m r L ρ τ z l Z) {g : am_F} {N : Nat} {w : Int} (hN : N ≤ 60) (hd : z 0 0 + N ≤ 999) (hw : 0 ≤ w ∧ w ≤ 3) (hg : ∀ c j : Int, 270 ≤ c → g c j = f c j) (hQ : ∀ k, (∀ c j : Int, ¬ SC l c j → k c j = g c j) → Q (0, lat L ρ n m N w z) k) : aw_cl (d + 12) 242 [(110, 270), (0, (N : Int)), (0, w)] g Q := by
  have hB : MB g n m r L ρ τ z := MB_fr h.2.2.1.1 (fun c j _ _ => hg _ _ (by omega)) (fun j _ => hg _ _ (by omega))
  have hn := (iw_n h).1
  have hc : (0 : Int) ≤ N ∧ (N : Int) ≤ 60 ∧ z 0 0 + N ≤ 999 := by omega
  simp (disch := omega) [q242, r242_0, r242_1, r242_2, r242_3, r242_5, r242_8, r242_11, r242_12, r242_13, r242_14, r242_17, r242_20, r242_23, r242_24, r242_25, r242_26, r242_29, r242_30, r242_31, r242_34, r242_35, r242_38, r242_39, r242_42, r242_45, r242_46, r242_47, r242_50, r242_51, r242_52, r242_55, r242_58, r242_59, r242_60, r242_63, r242_64, r242_65, r242_68, r242_71, r242_74, r242_75, r242_78, r242_79, r242_80, r242_83, r242_84, cs_nil, cs_cons, lc_lt, lc_ge, lc_gt, lc_le, lc_eq, m_ahead hB, hc, h_isIn, hw]
  refine m_aside hB ?_
  intro g1 a1 a2 a3 a4 a5
  simp (disch := omega) [q242, r242_0, r242_1, r242_2, r242_3, r242_5, r242_8, r242_11, r242_12, r242_13, r242_14, r242_17, r242_20, r242_23, r242_24, r242_25, r242_26, r242_29, r242_30, r242_31, r242_34, r242_35, r242_38, r242_39, r242_42, r242_45, r242_46, r242_47, r242_50, r242_51, r242_52, r242_55, r242_58, r242_59, r242_60, r242_63, r242_64, r242_65, r242_68, r242_71, r242_74, r242_75, r242_78, r242_79, r242_80, r242_83, r242_84, cs_nil, cs_cons, lc_lt, lc_ge, lc_gt, lc_le, lc_eq]
  refine aw_imp (Q := fun v g' => v = (3, 0) ∧ MB g' n m r L ρ τ (dys L ρ n m N z) ∧ g' 270 58 = dct L ρ n m N z ∧ fD 1 g1 g') ?_ ?_
  · simp (disch := omega) [q245, r245_0, r245_1, r245_3, r245_4, r245_7, r245_8, r245_11, r245_14, r245_17, cs_nil, cs_cons, lc_lt, lc_ge, lc_gt, lc_le, lc_eq]
    refine m_daysL (f := g1) (d := d + 3) (b0 := 1) (Or.inr rfl) (by omega) N 0 0 z g1 (by omega) (by omega) (by omega) (by omega) a3 a2 (by omega) a1 (fun q => by omega) (fun _ _ _ => rfl) ?_
    intro g' i1 i2 i3 i4 i5
    refine ⟨rfl, i1, ?_, i5⟩
    rw [i3]; omega
  · rintro v g2 ⟨rfl, q1, q2, q3⟩
    have hb : bm (fun t => aSt L ρ (dys L ρ n m N z) (t : Int)) n < 2147483648 := bm_31 (by omega)
    have fin : ∀ (g3 : am_F), mfx g3 → fU g2 g3 → aw_cl (d + 11) 254 [(110, 270)] g3 (fun v k => v = (3, 0) ∧ Q (0, lat L ρ n m N w z) k) := by
      intro g3 hm3 h3
      refine m_back hm3 ?_
      intro k k1 k2 k3
      refine ⟨rfl, hQ k ?_⟩
      refine m_same (f := f) (g1 := g1) (g2 := g3) h.1.2.2.2.2.1 a4 a5 (fun c j hc => ?_) k1 k2 k3 (hg _ _ (by omega))
      rw [h3 c j (by omega)]
      exact q3 c j (by omega)
    unfold lat at fin
    obtain rfl | rfl | rfl | rfl : w = 0 ∨ w = 1 ∨ w = 2 ∨ w = 3 := by omega
    · simp (disch := omega) [q242, r242_0, r242_1, r242_2, r242_3, r242_5, r242_8, r242_11, r242_12, r242_13, r242_14, r242_17, r242_20, r242_23, r242_24, r242_25, r242_26, r242_29, r242_30, r242_31, r242_34, r242_35, r242_38, r242_39, r242_42, r242_45, r242_46, r242_47, r242_50, r242_51, r242_52, r242_55, r242_58, r242_59, r242_60, r242_63, r242_64, r242_65, r242_68, r242_71, r242_74, r242_75, r242_78, r242_79, r242_80, r242_83, r242_84, cs_nil, cs_cons, lc_lt, lc_ge, lc_gt, lc_le, lc_eq]
      refine m_standSet q1 ?_
      intro g3 h3
      simp (disch := omega) [q242, r242_0, r242_1, r242_2, r242_3, r242_5, r242_8, r242_11, r242_12, r242_13, r242_14, r242_17, r242_20, r242_23, r242_24, r242_25, r242_26, r242_29, r242_30, r242_31, r242_34, r242_35, r242_38, r242_39, r242_42, r242_45, r242_46, r242_47, r242_50, r242_51, r242_52, r242_55, r242_58, r242_59, r242_60, r242_63, r242_64, r242_65, r242_68, r242_71, r242_74, r242_75, r242_78, r242_79, r242_80, r242_83, r242_84, cs_nil, cs_cons, lc_lt, lc_ge, lc_gt, lc_le, lc_eq]
      refine aw_imp (fin g3 (MB_fU q1 h3).1.1 h3) ?_
      rintro v k ⟨rfl, hk⟩
      simpa (disch := omega) [q242, r242_0, r242_1, r242_2, r242_3, r242_5, r242_8, r242_11, r242_12, r242_13, r242_14, r242_17, r242_20, r242_23, r242_24, r242_25, r242_26, r242_29, r242_30, r242_31, r242_34, r242_35, r242_38, r242_39, r242_42, r242_45, r242_46, r242_47, r242_50, r242_51, r242_52, r242_55, r242_58, r242_59, r242_60, r242_63, r242_64, r242_65, r242_68, r242_71, r242_74, r242_75, r242_78, r242_79, r242_80, r242_83, r242_84, cs_nil, cs_cons, lc_lt, lc_ge, lc_gt, lc_le, lc_eq] using hk
    · simp (disch := omega) [q242, r242_0, r242_1, r242_2, r242_3, r242_5, r242_8, r242_11, r242_12, r242_13, r242_14, r242_17, r242_20, r242_23, r242_24, r242_25, r242_26, r242_29, r242_30, r242_31, r242_34, r242_35, r242_38, r242_39, r242_42, r242_45, r242_46, r242_47, r242_50, r242_51, r242_52, r242_55, r242_58, r242_59, r242_60, r242_63, r242_64, r242_65, r242_68, r242_71, r242_74, r242_75, r242_78, r242_79, r242_80, r242_83, r242_84, cs_nil, cs_cons, lc_lt, lc_ge, lc_gt, lc_le, lc_eq, m_setOfZ q1]
      refine aw_imp (fin g2 q1.1.1 fU_refl) ?_
      rintro v k ⟨rfl, hk⟩
      simpa (disch := omega) [q242, r242_0, r242_1, r242_2, r242_3, r242_5, r242_8, r242_11, r242_12, r242_13, r242_14, r242_17, r242_20, r242_23, r242_24, r242_25, r242_26, r242_29, r242_30, r242_31, r242_34, r242_35, r242_38, r242_39, r242_42, r242_45, r242_46, r242_47, r242_50, r242_51, r242_52, r242_55, r242_58, r242_59, r242_60, r242_63, r242_64, r242_65, r242_68, r242_71, r242_74, r242_75, r242_78, r242_79, r242_80, r242_83, r242_84, cs_nil, cs_cons, lc_lt, lc_ge, lc_gt, lc_le, lc_eq] using hk
    · simp (disch := omega) [q242, r242_0, r242_1, r242_2, r242_3, r242_5, r242_8, r242_11, r242_12, r242_13, r242_14, r242_17, r242_20, r242_23, r242_24, r242_25, r242_26, r242_29, r242_30, r242_31, r242_34, r242_35, r242_38, r242_39, r242_42, r242_45, r242_46, r242_47, r242_50, r242_51, r242_52, r242_55, r242_58, r242_59, r242_60, r242_63, r242_64, r242_65, r242_68, r242_71, r242_74, r242_75, r242_78, r242_79, r242_80, r242_83, r242_84, cs_nil, cs_cons, lc_lt, lc_ge, lc_gt, lc_le, lc_eq]
      refine m_standSet q1 ?_
      intro g3 h3
      simp (disch := omega) [q242, r242_0, r242_1, r242_2, r242_3, r242_5, r242_8, r242_11, r242_12, r242_13, r242_14, r242_17, r242_20, r242_23, r242_24, r242_25, r242_26, r242_29, r242_30, r242_31, r242_34, r242_35, r242_38, r242_39, r242_42, r242_45, r242_46, r242_47, r242_50, r242_51, r242_52, r242_55, r242_58, r242_59, r242_60, r242_63, r242_64, r242_65, r242_68, r242_71, r242_74, r242_75, r242_78, r242_79, r242_80, r242_83, r242_84, cs_nil, cs_cons, lc_lt, lc_ge, lc_gt, lc_le, lc_eq, m_useBy (MB_fU q1 h3) hb]
      refine aw_imp (fin g3 (MB_fU q1 h3).1.1 h3) ?_
      rintro v k ⟨rfl, hk⟩
      simpa (disch := omega) [q242, r242_0, r242_1, r242_2, r242_3, r242_5, r242_8, r242_11, r242_12, r242_13, r242_14, r242_17, r242_20, r242_23, r242_24, r242_25, r242_26, r242_29, r242_30, r242_31, r242_34, r242_35, r242_38, r242_39, r242_42, r242_45, r242_46, r242_47, r242_50, r242_51, r242_52, r242_55, r242_58, r242_59, r242_60, r242_63, r242_64, r242_65, r242_68, r242_71, r242_74, r242_75, r242_78, r242_79, r242_80, r242_83, r242_84, cs_nil, cs_cons, lc_lt, lc_ge, lc_gt, lc_le, lc_eq] using hk
    · simp (disch := omega) [q242, r242_0, r242_1, r242_2, r242_3, r242_5, r242_8, r242_11, r242_12, r242_13, r242_14, r242_17, r242_20, r242_23, r242_24, r242_25, r242_26, r242_29, r242_30, r242_31, r242_34, r242_35, r242_38, r242_39, r242_42, r242_45, r242_46, r242_47, r242_50, r242_51, r242_52, r242_55, r242_58, r242_59, r242_60, r242_63, r242_64, r242_65, r242_68, r242_71, r242_74, r242_75, r242_78, r242_79, r242_80, r242_83, r242_84, cs_nil, cs_cons, lc_lt, lc_ge, lc_gt, lc_le, lc_eq]
      refine aw_imp (fin g2 q1.1.1 fU_refl) ?_
      rintro v k ⟨rfl, hk⟩
      simpa (disch := omega) [q242, r242_0, r242_1, r242_2, r242_3, r242_5, r242_8, r242_11, r242_12, r242_13, r242_14, r242_17, r242_20, r242_23, r242_24, r242_25, r242_26, r242_29, r242_30, r242_31, r242_34, r242_35, r242_38, r242_39, r242_42, r242_45, r242_46, r242_47, r242_50, r242_51, r242_52, r242_55, r242_58, r242_59, r242_60, r242_63, r242_64, r242_65, r242_68, r242_71, r242_74, r242_75, r242_78, r242_79, r242_80, r242_83, r242_84, cs_nil, cs_cons, lc_lt, lc_ge, lc_gt, lc_le, lc_eq, q2] using hk
theorem H_later (h : IW f n m r L ρ τ z l Z) {k w : Int} (hk : -2147483648 ≤ k) (hk2 : k < 2147483648) : HC d 94 242 [(0, k), (0, w)] 0 f := by
  unfold HC
  have hB := h.2.2.1.1
  have ho := h.2.1.1.2.2.2.2.1
  have hi := h.iv
  by_cases hc : 0 ≤ k ∧ k ≤ 60 ∧ z 0 0 + k ≤ 999
  · by_cases hw : 0 ≤ w ∧ w ≤ 3
    · obtain ⟨N, rfl⟩ : ∃ N : Nat, k = N := ⟨k.toNat, by omega⟩
      refine c_later (d := d + 28) h (by omega) (by omega) hw ?_
      intro g a1 a2
      refine m_later (d := d + 28) h (by omega) (by omega) hw (fun c j hc => a2 c j (by omega)) ?_
      intro k2 b1
      exact ⟨rfl, rfl, (IW_sp h (fun c j hc => a2 c j (by omega)) a1 b1).iv⟩
    · have e : k ≤ (if 60 ≤ 999 - z 0 0 then 60 else 999 - z 0 0) := by split <;> omega
      rcases (show w < 0 ∨ 3 < w by omega) with hw' | hw'
      · simp (disch := omega) [q94, r94_0, r94_1, r94_4, r94_5, r94_6, r94_9, r94_12, r94_13, r94_16, r94_17, r94_18, r94_21, r94_22, r94_23, r94_24, r94_27, r94_28, r94_31, r94_34, r94_35, r94_36, r94_37, r94_41, r94_42, r94_45, r94_46, r94_47, r94_50, r94_51, r94_54, r94_57, r94_60, r94_61, r94_62, r94_65, r94_68, r94_69, r94_96, r94_97, r94_100, r94_101, r94_104, r94_107, r94_108, r94_109, r94_112, r94_113, r94_116, r94_117, r94_118, r94_121, r94_124, r94_125, r94_128, r94_129, r94_132, r94_135, r94_138, r94_139, r94_140, q242, r242_0, r242_1, r242_2, r242_3, r242_5, r242_8, r242_11, r242_12, r242_13, r242_14, r242_17, r242_20, r242_23, r242_24, r242_25, r242_26, r242_29, r242_30, r242_31, r242_34, r242_35, r242_38, r242_39, r242_42, r242_45, r242_46, r242_47, r242_50, r242_51, r242_52, r242_55, r242_58, r242_59, r242_60, r242_63, r242_64, r242_65, r242_68, r242_71, r242_74, r242_75, r242_78, r242_79, r242_80, r242_83, r242_84, cs_nil, cs_cons, lc_lt, lc_ge, lc_gt, lc_le, lc_eq, c_fx h.1.1, c_aheadN h, m_ahead hB, h_isIn, le_T, lt_T, le_F, lt_F, e, hc, hw, hi]
      · simp (disch := omega) [q94, r94_0, r94_1, r94_4, r94_5, r94_6, r94_9, r94_12, r94_13, r94_16, r94_17, r94_18, r94_21, r94_22, r94_23, r94_24, r94_27, r94_28, r94_31, r94_34, r94_35, r94_36, r94_37, r94_41, r94_42, r94_45, r94_46, r94_47, r94_50, r94_51, r94_54, r94_57, r94_60, r94_61, r94_62, r94_65, r94_68, r94_69, r94_96, r94_97, r94_100, r94_101, r94_104, r94_107, r94_108, r94_109, r94_112, r94_113, r94_116, r94_117, r94_118, r94_121, r94_124, r94_125, r94_128, r94_129, r94_132, r94_135, r94_138, r94_139, r94_140, q242, r242_0, r242_1, r242_2, r242_3, r242_5, r242_8, r242_11, r242_12, r242_13, r242_14, r242_17, r242_20, r242_23, r242_24, r242_25, r242_26, r242_29, r242_30, r242_31, r242_34, r242_35, r242_38, r242_39, r242_42, r242_45, r242_46, r242_47, r242_50, r242_51, r242_52, r242_55, r242_58, r242_59, r242_60, r242_63, r242_64, r242_65, r242_68, r242_71, r242_74, r242_75, r242_78, r242_79, r242_80, r242_83, r242_84, cs_nil, cs_cons, lc_lt, lc_ge, lc_gt, lc_le, lc_eq, c_fx h.1.1, c_aheadN h, m_ahead hB, h_isIn, le_T, lt_T, le_F, lt_F, e, hc, hw, hi]
  · by_cases k0 : k < 0
    · simp (disch := omega) [q94, r94_0, r94_1, r94_4, r94_5, r94_6, r94_9, r94_12, r94_13, r94_16, r94_17, r94_18, r94_21, r94_22, r94_23, r94_24, r94_27, r94_28, r94_31, r94_34, r94_35, r94_36, r94_37, r94_41, r94_42, r94_45, r94_46, r94_47, r94_50, r94_51, r94_54, r94_57, r94_60, r94_61, r94_62, r94_65, r94_68, r94_69, r94_96, r94_97, r94_100, r94_101, r94_104, r94_107, r94_108, r94_109, r94_112, r94_113, r94_116, r94_117, r94_118, r94_121, r94_124, r94_125, r94_128, r94_129, r94_132, r94_135, r94_138, r94_139, r94_140, q242, r242_0, r242_1, r242_2, r242_3, r242_5, r242_8, r242_11, r242_12, r242_13, r242_14, r242_17, r242_20, r242_23, r242_24, r242_25, r242_26, r242_29, r242_30, r242_31, r242_34, r242_35, r242_38, r242_39, r242_42, r242_45, r242_46, r242_47, r242_50, r242_51, r242_52, r242_55, r242_58, r242_59, r242_60, r242_63, r242_64, r242_65, r242_68, r242_71, r242_74, r242_75, r242_78, r242_79, r242_80, r242_83, r242_84, cs_nil, cs_cons, lc_lt, lc_ge, lc_gt, lc_le, lc_eq, m_ahead hB, k0, hc, hi]
    · have e : (if 60 ≤ 999 - z 0 0 then 60 else 999 - z 0 0) < k := by split <;> omega
      simp (disch := omega) [q94, r94_0, r94_1, r94_4, r94_5, r94_6, r94_9, r94_12, r94_13, r94_16, r94_17, r94_18, r94_21, r94_22, r94_23, r94_24, r94_27, r94_28, r94_31, r94_34, r94_35, r94_36, r94_37, r94_41, r94_42, r94_45, r94_46, r94_47, r94_50, r94_51, r94_54, r94_57, r94_60, r94_61, r94_62, r94_65, r94_68, r94_69, r94_96, r94_97, r94_100, r94_101, r94_104, r94_107, r94_108, r94_109, r94_112, r94_113, r94_116, r94_117, r94_118, r94_121, r94_124, r94_125, r94_128, r94_129, r94_132, r94_135, r94_138, r94_139, r94_140, q242, r242_0, r242_1, r242_2, r242_3, r242_5, r242_8, r242_11, r242_12, r242_13, r242_14, r242_17, r242_20, r242_23, r242_24, r242_25, r242_26, r242_29, r242_30, r242_31, r242_34, r242_35, r242_38, r242_39, r242_42, r242_45, r242_46, r242_47, r242_50, r242_51, r242_52, r242_55, r242_58, r242_59, r242_60, r242_63, r242_64, r242_65, r242_68, r242_71, r242_74, r242_75, r242_78, r242_79, r242_80, r242_83, r242_84, cs_nil, cs_cons, lc_lt, lc_ge, lc_gt, lc_le, lc_eq, c_aheadN h, m_ahead hB, k0, e, hc, hi]
end
