/-! islands: the one side takes words, numbers, names -/
section
variable {d : Nat} {f : am_F} {B : Int → Int} {N p l : Int} {Q : am_V → am_F → Prop} {I : IS}
theorem c_tw {k : Int} (h : CT f B N) (hN : N ≤ 1600) (hB : ∀ j, 0 ≤ B j ∧ B j ≤ 255) (hK : CK f B N p) (h0 : 0 ≤ p) (h1 : p ≤ N) (hk : 0 ≤ k) (hF : ∀ k' q, rWd B N k p = .inl (k', q) → Q (0, 0) (am_up (am_up f 33 11 k') 33 12 q)) (hO : ∀ p2 g, rWd B N k p = .inr p2 → CK g B N p2 → p < p2 → p2 ≤ N → (∀ c j : Int, ¬ (c = 33 ∧ 4 ≤ j ∧ j ≤ 8) → g c j = f c j) → Q (0, 1) g) : aw_cl (d + 3) 33 [(104, 33), (0, k)] f Q := by
  by_cases hw : tW B N p = k
  · have gb := tW_b h1 (show ¬ tW B N p = -1 by omega)
    simp [q33, r33_0, r33_1, r33_2, r33_5, r33_8, r33_9, cs_nil, cs_cons, lc_lt, lc_ge, lc_gt, lc_le, lc_eq, c_seesW hK hk, hw]
    refine c_adv h hN hB hK.2.2.1 (by omega) gb.2 ?_
    intro g b1 b2
    have := hO (tE B N p) g (by unfold rWd; rw [if_pos hw]) b1 gb.1 gb.2 b2
    simpa [r33_12, r33_15, r33_16, r33_19, cs_nil, cs_cons, lc_lt, lc_ge, lc_gt, lc_le, lc_eq] using this
  · have := hF 1 (tS B N p) (by unfold rWd; rw [if_neg hw])
    simpa [q33, r33_0, r33_1, r33_2, r33_5, r33_8, r33_9, r33_12, r33_15, r33_16, r33_19, cs_nil, cs_cons, lc_lt, lc_ge, lc_gt, lc_le, lc_eq, c_seesW hK hk, hw, c_wrong hK] using this
theorem c_tn {a b : Int} (h : CT f B N) (hN : N ≤ 1600) (hB : ∀ j, 0 ≤ B j ∧ B j ≤ 255) (hK : CK f B N p) (h0 : 0 ≤ p) (h1 : p ≤ N) (hF : ∀ k' q, rNu B N a b p = .inl (k', q) → Q (0, 0) (am_up (am_up f 33 11 k') 33 12 q)) (hO : ∀ p2 g, rNu B N a b p = .inr p2 → CK g B N p2 → g 33 9 = tV B N p → (a ≤ tV B N p ∧ tV B N p ≤ b) → p < p2 → p2 ≤ N → (∀ c j : Int, ¬ (c = 33 ∧ 4 ≤ j ∧ j ≤ 9) → g c j = f c j) → Q (0, 1) g) : aw_cl (d + 3) 35 [(104, 33), (0, a), (0, b)] f Q := by
  obtain ⟨a1, a2, a3, a4, a5⟩ := id hK
  by_cases hk : tK B N p = 2
  · have tb := tok_b h1 (show ¬ tK B N p = 0 by omega)
    rw [hk] at a1
    by_cases hl : 4 < tE B N p - tS B N p
    · have := hF 1 (tS B N p + 4) (by unfold rNu; rw [if_neg (fun q => q hk), if_pos hl])
      simpa (disch := omega) [q35, r35_0, r35_1, r35_4, r35_5, r35_8, r35_9, r35_12, r35_13, r35_14, r35_17, r35_18, r35_21, r35_22, r35_23, r35_26, r35_27, r35_28, r35_29, r35_32, r35_33, r35_34, r35_37, cs_nil, cs_cons, lc_lt, lc_ge, lc_gt, lc_le, lc_eq, a1, a2, a3, am_wid2, le_T, lt_T, le_F, lt_F, c_fail] using this
    · by_cases h2 : a ≤ tV B N p ∧ tV B N p ≤ b
      · simp (disch := omega) [r35_0, r35_1, r35_4, r35_5, r35_8, r35_9, r35_12, r35_13, r35_14, r35_17, r35_18, r35_21, r35_22, r35_23, cs_nil, cs_cons, lc_lt, lc_ge, lc_gt, lc_le, lc_eq, r35_38, r35_39, r35_42, r35_43, r35_46, r35_47, r35_50, r35_51, r35_54, r35_55, r35_56, r35_57, r35_60, r35_63, r35_64, r35_65, r35_66, r35_69, r35_72, r35_73, q35, a1, a2, a3, a5, am_wid2, le_T, lt_T, le_F, lt_F]
        refine c_adv (CT_up h (by omega)) hN hB (by rw [am_un (by omega)]; exact a3) (by omega) tb.2.2 ?_
        intro g b1 b2
        have := hO (tE B N p) g (by unfold rNu; rw [if_neg (fun q => q hk), if_neg hl, if_pos h2]) b1 (by rw [b2 _ _ (by omega), am_ue]) h2 (by omega) tb.2.2 (fun c j hc => by rw [b2 _ _ (by omega), am_un (by omega)])
        simpa [r35_76, cs_nil, cs_cons, lc_lt, lc_ge, lc_gt, lc_le, lc_eq] using this
      · have := hF 2 (tS B N p) (by unfold rNu; rw [if_neg (fun q => q hk), if_neg hl, if_neg h2])
        by_cases c1 : a ≤ tV B N p
        · simpa (disch := omega) [r35_0, r35_1, r35_4, r35_5, r35_8, r35_9, r35_12, r35_13, r35_14, r35_17, r35_18, r35_21, r35_22, r35_23, cs_nil, cs_cons, lc_lt, lc_ge, lc_gt, lc_le, lc_eq, r35_38, r35_39, r35_42, r35_43, r35_46, r35_47, r35_50, r35_51, r35_54, r35_55, r35_56, r35_57, r35_60, r35_63, q35, a1, a2, a3, a5, am_wid2, le_T, lt_T, le_F, lt_F, c_fail] using this
        · simpa (disch := omega) [r35_0, r35_1, r35_4, r35_5, r35_8, r35_9, r35_12, r35_13, r35_14, r35_17, r35_18, r35_21, r35_22, r35_23, cs_nil, cs_cons, lc_lt, lc_ge, lc_gt, lc_le, lc_eq, r35_38, r35_39, r35_42, r35_43, r35_46, r35_47, r35_50, r35_51, r35_54, r35_55, r35_56, r35_57, r35_60, r35_63, q35, a1, a2, a3, a5, am_wid2, le_T, lt_T, le_F, lt_F, c_fail] using this
  · have a1' : ¬ f 33 4 = 2 := by rw [a1]; exact hk
    have := hF 1 (tS B N p) (by unfold rNu; rw [if_pos hk])
    simpa [q35, r35_0, r35_1, r35_4, r35_5, r35_8, r35_9, r35_12, cs_nil, cs_cons, lc_lt, lc_ge, lc_gt, lc_le, lc_eq, a1', c_wrong hK] using this
/-- is the name among them -/
theorem c_among {a n v : Int} (ha : 0 ≤ a) (n0 : 0 ≤ n) (hl : n ≤ am_len aw_SH a) (hl2 : am_len aw_SH a ≤ 8) : (∀ Q : am_V → am_F → Prop, (∃ t, 0 ≤ t ∧ t < n ∧ f a t = v) → aw_cl d 32 [(20, a), (0, n), (0, v)] f Q = Q (0, 1) f) ∧ (∀ Q : am_V → am_F → Prop, (¬ ∃ t, 0 ≤ t ∧ t < n ∧ f a t = v) → aw_cl d 32 [(20, a), (0, n), (0, v)] f Q = Q (0, 0) f) := by
  have key1 : ∀ (j : Nat) (i t : Int), i + j = t → 0 ≤ i → t < n → f a t = v → aw_wp d 32 2 [(20, a), (0, n), (0, v), (0, i)] [] f (fun w g => w = (0, 1) ∧ g = f) := by
    intro j
    induction j with
    | zero =>
      intro i t hi i0 ht hv
      have : i = t := by omega
      subst this
      rw [r32_2]
      simp (disch := omega) [r32_3, r32_4, r32_7, r32_8, r32_9, r32_10, r32_11, r32_14, r32_15, r32_16, r32_19, r32_22, r32_23, cs_nil, cs_cons, lc_lt, lc_ge, lc_gt, lc_le, lc_eq, ha, hv, le_T, lt_T, le_F, lt_F]
    | succ j ih =>
      intro i t hi i0 ht hv
      have ih' := ih (i + 1) t (by omega) (by omega) ht hv
      rw [r32_2]
      by_cases q : f a i = v
      · simp (disch := omega) [r32_3, r32_4, r32_7, r32_8, r32_9, r32_10, r32_11, r32_14, r32_15, r32_16, r32_19, r32_22, r32_23, cs_nil, cs_cons, lc_lt, lc_ge, lc_gt, lc_le, lc_eq, ha, q, le_T, lt_T, le_F, lt_F]
      · simpa (disch := omega) [r32_3, r32_4, r32_7, r32_8, r32_9, r32_10, r32_11, r32_14, r32_15, r32_16, r32_19, r32_22, r32_23, cs_nil, cs_cons, lc_lt, lc_ge, lc_gt, lc_le, lc_eq, ha, q, am_wid2, le_T, lt_T, le_F, lt_F] using ih'
  have key0 : (¬ ∃ t, 0 ≤ t ∧ t < n ∧ f a t = v) → ∀ (j : Nat) (i : Int), i + j = n → 0 ≤ i → aw_wp d 32 2 [(20, a), (0, n), (0, v), (0, i)] [] f (fun w g => w = (0, 0) ∧ g = f) := by
    intro hv j
    induction j with
    | zero =>
      intro i hi i0
      have : i = n := by omega
      subst this
      rw [r32_2]
      simp (disch := omega) [r32_3, r32_4, r32_7, r32_8, r32_9, r32_10, r32_11, r32_14, r32_15, r32_16, r32_19, r32_22, r32_23, cs_nil, cs_cons, lc_lt, lc_ge, lc_gt, lc_le, lc_eq, le_T, lt_T, le_F, lt_F]
    | succ j ih =>
      intro i hi i0
      have ih' := ih (i + 1) (by omega) (by omega)
      have q : ¬ f a i = v := fun e => hv ⟨i, i0, by omega, e⟩
      rw [r32_2]
      simpa (disch := omega) [r32_3, r32_4, r32_7, r32_8, r32_9, r32_10, r32_11, r32_14, r32_15, r32_16, r32_19, r32_22, r32_23, cs_nil, cs_cons, lc_lt, lc_ge, lc_gt, lc_le, lc_eq, ha, q, am_wid2, le_T, lt_T, le_F, lt_F] using ih'
  constructor
  · rintro Q ⟨t, t0, t1, hv⟩
    apply aw_det
    have := key1 t.toNat 0 t (by omega) (by omega) t1 hv
    simpa [q32, r32_0, r32_1, cs_nil, cs_cons, lc_lt, lc_ge, lc_gt, lc_le, lc_eq] using this
  · intro Q hv
    apply aw_det
    have := key0 hv n.toNat 0 (by omega) (by omega)
    simpa [q32, r32_0, r32_1, cs_nil, cs_cons, lc_lt, lc_ge, lc_gt, lc_le, lc_eq] using this
/-- the one side holds what is told so far -/
def CI (f : am_F) (l : Int) (I : IS) (sz : Int) : Prop := sL f l ∧ (l = 1 ∨ l = 20) ∧ (f l 9 = I.1 0 ∧ f l 10 = I.1 1 ∧ f l 11 = I.1 2 ∧ f l 12 = I.2.1 0 0 ∧ f l 13 = I.2.1 0 1) ∧ (∀ t, 0 ≤ t → t < I.1 0 → f (l + 1) t = pnm (I.2.2.2.2 (0 + t)) ∧ f (l + 2) t = I.2.1 2 t ∧ f (l + 3) t = I.2.1 3 t ∧ f (l + 4) t = I.2.1 4 t) ∧ (∀ k, 0 ≤ k → k < I.1 1 → f (l + 5) k = pnm (I.2.2.2.2 (8 + k)) ∧ f (l + 6) k = I.2.1 6 k ∧ f (l + 7) k = I.2.1 7 k) ∧ (∀ k, 0 ≤ k → k < I.1 2 → f (l + 8) k = pnm (I.2.2.2.2 (16 + k))) ∧ (∀ w, 0 ≤ w → w < 10 → I.2.2.2.1 w = true → ∃ k0, f (l + 11) (cr w) = k0 ∧ f (l + 12) (cr w) = k0 + (I.2.2.1 w).length ∧ 0 ≤ k0 ∧ k0 + (I.2.2.1 w).length ≤ sz ∧ al f (l + 10) cst k0 (I.2.2.1 w)) ∧ (∀ w, 0 ≤ w → w < 5 → ¬ I.2.2.2.1 w = true → f (l + 11) (cr w) = 0 ∧ f (l + 12) (cr w) = 0) ∧ f (l + 9) 3 = sz ∧ 0 ≤ sz
theorem c_hasName {sz : Int} (h : CI f l I sz) (hp : PI I) {rs : List Int} (hr : vnm rs) : aw_cl (d + 1) 31 [(100, l), (0, pnm rs)] f Q = Q (0, if dupN I rs = true then 1 else 0) f := by
  obtain ⟨hL, hl, ⟨e9, e10, e11, _, _⟩, hT, hM, hR, _⟩ := h
  obtain ⟨⟨p0, p1, p2⟩, ⟨v0, v1, v2⟩, _⟩ := hp
  unfold sL at hL
  have l0 : 0 ≤ l := by omega
  obtain ⟨hL0, hL1, hL2⟩ := hL
  have A := c_among (d := d) (f := f) (a := l + 1) (n := I.1 0) (v := pnm rs) (by omega) (by omega) (by rw [hL2.1]; omega) (by rw [hL2.1]; omega)
  have Bm := c_among (d := d) (f := f) (a := l + 5) (n := I.1 1) (v := pnm rs) (by omega) (by omega) (by rw [hL2.2.2.2.2.1]; omega) (by rw [hL2.2.2.2.2.1]; omega)
  have Cm := c_among (d := d) (f := f) (a := l + 8) (n := I.1 2) (v := pnm rs) (by omega) (by omega) (by rw [hL2.2.2.2.2.2.2.2.1]; omega) (by rw [hL2.2.2.2.2.2.2.2.1]; omega)
  have iA : dup1 (I.1 0) 0 I.2.2.2.2 rs = true ↔ ∃ t, 0 ≤ t ∧ t < I.1 0 ∧ f (l + 1) t = pnm rs := by
    rw [dup1_i]
    constructor
    · rintro ⟨t, a, b, c⟩; exact ⟨t, a, b, by rw [(hT t a b).1, c]⟩
    · rintro ⟨t, a, b, c⟩; exact ⟨t, a, b, pnm_inj (v0 t a b) hr (by rw [← (hT t a b).1]; exact c)⟩
  have iB : dup1 (I.1 1) 8 I.2.2.2.2 rs = true ↔ ∃ t, 0 ≤ t ∧ t < I.1 1 ∧ f (l + 5) t = pnm rs := by
    rw [dup1_i]
    constructor
    · rintro ⟨t, a, b, c⟩; exact ⟨t, a, b, by rw [(hM t a b).1, c]⟩
    · rintro ⟨t, a, b, c⟩; exact ⟨t, a, b, pnm_inj (v1 t a b) hr (by rw [← (hM t a b).1]; exact c)⟩
  have iC : dup1 (I.1 2) 16 I.2.2.2.2 rs = true ↔ ∃ t, 0 ≤ t ∧ t < I.1 2 ∧ f (l + 8) t = pnm rs := by
    rw [dup1_i]
    constructor
    · rintro ⟨t, a, b, c⟩; exact ⟨t, a, b, by rw [hR t a b, c]⟩
    · rintro ⟨t, a, b, c⟩; exact ⟨t, a, b, pnm_inj (v2 t a b) hr (by rw [← hR t a b]; exact c)⟩
  apply aw_det
  unfold dupN
  by_cases q1 : dup1 (I.1 0) 0 I.2.2.2.2 rs = true
  · have a := fun QQ => A.1 QQ (iA.mp q1)
    simp [q31, r31_0, r31_1, r31_4, r31_5, r31_8, r31_9, r31_12, r31_15, r31_16, r31_19, r31_20, r31_23, r31_24, r31_27, r31_30, r31_31, r31_34, r31_35, r31_38, r31_39, r31_42, r31_45, r31_46, r31_49, r31_50, cs_nil, cs_cons, lc_lt, lc_ge, lc_gt, lc_le, lc_eq, hL1, e9, l0, a, q1]
  · have a := fun QQ => A.2 QQ (fun q => q1 (iA.mpr q))
    by_cases q2 : dup1 (I.1 1) 8 I.2.2.2.2 rs = true
    · have b := fun QQ => Bm.1 QQ (iB.mp q2)
      simp [q31, r31_0, r31_1, r31_4, r31_5, r31_8, r31_9, r31_12, r31_15, r31_16, r31_19, r31_20, r31_23, r31_24, r31_27, r31_30, r31_31, r31_34, r31_35, r31_38, r31_39, r31_42, r31_45, r31_46, r31_49, r31_50, cs_nil, cs_cons, lc_lt, lc_ge, lc_gt, lc_le, lc_eq, hL1, e9, e10, l0, a, b, q1, q2]
    · have b := fun QQ => Bm.2 QQ (fun q => q2 (iB.mpr q))
      by_cases q3 : dup1 (I.1 2) 16 I.2.2.2.2 rs = true
      · have c := fun QQ => Cm.1 QQ (iC.mp q3)
        simp [q31, r31_0, r31_1, r31_4, r31_5, r31_8, r31_9, r31_12, r31_15, r31_16, r31_19, r31_20, r31_23, r31_24, r31_27, r31_30, r31_31, r31_34, r31_35, r31_38, r31_39, r31_42, r31_45, r31_46, r31_49, r31_50, cs_nil, cs_cons, lc_lt, lc_ge, lc_gt, lc_le, lc_eq, hL1, e9, e10, e11, l0, a, b, c, q1, q2, q3]
      · have c := fun QQ => Cm.2 QQ (fun q => q3 (iC.mpr q))
        simp [q31, r31_0, r31_1, r31_4, r31_5, r31_8, r31_9, r31_12, r31_15, r31_16, r31_19, r31_20, r31_23, r31_24, r31_27, r31_30, r31_31, r31_34, r31_35, r31_38, r31_39, r31_42, r31_45, r31_46, r31_49, r31_50, cs_nil, cs_cons, lc_lt, lc_ge, lc_gt, lc_le, lc_eq, hL1, e9, e10, e11, l0, a, b, c, q1, q2, q3]
theorem nv_p : ∀ (k : Nat) (a : List Int), nv (List.replicate (k + 1) 0 ++ a) = 27 * nv (List.replicate k 0 ++ a) := fun k a => by
  rw [List.replicate_succ, List.cons_append]
  show 27 * nv (List.replicate k 0 ++ a) + 0 = _
  omega
theorem c_nm {sz : Int} (h : CT f B N) (hN : N ≤ 1600) (hB : ∀ j, 0 ≤ B j ∧ B j ≤ 255) (hK : CK f B N p) (h0 : 0 ≤ p) (h1 : p ≤ N) (hI : CI f l I sz) (hp : PI I) (h33 : f 33 1 = l) (hF : ∀ k' q, rNm B N I p = .inl (k', q) → Q (0, 0) (am_up (am_up f 33 11 k') 33 12 q)) (hO : ∀ p2 g, rNm B N I p = .inr p2 → CK g B N p2 → g 33 9 = pnm (tN B N p) → vnm (tN B N p) → p < p2 → p2 ≤ N → (∀ c j : Int, ¬ (c = 33 ∧ 4 ≤ j ∧ j ≤ 9) → g c j = f c j) → Q (0, 1) g) : aw_cl (d + 4) 30 [(104, 33)] f Q := by
  obtain ⟨a1, a2, a3, a4, a5⟩ := id hK
  have ct := h
  obtain ⟨t1, t2, t3, t4⟩ := h
  have l0 : 0 ≤ l := by have := hI.2.1; omega
  have wr := tW_r (B := B) (N := N) (p := p)
  by_cases hc : ¬ tK B N p = 1 ∨ (0 ≤ tW B N p ∧ tW B N p < 28)
  · have := hF 1 (tS B N p) (by unfold rNm; rw [if_pos hc])
    by_cases hk : tK B N p = 1
    · rw [hk] at a1
      have hw : 0 ≤ tW B N p ∧ tW B N p < 28 := by omega
      have n1 : ¬ tW B N p = -1 := by omega
      simpa (disch := omega) [q30, r30_0, r30_1, r30_4, r30_5, r30_8, r30_9, r30_12, r30_13, r30_16, r30_17, r30_20, r30_22, r30_25, r30_26, r30_29, cs_nil, cs_cons, lc_lt, lc_ge, lc_gt, lc_le, lc_eq, a1, a4, n1, le_T, lt_T, le_F, lt_F, c_wrong hK] using this
    · have a1' : ¬ f 33 4 = 1 := by rw [a1]; exact hk
      simpa [q30, r30_0, r30_1, r30_4, r30_5, r30_8, r30_9, r30_12, r30_13, r30_16, r30_17, r30_20, r30_22, r30_25, r30_26, r30_29, cs_nil, cs_cons, lc_lt, lc_ge, lc_gt, lc_le, lc_eq, a1', c_wrong hK] using this
  · have hk : tK B N p = 1 := by
      by_cases q : tK B N p = 1
      · exact q
      · exact absurd (Or.inl q) hc
    have hw : tW B N p = -1 ∨ 28 ≤ tW B N p := by
      by_cases q : tW B N p = -1
      · exact Or.inl q
      · right
        by_cases q' : tW B N p < 28
        · exact absurd (Or.inr ⟨by omega, q'⟩) hc
        · omega
    have tr := tE_r (Or.inl rfl) hk h1
    rw [hk] at a1
    have sb := tS_b (B := B) h1
    have to30 : ∀ QQ, aw_wp (d + 4) 30 30 [(104, 33), (2, 0), (2, 0)] [] f QQ → aw_cl (d + 4) 30 [(104, 33)] f QQ := by
      intro QQ hq
      rcases hw with e | e
      · simpa [q30, r30_0, r30_1, r30_4, r30_5, r30_8, r30_9, r30_12, r30_13, r30_16, r30_17, r30_20, r30_22, cs_nil, cs_cons, lc_lt, lc_ge, lc_gt, lc_le, lc_eq, a1, a4, e] using hq
      · have n1 : ¬ tW B N p = -1 := by omega
        simpa (disch := omega) [q30, r30_0, r30_1, r30_4, r30_5, r30_8, r30_9, r30_12, r30_13, r30_16, r30_17, r30_20, r30_22, cs_nil, cs_cons, lc_lt, lc_ge, lc_gt, lc_le, lc_eq, a1, a4, n1, le_T, lt_T, le_F, lt_F] using hq
    refine to30 _ ?_
    by_cases h6 : 6 < tE B N p - tS B N p
    · have := hF 1 (tS B N p + 6) (by unfold rNm; rw [if_neg hc, if_pos h6])
      simpa (disch := omega) [r30_30, r30_31, r30_34, r30_35, r30_38, r30_39, r30_41, r30_44, r30_45, r30_46, r30_47, r30_50, r30_52, r30_53, r30_56, cs_nil, cs_cons, lc_lt, lc_ge, lc_gt, lc_le, lc_eq, a2, a3, am_wid2, le_T, lt_T, le_F, lt_F, c_fail] using this
    · have vn := tN_v hk h1 (show tE B N p - tS B N p ≤ 6 by omega)
      have at113 : aw_wp (d + 4) 30 113 [(104, 33), (0, pnm (tN B N p)), (0, tS B N p + 6)] [] f Q := by
        by_cases hd : dupN I (tN B N p) = true
        · have := hF 3 (tS B N p) (by unfold rNm; rw [if_neg hc, if_neg h6, if_pos hd])
          simpa [r30_113, r30_114, r30_117, r30_118, r30_121, r30_124, r30_125, r30_126, r30_127, r30_130, r30_133, cs_nil, cs_cons, lc_lt, lc_ge, lc_gt, lc_le, lc_eq, h33, l0, c_hasName hI hp vn, hd, a2, c_fail] using this
        · simp [r30_113, r30_114, r30_117, r30_118, r30_121, r30_124, r30_125, r30_126, r30_127, r30_130, r30_133, r30_134, r30_135, r30_136, r30_139, r30_140, cs_nil, cs_cons, lc_lt, lc_ge, lc_gt, lc_le, lc_eq, h33, l0, c_hasName hI hp vn, hd]
          refine c_adv (CT_up ct (by omega)) hN hB (by rw [am_un (by omega)]; exact a3) (by omega) tr.2.2.2.2.2 ?_
          intro g b1 b2
          have := hO (tE B N p) g (by unfold rNm; rw [if_neg hc, if_neg h6, if_neg hd]) b1 (by rw [b2 _ _ (by omega), am_ue]) vn (by omega) tr.2.2.2.2.2 (fun c j hc => by rw [b2 _ _ (by omega), am_un (by omega)])
          simpa [r30_143, cs_nil, cs_cons, lc_lt, lc_ge, lc_gt, lc_le, lc_eq] using this
      have key : ∀ (j i : Nat), i + j = 6 → aw_wp (d + 4) 30 64 [(104, 33), (0, nv (if tS B N p + i ≤ tE B N p then nmL B (tS B N p) i else List.replicate (tS B N p + i - tE B N p).toNat 0 ++ tN B N p)), (0, tS B N p + i)] [] f Q := by
        intro j
        induction j with
        | zero =>
          intro i hi
          have i6 : i = 6 := by omega
          subst i6
          have e : nv (if tS B N p + ((6 : Nat) : Int) ≤ tE B N p then nmL B (tS B N p) 6 else List.replicate (tS B N p + ((6 : Nat) : Int) - tE B N p).toNat 0 ++ tN B N p) = pnm (tN B N p) := by
            unfold pnm
            have ll : (tN B N p).length = (tE B N p - tS B N p).toNat := by unfold tN; exact nmL_len _
            by_cases q : tS B N p + ((6 : Nat) : Int) ≤ tE B N p
            · rw [if_pos q]
              have e6 : (tE B N p - tS B N p).toNat = 6 := by omega
              rw [ll, e6]
              unfold tN
              rw [e6]; rfl
            · rw [if_neg q, ll]
              rw [show (tS B N p + ((6 : Nat) : Int) - tE B N p).toNat = 6 - (tE B N p - tS B N p).toNat by omega]
          rw [e, r30_64]
          simpa (disch := omega) [r30_65, r30_66, r30_69, r30_71, r30_72, cs_nil, cs_cons, lc_lt, lc_ge, lc_gt, lc_le, lc_eq, a2, am_wid2, le_T, lt_T, le_F, lt_F] using at113
        | succ j ih =>
          intro i hi
          have ih' := ih (i + 1) (by omega)
          have bd : ∀ qs : List Int, qs.length ≤ 6 → (∀ x ∈ qs, 0 ≤ x ∧ x ≤ 26) → 0 ≤ nv qs ∧ nv qs < 387420489 := fun qs a b => nv_b6 a b
          by_cases q : tS B N p + (i : Int) < tE B N p
          · have d1 := srt_1.mp (tr.2.2.1 (tS B N p + i) (by omega) q)
            rw [if_pos (by omega)] at ih' ⊢
            have b6 := nv_b6 (qs := nmL B (tS B N p) i) (by rw [nmL_len]; omega) (fun x hx => by have := nmL_d i (fun q a b => srt_1.mp (tr.2.2.1 q a (by omega))) x hx; omega)
            have b7 := nv_b6 (qs := nmL B (tS B N p) (i + 1)) (by rw [nmL_len]; omega) (fun x hx => by have := nmL_d (i + 1) (fun q a b => srt_1.mp (tr.2.2.1 q a (by omega))) x hx; omega)
            have ev : nv (nmL B (tS B N p) (i + 1)) = 27 * nv (nmL B (tS B N p) i) + (B (tS B N p + i) - 96) := rfl
            rw [ev] at ih' b7
            rw [Int.natCast_add i, ← Int.add_assoc] at ih'
            generalize nv (nmL B (tS B N p) i) = v at ih' b6 b7 ⊢
            have e2 : 27 * v + (B (tS B N p + i) - 97 + 1) = 27 * v + (B (tS B N p + i) - 96) := by omega
            rw [r30_64]
            simpa (disch := omega) [r30_65, r30_66, r30_69, r30_71, r30_72, r30_75, r30_77, r30_78, r30_79, r30_80, r30_81, r30_84, r30_87, r30_88, r30_91, r30_94, r30_95, r30_96, r30_98, r30_99, r30_100, r30_101, r30_104, r30_105, r30_106, r30_107, r30_110, cs_nil, cs_cons, lc_lt, lc_ge, lc_gt, lc_le, lc_eq, a2, a3, t1, t2, t4, ln_15, am_wid2, e2, le_T, lt_T, le_F, lt_F] using ih'
          · have ll : (tN B N p).length = (tE B N p - tS B N p).toNat := by unfold tN; exact nmL_len _
            have ei : nv (if tS B N p + (i : Int) ≤ tE B N p then nmL B (tS B N p) i else List.replicate (tS B N p + i - tE B N p).toNat 0 ++ tN B N p) = nv (List.replicate (tS B N p + i - tE B N p).toNat 0 ++ tN B N p) := by
              by_cases q2 : tS B N p + (i : Int) ≤ tE B N p
              · rw [if_pos q2]
                have e0 : (tS B N p + i - tE B N p).toNat = 0 := by omega
                rw [e0]
                unfold tN
                rw [show (tE B N p - tS B N p).toNat = i by omega]; rfl
              · rw [if_neg q2]
            rw [if_neg (by omega), show (tS B N p + ((i + 1 : Nat) : Int) - tE B N p).toNat = (tS B N p + i - tE B N p).toNat + 1 by omega, nv_p] at ih'
            rw [ei]
            have b6 := nv_b6 (qs := List.replicate (tS B N p + i - tE B N p).toNat 0 ++ tN B N p) (by rw [List.length_append, List.length_replicate, ll]; omega) (fun x hx => by
              rcases List.mem_append.mp hx with q | q
              · have := List.eq_of_mem_replicate q; omega
              · have := vn.2.2 x q; omega)
            have b7 := nv_b6 (qs := List.replicate ((tS B N p + i - tE B N p).toNat + 1) 0 ++ tN B N p) (by rw [List.length_append, List.length_replicate, ll]; omega) (fun x hx => by
              rcases List.mem_append.mp hx with q | q
              · have := List.eq_of_mem_replicate q; omega
              · have := vn.2.2 x q; omega)
            rw [nv_p] at b7
            rw [Int.natCast_add i, ← Int.add_assoc] at ih'
            generalize nv (List.replicate (tS B N p + i - tE B N p).toNat 0 ++ tN B N p) = v at ih' b6 b7 ⊢
            rw [r30_64]
            simpa (disch := omega) [r30_65, r30_66, r30_69, r30_71, r30_72, r30_75, r30_77, r30_78, r30_79, r30_80, r30_81, r30_84, r30_87, r30_88, r30_91, r30_94, r30_95, r30_96, r30_98, r30_99, r30_100, r30_101, r30_104, r30_105, r30_106, r30_107, r30_110, cs_nil, cs_cons, lc_lt, lc_ge, lc_gt, lc_le, lc_eq, a2, a3, am_wid2, le_T, lt_T, le_F, lt_F] using ih'
      have := key 6 0 (by omega)
      rw [if_pos (by omega)] at this
      simpa (disch := omega) [r30_30, r30_31, r30_34, r30_35, r30_38, r30_39, r30_41, r30_44, r30_45, r30_46, r30_47, r30_50, r30_52, r30_53, r30_56, r30_57, r30_58, r30_59, r30_60, r30_63, cs_nil, cs_cons, lc_lt, lc_ge, lc_gt, lc_le, lc_eq, a2, a3, am_wid2, le_T, lt_T, le_F, lt_F, nmL, nv] using this
end
