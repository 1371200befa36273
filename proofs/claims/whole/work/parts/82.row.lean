/-! row -/
def cpl (L : am_F) (ρ : Int → List Int) (z : am_F) (o : Int → Int) : Nat → Int × Int
  | 0 => (0, 0)
  | k + 1 => ((cpl L ρ z o k).1 + aH L ρ z (o k) 0, (cpl L ρ z o k).2 + L 3 (o k) * ((cpl L ρ z o k).1 + aH L ρ z (o k) 0))
def rnb (L : am_F) (ρ : Int → List Int) (z : am_F) (c : Nat) : Nat → (Int → Int) → (Int → Int) → Int → (Int → Int) × Int
  | 0, _, B, m => (B, m)
  | j + 1, o, B, m => if nat o c < 0 then (B, m) else if (cpl L ρ z (nxo o c) c).2 < m then rnb L ρ z c j (nxo o c) (nxo o c) (cpl L ρ z (nxo o c) c).2 else rnb L ρ z c j (nxo o c) B m
theorem aH_b {L z : am_F} {ρ : Int → List Int} {t k : Int} : 1 ≤ aH L ρ z t k ∧ aH L ρ z t k ≤ 99 := clm_b (by omega)
section
variable {d n m r c : Nat} {f L z : am_F} {ρ : Int → List Int} {τ : Int → Bool} {l : Int} {Z : Int → am_F} {Q : am_V → am_F → Prop} {o : Int → Int}
theorem cpl_b (hT : TW n m r L ρ) (ho : ∀ x : Int, 0 ≤ x → x < c → 0 ≤ o x ∧ o x < n) : ∀ k : Nat, k ≤ c → 0 ≤ (cpl L ρ z o k).1 ∧ (cpl L ρ z o k).1 ≤ 99 * k ∧ 0 ≤ (cpl L ρ z o k).2 ∧ (cpl L ρ z o k).2 ≤ 9801 * (k * k)
  | 0, _ => by simp [cpl]
  | k + 1, hk => by
    have ih := cpl_b hT ho k (by omega)
    have h1 := ho k (by omega) (by omega)
    have h2 := hT.2.2.2.2.1 (o k) h1.1 h1.2
    have h3 := aH_b (L := L) (ρ := ρ) (z := z) (t := o k) (k := 0)
    rw [cpl]
    have p1 : 0 ≤ L 3 (o k) * ((cpl L ρ z o k).1 + aH L ρ z (o k) 0) := Int.mul_nonneg (by omega) (by omega)
    have p2 : L 3 (o k) * ((cpl L ρ z o k).1 + aH L ρ z (o k) 0) ≤ 99 * (99 * ((k : Int) + 1)) := Int.mul_le_mul (by omega) (by omega) (by omega) (by omega)
    have p3 : ((k + 1 : Nat) : Int) * ((k + 1 : Nat) : Int) = (k : Int) * k + 2 * k + 1 := by
      rw [Int.natCast_add]
      have : ((k : Int) + (1 : Nat)) * ((k : Int) + (1 : Nat)) = (k : Int) * k + 2 * k + 1 := by
        simp only [Int.natCast_one, Int.add_mul, Int.mul_add, Int.one_mul, Int.mul_one]
        omega
      exact this
    simp only at *
    rw [p3]
    generalize (k : Int) * k = kk at *
    omega
theorem cpl_b6 (hT : TW n m r L ρ) (hc : c ≤ 6) (ho : ∀ x : Int, 0 ≤ x → x < c → 0 ≤ o x ∧ o x < n) {k : Nat} (hk : k ≤ c) : 0 ≤ (cpl L ρ z o k).1 ∧ (cpl L ρ z o k).1 ≤ 594 ∧ 0 ≤ (cpl L ρ z o k).2 ∧ (cpl L ρ z o k).2 ≤ 352836 := by
  have h := cpl_b (z := z) hT ho k hk
  have h2 : (k : Int) * k ≤ 6 * 6 := Int.mul_le_mul (by omega) (by omega) (by omega) (by omega)
  generalize (k : Int) * k = kk at *
  omega
theorem c_cost (h : CB f 46 l n m r L ρ z) (hx : f 40 1 = 41 ∧ f 40 2 = 42) (hc : c ≤ 6) (ho : ∀ x : Int, 0 ≤ x → x < c → f 41 x = o x) (hon : ∀ x : Int, 0 ≤ x → x < c → 0 ≤ o x ∧ o x < n) (hh : ∀ x : Int, 0 ≤ x → x < c → f 42 (o x) = aH L ρ z (o x) 0) : aw_cl d 116 [(103, 40), (107, 46), (0, (c : Int))] f Q = Q (0, (cpl L ρ z o c).2) f := by
  have hn := h.2.2.2.1.1
  have hT := h.2.2.2.1
  have hl := h.2.1.2.1
  have hl0 : 0 ≤ l := by omega
  have e9 : f 46 9 = l := h.2.2.1.2.2.1
  have sl := sL_u h.2.1.1
  have e2 : f l 2 = l + 3 := sl.2.1.2.2.1
  have len : am_len aw_SH (l + 3) = 8 := sl.2.2.2.2.1
  clear sl
  have key : ∀ j k : Nat, k + j = c → aw_wp d 116 8 [(103, 40), (107, 46), (0, (c : Int)), (0, (cpl L ρ z o k).2), (0, (cpl L ρ z o k).1), (0, (k : Int))] [] f (fun v f1 => v = (0, (cpl L ρ z o c).2) ∧ f1 = f) := by
    intro j
    induction j with
    | zero =>
      intro k hk
      obtain rfl : k = c := by omega
      rw [r116_8]
      simp [q116, r116_0, r116_1, r116_2, r116_3, r116_5, r116_6, r116_10, r116_11, r116_14, r116_16, r116_17, r116_20, r116_21, r116_24, r116_26, r116_27, r116_28, r116_29, r116_31, r116_32, r116_33, r116_36, r116_39, r116_40, r116_43, r116_45, r116_46, r116_47, r116_49, r116_50, r116_51, r116_52, r116_55, r116_58, r116_59, cs_nil, cs_cons, lc_lt, lc_ge, lc_gt, lc_le, lc_eq]
    | succ j ih =>
      intro k hk
      have ih' := ih (k + 1) (by omega)
      have b1 := cpl_b6 (z := z) hT hc hon (k := k) (by omega)
      have b2 := cpl_b6 (z := z) hT hc hon (k := k + 1) (by omega)
      have v := ho k (by omega) (by omega)
      have vn := hon k (by omega) (by omega)
      have vh := hh k (by omega) (by omega)
      have vu := (h.2.1.2.2.2.1 (o k) vn.1 vn.2).2
      have ab := aH_b (L := L) (ρ := ρ) (z := z) (t := o k) (k := 0)
      have ub := hT.2.2.2.2.1 (o k) vn.1 vn.2
      have c1 : ¬ c ≤ k := by omega
      have o8 : o k < 8 := by omega
      have p1 : 0 ≤ L 3 (o k) * ((cpl L ρ z o k).1 + aH L ρ z (o k) 0) := Int.mul_nonneg (by omega) (by omega)
      have p2 : L 3 (o k) * ((cpl L ρ z o k).1 + aH L ρ z (o k) 0) ≤ 99 * 693 := Int.mul_le_mul (by omega) (by omega) (by omega) (by omega)
      have w1 : am_wI ((cpl L ρ z o k).1 + aH L ρ z (o k) 0) = (cpl L ρ z o k).1 + aH L ρ z (o k) 0 := am_wid2 (by omega) (by omega)
      have w2 : am_wI (L 3 (o k) * ((cpl L ρ z o k).1 + aH L ρ z (o k) 0)) = L 3 (o k) * ((cpl L ρ z o k).1 + aH L ρ z (o k) 0) := am_wid2 (by omega) (by omega)
      have w3 : am_wI ((cpl L ρ z o k).2 + L 3 (o k) * ((cpl L ρ z o k).1 + aH L ρ z (o k) 0)) = (cpl L ρ z o k).2 + L 3 (o k) * ((cpl L ρ z o k).1 + aH L ρ z (o k) 0) := am_wid2 (by omega) (by omega)
      have w4 : am_wI ((k : Int) + 1) = (k : Int) + 1 := am_wid2 (by omega) (by omega)
      rw [cpl, Int.natCast_add k] at ih'
      have k6 : (k : Int) < 6 := by omega
      rw [r116_8]
      simpa [q116, r116_0, r116_1, r116_2, r116_3, r116_5, r116_6, r116_10, r116_11, r116_14, r116_16, r116_17, r116_20, r116_21, r116_24, r116_26, r116_27, r116_28, r116_29, r116_31, r116_32, r116_33, r116_36, r116_39, r116_40, r116_43, r116_45, r116_46, r116_47, r116_49, r116_50, r116_51, r116_52, r116_55, r116_58, r116_59, cs_nil, cs_cons, lc_lt, lc_ge, lc_gt, lc_le, lc_eq, hx, ln_41, ln_42, e9, e2, len, hl0, show (0 : Int) ≤ l + 3 by omega, v, vh, vu, c1, k6, vn.1, o8, w1, w2, w3, w4] using ih'
  apply aw_det
  have := key c 0 (by omega)
  simpa [q116, r116_0, r116_1, r116_2, r116_3, r116_5, r116_6, r116_10, r116_11, r116_14, r116_16, r116_17, r116_20, r116_21, r116_24, r116_26, r116_27, r116_28, r116_29, r116_31, r116_32, r116_33, r116_36, r116_39, r116_40, r116_43, r116_45, r116_46, r116_47, r116_49, r116_50, r116_51, r116_52, r116_55, r116_58, r116_59, cs_nil, cs_cons, lc_lt, lc_ge, lc_gt, lc_le, lc_eq, cpl] using this
theorem m_sum (h : MB f n m r L ρ τ z) (hx : f 270 61 = 313) (hm : 0 < m) (hc : c ≤ 6) (ho : ∀ x : Int, 0 ≤ x → x < c → f 313 x = o x) (hon : ∀ x : Int, 0 ≤ x → x < c → 0 ≤ o x ∧ o x < n) (hQ : ∀ g, fU f g → Q (0, (cpl L ρ z o c).2) g) : aw_cl (d + 5) 263 [(110, 270), (0, (c : Int))] f Q := by
  have hn := h.2.2.1.1
  have hT := h.2.2.1
  have key : ∀ (j k : Nat) (g : am_F), k + j = c → fU f g → aw_wp (d + 5) 263 7 [(110, 270), (0, (c : Int)), (0, (cpl L ρ z o k).1), (0, (cpl L ρ z o k).2), (0, (k : Int))] [] g Q := by
    intro j
    induction j with
    | zero =>
      intro k g hk hg
      obtain rfl : k = c := by omega
      have := hQ g hg
      rw [r263_7]
      simpa [q263, r263_0, r263_1, r263_2, r263_3, r263_4, r263_5, r263_9, r263_10, r263_13, r263_14, r263_15, r263_16, r263_19, r263_21, r263_22, r263_23, r263_26, r263_27, r263_28, r263_29, r263_30, r263_31, r263_34, r263_36, r263_37, r263_40, r263_41, r263_42, r263_43, r263_44, r263_47, r263_50, r263_51, cs_nil, cs_cons, lc_lt, lc_ge, lc_gt, lc_le, lc_eq] using this
    | succ j ih =>
      intro k g hk hg
      have hB := MB_fU h hg
      have b1 := cpl_b6 (z := z) hT hc hon (k := k) (by omega)
      have b2 := cpl_b6 (z := z) hT hc hon (k := k + 1) (by omega)
      have v : g 313 k = o k := (hg _ _ (by omega)).trans (ho k (by omega) (by omega))
      have x61 : g 270 61 = 313 := (hg _ _ (by omega)).trans hx
      have vn := hon k (by omega) (by omega)
      have ab := aH_b (L := L) (ρ := ρ) (z := z) (t := o k) (k := 0)
      have ub := hT.2.2.2.2.1 (o k) vn.1 vn.2
      have c1 : ¬ c ≤ k := by omega
      rw [r263_7]
      simp (disch := omega) [q263, r263_0, r263_1, r263_2, r263_3, r263_4, r263_5, r263_9, r263_10, r263_13, r263_14, r263_15, r263_16, r263_19, r263_21, r263_22, r263_23, r263_26, r263_27, r263_28, r263_29, r263_30, r263_31, r263_34, r263_36, r263_37, r263_40, r263_41, r263_42, r263_43, r263_44, r263_47, r263_50, r263_51, cs_nil, cs_cons, lc_lt, lc_ge, lc_gt, lc_le, lc_eq, c1, x61, ln_313, v, le_T, lt_T]
      refine m_hours hB vn.1 vn.2 (by omega) (by omega) ?_
      intro g1 hg1
      have hB1 := MB_fU hB hg1
      have v1 : g1 313 k = o k := (hg1 _ _ (by omega)).trans v
      have y61 : g1 270 61 = 313 := (hg1 _ _ (by omega)).trans x61
      have vu := (hB1.1.2.2.1 (o k) vn.1 vn.2).2
      have p1 : 0 ≤ L 3 (o k) * ((cpl L ρ z o k).1 + aH L ρ z (o k) 0) := Int.mul_nonneg (by omega) (by omega)
      have p2 : L 3 (o k) * ((cpl L ρ z o k).1 + aH L ρ z (o k) 0) ≤ 99 * 693 := Int.mul_le_mul (by omega) (by omega) (by omega) (by omega)
      have w1 : am_wI ((cpl L ρ z o k).1 + aH L ρ z (o k) 0) = (cpl L ρ z o k).1 + aH L ρ z (o k) 0 := am_wid2 (by omega) (by omega)
      have w2 : am_wI (L 3 (o k) * ((cpl L ρ z o k).1 + aH L ρ z (o k) 0)) = L 3 (o k) * ((cpl L ρ z o k).1 + aH L ρ z (o k) 0) := am_wid2 (by omega) (by omega)
      have w3 : am_wI ((cpl L ρ z o k).2 + L 3 (o k) * ((cpl L ρ z o k).1 + aH L ρ z (o k) 0)) = (cpl L ρ z o k).2 + L 3 (o k) * ((cpl L ρ z o k).1 + aH L ρ z (o k) 0) := am_wid2 (by omega) (by omega)
      have w4 : am_wI ((k : Int) + 1) = (k : Int) + 1 := am_wid2 (by omega) (by omega)
      have w5 : am_wI (3 * o k) = 3 * o k := am_wid2 (by omega) (by omega)
      have w6 : am_wI (25 + 3 * o k) = 25 + 3 * o k := am_wid2 (by omega) (by omega)
      have k6 : (k : Int) < 6 := by omega
      have ih' := ih (k + 1) g1 (by omega) (fU_tr hg hg1)
      rw [cpl, Int.natCast_add k] at ih'
      simpa [q263, r263_0, r263_1, r263_2, r263_3, r263_4, r263_5, r263_9, r263_10, r263_13, r263_14, r263_15, r263_16, r263_19, r263_21, r263_22, r263_23, r263_26, r263_27, r263_28, r263_29, r263_30, r263_31, r263_34, r263_36, r263_37, r263_40, r263_41, r263_42, r263_43, r263_44, r263_47, r263_50, r263_51, q218, r218_0, r218_1, r218_4, r218_6, r218_7, r218_8, r218_9, r218_10, r218_11, cs_nil, cs_cons, lc_lt, lc_ge, lc_gt, lc_le, lc_eq, y61, ln_313, v1, k6, mfx_u hB1.1.1, ln_303, w1, w2, w3, w4, w5, w6, vu, show (0 : Int) ≤ 25 + 3 * o k by omega, show 25 + 3 * o k < 48 by omega] using ih'
  have := key c 0 f (by omega) fU_refl
  simpa [q263, r263_0, r263_1, r263_2, r263_3, r263_4, r263_5, r263_9, r263_10, r263_13, r263_14, r263_15, r263_16, r263_19, r263_21, r263_22, r263_23, r263_26, r263_27, r263_28, r263_29, r263_30, r263_31, r263_34, r263_36, r263_37, r263_40, r263_41, r263_42, r263_43, r263_44, r263_47, r263_50, r263_51, cs_nil, cs_cons, lc_lt, lc_ge, lc_gt, lc_le, lc_eq, cpl] using this
end
