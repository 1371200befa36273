/-! house: things struck and mended, one by one -/
section
variable {d n m r : Nat} {f L z : am_F} {ρ : Int → List Int} {τ : Int → Bool} {l : Int} {Z : Int → am_F} {Q : am_V → am_F → Prop}
def stk (L : am_F) (ρ : Int → List Int) (P : Nat → Bool) (z : am_F) : Nat → am_F
  | 0 => z
  | t + 1 => if P t = true then mnd L ρ (brk (stk L ρ P z t) t) t 0 else stk L ρ P z t
theorem mb_row {y : am_F} (hT : TW n m r L ρ) {k : Int} (he : ∀ i : Int, 1 ≤ i → i ≤ 6 → y i k = z i k) (hd : y 0 0 = z 0 0) {i : Int} (h1 : 1 ≤ i) (h6 : i ≤ 6) : mnd L ρ (brk y k) k 0 i k = mnd L ρ (brk z k) k 0 i k := by
  have eb : ∀ i : Int, 1 ≤ i → i ≤ 6 → brk y k i k = brk z k i k := by
    intro i h1 h6
    unfold brk
    rw [nte_0 h6, nte_0 h6]
    unfold br0
    rw [he 2 (by omega) (by omega)]
    unfold am_up
    rw [he i h1 h6]
  have ed : brk y k 0 0 = brk z k 0 0 := by rw [brk_d, brk_d]; exact hd
  have ea : aF L ρ (brk y k) k 0 = aF L ρ (brk z k) k 0 := by
    unfold aF
    rw [V_cg hT (by omega) eb ed (fun _ => rfl)]
  unfold mnd
  rw [nte_0 h6, nte_0 h6]
  unfold mn0
  rw [ea, eb 3 (by omega) (by omega)]
  unfold am_up
  rw [eb i h1 h6]
theorem stk_d {P : Nat → Bool} : ∀ (k : Nat) (s : Int), stk L ρ P z k 0 s = z 0 s
  | 0, _ => rfl
  | k + 1, s => by
    unfold stk
    split
    · rw [mnd_d, brk_d, stk_d k]
    · exact stk_d k s
theorem stk_hi {P : Nat → Bool} : ∀ (k : Nat) (i t : Int), i ≤ 6 → (k : Int) ≤ t → stk L ρ P z k i t = z i t
  | 0, _, _, _, _ => rfl
  | k + 1, i, t, h6, ht => by
    unfold stk
    split
    · rw [mnd_o h6 (by omega), brk_o h6 (by omega), stk_hi k i t h6 (by omega)]
    · exact stk_hi k i t h6 (by omega)
theorem stk_row {P : Nat → Bool} (hT : TW n m r L ρ) : ∀ (k t : Nat) (i : Int), t < k → 1 ≤ i → i ≤ 6 → stk L ρ P z k i t = if P t = true then mnd L ρ (brk z t) t 0 i t else z i t
  | 0, t, i, h, _, _ => by omega
  | k + 1, t, i, h, h1, h6 => by
    by_cases hk : t = k
    · subst hk
      unfold stk
      split
      · exact mb_row hT (fun i a b => stk_hi t i t b (by omega)) (stk_d t 0) h1 h6
      · exact stk_hi t i t h6 (by omega)
    · have ih := stk_row (P := P) hT k t i (by omega) h1 h6
      unfold stk
      split
      · rw [mnd_o h6 (by omega), brk_o h6 (by omega)]; exact ih
      · exact ih
theorem stk_O {P : Nat → Bool} {q : Nat} (h : OZ q z) : ∀ k, k ≤ q → OZ q (stk L ρ P z k)
  | 0, _ => h
  | k + 1, hk => by
    unfold stk
    split
    · exact OZ_mnd (OZ_brk (stk_O h k (by omega)) (by omega) (by omega)) (by omega) (by omega)
    · exact stk_O h k (by omega)
theorem aSt_cg {y : am_F} (hT : TW n m r L ρ) {t : Int} (he : ∀ i : Int, 1 ≤ i → i ≤ 6 → y i t = z i t) (hd : y 0 0 = z 0 0) : aSt L ρ y t = aSt L ρ z t := by
  unfold aSt
  rw [he 1 (by omega) (by omega), V_cg hT (by omega) he hd (fun _ => rfl)]
def nbr (z : am_F) (t : Nat) : Bool := decide (¬ z 1 (t : Int) = 1)
/-- what stands when the things of a set are struck and mended -/
theorem stk_St (hT : TW n m r L ρ) {s : Nat} (hs : ∀ t : Nat, t < n → s.testBit t = true → ¬ z 1 (t : Int) = 1) {t : Nat} (ht : t < n) : aSt L ρ (stk L ρ (fun t => s.testBit t) z n) t = if s.testBit t = true then aSt L ρ (stk L ρ (nbr z) z n) t else aSt L ρ z t := by
  by_cases hb : s.testBit t = true
  · rw [if_pos hb]
    refine aSt_cg hT (fun i a b => ?_) (by rw [stk_d, stk_d])
    have hq : nbr z t = true := by unfold nbr; simp [hs t ht hb]
    rw [stk_row hT n t i ht a b, stk_row hT n t i ht a b, if_pos hb, if_pos hq]
  · rw [if_neg hb]
    refine aSt_cg hT (fun i a b => ?_) (stk_d n 0)
    rw [stk_row hT n t i ht a b, if_neg hb]
theorem us_ext {g : Int → Int} {s u : Nat} : ∀ k : Nat, (∀ t, t < k → s.testBit t = u.testBit t) → us g s k = us g u k
  | 0, _ => rfl
  | k + 1, h => by rw [us, us, us_ext k (fun t ht => h t (by omega)), h k (by omega)]
theorem c_ifStruck (h : CB f 46 l n m r L ρ z) (hN : CN f 46 z) (s56 : sS f 56) (hx : f 40 0 = 36) (hm : 0 < m) (hQ : ∀ g, sS g 56 → (∀ c j : Int, ¬ (c = 35 ∨ (56 ≤ c ∧ c ≤ 65)) → g c j = f c j) → Q (0, (bm (fun t => aSt L ρ (stk L ρ (nbr z) z n) (t : Int)) n : Int)) g) : aw_cl (d + 6) 109 [(103, 40), (107, 46), (107, 56)] f Q := by
  have hn := h.2.2.2.1.1
  have hl := h.2.1.2.1
  have hl0 : 0 ≤ l := by omega
  simp (disch := omega) [q109, r109_0, r109_1, r109_2, r109_5, r109_6, r109_8, r109_9, r109_12, r109_15, r109_18, r109_19, r109_22, r109_23, r109_24, r109_25, r109_28, r109_29, r109_30, r109_33, r109_34, r109_37, r109_38, r109_39, r109_40, r109_43, r109_46, r109_49, r109_50, r109_53, r109_54, r109_57, cs_nil, cs_cons, lc_lt, lc_ge, lc_gt, lc_le, lc_eq]
  refine c_copy h.2.2.1 hN s56 (by omega) (by omega) (by omega) hn ?_
  intro f1 a1 a2 a3
  have fr1 : ∀ c j : Int, ¬ (c = 35 ∨ (56 ≤ c ∧ c ≤ 65)) → f1 c j = f c j := fun c j hc => a3 c j (by omega)
  have hB1 : CB f1 56 l n m r L ρ z := by
    refine ⟨?_, CL_fr h.2.1 h.2.2.2.1 (fun c j _ _ => fr1 _ _ (by omega)), a1, h.2.2.2.1, h.2.2.2.2⟩
    rw [fr1 _ _ (by omega), fr1 _ _ (by omega), fr1 _ _ (by omega), fr1 _ _ (by omega), fr1 _ _ (by omega)]
    exact h.1
  have key : ∀ (j t : Nat) (g : am_F), t + j = n → CB g 56 l n m r L ρ (stk L ρ (nbr z) z t) → CN g 56 (stk L ρ (nbr z) z t) → (∀ c j : Int, ¬ (c = 35 ∨ (56 ≤ c ∧ c ≤ 65)) → g c j = f c j) → aw_wp (d + 6) 109 7 [(103, 40), (107, 46), (107, 56), (0, (t : Int))] [] g Q := by
    intro j
    induction j with
    | zero =>
      intro t g h1 h2 h3 h4
      obtain rfl : t = n := by omega
      have e9 : g 46 9 = l := (h4 _ _ (by omega)).trans h.2.2.1.2.2.1
      have en : g l 9 = t := (h4 _ _ (by omega)).trans h.2.1.2.2.1.1
      have e0 : g 40 0 = 36 := (h4 _ _ (by omega)).trans hx
      rw [r109_7]
      simp (disch := omega) [q109, r109_0, r109_1, r109_2, r109_5, r109_6, r109_8, r109_9, r109_12, r109_15, r109_18, r109_19, r109_22, r109_23, r109_24, r109_25, r109_28, r109_29, r109_30, r109_33, r109_34, r109_37, r109_38, r109_39, r109_40, r109_43, r109_46, r109_49, r109_50, r109_53, r109_54, r109_57, cs_nil, cs_cons, lc_lt, lc_ge, lc_gt, lc_le, lc_eq, e9, en, e0, hl0]
      refine c_standing h2 ?_
      intro g1 q1
      have := hQ g1 (CB_fK h2 q1).2.2.1.1 (fun c j hc => (q1 c j (by omega)).trans (h4 c j hc))
      simpa [q109, r109_0, r109_1, r109_2, r109_5, r109_6, r109_8, r109_9, r109_12, r109_15, r109_18, r109_19, r109_22, r109_23, r109_24, r109_25, r109_28, r109_29, r109_30, r109_33, r109_34, r109_37, r109_38, r109_39, r109_40, r109_43, r109_46, r109_49, r109_50, r109_53, r109_54, r109_57, cs_nil, cs_cons, lc_lt, lc_ge, lc_gt, lc_le, lc_eq] using this
    | succ j ih =>
      intro t g h1 h2 h3 h4
      have e9 : g 46 9 = l := (h4 _ _ (by omega)).trans h.2.2.1.2.2.1
      have en : g l 9 = n := (h4 _ _ (by omega)).trans h.2.1.2.2.1.1
      have e0 : g 40 0 = 36 := (h4 _ _ (by omega)).trans hx
      have es := sS_u h.2.2.1.1
      have e46 : g 46 0 = 47 := (h4 _ _ (by omega)).trans es.2.1.1
      clear es
      have ev : g 47 t = z 1 t := (h4 _ _ (by omega)).trans (h.2.2.1.2.2.2.2 1 t (by omega) (by omega) (by omega) (by omega))
      have c1 : ¬ n ≤ t := by omega
      have ho := h2.2.2.2.2
      rw [r109_7]
      by_cases hb : z 1 (t : Int) = 1
      · have est : stk L ρ (nbr z) z (t + 1) = stk L ρ (nbr z) z t := by
          rw [stk, if_neg (by unfold nbr; simp [hb])]
        have := ih (t + 1) g (by omega) (by rw [est]; exact h2) (by rw [est]; exact h3) h4
        rw [Int.natCast_add t] at this
        simpa (disch := omega) [q109, r109_0, r109_1, r109_2, r109_5, r109_6, r109_8, r109_9, r109_12, r109_15, r109_18, r109_19, r109_22, r109_23, r109_24, r109_25, r109_28, r109_29, r109_30, r109_33, r109_34, r109_37, r109_38, r109_39, r109_40, r109_43, r109_46, r109_49, r109_50, r109_53, r109_54, r109_57, cs_nil, cs_cons, lc_lt, lc_ge, lc_gt, lc_le, lc_eq, e9, en, hl0, c1, e46, ev, hb, ln_47, am_wid2, le_T, lt_T] using this
      · have est : stk L ρ (nbr z) z (t + 1) = mnd L ρ (brk (stk L ρ (nbr z) z t) t) t 0 := by
          rw [stk, if_pos (by unfold nbr; simp [hb])]
        simp (disch := omega) [q109, r109_0, r109_1, r109_2, r109_5, r109_6, r109_8, r109_9, r109_12, r109_15, r109_18, r109_19, r109_22, r109_23, r109_24, r109_25, r109_28, r109_29, r109_30, r109_33, r109_34, r109_37, r109_38, r109_39, r109_40, r109_43, r109_46, r109_49, r109_50, r109_53, r109_54, r109_57, cs_nil, cs_cons, lc_lt, lc_ge, lc_gt, lc_le, lc_eq, e9, en, hl0, c1, e46, ev, hb, ln_47, le_T, lt_T]
        refine c_break h2.2.2.1 h3 ho hn (by omega) (by omega) ?_
        intro g1 q1 q2 q3
        have e01 : g1 40 0 = 36 := (q3 _ _ (by omega)).trans e0
        simp (disch := omega) [q109, r109_0, r109_1, r109_2, r109_5, r109_6, r109_8, r109_9, r109_12, r109_15, r109_18, r109_19, r109_22, r109_23, r109_24, r109_25, r109_28, r109_29, r109_30, r109_33, r109_34, r109_37, r109_38, r109_39, r109_40, r109_43, r109_46, r109_49, r109_50, r109_53, r109_54, r109_57, cs_nil, cs_cons, lc_lt, lc_ge, lc_gt, lc_le, lc_eq, e01]
        refine c_mendT (CB_S h2 q3 q1 (OZ_brk ho (by omega) (by omega))) q2 (by omega) (by omega) (by omega) (by omega) ?_
        intro g2 w1 w2 w3
        have := ih (t + 1) g2 (by omega) (by rw [est]; exact w1) (by rw [est]; exact w2) (fun c j hc => by rw [w3 _ _ (by omega), q3 _ _ (by omega), h4 _ _ hc])
        rw [Int.natCast_add t] at this
        simpa (disch := omega) [q109, r109_0, r109_1, r109_2, r109_5, r109_6, r109_8, r109_9, r109_12, r109_15, r109_18, r109_19, r109_22, r109_23, r109_24, r109_25, r109_28, r109_29, r109_30, r109_33, r109_34, r109_37, r109_38, r109_39, r109_40, r109_43, r109_46, r109_49, r109_50, r109_53, r109_54, r109_57, cs_nil, cs_cons, lc_lt, lc_ge, lc_gt, lc_le, lc_eq, am_wid2] using this
  have := key n 0 f1 (by omega) hB1 a2 fr1
  simpa [q109, r109_0, r109_1, r109_2, r109_5, r109_6, r109_8, r109_9, r109_12, r109_15, r109_18, r109_19, r109_22, r109_23, r109_24, r109_25, r109_28, r109_29, r109_30, r109_33, r109_34, r109_37, r109_38, r109_39, r109_40, r109_43, r109_46, r109_49, r109_50, r109_53, r109_54, r109_57, cs_nil, cs_cons, lc_lt, lc_ge, lc_gt, lc_le, lc_eq] using this
def lss (L : am_F) (n : Nat) (s u : Nat) : Bool := decide (us (L 2) s n < us (L 2) u n) || (decide (us (L 2) s n = us (L 2) u n) && decide (pop s < pop u))
theorem c_cheaper {s u : Nat} (hl : CL f l n m r L ρ) (hT : TW n m r L ρ) (hs : s < 256) (hu : u < 256) : aw_cl (d + 2) 110 [(100, l), (0, (s : Int)), (0, (u : Int))] f Q = Q (0, if lss L n s u = true then 1 else 0) f := by
  apply aw_det
  have w := fun (dd : Nat) (QQ : am_V → am_F → Prop) (x : Nat) (hx : x < 256) => c_worthOf (d := dd) (Q := QQ) (s := x) hl hT (by omega)
  have ws := fun (dd : Nat) (QQ : am_V → am_F → Prop) => w dd QQ s hs
  have wu := fun (dd : Nat) (QQ : am_V → am_F → Prop) => w dd QQ u hu
  have bs := fun (dd : Nat) (QQ : am_V → am_F → Prop) => c_bits (d := dd) (f := f) (Q := QQ) hs
  have bu := fun (dd : Nat) (QQ : am_V → am_F → Prop) => c_bits (d := dd) (f := f) (Q := QQ) hu
  have hl0 : 0 ≤ l := by have := hl.2.1; omega
  have u1 : ¬ (u : Int) = -1 := by omega
  unfold lss
  by_cases h1 : us (L 2) s n < us (L 2) u n
  · simp (disch := omega) [q110, r110_0, r110_1, r110_2, r110_5, r110_6, r110_7, r110_8, r110_9, r110_12, r110_13, r110_14, r110_15, r110_18, r110_20, r110_21, r110_23, r110_26, r110_27, r110_29, r110_32, r110_33, r110_36, r110_37, r110_40, r110_43, r110_44, r110_47, r110_48, cs_nil, cs_cons, lc_lt, lc_ge, lc_gt, lc_le, lc_eq, u1, hl0, ws, wu, h1]
  · by_cases h2 : us (L 2) s n = us (L 2) u n
    · by_cases h3 : pop s < pop u
      · have h3' : (pop s : Int) < pop u := by omega
        simp (disch := omega) [q110, r110_0, r110_1, r110_2, r110_5, r110_6, r110_7, r110_8, r110_9, r110_12, r110_13, r110_14, r110_15, r110_18, r110_20, r110_21, r110_23, r110_26, r110_27, r110_29, r110_32, r110_33, r110_36, r110_37, r110_40, r110_43, r110_44, r110_47, r110_48, cs_nil, cs_cons, lc_lt, lc_ge, lc_gt, lc_le, lc_eq, u1, hl0, ws, wu, h2, bs, bu, h3, le_T, lt_T, le_F, lt_F]
      · have h3' : ¬ (pop s : Int) < pop u := by omega
        simp (disch := omega) [q110, r110_0, r110_1, r110_2, r110_5, r110_6, r110_7, r110_8, r110_9, r110_12, r110_13, r110_14, r110_15, r110_18, r110_20, r110_21, r110_23, r110_26, r110_27, r110_29, r110_32, r110_33, r110_36, r110_37, r110_40, r110_43, r110_44, r110_47, r110_48, cs_nil, cs_cons, lc_lt, lc_ge, lc_gt, lc_le, lc_eq, u1, hl0, ws, wu, h2, bs, bu, h3, le_T, lt_T, le_F, lt_F]
    · simp (disch := omega) [q110, r110_0, r110_1, r110_2, r110_5, r110_6, r110_7, r110_8, r110_9, r110_12, r110_13, r110_14, r110_15, r110_18, r110_20, r110_21, r110_23, r110_26, r110_27, r110_29, r110_32, r110_33, r110_36, r110_37, r110_40, r110_43, r110_44, r110_47, r110_48, cs_nil, cs_cons, lc_lt, lc_ge, lc_gt, lc_le, lc_eq, u1, hl0, ws, wu, h2, h1, le_T, lt_T, le_F, lt_F]
theorem m_less {s u : Nat} (h : MB f n m r L ρ τ z) (hs : s < 256) (hu : u < 256) : aw_cl (d + 3) 257 [(110, 270), (0, (s : Int)), (0, (u : Int))] f Q = Q (0, if lss L n s u = true then 1 else 0) f := by
  apply aw_det
  have ws := fun (dd : Nat) (QQ : am_V → am_F → Prop) => m_worthBy (d := dd) (Q := QQ) (s := s) h (by omega)
  have wu := fun (dd : Nat) (QQ : am_V → am_F → Prop) => m_worthBy (d := dd) (Q := QQ) (s := u) h (by omega)
  have bs := fun (dd : Nat) (QQ : am_V → am_F → Prop) => m_bits (d := dd) (f := f) (Q := QQ) hs
  have bu := fun (dd : Nat) (QQ : am_V → am_F → Prop) => m_bits (d := dd) (f := f) (Q := QQ) hu
  unfold lss
  by_cases h2 : us (L 2) s n = us (L 2) u n
  · by_cases h3 : pop s < pop u
    · have h3' : (pop s : Int) < pop u := by omega
      simp (disch := omega) [q257, r257_0, r257_1, r257_2, r257_5, r257_6, r257_7, r257_8, r257_11, r257_13, r257_14, r257_16, r257_19, r257_20, r257_22, r257_25, r257_26, r257_29, r257_30, r257_33, r257_34, r257_37, r257_38, r257_41, r257_44, r257_45, r257_48, r257_49, cs_nil, cs_cons, lc_lt, lc_ge, lc_gt, lc_le, lc_eq, ws, wu, h2, bs, bu, h3, le_T, lt_T, le_F, lt_F]
    · have h3' : ¬ (pop s : Int) < pop u := by omega
      simp (disch := omega) [q257, r257_0, r257_1, r257_2, r257_5, r257_6, r257_7, r257_8, r257_11, r257_13, r257_14, r257_16, r257_19, r257_20, r257_22, r257_25, r257_26, r257_29, r257_30, r257_33, r257_34, r257_37, r257_38, r257_41, r257_44, r257_45, r257_48, r257_49, cs_nil, cs_cons, lc_lt, lc_ge, lc_gt, lc_le, lc_eq, ws, wu, h2, bs, bu, h3, le_T, lt_T, le_F, lt_F]
  · by_cases h1 : us (L 2) s n < us (L 2) u n
    · simp (disch := omega) [q257, r257_0, r257_1, r257_2, r257_5, r257_6, r257_7, r257_8, r257_11, r257_13, r257_14, r257_16, r257_19, r257_20, r257_22, r257_25, r257_26, r257_29, r257_30, r257_33, r257_34, r257_37, r257_38, r257_41, r257_44, r257_45, r257_48, r257_49, cs_nil, cs_cons, lc_lt, lc_ge, lc_gt, lc_le, lc_eq, ws, wu, h2, h1, le_T, lt_T, le_F, lt_F]
    · simp (disch := omega) [q257, r257_0, r257_1, r257_2, r257_5, r257_6, r257_7, r257_8, r257_11, r257_13, r257_14, r257_16, r257_19, r257_20, r257_22, r257_25, r257_26, r257_29, r257_30, r257_33, r257_34, r257_37, r257_38, r257_41, r257_44, r257_45, r257_48, r257_49, cs_nil, cs_cons, lc_lt, lc_ge, lc_gt, lc_le, lc_eq, ws, wu, h2, h1, le_T, lt_T, le_F, lt_F]
/-- what stands if a set is struck -/
def sts (L : am_F) (ρ : Int → List Int) (z : am_F) (n : Nat) (s : Nat) : Nat := bm (fun t => if s.testBit t = true then aSt L ρ (stk L ρ (nbr z) z n) (t : Int) else aSt L ρ z (t : Int)) n
def hsp (L : am_F) (ρ : Int → List Int) (z : am_F) (n : Nat) (use : Int) (s : Nat) : Bool := decide (s &&& bm (fun t => decide (z 1 (t : Int) = 1)) n = 0) && decide (use ≤ us (L 3) (sts L ρ z n s) n)
def hsf (L : am_F) (ρ : Int → List Int) (z : am_F) (n : Nat) (use : Int) : Nat → Nat → Int → Int
  | 0, _, b => b
  | j + 1, s, b => hsf L ρ z n use j (s + 1) (if hsp L ρ z n use s = true ∧ (b = -1 ∨ lss L n s b.toNat = true) then (s : Int) else b)
theorem hsf_b {use : Int} : ∀ (j s : Nat) (b : Int), s + j ≤ 256 → (b = -1 ∨ (0 ≤ b ∧ b < s)) → (hsf L ρ z n use j s b = -1 ∨ (0 ≤ hsf L ρ z n use j s b ∧ hsf L ρ z n use j s b < 256))
  | 0, s, b, h1, h2 => by rw [hsf]; omega
  | j + 1, s, b, h1, h2 => by
    rw [hsf]
    refine hsf_b j (s + 1) _ (by omega) ?_
    split <;> omega
end
