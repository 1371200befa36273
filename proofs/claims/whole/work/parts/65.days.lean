/-! undo, days, chance -/
section
variable {d n m r : Nat} {f L z : am_F} {ρ : Int → List Int} {τ : Int → Bool} {l : Int} {Z : Int → am_F} {Q : am_V → am_F → Prop}
theorem MZ_back {g : am_F} {b : Int} (hK : MK f b n z) (hF : FR f n z) (h53 : g 270 53 = -1) (hn : n ≤ 8) (hg : ∀ j : Int, 0 ≤ j → j < 192 → g 308 j = f 316 (b + j)) (h3 : ∀ j : Int, 24 ≤ j → g 303 j = f 303 j) : MZ g n z ∧ NM g z := by
  obtain ⟨k1, k2, k3, k4, k5⟩ := hK
  refine ⟨⟨?_, fun i t a1 a2 a3 a4 => ?_, fun t a b => ?_⟩, ?_, k4, fun i k a1 a2 a3 a4 => ?_⟩
  · rw [hg 0 (by omega) (by omega), Int.add_zero]; exact k1
  · rw [hg _ (by omega) (by omega)]; exact k2 i t a1 a2 a3 a4
  · rw [h53, if_neg (by omega), h3 _ (by omega)]; exact (hF t a b).symm
  · rw [hg _ (by omega) (by omega)]; exact k3
  · rw [hg _ (by omega) (by omega)]; exact k5 i k a1 a2 a3 a4
theorem H_undo (h : IW f n m r L ρ τ z l Z) : HC d 140 273 [] 0 f := by
  unfold HC
  have hB := h.2.2.1.1
  have hm := hB.1.1
  have hi := (IW_ref h (w := 4)).iv
  have hn := (iw_n h).1
  have hl := h.1.2.2.1
  obtain ⟨ps1, ⟨pa1, pa2, pa3⟩, ⟨pb1, pb2, pb3⟩⟩ := h.2.2.2.2.2.2.2.2
  have hB9 := MB_269 hB (j := 4) (v := am_wI (f 269 4 + 1))
  by_cases h0 : f 66 2 = 0
  · simp (disch := omega) [q140, r140_0, r140_1, r140_4, r140_7, r140_10, r140_11, r140_12, r140_15, r140_16, r140_17, r140_18, r140_19, r140_22, r140_23, r140_26, r140_29, r140_30, q273, r273_0, r273_1, r273_4, r273_7, r273_8, r273_11, r273_12, r273_13, r273_14, r273_15, r273_16, r273_17, r273_18, r273_19, r273_20, r273_22, r273_25, r273_28, r273_29, r273_32, r273_33, r273_34, r273_37, r273_40, r273_41, r273_44, r273_45, r273_46, r273_47, r273_48, r273_49, r273_52, r273_55, r273_56, r273_57, r273_60, r273_62, r273_63, r273_64, r273_65, r273_67, r273_68, r273_71, r273_72, r273_73, r273_76, r273_77, r273_78, r273_81, r273_82, cs_nil, cs_cons, lc_lt, lc_ge, lc_gt, lc_le, lc_eq, c_fx h.1.1, c_refuse h.1.1, mfx_u hm, ln_272, am_un, h0, ps1, hi]
  · have h0' : ¬ f 270 65 = 0 := by omega
    have t1 : (f 66 1 + 20 - 1).tmod 20 = (f 66 1 + 19) % 20 := by rw [Int.tmod_eq_emod_of_nonneg (by omega)]; congr 1; omega
    have t2 : (f 270 66 + 20 - 1).tmod 20 = (f 270 66 + 19) % 20 := by rw [Int.tmod_eq_emod_of_nonneg (by omega)]; congr 1; omega
    have ex : pc1 (f 66 1) 0 = 68 + 10 * ((f 66 1 + 19) % 20) := by unfold pc1; rw [Int.sub_zero]
    generalize hx : (f 66 1 + 19) % 20 = x at t1 ex
    have hx0 : 0 ≤ x ∧ x < 20 := by omega
    have e67 := fx67 h.1.1 hx0.1 hx0.2
    obtain ⟨z1, z2⟩ := pa3 0 (by omega) (by omega)
    obtain ⟨w1, w2, w3⟩ := pb3 0 (by omega) (by omega)
    rw [ex] at z1 z2
    simp (disch := omega) [q140, r140_0, r140_1, r140_4, r140_7, r140_10, r140_11, r140_12, r140_15, r140_16, r140_17, r140_18, r140_19, r140_22, r140_23, r140_26, r140_29, r140_30, q141, r141_0, r141_1, r141_2, r141_5, r141_7, r141_8, r141_9, r141_10, r141_12, r141_13, r141_16, r141_17, r141_18, r141_21, r141_22, r141_25, r141_26, r141_29, r141_30, r141_31, r141_34, r141_35, r141_36, r141_39, cs_nil, cs_cons, lc_lt, lc_ge, lc_gt, lc_le, lc_eq, c_fx h.1.1, h0, am_un, am_ue, am_wid2, t1, ln_67, e67, le_T, lt_T]
    refine c_copy (CZ_fr z1 (fun c j _ _ _ => am_un (by omega))) (CN_fr z2 (fun i k _ _ => am_un (by omega)) (am_un (by omega)) (fun _ _ _ => rfl)) (sS_fr (fx46 h.1.1) (fun j _ _ => am_un (by omega))) (by omega) (by omega) (by omega) hn ?_
    intro g1 c1 c2 c3
    have x2 : g1 66 2 = f 66 2 := (c3 _ _ (by omega)).trans (am_un (by omega))
    have x1 : g1 66 1 = x := (c3 _ _ (by omega)).trans am_ue
    simp (disch := omega) [q140, r140_0, r140_1, r140_4, r140_7, r140_10, r140_11, r140_12, r140_15, r140_16, r140_17, r140_18, r140_19, r140_22, r140_23, r140_26, r140_29, r140_30, q141, r141_0, r141_1, r141_2, r141_5, r141_7, r141_8, r141_9, r141_10, r141_12, r141_13, r141_16, r141_17, r141_18, r141_21, r141_22, r141_25, r141_26, r141_29, r141_30, r141_31, r141_34, r141_35, r141_36, r141_39, cs_nil, cs_cons, lc_lt, lc_ge, lc_gt, lc_le, lc_eq, x2, am_wid2]
    have gf : ∀ c j : Int, ¬ (c = 66 ∧ (j = 1 ∨ j = 2)) → ¬ (c = 46 ∧ 9 ≤ j) → ¬ (47 ≤ c ∧ c ≤ 55) → am_up g1 66 2 (f 66 2 - 1) c j = f c j := fun c j q1 q2 q3 => by rw [am_un (by omega), c3 _ _ (by omega), am_un (by omega)]
    have y1 : am_up g1 66 2 (f 66 2 - 1) 66 1 = x := by rw [am_un (by omega)]; exact x1
    have y2 : am_up g1 66 2 (f 66 2 - 1) 66 2 = f 66 2 - 1 := am_ue
    have y3 : CZ (am_up g1 66 2 (f 66 2 - 1)) 46 l n (Z 0) := CZ_fr c1 (fun c j _ _ _ => am_un (by omega))
    have y4 : CN (am_up g1 66 2 (f 66 2 - 1)) 46 (Z 0) := CN_fr c2 (fun i k _ _ => am_un (by omega)) (am_un (by omega)) (fun _ _ _ => rfl)
    generalize am_up g1 66 2 (f 66 2 - 1) = g2 at gf y1 y2 y3 y4
    have hA : PA g2 l n (fun i => Z (i + 1)) := by
      refine ⟨by omega, by omega, fun i a b => ?_⟩
      have e : pc1 (g2 66 1) i = pc1 (f 66 1) (i + 1) := by unfold pc1; omega
      rw [e]
      obtain ⟨q1, q2⟩ := pa3 (i + 1) (by omega) (by omega)
      have e3 := pc1_b (x := f 66 1) (i := i + 1)
      exact ⟨CZ_fr q1 (fun c j _ _ _ => gf _ _ (by omega) (by omega) (by omega)), CN_fr q2 (fun i k _ _ => gf _ _ (by omega) (by omega) (by omega)) (gf _ _ (by omega) (by omega) (by omega)) (fun _ _ _ => rfl)⟩
    have hm2 : mfx g2 := mfx_fr hm (fun j hj => gf _ _ (by omega) (by omega) (by omega))
    have u65 : g2 270 65 = f 270 65 := gf _ _ (by omega) (by omega) (by omega)
    have u66 : g2 270 66 = f 270 66 := gf _ _ (by omega) (by omega) (by omega)
    have key : ∀ (j : Nat) (k : Int) (Q : am_V → am_F → Prop), k + j = 192 → 0 ≤ k → aw_wp (d + 40) 273 55 [(110, 270), (0, 192)] [] (am_cpy g2 316 (192 * f 270 66) 308 0 192) Q → aw_wp (d + 40) 273 21 [(110, 270), (0, k)] [] (am_cpy g2 316 (192 * f 270 66) 308 0 k) Q := by
      intro j
      induction j with
      | zero =>
        intro k Q hk h0 hQ
        obtain rfl : k = 192 := by omega
        rw [r273_21]
        simpa [q273, r273_22, r273_25] using hQ
      | succ j ih =>
        intro k Q hk h0 hQ
        have ih' := ih (k + 1) Q (by omega) (by omega) hQ
        have e := cpy_s (f := g2) (a0 := 316) (sp := 192 * f 270 66) (a := 308) (dp := 0) (k := k) (by omega) h0
        rw [Int.zero_add] at e
        rw [r273_21]
        simpa (disch := omega) [q273, r273_0, r273_1, r273_4, r273_7, r273_8, r273_11, r273_12, r273_13, r273_14, r273_15, r273_16, r273_17, r273_18, r273_19, r273_20, r273_22, r273_25, r273_28, r273_29, r273_32, r273_33, r273_34, r273_37, r273_40, r273_41, r273_44, r273_45, r273_46, r273_47, r273_48, r273_49, r273_52, r273_55, r273_56, r273_57, r273_60, r273_62, r273_63, r273_64, r273_65, r273_67, r273_68, r273_71, r273_72, r273_73, r273_76, r273_77, r273_78, r273_81, r273_82, cs_nil, cs_cons, lc_lt, lc_ge, lc_gt, lc_le, lc_eq, mfx_u hm2, ln_308, ln_316, cpy_n, u66, am_wid2, show ¬ 192 ≤ k by omega, h0, show k < 192 by omega, show (0 : Int) ≤ 192 * f 270 66 + k by omega, show 192 * f 270 66 + k < 3840 by omega, e] using ih'
    have k0 := fun Q => key 192 0 Q (by omega) (by omega)
    rw [cpy_0] at k0
    simp (disch := omega) [q273, r273_0, r273_1, r273_4, r273_7, r273_8, r273_11, r273_12, r273_13, r273_14, r273_15, r273_16, r273_17, r273_18, r273_19, r273_20, r273_22, r273_25, r273_28, r273_29, r273_32, r273_33, r273_34, r273_37, r273_40, r273_41, r273_44, r273_45, r273_46, r273_47, r273_48, r273_49, r273_52, r273_55, r273_56, r273_57, r273_60, r273_62, r273_63, r273_64, r273_65, r273_67, r273_68, r273_71, r273_72, r273_73, r273_76, r273_77, r273_78, r273_81, r273_82, cs_nil, cs_cons, lc_lt, lc_ge, lc_gt, lc_le, lc_eq, u65, h0']
    apply k0
    simp (disch := omega) [q273, r273_0, r273_1, r273_4, r273_7, r273_8, r273_11, r273_12, r273_13, r273_14, r273_15, r273_16, r273_17, r273_18, r273_19, r273_20, r273_22, r273_25, r273_28, r273_29, r273_32, r273_33, r273_34, r273_37, r273_40, r273_41, r273_44, r273_45, r273_46, r273_47, r273_48, r273_49, r273_52, r273_55, r273_56, r273_57, r273_60, r273_62, r273_63, r273_64, r273_65, r273_67, r273_68, r273_71, r273_72, r273_73, r273_76, r273_77, r273_78, r273_81, r273_82, cs_nil, cs_cons, lc_lt, lc_ge, lc_gt, lc_le, lc_eq, cpy_n, am_un, am_wid2, u65, u66, t2]
    have v1 : ∀ c j : Int, ¬ c = 308 → ¬ (c = 270 ∧ (j = 65 ∨ j = 66)) → (am_up (am_up (am_cpy g2 316 (192 * f 270 66) 308 0 192) 270 66 ((f 270 66 + 19) % 20)) 270 65 (f 270 65 - 1)) c j = g2 c j := fun c j q1 q2 => by rw [am_un (by omega), am_un (by omega), cpy_n q1]
    have v2 : ∀ j : Int, 0 ≤ j → j < 192 → (am_up (am_up (am_cpy g2 316 (192 * f 270 66) 308 0 192) 270 66 ((f 270 66 + 19) % 20)) 270 65 (f 270 65 - 1)) 308 j = g2 316 (192 * f 270 66 + j) := fun j a b => by rw [am_un (by omega), am_un (by omega), cpy_i (by omega), Int.sub_zero]
    have v3 : (am_up (am_up (am_cpy g2 316 (192 * f 270 66) 308 0 192) 270 66 ((f 270 66 + 19) % 20)) 270 65 (f 270 65 - 1)) 270 65 = f 270 65 - 1 := am_ue
    have v4 : (am_up (am_up (am_cpy g2 316 (192 * f 270 66) 308 0 192) 270 66 ((f 270 66 + 19) % 20)) 270 65 (f 270 65 - 1)) 270 66 = (f 270 66 + 19) % 20 := by rw [am_un (by omega), am_ue]
    generalize am_up (am_up (am_cpy g2 316 (192 * f 270 66) 308 0 192) 270 66 ((f 270 66 + 19) % 20)) 270 65 (f 270 65 - 1) = k2 at v1 v2 v3 v4
    have w1' : MK g2 (192 * f 270 66) n (Z 0) := by
      have e : pm1 (f 270 66) 0 = 192 * f 270 66 := by unfold pm1; omega
      rw [e] at w1
      exact MK_fr w1 (by omega) hn (fun j _ _ => gf _ _ (by omega) (by omega) (by omega))
    have f303 : ∀ j : Int, k2 303 j = f 303 j := fun j => (v1 _ _ (by omega) (by omega)).trans (gf _ _ (by omega) (by omega) (by omega))
    have hMZ := MZ_back (g := k2) w1' (FR_fr w3 (fun j _ => gf _ _ (by omega) (by omega) (by omega))) (by rw [v1 _ _ (by omega) (by omega), gf _ _ (by omega) (by omega) (by omega)]; exact h.1.2.2.2.2.2) hn v2 (fun j _ => v1 _ _ (by omega) (by omega))
    refine (IW_act (g := g2) h (fun c j hc => gf c j (by omega) (by omega) (by omega)) y3 y4 hA (fun c j hc => v1 c j (by omega) (by omega)) hMZ.1 hMZ.2 ⟨by omega, by omega, fun i a b => ?_⟩ w2 (by rw [v3, v1 _ _ (by omega) (by omega), y2, ps1]) (FS_c h (g := g2) (fun c j hc => gf c j (by omega) (by omega) (by omega)) (fun c j hc => v1 c j (by omega) (by omega)))).iv
    have e : pm1 (k2 270 66) i = pm1 (f 270 66) (i + 1) := by unfold pm1; omega
    rw [e]
    obtain ⟨q1, q2, q3⟩ := pb3 (i + 1) (by omega) (by omega)
    exact ⟨MK_fr q1 pm1_b hn (fun j _ _ => (v1 _ _ (by omega) (by omega)).trans (gf _ _ (by omega) (by omega) (by omega))), q2, FR_fr q3 (fun j _ => f303 j)⟩
def dys (L : am_F) (ρ : Int → List Int) (n m : Nat) : Nat → am_F → am_F
  | 0, z => z
  | k + 1, z => dys L ρ n m k (day L ρ n m z)
def dct (L : am_F) (ρ : Int → List Int) (n m : Nat) : Nat → am_F → Nat
  | 0, _ => 0
  | k + 1, z => ct (fun t => aFl L ρ z (t : Int)) n + dct L ρ n m k (day L ρ n m z)
theorem dct_b (hn : n ≤ 8) : ∀ k z, dct L ρ n m k z ≤ 8 * k
  | 0, _ => Nat.le_refl 0
  | k + 1, z => by
    have h1 := dct_b hn k (day L ρ n m z)
    have h2 := ct_le (p := fun t => aFl L ρ z (t : Int)) n
    rw [dct]
    omega
theorem CB_L {g y : am_F} {a : Int} (h : CB f a l n m r L ρ z) (hz : CZ g a l n y) (ho : OZ n y) (hg : fL a f g) : CB g a l n m r L ρ y := by
  obtain ⟨h1, h2, h3, h4, h5⟩ := h
  have hl := h2.2.1
  have ha := h3.2.1
  refine ⟨?_, CL_fr h2 h4 (fun c j _ _ => hg _ _ (by omega)), hz, h4, ho⟩
  rw [hg _ _ (by omega), hg _ _ (by omega), hg _ _ (by omega), hg _ _ (by omega), hg _ _ (by omega)]
  exact h1
theorem c_daysL {N : Int} (hN : N ≤ 100) (hx : f 0 3 = 36 ∧ f 0 6 = 46) : ∀ (j : Nat) (k : Int) (b : Int) (z g : am_F), k + j = N → 0 ≤ k → 0 ≤ b → b ≤ 8 * k → z 0 0 + j ≤ 999 → CB g 46 l n m r L ρ z → CN g 46 z → fL 46 f g → (∀ g', CB g' 46 l n m r L ρ (dys L ρ n m j z) → CN g' 46 (dys L ρ n m j z) → fL 46 f g' → Q (0, b + dct L ρ n m j z) g') → aw_wp (d + 8) 135 29 [(109, 0), (0, N), (0, b), (0, k)] [] g Q := by
  intro j
  induction j with
  | zero =>
    intro k b z g h1 h2 h3 h4 h5 h6 h7 h8 hQ
    have := hQ g h6 h7 h8
    rw [r135_29]
    simp (disch := omega) [q135, r135_0, r135_1, r135_2, r135_5, r135_8, r135_9, r135_10, r135_13, r135_14, r135_15, r135_18, r135_19, r135_22, r135_25, r135_26, r135_27, r135_28, r135_30, r135_31, r135_34, r135_35, r135_36, r135_39, r135_40, r135_43, r135_46, r135_49, r135_50, r135_51, r135_54, r135_57, r135_58, cs_nil, cs_cons, lc_lt, lc_ge, lc_gt, lc_le, lc_eq, le_T, lt_F]
    simpa [dct] using this
  | succ j ih =>
    intro k b z g h1 h2 h3 h4 h5 h6 h7 h8 hQ
    have x3 : g 0 3 = 36 := (h8 _ _ (by omega)).trans hx.1
    have x6 : g 0 6 = 46 := (h8 _ _ (by omega)).trans hx.2
    have hn := h6.2.2.2.1.1
    rw [r135_29]
    simp (disch := omega) [q135, r135_0, r135_1, r135_2, r135_5, r135_8, r135_9, r135_10, r135_13, r135_14, r135_15, r135_18, r135_19, r135_22, r135_25, r135_26, r135_27, r135_28, r135_30, r135_31, r135_34, r135_35, r135_36, r135_39, r135_40, r135_43, r135_46, r135_49, r135_50, r135_51, r135_54, r135_57, r135_58, cs_nil, cs_cons, lc_lt, lc_ge, lc_gt, lc_le, lc_eq, le_F, lt_T, x3, x6]
    refine c_live h6 h7 (by omega) ?_
    intro g1 q1 q2 q3
    have hb : bm (fun t => aFl L ρ z (t : Int)) n < 256 := bm_8 hn
    have hp : pop (bm (fun t => aFl L ρ z (t : Int)) n) = ct (fun t => aFl L ρ z (t : Int)) n := pop_bm hn
    have hc := ct_le (p := fun t => aFl L ρ z (t : Int)) n
    have ih' := ih (k + 1) (b + ct (fun t => aFl L ρ z (t : Int)) n) (day L ρ n m z) g1 (by omega) (by omega) (by omega) (by omega) (by rw [day_d]; omega) q1 q2 (fL_tr h8 q3) (fun g' e1 e2 e3 => by
      have := hQ g' e1 e2 e3
      rw [dct] at this
      rwa [show b + (ct (fun t => aFl L ρ z (t : Int)) n : Int) + (dct L ρ n m j (day L ρ n m z) : Int) = b + ((ct (fun t => aFl L ρ z (t : Int)) n + dct L ρ n m j (day L ρ n m z) : Nat) : Int) by omega])
    simpa (disch := omega) [q135, r135_0, r135_1, r135_2, r135_5, r135_8, r135_9, r135_10, r135_13, r135_14, r135_15, r135_18, r135_19, r135_22, r135_25, r135_26, r135_27, r135_28, r135_30, r135_31, r135_34, r135_35, r135_36, r135_39, r135_40, r135_43, r135_46, r135_49, r135_50, r135_51, r135_54, r135_57, r135_58, cs_nil, cs_cons, lc_lt, lc_ge, lc_gt, lc_le, lc_eq, c_bits hb, hp, am_wid2] using ih'
theorem m_daysL {N : Int} {b0 : Int} (b01 : b0 = 0 ∨ b0 = 1) (hN : N ≤ 100) : ∀ (j : Nat) (k : Int) (b : Int) (z g : am_F), k + j = N → 0 ≤ k → 0 ≤ b → b ≤ 8 * k → g 270 58 = b → g 270 57 = b0 → z 0 0 + j ≤ 999 → MB g n m r L ρ τ z → (b0 = 0 → NM g z) → fD b0 f g → (∀ g', MB g' n m r L ρ τ (dys L ρ n m j z) → (b0 = 0 → NM g' (dys L ρ n m j z)) → g' 270 58 = b + dct L ρ n m j z → g' 270 57 = b0 → fD b0 f g' → Q (3, 0) g') → aw_wp (d + 8) 245 2 [(110, 270), (0, N), (0, k)] [] g Q := by
  intro j
  induction j with
  | zero =>
    intro k b z g h1 h2 h3 h4 hb hb0 h5 h6 h7 h8 hQ
    have := hQ g h6 h7 (by rw [hb]; simp [dct]) hb0 h8
    rw [r245_2]
    simpa (disch := omega) [q245, r245_0, r245_1, r245_3, r245_4, r245_7, r245_8, r245_11, r245_14, r245_17, cs_nil, cs_cons, lc_lt, lc_ge, lc_gt, lc_le, lc_eq, le_T, lt_F] using this
  | succ j ih =>
    intro k b z g h1 h2 h3 h4 hb hb0 h5 h6 h7 h8 hQ
    have hn := h6.2.2.1.1
    rw [r245_2]
    simp (disch := omega) [q245, r245_0, r245_1, r245_3, r245_4, r245_7, r245_8, r245_11, r245_14, r245_17, cs_nil, cs_cons, lc_lt, lc_ge, lc_gt, lc_le, lc_eq, le_F, lt_T]
    refine m_day h6 hb0 b01 h7 (by omega) ?_
    intro g1 q1 q2 q3 q4 q5
    have hc := ct_le (p := fun t => aFl L ρ z (t : Int)) n
    have e58 := q3 (by omega) (by omega)
    have ih' := ih (k + 1) (b + ct (fun t => aFl L ρ z (t : Int)) n) (day L ρ n m z) g1 (by omega) (by omega) (by omega) (by omega) (by rw [e58, hb]) (by rw [q5 _ _ (by omega)]; exact hb0) (by rw [day_d]; omega) q1 q2 (fD_tr h8 q5) (fun g' e1 e2 e3 e4 e5 => by
      refine hQ g' e1 e2 ?_ e4 e5
      rw [e3, dct]
      omega)
    simpa (disch := omega) [q245, r245_0, r245_1, r245_3, r245_4, r245_7, r245_8, r245_11, r245_14, r245_17, cs_nil, cs_cons, lc_lt, lc_ge, lc_gt, lc_le, lc_eq, am_wid2] using ih'
theorem dys_O : ∀ (k : Nat) (z : am_F), OZ n z → z 0 0 + k ≤ 999 → OZ n (dys L ρ n m k z)
  | 0, _, h, _ => h
  | k + 1, z, h, hd => dys_O k _ (day_O h (by omega)) (by rw [day_d]; omega)
theorem c_can (h : IW f n m r L ρ τ z l Z) {k : Int} (hk : k < 2147483648) : aw_cl d 136 [(109, 0), (0, k)] f Q = Q (0, if 1 ≤ k ∧ k ≤ 100 ∧ z 0 0 + k ≤ 999 then 1 else 0) f := by
  apply aw_det
  have ho := h.2.1.1.2.2.2.2.1
  by_cases h1 : k < 1
  · simp (disch := omega) [q136, r136_0, r136_1, r136_2, r136_5, r136_6, r136_8, r136_11, r136_12, r136_15, r136_18, r136_19, r136_20, r136_23, r136_26, r136_27, r136_30, r136_31, cs_nil, cs_cons, lc_lt, lc_ge, lc_gt, lc_le, lc_eq, le_T, lt_T, le_F, lt_F]
  by_cases h2 : 100 < k
  · simp (disch := omega) [q136, r136_0, r136_1, r136_2, r136_5, r136_6, r136_8, r136_11, r136_12, r136_15, r136_18, r136_19, r136_20, r136_23, r136_26, r136_27, r136_30, r136_31, cs_nil, cs_cons, lc_lt, lc_ge, lc_gt, lc_le, lc_eq, le_T, lt_T, le_F, lt_F]
  by_cases h3 : 999 < z 0 0 + k
  · simp (disch := omega) [q136, r136_0, r136_1, r136_2, r136_5, r136_6, r136_8, r136_11, r136_12, r136_15, r136_18, r136_19, r136_20, r136_23, r136_26, r136_27, r136_30, r136_31, cs_nil, cs_cons, lc_lt, lc_ge, lc_gt, lc_le, lc_eq, c_fx h.1.1, iw_S h, am_wid2, le_T, lt_T, le_F, lt_F]
  · simp (disch := omega) [q136, r136_0, r136_1, r136_2, r136_5, r136_6, r136_8, r136_11, r136_12, r136_15, r136_18, r136_19, r136_20, r136_23, r136_26, r136_27, r136_30, r136_31, cs_nil, cs_cons, lc_lt, lc_ge, lc_gt, lc_le, lc_eq, c_fx h.1.1, iw_S h, am_wid2, le_T, lt_T, le_F, lt_F]
theorem m_ahead (h : MB f n m r L ρ τ z) {k a b : Int} (hb : b ≤ 1000) (ha : -1000 ≤ a) : aw_cl (d + 1) 243 [(110, 270), (0, k), (0, a), (0, b)] f Q = Q (0, if a ≤ k ∧ k ≤ b ∧ z 0 0 + k ≤ 999 then 1 else 0) f := by
  apply aw_det
  have ho := h.2.2.2.1
  have e := h.2.1.1
  by_cases h1 : a ≤ k ∧ k ≤ b
  · by_cases h3 : 999 < z 0 0 + k
    · simp (disch := omega) [q243, r243_0, r243_1, r243_2, r243_3, r243_4, r243_5, r243_6, r243_9, r243_12, r243_13, r243_16, r243_17, r243_18, r243_19, r243_20, r243_23, r243_26, r243_27, r243_30, r243_31, cs_nil, cs_cons, lc_lt, lc_ge, lc_gt, lc_le, lc_eq, h_isIn, mfx_u h.1.1, ln_308, e, am_wid2, le_T, lt_T, le_F, lt_F]
    · simp (disch := omega) [q243, r243_0, r243_1, r243_2, r243_3, r243_4, r243_5, r243_6, r243_9, r243_12, r243_13, r243_16, r243_17, r243_18, r243_19, r243_20, r243_23, r243_26, r243_27, r243_30, r243_31, cs_nil, cs_cons, lc_lt, lc_ge, lc_gt, lc_le, lc_eq, h_isIn, mfx_u h.1.1, ln_308, e, am_wid2, le_T, lt_T, le_F, lt_F]
  · have h2 : ¬ (a ≤ k ∧ k ≤ b ∧ z 0 0 + k ≤ 999) := fun q => h1 ⟨q.1, q.2.1⟩
    simp (disch := omega) [q243, r243_0, r243_1, r243_2, r243_3, r243_4, r243_5, r243_6, r243_9, r243_12, r243_13, r243_16, r243_17, r243_18, r243_19, r243_20, r243_23, r243_26, r243_27, r243_30, r243_31, cs_nil, cs_cons, lc_lt, lc_ge, lc_gt, lc_le, lc_eq, h_isIn, h1, h2]
theorem H_days (h : IW f n m r L ρ τ z l Z) {k : Int} (hk : k < 2147483648) : HC d 135 279 [(0, k)] 0 f := by
  unfold HC
  have hB := h.2.2.1.1
  have hm := hB.1.1
  have hi := (IW_ref h (w := 3)).iv
  have hn := (iw_n h).1
  have hB9 := MB_269 hB (j := 3) (v := am_wI (f 269 3 + 1))
  by_cases hc : 1 ≤ k ∧ k ≤ 100 ∧ z 0 0 + k ≤ 999
  · obtain ⟨N, rfl⟩ : ∃ N : Nat, k = N := ⟨k.toNat, by omega⟩
    simp (disch := omega) [q135, r135_0, r135_1, r135_2, r135_5, r135_8, r135_9, r135_10, r135_13, r135_14, r135_15, r135_18, r135_19, r135_22, r135_25, r135_26, r135_27, r135_28, r135_30, r135_31, r135_34, r135_35, r135_36, r135_39, r135_40, r135_43, r135_46, r135_49, r135_50, r135_51, r135_54, r135_57, r135_58, cs_nil, cs_cons, lc_lt, lc_ge, lc_gt, lc_le, lc_eq, c_fx h.1.1, c_can h hk, hc]
    refine c_pushI h ?_
    intro g1 a1 a2 a3 a4 a5
    simp (disch := omega) [q135, r135_0, r135_1, r135_2, r135_5, r135_8, r135_9, r135_10, r135_13, r135_14, r135_15, r135_18, r135_19, r135_22, r135_25, r135_26, r135_27, r135_28, r135_30, r135_31, r135_34, r135_35, r135_36, r135_39, r135_40, r135_43, r135_46, r135_49, r135_50, r135_51, r135_54, r135_57, r135_58, cs_nil, cs_cons, lc_lt, lc_ge, lc_gt, lc_le, lc_eq]
    refine c_daysL (f := g1) (d := d + 32) (by omega) ⟨(a5 _ _ (by omega)).trans (fx_0_3 h.1.1), (a5 _ _ (by omega)).trans (fx_0_6 h.1.1)⟩ N 0 0 z g1 (by omega) (by omega) (by omega) (by omega) (by omega) a3 a4 (fun _ _ _ => rfl) ?_
    intro g2 b1 b2 b3
    have c270 : ∀ c j : Int, 270 ≤ c → g2 c j = f c j := fun c j hc => (b3 c j (by omega)).trans (a5 c j (by omega))
    have hB2 : MB g2 n m r L ρ τ z := MB_fr hB (fun c j _ _ => c270 _ _ (by omega)) (fun j _ => c270 _ _ (by omega))
    simp (disch := omega) [q279, r279_0, r279_1, r279_2, r279_3, r279_5, r279_8, r279_11, r279_12, r279_13, r279_16, r279_17, r279_18, r279_21, r279_22, r279_23, r279_26, r279_27, r279_28, r279_31, r279_32, r279_35, cs_nil, cs_cons, lc_lt, lc_ge, lc_gt, lc_le, lc_eq, m_ahead hB2, hc]
    refine m_keepsI h c270 ?_
    intro k1 e1 e2 e3 e4 e5 e6
    simp (disch := omega) [q279, r279_0, r279_1, r279_2, r279_3, r279_5, r279_8, r279_11, r279_12, r279_13, r279_16, r279_17, r279_18, r279_21, r279_22, r279_23, r279_26, r279_27, r279_28, r279_31, r279_32, r279_35, cs_nil, cs_cons, lc_lt, lc_ge, lc_gt, lc_le, lc_eq]
    refine aw_imp (Q := fun v g' => v = (3, 0) ∧ MB g' n m r L ρ τ (dys L ρ n m N z) ∧ NM g' (dys L ρ n m N z) ∧ g' 270 58 = dct L ρ n m N z ∧ fD 0 (am_up k1 270 58 0) g') ?_ ?_
    · simp (disch := omega) [q245, r245_0, r245_1, r245_3, r245_4, r245_7, r245_8, r245_11, r245_14, r245_17, cs_nil, cs_cons, lc_lt, lc_ge, lc_gt, lc_le, lc_eq]
      refine m_daysL (f := am_up k1 270 58 0) (d := d + 31) (b0 := 0) (Or.inl rfl) (by omega) N 0 0 z _ (by omega) (by omega) (by omega) (by omega) am_ue ((am_un (by omega)).trans e5) (by omega) (MB_fr e3 (fun c j _ _ => am_un (by omega)) (fun j _ => am_un (by omega))) (fun _ => NM_fr e4 (fun k _ => am_un (by omega)) (fun _ _ _ => rfl)) (fun _ _ _ => rfl) ?_
      intro g' i1 i2 i3 i4 i5
      refine ⟨rfl, i1, i2 rfl, ?_, i5⟩
      rw [i3]; omega
    · rintro v k2 ⟨rfl, q1, q2, q3, q4⟩
      simp (disch := omega) [q279, r279_0, r279_1, r279_2, r279_3, r279_5, r279_8, r279_11, r279_12, r279_13, r279_16, r279_17, r279_18, r279_21, r279_22, r279_23, r279_26, r279_27, r279_28, r279_31, r279_32, r279_35, cs_nil, cs_cons, lc_lt, lc_ge, lc_gt, lc_le, lc_eq, q3]
      have q4' : ∀ c j : Int, ¬ (c = 342 ∨ c = 311 ∨ c = 312 ∨ c = 308 ∨ c = 270 ∧ (j = 50 ∨ j = 55 ∨ j = 98 ∨ j = 58)) → k2 c j = k1 c j := fun c j hc => (q4 c j (by omega)).trans (am_un (by omega))
      have c0 : ∀ c j : Int, ¬ CC c j → g2 c j = f c j := fun c j hc => (b3 c j (by omega)).trans (a5 c j (by omega))
      have m0 : ∀ c j : Int, ¬ MC c j → k2 c j = g2 c j := fun c j hc => (q4' c j (by omega)).trans (e6 c j (by omega))
      refine (IW_act h c0 b1.2.2.1 b2 (PA_fr a1 (fun j _ => b3 _ _ (by omega)) (fun c j _ _ => b3 _ _ (by omega))) m0 q1.2.1 q2 (PB_fr e1 hn (fun j _ => q4' _ _ (by omega)) (fun j => q4' _ _ (by omega)) (fun j _ => q4' _ _ (by omega))) q1.2.2.2 ?_ (FS_c h (fun c j hc => (b3 c j (by omega)).trans (a5 c j (by omega))) (fun c j hc => (q4' c j (by omega)).trans (e6 c j (by omega))))).iv
      rw [q4' _ _ (by omega), e2, m0 _ _ (by omega), b3 _ _ (by omega), a2]
  · simp (disch := omega) [q135, r135_0, r135_1, r135_2, r135_5, r135_8, r135_9, r135_10, r135_13, r135_14, r135_15, r135_18, r135_19, r135_22, r135_25, r135_26, r135_27, r135_28, r135_30, r135_31, r135_34, r135_35, r135_36, r135_39, r135_40, r135_43, r135_46, r135_49, r135_50, r135_51, r135_54, r135_57, r135_58, q279, r279_0, r279_1, r279_2, r279_3, r279_5, r279_8, r279_11, r279_12, r279_13, r279_16, r279_17, r279_18, r279_21, r279_22, r279_23, r279_26, r279_27, r279_28, r279_31, r279_32, r279_35, cs_nil, cs_cons, lc_lt, lc_ge, lc_gt, lc_le, lc_eq, c_fx h.1.1, c_can h hk, c_refuse h.1.1, m_ahead hB9 (show (100 : Int) ≤ 1000 by omega) (show (-1000 : Int) ≤ 1 by omega), m_refuse hB9.1.1, hc, q135, r135_0, r135_1, r135_2, r135_5, r135_8, r135_9, r135_10, r135_13, r135_14, r135_15, r135_18, r135_19, r135_22, r135_25, r135_26, r135_27, r135_28, r135_30, r135_31, r135_34, r135_35, r135_36, r135_39, r135_40, r135_43, r135_46, r135_49, r135_50, r135_51, r135_54, r135_57, r135_58, q279, r279_0, r279_1, r279_2, r279_3, r279_5, r279_8, r279_11, r279_12, r279_13, r279_16, r279_17, r279_18, r279_21, r279_22, r279_23, r279_26, r279_27, r279_28, r279_31, r279_32, r279_35, cs_nil, cs_cons, lc_lt, lc_ge, lc_gt, lc_le, lc_eq, m_ahead hB9, m_refuse hB9.1.1, hc, am_un, hi, c_refuse h.1.1]
end
