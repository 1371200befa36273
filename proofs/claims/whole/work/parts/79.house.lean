/-! house -/
section
variable {d n m r : Nat} {f L z : am_F} {ρ : Int → List Int} {τ : Int → Bool} {l : Int} {Z : Int → am_F} {Q : am_V → am_F → Prop}
theorem c_house {use : Int} (h : CB f 46 l n m r L ρ z) (hN : CN f 46 z) (s56 : sS f 56) (hx : f 40 0 = 36) (hm : 0 < m) (hQ : ∀ g, sS g 56 → (∀ c j : Int, ¬ (c = 35 ∨ (56 ≤ c ∧ c ≤ 65)) → g c j = f c j) → Q (0, hsf L ρ z n use (2 ^ n) 0 (-1)) g) : aw_cl (d + 8) 108 [(103, 40), (107, 46), (107, 56), (0, use)] f Q := by
  have hn := h.2.2.2.1.1
  have hT := h.2.2.2.1
  have hl := h.2.1.2.1
  have hl0 : 0 ≤ l := by omega
  have h256 : 2 ^ n ≤ 2 ^ 8 := Nat.pow_le_pow_right (by omega) hn
  have e9 : f 46 9 = l := h.2.2.1.2.2.1
  simp (disch := omega) [q108, r108_0, r108_1, r108_4, r108_6, r108_7, r108_10, r108_11, r108_14, r108_16, r108_17, r108_18, r108_21, r108_23, r108_24, r108_25, r108_26, r108_29, r108_31, r108_32, r108_34, r108_35, r108_39, r108_40, r108_42, r108_45, r108_46, r108_49, r108_51, r108_53, r108_54, r108_55, r108_56, r108_58, r108_60, r108_61, r108_62, r108_64, r108_66, r108_68, r108_69, r108_72, r108_74, r108_76, r108_79, r108_80, r108_83, r108_85, r108_87, r108_89, r108_92, r108_95, r108_97, r108_99, r108_102, r108_105, r108_107, cs_nil, cs_cons, lc_lt, lc_ge, lc_gt, lc_le, lc_eq, e9, hl0, hx]
  refine c_standing h ?_
  intro f1 hf1
  have h1 := CB_fK h hf1
  simp (disch := omega) [q108, r108_0, r108_1, r108_4, r108_6, r108_7, r108_10, r108_11, r108_14, r108_16, r108_17, r108_18, r108_21, r108_23, r108_24, r108_25, r108_26, r108_29, r108_31, r108_32, r108_34, r108_35, r108_39, r108_40, r108_42, r108_45, r108_46, r108_49, r108_51, r108_53, r108_54, r108_55, r108_56, r108_58, r108_60, r108_61, r108_62, r108_64, r108_66, r108_68, r108_69, r108_72, r108_74, r108_76, r108_79, r108_80, r108_83, r108_85, r108_87, r108_89, r108_92, r108_95, r108_97, r108_99, r108_102, r108_105, r108_107, cs_nil, cs_cons, lc_lt, lc_ge, lc_gt, lc_le, lc_eq, c_areZ h1]
  refine c_ifStruck (d := d + 1) h1 (CN_fr hN (fun i k _ _ => hf1 _ _ (by omega)) (hf1 _ _ (by omega)) (fun _ _ _ => rfl)) (sS_fr s56 (fun j _ _ => hf1 _ _ (by omega))) ((hf1 _ _ (by omega)).trans hx) hm ?_
  intro g s2 h2
  simp (disch := omega) [q108, r108_0, r108_1, r108_4, r108_6, r108_7, r108_10, r108_11, r108_14, r108_16, r108_17, r108_18, r108_21, r108_23, r108_24, r108_25, r108_26, r108_29, r108_31, r108_32, r108_34, r108_35, r108_39, r108_40, r108_42, r108_45, r108_46, r108_49, r108_51, r108_53, r108_54, r108_55, r108_56, r108_58, r108_60, r108_61, r108_62, r108_64, r108_66, r108_68, r108_69, r108_72, r108_74, r108_76, r108_79, r108_80, r108_83, r108_85, r108_87, r108_89, r108_92, r108_95, r108_97, r108_99, r108_102, r108_105, r108_107, cs_nil, cs_cons, lc_lt, lc_ge, lc_gt, lc_le, lc_eq]
  have fr : ∀ c j : Int, ¬ (c = 35 ∨ (56 ≤ c ∧ c ≤ 65)) → g c j = f c j := fun c j hc => (h2 c j hc).trans (hf1 c j (by omega))
  have hq := hQ g s2 fr
  have hC : CL g l n m r L ρ := CL_fr h.2.1 hT (fun c j _ _ => fr _ _ (by omega))
  have en : g l 9 = n := hC.2.2.1.1
  have b1 : bm (fun t => aSt L ρ z (t : Int)) n < 256 := bm_8 hn
  have b2 : bm (fun t => aSt L ρ (stk L ρ (nbr z) z n) (t : Int)) n < 256 := bm_8 hn
  have b3 : bm (fun t => decide (z 1 (t : Int) = 1)) n < 256 := bm_8 hn
  have eu : ∀ s : Nat, s < 256 → us (L 3) (bm (fun i => (bm (fun t => aSt L ρ z (t : Int)) n).testBit i && !(s.testBit i)) 8 ||| (bm (fun t => aSt L ρ (stk L ρ (nbr z) z n) (t : Int)) n &&& s)) n = us (L 3) (sts L ρ z n s) n := by
    intro s hs
    apply us_ext
    intro t ht
    unfold sts
    rw [Nat.testBit_or, Nat.testBit_and, bm_bit, bm_bit, bm_bit, bm_bit]
    by_cases hb : s.testBit t = true
    · simp [ht, hb, show t < 8 by omega]
    · simp [ht, hb, show t < 8 by omega]
  have ehsf : ∀ (j s : Nat) (b : Int), hsf L ρ z n use (j + 1) s b = hsf L ρ z n use j (s + 1) (if hsp L ρ z n use s = true ∧ (b = -1 ∨ lss L n s b.toNat = true) then (s : Int) else b) := fun _ _ _ => rfl
  have ehsp : ∀ s : Nat, hsp L ρ z n use s = (decide (s &&& bm (fun t => decide (z 1 (t : Int) = 1)) n = 0) && decide (use ≤ us (L 3) (sts L ρ z n s) n)) := fun _ => rfl
  generalize hST : bm (fun t => aSt L ρ z (t : Int)) n = ST at *
  generalize hG : bm (fun t => aSt L ρ (stk L ρ (nbr z) z n) (t : Int)) n = G at *
  generalize hBR : bm (fun t => decide (z 1 (t : Int) = 1)) n = BR at *
  have esh := shl_n (t := n) (by omega)
  have key : ∀ (j s : Nat) (b : Int) (x : am_V), s + j = 2 ^ n → (b = -1 ∨ (0 ≤ b ∧ b < s)) → Q (0, hsf L ρ z n use j s b) g → aw_wp (d + 8) 108 37 [(103, 40), (107, 46), (107, 56), (0, use), (100, l), (0, (ST : Int)), (0, (BR : Int)), (0, (G : Int)), (0, b), (0, (s : Int)), x] [] g Q := by
    intro j
    induction j with
    | zero =>
      intro s b x h1 hb hq
      obtain ⟨tx, vx⟩ := x
      have c1 : ((2 ^ n : Nat) : Int) ≤ s := by omega
      generalize ((2 ^ n : Nat) : Int) = W at esh c1
      rw [r108_37]
      simpa (disch := omega) [q108, r108_0, r108_1, r108_4, r108_6, r108_7, r108_10, r108_11, r108_14, r108_16, r108_17, r108_18, r108_21, r108_23, r108_24, r108_25, r108_26, r108_29, r108_31, r108_32, r108_34, r108_35, r108_39, r108_40, r108_42, r108_45, r108_46, r108_49, r108_51, r108_53, r108_54, r108_55, r108_56, r108_58, r108_60, r108_61, r108_62, r108_64, r108_66, r108_68, r108_69, r108_72, r108_74, r108_76, r108_79, r108_80, r108_83, r108_85, r108_87, r108_89, r108_92, r108_95, r108_97, r108_99, r108_102, r108_105, r108_107, cs_nil, cs_cons, lc_lt, lc_ge, lc_gt, lc_le, lc_eq, en, hl0, esh, c1, hsf] using hq
    | succ j ih =>
      intro s b x h1 hb hq
      obtain ⟨tx, vx⟩ := x
      have c1 : ¬ ((2 ^ n : Nat) : Int) ≤ s := by omega
      have s256 : s < 256 := by omega
      have ea := andn_n b1 s256
      have eb := an_n (a := G) (b := s) (by omega) (by omega)
      have a8 : bm (fun i => ST.testBit i && !(s.testBit i)) 8 < 256 := bm_8 (by omega)
      have ab : G &&& s ≤ G := Nat.and_le_left
      have eo := or_n (a := bm (fun i => ST.testBit i && !(s.testBit i)) 8) (b := G &&& s) (by omega) (by omega)
      have e31 : (bm (fun i => ST.testBit i && !(s.testBit i)) 8 ||| (G &&& s)) < 2147483648 := Nat.or_lt_two_pow (n := 31) (by omega) (by omega)
      have eus := eu s s256
      have euse := fun (dd : Nat) (QQ : am_V → am_F → Prop) => c_useOf (d := dd) (Q := QQ) hC hT e31
      rw [eus] at euse
      have ebr := an_n (a := s) (b := BR) (by omega) (by omega)
      rw [ehsf] at hq
      have step : ∀ (b' : Int) (x : am_V), b' = (if hsp L ρ z n use s = true ∧ (b = -1 ∨ lss L n s b.toNat = true) then (s : Int) else b) → aw_wp (d + 8) 108 37 [(103, 40), (107, 46), (107, 56), (0, use), (100, l), (0, (ST : Int)), (0, (BR : Int)), (0, (G : Int)), (0, b'), (0, (s : Int) + 1), x] [] g Q := by
        intro b' x hb'
        have := ih (s + 1) b' x (by omega) (by rw [hb']; split <;> omega) (by rw [hb']; exact hq)
        rw [Int.natCast_add s] at this
        exact this
      generalize hWW : ((2 ^ n : Nat) : Int) = W at esh c1
      generalize hA : bm (fun i => ST.testBit i && !(s.testBit i)) 8 = A at *
      generalize hAB : A ||| (G &&& s) = AB at *
      rw [r108_37]
      by_cases h0 : s &&& BR = 0
      · rw [h0] at ebr
        by_cases hu : use ≤ us (L 3) (sts L ρ z n s) n
        · have hp : hsp L ρ z n use s = true := by rw [ehsp]; simp [h0, hu]
          by_cases hb1 : b = -1
          · have := step s (0, (AB : Int)) (by rw [if_pos ⟨hp, Or.inl hb1⟩])
            have cch : ∀ (dd : Nat) (QQ : am_V → am_F → Prop), aw_cl dd 110 [(100, l), (0, (s : Int)), (0, -1)] g QQ = QQ (0, 1) g := fun dd QQ => by
              apply aw_det
              simp (disch := omega) [q110, r110_0, r110_1, r110_2, r110_5, r110_6, r110_7, r110_8, r110_9, r110_12, r110_13, r110_14, r110_15, r110_18, r110_20, r110_21, r110_23, r110_26, r110_27, r110_29, r110_32, r110_33, r110_36, r110_37, r110_40, r110_43, r110_44, r110_47, r110_48, cs_nil, cs_cons, lc_lt, lc_ge, lc_gt, lc_le, lc_eq]
            simpa (disch := omega) [q108, r108_0, r108_1, r108_4, r108_6, r108_7, r108_10, r108_11, r108_14, r108_16, r108_17, r108_18, r108_21, r108_23, r108_24, r108_25, r108_26, r108_29, r108_31, r108_32, r108_34, r108_35, r108_39, r108_40, r108_42, r108_45, r108_46, r108_49, r108_51, r108_53, r108_54, r108_55, r108_56, r108_58, r108_60, r108_61, r108_62, r108_64, r108_66, r108_68, r108_69, r108_72, r108_74, r108_76, r108_79, r108_80, r108_83, r108_85, r108_87, r108_89, r108_92, r108_95, r108_97, r108_99, r108_102, r108_105, r108_107, cs_nil, cs_cons, lc_lt, lc_ge, lc_gt, lc_le, lc_eq, en, hl0, esh, c1, ea, eb, eo, ebr, euse, hb1, cch, am_wid2, le_T, lt_T, le_F, lt_F] using this
          · obtain ⟨b', rfl⟩ : ∃ b' : Nat, b = b' := ⟨b.toNat, by omega⟩
            have cch := fun (dd : Nat) (QQ : am_V → am_F → Prop) => c_cheaper (d := dd) (Q := QQ) (s := s) (u := b') hC hT s256 (by omega)
            have hb1' : ¬ (b' : Int) = -1 := by omega
            by_cases hlt : lss L n s b' = true
            · have := step s (0, (AB : Int)) (by rw [if_pos ⟨hp, Or.inr (by rw [Int.toNat_natCast]; exact hlt)⟩])
              simpa (disch := omega) [q108, r108_0, r108_1, r108_4, r108_6, r108_7, r108_10, r108_11, r108_14, r108_16, r108_17, r108_18, r108_21, r108_23, r108_24, r108_25, r108_26, r108_29, r108_31, r108_32, r108_34, r108_35, r108_39, r108_40, r108_42, r108_45, r108_46, r108_49, r108_51, r108_53, r108_54, r108_55, r108_56, r108_58, r108_60, r108_61, r108_62, r108_64, r108_66, r108_68, r108_69, r108_72, r108_74, r108_76, r108_79, r108_80, r108_83, r108_85, r108_87, r108_89, r108_92, r108_95, r108_97, r108_99, r108_102, r108_105, r108_107, cs_nil, cs_cons, lc_lt, lc_ge, lc_gt, lc_le, lc_eq, en, hl0, esh, c1, ea, eb, eo, ebr, euse, cch, hlt, am_wid2, le_T, lt_T, le_F, lt_F] using this
            · have := step b' (0, (AB : Int)) (by rw [if_neg (fun q => q.2.elim hb1' (fun q => hlt (by rwa [Int.toNat_natCast] at q)))])
              simpa (disch := omega) [q108, r108_0, r108_1, r108_4, r108_6, r108_7, r108_10, r108_11, r108_14, r108_16, r108_17, r108_18, r108_21, r108_23, r108_24, r108_25, r108_26, r108_29, r108_31, r108_32, r108_34, r108_35, r108_39, r108_40, r108_42, r108_45, r108_46, r108_49, r108_51, r108_53, r108_54, r108_55, r108_56, r108_58, r108_60, r108_61, r108_62, r108_64, r108_66, r108_68, r108_69, r108_72, r108_74, r108_76, r108_79, r108_80, r108_83, r108_85, r108_87, r108_89, r108_92, r108_95, r108_97, r108_99, r108_102, r108_105, r108_107, cs_nil, cs_cons, lc_lt, lc_ge, lc_gt, lc_le, lc_eq, en, hl0, esh, c1, ea, eb, eo, ebr, euse, cch, hlt, am_wid2, le_T, lt_T, le_F, lt_F] using this
        · have hp : ¬ hsp L ρ z n use s = true := by rw [ehsp]; simp [hu]
          have := step b (0, (AB : Int)) (by rw [if_neg (fun q => hp q.1)])
          simpa (disch := omega) [q108, r108_0, r108_1, r108_4, r108_6, r108_7, r108_10, r108_11, r108_14, r108_16, r108_17, r108_18, r108_21, r108_23, r108_24, r108_25, r108_26, r108_29, r108_31, r108_32, r108_34, r108_35, r108_39, r108_40, r108_42, r108_45, r108_46, r108_49, r108_51, r108_53, r108_54, r108_55, r108_56, r108_58, r108_60, r108_61, r108_62, r108_64, r108_66, r108_68, r108_69, r108_72, r108_74, r108_76, r108_79, r108_80, r108_83, r108_85, r108_87, r108_89, r108_92, r108_95, r108_97, r108_99, r108_102, r108_105, r108_107, cs_nil, cs_cons, lc_lt, lc_ge, lc_gt, lc_le, lc_eq, en, hl0, esh, c1, ea, eb, eo, ebr, euse, am_wid2, le_T, lt_T, le_F, lt_F] using this
      · have hp : ¬ hsp L ρ z n use s = true := by rw [ehsp]; simp [h0]
        have := step b (0, (AB : Int)) (by rw [if_neg (fun q => hp q.1)])
        have h0' : ¬ ((s &&& BR : Nat) : Int) = 0 := by omega
        generalize ((s &&& BR : Nat) : Int) = SB at ebr h0'
        simpa (disch := omega) [q108, r108_0, r108_1, r108_4, r108_6, r108_7, r108_10, r108_11, r108_14, r108_16, r108_17, r108_18, r108_21, r108_23, r108_24, r108_25, r108_26, r108_29, r108_31, r108_32, r108_34, r108_35, r108_39, r108_40, r108_42, r108_45, r108_46, r108_49, r108_51, r108_53, r108_54, r108_55, r108_56, r108_58, r108_60, r108_61, r108_62, r108_64, r108_66, r108_68, r108_69, r108_72, r108_74, r108_76, r108_79, r108_80, r108_83, r108_85, r108_87, r108_89, r108_92, r108_95, r108_97, r108_99, r108_102, r108_105, r108_107, cs_nil, cs_cons, lc_lt, lc_ge, lc_gt, lc_le, lc_eq, en, hl0, esh, c1, ea, eb, eo, ebr, h0', am_wid2, le_T, lt_T, le_F, lt_F] using this
  have := key (2 ^ n) 0 (-1) (2, 0) (by omega) (Or.inl rfl) hq
  simpa [q108, r108_0, r108_1, r108_4, r108_6, r108_7, r108_10, r108_11, r108_14, r108_16, r108_17, r108_18, r108_21, r108_23, r108_24, r108_25, r108_26, r108_29, r108_31, r108_32, r108_34, r108_35, r108_39, r108_40, r108_42, r108_45, r108_46, r108_49, r108_51, r108_53, r108_54, r108_55, r108_56, r108_58, r108_60, r108_61, r108_62, r108_64, r108_66, r108_68, r108_69, r108_72, r108_74, r108_76, r108_79, r108_80, r108_83, r108_85, r108_87, r108_89, r108_92, r108_95, r108_97, r108_99, r108_102, r108_105, r108_107, cs_nil, cs_cons, lc_lt, lc_ge, lc_gt, lc_le, lc_eq] using this
theorem m_struck {s : Nat} (h : MB f n m r L ρ τ z) (h57 : f 270 57 = 1) (hm : 0 < m) (hs : s < 256) (h309 : ∀ j : Int, 0 ≤ j → j < 41 → f 309 j = f 308 j) (hQ : ∀ g, (∀ c j : Int, ¬ (c = 342 ∨ (c = 308 ∧ j < 0) ∨ (c = 270 ∧ (j = 50 ∨ j = 55 ∨ j = 98 ∨ j = 58))) → g c j = f c j) → Q (0, us (L 3) (bm (fun t => aSt L ρ (stk L ρ (fun t => s.testBit t) z n) (t : Int)) n) n) g) : aw_cl (d + 7) 259 [(110, 270), (0, (s : Int))] f Q := by
  have hn := h.2.2.1.1
  have key : ∀ (j t : Nat) (g : am_F), t + j = n → MB g n m r L ρ τ (stk L ρ (fun t => s.testBit t) z t) → g 270 57 = 1 → (∀ c j : Int, ¬ (c = 342 ∨ (c = 308 ∧ j ≤ 40) ∨ (c = 270 ∧ (j = 50 ∨ j = 55 ∨ j = 98 ∨ j = 58))) → g c j = f c j) → aw_wp (d + 7) 259 2 [(110, 270), (0, (s : Int)), (0, (t : Int))] [] g Q := by
    intro j
    induction j with
    | zero =>
      intro t g h1 h2 h3 h4
      obtain rfl : t = n := by omega
      have b1 : bm (fun u => aSt L ρ (stk L ρ (fun u => s.testBit u) z t) (u : Int)) t < 2147483648 := bm_31 (by omega)
      rw [r259_2]
      simp (disch := omega) [q259, r259_0, r259_1, r259_3, r259_4, r259_7, r259_10, r259_11, r259_12, r259_13, r259_14, r259_15, r259_18, r259_21, r259_22, r259_23, r259_26, r259_27, r259_28, r259_29, r259_32, r259_35, r259_38, r259_39, r259_40, r259_43, r259_46, r259_47, r259_48, r259_51, r259_52, q209, r209_0, r209_1, r209_4, r209_5, r209_6, cs_nil, cs_cons, lc_lt, lc_ge, lc_gt, lc_le, lc_eq, mfx_u h2.1.1, mb_m h2, ln_301]
      refine m_standSet h2 ?_
      intro g1 q1
      have hB1 := MB_fU h2 q1
      simp (disch := omega) [q259, r259_0, r259_1, r259_3, r259_4, r259_7, r259_10, r259_11, r259_12, r259_13, r259_14, r259_15, r259_18, r259_21, r259_22, r259_23, r259_26, r259_27, r259_28, r259_29, r259_32, r259_35, r259_38, r259_39, r259_40, r259_43, r259_46, r259_47, r259_48, r259_51, r259_52, cs_nil, cs_cons, lc_lt, lc_ge, lc_gt, lc_le, lc_eq, m_useBy hB1 b1]
      refine m_anew hB1.1.1 ?_
      intro k k1 k2 k3
      have := hQ k (fun c j hc => ?_)
      · simpa [q259, r259_0, r259_1, r259_3, r259_4, r259_7, r259_10, r259_11, r259_12, r259_13, r259_14, r259_15, r259_18, r259_21, r259_22, r259_23, r259_26, r259_27, r259_28, r259_29, r259_32, r259_35, r259_38, r259_39, r259_40, r259_43, r259_46, r259_47, r259_48, r259_51, r259_52, cs_nil, cs_cons, lc_lt, lc_ge, lc_gt, lc_le, lc_eq] using this
      · by_cases h8 : c = 308 ∧ j < 41
        · obtain ⟨rfl, hj⟩ := h8
          rw [k1 j (by omega) hj, q1 _ _ (by omega), h4 _ _ (by omega), h309 j (by omega) hj]
        · rw [k3 _ _ (by omega), q1 _ _ (by omega), h4 _ _ (by omega)]
    | succ j ih =>
      intro t g h1 h2 h3 h4
      have c1 : ¬ n ≤ t := by omega
      have bt := bit_n (a := s) (t := t) (by omega) (by omega)
      rw [r259_2]
      by_cases hb : s.testBit t = true
      · rw [if_pos hb] at bt
        have est : stk L ρ (fun t => s.testBit t) z (t + 1) = mnd L ρ (brk (stk L ρ (fun t => s.testBit t) z t) t) t 0 := by
          rw [stk, if_pos hb]
        simp (disch := omega) [q259, r259_0, r259_1, r259_3, r259_4, r259_7, r259_10, r259_11, r259_12, r259_13, r259_14, r259_15, r259_18, r259_21, r259_22, r259_23, r259_26, r259_27, r259_28, r259_29, r259_32, r259_35, r259_38, r259_39, r259_40, r259_43, r259_46, r259_47, r259_48, r259_51, r259_52, q209, r209_0, r209_1, r209_4, r209_5, r209_6, cs_nil, cs_cons, lc_lt, lc_ge, lc_gt, lc_le, lc_eq, mfx_u h2.1.1, mb_m h2, ln_301, c1, bt]
        refine m_break (b := 1) h2 h3 (Or.inr rfl) (fun q => by omega) (by omega) (by omega) ?_
        intro g1 q1 q2 q3 q4
        simp (disch := omega) [q259, r259_0, r259_1, r259_3, r259_4, r259_7, r259_10, r259_11, r259_12, r259_13, r259_14, r259_15, r259_18, r259_21, r259_22, r259_23, r259_26, r259_27, r259_28, r259_29, r259_32, r259_35, r259_38, r259_39, r259_40, r259_43, r259_46, r259_47, r259_48, r259_51, r259_52, cs_nil, cs_cons, lc_lt, lc_ge, lc_gt, lc_le, lc_eq]
        refine m_mendT (b := 1) q1 ((q4 _ _ (by omega)).trans h3) (Or.inr rfl) (fun q => by omega) (by omega) (by omega) (by omega) (by omega) ?_
        intro g2 w1 w2 w3 w4
        have := ih (t + 1) g2 (by omega) (by rw [est]; exact w1) (by rw [w4 _ _ (by omega), q4 _ _ (by omega)]; exact h3) (fun c j hc => by rw [w4 _ _ (by omega), q4 _ _ (by omega), h4 _ _ hc])
        rw [Int.natCast_add t] at this
        simpa (disch := omega) [q259, r259_0, r259_1, r259_3, r259_4, r259_7, r259_10, r259_11, r259_12, r259_13, r259_14, r259_15, r259_18, r259_21, r259_22, r259_23, r259_26, r259_27, r259_28, r259_29, r259_32, r259_35, r259_38, r259_39, r259_40, r259_43, r259_46, r259_47, r259_48, r259_51, r259_52, cs_nil, cs_cons, lc_lt, lc_ge, lc_gt, lc_le, lc_eq, am_wid2] using this
      · rw [if_neg hb] at bt
        have est : stk L ρ (fun t => s.testBit t) z (t + 1) = stk L ρ (fun t => s.testBit t) z t := by
          rw [stk, if_neg hb]
        have := ih (t + 1) g (by omega) (by rw [est]; exact h2) h3 h4
        rw [Int.natCast_add t] at this
        simpa (disch := omega) [q259, r259_0, r259_1, r259_3, r259_4, r259_7, r259_10, r259_11, r259_12, r259_13, r259_14, r259_15, r259_18, r259_21, r259_22, r259_23, r259_26, r259_27, r259_28, r259_29, r259_32, r259_35, r259_38, r259_39, r259_40, r259_43, r259_46, r259_47, r259_48, r259_51, r259_52, q209, r209_0, r209_1, r209_4, r209_5, r209_6, cs_nil, cs_cons, lc_lt, lc_ge, lc_gt, lc_le, lc_eq, mfx_u h2.1.1, mb_m h2, ln_301, c1, bt, am_wid2] using this
  have := key n 0 f (by omega) h h57 (fun _ _ _ => rfl)
  simpa [q259, r259_0, r259_1, r259_3, r259_4, r259_7, r259_10, r259_11, r259_12, r259_13, r259_14, r259_15, r259_18, r259_21, r259_22, r259_23, r259_26, r259_27, r259_28, r259_29, r259_32, r259_35, r259_38, r259_39, r259_40, r259_43, r259_46, r259_47, r259_48, r259_51, r259_52, cs_nil, cs_cons, lc_lt, lc_ge, lc_gt, lc_le, lc_eq] using this
theorem H_house (h : IW f n m r L ρ τ z l Z) {use w : Int} : HC d 107 256 [(0, use), (0, w)] 0 f := by
  unfold HC
  have hn := (iw_n h).1
  have hm4 := (iw_n h).2.1
  obtain ⟨aa, ⟨cb, cn⟩, ⟨mb, nm⟩, _⟩ := id h
  have hi := h.iv
  have hT := cb.2.2.2.1
  have hl := aa.2.2.1
  have hl0 : 0 ≤ l := by omega
  have h256 : 2 ^ n ≤ 2 ^ 8 := Nat.pow_le_pow_right (by omega) hn
  by_cases hu : 0 ≤ use ∧ use ≤ 999
  · by_cases hw : 0 ≤ w ∧ w ≤ 1
    · by_cases hm0 : m = 0
      · have hm0' : (m : Int) = 0 := by omega
        simp (disch := omega) [q107, r107_0, r107_1, r107_4, r107_5, r107_8, r107_11, r107_12, r107_15, r107_16, r107_17, r107_20, r107_21, r107_24, r107_27, r107_30, r107_33, r107_34, r107_35, r107_36, r107_39, r107_40, r107_43, r107_44, r107_47, r107_48, r107_51, r107_52, r107_53, r107_54, r107_57, r107_58, r107_59, r107_60, r107_63, r107_64, r107_67, r107_68, r107_71, r107_74, r107_75, r107_78, q256, r256_0, r256_1, r256_4, r256_7, r256_8, r256_9, r256_10, r256_13, r256_16, r256_19, r256_20, r256_21, r256_22, r256_23, r256_26, r256_29, r256_30, r256_31, r256_32, r256_33, r256_36, r256_37, r256_38, r256_40, r256_41, r256_44, r256_45, r256_49, r256_50, r256_51, r256_54, r256_55, r256_58, r256_60, r256_61, r256_62, r256_65, r256_67, r256_68, r256_71, r256_72, r256_74, r256_76, r256_79, r256_82, r256_85, r256_86, r256_88, r256_91, r256_92, r256_95, r256_97, r256_99, r256_102, r256_105, r256_106, r256_109, r256_111, r256_112, r256_115, r256_116, r256_119, r256_120, r256_123, r256_125, r256_128, r256_129, r256_131, r256_134, q233, r233_0, r233_1, r233_4, r233_5, r233_6, cs_nil, cs_cons, lc_lt, lc_ge, lc_gt, lc_le, lc_eq, c_fx aa.1, iw_l h, mfx_u mb.1.1, mb_m mb, ln_301, hm0, le_T, lt_T, le_F, lt_F, hi]
      · have hm0' : ¬ (m : Int) = 0 := by omega
        simp (disch := omega) [q107, r107_0, r107_1, r107_4, r107_5, r107_8, r107_11, r107_12, r107_15, r107_16, r107_17, r107_20, r107_21, r107_24, r107_27, r107_30, r107_33, r107_34, r107_35, r107_36, r107_39, r107_40, r107_43, r107_44, r107_47, r107_48, r107_51, r107_52, r107_53, r107_54, r107_57, r107_58, r107_59, r107_60, r107_63, r107_64, r107_67, r107_68, r107_71, r107_74, r107_75, r107_78, cs_nil, cs_cons, lc_lt, lc_ge, lc_gt, lc_le, lc_eq, c_fx aa.1, iw_l h, hm0, hm0', le_T, lt_T, le_F, lt_F]
        refine c_house (d := d + 31) cb cn (fx56 aa.1) (fx_40_0 aa.1) (by omega) ?_
        intro g1 a1 a2
        have g270 : ∀ c j : Int, 270 ≤ c → g1 c j = f c j := fun c j hc => a2 c j (by omega)
        have hB : MB g1 n m r L ρ τ z := MB_fr mb (fun c j _ _ => g270 _ _ (by omega)) (fun j _ => g270 _ _ (by omega))
        have hC1 : CL g1 l n m r L ρ := CL_fr cb.2.1 hT (fun c j _ _ => a2 _ _ (by omega))
        have b3 : bm (fun t => decide (z 1 (t : Int) = 1)) n < 256 := bm_8 hn
        have hsb := hsf_b (L := L) (ρ := ρ) (z := z) (n := n) (use := use) (2 ^ n) 0 (-1) (by omega) (Or.inl rfl)
        have fin : aw_cl (d + 40) 256 [(110, 270), (0, use), (0, w)] g1 (fun u f2 => u = (0, if hsf L ρ z n use (2 ^ n) 0 (-1) = -1 then -1 else if w = 0 then hsf L ρ z n use (2 ^ n) 0 (-1) else us (L 2) (hsf L ρ z n use (2 ^ n) 0 (-1)).toNat n) ∧ IV f2) := by
          simp (disch := omega) [q256, r256_0, r256_1, r256_4, r256_7, r256_8, r256_9, r256_10, r256_13, r256_16, r256_19, r256_20, r256_21, r256_22, r256_23, r256_26, r256_29, r256_30, r256_31, r256_32, r256_33, r256_36, r256_37, r256_38, r256_40, r256_41, r256_44, r256_45, r256_49, r256_50, r256_51, r256_54, r256_55, r256_58, r256_60, r256_61, r256_62, r256_65, r256_67, r256_68, r256_71, r256_72, r256_74, r256_76, r256_79, r256_82, r256_85, r256_86, r256_88, r256_91, r256_92, r256_95, r256_97, r256_99, r256_102, r256_105, r256_106, r256_109, r256_111, r256_112, r256_115, r256_116, r256_119, r256_120, r256_123, r256_125, r256_128, r256_129, r256_131, r256_134, q233, r233_0, r233_1, r233_4, r233_5, r233_6, cs_nil, cs_cons, lc_lt, lc_ge, lc_gt, lc_le, lc_eq, mfx_u hB.1.1, mb_m hB, ln_301, hm0, hm0', h_isIn, hu, hw, m_setOfZ hB]
          refine m_aside hB ?_
          intro k1 c1 c2 c3 c4 c5
          simp (disch := omega) [q256, r256_0, r256_1, r256_4, r256_7, r256_8, r256_9, r256_10, r256_13, r256_16, r256_19, r256_20, r256_21, r256_22, r256_23, r256_26, r256_29, r256_30, r256_31, r256_32, r256_33, r256_36, r256_37, r256_38, r256_40, r256_41, r256_44, r256_45, r256_49, r256_50, r256_51, r256_54, r256_55, r256_58, r256_60, r256_61, r256_62, r256_65, r256_67, r256_68, r256_71, r256_72, r256_74, r256_76, r256_79, r256_82, r256_85, r256_86, r256_88, r256_91, r256_92, r256_95, r256_97, r256_99, r256_102, r256_105, r256_106, r256_109, r256_111, r256_112, r256_115, r256_116, r256_119, r256_120, r256_123, r256_125, r256_128, r256_129, r256_131, r256_134, cs_nil, cs_cons, lc_lt, lc_ge, lc_gt, lc_le, lc_eq]
          have esh := shl_n (t := n) (by omega)
          have ehsf : ∀ (j s : Nat) (b : Int), hsf L ρ z n use (j + 1) s b = hsf L ρ z n use j (s + 1) (if hsp L ρ z n use s = true ∧ (b = -1 ∨ lss L n s b.toNat = true) then (s : Int) else b) := fun _ _ _ => rfl
          have ehsp : ∀ s : Nat, hsp L ρ z n use s = (decide (s &&& bm (fun t => decide (z 1 (t : Int) = 1)) n = 0) && decide (use ≤ us (L 3) (sts L ρ z n s) n)) := fun _ => rfl
          have ests : ∀ s : Nat, s &&& bm (fun t => decide (z 1 (t : Int) = 1)) n = 0 → bm (fun t => aSt L ρ (stk L ρ (fun t => s.testBit t) z n) (t : Int)) n = sts L ρ z n s := by
            intro s h0
            unfold sts
            refine bm_ext n (fun t ht => stk_St hT (fun u hun hb hz => ?_) ht)
            have := congrArg (fun x => x.testBit u) h0
            simp only [Nat.testBit_and, bm_bit, hb, Nat.zero_testBit] at this
            simp [hun, hz] at this
          generalize hBR : bm (fun t => decide (z 1 (t : Int) = 1)) n = BR at *
          have key : ∀ (j s : Nat) (b : Int) (g : am_F) (Q : am_V → am_F → Prop), s + j = 2 ^ n → (b = -1 ∨ (0 ≤ b ∧ b < s)) → (∀ c j : Int, ¬ (c = 342 ∨ (c = 308 ∧ j < 0) ∨ (c = 270 ∧ (j = 50 ∨ j = 55 ∨ j = 98 ∨ j = 58))) → g c j = k1 c j) → (∀ g' x, (∀ c j : Int, ¬ (c = 342 ∨ (c = 308 ∧ j < 0) ∨ (c = 270 ∧ (j = 50 ∨ j = 55 ∨ j = 98 ∨ j = 58))) → g' c j = k1 c j) → aw_wp (d + 40) 256 105 [(110, 270), (0, use), (0, w), (0, (BR : Int)), (0, hsf L ρ z n use j s b), x] [] g' Q) → aw_wp (d + 40) 256 47 [(110, 270), (0, use), (0, w), (0, (BR : Int)), (0, b), (0, (s : Int))] [] g Q := by
            have mbg : ∀ g : am_F, (∀ c j : Int, ¬ (c = 342 ∨ (c = 308 ∧ j < 0) ∨ (c = 270 ∧ (j = 50 ∨ j = 55 ∨ j = 98 ∨ j = 58))) → g c j = k1 c j) → MB g n m r L ρ τ z := fun g hg => ⟨ML_fr c1.1 (fun c j _ _ => hg _ _ (by omega)) (fun j _ => hg _ _ (by omega)), MZ_fr c1.2.1 hn (fun j _ _ => hg _ _ (by omega)) (fun j => hg _ _ (by omega)) (hg _ _ (by omega)) (hg _ _ (by omega)), c1.2.2.1, c1.2.2.2⟩
            intro j
            induction j with
            | zero =>
              intro s b g Q h1 hb hg hq
              have cc : ((2 ^ n : Nat) : Int) ≤ s := by omega
              have hBg := mbg g hg
              have := hq g (0, (s : Int)) hg
              generalize ((2 ^ n : Nat) : Int) = W at esh cc
              rw [r256_47]
              simpa (disch := omega) [r256_49, r256_50, r256_51, r256_54, r256_55, q209, r209_0, r209_1, r209_4, r209_5, r209_6, cs_nil, cs_cons, lc_lt, lc_ge, lc_gt, lc_le, lc_eq, mfx_u hBg.1.1, mb_m hBg, ln_301, esh, cc, hsf] using this
            | succ j ih =>
              intro s b g Q h1 hb hg hq
              have cc : ¬ ((2 ^ n : Nat) : Int) ≤ s := by omega
              have hBg := mbg g hg
              have s256 : s < 256 := by omega
              have ebr := an_n (a := s) (b := BR) (by omega) (by omega)
              rw [ehsf] at hq
              have step : ∀ (b' : Int) (g2 : am_F), b' = (if hsp L ρ z n use s = true ∧ (b = -1 ∨ lss L n s b.toNat = true) then (s : Int) else b) → (∀ c j : Int, ¬ (c = 342 ∨ (c = 308 ∧ j < 0) ∨ (c = 270 ∧ (j = 50 ∨ j = 55 ∨ j = 98 ∨ j = 58))) → g2 c j = k1 c j) → aw_wp (d + 40) 256 47 [(110, 270), (0, use), (0, w), (0, (BR : Int)), (0, b'), (0, (s : Int) + 1)] [] g2 Q := by
                intro b' g2 hb' hg2
                have := ih (s + 1) b' g2 Q (by omega) (by rw [hb']; split <;> omega) hg2 (by rw [hb']; exact hq)
                rw [Int.natCast_add s] at this
                exact this
              have try1 : s &&& BR = 0 → (b = -1 ∨ lss L n s b.toNat = true) → aw_wp (d + 40) 256 85 [(110, 270), (0, use), (0, w), (0, (BR : Int)), (0, b), (0, (s : Int))] [] g Q := by
                intro h0 hb2
                simp (disch := omega) [q256, r256_0, r256_1, r256_4, r256_7, r256_8, r256_9, r256_10, r256_13, r256_16, r256_19, r256_20, r256_21, r256_22, r256_23, r256_26, r256_29, r256_30, r256_31, r256_32, r256_33, r256_36, r256_37, r256_38, r256_40, r256_41, r256_44, r256_45, r256_49, r256_50, r256_51, r256_54, r256_55, r256_58, r256_60, r256_61, r256_62, r256_65, r256_67, r256_68, r256_71, r256_72, r256_74, r256_76, r256_79, r256_82, r256_85, r256_86, r256_88, r256_91, r256_92, r256_95, r256_97, r256_99, r256_102, r256_105, r256_106, r256_109, r256_111, r256_112, r256_115, r256_116, r256_119, r256_120, r256_123, r256_125, r256_128, r256_129, r256_131, r256_134, cs_nil, cs_cons, lc_lt, lc_ge, lc_gt, lc_le, lc_eq]
                refine m_struck (d := d + 32) hBg ((hg _ _ (by omega)).trans c2) (by omega) s256 (fun j p1 p2 => by rw [hg _ _ (by omega), hg _ _ (by omega), c4 j p1 p2, c5 _ _ (by omega)]) ?_
                intro g2 hg2
                rw [ests s h0]
                have hg3 : ∀ c j : Int, ¬ (c = 342 ∨ (c = 308 ∧ j < 0) ∨ (c = 270 ∧ (j = 50 ∨ j = 55 ∨ j = 98 ∨ j = 58))) → g2 c j = k1 c j := fun c j hc => (hg2 c j hc).trans (hg c j hc)
                by_cases hu2 : use ≤ us (L 3) (sts L ρ z n s) n
                · have hp : hsp L ρ z n use s = true := by rw [ehsp]; simp [h0, hu2]
                  have := step s g2 (by rw [if_pos ⟨hp, hb2⟩]) hg3
                  simpa (disch := omega) [q256, r256_0, r256_1, r256_4, r256_7, r256_8, r256_9, r256_10, r256_13, r256_16, r256_19, r256_20, r256_21, r256_22, r256_23, r256_26, r256_29, r256_30, r256_31, r256_32, r256_33, r256_36, r256_37, r256_38, r256_40, r256_41, r256_44, r256_45, r256_49, r256_50, r256_51, r256_54, r256_55, r256_58, r256_60, r256_61, r256_62, r256_65, r256_67, r256_68, r256_71, r256_72, r256_74, r256_76, r256_79, r256_82, r256_85, r256_86, r256_88, r256_91, r256_92, r256_95, r256_97, r256_99, r256_102, r256_105, r256_106, r256_109, r256_111, r256_112, r256_115, r256_116, r256_119, r256_120, r256_123, r256_125, r256_128, r256_129, r256_131, r256_134, cs_nil, cs_cons, lc_lt, lc_ge, lc_gt, lc_le, lc_eq, am_wid2, le_T, lt_T, le_F, lt_F] using this
                · have hp : ¬ hsp L ρ z n use s = true := by rw [ehsp]; simp [hu2]
                  have := step b g2 (by rw [if_neg (fun q => hp q.1)]) hg3
                  simpa (disch := omega) [q256, r256_0, r256_1, r256_4, r256_7, r256_8, r256_9, r256_10, r256_13, r256_16, r256_19, r256_20, r256_21, r256_22, r256_23, r256_26, r256_29, r256_30, r256_31, r256_32, r256_33, r256_36, r256_37, r256_38, r256_40, r256_41, r256_44, r256_45, r256_49, r256_50, r256_51, r256_54, r256_55, r256_58, r256_60, r256_61, r256_62, r256_65, r256_67, r256_68, r256_71, r256_72, r256_74, r256_76, r256_79, r256_82, r256_85, r256_86, r256_88, r256_91, r256_92, r256_95, r256_97, r256_99, r256_102, r256_105, r256_106, r256_109, r256_111, r256_112, r256_115, r256_116, r256_119, r256_120, r256_123, r256_125, r256_128, r256_129, r256_131, r256_134, cs_nil, cs_cons, lc_lt, lc_ge, lc_gt, lc_le, lc_eq, am_wid2, le_T, lt_T, le_F, lt_F] using this
              generalize hWW : ((2 ^ n : Nat) : Int) = W at esh cc
              rw [r256_47]
              by_cases h0 : s &&& BR = 0
              · have ebr0 := ebr
                rw [h0] at ebr0
                by_cases hb1 : b = -1
                · have := try1 h0 (Or.inl hb1)
                  rw [hb1] at this ⊢
                  simpa (disch := omega) [r256_49, r256_50, r256_51, r256_54, r256_55, r256_58, r256_60, r256_61, r256_62, r256_65, r256_67, r256_68, q209, r209_0, r209_1, r209_4, r209_5, r209_6, cs_nil, cs_cons, lc_lt, lc_ge, lc_gt, lc_le, lc_eq, mfx_u hBg.1.1, mb_m hBg, ln_301, esh, cc, ebr0] using this
                · obtain ⟨b', rfl⟩ : ∃ b' : Nat, b = b' := ⟨b.toNat, by omega⟩
                  have hls := fun (dd : Nat) (QQ : am_V → am_F → Prop) => m_less (d := dd) (Q := QQ) (s := s) (u := b') hBg s256 (by omega)
                  have hb1' : ¬ (b' : Int) = -1 := by omega
                  by_cases hlt : lss L n s b' = true
                  · have := try1 h0 (Or.inr (by rw [Int.toNat_natCast]; exact hlt))
                    simpa (disch := omega) [r256_49, r256_50, r256_51, r256_54, r256_55, r256_58, r256_60, r256_61, r256_62, r256_65, r256_67, r256_68, r256_71, r256_72, r256_74, r256_76, r256_79, q209, r209_0, r209_1, r209_4, r209_5, r209_6, cs_nil, cs_cons, lc_lt, lc_ge, lc_gt, lc_le, lc_eq, mfx_u hBg.1.1, mb_m hBg, ln_301, esh, cc, ebr0, hb1', hls, hlt] using this
                  · have := step b' g (by rw [if_neg (fun q => q.2.elim hb1' (fun q => hlt (by rwa [Int.toNat_natCast] at q)))]) hg
                    simpa (disch := omega) [q256, r256_0, r256_1, r256_4, r256_7, r256_8, r256_9, r256_10, r256_13, r256_16, r256_19, r256_20, r256_21, r256_22, r256_23, r256_26, r256_29, r256_30, r256_31, r256_32, r256_33, r256_36, r256_37, r256_38, r256_40, r256_41, r256_44, r256_45, r256_49, r256_50, r256_51, r256_54, r256_55, r256_58, r256_60, r256_61, r256_62, r256_65, r256_67, r256_68, r256_71, r256_72, r256_74, r256_76, r256_79, r256_82, r256_85, r256_86, r256_88, r256_91, r256_92, r256_95, r256_97, r256_99, r256_102, r256_105, r256_106, r256_109, r256_111, r256_112, r256_115, r256_116, r256_119, r256_120, r256_123, r256_125, r256_128, r256_129, r256_131, r256_134, q209, r209_0, r209_1, r209_4, r209_5, r209_6, cs_nil, cs_cons, lc_lt, lc_ge, lc_gt, lc_le, lc_eq, mfx_u hBg.1.1, mb_m hBg, ln_301, esh, cc, ebr0, hb1', hls, hlt, am_wid2] using this
              · have hp : ¬ hsp L ρ z n use s = true := by rw [ehsp]; simp [h0]
                have := step b g (by rw [if_neg (fun q => hp q.1)]) hg
                have h0' : ¬ ((s &&& BR : Nat) : Int) = 0 := by omega
                generalize ((s &&& BR : Nat) : Int) = SB at ebr h0'
                simpa (disch := omega) [q256, r256_0, r256_1, r256_4, r256_7, r256_8, r256_9, r256_10, r256_13, r256_16, r256_19, r256_20, r256_21, r256_22, r256_23, r256_26, r256_29, r256_30, r256_31, r256_32, r256_33, r256_36, r256_37, r256_38, r256_40, r256_41, r256_44, r256_45, r256_49, r256_50, r256_51, r256_54, r256_55, r256_58, r256_60, r256_61, r256_62, r256_65, r256_67, r256_68, r256_71, r256_72, r256_74, r256_76, r256_79, r256_82, r256_85, r256_86, r256_88, r256_91, r256_92, r256_95, r256_97, r256_99, r256_102, r256_105, r256_106, r256_109, r256_111, r256_112, r256_115, r256_116, r256_119, r256_120, r256_123, r256_125, r256_128, r256_129, r256_131, r256_134, q209, r209_0, r209_1, r209_4, r209_5, r209_6, cs_nil, cs_cons, lc_lt, lc_ge, lc_gt, lc_le, lc_eq, mfx_u hBg.1.1, mb_m hBg, ln_301, esh, cc, ebr, h0', am_wid2] using this
          refine key (2 ^ n) 0 (-1) k1 _ (by omega) (Or.inl rfl) (fun _ _ _ => rfl) ?_
          intro g2 x hg2
          obtain ⟨tx, vx⟩ := x
          generalize hR : hsf L ρ z n use (2 ^ n) 0 (-1) = R at *
          simp (disch := omega) [q256, r256_0, r256_1, r256_4, r256_7, r256_8, r256_9, r256_10, r256_13, r256_16, r256_19, r256_20, r256_21, r256_22, r256_23, r256_26, r256_29, r256_30, r256_31, r256_32, r256_33, r256_36, r256_37, r256_38, r256_40, r256_41, r256_44, r256_45, r256_49, r256_50, r256_51, r256_54, r256_55, r256_58, r256_60, r256_61, r256_62, r256_65, r256_67, r256_68, r256_71, r256_72, r256_74, r256_76, r256_79, r256_82, r256_85, r256_86, r256_88, r256_91, r256_92, r256_95, r256_97, r256_99, r256_102, r256_105, r256_106, r256_109, r256_111, r256_112, r256_115, r256_116, r256_119, r256_120, r256_123, r256_125, r256_128, r256_129, r256_131, r256_134, cs_nil, cs_cons, lc_lt, lc_ge, lc_gt, lc_le, lc_eq]
          refine m_back (mfx_fr c1.1.1 (fun j _ => hg2 _ _ (by omega))) ?_
          intro k2 i1 i2 i3
          have hs := m_same (l := l) (f := f) (g := g1) (g1 := k1) (g2 := g2) (k := k2) aa.2.2.2.2.1 c4 c5 (fun c j hc => hg2 c j (by omega)) i1 i2 i3 (g270 _ _ (by omega))
          have hv := (IW_sp h (fun c j hc => a2 c j (by omega)) a1 hs).iv
          have hB2 : MB k2 n m r L ρ τ z := by
            have := (IW_sp h (fun c j hc => a2 c j (by omega)) a1 hs).2.2.1.1
            exact this
          by_cases hR1 : R = -1
          · simp (disch := omega) [q256, r256_0, r256_1, r256_4, r256_7, r256_8, r256_9, r256_10, r256_13, r256_16, r256_19, r256_20, r256_21, r256_22, r256_23, r256_26, r256_29, r256_30, r256_31, r256_32, r256_33, r256_36, r256_37, r256_38, r256_40, r256_41, r256_44, r256_45, r256_49, r256_50, r256_51, r256_54, r256_55, r256_58, r256_60, r256_61, r256_62, r256_65, r256_67, r256_68, r256_71, r256_72, r256_74, r256_76, r256_79, r256_82, r256_85, r256_86, r256_88, r256_91, r256_92, r256_95, r256_97, r256_99, r256_102, r256_105, r256_106, r256_109, r256_111, r256_112, r256_115, r256_116, r256_119, r256_120, r256_123, r256_125, r256_128, r256_129, r256_131, r256_134, cs_nil, cs_cons, lc_lt, lc_ge, lc_gt, lc_le, lc_eq, hR1, hv]
          · obtain ⟨R', rfl⟩ : ∃ R' : Nat, R = R' := ⟨R.toNat, by omega⟩
            have hR1' : ¬ (R' : Int) = -1 := by omega
            by_cases w0 : w = 0
            · simp (disch := omega) [q256, r256_0, r256_1, r256_4, r256_7, r256_8, r256_9, r256_10, r256_13, r256_16, r256_19, r256_20, r256_21, r256_22, r256_23, r256_26, r256_29, r256_30, r256_31, r256_32, r256_33, r256_36, r256_37, r256_38, r256_40, r256_41, r256_44, r256_45, r256_49, r256_50, r256_51, r256_54, r256_55, r256_58, r256_60, r256_61, r256_62, r256_65, r256_67, r256_68, r256_71, r256_72, r256_74, r256_76, r256_79, r256_82, r256_85, r256_86, r256_88, r256_91, r256_92, r256_95, r256_97, r256_99, r256_102, r256_105, r256_106, r256_109, r256_111, r256_112, r256_115, r256_116, r256_119, r256_120, r256_123, r256_125, r256_128, r256_129, r256_131, r256_134, cs_nil, cs_cons, lc_lt, lc_ge, lc_gt, lc_le, lc_eq, hR1', w0, hv]
            · simp (disch := omega) [q256, r256_0, r256_1, r256_4, r256_7, r256_8, r256_9, r256_10, r256_13, r256_16, r256_19, r256_20, r256_21, r256_22, r256_23, r256_26, r256_29, r256_30, r256_31, r256_32, r256_33, r256_36, r256_37, r256_38, r256_40, r256_41, r256_44, r256_45, r256_49, r256_50, r256_51, r256_54, r256_55, r256_58, r256_60, r256_61, r256_62, r256_65, r256_67, r256_68, r256_71, r256_72, r256_74, r256_76, r256_79, r256_82, r256_85, r256_86, r256_88, r256_91, r256_92, r256_95, r256_97, r256_99, r256_102, r256_105, r256_106, r256_109, r256_111, r256_112, r256_115, r256_116, r256_119, r256_120, r256_123, r256_125, r256_128, r256_129, r256_131, r256_134, cs_nil, cs_cons, lc_lt, lc_ge, lc_gt, lc_le, lc_eq, hR1', w0, hv, m_worthBy hB2]
        generalize hR : hsf L ρ z n use (2 ^ n) 0 (-1) = R at *
        by_cases hR1 : R = -1
        · rw [if_pos hR1] at fin
          simp (disch := omega) [q107, r107_0, r107_1, r107_4, r107_5, r107_8, r107_11, r107_12, r107_15, r107_16, r107_17, r107_20, r107_21, r107_24, r107_27, r107_30, r107_33, r107_34, r107_35, r107_36, r107_39, r107_40, r107_43, r107_44, r107_47, r107_48, r107_51, r107_52, r107_53, r107_54, r107_57, r107_58, r107_59, r107_60, r107_63, r107_64, r107_67, r107_68, r107_71, r107_74, r107_75, r107_78, cs_nil, cs_cons, lc_lt, lc_ge, lc_gt, lc_le, lc_eq, hR1]
          exact fin
        · obtain ⟨R', rfl⟩ : ∃ R' : Nat, R = R' := ⟨R.toNat, by omega⟩
          have hR1' : ¬ (R' : Int) = -1 := by omega
          rw [if_neg hR1] at fin
          by_cases w0 : w = 0
          · rw [if_pos w0] at fin
            simp (disch := omega) [q107, r107_0, r107_1, r107_4, r107_5, r107_8, r107_11, r107_12, r107_15, r107_16, r107_17, r107_20, r107_21, r107_24, r107_27, r107_30, r107_33, r107_34, r107_35, r107_36, r107_39, r107_40, r107_43, r107_44, r107_47, r107_48, r107_51, r107_52, r107_53, r107_54, r107_57, r107_58, r107_59, r107_60, r107_63, r107_64, r107_67, r107_68, r107_71, r107_74, r107_75, r107_78, cs_nil, cs_cons, lc_lt, lc_ge, lc_gt, lc_le, lc_eq, hR1', w0]
            rw [w0] at fin
            exact fin
          · rw [if_neg w0, Int.toNat_natCast] at fin
            have y6 : g1 0 6 = 46 := (a2 _ _ (by omega)).trans (fx_0_6 aa.1)
            have y9 : g1 46 9 = l := (a2 _ _ (by omega)).trans (iw_l h).2.1
            simp (disch := omega) [q107, r107_0, r107_1, r107_4, r107_5, r107_8, r107_11, r107_12, r107_15, r107_16, r107_17, r107_20, r107_21, r107_24, r107_27, r107_30, r107_33, r107_34, r107_35, r107_36, r107_39, r107_40, r107_43, r107_44, r107_47, r107_48, r107_51, r107_52, r107_53, r107_54, r107_57, r107_58, r107_59, r107_60, r107_63, r107_64, r107_67, r107_68, r107_71, r107_74, r107_75, r107_78, cs_nil, cs_cons, lc_lt, lc_ge, lc_gt, lc_le, lc_eq, hR1', w0, y6, y9, hl0, c_worthOf hC1 hT]
            exact fin
    · rcases (show w < 0 ∨ 1 < w by omega) with hw' | hw'
      · by_cases hm0 : m = 0
        · simp (disch := omega) [q107, r107_0, r107_1, r107_4, r107_5, r107_8, r107_11, r107_12, r107_15, r107_16, r107_17, r107_20, r107_21, r107_24, r107_27, r107_30, r107_33, r107_34, r107_35, r107_36, r107_39, r107_40, r107_43, r107_44, r107_47, r107_48, r107_51, r107_52, r107_53, r107_54, r107_57, r107_58, r107_59, r107_60, r107_63, r107_64, r107_67, r107_68, r107_71, r107_74, r107_75, r107_78, q256, r256_0, r256_1, r256_4, r256_7, r256_8, r256_9, r256_10, r256_13, r256_16, r256_19, r256_20, r256_21, r256_22, r256_23, r256_26, r256_29, r256_30, r256_31, r256_32, r256_33, r256_36, r256_37, r256_38, r256_40, r256_41, r256_44, r256_45, r256_49, r256_50, r256_51, r256_54, r256_55, r256_58, r256_60, r256_61, r256_62, r256_65, r256_67, r256_68, r256_71, r256_72, r256_74, r256_76, r256_79, r256_82, r256_85, r256_86, r256_88, r256_91, r256_92, r256_95, r256_97, r256_99, r256_102, r256_105, r256_106, r256_109, r256_111, r256_112, r256_115, r256_116, r256_119, r256_120, r256_123, r256_125, r256_128, r256_129, r256_131, r256_134, q233, r233_0, r233_1, r233_4, r233_5, r233_6, cs_nil, cs_cons, lc_lt, lc_ge, lc_gt, lc_le, lc_eq, mfx_u mb.1.1, mb_m mb, ln_301, hm0, le_T, lt_T, le_F, lt_F, hi]
        · have hm0' : ¬ (m : Int) = 0 := by omega
          simp (disch := omega) [q107, r107_0, r107_1, r107_4, r107_5, r107_8, r107_11, r107_12, r107_15, r107_16, r107_17, r107_20, r107_21, r107_24, r107_27, r107_30, r107_33, r107_34, r107_35, r107_36, r107_39, r107_40, r107_43, r107_44, r107_47, r107_48, r107_51, r107_52, r107_53, r107_54, r107_57, r107_58, r107_59, r107_60, r107_63, r107_64, r107_67, r107_68, r107_71, r107_74, r107_75, r107_78, q256, r256_0, r256_1, r256_4, r256_7, r256_8, r256_9, r256_10, r256_13, r256_16, r256_19, r256_20, r256_21, r256_22, r256_23, r256_26, r256_29, r256_30, r256_31, r256_32, r256_33, r256_36, r256_37, r256_38, r256_40, r256_41, r256_44, r256_45, r256_49, r256_50, r256_51, r256_54, r256_55, r256_58, r256_60, r256_61, r256_62, r256_65, r256_67, r256_68, r256_71, r256_72, r256_74, r256_76, r256_79, r256_82, r256_85, r256_86, r256_88, r256_91, r256_92, r256_95, r256_97, r256_99, r256_102, r256_105, r256_106, r256_109, r256_111, r256_112, r256_115, r256_116, r256_119, r256_120, r256_123, r256_125, r256_128, r256_129, r256_131, r256_134, q233, r233_0, r233_1, r233_4, r233_5, r233_6, cs_nil, cs_cons, lc_lt, lc_ge, lc_gt, lc_le, lc_eq, mfx_u mb.1.1, mb_m mb, ln_301, hm0, hm0', h_isIn, le_T, lt_T, le_F, lt_F, hi]
      · by_cases hm0 : m = 0
        · simp (disch := omega) [q107, r107_0, r107_1, r107_4, r107_5, r107_8, r107_11, r107_12, r107_15, r107_16, r107_17, r107_20, r107_21, r107_24, r107_27, r107_30, r107_33, r107_34, r107_35, r107_36, r107_39, r107_40, r107_43, r107_44, r107_47, r107_48, r107_51, r107_52, r107_53, r107_54, r107_57, r107_58, r107_59, r107_60, r107_63, r107_64, r107_67, r107_68, r107_71, r107_74, r107_75, r107_78, q256, r256_0, r256_1, r256_4, r256_7, r256_8, r256_9, r256_10, r256_13, r256_16, r256_19, r256_20, r256_21, r256_22, r256_23, r256_26, r256_29, r256_30, r256_31, r256_32, r256_33, r256_36, r256_37, r256_38, r256_40, r256_41, r256_44, r256_45, r256_49, r256_50, r256_51, r256_54, r256_55, r256_58, r256_60, r256_61, r256_62, r256_65, r256_67, r256_68, r256_71, r256_72, r256_74, r256_76, r256_79, r256_82, r256_85, r256_86, r256_88, r256_91, r256_92, r256_95, r256_97, r256_99, r256_102, r256_105, r256_106, r256_109, r256_111, r256_112, r256_115, r256_116, r256_119, r256_120, r256_123, r256_125, r256_128, r256_129, r256_131, r256_134, q233, r233_0, r233_1, r233_4, r233_5, r233_6, cs_nil, cs_cons, lc_lt, lc_ge, lc_gt, lc_le, lc_eq, mfx_u mb.1.1, mb_m mb, ln_301, hm0, le_T, lt_T, le_F, lt_F, hi]
        · have hm0' : ¬ (m : Int) = 0 := by omega
          simp (disch := omega) [q107, r107_0, r107_1, r107_4, r107_5, r107_8, r107_11, r107_12, r107_15, r107_16, r107_17, r107_20, r107_21, r107_24, r107_27, r107_30, r107_33, r107_34, r107_35, r107_36, r107_39, r107_40, r107_43, r107_44, r107_47, r107_48, r107_51, r107_52, r107_53, r107_54, r107_57, r107_58, r107_59, r107_60, r107_63, r107_64, r107_67, r107_68, r107_71, r107_74, r107_75, r107_78, q256, r256_0, r256_1, r256_4, r256_7, r256_8, r256_9, r256_10, r256_13, r256_16, r256_19, r256_20, r256_21, r256_22, r256_23, r256_26, r256_29, r256_30, r256_31, r256_32, r256_33, r256_36, r256_37, r256_38, r256_40, r256_41, r256_44, r256_45, r256_49, r256_50, r256_51, r256_54, r256_55, r256_58, r256_60, r256_61, r256_62, r256_65, r256_67, r256_68, r256_71, r256_72, r256_74, r256_76, r256_79, r256_82, r256_85, r256_86, r256_88, r256_91, r256_92, r256_95, r256_97, r256_99, r256_102, r256_105, r256_106, r256_109, r256_111, r256_112, r256_115, r256_116, r256_119, r256_120, r256_123, r256_125, r256_128, r256_129, r256_131, r256_134, q233, r233_0, r233_1, r233_4, r233_5, r233_6, cs_nil, cs_cons, lc_lt, lc_ge, lc_gt, lc_le, lc_eq, mfx_u mb.1.1, mb_m mb, ln_301, hm0, hm0', h_isIn, le_T, lt_T, le_F, lt_F, hi]
  · rcases (show use < 0 ∨ 999 < use by omega) with hw' | hw'
    · by_cases hm0 : m = 0
      · simp (disch := omega) [q107, r107_0, r107_1, r107_4, r107_5, r107_8, r107_11, r107_12, r107_15, r107_16, r107_17, r107_20, r107_21, r107_24, r107_27, r107_30, r107_33, r107_34, r107_35, r107_36, r107_39, r107_40, r107_43, r107_44, r107_47, r107_48, r107_51, r107_52, r107_53, r107_54, r107_57, r107_58, r107_59, r107_60, r107_63, r107_64, r107_67, r107_68, r107_71, r107_74, r107_75, r107_78, q256, r256_0, r256_1, r256_4, r256_7, r256_8, r256_9, r256_10, r256_13, r256_16, r256_19, r256_20, r256_21, r256_22, r256_23, r256_26, r256_29, r256_30, r256_31, r256_32, r256_33, r256_36, r256_37, r256_38, r256_40, r256_41, r256_44, r256_45, r256_49, r256_50, r256_51, r256_54, r256_55, r256_58, r256_60, r256_61, r256_62, r256_65, r256_67, r256_68, r256_71, r256_72, r256_74, r256_76, r256_79, r256_82, r256_85, r256_86, r256_88, r256_91, r256_92, r256_95, r256_97, r256_99, r256_102, r256_105, r256_106, r256_109, r256_111, r256_112, r256_115, r256_116, r256_119, r256_120, r256_123, r256_125, r256_128, r256_129, r256_131, r256_134, q233, r233_0, r233_1, r233_4, r233_5, r233_6, cs_nil, cs_cons, lc_lt, lc_ge, lc_gt, lc_le, lc_eq, mfx_u mb.1.1, mb_m mb, ln_301, hm0, le_T, lt_T, le_F, lt_F, hi]
      · have hm0' : ¬ (m : Int) = 0 := by omega
        simp (disch := omega) [q107, r107_0, r107_1, r107_4, r107_5, r107_8, r107_11, r107_12, r107_15, r107_16, r107_17, r107_20, r107_21, r107_24, r107_27, r107_30, r107_33, r107_34, r107_35, r107_36, r107_39, r107_40, r107_43, r107_44, r107_47, r107_48, r107_51, r107_52, r107_53, r107_54, r107_57, r107_58, r107_59, r107_60, r107_63, r107_64, r107_67, r107_68, r107_71, r107_74, r107_75, r107_78, q256, r256_0, r256_1, r256_4, r256_7, r256_8, r256_9, r256_10, r256_13, r256_16, r256_19, r256_20, r256_21, r256_22, r256_23, r256_26, r256_29, r256_30, r256_31, r256_32, r256_33, r256_36, r256_37, r256_38, r256_40, r256_41, r256_44, r256_45, r256_49, r256_50, r256_51, r256_54, r256_55, r256_58, r256_60, r256_61, r256_62, r256_65, r256_67, r256_68, r256_71, r256_72, r256_74, r256_76, r256_79, r256_82, r256_85, r256_86, r256_88, r256_91, r256_92, r256_95, r256_97, r256_99, r256_102, r256_105, r256_106, r256_109, r256_111, r256_112, r256_115, r256_116, r256_119, r256_120, r256_123, r256_125, r256_128, r256_129, r256_131, r256_134, q233, r233_0, r233_1, r233_4, r233_5, r233_6, cs_nil, cs_cons, lc_lt, lc_ge, lc_gt, lc_le, lc_eq, mfx_u mb.1.1, mb_m mb, ln_301, hm0, hm0', h_isIn, le_T, lt_T, le_F, lt_F, hi]
    · by_cases hm0 : m = 0
      · simp (disch := omega) [q107, r107_0, r107_1, r107_4, r107_5, r107_8, r107_11, r107_12, r107_15, r107_16, r107_17, r107_20, r107_21, r107_24, r107_27, r107_30, r107_33, r107_34, r107_35, r107_36, r107_39, r107_40, r107_43, r107_44, r107_47, r107_48, r107_51, r107_52, r107_53, r107_54, r107_57, r107_58, r107_59, r107_60, r107_63, r107_64, r107_67, r107_68, r107_71, r107_74, r107_75, r107_78, q256, r256_0, r256_1, r256_4, r256_7, r256_8, r256_9, r256_10, r256_13, r256_16, r256_19, r256_20, r256_21, r256_22, r256_23, r256_26, r256_29, r256_30, r256_31, r256_32, r256_33, r256_36, r256_37, r256_38, r256_40, r256_41, r256_44, r256_45, r256_49, r256_50, r256_51, r256_54, r256_55, r256_58, r256_60, r256_61, r256_62, r256_65, r256_67, r256_68, r256_71, r256_72, r256_74, r256_76, r256_79, r256_82, r256_85, r256_86, r256_88, r256_91, r256_92, r256_95, r256_97, r256_99, r256_102, r256_105, r256_106, r256_109, r256_111, r256_112, r256_115, r256_116, r256_119, r256_120, r256_123, r256_125, r256_128, r256_129, r256_131, r256_134, q233, r233_0, r233_1, r233_4, r233_5, r233_6, cs_nil, cs_cons, lc_lt, lc_ge, lc_gt, lc_le, lc_eq, mfx_u mb.1.1, mb_m mb, ln_301, hm0, le_T, lt_T, le_F, lt_F, hi]
      · have hm0' : ¬ (m : Int) = 0 := by omega
        simp (disch := omega) [q107, r107_0, r107_1, r107_4, r107_5, r107_8, r107_11, r107_12, r107_15, r107_16, r107_17, r107_20, r107_21, r107_24, r107_27, r107_30, r107_33, r107_34, r107_35, r107_36, r107_39, r107_40, r107_43, r107_44, r107_47, r107_48, r107_51, r107_52, r107_53, r107_54, r107_57, r107_58, r107_59, r107_60, r107_63, r107_64, r107_67, r107_68, r107_71, r107_74, r107_75, r107_78, q256, r256_0, r256_1, r256_4, r256_7, r256_8, r256_9, r256_10, r256_13, r256_16, r256_19, r256_20, r256_21, r256_22, r256_23, r256_26, r256_29, r256_30, r256_31, r256_32, r256_33, r256_36, r256_37, r256_38, r256_40, r256_41, r256_44, r256_45, r256_49, r256_50, r256_51, r256_54, r256_55, r256_58, r256_60, r256_61, r256_62, r256_65, r256_67, r256_68, r256_71, r256_72, r256_74, r256_76, r256_79, r256_82, r256_85, r256_86, r256_88, r256_91, r256_92, r256_95, r256_97, r256_99, r256_102, r256_105, r256_106, r256_109, r256_111, r256_112, r256_115, r256_116, r256_119, r256_120, r256_123, r256_125, r256_128, r256_129, r256_131, r256_134, q233, r233_0, r233_1, r233_4, r233_5, r233_6, cs_nil, cs_cons, lc_lt, lc_ge, lc_gt, lc_le, lc_eq, mfx_u mb.1.1, mb_m mb, ln_301, hm0, hm0', h_isIn, le_T, lt_T, le_F, lt_F, hi]
end
