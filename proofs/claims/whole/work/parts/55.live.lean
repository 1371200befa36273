/-! the class's day -/
theorem aH_cg {n m r : Nat} {L z z' : am_F} {ρ : Int → List Int} {t k : Int} (hT : TW n m r L ρ) (hz : ∀ i, 1 ≤ i → i ≤ 6 → z i t = z' i t) (hd : z 0 0 = z' 0 0) : aH L ρ z t k = aH L ρ z' t k := by
  unfold aH
  rw [V_cg hT (by omega) hz hd (fun _ => rfl)]
theorem c_first {d n m r : Nat} {f L z : am_F} {Q : am_V → am_F → Prop} {a l t : Int} {ρ : Int → List Int} {H left : Int → Int} (h : CB f a l n m r L ρ z) (h0 : 0 ≤ t) (h1 : t < n) (h38 : ∀ k : Int, 0 ≤ k → k < m → f 38 (t * 4 + k) = H k) (h39 : ∀ k : Int, 0 ≤ k → k < m → f 39 k = left k) : aw_cl d 104 [(101, 36), (107, a), (0, t)] f Q = Q (0, who H left m) f := by
  obtain ⟨hx, hl, hz, hT, ho⟩ := h
  have hS := hz.1
  have hL := hl.1
  have hla := hz.2.2.1
  have hm := hl.2.2.1.2.1
  have hm4 := hT.2.1
  have hn8 := hT.1
  have key : ∀ j k : Nat, k + j = m → aw_wp d 104 2 [(101, 36), (107, a), (0, t), (0, (k : Int))] [] f (fun v f1 => v = (0, whoF H left j k) ∧ f1 = f) := by
    intro j
    induction j with
    | zero =>
      intro k hk
      obtain rfl : k = m := by omega
      rw [r104_2]
      simp [q104, r104_0, r104_1, r104_3, r104_4, r104_7, r104_10, r104_13, r104_14, r104_17, r104_18, r104_19, r104_20, r104_23, r104_24, r104_25, r104_26, r104_27, r104_28, r104_29, r104_32, r104_33, r104_34, r104_37, r104_40, r104_41, cs_nil, cs_cons, lc_lt, lc_ge, lc_gt, lc_le, lc_eq, sS_u hS, sL_u hL, hla, hm, whoF]
    | succ j ih =>
      intro k hk
      have ih' := ih (k + 1) (by omega)
      have c1 : ¬ m ≤ k := by omega
      have c2 : (k : Int) < 4 := by omega
      have c3 : (0 : Int) ≤ t * 4 + k ∧ t * 4 + k < 32 := by omega
      have e1 := h38 k (by omega) (by omega)
      have e2 := h39 k (by omega) (by omega)
      rw [r104_2]
      by_cases hq : H k ≤ left k
      · have hq' : ¬ left k < H k := by omega
        simp (disch := omega) [q104, r104_0, r104_1, r104_3, r104_4, r104_7, r104_10, r104_13, r104_14, r104_17, r104_18, r104_19, r104_20, r104_23, r104_24, r104_25, r104_26, r104_27, r104_28, r104_29, r104_32, r104_33, r104_34, r104_37, r104_40, r104_41, cs_nil, cs_cons, lc_lt, lc_ge, lc_gt, lc_le, lc_eq, hx, sS_u hS, sL_u hL, hla, hm, ln_38, ln_39, c1, c2, c3, e1, e2, hq, hq', whoF, am_wid2]
      · have hq' : left k < H k := by omega
        simpa (disch := omega) [q104, r104_0, r104_1, r104_3, r104_4, r104_7, r104_10, r104_13, r104_14, r104_17, r104_18, r104_19, r104_20, r104_23, r104_24, r104_25, r104_26, r104_27, r104_28, r104_29, r104_32, r104_33, r104_34, r104_37, r104_40, r104_41, cs_nil, cs_cons, lc_lt, lc_ge, lc_gt, lc_le, lc_eq, hx, sS_u hS, sL_u hL, hla, hm, ln_38, ln_39, c1, c2, c3, e1, e2, hq, hq', whoF, am_wid2] using ih'
  apply aw_det
  have := key m 0 (by omega)
  simpa [q104, r104_0, r104_1, r104_3, r104_4, r104_7, r104_10, r104_13, r104_14, r104_17, r104_18, r104_19, r104_20, r104_23, r104_24, r104_25, r104_26, r104_27, r104_28, r104_29, r104_32, r104_33, r104_34, r104_37, r104_40, r104_41, cs_nil, cs_cons, lc_lt, lc_ge, lc_gt, lc_le, lc_eq, who] using this
theorem c_next {d n m r : Nat} {f L z : am_F} {Q : am_V → am_F → Prop} {a l : Int} {ρ : Int → List Int} {left : Int → Int} (h : CB f a l n m r L ρ z) (hR : CR f L ρ z m left n) : aw_cl (d + 1) 103 [(101, 36), (107, a)] f Q = Q (0, pick L ρ z left n m) f := by
  obtain ⟨hx, hl, hz, hT, ho⟩ := id h
  have hS := hz.1
  have hL := hl.1
  have hla := hz.2.2.1
  have hn := hl.2.2.1.1
  have hn8 := hT.1
  have key : ∀ j t : Nat, ∀ b : Int, t + j = n → (b = -1 ∨ (0 ≤ b ∧ b < n ∧ aB L ρ z left m b = true)) → aw_wp (d + 1) 103 4 [(101, 36), (107, a), (0, b), (0, (t : Int))] [] f (fun v f1 => v = (0, pkF (aB L ρ z left m) (fun t => V L ρ z t 0 4) j t b) ∧ f1 = f) := by
    intro j
    induction j with
    | zero =>
      intro t b ht hb
      obtain rfl : t = n := by omega
      rw [r103_4]
      simp [q103, r103_0, r103_1, r103_2, r103_3, r103_5, r103_6, r103_9, r103_12, r103_15, r103_16, r103_19, r103_20, r103_21, r103_22, r103_25, r103_26, r103_27, r103_28, r103_31, r103_32, r103_35, r103_36, r103_37, r103_40, r103_41, r103_44, r103_45, r103_46, r103_47, r103_50, r103_51, r103_52, r103_55, r103_56, r103_57, r103_60, r103_63, r103_64, cs_nil, cs_cons, lc_lt, lc_ge, lc_gt, lc_le, lc_eq, sS_u hS, sL_u hL, hla, hn, pkF]
    | succ j ih =>
      intro t b ht hb
      have c1 : ¬ n ≤ t := by omega
      have c2 : (t : Int) < 8 := by omega
      have hw : f (a + 1) (t : Int) = z 1 t := hz.2.2.2.2 1 t (by omega) (by omega) (by omega) (by omega)
      rw [r103_4]
      unfold pkF
      by_cases hp : z 1 (t : Int) = 1
      · have hf := fun Q => c_first (d := d) (Q := Q) h (t := (t : Int)) (by omega) (by omega) (hR.1 t (by omega) (by omega) hp).2 hR.2
        have e37 := (hR.1 t (by omega) (by omega) hp).1
        by_cases hq : who (aH L ρ z t) left m = -1
        · have eB : ¬ aB L ρ z left m t = true := by unfold aB; simp [hq]
          have ih' := ih (t + 1) b (by omega) hb
          rw [if_neg (fun q => eB q.1)]
          simpa (disch := omega) [q103, r103_0, r103_1, r103_2, r103_3, r103_5, r103_6, r103_9, r103_12, r103_15, r103_16, r103_19, r103_20, r103_21, r103_22, r103_25, r103_26, r103_27, r103_28, r103_31, r103_32, r103_35, r103_36, r103_37, r103_40, r103_41, r103_44, r103_45, r103_46, r103_47, r103_50, r103_51, r103_52, r103_55, r103_56, r103_57, r103_60, r103_63, r103_64, cs_nil, cs_cons, lc_lt, lc_ge, lc_gt, lc_le, lc_eq, hx, sS_u hS, sL_u hL, hla, hn, c1, c2, hw, hp, hf, hq, am_wid2] using ih'
        · have eB : aB L ρ z left m t = true := by unfold aB; simp [hq, hp]
          by_cases hb1 : b = -1
          · have ih' := ih (t + 1) t (by omega) (Or.inr ⟨by omega, by omega, eB⟩)
            rw [if_pos ⟨eB, Or.inl hb1⟩]
            simpa (disch := omega) [q103, r103_0, r103_1, r103_2, r103_3, r103_5, r103_6, r103_9, r103_12, r103_15, r103_16, r103_19, r103_20, r103_21, r103_22, r103_25, r103_26, r103_27, r103_28, r103_31, r103_32, r103_35, r103_36, r103_37, r103_40, r103_41, r103_44, r103_45, r103_46, r103_47, r103_50, r103_51, r103_52, r103_55, r103_56, r103_57, r103_60, r103_63, r103_64, cs_nil, cs_cons, lc_lt, lc_ge, lc_gt, lc_le, lc_eq, hx, sS_u hS, sL_u hL, hla, hn, c1, c2, hw, hp, hf, hq, hb1, am_wid2] using ih'
          · obtain ⟨b0, b1, b2⟩ : 0 ≤ b ∧ b < n ∧ aB L ρ z left m b = true := by
              rcases hb with q | q
              · exact absurd q hb1
              · exact q
            have b3 : z 1 b = 1 := by unfold aB at b2; simp at b2; exact b2.1
            have e37b := (hR.1 b b0 b1 b3).1
            have b4 : b < 8 := by omega
            by_cases hv : V L ρ z b 0 4 < V L ρ z t 0 4
            · have hv' : ¬ V L ρ z t 0 4 ≤ V L ρ z b 0 4 := by omega
              have ih' := ih (t + 1) t (by omega) (Or.inr ⟨by omega, by omega, eB⟩)
              rw [if_pos ⟨eB, Or.inr hv⟩]
              simpa (disch := omega) [q103, r103_0, r103_1, r103_2, r103_3, r103_5, r103_6, r103_9, r103_12, r103_15, r103_16, r103_19, r103_20, r103_21, r103_22, r103_25, r103_26, r103_27, r103_28, r103_31, r103_32, r103_35, r103_36, r103_37, r103_40, r103_41, r103_44, r103_45, r103_46, r103_47, r103_50, r103_51, r103_52, r103_55, r103_56, r103_57, r103_60, r103_63, r103_64, cs_nil, cs_cons, lc_lt, lc_ge, lc_gt, lc_le, lc_eq, hx, sS_u hS, sL_u hL, hla, hn, ln_37, c1, c2, hw, hp, hf, hq, hb1, e37, e37b, b0, b4, hv', am_wid2] using ih'
            · have hv' : V L ρ z t 0 4 ≤ V L ρ z b 0 4 := by omega
              have ih' := ih (t + 1) b (by omega) hb
              rw [if_neg (fun q => by rcases q.2 with q | q; exact hb1 q; exact hv q)]
              simpa (disch := omega) [q103, r103_0, r103_1, r103_2, r103_3, r103_5, r103_6, r103_9, r103_12, r103_15, r103_16, r103_19, r103_20, r103_21, r103_22, r103_25, r103_26, r103_27, r103_28, r103_31, r103_32, r103_35, r103_36, r103_37, r103_40, r103_41, r103_44, r103_45, r103_46, r103_47, r103_50, r103_51, r103_52, r103_55, r103_56, r103_57, r103_60, r103_63, r103_64, cs_nil, cs_cons, lc_lt, lc_ge, lc_gt, lc_le, lc_eq, hx, sS_u hS, sL_u hL, hla, hn, ln_37, c1, c2, hw, hp, hf, hq, hb1, e37, e37b, b0, b4, hv', am_wid2] using ih'
      · have eB : ¬ aB L ρ z left m t = true := by unfold aB; simp [hp]
        have ih' := ih (t + 1) b (by omega) hb
        rw [if_neg (fun q => eB q.1)]
        simpa (disch := omega) [q103, r103_0, r103_1, r103_2, r103_3, r103_5, r103_6, r103_9, r103_12, r103_15, r103_16, r103_19, r103_20, r103_21, r103_22, r103_25, r103_26, r103_27, r103_28, r103_31, r103_32, r103_35, r103_36, r103_37, r103_40, r103_41, r103_44, r103_45, r103_46, r103_47, r103_50, r103_51, r103_52, r103_55, r103_56, r103_57, r103_60, r103_63, r103_64, cs_nil, cs_cons, lc_lt, lc_ge, lc_gt, lc_le, lc_eq, hx, sS_u hS, sL_u hL, hla, hn, c1, c2, hw, hp, am_wid2] using ih'
  apply aw_det
  have := key n 0 (-1) (by omega) (Or.inl rfl)
  simpa [q103, r103_0, r103_1, r103_2, r103_3, r103_5, r103_6, r103_9, r103_12, r103_15, r103_16, r103_19, r103_20, r103_21, r103_22, r103_25, r103_26, r103_27, r103_28, r103_31, r103_32, r103_35, r103_36, r103_37, r103_40, r103_41, r103_44, r103_45, r103_46, r103_47, r103_50, r103_51, r103_52, r103_55, r103_56, r103_57, r103_60, r103_63, r103_64, cs_nil, cs_cons, lc_lt, lc_ge, lc_gt, lc_le, lc_eq, pick] using this
/-- what a day at the State at a leaves as it was -/
def fL (a : Int) (f g : am_F) : Prop := ∀ c j : Int, ¬ (c = 35 ∨ c = 37 ∨ c = 38 ∨ c = 39 ∨ (a ≤ c ∧ c ≤ a + 9)) → g c j = f c j
theorem fL_tr {a : Int} {f g h : am_F} (h1 : fL a f g) (h2 : fL a g h) : fL a f h := fun c j hc => (h2 c j hc).trans (h1 c j hc)
theorem fS_L {a : Int} {f g : am_F} (h : fS a f g) : fL a f g := fun c j hc => h c j (by omega)
theorem fW_L {a : Int} {f g : am_F} (h : fW f g) : fL a f g := fun c j hc => h c j (by omega)
theorem CN_o {f g z : am_F} {a : Int} (h : CN f a z) (hg : ∀ c j : Int, a ≤ c → c ≤ a + 9 → g c j = f c j) : CN g a z := CN_fr h (fun i k _ _ => hg _ _ (by omega) (by omega)) (hg _ _ (by omega) (by omega)) (fun _ _ _ => rfl)
theorem CR_mend {n m r : Nat} {f g L z : am_F} {ρ : Int → List Int} {left left' : Int → Int} {s k : Int} (hT : TW n m r L ρ) (hR : CR f L ρ z m left n) (h37 : ∀ j, g 37 j = f 37 j) (h38 : ∀ j, g 38 j = f 38 j) (h39 : ∀ q : Int, 0 ≤ q → q < m → g 39 q = left' q) : CR g L ρ (mnd L ρ z s k) m left' n := by
  refine ⟨fun t a1 a2 a3 => ?_, h39⟩
  have hs : ¬ t = s := fun q => by rw [q, mnd_1] at a3; omega
  have hz : ∀ i, 1 ≤ i → i ≤ 6 → mnd L ρ z s k i t = z i t := fun i _ hi => mnd_o hi hs
  have hR1 := hR.1 t a1 a2 (by rw [← hz 1 (by omega) (by omega)]; exact a3)
  refine ⟨?_, fun q b1 b2 => ?_⟩
  · rw [h37, hR1.1]
    exact (V_cg hT (by omega) hz mnd_d (fun _ => rfl)).symm
  · rw [h38, hR1.2 q b1 b2]
    exact (aH_cg hT hz mnd_d).symm
theorem CZ_day {f z : am_F} {a l v : Int} {n : Nat} (h : CZ f a l n z) : CZ (am_up f a 10 v) a l n (am_up z 0 0 v) := by
  obtain ⟨h1, h2, h3, h4, h5⟩ := h
  refine ⟨sS_fr h1 (fun j _ _ => am_un (by omega)), h2, by rw [am_un (by omega)]; exact h3, by rw [am_ue, am_ue], fun i' t' a1 a2 a3 a4 => ?_⟩
  rw [am_un (by omega), am_un (by omega)]
  exact h5 i' t' a1 a2 a3 a4
theorem c_live {d n m r : Nat} {f L z : am_F} {Q : am_V → am_F → Prop} {a l : Int} {ρ : Int → List Int} (h : CB f a l n m r L ρ z) (hN : CN f a z) (hd : z 0 0 ≤ 998) (hQ : ∀ g, CB g a l n m r L ρ (day L ρ n m z) → CN g a (day L ρ n m z) → fL a f g → Q (0, (bm (fun t => aFl L ρ z (t : Int)) n : Int)) g) : aw_cl (d + 6) 97 [(101, 36), (107, a)] f Q := by
  have ha := h.2.2.1.2.1
  have hTW := h.2.2.2.1
  have tail : ∀ g y X3 X4 X5, CB g a l n m r L ρ y → CN g a y → fL a f g → y 0 0 = z 0 0 → am_up y 0 0 (z 0 0 + 1) = day L ρ n m z → aw_wp (d + 6) 97 129 [(101, 36), (107, a), (0, (bm (fun t => aFl L ρ z (t : Int)) n : Int)), X3, X4, X5] [] g Q := by
    intro g y X3 X4 X5 hB hN hg hy e
    obtain ⟨hx, hl, hz, hT, ho⟩ := id hB
    have hS := hz.1
    have h10 := hz.2.2.2.1
    have hd0 := h.2.2.2.2.1
    rw [hy] at h10
    have z1 : CZ (am_up g a 10 (z 0 0 + 1)) a l n (am_up y 0 0 (z 0 0 + 1)) := CZ_day hz
    have z2 : CN (am_up g a 10 (z 0 0 + 1)) a (am_up y 0 0 (z 0 0 + 1)) := CN_fr hN (fun i k _ _ => am_un (by omega)) (am_un (by omega)) (fun i k _ => am_un (by omega))
    have z3 : fS a g (am_up g a 10 (z 0 0 + 1)) := fun c j hc => am_un (by omega)
    rw [e] at z1 z2
    have := hQ _ (CB_S hB z3 z1 (day_O h.2.2.2.2 hd)) z2 (fL_tr hg (fS_L z3))
    simpa (disch := omega) [q97, r97_0, r97_1, r97_2, r97_5, r97_6, r97_7, r97_9, r97_10, r97_13, r97_16, r97_19, r97_20, r97_21, r97_22, r97_23, r97_24, r97_25, r97_28, r97_29, r97_30, r97_33, r97_36, r97_39, r97_40, r97_41, r97_44, r97_45, r97_47, r97_48, r97_51, r97_54, r97_57, r97_58, r97_59, r97_62, r97_64, r97_66, r97_67, r97_70, r97_71, r97_74, r97_75, r97_76, r97_78, r97_81, r97_83, r97_85, r97_86, r97_89, r97_92, r97_93, r97_96, r97_98, r97_99, r97_100, r97_101, r97_104, r97_106, r97_107, r97_108, r97_110, r97_111, r97_112, r97_113, r97_114, r97_115, r97_116, r97_118, r97_120, r97_123, r97_126, r97_129, r97_130, r97_131, r97_134, r97_135, r97_136, r97_139, r97_140, cs_nil, cs_cons, lc_lt, lc_ge, lc_gt, lc_le, lc_eq, sS_u hS, h10, am_wid2] using this
  have loop2 : ∀ j k : Nat, ∀ g y left X4 X5, k + j = n → CB g a l n m r L ρ y → CN g a y → CR g L ρ y m left n → (∀ q : Int, 0 ≤ q → q < m → 0 ≤ left q ∧ left q ≤ 24) → fL a f g → y 0 0 = z 0 0 → am_up (mdl L ρ n m j y left) 0 0 (z 0 0 + 1) = day L ρ n m z → aw_wp (d + 6) 97 46 [(101, 36), (107, a), (0, (bm (fun t => aFl L ρ z (t : Int)) n : Int)), (0, (k : Int)), X4, X5] [] g Q := by
    intro j
    induction j with
    | zero =>
      intro k g y left X4 X5 hk hB hN hR hlf hg hy e
      obtain rfl : k = n := by omega
      obtain ⟨hx, hl, hz, hT, ho⟩ := id hB
      have hS := hz.1
      have hL := hl.1
      have hla := hz.2.2.1
      have hn := hl.2.2.1.1
      have := tail g y (0, (k : Int)) X4 X5 hB hN hg hy e
      rw [r97_46]
      simpa [q97, r97_0, r97_1, r97_2, r97_5, r97_6, r97_7, r97_9, r97_10, r97_13, r97_16, r97_19, r97_20, r97_21, r97_22, r97_23, r97_24, r97_25, r97_28, r97_29, r97_30, r97_33, r97_36, r97_39, r97_40, r97_41, r97_44, r97_45, r97_47, r97_48, r97_51, r97_54, r97_57, r97_58, r97_59, r97_62, r97_64, r97_66, r97_67, r97_70, r97_71, r97_74, r97_75, r97_76, r97_78, r97_81, r97_83, r97_85, r97_86, r97_89, r97_92, r97_93, r97_96, r97_98, r97_99, r97_100, r97_101, r97_104, r97_106, r97_107, r97_108, r97_110, r97_111, r97_112, r97_113, r97_114, r97_115, r97_116, r97_118, r97_120, r97_123, r97_126, r97_129, r97_130, r97_131, r97_134, r97_135, r97_136, r97_139, r97_140, cs_nil, cs_cons, lc_lt, lc_ge, lc_gt, lc_le, lc_eq, sS_u hS, sL_u hL, hla, hn] using this
    | succ j ih =>
      intro k g y left X4 X5 hk hB hN hR hlf hg hy e
      obtain ⟨X41, X42⟩ := X4
      obtain ⟨X51, X52⟩ := X5
      obtain ⟨hx, hl, hz, hT, ho⟩ := id hB
      have hS := hz.1
      have hL := hl.1
      have hla := hz.2.2.1
      have hn := hl.2.2.1.1
      have hn8 := hT.1
      have hm4 := hT.2.1
      have c1 : ¬ n ≤ k := by omega
      rw [r97_46]
      unfold mdl at e
      by_cases hp : pick L ρ y left n m = -1
      · rw [if_pos hp] at e
        have := tail g y (0, (k : Int)) (0, -1) (0, -1) hB hN hg hy e
        by_cases hX : X41 = 1
        · simpa [q97, r97_0, r97_1, r97_2, r97_5, r97_6, r97_7, r97_9, r97_10, r97_13, r97_16, r97_19, r97_20, r97_21, r97_22, r97_23, r97_24, r97_25, r97_28, r97_29, r97_30, r97_33, r97_36, r97_39, r97_40, r97_41, r97_44, r97_45, r97_47, r97_48, r97_51, r97_54, r97_57, r97_58, r97_59, r97_62, r97_64, r97_66, r97_67, r97_70, r97_71, r97_74, r97_75, r97_76, r97_78, r97_81, r97_83, r97_85, r97_86, r97_89, r97_92, r97_93, r97_96, r97_98, r97_99, r97_100, r97_101, r97_104, r97_106, r97_107, r97_108, r97_110, r97_111, r97_112, r97_113, r97_114, r97_115, r97_116, r97_118, r97_120, r97_123, r97_126, r97_129, r97_130, r97_131, r97_134, r97_135, r97_136, r97_139, r97_140, cs_nil, cs_cons, lc_lt, lc_ge, lc_gt, lc_le, lc_eq, sS_u hS, sL_u hL, hla, hn, c1, c_next hB hR, hp, hX] using this
        · simpa [q97, r97_0, r97_1, r97_2, r97_5, r97_6, r97_7, r97_9, r97_10, r97_13, r97_16, r97_19, r97_20, r97_21, r97_22, r97_23, r97_24, r97_25, r97_28, r97_29, r97_30, r97_33, r97_36, r97_39, r97_40, r97_41, r97_44, r97_45, r97_47, r97_48, r97_51, r97_54, r97_57, r97_58, r97_59, r97_62, r97_64, r97_66, r97_67, r97_70, r97_71, r97_74, r97_75, r97_76, r97_78, r97_81, r97_83, r97_85, r97_86, r97_89, r97_92, r97_93, r97_96, r97_98, r97_99, r97_100, r97_101, r97_104, r97_106, r97_107, r97_108, r97_110, r97_111, r97_112, r97_113, r97_114, r97_115, r97_116, r97_118, r97_120, r97_123, r97_126, r97_129, r97_130, r97_131, r97_134, r97_135, r97_136, r97_139, r97_140, cs_nil, cs_cons, lc_lt, lc_ge, lc_gt, lc_le, lc_eq, sS_u hS, sL_u hL, hla, hn, c1, c_next hB hR, hp, hX] using this
      · rw [if_neg hp] at e
        obtain ⟨p0, p1, p2⟩ : 0 ≤ pick L ρ y left n m ∧ pick L ρ y left n m < n ∧ aB L ρ y left m (pick L ρ y left n m) = true := by
          rcases pick_ok (L := L) (ρ := ρ) (z := y) (left := left) (n := n) (m := m) with q | q
          · exact absurd q hp
          · exact q
        generalize hpe : pick L ρ y left n m = p at p0 p1 p2 e hp
        have p3 : y 1 p = 1 ∧ ¬ who (aH L ρ y p) left m = -1 := by unfold aB at p2; simpa using p2
        obtain ⟨w0, w1, w2⟩ : 0 ≤ who (aH L ρ y p) left m ∧ who (aH L ρ y p) left m < m ∧ aH L ρ y p (who (aH L ρ y p) left m) ≤ left (who (aH L ρ y p) left m) := by
          rcases who_ok (H := aH L ρ y p) (left := left) (m := m) with q | q
          · exact absurd q p3.2
          · exact q
        have hfs := fun (d : Nat) Q => c_first (d := d) (Q := Q) hB p0 p1 (hR.1 p p0 p1 p3.1).2 hR.2
        generalize hwe : who (aH L ρ y p) left m = w at w0 w1 w2 e hfs
        have e38 := (hR.1 p p0 p1 p3.1).2 w w0 w1
        have e39 := hR.2 w w0 w1
        have hb1 := clm_b (lo := 1) (hi := 99) (v := V L ρ y p (L 6 w) 2) (by omega)
        have hb2 : 1 ≤ aH L ρ y p w ∧ aH L ρ y p w ≤ 99 := hb1
        have hb3 := hlf w w0 w1
        have hw1 : ¬ w = -1 := by omega
        have c2 : w < 4 := by omega
        have c3 : (0 : Int) ≤ p * 4 + w ∧ p * 4 + w < 32 := by omega
        have hg1 : fW g (am_up g 39 w (left w - aH L ρ y p w)) := fun c j hc => am_un (by omega)
        have hB1 := CB_fW hB hg1
        have hN1 : CN (am_up g 39 w (left w - aH L ρ y p w)) a y := CN_o hN (fun c j _ _ => am_un (by omega))
        have hR1 : CR (am_up g 39 w (left w - aH L ρ y p w)) L ρ y m (lf left w (left w - aH L ρ y p w)) n := by
          refine ⟨fun t a1 a2 a3 => ?_, fun q a1 a2 => ?_⟩
          · rw [am_un (by omega)]
            refine ⟨(hR.1 t a1 a2 a3).1, fun q b1 b2 => ?_⟩
            rw [am_un (by omega)]
            exact (hR.1 t a1 a2 a3).2 q b1 b2
          · unfold lf
            by_cases hq : q = w
            · rw [hq, am_ue, if_pos rfl]
            · rw [am_un (by omega), if_neg hq]; exact hR.2 q a1 a2
        have goal : aw_cl (d + 5) 105 [(101, 36), (107, a), (0, p), (0, w)] (am_up g 39 w (left w - aH L ρ y p w)) (fun v f' => aw_wp (d + 6) 97 123 [(101, 36), (107, a), (0, (bm (fun t => aFl L ρ z (t : Int)) n : Int)), (0, (k : Int)), (0, p), (0, w)] (if v.1 = 3 then [] else [v]) f' Q) := by
          refine c_mendT hB1 hN1 p0 p1 w0 w1 ?_
          intro g' i1 i2 i3
          have ih' := ih (k + 1) g' (mnd L ρ y p w) (lf left w (left w - aH L ρ y p w)) (0, p) (0, w) (by omega) i1 i2 (CR_mend hT hR1 (fun j => i3 _ _ (by omega)) (fun j => i3 _ _ (by omega)) (fun q b1 b2 => by rw [i3 _ _ (by omega)]; exact hR1.2 q b1 b2)) (fun q b1 b2 => by
              unfold lf
              have := hlf q b1 b2
              split <;> omega) (fL_tr hg (fL_tr (fW_L hg1) (fS_L i3))) (by rw [mnd_d]; exact hy) e
          simpa (disch := omega) [q97, r97_0, r97_1, r97_2, r97_5, r97_6, r97_7, r97_9, r97_10, r97_13, r97_16, r97_19, r97_20, r97_21, r97_22, r97_23, r97_24, r97_25, r97_28, r97_29, r97_30, r97_33, r97_36, r97_39, r97_40, r97_41, r97_44, r97_45, r97_47, r97_48, r97_51, r97_54, r97_57, r97_58, r97_59, r97_62, r97_64, r97_66, r97_67, r97_70, r97_71, r97_74, r97_75, r97_76, r97_78, r97_81, r97_83, r97_85, r97_86, r97_89, r97_92, r97_93, r97_96, r97_98, r97_99, r97_100, r97_101, r97_104, r97_106, r97_107, r97_108, r97_110, r97_111, r97_112, r97_113, r97_114, r97_115, r97_116, r97_118, r97_120, r97_123, r97_126, r97_129, r97_130, r97_131, r97_134, r97_135, r97_136, r97_139, r97_140, cs_nil, cs_cons, lc_lt, lc_ge, lc_gt, lc_le, lc_eq, am_wid2] using ih'
        by_cases hX : X41 = 1
        · simpa (disch := omega) [q97, r97_0, r97_1, r97_2, r97_5, r97_6, r97_7, r97_9, r97_10, r97_13, r97_16, r97_19, r97_20, r97_21, r97_22, r97_23, r97_24, r97_25, r97_28, r97_29, r97_30, r97_33, r97_36, r97_39, r97_40, r97_41, r97_44, r97_45, r97_47, r97_48, r97_51, r97_54, r97_57, r97_58, r97_59, r97_62, r97_64, r97_66, r97_67, r97_70, r97_71, r97_74, r97_75, r97_76, r97_78, r97_81, r97_83, r97_85, r97_86, r97_89, r97_92, r97_93, r97_96, r97_98, r97_99, r97_100, r97_101, r97_104, r97_106, r97_107, r97_108, r97_110, r97_111, r97_112, r97_113, r97_114, r97_115, r97_116, r97_118, r97_120, r97_123, r97_126, r97_129, r97_130, r97_131, r97_134, r97_135, r97_136, r97_139, r97_140, cs_nil, cs_cons, lc_lt, lc_ge, lc_gt, lc_le, lc_eq, hx, sS_u hS, sL_u hL, hla, hn, ln_38, ln_39, c1, c_next hB hR, hpe, hp, hX, hfs, hw1, w0, c2, c3, e38, e39, am_wid2] using goal
        · simpa (disch := omega) [q97, r97_0, r97_1, r97_2, r97_5, r97_6, r97_7, r97_9, r97_10, r97_13, r97_16, r97_19, r97_20, r97_21, r97_22, r97_23, r97_24, r97_25, r97_28, r97_29, r97_30, r97_33, r97_36, r97_39, r97_40, r97_41, r97_44, r97_45, r97_47, r97_48, r97_51, r97_54, r97_57, r97_58, r97_59, r97_62, r97_64, r97_66, r97_67, r97_70, r97_71, r97_74, r97_75, r97_76, r97_78, r97_81, r97_83, r97_85, r97_86, r97_89, r97_92, r97_93, r97_96, r97_98, r97_99, r97_100, r97_101, r97_104, r97_106, r97_107, r97_108, r97_110, r97_111, r97_112, r97_113, r97_114, r97_115, r97_116, r97_118, r97_120, r97_123, r97_126, r97_129, r97_130, r97_131, r97_134, r97_135, r97_136, r97_139, r97_140, cs_nil, cs_cons, lc_lt, lc_ge, lc_gt, lc_le, lc_eq, hx, sS_u hS, sL_u hL, hla, hn, ln_38, ln_39, c1, c_next hB hR, hpe, hp, hX, hfs, hw1, w0, c2, c3, e38, e39, am_wid2] using goal
  have loop1 : ∀ j t : Nat, ∀ g, t + j = n → CB g a l n m r L ρ (bks (aFl L ρ z) z t) → CN g a (bks (aFl L ρ z) z t) → fL a f g → aw_wp (d + 6) 97 8 [(101, 36), (107, a), (0, (bm (fun t => aFl L ρ z (t : Int)) n : Int)), (0, (t : Int)), (2, 0), (2, 0)] [] g Q := by
    intro j
    induction j with
    | zero =>
      intro t g ht hB hN hg
      obtain rfl : t = n := by omega
      obtain ⟨hx, hl, hz, hT, ho⟩ := id hB
      have hS := hz.1
      have hL := hl.1
      have hla := hz.2.2.1
      have hn := hl.2.2.1.1
      rw [r97_8]
      simp [q97, r97_0, r97_1, r97_2, r97_5, r97_6, r97_7, r97_9, r97_10, r97_13, r97_16, r97_19, r97_20, r97_21, r97_22, r97_23, r97_24, r97_25, r97_28, r97_29, r97_30, r97_33, r97_36, r97_39, r97_40, r97_41, r97_44, r97_45, r97_47, r97_48, r97_51, r97_54, r97_57, r97_58, r97_59, r97_62, r97_64, r97_66, r97_67, r97_70, r97_71, r97_74, r97_75, r97_76, r97_78, r97_81, r97_83, r97_85, r97_86, r97_89, r97_92, r97_93, r97_96, r97_98, r97_99, r97_100, r97_101, r97_104, r97_106, r97_107, r97_108, r97_110, r97_111, r97_112, r97_113, r97_114, r97_115, r97_116, r97_118, r97_120, r97_123, r97_126, r97_129, r97_130, r97_131, r97_134, r97_135, r97_136, r97_139, r97_140, cs_nil, cs_cons, lc_lt, lc_ge, lc_gt, lc_le, lc_eq, sS_u hS, sL_u hL, hla, hn]
      refine c_begin hB ?_
      intro g' i1 i2
      have := loop2 t 0 g' (bks (aFl L ρ z) z t) (L 7) (2, 0) (2, 0) (by omega) (CB_fW hB i1) (CN_o hN (fun c j _ _ => i1 _ _ (by omega))) i2 (fun q b1 b2 => by have := hT.2.2.2.2.2.1 q b1 b2; omega) (fL_tr hg (fW_L i1)) (bks_d _ _) rfl
      simpa [q97, r97_0, r97_1, r97_2, r97_5, r97_6, r97_7, r97_9, r97_10, r97_13, r97_16, r97_19, r97_20, r97_21, r97_22, r97_23, r97_24, r97_25, r97_28, r97_29, r97_30, r97_33, r97_36, r97_39, r97_40, r97_41, r97_44, r97_45, r97_47, r97_48, r97_51, r97_54, r97_57, r97_58, r97_59, r97_62, r97_64, r97_66, r97_67, r97_70, r97_71, r97_74, r97_75, r97_76, r97_78, r97_81, r97_83, r97_85, r97_86, r97_89, r97_92, r97_93, r97_96, r97_98, r97_99, r97_100, r97_101, r97_104, r97_106, r97_107, r97_108, r97_110, r97_111, r97_112, r97_113, r97_114, r97_115, r97_116, r97_118, r97_120, r97_123, r97_126, r97_129, r97_130, r97_131, r97_134, r97_135, r97_136, r97_139, r97_140, cs_nil, cs_cons, lc_lt, lc_ge, lc_gt, lc_le, lc_eq] using this
    | succ j ih =>
      intro t g ht hB hN hg
      obtain ⟨hx, hl, hz, hT, ho⟩ := id hB
      have hS := hz.1
      have hL := hl.1
      have hla := hz.2.2.1
      have hn := hl.2.2.1.1
      have hn8 := hT.1
      have c1 : ¬ n ≤ t := by omega
      have eb := bm_tst (p := fun t => aFl L ρ z (t : Int)) (n := n) (t := t) (by omega) (by omega)
      rw [r97_8]
      by_cases hF : aFl L ρ z (t : Int) = true
      · have eb' : am_and (am_shr (bm (fun t => aFl L ρ z (t : Int)) n : Int) (t : Int)) 1 = 1 := by rw [eb]; simp [hF]
        simp (disch := omega) [q97, r97_0, r97_1, r97_2, r97_5, r97_6, r97_7, r97_9, r97_10, r97_13, r97_16, r97_19, r97_20, r97_21, r97_22, r97_23, r97_24, r97_25, r97_28, r97_29, r97_30, r97_33, r97_36, r97_39, r97_40, r97_41, r97_44, r97_45, r97_47, r97_48, r97_51, r97_54, r97_57, r97_58, r97_59, r97_62, r97_64, r97_66, r97_67, r97_70, r97_71, r97_74, r97_75, r97_76, r97_78, r97_81, r97_83, r97_85, r97_86, r97_89, r97_92, r97_93, r97_96, r97_98, r97_99, r97_100, r97_101, r97_104, r97_106, r97_107, r97_108, r97_110, r97_111, r97_112, r97_113, r97_114, r97_115, r97_116, r97_118, r97_120, r97_123, r97_126, r97_129, r97_130, r97_131, r97_134, r97_135, r97_136, r97_139, r97_140, cs_nil, cs_cons, lc_lt, lc_ge, lc_gt, lc_le, lc_eq, sS_u hS, sL_u hL, hla, hn, c1, eb']
        refine c_break hz hN ho hn8 (by omega) (by omega) ?_
        intro g' i1 i2 i3
        have ih' := ih (t + 1) g' (by omega) (by
          unfold bks
          rw [if_pos hF]
          exact CB_S hB i3 i1 (OZ_brk ho (by omega) (by omega))) (by
          unfold bks
          rw [if_pos hF]
          exact i2) (fL_tr hg (fS_L i3))
        simpa (disch := omega) [q97, r97_0, r97_1, r97_2, r97_5, r97_6, r97_7, r97_9, r97_10, r97_13, r97_16, r97_19, r97_20, r97_21, r97_22, r97_23, r97_24, r97_25, r97_28, r97_29, r97_30, r97_33, r97_36, r97_39, r97_40, r97_41, r97_44, r97_45, r97_47, r97_48, r97_51, r97_54, r97_57, r97_58, r97_59, r97_62, r97_64, r97_66, r97_67, r97_70, r97_71, r97_74, r97_75, r97_76, r97_78, r97_81, r97_83, r97_85, r97_86, r97_89, r97_92, r97_93, r97_96, r97_98, r97_99, r97_100, r97_101, r97_104, r97_106, r97_107, r97_108, r97_110, r97_111, r97_112, r97_113, r97_114, r97_115, r97_116, r97_118, r97_120, r97_123, r97_126, r97_129, r97_130, r97_131, r97_134, r97_135, r97_136, r97_139, r97_140, cs_nil, cs_cons, lc_lt, lc_ge, lc_gt, lc_le, lc_eq, am_wid2] using ih'
      · have eb' : am_and (am_shr (bm (fun t => aFl L ρ z (t : Int)) n : Int) (t : Int)) 1 = 0 := by rw [eb]; simp [hF]
        have ih' := ih (t + 1) g (by omega) (by
          unfold bks
          rw [if_neg hF]
          exact hB) (by
          unfold bks
          rw [if_neg hF]
          exact hN) hg
        simpa (disch := omega) [q97, r97_0, r97_1, r97_2, r97_5, r97_6, r97_7, r97_9, r97_10, r97_13, r97_16, r97_19, r97_20, r97_21, r97_22, r97_23, r97_24, r97_25, r97_28, r97_29, r97_30, r97_33, r97_36, r97_39, r97_40, r97_41, r97_44, r97_45, r97_47, r97_48, r97_51, r97_54, r97_57, r97_58, r97_59, r97_62, r97_64, r97_66, r97_67, r97_70, r97_71, r97_74, r97_75, r97_76, r97_78, r97_81, r97_83, r97_85, r97_86, r97_89, r97_92, r97_93, r97_96, r97_98, r97_99, r97_100, r97_101, r97_104, r97_106, r97_107, r97_108, r97_110, r97_111, r97_112, r97_113, r97_114, r97_115, r97_116, r97_118, r97_120, r97_123, r97_126, r97_129, r97_130, r97_131, r97_134, r97_135, r97_136, r97_139, r97_140, cs_nil, cs_cons, lc_lt, lc_ge, lc_gt, lc_le, lc_eq, sS_u hS, sL_u hL, hla, hn, c1, eb', am_wid2] using ih'
  have ha0 : 0 ≤ a := by omega
  simp [q97, r97_0, r97_1, r97_2, r97_5, r97_6, r97_7, r97_9, r97_10, r97_13, r97_16, r97_19, r97_20, r97_21, r97_22, r97_23, r97_24, r97_25, r97_28, r97_29, r97_30, r97_33, r97_36, r97_39, r97_40, r97_41, r97_44, r97_45, r97_47, r97_48, r97_51, r97_54, r97_57, r97_58, r97_59, r97_62, r97_64, r97_66, r97_67, r97_70, r97_71, r97_74, r97_75, r97_76, r97_78, r97_81, r97_83, r97_85, r97_86, r97_89, r97_92, r97_93, r97_96, r97_98, r97_99, r97_100, r97_101, r97_104, r97_106, r97_107, r97_108, r97_110, r97_111, r97_112, r97_113, r97_114, r97_115, r97_116, r97_118, r97_120, r97_123, r97_126, r97_129, r97_130, r97_131, r97_134, r97_135, r97_136, r97_139, r97_140, cs_nil, cs_cons, lc_lt, lc_ge, lc_gt, lc_le, lc_eq, ha0]
  refine c_falling h ?_
  intro f1 hf
  have := loop1 n 0 f1 (by omega) (CB_fK h hf) (CN_o hN (fun c j _ _ => hf _ _ (by omega))) (fL_tr (fS_L (fK_S hf)) (fun _ _ _ => rfl))
  simpa [q97, r97_0, r97_1, r97_2, r97_5, r97_6, r97_7, r97_9, r97_10, r97_13, r97_16, r97_19, r97_20, r97_21, r97_22, r97_23, r97_24, r97_25, r97_28, r97_29, r97_30, r97_33, r97_36, r97_39, r97_40, r97_41, r97_44, r97_45, r97_47, r97_48, r97_51, r97_54, r97_57, r97_58, r97_59, r97_62, r97_64, r97_66, r97_67, r97_70, r97_71, r97_74, r97_75, r97_76, r97_78, r97_81, r97_83, r97_85, r97_86, r97_89, r97_92, r97_93, r97_96, r97_98, r97_99, r97_100, r97_101, r97_104, r97_106, r97_107, r97_108, r97_110, r97_111, r97_112, r97_113, r97_114, r97_115, r97_116, r97_118, r97_120, r97_123, r97_126, r97_129, r97_130, r97_131, r97_134, r97_135, r97_136, r97_139, r97_140, cs_nil, cs_cons, lc_lt, lc_ge, lc_gt, lc_le, lc_eq] using this
