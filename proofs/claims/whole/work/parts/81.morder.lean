/-! the model's next order; sums of orders -/
section
variable {d c : Nat} {f : am_F} {Q : am_V → am_F → Prop} {o : Int → Int}
theorem m_next2 (hc : c ≤ 6) (hx : f 270 61 = 313) (ho : ∀ x : Int, 0 ≤ x → x < c → f 313 x = o x) (hQ0 : nat o c < 0 → Q (0, 0) f) (hQ1 : ¬ nat o c < 0 → ∀ g, (∀ x : Int, 0 ≤ x → x < c → g 313 x = nxo o c x) → (∀ b j : Int, ¬ b = 313 → g b j = f b j) → Q (0, 1) g) : aw_cl (d + 1) 264 [(110, 270), (0, (c : Int))] f Q := by
  have loop1 : ∀ (k : Nat), k + 1 ≤ c → (aw_wp (d + 1) 264 31 [(110, 270), (0, (c : Int)), (0, fat o k), (2, 0), (2, 0), (2, 0), (2, 0)] [] f Q) → aw_wp (d + 1) 264 4 [(110, 270), (0, (c : Int)), (0, (k : Int) - 1), (2, 0), (2, 0), (2, 0), (2, 0)] [] f Q := by
    intro k
    induction k with
    | zero =>
      intro _ hq
      rw [fat] at hq
      rw [r264_4]
      simpa (disch := omega) [r264_5] using hq
    | succ k ih =>
      intro hk hq
      have e1 := ho k (by omega) (by omega)
      have e2 := ho ((k : Int) + 1) (by omega) (by omega)
      rw [Int.natCast_add k, show (k : Int) + (1 : Nat) - 1 = k by omega]
      rw [r264_4]
      by_cases hp : o ((k : Int) + 1) < o k
      · rw [fat, if_pos hp] at hq
        have := ih (by omega) hq
        rw [Int.sub_eq_add_neg] at this
        simpa (disch := omega) [r264_5, r264_8, r264_9, r264_12, r264_13, r264_14, r264_15, r264_18, r264_19, r264_20, r264_21, r264_22, r264_25, r264_28, hx, ln_313, e1, e2, am_wid2, le_T, lt_T, le_F, lt_F] using this
      · rw [fat, if_neg hp] at hq
        simpa (disch := omega) [r264_5, r264_8, r264_9, r264_12, r264_13, r264_14, r264_15, r264_18, r264_19, r264_20, r264_21, r264_22, hx, ln_313, e1, e2, am_wid2, le_T, lt_T, le_F, lt_F] using hq
  have loop2 : ∀ (a : Int), 0 ≤ a → o a ≤ o (a + 1) → ∀ (j : Nat) (w : Int), w = a + 1 + j → w < c → aw_wp (d + 1) 264 62 [(110, 270), (0, (c : Int)), (0, a), (0, fwi o a j w), (2, 0), (2, 0), (2, 0)] [] f Q → aw_wp (d + 1) 264 41 [(110, 270), (0, (c : Int)), (0, a), (0, w), (2, 0), (2, 0), (2, 0)] [] f Q := by
    intro a ha hle j
    induction j with
    | zero =>
      intro w hw hwc hq
      have hw' : w = a + 1 := by omega
      have e1 := ho w (by omega) hwc
      have e2 := ho a (by omega) (by omega)
      rw [fwi] at hq
      rw [← hw'] at hle
      rw [r264_41]
      simpa (disch := omega) [r264_42, r264_45, r264_46, r264_47, r264_48, r264_51, r264_52, r264_53, hx, ln_313, e1, e2, le_T, lt_T, le_F, lt_F] using hq
    | succ j ih =>
      intro w hw hwc hq
      have e1 := ho w (by omega) hwc
      have e2 := ho a (by omega) (by omega)
      rw [r264_41]
      by_cases hp : o w < o a
      · rw [fwi, if_pos hp] at hq
        have := ih (w - 1) (by omega) (by omega) hq
        rw [Int.sub_eq_add_neg] at this
        simpa (disch := omega) [r264_42, r264_45, r264_46, r264_47, r264_48, r264_51, r264_52, r264_53, r264_56, r264_59, hx, ln_313, e1, e2, am_wid2, le_T, lt_T, le_F, lt_F] using this
      · rw [fwi, if_neg hp] at hq
        simpa (disch := omega) [r264_42, r264_45, r264_46, r264_47, r264_48, r264_51, r264_52, r264_53, hx, ln_313, e1, e2, am_wid2, le_T, lt_T, le_F, lt_F] using hq
  have loop3 : ∀ (s : Int → Int) (lo hi : Int) (a w : Int), 0 ≤ lo → hi < 6 → ∀ (j : Nat) (x y v : Int) (g : am_F), x + y = lo + hi → lo ≤ x → x ≤ y + 1 → y - x < 2 * j → g 270 61 = 313 → (∀ u : Int, 0 ≤ u → u < c → g 313 u = if lo ≤ u ∧ u ≤ hi ∧ (u < x ∨ y < u) then s (lo + hi - u) else s u) → hi < c → (∀ b j : Int, ¬ b = 313 → g b j = f b j) → (∀ g', (∀ u : Int, 0 ≤ u → u < c → g' 313 u = rvs s lo hi u) → (∀ b j : Int, ¬ b = 313 → g' b j = f b j) → Q (0, 1) g') → aw_wp (d + 1) 264 100 [(110, 270), (0, (c : Int)), (0, a), (0, w), (0, v), (0, x), (0, y)] [] g Q := by
    intro s lo hi a w hlo hhi j
    induction j with
    | zero =>
      intro x y v g h1 h2 h3 h4 h5 h6 h7 h8 hq
      have := hq g (fun u p1 p2 => by
        rw [h6 u p1 p2]
        unfold rvs
        by_cases q : lo ≤ u ∧ u ≤ hi
        · rw [if_pos q]
          by_cases q2 : u < x ∨ y < u
          · rw [if_pos ⟨q.1, q.2, q2⟩]
          · rw [if_neg (fun e => q2 e.2.2)]; congr 1; omega
        · rw [if_neg q, if_neg (fun e => q ⟨e.1, e.2.1⟩)]) h8
      rw [r264_100]
      simpa (disch := omega) [q264, r264_0, r264_1, r264_2, r264_3, r264_5, r264_8, r264_9, r264_12, r264_13, r264_14, r264_15, r264_18, r264_19, r264_20, r264_21, r264_22, r264_25, r264_28, r264_31, r264_32, r264_35, r264_36, r264_37, r264_38, r264_39, r264_40, r264_42, r264_45, r264_46, r264_47, r264_48, r264_51, r264_52, r264_53, r264_56, r264_59, r264_62, r264_63, r264_66, r264_67, r264_68, r264_70, r264_71, r264_74, r264_75, r264_76, r264_79, r264_80, r264_81, r264_82, r264_83, r264_86, r264_87, r264_89, r264_90, r264_91, r264_92, r264_93, r264_95, r264_96, r264_97, r264_98, r264_102, r264_104, r264_107, r264_108, r264_111, r264_113, r264_114, r264_116, r264_117, r264_120, r264_122, r264_123, r264_126, r264_128, r264_129, r264_130, r264_131, r264_134, r264_136, r264_138, r264_139, r264_142, r264_145, r264_148, r264_149, cs_nil, cs_cons, lc_lt, lc_ge, lc_gt, lc_le, lc_eq, le_T, lt_T, le_F, lt_F] using this
    | succ j ih =>
      intro x y v g h1 h2 h3 h4 h5 h6 h7 h8 hq
      by_cases hxy : x < y
      · have v1 := h6 x (by omega) (by omega)
        have v2 := h6 y (by omega) (by omega)
        rw [if_neg (by omega)] at v1 v2
        have := ih (x + 1) (y - 1) (g 313 x) (am_up (am_up g 313 x (g 313 y)) 313 y (g 313 x)) (by omega) (by omega) (by omega) (by omega) (by rw [am_un (by omega), am_un (by omega)]; exact h5) (fun u p1 p2 => ?_) h7 (fun b j hb => by rw [am_un (by omega), am_un (by omega), h8 _ _ hb]) hq
        · rw [show y - 1 = y + -1 by omega] at this
          rw [r264_100]
          simpa (disch := omega) [q264, r264_0, r264_1, r264_2, r264_3, r264_5, r264_8, r264_9, r264_12, r264_13, r264_14, r264_15, r264_18, r264_19, r264_20, r264_21, r264_22, r264_25, r264_28, r264_31, r264_32, r264_35, r264_36, r264_37, r264_38, r264_39, r264_40, r264_42, r264_45, r264_46, r264_47, r264_48, r264_51, r264_52, r264_53, r264_56, r264_59, r264_62, r264_63, r264_66, r264_67, r264_68, r264_70, r264_71, r264_74, r264_75, r264_76, r264_79, r264_80, r264_81, r264_82, r264_83, r264_86, r264_87, r264_89, r264_90, r264_91, r264_92, r264_93, r264_95, r264_96, r264_97, r264_98, r264_102, r264_104, r264_107, r264_108, r264_111, r264_113, r264_114, r264_116, r264_117, r264_120, r264_122, r264_123, r264_126, r264_128, r264_129, r264_130, r264_131, r264_134, r264_136, r264_138, r264_139, r264_142, r264_145, r264_148, r264_149, cs_nil, cs_cons, lc_lt, lc_ge, lc_gt, lc_le, lc_eq, le_T, lt_T, le_F, lt_F, h5, ln_313, am_un, am_fitE, am_wid2] using this
        · by_cases uy : u = y
          · subst uy
            rw [am_ue, v1, if_pos (by omega)]; congr 1; omega
          · by_cases ux : u = x
            · subst ux
              rw [am_un (by omega), am_ue, v2, if_pos (by omega)]; congr 1; omega
            · rw [am_un (by omega), am_un (by omega), h6 u p1 p2]
              by_cases q : lo ≤ u ∧ u ≤ hi ∧ (u < x ∨ y < u)
              · rw [if_pos q, if_pos (by omega)]
              · rw [if_neg q, if_neg (by omega)]
      · have := hq g (fun u p1 p2 => by
          rw [h6 u p1 p2]
          unfold rvs
          by_cases q : lo ≤ u ∧ u ≤ hi
          · rw [if_pos q]
            by_cases q2 : u < x ∨ y < u
            · rw [if_pos ⟨q.1, q.2, q2⟩]
            · rw [if_neg (fun e => q2 e.2.2)]; congr 1; omega
          · rw [if_neg q, if_neg (fun e => q ⟨e.1, e.2.1⟩)]) h8
        rw [r264_100]
        simpa (disch := omega) [q264, r264_0, r264_1, r264_2, r264_3, r264_5, r264_8, r264_9, r264_12, r264_13, r264_14, r264_15, r264_18, r264_19, r264_20, r264_21, r264_22, r264_25, r264_28, r264_31, r264_32, r264_35, r264_36, r264_37, r264_38, r264_39, r264_40, r264_42, r264_45, r264_46, r264_47, r264_48, r264_51, r264_52, r264_53, r264_56, r264_59, r264_62, r264_63, r264_66, r264_67, r264_68, r264_70, r264_71, r264_74, r264_75, r264_76, r264_79, r264_80, r264_81, r264_82, r264_83, r264_86, r264_87, r264_89, r264_90, r264_91, r264_92, r264_93, r264_95, r264_96, r264_97, r264_98, r264_102, r264_104, r264_107, r264_108, r264_111, r264_113, r264_114, r264_116, r264_117, r264_120, r264_122, r264_123, r264_126, r264_128, r264_129, r264_130, r264_131, r264_134, r264_136, r264_138, r264_139, r264_142, r264_145, r264_148, r264_149, cs_nil, cs_cons, lc_lt, lc_ge, lc_gt, lc_le, lc_eq, le_T, lt_T, le_F, lt_F] using this
  have fin : aw_wp (d + 1) 264 31 [(110, 270), (0, (c : Int)), (0, nat o c), (2, 0), (2, 0), (2, 0), (2, 0)] [] f Q := by
    by_cases hn : nat o c < 0
    · have := hQ0 hn
      simpa (disch := omega) [q264, r264_0, r264_1, r264_2, r264_3, r264_5, r264_8, r264_9, r264_12, r264_13, r264_14, r264_15, r264_18, r264_19, r264_20, r264_21, r264_22, r264_25, r264_28, r264_31, r264_32, r264_35, r264_36, r264_37, r264_38, r264_39, r264_40, r264_42, r264_45, r264_46, r264_47, r264_48, r264_51, r264_52, r264_53, r264_56, r264_59, r264_62, r264_63, r264_66, r264_67, r264_68, r264_70, r264_71, r264_74, r264_75, r264_76, r264_79, r264_80, r264_81, r264_82, r264_83, r264_86, r264_87, r264_89, r264_90, r264_91, r264_92, r264_93, r264_95, r264_96, r264_97, r264_98, r264_102, r264_104, r264_107, r264_108, r264_111, r264_113, r264_114, r264_116, r264_117, r264_120, r264_122, r264_123, r264_126, r264_128, r264_129, r264_130, r264_131, r264_134, r264_136, r264_138, r264_139, r264_142, r264_145, r264_148, r264_149, cs_nil, cs_cons, lc_lt, lc_ge, lc_gt, lc_le, lc_eq, le_T, lt_T, le_F, lt_F] using this
    · obtain ⟨w1, w2, w3, w4, w5⟩ := nwi_b hn
      have hq := hQ1 hn
      have g2 := loop2 (nat o c) (by omega) w5 ((c : Int) - 2 - nat o c).toNat ((c : Int) - 1) (by omega) (by omega) (by
        have ew : fwi o (nat o c) ((c : Int) - 2 - nat o c).toNat ((c : Int) - 1) = nwi o c := rfl
        rw [ew]
        have v1 := ho (nat o c) (by omega) (by omega)
        have v2 := ho (nwi o c) (by omega) (by omega)
        have g3 := loop3 (swp o (nat o c) (nwi o c)) (nat o c + 1) ((c : Int) - 1) (nat o c) (nwi o c) (by omega) (by omega) 6 (nat o c + 1) ((c : Int) - 1) (f 313 (nat o c)) (am_up (am_up f 313 (nat o c) (f 313 (nwi o c))) 313 (nwi o c) (f 313 (nat o c))) (by omega) (by omega) (by omega) (by omega) (by rw [am_un (by omega), am_un (by omega)]; exact hx) (fun u p1 p2 => by
          rw [if_neg (by omega)]
          unfold swp
          by_cases uy : u = nwi o c
          · rw [if_pos uy, uy, am_ue, v1]
          · rw [if_neg uy]
            by_cases ux : u = nat o c
            · rw [if_pos ux, ux, am_un (by omega), am_ue, v2]
            · rw [if_neg ux, am_un (by omega), am_un (by omega), ho u p1 p2]) (by omega) (fun b j hb => by rw [am_un (by omega), am_un (by omega)]) (fun g' q1 q2 => hq g' q1 q2)
        generalize nat o c = A at *
        generalize nwi o c = W at *
        simpa (disch := omega) [q264, r264_0, r264_1, r264_2, r264_3, r264_5, r264_8, r264_9, r264_12, r264_13, r264_14, r264_15, r264_18, r264_19, r264_20, r264_21, r264_22, r264_25, r264_28, r264_31, r264_32, r264_35, r264_36, r264_37, r264_38, r264_39, r264_40, r264_42, r264_45, r264_46, r264_47, r264_48, r264_51, r264_52, r264_53, r264_56, r264_59, r264_62, r264_63, r264_66, r264_67, r264_68, r264_70, r264_71, r264_74, r264_75, r264_76, r264_79, r264_80, r264_81, r264_82, r264_83, r264_86, r264_87, r264_89, r264_90, r264_91, r264_92, r264_93, r264_95, r264_96, r264_97, r264_98, r264_102, r264_104, r264_107, r264_108, r264_111, r264_113, r264_114, r264_116, r264_117, r264_120, r264_122, r264_123, r264_126, r264_128, r264_129, r264_130, r264_131, r264_134, r264_136, r264_138, r264_139, r264_142, r264_145, r264_148, r264_149, cs_nil, cs_cons, lc_lt, lc_ge, lc_gt, lc_le, lc_eq, hx, ln_313, am_un, am_fitE, am_wid2, le_T, lt_T] using g3)
      generalize nat o c = A at *
      simpa (disch := omega) [q264, r264_0, r264_1, r264_2, r264_3, r264_5, r264_8, r264_9, r264_12, r264_13, r264_14, r264_15, r264_18, r264_19, r264_20, r264_21, r264_22, r264_25, r264_28, r264_31, r264_32, r264_35, r264_36, r264_37, r264_38, r264_39, r264_40, r264_42, r264_45, r264_46, r264_47, r264_48, r264_51, r264_52, r264_53, r264_56, r264_59, r264_62, r264_63, r264_66, r264_67, r264_68, r264_70, r264_71, r264_74, r264_75, r264_76, r264_79, r264_80, r264_81, r264_82, r264_83, r264_86, r264_87, r264_89, r264_90, r264_91, r264_92, r264_93, r264_95, r264_96, r264_97, r264_98, r264_102, r264_104, r264_107, r264_108, r264_111, r264_113, r264_114, r264_116, r264_117, r264_120, r264_122, r264_123, r264_126, r264_128, r264_129, r264_130, r264_131, r264_134, r264_136, r264_138, r264_139, r264_142, r264_145, r264_148, r264_149, cs_nil, cs_cons, lc_lt, lc_ge, lc_gt, lc_le, lc_eq, am_wid2, le_T, lt_T, le_F, lt_F] using g2
  by_cases h1 : 1 ≤ c
  · have := loop1 (c - 1) (by omega) (by
      have e : fat o (c - 1) = nat o c := rfl
      rw [e]; exact fin)
    rw [show ((c - 1 : Nat) : Int) - 1 = (c : Int) - 2 by omega] at this
    simpa (disch := omega) [q264, r264_0, r264_1, r264_2, r264_3, r264_5, r264_8, r264_9, r264_12, r264_13, r264_14, r264_15, r264_18, r264_19, r264_20, r264_21, r264_22, r264_25, r264_28, r264_31, r264_32, r264_35, r264_36, r264_37, r264_38, r264_39, r264_40, r264_42, r264_45, r264_46, r264_47, r264_48, r264_51, r264_52, r264_53, r264_56, r264_59, r264_62, r264_63, r264_66, r264_67, r264_68, r264_70, r264_71, r264_74, r264_75, r264_76, r264_79, r264_80, r264_81, r264_82, r264_83, r264_86, r264_87, r264_89, r264_90, r264_91, r264_92, r264_93, r264_95, r264_96, r264_97, r264_98, r264_102, r264_104, r264_107, r264_108, r264_111, r264_113, r264_114, r264_116, r264_117, r264_120, r264_122, r264_123, r264_126, r264_128, r264_129, r264_130, r264_131, r264_134, r264_136, r264_138, r264_139, r264_142, r264_145, r264_148, r264_149, cs_nil, cs_cons, lc_lt, lc_ge, lc_gt, lc_le, lc_eq, am_wid2] using this
  · have hc0 : c = 0 := by omega
    subst hc0
    have := hQ0 (by unfold nat; simp [fat])
    simp (disch := omega) [q264, r264_0, r264_1, r264_2, r264_3, r264_5, r264_8, r264_9, r264_12, r264_13, r264_14, r264_15, r264_18, r264_19, r264_20, r264_21, r264_22, r264_25, r264_28, r264_31, r264_32, r264_35, r264_36, r264_37, r264_38, r264_39, r264_40, r264_42, r264_45, r264_46, r264_47, r264_48, r264_51, r264_52, r264_53, r264_56, r264_59, r264_62, r264_63, r264_66, r264_67, r264_68, r264_70, r264_71, r264_74, r264_75, r264_76, r264_79, r264_80, r264_81, r264_82, r264_83, r264_86, r264_87, r264_89, r264_90, r264_91, r264_92, r264_93, r264_95, r264_96, r264_97, r264_98, r264_102, r264_104, r264_107, r264_108, r264_111, r264_113, r264_114, r264_116, r264_117, r264_120, r264_122, r264_123, r264_126, r264_128, r264_129, r264_130, r264_131, r264_134, r264_136, r264_138, r264_139, r264_142, r264_145, r264_148, r264_149, cs_nil, cs_cons, lc_lt, lc_ge, lc_gt, lc_le, lc_eq, am_wid2]
    rw [r264_4]
    simpa (disch := omega) [q264, r264_0, r264_1, r264_2, r264_3, r264_5, r264_8, r264_9, r264_12, r264_13, r264_14, r264_15, r264_18, r264_19, r264_20, r264_21, r264_22, r264_25, r264_28, r264_31, r264_32, r264_35, r264_36, r264_37, r264_38, r264_39, r264_40, r264_42, r264_45, r264_46, r264_47, r264_48, r264_51, r264_52, r264_53, r264_56, r264_59, r264_62, r264_63, r264_66, r264_67, r264_68, r264_70, r264_71, r264_74, r264_75, r264_76, r264_79, r264_80, r264_81, r264_82, r264_83, r264_86, r264_87, r264_89, r264_90, r264_91, r264_92, r264_93, r264_95, r264_96, r264_97, r264_98, r264_102, r264_104, r264_107, r264_108, r264_111, r264_113, r264_114, r264_116, r264_117, r264_120, r264_122, r264_123, r264_126, r264_128, r264_129, r264_130, r264_131, r264_134, r264_136, r264_138, r264_139, r264_142, r264_145, r264_148, r264_149, cs_nil, cs_cons, lc_lt, lc_ge, lc_gt, lc_le, lc_eq] using this
/-- how often there is a next order, from sorted numbers on -/
def onx (c : Nat) : Nat → (Int → Int) → Bool
  | 0, o => decide (nat o c < 0)
  | k + 1, o => if nat o c < 0 then true else onx c k (nxo o c)
def tol (c : Nat) (o : Int → Int) : List Int := (List.range c).map fun (i : Nat) => o (i : Int)
def ofl (l : List Int) : Int → Int := fun x => l.getD x.toNat 0
def onl (c : Nat) : Nat → List Int → Bool
  | 0, l => decide (nat (ofl l) c < 0)
  | k + 1, l => if nat (ofl l) c < 0 then true else onl c k (tol c (nxo (ofl l) c))
set_option maxRecDepth 100000 in
theorem onl_ok : onl 0 719 [] = true ∧ onl 1 719 [0] = true ∧ onl 2 719 [0, 1] = true ∧ onl 3 719 [0, 1, 2] = true ∧ onl 4 719 [0, 1, 2, 3] = true ∧ onl 5 719 [0, 1, 2, 3, 4] = true ∧ onl 6 719 [0, 1, 2, 3, 4, 5] = true := by decide +kernel
theorem ofl_tol {g : Int → Int} {i : Int} (h0 : 0 ≤ i) (h1 : i < c) : ofl (tol c g) i = g i := by
  unfold ofl tol
  rw [List.getD_eq_getElem?_getD, List.getElem?_map, List.getElem?_range (by omega)]
  show g ((i.toNat : Nat) : Int) = g i
  rw [Int.toNat_of_nonneg h0]
theorem fat_cg {p : Int → Int} : ∀ k : Nat, (∀ i : Int, 0 ≤ i → i < k → (o (i + 1) < o i ↔ p (i + 1) < p i)) → fat o k = fat p k
  | 0, _ => rfl
  | k + 1, h => by
    unfold fat
    rw [fat_cg k (fun i a b => h i a (by omega))]
    have := h k (by omega) (by omega)
    by_cases q : o ((k : Int) + 1) < o k
    · rw [if_pos q, if_pos (this.mp q)]
    · rw [if_neg q, if_neg (fun e => q (this.mpr e))]
theorem fwi_cg {p : Int → Int} {a : Int} : ∀ (j : Nat) (w : Int), (∀ i : Int, w - j ≤ i → i ≤ w → (o i < o a ↔ p i < p a)) → fwi o a j w = fwi p a j w
  | 0, _, _ => rfl
  | j + 1, w, h => by
    unfold fwi
    rw [fwi_cg j (w - 1) (fun i a b => h i (by omega) (by omega))]
    have := h w (by omega) (by omega)
    by_cases q : o w < o a
    · rw [if_pos q, if_pos (this.mp q)]
    · rw [if_neg q, if_neg (fun e => q (this.mpr e))]
theorem nxo_map {b p : Int → Int} (hb : ∀ i j : Int, 0 ≤ i → i < c → 0 ≤ j → j < c → (b i < b j ↔ i < j)) (hp : ∀ i : Int, 0 ≤ i → i < c → 0 ≤ p i ∧ p i < c) (ho : ∀ i : Int, 0 ≤ i → i < c → o i = b (p i)) : nat o c = nat p c ∧ (¬ nat p c < 0 → ∀ i : Int, 0 ≤ i → i < c → nxo o c i = b (nxo p c i) ∧ 0 ≤ nxo p c i ∧ nxo p c i < c) := by
  have cmp : ∀ i j : Int, 0 ≤ i → i < c → 0 ≤ j → j < c → (o i < o j ↔ p i < p j) := by
    intro i j i0 i1 j0 j1
    rw [ho i i0 i1, ho j j0 j1]
    exact hb _ _ (hp i i0 i1).1 (hp i i0 i1).2 (hp j j0 j1).1 (hp j j0 j1).2
  have e1 : nat o c = nat p c := fat_cg (c - 1) (fun i a b => cmp _ _ (by omega) (by omega) a (by omega))
  refine ⟨e1, fun hn i i0 i1 => ?_⟩
  obtain ⟨w1, w2, w3, w4, w5⟩ := nwi_b hn
  have e2 : nwi o c = nwi p c := by
    unfold nwi
    rw [e1]
    exact fwi_cg _ _ (fun i a b => cmp _ _ (by omega) (by omega) (by omega) (by omega))
  have sw : ∀ x : Int, 0 ≤ x → x < c → swp o (nat p c) (nwi p c) x = b (swp p (nat p c) (nwi p c) x) ∧ 0 ≤ swp p (nat p c) (nwi p c) x ∧ swp p (nat p c) (nwi p c) x < c := by
    intro x x0 x1
    unfold swp
    split
    · exact ⟨ho _ (by omega) (by omega), hp _ (by omega) (by omega)⟩
    · split
      · exact ⟨ho _ (by omega) (by omega), hp _ (by omega) (by omega)⟩
      · exact ⟨ho _ x0 x1, hp _ x0 x1⟩
  unfold nxo
  rw [e1, e2]
  unfold rvs
  split
  · exact sw _ (by omega) (by omega)
  · exact sw _ i0 i1
theorem onx_onl {b : Int → Int} (hb : ∀ i j : Int, 0 ≤ i → i < c → 0 ≤ j → j < c → (b i < b j ↔ i < j)) : ∀ (k : Nat) (o : Int → Int) (l : List Int), (∀ i : Int, 0 ≤ i → i < c → 0 ≤ ofl l i ∧ ofl l i < c) → (∀ i : Int, 0 ≤ i → i < c → o i = b (ofl l i)) → onx c k o = onl c k l
  | 0, o, l, h1, h2 => by
    rw [onx, onl, (nxo_map hb h1 h2).1]
  | k + 1, o, l, h1, h2 => by
    obtain ⟨e1, e2⟩ := nxo_map hb h1 h2
    rw [onx, onl, e1]
    by_cases hn : nat (ofl l) c < 0
    · rw [if_pos hn, if_pos hn]
    · rw [if_neg hn, if_neg hn]
      refine onx_onl hb k _ _ (fun i a b => ?_) (fun i a b => ?_)
      · rw [ofl_tol a b]; exact (e2 hn i a b).2
      · rw [ofl_tol a b]; exact (e2 hn i a b).1
theorem onx_ok {b : Int → Int} (hc : c ≤ 6) (hb : ∀ i j : Int, 0 ≤ i → i < c → 0 ≤ j → j < c → (b i < b j ↔ i < j)) : onx c 719 b = true := by
  obtain ⟨a0, a1, a2, a3, a4, a5, a6⟩ := onl_ok
  obtain rfl | rfl | rfl | rfl | rfl | rfl | rfl : c = 0 ∨ c = 1 ∨ c = 2 ∨ c = 3 ∨ c = 4 ∨ c = 5 ∨ c = 6 := by omega
  · rw [onx_onl hb 719 b [] (fun i _ _ => by omega) (fun i _ _ => by omega)]; exact a0
  · rw [onx_onl hb 719 b [0] (fun i _ _ => ?_) (fun i _ _ => ?_)]
    · exact a1
    · obtain rfl : i = 0 := by omega
      decide
    · obtain rfl : i = 0 := by omega
      rfl
  · rw [onx_onl hb 719 b [0, 1] (fun i _ _ => ?_) (fun i _ _ => ?_)]
    · exact a2
    · obtain rfl | rfl : i = 0 ∨ i = 1 := by omega
      all_goals decide
    · obtain rfl | rfl : i = 0 ∨ i = 1 := by omega
      all_goals rfl
  · rw [onx_onl hb 719 b [0, 1, 2] (fun i _ _ => ?_) (fun i _ _ => ?_)]
    · exact a3
    · obtain rfl | rfl | rfl : i = 0 ∨ i = 1 ∨ i = 2 := by omega
      all_goals decide
    · obtain rfl | rfl | rfl : i = 0 ∨ i = 1 ∨ i = 2 := by omega
      all_goals rfl
  · rw [onx_onl hb 719 b [0, 1, 2, 3] (fun i _ _ => ?_) (fun i _ _ => ?_)]
    · exact a4
    · obtain rfl | rfl | rfl | rfl : i = 0 ∨ i = 1 ∨ i = 2 ∨ i = 3 := by omega
      all_goals decide
    · obtain rfl | rfl | rfl | rfl : i = 0 ∨ i = 1 ∨ i = 2 ∨ i = 3 := by omega
      all_goals rfl
  · rw [onx_onl hb 719 b [0, 1, 2, 3, 4] (fun i _ _ => ?_) (fun i _ _ => ?_)]
    · exact a5
    · obtain rfl | rfl | rfl | rfl | rfl : i = 0 ∨ i = 1 ∨ i = 2 ∨ i = 3 ∨ i = 4 := by omega
      all_goals decide
    · obtain rfl | rfl | rfl | rfl | rfl : i = 0 ∨ i = 1 ∨ i = 2 ∨ i = 3 ∨ i = 4 := by omega
      all_goals rfl
  · rw [onx_onl hb 719 b [0, 1, 2, 3, 4, 5] (fun i _ _ => ?_) (fun i _ _ => ?_)]
    · exact a6
    · obtain rfl | rfl | rfl | rfl | rfl | rfl : i = 0 ∨ i = 1 ∨ i = 2 ∨ i = 3 ∨ i = 4 ∨ i = 5 := by omega
      all_goals decide
    · obtain rfl | rfl | rfl | rfl | rfl | rfl : i = 0 ∨ i = 1 ∨ i = 2 ∨ i = 3 ∨ i = 4 ∨ i = 5 := by omega
      all_goals rfl
end
