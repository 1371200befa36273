/-! row: the model's side, and both -/
section
variable {d n m r c : Nat} {f L z : am_F} {ρ : Int → List Int} {τ : Int → Bool} {l : Int} {Z : Int → am_F} {Q : am_V → am_F → Prop} {o : Int → Int}
theorem m_fillB (h : MB f n m r L ρ τ z) {k cc : Int} (hc : ct (isB z) n ≤ 6) (hQ : ∀ g x, BRw g 313 z n → (∀ b j : Int, ¬ b = 313 → g b j = f b j) → aw_wp (d + 2) 262 79 [(110, 270), (0, k), (0, cc), (0, (ct (isB z) n : Int)), (0, x), (2, 0), (2, 0), (2, 0)] [] g Q) : aw_wp (d + 2) 262 44 [(110, 270), (0, k), (0, cc), (0, 0), (0, 0), (2, 0), (2, 0), (2, 0)] [] f Q := by
  have hn := h.2.2.1.1
  have key : ∀ (j t : Nat) (g : am_F), t + j = n → (∀ u : Nat, u < t → isB z u = true → g 313 (ct (isB z) u : Int) = u) → (∀ b j : Int, ¬ b = 313 → g b j = f b j) → aw_wp (d + 2) 262 44 [(110, 270), (0, k), (0, cc), (0, (ct (isB z) t : Int)), (0, (t : Int)), (2, 0), (2, 0), (2, 0)] [] g Q := by
    intro j
    induction j with
    | zero =>
      intro t g h1 h2 h4
      obtain rfl : t = n := by omega
      have hB : MB g t m r L ρ τ z := MB_fr h (fun c j _ _ => h4 _ _ (by omega)) (fun j _ => h4 _ _ (by omega))
      have := hQ g t h2 h4
      rw [r262_44]
      simpa (disch := omega) [r262_46, r262_47, r262_50, q209, r209_0, r209_1, r209_4, r209_5, r209_6, cs_nil, cs_cons, lc_lt, lc_ge, lc_gt, lc_le, lc_eq, mfx_u hB.1.1, mb_m hB, ln_301] using this
    | succ j ih =>
      intro t g h1 h2 h4
      have hB : MB g n m r L ρ τ z := MB_fr h (fun c j _ _ => h4 _ _ (by omega)) (fun j _ => h4 _ _ (by omega))
      have c1 : ¬ n ≤ t := by omega
      have hle := ct_mn (p := isB z) (n - t) t
      rw [show t + (n - t) = n by omega] at hle
      have ib := fun (dd : Nat) (QQ : am_V → am_F → Prop) => m_isBr (d := dd) (Q := QQ) (t := (t : Int)) hB (by omega) (by omega)
      rw [r262_44]
      by_cases hb : z 1 (t : Int) = 1
      · have pb : isB z t = true := by unfold isB; simp [hb]
        have l6 := ct_st (p := isB z) (u := t) (v := n) (by omega) pb
        have ih' := ih (t + 1) (am_up g 313 (ct (isB z) t : Int) t) (by omega) (fun u q1 q2 => by
          by_cases hu : u = t
          · subst hu; exact am_ue
          · have := ct_st (p := isB z) (u := u) (v := t) (by omega) q2
            rw [am_un (by omega)]
            exact h2 u (by omega) q2) (fun b j hb => by rw [am_un (by omega), h4 _ _ hb])
        rw [ct, if_pos pb, Int.natCast_add (ct (isB z) t), Int.natCast_add t] at ih'
        simpa (disch := omega) [q262, r262_0, r262_1, r262_2, r262_5, r262_8, r262_9, r262_10, r262_12, r262_15, r262_16, r262_19, r262_22, r262_23, r262_24, r262_27, r262_28, r262_29, r262_30, r262_31, r262_34, r262_37, r262_38, r262_39, r262_40, r262_41, r262_42, r262_46, r262_47, r262_50, r262_53, r262_54, r262_56, r262_59, r262_62, r262_63, r262_66, r262_67, r262_69, r262_70, r262_73, r262_76, r262_79, r262_80, r262_82, r262_83, r262_87, r262_90, r262_91, r262_92, r262_95, r262_97, r262_99, r262_100, r262_103, r262_105, r262_107, r262_110, r262_112, r262_114, r262_115, r262_119, r262_120, r262_123, r262_124, r262_127, r262_129, r262_130, r262_133, r262_135, r262_136, r262_137, r262_140, r262_143, r262_144, r262_145, r262_148, r262_150, r262_153, r262_154, r262_155, r262_158, r262_160, r262_163, r262_164, r262_167, r262_168, r262_169, q209, r209_0, r209_1, r209_4, r209_5, r209_6, cs_nil, cs_cons, lc_lt, lc_ge, lc_gt, lc_le, lc_eq, mfx_u hB.1.1, mb_m hB, ln_301, c1, ib, hb, ln_313, am_wid2, am_fitE, le_T, lt_T] using ih'
      · have pb : ¬ isB z t = true := by unfold isB; simp [hb]
        have ih' := ih (t + 1) g (by omega) (fun u q1 q2 => h2 u (by
          by_cases q : u < t
          · exact q
          · have : u = t := by omega
            rw [this] at q2; exact absurd q2 pb) q2) h4
        rw [ct, if_neg pb, Nat.add_zero, Int.natCast_add t] at ih'
        simpa (disch := omega) [q262, r262_0, r262_1, r262_2, r262_5, r262_8, r262_9, r262_10, r262_12, r262_15, r262_16, r262_19, r262_22, r262_23, r262_24, r262_27, r262_28, r262_29, r262_30, r262_31, r262_34, r262_37, r262_38, r262_39, r262_40, r262_41, r262_42, r262_46, r262_47, r262_50, r262_53, r262_54, r262_56, r262_59, r262_62, r262_63, r262_66, r262_67, r262_69, r262_70, r262_73, r262_76, r262_79, r262_80, r262_82, r262_83, r262_87, r262_90, r262_91, r262_92, r262_95, r262_97, r262_99, r262_100, r262_103, r262_105, r262_107, r262_110, r262_112, r262_114, r262_115, r262_119, r262_120, r262_123, r262_124, r262_127, r262_129, r262_130, r262_133, r262_135, r262_136, r262_137, r262_140, r262_143, r262_144, r262_145, r262_148, r262_150, r262_153, r262_154, r262_155, r262_158, r262_160, r262_163, r262_164, r262_167, r262_168, r262_169, q209, r209_0, r209_1, r209_4, r209_5, r209_6, cs_nil, cs_cons, lc_lt, lc_ge, lc_gt, lc_le, lc_eq, mfx_u hB.1.1, mb_m hB, ln_301, c1, ib, hb, am_wid2] using ih'
  exact key n 0 f (by omega) (fun u q => by omega) (fun _ _ _ => rfl)
theorem m_copyB {k i mn s : Int} {x : am_V} (hx : f 270 61 = 313 ∧ f 270 62 = 314) (hc : c ≤ 6) (hQ : aw_wp d 262 143 [(110, 270), (0, k), (0, (c : Int)), (0, i), (0, mn), (0, 1), (0, s), (0, (c : Int))] [] (am_cpy f 313 0 314 0 (c : Int)) Q) : aw_wp d 262 117 [(110, 270), (0, k), (0, (c : Int)), (0, i), (0, mn), (0, 1), (0, s), (0, 0)] [] f Q := by
  have key : ∀ (j q : Nat), q + j = c → aw_wp d 262 117 [(110, 270), (0, k), (0, (c : Int)), (0, i), (0, mn), (0, 1), (0, s), (0, (q : Int))] [] (am_cpy f 313 0 314 0 (q : Int)) Q := by
    intro j
    induction j with
    | zero =>
      intro q hq
      obtain rfl : q = c := by omega
      rw [r262_117]
      simpa (disch := omega) [r262_119, r262_120] using hQ
    | succ j ih =>
      intro q hq
      have ih' := ih (q + 1) (by omega)
      rw [Int.natCast_add q] at ih'
      have e := cpy_s (f := f) (a0 := 313) (sp := 0) (a := 314) (dp := 0) (k := (q : Int)) (by omega) (by omega)
      rw [Int.zero_add] at e
      have c1 : ¬ c ≤ q := by omega
      rw [r262_117]
      simpa (disch := omega) [q262, r262_0, r262_1, r262_2, r262_5, r262_8, r262_9, r262_10, r262_12, r262_15, r262_16, r262_19, r262_22, r262_23, r262_24, r262_27, r262_28, r262_29, r262_30, r262_31, r262_34, r262_37, r262_38, r262_39, r262_40, r262_41, r262_42, r262_46, r262_47, r262_50, r262_53, r262_54, r262_56, r262_59, r262_62, r262_63, r262_66, r262_67, r262_69, r262_70, r262_73, r262_76, r262_79, r262_80, r262_82, r262_83, r262_87, r262_90, r262_91, r262_92, r262_95, r262_97, r262_99, r262_100, r262_103, r262_105, r262_107, r262_110, r262_112, r262_114, r262_115, r262_119, r262_120, r262_123, r262_124, r262_127, r262_129, r262_130, r262_133, r262_135, r262_136, r262_137, r262_140, r262_143, r262_144, r262_145, r262_148, r262_150, r262_153, r262_154, r262_155, r262_158, r262_160, r262_163, r262_164, r262_167, r262_168, r262_169, cs_nil, cs_cons, lc_lt, lc_ge, lc_gt, lc_le, lc_eq, cpy_n, hx, ln_313, ln_314, c1, am_wid2, am_fitE, le_T, lt_T, e] using ih'
  have := key c 0 (by omega)
  rw [Int.natCast_zero, cpy_0] at this
  exact this
abbrev RC (b j : Int) : Prop := b = 313 ∨ b = 314 ∨ b = 342 ∨ (b = 270 ∧ (j = 50 ∨ j = 55 ∨ j = 98))
theorem m_bestL {k i : Int} (hc : c ≤ 6) (h : MB f n m r L ρ τ z) (hm : 0 < m) (R : (Int → Int) × Int) (hQ : ∀ g x y, (∀ x : Int, 0 ≤ x → x < c → g 314 x = R.1 x) → (∀ b j : Int, ¬ RC b j → g b j = f b j) → aw_wp (d + 6) 262 153 [(110, 270), (0, k), (0, (c : Int)), (0, i), (0, R.2), (0, 0), x, y] [] g Q) : ∀ (j : Nat) (o B : Int → Int) (mn s q : Int) (g : am_F), onx c j o = true → rnb L ρ z c j o B mn = R → ordB z n c o → 0 ≤ mn → (∀ x : Int, 0 ≤ x → x < c → g 313 x = o x) → (∀ x : Int, 0 ≤ x → x < c → g 314 x = B x) → (∀ b j : Int, ¬ RC b j → g b j = f b j) → aw_wp (d + 6) 262 143 [(110, 270), (0, k), (0, (c : Int)), (0, i), (0, mn), (0, 1), (0, s), (0, q)] [] g Q := by
  have x61 : f 270 61 = 313 := (mfx_u h.1.1).2.2.2.2.2.2.2.2.2.2.2.2.2.2.1
  have x62 : f 270 62 = 314 := (mfx_u h.1.1).2.2.2.2.2.2.2.2.2.2.2.2.2.2.2.1
  have stop : ∀ (B : Int → Int) (mn s q : Int) (g : am_F), (B, mn) = R → (∀ x : Int, 0 ≤ x → x < c → g 314 x = B x) → (∀ b j : Int, ¬ RC b j → g b j = f b j) → aw_wp (d + 6) 262 148 [(110, 270), (0, k), (0, (c : Int)), (0, i), (0, mn), (0, 1), (0, s), (0, q)] [(0, 0)] g Q := by
    intro B mn s q g h3 h6 h8
    have := hQ g (0, s) (0, q) (by rw [← h3]; exact h6) h8
    rw [← h3] at this
    simp [r262_148, r262_150]
    rw [r262_85]
    simpa (disch := omega) [r262_87] using this
  intro j
  induction j with
  | zero =>
    intro o B mn s q g h1 h3 h4 hmn h5 h6 h8
    rw [onx, decide_eq_true_eq] at h1
    rw [rnb] at h3
    have y61 : g 270 61 = 313 := (h8 _ _ (by omega)).trans x61
    simp (disch := omega) [r262_143, r262_144, r262_145, cs_nil, cs_cons, lc_lt, lc_ge, lc_gt, lc_le, lc_eq]
    refine m_next2 hc y61 h5 (fun _ => ?_) (fun hn => absurd h1 hn)
    exact stop B mn s q g h3 h6 h8
  | succ j ih =>
    intro o B mn s q g h1 h3 h4 hmn h5 h6 h8
    have y61 : g 270 61 = 313 := (h8 _ _ (by omega)).trans x61
    rw [onx] at h1
    rw [rnb] at h3
    simp (disch := omega) [r262_143, r262_144, r262_145, cs_nil, cs_cons, lc_lt, lc_ge, lc_gt, lc_le, lc_eq]
    refine m_next2 hc y61 h5 (fun hn => ?_) (fun hn g1 q1 q2 => ?_)
    · rw [if_pos hn] at h3
      exact stop B mn s q g h3 h6 h8
    · rw [if_neg hn] at h1 h3
      have hB := ordB_n h4 hn
      have fr : ∀ b j : Int, ¬ RC b j → g1 b j = f b j := fun b j hb => (q2 b j (by omega)).trans (h8 b j hb)
      have hB1 : MB g1 n m r L ρ τ z := MB_fr h (fun c j _ _ => fr _ _ (by omega)) (fun j _ => fr _ _ (by omega))
      have z61 : g1 270 61 = 313 := (fr _ _ (by omega)).trans x61
      have cb := cpl_b6 (z := z) h.2.2.1 hc (fun x a b => (hB x a b).1) (Nat.le_refl c)
      show aw_wp (d + 6) 262 148 [(110, 270), (0, k), (0, (c : Int)), (0, i), (0, mn), (0, 1), (0, s), (0, q)] [(0, 1)] g1 Q
      simp [r262_148, r262_150]
      rw [r262_85]
      simp (disch := omega) [r262_87, r262_90, r262_91, r262_92, cs_nil, cs_cons, lc_lt, lc_ge, lc_gt, lc_le, lc_eq]
      refine m_sum (d := d) hB1 z61 hm hc q1 (fun x a b => (hB x a b).1) ?_
      intro g2 hg2
      have fr2 : ∀ b j : Int, ¬ RC b j → g2 b j = f b j := fun b j hb => (hg2 b j (by omega)).trans (fr b j hb)
      have o2 : ∀ x : Int, 0 ≤ x → x < c → g2 313 x = nxo o c x := fun x a b => (hg2 _ _ (by omega)).trans (q1 x a b)
      have w61 : g2 270 61 = 313 := (fr2 _ _ (by omega)).trans x61
      have w62 : g2 270 62 = 314 := (fr2 _ _ (by omega)).trans x62
      have nm1 : ¬ mn = -1 := by omega
      by_cases hlt : (cpl L ρ z (nxo o c) c).2 < mn
      · rw [if_pos hlt] at h3
        have := ih (nxo o c) (nxo o c) _ (cpl L ρ z (nxo o c) c).2 (c : Int) (am_cpy g2 313 0 314 0 (c : Int)) h1 h3 hB cb.2.2.1 (fun x a b => by rw [cpy_n (by omega)]; exact o2 x a b) (fun x a b => by rw [cpy_i (by omega), show (0 : Int) + (x - 0) = x by omega]; exact o2 x a b) (fun b j hb => by rw [cpy_n (by omega), fr2 _ _ hb])
        have g3 := m_copyB (d := d + 6) (Q := Q) (f := g2) (k := k) (i := i) (mn := (cpl L ρ z (nxo o c) c).2) (s := (cpl L ρ z (nxo o c) c).2) (x := (0, 0)) ⟨w61, w62⟩ hc this
        simpa (disch := omega) [r262_95, r262_97, r262_99, r262_100, r262_103, r262_105, r262_107, r262_110, r262_112, r262_114, r262_115, nm1, le_T, lt_T, le_F, lt_F] using g3
      · rw [if_neg hlt] at h3
        have := ih (nxo o c) B mn (cpl L ρ z (nxo o c) c).2 q g2 h1 h3 hB hmn o2 (fun x a b => by rw [hg2 _ _ (by omega), q2 _ _ (by omega)]; exact h6 x a b) fr2
        simpa (disch := omega) [r262_95, r262_97, r262_99, r262_100, r262_103, r262_105, r262_107, nm1, le_T, lt_T, le_F, lt_F] using this
theorem H_row (h : IW f n m r L ρ τ z l Z) {k : Int} (hk2 : -2147483648 ≤ k) : HC d 113 262 [(0, k)] 0 f := by
  unfold HC
  have hn := (iw_n h).1
  have hm4 := (iw_n h).2.1
  obtain ⟨aa, ⟨cb, cn⟩, ⟨mb, nm⟩, _⟩ := id h
  have hi := h.iv
  have hT := cb.2.2.2.1
  have hl := aa.2.2.1
  have hl0 : 0 ≤ l := by omega
  have b1 : bm (fun t => decide (z 1 (t : Int) = 1)) n < 256 := bm_8 hn
  have ec : pop (bm (fun t => decide (z 1 (t : Int) = 1)) n) = ct (isB z) n := pop_bm hn
  have cle := ct_le (p := isB z) n
  have cbt := fun (dd : Nat) (QQ : am_V → am_F → Prop) (g : am_F) => c_bits (d := dd) (f := g) (Q := QQ) b1
  have mbt := fun (dd : Nat) (QQ : am_V → am_F → Prop) (g : am_F) => m_bits (d := dd) (f := g) (Q := QQ) b1
  rw [ec] at cbt mbt
  by_cases hm0 : m = 0
  · have hm0' : (m : Int) = 0 := by omega
    by_cases c6 : (ct (isB z) n : Int) ≤ 6
    · simp (disch := omega) [q113, r113_0, r113_1, r113_4, r113_5, r113_8, r113_11, r113_12, r113_13, r113_16, r113_19, r113_22, r113_25, r113_26, r113_28, r113_31, r113_32, r113_33, r113_36, r113_37, r113_38, r113_41, r113_42, r113_43, r113_44, r113_47, r113_48, r113_51, r113_54, r113_55, r113_56, r113_59, r113_60, r113_63, r113_66, r113_69, r113_70, r113_73, r113_76, r113_77, r113_78, q262, r262_0, r262_1, r262_2, r262_5, r262_8, r262_9, r262_10, r262_12, r262_15, r262_16, r262_19, r262_22, r262_23, r262_24, r262_27, r262_28, r262_29, r262_30, r262_31, r262_34, r262_37, r262_38, r262_39, r262_40, r262_41, r262_42, r262_46, r262_47, r262_50, r262_53, r262_54, r262_56, r262_59, r262_62, r262_63, r262_66, r262_67, r262_69, r262_70, r262_73, r262_76, r262_79, r262_80, r262_82, r262_83, r262_87, r262_90, r262_91, r262_92, r262_95, r262_97, r262_99, r262_100, r262_103, r262_105, r262_107, r262_110, r262_112, r262_114, r262_115, r262_119, r262_120, r262_123, r262_124, r262_127, r262_129, r262_130, r262_133, r262_135, r262_136, r262_137, r262_140, r262_143, r262_144, r262_145, r262_148, r262_150, r262_153, r262_154, r262_155, r262_158, r262_160, r262_163, r262_164, r262_167, r262_168, r262_169, q233, r233_0, r233_1, r233_4, r233_5, r233_6, cs_nil, cs_cons, lc_lt, lc_ge, lc_gt, lc_le, lc_eq, c_fx aa.1, c_areZ cb, cbt, iw_l h, m_setOfZ mb, mbt, mfx_u mb.1.1, mb_m mb, ln_301, hm0, le_T, lt_T, le_F, lt_F, hi]
    · simp (disch := omega) [q113, r113_0, r113_1, r113_4, r113_5, r113_8, r113_11, r113_12, r113_13, r113_16, r113_19, r113_22, r113_25, r113_26, r113_28, r113_31, r113_32, r113_33, r113_36, r113_37, r113_38, r113_41, r113_42, r113_43, r113_44, r113_47, r113_48, r113_51, r113_54, r113_55, r113_56, r113_59, r113_60, r113_63, r113_66, r113_69, r113_70, r113_73, r113_76, r113_77, r113_78, q262, r262_0, r262_1, r262_2, r262_5, r262_8, r262_9, r262_10, r262_12, r262_15, r262_16, r262_19, r262_22, r262_23, r262_24, r262_27, r262_28, r262_29, r262_30, r262_31, r262_34, r262_37, r262_38, r262_39, r262_40, r262_41, r262_42, r262_46, r262_47, r262_50, r262_53, r262_54, r262_56, r262_59, r262_62, r262_63, r262_66, r262_67, r262_69, r262_70, r262_73, r262_76, r262_79, r262_80, r262_82, r262_83, r262_87, r262_90, r262_91, r262_92, r262_95, r262_97, r262_99, r262_100, r262_103, r262_105, r262_107, r262_110, r262_112, r262_114, r262_115, r262_119, r262_120, r262_123, r262_124, r262_127, r262_129, r262_130, r262_133, r262_135, r262_136, r262_137, r262_140, r262_143, r262_144, r262_145, r262_148, r262_150, r262_153, r262_154, r262_155, r262_158, r262_160, r262_163, r262_164, r262_167, r262_168, r262_169, q233, r233_0, r233_1, r233_4, r233_5, r233_6, cs_nil, cs_cons, lc_lt, lc_ge, lc_gt, lc_le, lc_eq, c_fx aa.1, c_areZ cb, cbt, iw_l h, m_setOfZ mb, mbt, hm0, le_T, lt_T, le_F, lt_F, hi]
  · have hm0' : ¬ (m : Int) = 0 := by omega
    by_cases c6 : (ct (isB z) n : Int) ≤ 6
    · by_cases hk : -1 ≤ k ∧ k < ct (isB z) n
      · simp (disch := omega) [q113, r113_0, r113_1, r113_4, r113_5, r113_8, r113_11, r113_12, r113_13, r113_16, r113_19, r113_22, r113_25, r113_26, r113_28, r113_31, r113_32, r113_33, r113_36, r113_37, r113_38, r113_41, r113_42, r113_43, r113_44, r113_47, r113_48, r113_51, r113_54, r113_55, r113_56, r113_59, r113_60, r113_63, r113_66, r113_69, r113_70, r113_73, r113_76, r113_77, r113_78, cs_nil, cs_cons, lc_lt, lc_ge, lc_gt, lc_le, lc_eq, c_fx aa.1, c_areZ cb, cbt, iw_l h, hm0, hm0', le_T, lt_T, le_F, lt_F]
        refine c_fill (d := d + 33) cb ⟨fx_40_0 aa.1, fx_40_1 aa.1, fx_40_2 aa.1⟩ (by omega) (by omega) ?_
        intro g1 x a1 a2 a3
        have hC1 : CB g1 46 l n m r L ρ z := CB_fr cb (fun c j hc => a3 _ _ (by omega))
        have y : g1 40 1 = 41 ∧ g1 40 2 = 42 ∧ g1 40 5 = 45 := ⟨(a3 _ _ (by omega)).trans (fx_40_1 aa.1), (a3 _ _ (by omega)).trans (fx_40_2 aa.1), (a3 _ _ (by omega)).trans (fx_40_5 aa.1)⟩
        have oB : ordB z n (ct (isB z) n) (g1 41) := fun x x0 x1 => by
          obtain ⟨u, u1, u2, u3, u4⟩ := BRw_i a1 x0 x1
          rw [u4]
          exact ⟨by omega, u2⟩
        have ox := onx_ok (c := ct (isB z) n) (b := g1 41) (by omega) (BRw_mono a1)
        have ck := fun (dd : Nat) (QQ : am_V → am_F → Prop) => c_keep (d := dd) (Q := QQ) (o := g1 41) hC1 y (by omega) (fun _ _ _ => rfl) oB a2
        generalize hR : rnb L ρ z (ct (isB z) n) 719 (g1 41) (g1 41) (cpl L ρ z (g1 41) (ct (isB z) n)).2 = R
        have cbb := cpl_b6 (z := z) (c := ct (isB z) n) (o := g1 41) hT (by omega) (fun x a b => (oB x a b).1) (Nat.le_refl _)
        simp (disch := omega) [q114, r114_0, r114_1, r114_2, r114_3, r114_5, r114_6, r114_9, r114_12, r114_15, r114_16, r114_18, r114_21, r114_22, r114_25, r114_26, r114_27, r114_28, r114_31, r114_32, r114_35, r114_36, r114_39, r114_40, r114_41, r114_42, r114_45, r114_46, r114_47, r114_50, r114_51, r114_52, r114_53, r114_56, r114_57, r114_60, r114_63, r114_64, r114_65, r114_66, r114_69, r114_70, r114_72, r114_75, r114_78, r114_79, r114_80, r114_83, r114_86, r114_87, r114_88, r114_89, r114_92, r114_93, r114_96, r114_99, r114_100, r114_101, r114_102, r114_105, r114_108, r114_111, cs_nil, cs_cons, lc_lt, lc_ge, lc_gt, lc_le, lc_eq, ck]
        have hC2 : CB (am_cpy (am_up g1 40 6 (cpl L ρ z (g1 41) (ct (isB z) n)).2) 41 0 45 0 (ct (isB z) n : Int)) 46 l n m r L ρ z := CB_fr hC1 (fun c j hc => by rw [cpy_n (by omega), am_un (by omega)])
        refine c_bestL (d := d + 37) (f := am_cpy (am_up g1 40 6 (cpl L ρ z (g1 41) (ct (isB z) n)).2) 41 0 45 0 (ct (isB z) n : Int)) (by omega) hC2 ?_ (fun t p0 p1 p2 => by rw [cpy_n (by omega), am_un (by omega)]; exact a2 t p0 p1 p2) R ?_ 719 1 (g1 41) (g1 41) _ _ (by omega) (by omega) hR oB (fun x p0 p1 => by rw [cpy_n (by omega), am_un (by omega)]) (fun x p0 p1 => by rw [cpy_i (by omega), am_un (by omega), show (0 : Int) + (x - 0) = x by omega]) (by rw [cpy_n (by omega), am_ue]) (fun _ _ _ => rfl)
        · refine ⟨?_, ?_, ?_⟩
          · rw [cpy_n (by omega), am_un (by omega)]; exact y.1
          · rw [cpy_n (by omega), am_un (by omega)]; exact y.2.1
          · rw [cpy_n (by omega), am_un (by omega)]; exact y.2.2
        · intro g2 d1 d2 d3
          have fr : ∀ b j : Int, ¬ (b = 35 ∨ b = 41 ∨ b = 42 ∨ b = 45 ∨ (b = 40 ∧ j = 6)) → g2 b j = f b j := fun b j hb => by rw [d3 _ _ (by omega), cpy_n (by omega), am_un (by omega), a3 _ _ (by omega)]
          have g270 : ∀ c j : Int, 270 ≤ c → g2 c j = f c j := fun c j hc => fr c j (by omega)
          have hB2 : MB g2 n m r L ρ τ z := MB_fr mb (fun c j _ _ => g270 _ _ (by omega)) (fun j _ => g270 _ _ (by omega))
          have z4 : g2 0 4 = 40 := (fr _ _ (by omega)).trans (fx_0_4 aa.1)
          have z5 : g2 40 5 = 45 := (fr _ _ (by omega)).trans (fx_40_5 aa.1)
          have fin : aw_cl (d + 40) 262 [(110, 270), (0, k)] g2 (fun u f2 => u = (0, if k = -1 then R.2 else R.1 k) ∧ IV f2) := by
            simp (disch := omega) [q262, r262_0, r262_1, r262_2, r262_5, r262_8, r262_9, r262_10, r262_12, r262_15, r262_16, r262_19, r262_22, r262_23, r262_24, r262_27, r262_28, r262_29, r262_30, r262_31, r262_34, r262_37, r262_38, r262_39, r262_40, r262_41, r262_42, r262_46, r262_47, r262_50, r262_53, r262_54, r262_56, r262_59, r262_62, r262_63, r262_66, r262_67, r262_69, r262_70, r262_73, r262_76, r262_79, r262_80, r262_82, r262_83, r262_87, r262_90, r262_91, r262_92, r262_95, r262_97, r262_99, r262_100, r262_103, r262_105, r262_107, r262_110, r262_112, r262_114, r262_115, r262_119, r262_120, r262_123, r262_124, r262_127, r262_129, r262_130, r262_133, r262_135, r262_136, r262_137, r262_140, r262_143, r262_144, r262_145, r262_148, r262_150, r262_153, r262_154, r262_155, r262_158, r262_160, r262_163, r262_164, r262_167, r262_168, r262_169, q233, r233_0, r233_1, r233_4, r233_5, r233_6, cs_nil, cs_cons, lc_lt, lc_ge, lc_gt, lc_le, lc_eq, m_setOfZ hB2, mbt, mfx_u hB2.1.1, mb_m hB2, ln_301, hm0, hm0', h_isIn, am_wid2, le_T, lt_T, le_F, lt_F]
            refine m_fillB (d := d + 38) hB2 (by omega) ?_
            intro k1 x e1 e2
            have o1 : ∀ x : Int, 0 ≤ x → x < ct (isB z) n → k1 313 x = g1 41 x := fun x x0 x1 => by
              obtain ⟨u, u1, u2, u3, u4⟩ := BRw_i a1 x0 x1
              obtain ⟨v, v1, v2, v3, v4⟩ := BRw_i e1 x0 x1
              rw [u4, v4]
              have pu : isB z u = true := by unfold isB; simp [u2]
              have pv : isB z v = true := by unfold isB; simp [v2]
              by_cases q1 : u < v
              · have := ct_st (p := isB z) q1 pu; omega
              · by_cases q2 : v < u
                · have := ct_st (p := isB z) q2 pv; omega
                · omega
            have hBk : MB k1 n m r L ρ τ z := MB_fr hB2 (fun c j _ _ => e2 _ _ (by omega)) (fun j _ => e2 _ _ (by omega))
            have w61 : k1 270 61 = 313 := (mfx_u hBk.1.1).2.2.2.2.2.2.2.2.2.2.2.2.2.2.1
            simp [r262_79, r262_80, r262_82, r262_83]
            rw [r262_85]
            simp (disch := omega) [r262_87, r262_90, r262_91, r262_92, cs_nil, cs_cons, lc_lt, lc_ge, lc_gt, lc_le, lc_eq]
            refine m_sum (d := d + 34) (o := g1 41) hBk w61 (by omega) (by omega) o1 (fun x a b => (oB x a b).1) ?_
            intro k2 hk2
            have hBk2 := MB_fU hBk hk2
            have v61 : k2 270 61 = 313 := (mfx_u hBk2.1.1).2.2.2.2.2.2.2.2.2.2.2.2.2.2.1
            have v62 : k2 270 62 = 314 := (mfx_u hBk2.1.1).2.2.2.2.2.2.2.2.2.2.2.2.2.2.2.1
            have go := m_bestL (d := d + 34) (Q := fun u f2 => u = (0, if k = -1 then R.2 else R.1 k) ∧ IV f2) (k := k) (i := (ct (isB z) n : Int)) (by omega) hBk2 (by omega) R (fun g x y p1 p2 => ?_) 719 (g1 41) (g1 41) _ (cpl L ρ z (g1 41) (ct (isB z) n)).2 (ct (isB z) n : Int) (am_cpy k2 313 0 314 0 (ct (isB z) n : Int)) ox hR oB cbb.2.2.1 (fun x p0 p1 => by rw [cpy_n (by omega), hk2 _ _ (by omega)]; exact o1 x p0 p1) (fun x p0 p1 => by rw [cpy_i (by omega), show (0 : Int) + (x - 0) = x by omega, hk2 _ _ (by omega)]; exact o1 x p0 p1) (fun b j hb => by rw [cpy_n (by omega)])
            · have g3 := m_copyB (d := d + 40) (f := k2) (k := k) (i := (ct (isB z) n : Int)) (mn := (cpl L ρ z (g1 41) (ct (isB z) n)).2) (s := (cpl L ρ z (g1 41) (ct (isB z) n)).2) (x := (0, 0)) ⟨v61, v62⟩ (by omega) go
              simpa (disch := omega) [r262_95, r262_97, r262_99, r262_100, r262_110, r262_112, r262_114, r262_115] using g3
            · obtain ⟨tx, vx⟩ := x
              obtain ⟨ty, vy⟩ := y
              have q62 : g 270 62 = 314 := (p2 _ _ (by omega)).trans v62
              have hv : IV g := (IW_fr h (fun c j hc => by
                have q := SC_n hc
                rw [p2 _ _ (by omega), hk2 _ _ (by omega), e2 _ _ (by omega), fr _ _ (by omega)])).iv
              by_cases hk1 : k = -1
              · simp (disch := omega) [q262, r262_0, r262_1, r262_2, r262_5, r262_8, r262_9, r262_10, r262_12, r262_15, r262_16, r262_19, r262_22, r262_23, r262_24, r262_27, r262_28, r262_29, r262_30, r262_31, r262_34, r262_37, r262_38, r262_39, r262_40, r262_41, r262_42, r262_46, r262_47, r262_50, r262_53, r262_54, r262_56, r262_59, r262_62, r262_63, r262_66, r262_67, r262_69, r262_70, r262_73, r262_76, r262_79, r262_80, r262_82, r262_83, r262_87, r262_90, r262_91, r262_92, r262_95, r262_97, r262_99, r262_100, r262_103, r262_105, r262_107, r262_110, r262_112, r262_114, r262_115, r262_119, r262_120, r262_123, r262_124, r262_127, r262_129, r262_130, r262_133, r262_135, r262_136, r262_137, r262_140, r262_143, r262_144, r262_145, r262_148, r262_150, r262_153, r262_154, r262_155, r262_158, r262_160, r262_163, r262_164, r262_167, r262_168, r262_169, cs_nil, cs_cons, lc_lt, lc_ge, lc_gt, lc_le, lc_eq, hk1, hv]
              · have pv := p1 k (by omega) hk.2
                simp (disch := omega) [q262, r262_0, r262_1, r262_2, r262_5, r262_8, r262_9, r262_10, r262_12, r262_15, r262_16, r262_19, r262_22, r262_23, r262_24, r262_27, r262_28, r262_29, r262_30, r262_31, r262_34, r262_37, r262_38, r262_39, r262_40, r262_41, r262_42, r262_46, r262_47, r262_50, r262_53, r262_54, r262_56, r262_59, r262_62, r262_63, r262_66, r262_67, r262_69, r262_70, r262_73, r262_76, r262_79, r262_80, r262_82, r262_83, r262_87, r262_90, r262_91, r262_92, r262_95, r262_97, r262_99, r262_100, r262_103, r262_105, r262_107, r262_110, r262_112, r262_114, r262_115, r262_119, r262_120, r262_123, r262_124, r262_127, r262_129, r262_130, r262_133, r262_135, r262_136, r262_137, r262_140, r262_143, r262_144, r262_145, r262_148, r262_150, r262_153, r262_154, r262_155, r262_158, r262_160, r262_163, r262_164, r262_167, r262_168, r262_169, cs_nil, cs_cons, lc_lt, lc_ge, lc_gt, lc_le, lc_eq, hk1, q62, ln_314, pv, hv, le_T, lt_T]
          by_cases hk1 : k = -1
          · rw [if_pos hk1] at fin
            simp (disch := omega) [q113, r113_0, r113_1, r113_4, r113_5, r113_8, r113_11, r113_12, r113_13, r113_16, r113_19, r113_22, r113_25, r113_26, r113_28, r113_31, r113_32, r113_33, r113_36, r113_37, r113_38, r113_41, r113_42, r113_43, r113_44, r113_47, r113_48, r113_51, r113_54, r113_55, r113_56, r113_59, r113_60, r113_63, r113_66, r113_69, r113_70, r113_73, r113_76, r113_77, r113_78, q114, r114_0, r114_1, r114_2, r114_3, r114_5, r114_6, r114_9, r114_12, r114_15, r114_16, r114_18, r114_21, r114_22, r114_25, r114_26, r114_27, r114_28, r114_31, r114_32, r114_35, r114_36, r114_39, r114_40, r114_41, r114_42, r114_45, r114_46, r114_47, r114_50, r114_51, r114_52, r114_53, r114_56, r114_57, r114_60, r114_63, r114_64, r114_65, r114_66, r114_69, r114_70, r114_72, r114_75, r114_78, r114_79, r114_80, r114_83, r114_86, r114_87, r114_88, r114_89, r114_92, r114_93, r114_96, r114_99, r114_100, r114_101, r114_102, r114_105, r114_108, r114_111, cs_nil, cs_cons, lc_lt, lc_ge, lc_gt, lc_le, lc_eq, z4, hk1, d2]
            rw [hk1] at fin
            exact fin
          · rw [if_neg hk1] at fin
            have dv := d1 k (by omega) hk.2
            simp (disch := omega) [q113, r113_0, r113_1, r113_4, r113_5, r113_8, r113_11, r113_12, r113_13, r113_16, r113_19, r113_22, r113_25, r113_26, r113_28, r113_31, r113_32, r113_33, r113_36, r113_37, r113_38, r113_41, r113_42, r113_43, r113_44, r113_47, r113_48, r113_51, r113_54, r113_55, r113_56, r113_59, r113_60, r113_63, r113_66, r113_69, r113_70, r113_73, r113_76, r113_77, r113_78, q114, r114_0, r114_1, r114_2, r114_3, r114_5, r114_6, r114_9, r114_12, r114_15, r114_16, r114_18, r114_21, r114_22, r114_25, r114_26, r114_27, r114_28, r114_31, r114_32, r114_35, r114_36, r114_39, r114_40, r114_41, r114_42, r114_45, r114_46, r114_47, r114_50, r114_51, r114_52, r114_53, r114_56, r114_57, r114_60, r114_63, r114_64, r114_65, r114_66, r114_69, r114_70, r114_72, r114_75, r114_78, r114_79, r114_80, r114_83, r114_86, r114_87, r114_88, r114_89, r114_92, r114_93, r114_96, r114_99, r114_100, r114_101, r114_102, r114_105, r114_108, r114_111, cs_nil, cs_cons, lc_lt, lc_ge, lc_gt, lc_le, lc_eq, z4, z5, hk1, ln_45, dv, le_T, lt_T]
            exact fin
      · rcases (show k < -1 ∨ (ct (isB z) n : Int) ≤ k by omega) with hk' | hk'
        · simp (disch := omega) [q113, r113_0, r113_1, r113_4, r113_5, r113_8, r113_11, r113_12, r113_13, r113_16, r113_19, r113_22, r113_25, r113_26, r113_28, r113_31, r113_32, r113_33, r113_36, r113_37, r113_38, r113_41, r113_42, r113_43, r113_44, r113_47, r113_48, r113_51, r113_54, r113_55, r113_56, r113_59, r113_60, r113_63, r113_66, r113_69, r113_70, r113_73, r113_76, r113_77, r113_78, q262, r262_0, r262_1, r262_2, r262_5, r262_8, r262_9, r262_10, r262_12, r262_15, r262_16, r262_19, r262_22, r262_23, r262_24, r262_27, r262_28, r262_29, r262_30, r262_31, r262_34, r262_37, r262_38, r262_39, r262_40, r262_41, r262_42, r262_46, r262_47, r262_50, r262_53, r262_54, r262_56, r262_59, r262_62, r262_63, r262_66, r262_67, r262_69, r262_70, r262_73, r262_76, r262_79, r262_80, r262_82, r262_83, r262_87, r262_90, r262_91, r262_92, r262_95, r262_97, r262_99, r262_100, r262_103, r262_105, r262_107, r262_110, r262_112, r262_114, r262_115, r262_119, r262_120, r262_123, r262_124, r262_127, r262_129, r262_130, r262_133, r262_135, r262_136, r262_137, r262_140, r262_143, r262_144, r262_145, r262_148, r262_150, r262_153, r262_154, r262_155, r262_158, r262_160, r262_163, r262_164, r262_167, r262_168, r262_169, q233, r233_0, r233_1, r233_4, r233_5, r233_6, cs_nil, cs_cons, lc_lt, lc_ge, lc_gt, lc_le, lc_eq, c_fx aa.1, c_areZ cb, cbt, iw_l h, m_setOfZ mb, mbt, mfx_u mb.1.1, mb_m mb, ln_301, hm0, hm0', h_isIn, am_wid2, le_T, lt_T, le_F, lt_F, hi]
        · simp (disch := omega) [q113, r113_0, r113_1, r113_4, r113_5, r113_8, r113_11, r113_12, r113_13, r113_16, r113_19, r113_22, r113_25, r113_26, r113_28, r113_31, r113_32, r113_33, r113_36, r113_37, r113_38, r113_41, r113_42, r113_43, r113_44, r113_47, r113_48, r113_51, r113_54, r113_55, r113_56, r113_59, r113_60, r113_63, r113_66, r113_69, r113_70, r113_73, r113_76, r113_77, r113_78, q262, r262_0, r262_1, r262_2, r262_5, r262_8, r262_9, r262_10, r262_12, r262_15, r262_16, r262_19, r262_22, r262_23, r262_24, r262_27, r262_28, r262_29, r262_30, r262_31, r262_34, r262_37, r262_38, r262_39, r262_40, r262_41, r262_42, r262_46, r262_47, r262_50, r262_53, r262_54, r262_56, r262_59, r262_62, r262_63, r262_66, r262_67, r262_69, r262_70, r262_73, r262_76, r262_79, r262_80, r262_82, r262_83, r262_87, r262_90, r262_91, r262_92, r262_95, r262_97, r262_99, r262_100, r262_103, r262_105, r262_107, r262_110, r262_112, r262_114, r262_115, r262_119, r262_120, r262_123, r262_124, r262_127, r262_129, r262_130, r262_133, r262_135, r262_136, r262_137, r262_140, r262_143, r262_144, r262_145, r262_148, r262_150, r262_153, r262_154, r262_155, r262_158, r262_160, r262_163, r262_164, r262_167, r262_168, r262_169, q233, r233_0, r233_1, r233_4, r233_5, r233_6, cs_nil, cs_cons, lc_lt, lc_ge, lc_gt, lc_le, lc_eq, c_fx aa.1, c_areZ cb, cbt, iw_l h, m_setOfZ mb, mbt, mfx_u mb.1.1, mb_m mb, ln_301, hm0, hm0', h_isIn, am_wid2, le_T, lt_T, le_F, lt_F, hi]
    · simp (disch := omega) [q113, r113_0, r113_1, r113_4, r113_5, r113_8, r113_11, r113_12, r113_13, r113_16, r113_19, r113_22, r113_25, r113_26, r113_28, r113_31, r113_32, r113_33, r113_36, r113_37, r113_38, r113_41, r113_42, r113_43, r113_44, r113_47, r113_48, r113_51, r113_54, r113_55, r113_56, r113_59, r113_60, r113_63, r113_66, r113_69, r113_70, r113_73, r113_76, r113_77, r113_78, q262, r262_0, r262_1, r262_2, r262_5, r262_8, r262_9, r262_10, r262_12, r262_15, r262_16, r262_19, r262_22, r262_23, r262_24, r262_27, r262_28, r262_29, r262_30, r262_31, r262_34, r262_37, r262_38, r262_39, r262_40, r262_41, r262_42, r262_46, r262_47, r262_50, r262_53, r262_54, r262_56, r262_59, r262_62, r262_63, r262_66, r262_67, r262_69, r262_70, r262_73, r262_76, r262_79, r262_80, r262_82, r262_83, r262_87, r262_90, r262_91, r262_92, r262_95, r262_97, r262_99, r262_100, r262_103, r262_105, r262_107, r262_110, r262_112, r262_114, r262_115, r262_119, r262_120, r262_123, r262_124, r262_127, r262_129, r262_130, r262_133, r262_135, r262_136, r262_137, r262_140, r262_143, r262_144, r262_145, r262_148, r262_150, r262_153, r262_154, r262_155, r262_158, r262_160, r262_163, r262_164, r262_167, r262_168, r262_169, q233, r233_0, r233_1, r233_4, r233_5, r233_6, cs_nil, cs_cons, lc_lt, lc_ge, lc_gt, lc_le, lc_eq, c_fx aa.1, c_areZ cb, cbt, iw_l h, m_setOfZ mb, mbt, hm0, hm0', le_T, lt_T, le_F, lt_F, hi]
end
