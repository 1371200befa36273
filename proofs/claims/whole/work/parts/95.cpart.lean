/-! the class reads parts -/
section
variable {B : Int → Int} {N κ R sA s : Int} {f : am_F} {Q : am_V → am_F → Prop}
/-- a number -/
theorem c_tnY {d : Nat} {p : Int} (h : CT f B N) (hN : N ≤ 1600) (hB : ∀ j, 0 ≤ B j ∧ B j ≤ 255) (hK : CK f B N p) (p0 : 0 ≤ p) (pN : p ≤ N) (hk : tK B N p = 2) (hl : tE B N p - tS B N p ≤ 4) (hQ : ∀ g, CK g B N (tE B N p) → g 33 9 = tV B N p → (∀ c j : Int, ¬ (c = 33 ∧ 4 ≤ j ∧ j ≤ 9) → g c j = f c j) → Q (0, 1) g) : aw_cl (d + 3) 35 [(104, 33), (0, 0), (0, 9999)] f Q := by
  have tb := tok_b pN (by rw [hk]; decide)
  have vb := tV_b pN hk
  obtain ⟨a1, a2, a3, a4, a5⟩ := id hK
  simp (disch := omega) [r35_0, r35_1, r35_4, r35_5, r35_8, r35_9, r35_12, r35_13, r35_14, r35_17, r35_18, r35_21, r35_22, r35_23, cs_nil, cs_cons, lc_lt, lc_ge, lc_gt, lc_le, lc_eq, r35_38, r35_39, r35_42, r35_43, r35_46, r35_47, r35_50, r35_51, r35_54, r35_55, r35_56, r35_57, r35_60, r35_63, r35_64, r35_65, r35_66, r35_69, r35_72, r35_73, q35, a1, a2, a3, a5, hk, am_wid2, le_T, lt_T, le_F, lt_F]
  refine c_adv (CT_up h (by omega)) hN hB (by rw [am_un (by omega)]; exact a3) (by omega) tb.2.2 ?_
  intro g b1 b2
  have := hQ g b1 (by rw [b2 _ _ (by omega), am_ue]) (fun c j hc => by rw [b2 _ _ (by omega), am_un (by omega)])
  simpa [r35_76, cs_nil, cs_cons, lc_lt, lc_ge, lc_gt, lc_le, lc_eq] using this
theorem c_tnN {d : Nat} {p : Int} (hN : N ≤ 1600) (hK : CK f B N p) (p0 : 0 ≤ p) (pN : p ≤ N) (hk : tK B N p = 2) (hl : 4 < tE B N p - tS B N p) : aw_cl (d + 3) 35 [(104, 33), (0, 0), (0, 9999)] f Q = Q (0, 0) (am_up (am_up f 33 11 1) 33 12 (tS B N p + 4)) := by
  have tb := tok_b pN (by rw [hk]; decide)
  obtain ⟨a1, a2, a3, a4, a5⟩ := id hK
  apply aw_det
  simp (disch := omega) [r35_0, r35_1, r35_4, r35_5, r35_8, r35_9, r35_12, r35_13, r35_14, r35_17, r35_18, r35_21, r35_22, r35_23, r35_26, r35_27, r35_28, r35_29, r35_32, r35_33, r35_34, r35_37, cs_nil, cs_cons, lc_lt, lc_ge, lc_gt, lc_le, lc_eq, q35, a1, a2, a3, hk, am_wid2, le_T, lt_T, le_F, lt_F, c_fail]
/-- is it a part's word -/
theorem c_ipw {d : Nat} {w : Int} (h3 : f 33 3 = κ) (hw : f 33 7 = w) (w0 : -1 ≤ w) (w1 : w < 32) : aw_cl d 51 [(104, 33)] f Q = Q (0, if alw κ (pw w) = true then 1 else 0) f := by
  apply aw_det
  have hh : w = -1 ∨ w = 0 ∨ w = 1 ∨ w = 2 ∨ w = 3 ∨ w = 4 ∨ w = 5 ∨ w = 6 ∨ w = 7 ∨ w = 8 ∨ w = 9 ∨ w = 10 ∨ w = 11 ∨ w = 12 ∨ w = 13 ∨ w = 14 ∨ w = 15 ∨ w = 16 ∨ w = 17 ∨ w = 18 ∨ w = 19 ∨ w = 20 ∨ w = 21 ∨ w = 22 ∨ w = 23 ∨ w = 24 ∨ w = 25 ∨ w = 26 ∨ w = 27 ∨ w = 28 ∨ w = 29 ∨ w = 30 ∨ w = 31 := by omega
  have k1 : κ = 1 ∨ κ = 2 ∨ κ = 3 ∨ (¬ κ = 1 ∧ ¬ κ = 2 ∧ ¬ κ = 3) := by omega
  rcases hh with e | e | e | e | e | e | e | e | e | e | e | e | e | e | e | e | e | e | e | e | e | e | e | e | e | e | e | e | e | e | e | e | e <;> subst e <;> rcases k1 with e | e | e | ⟨e1, e2, e3⟩ <;> simp [q51, r51_0, r51_1, r51_4, r51_100, r51_101, r51_102, r51_103, r51_106, r51_107, r51_110, r51_111, r51_114, r51_115, r51_118, r51_119, r51_122, r51_123, r51_124, r51_125, r51_128, r51_129, r51_132, r51_133, r51_136, r51_137, r51_138, r51_139, r51_142, r51_143, r51_146, r51_147, r51_150, r51_151, r51_152, r51_153, cs_nil, cs_cons, lc_lt, lc_ge, lc_gt, lc_le, lc_eq, h3, hw, pw, alw, *]
/-- a sum in brackets -/
theorem m_0b {k : Nat} (hN : N ≤ 1600) (hB : ∀ j, 0 ≤ B j ∧ B j ≤ 255) (ih : HD B N κ R sA k) {p o : Int} {r : RR} {d : Nat} (hg : isg B N p 40 = true) (h : (if 6 ≤ o then ft 4 (tS B N p) else bd (rd B N κ k 4 (tE B N p) (o + 1)) fun p1 cs => if isg B N p1 41 = true then okR (tE B N p1) cs else ft 1 (tS B N p1)) = some r) (hU : CU f B N κ R sA) (hK : CK f B N p) (hs : f R 3 = s) (h0 : 0 ≤ s) (h1 : s + (N - p) ≤ 1600) (p0 : 0 ≤ p) (pN : p ≤ N) (o0 : 0 ≤ o) (o6 : o ≤ 6) (hd : 14 * (6 - o).toNat + 6 ≤ d + 4) (hQ : PQ B N R sA f s Q r) : aw_cl (d + 4) 49 [(104, 33), (0, o)] f Q := by
  have hR := hU.2.2
  have g1 := isg_b pN hg
  have hk := hK.1
  rw [(isg_k hg).1] at hk
  by_cases ho : 6 ≤ o
  · rw [if_pos ho] at h
    cases h
    have := hQ _ (by simp [am_up]) (by simp [am_up]) (fPw_fl (k := 4) (q := tS B N p))
    simpa (disch := omega) [r49_0, r49_1, r49_4, r49_5, cs_nil, cs_cons, lc_lt, lc_ge, lc_gt, lc_le, lc_eq, r49_39, r49_40, r49_42, r49_45, r49_48, r49_49, r49_50, r49_53, r49_56, r49_57, r49_60, r49_63, r49_64, r49_65, r49_66, r49_67, r49_70, r49_73, r49_74, r49_76, r49_79, r49_82, r49_83, r49_86, r49_87, q49, hk, c_seesS hK, hg, c_openN hK ho] using this
  · rw [if_neg ho] at h
    simp (disch := omega) [r49_0, r49_1, r49_4, r49_5, cs_nil, cs_cons, lc_lt, lc_ge, lc_gt, lc_le, lc_eq, r49_39, r49_40, r49_42, r49_45, r49_48, r49_49, r49_50, r49_53, r49_56, r49_57, q49, hk, c_seesS hK, hg, c_openY (show o < 6 by omega)]
    refine c_adv hU.1 hN hB hK.2.2.1 (by omega) g1.2 ?_
    intro g b1 b2
    have fp : fP R sA s f g := fun c j hc => b2 c j (by omega)
    simp (disch := omega) [r49_60, r49_63, r49_64, r49_65, r49_66, r49_67, cs_nil, cs_cons, lc_lt, lc_ge, lc_gt, lc_le, lc_eq, am_wid2]
    refine d_sub (m1 := 4) ih h (CU_fP hU fp h0) b1 ((b2 _ _ (by omega)).trans hs) h0 (by omega) (by omega) g1.2 (by omega) (by omega) (show _ + 8 ≤ d + 3 by omega) _ ?_ ?_
    · intro k1 w1 g' e a b c
      subst e
      have := hQ g' a b (fPw_tr (Int.le_refl _) fp c)
      simpa [r49_70, r49_73, r49_74, r49_76, r49_79, r49_82, r49_83, r49_86, r49_87, cs_nil, cs_cons, lc_lt, lc_ge, lc_gt, lc_le, lc_eq] using this
    · intro p1 c1 g' e a1 a2 a3 a4 a5 a6 a7 a8
      simp [r49_70, r49_73, r49_74, r49_76, cs_nil, cs_cons, lc_lt, lc_ge, lc_gt, lc_le, lc_eq]
      by_cases hc : isg B N p1 41 = true
      · rw [if_pos hc] at e
        cases e
        refine c_takeSY a4.1 hN hB a5 (by omega) a2 hc ?_
        intro g2 d1 d2
        have f2 : fP R sA s g' g2 := fun c j hc => d2 c j (by omega)
        have := hQ g2 d1 ((d2 _ _ (by omega)).trans a6) (al_fr c1 s (fun j j0 j1 => d2 _ _ (by omega)) a7) (fP_tr (Int.le_refl _) fp (fP_tr (Int.le_refl _) a8 f2))
        simpa [r49_79, r49_82, r49_83, r49_86, r49_87, cs_nil, cs_cons, lc_lt, lc_ge, lc_gt, lc_le, lc_eq] using this
      · rw [if_neg hc] at e
        cases e
        have := hQ _ (by simp [am_up]) (by simp [am_up]) (fPw_tr (Int.le_refl _) fp (fPw_tr (Int.le_refl _) a8 (fPw_fl (k := 1) (q := tS B N p1))))
        rw [c_takeSN a5 hc]
        simpa [r49_79, r49_82, r49_83, r49_86, r49_87, cs_nil, cs_cons, lc_lt, lc_ge, lc_gt, lc_le, lc_eq] using this
/-- a part of a trial -/
theorem m_0o {k : Nat} (hN : N ≤ 1600) (hB : ∀ j, 0 ≤ B j ∧ B j ≤ 255) (ih : HD B N κ R sA k) {p o : Int} {r : RR} {d : Nat} (hw : tW B N p = 8) (hq : κ = 3) (h : (if 6 ≤ o then ft 4 (tS B N p) else bd (rd B N κ k 0 (tE B N p) (o + 1)) fun p1 cs => okR p1 (cs ++ [60])) = some r) (hU : CU f B N κ R sA) (hK : CK f B N p) (hs : f R 3 = s) (h0 : 0 ≤ s) (h1 : s + (N - p) ≤ 1600) (p0 : 0 ≤ p) (pN : p ≤ N) (o0 : 0 ≤ o) (o6 : o ≤ 6) (hd : 14 * (6 - o).toNat + 6 ≤ d + 4) (hQ : PQ B N R sA f s Q r) : aw_cl (d + 4) 49 [(104, 33), (0, o)] f Q := by
  have hR := hU.2.2
  have g1 := tW_b pN (show ¬ tW B N p = -1 by omega)
  have hk := hK.1
  rw [tW_k (show ¬ tW B N p = -1 by omega)] at hk
  have hg : ∀ c, ¬ isg B N p c = true := fun c q => by
    have := (isg_k q).1
    rw [tW_k (show ¬ tW B N p = -1 by omega)] at this
    exact absurd this (by decide)
  have h3 := hU.2.1.2.1
  rw [hq] at h3
  by_cases ho : 6 ≤ o
  · rw [if_pos ho] at h
    cases h
    have := hQ _ (by simp [am_up]) (by simp [am_up]) (fPw_fl (k := 4) (q := tS B N p))
    simpa (disch := omega) [r49_0, r49_1, r49_4, r49_5, cs_nil, cs_cons, lc_lt, lc_ge, lc_gt, lc_le, lc_eq, r49_39, r49_40, r49_42, r49_45, r49_88, r49_89, r49_91, r49_94, r49_97, r49_98, r49_100, r49_103, r49_120, r49_121, r49_123, r49_126, r49_129, r49_130, r49_133, r49_134, r49_137, r49_138, r49_139, r49_142, r49_145, r49_146, r49_149, r49_152, r49_153, r49_154, r49_155, r49_156, r49_159, r49_162, r49_163, r49_166, r49_169, r49_172, r49_175, r49_176, r49_179, r49_180, q49, hk, hg, h3, c_seesS hK, c_seesW hK, hw, c_openN hK ho] using this
  · rw [if_neg ho] at h
    simp (disch := omega) [r49_0, r49_1, r49_4, r49_5, cs_nil, cs_cons, lc_lt, lc_ge, lc_gt, lc_le, lc_eq, r49_39, r49_40, r49_42, r49_45, r49_88, r49_89, r49_91, r49_94, r49_97, r49_98, r49_100, r49_103, r49_120, r49_121, r49_123, r49_126, r49_129, r49_130, r49_133, r49_134, r49_137, r49_138, r49_139, r49_142, r49_145, r49_146, q49, hk, hg, h3, c_seesS hK, c_seesW hK, hw, c_openY (show o < 6 by omega)]
    refine c_adv hU.1 hN hB hK.2.2.1 (by omega) g1.2 ?_
    intro g b1 b2
    have fp : fP R sA s f g := fun c j hc => b2 c j (by omega)
    simp (disch := omega) [r49_149, r49_152, r49_153, r49_154, r49_155, r49_156, cs_nil, cs_cons, lc_lt, lc_ge, lc_gt, lc_le, lc_eq, am_wid2]
    refine d_sub (m1 := 0) ih h (CU_fP hU fp h0) b1 ((b2 _ _ (by omega)).trans hs) h0 (by omega) (by omega) g1.2 (by omega) (by omega) (show _ + 6 ≤ d + 3 by omega) _ ?_ ?_
    · intro k1 w1 g' e a b c
      subst e
      have := hQ g' a b (fPw_tr (Int.le_refl _) fp c)
      simpa [r49_159, r49_162, r49_163, r49_166, r49_169, r49_172, r49_175, r49_176, r49_179, r49_180, cs_nil, cs_cons, lc_lt, lc_ge, lc_gt, lc_le, lc_eq] using this
    · intro p1 c1 g' e a1 a2 a3 a4 a5 a6 a7 a8
      cases e
      have e2 := a4.2.1.1
      have r0 : 0 ≤ R := by omega
      have := hQ (am_up (am_up g' R 3 (s + c1.length + 1)) sA (s + c1.length) (cst 60)) (CK_fr a5 (fun j _ _ => by rw [am_un (by omega), am_un (by omega)])) (by rw [am_un (by omega), am_ue, List.length_append]; simp; omega) (al_app c1 [60] s (al_fr c1 s (fun j j0 j1 => by rw [am_un (by omega), am_un (by omega)]) a7) ⟨by rw [am_ue], trivial⟩) (fP_tr (Int.le_refl _) fp (fP_tr (Int.le_refl _) a8 (fP_ad (by omega))))
      rw [show cst 60 = 10008 by decide] at this
      simp (disch := omega) [r49_159, r49_162, r49_163, r49_166, r49_169, r49_172, r49_175, r49_176, r49_179, r49_180, cs_nil, cs_cons, lc_lt, lc_ge, lc_gt, lc_le, lc_eq, e2, c_add a4 a6 (by omega) (by omega)]
      exact ⟨r0, this⟩
/-- a number as a part -/
theorem m_0n {p o : Int} {r : RR} {d : Nat} (hN : N ≤ 1600) (hB : ∀ j, 0 ≤ B j ∧ B j ≤ 255) (hk : tK B N p = 2) (h : (if 4 < tE B N p - tS B N p then ft 1 (tS B N p + 4) else okR (tE B N p) [1000 + tV B N p]) = some r) (hU : CU f B N κ R sA) (hK : CK f B N p) (hs : f R 3 = s) (h0 : 0 ≤ s) (h1 : s + (N - p) ≤ 1600) (p0 : 0 ≤ p) (pN : p ≤ N) (hQ : PQ B N R sA f s Q r) : aw_cl (d + 4) 49 [(104, 33), (0, o)] f Q := by
  have hR := hU.2.2
  have k1 := hK.1
  rw [hk] at k1
  have vb := tV_b pN hk
  by_cases hl : 4 < tE B N p - tS B N p
  · rw [if_pos hl] at h
    cases h
    have := hQ _ (by simp [am_up]) (by simp [am_up]) (fPw_fl (k := 1) (q := tS B N p + 4))
    simpa [r49_0, r49_1, r49_4, r49_5, r49_8, r49_9, r49_10, r49_13, r49_16, r49_19, r49_20, r49_23, r49_24, r49_27, r49_30, r49_33, r49_34, r49_37, r49_38, cs_nil, cs_cons, lc_lt, lc_ge, lc_gt, lc_le, lc_eq, q49, k1, c_tnN hN hK p0 pN hk hl] using this
  · rw [if_neg hl] at h
    cases h
    simp [r49_0, r49_1, r49_4, r49_5, r49_8, r49_9, r49_10, r49_13, cs_nil, cs_cons, lc_lt, lc_ge, lc_gt, lc_le, lc_eq, q49, k1]
    refine c_tnY hU.1 hN hB hK p0 pN hk (by omega) ?_
    intro g b1 b2 b3
    have fp : fP R sA s f g := fun c j hc => b3 c j (by omega)
    have a4 := CU_fP hU fp h0
    have e2 := a4.2.1.1
    have r0 : 0 ≤ R := by omega
    have ec : cst (1000 + tV B N p) = tV B N p := by unfold cst; rw [if_pos (by omega)]; omega
    have := hQ (am_up (am_up g R 3 (s + 1)) sA s (tV B N p)) (CK_fr b1 (fun j _ _ => by rw [am_un (by omega), am_un (by omega)])) (by rw [am_un (by omega), am_ue]; simp) ⟨by rw [am_ue, ec], trivial⟩ (fP_tr (Int.le_refl _) fp (fP_ad (by omega)))
    simp (disch := omega) [r49_16, r49_19, r49_20, r49_23, r49_24, r49_27, r49_30, r49_33, r49_34, r49_37, r49_38, cs_nil, cs_cons, lc_lt, lc_ge, lc_gt, lc_le, lc_eq, e2, b2, c_add a4 ((b3 _ _ (by omega)).trans hs) h0 (by omega)]
    exact ⟨r0, this⟩
end
