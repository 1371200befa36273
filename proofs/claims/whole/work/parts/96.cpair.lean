/-! the class reads pairs and words; all it reads -/
section
variable {B : Int → Int} {N κ R sA s : Int} {f : am_F} {Q : am_V → am_F → Prop}
theorem tW_r {p : Int} : -1 ≤ tW B N p ∧ tW B N p < 32 := by
  unfold tW
  split
  · rcases fdW_b (B := B) (s := tS B N p) (e := tE B N p) WL 0 (by omega) with h | h
    · omega
    · have e : (WL.length : Int) = 32 := rfl
      omega
  · omega
/-- the lesser, the greater of two sums -/
theorem c_pair {k : Nat} (hN : N ≤ 1600) (hB : ∀ j, 0 ≤ B j ∧ B j ≤ 255) (ih : HD B N κ R sA k) {p o op v : Int} {r : RR} {d : Nat} (hv : cst op = v) (hw : ¬ tW B N p = -1) (h : (if isg B N (tE B N p) 40 = true then (if 6 ≤ o then ft 4 (tS B N (tE B N p)) else bd (rd B N κ k 4 (tE B N (tE B N p)) (o + 1)) fun p2 c1 => if isg B N p2 44 = true then bd (rd B N κ k 4 (tE B N p2) (o + 1)) (fun p3 c2 => if isg B N p3 41 = true then okR (tE B N p3) (c1 ++ (c2 ++ [op])) else ft 1 (tS B N p3)) else ft 1 (tS B N p2)) else ft 1 (tS B N (tE B N p))) = some r) (hU : CU f B N κ R sA) (hK : CK f B N p) (hs : f R 3 = s) (h0 : 0 ≤ s) (h1 : s + (N - p) ≤ 1600) (p0 : 0 ≤ p) (pN : p ≤ N) (o0 : 0 ≤ o) (o6 : o ≤ 6) (hd : 14 * (6 - o).toNat + 6 ≤ d + 5) (hQ : PQ B N R sA f s Q r) : aw_cl (d + 4) 50 [(104, 33), (0, o), (0, v)] f Q := by
  have hR := hU.2.2
  have g0 := tW_b pN hw
  simp [r50_0, r50_1, cs_nil, cs_cons, lc_lt, lc_ge, lc_gt, lc_le, lc_eq, q50]
  refine c_adv hU.1 hN hB hK.2.2.1 (by omega) g0.2 ?_
  intro g b1 b2
  have fp : fP R sA s f g := fun c j hc => b2 c j (by omega)
  by_cases hg : isg B N (tE B N p) 40 = true
  · rw [if_pos hg] at h
    have g1 := isg_b g0.2 hg
    by_cases ho : 6 ≤ o
    · rw [if_pos ho] at h
      cases h
      have := hQ _ (by simp [am_up]) (by simp [am_up]) (fPw_tr (Int.le_refl _) fp (fPw_fl (k := 4) (q := tS B N (tE B N p))))
      simpa (disch := omega) [r50_4, r50_5, r50_6, r50_8, r50_11, r50_14, r50_15, r50_18, r50_19, r50_20, r50_21, r50_24, cs_nil, cs_cons, lc_lt, lc_ge, lc_gt, lc_le, lc_eq, r50_87, r50_88, c_seesS b1, hg, c_openN b1 ho] using this
    · rw [if_neg ho] at h
      simp (disch := omega) [r50_4, r50_5, r50_6, r50_8, r50_11, r50_14, r50_15, r50_18, r50_19, r50_20, r50_21, r50_24, r50_27, r50_28, cs_nil, cs_cons, lc_lt, lc_ge, lc_gt, lc_le, lc_eq, c_seesS b1, hg, c_openY (show o < 6 by omega)]
      refine c_adv (CU_fP hU fp h0).1 hN hB b1.2.2.1 (by omega) g1.2 ?_
      intro g2 b3 b4
      have fp2 : fP R sA s f g2 := fP_tr (Int.le_refl _) fp (fun c j hc => b4 c j (by omega))
      simp (disch := omega) [r50_31, r50_34, r50_35, r50_36, r50_37, r50_38, cs_nil, cs_cons, lc_lt, lc_ge, lc_gt, lc_le, lc_eq, am_wid2]
      refine d_sub (m1 := 4) ih h (CU_fP hU fp2 h0) b3 ((b4 _ _ (by omega)).trans ((b2 _ _ (by omega)).trans hs)) h0 (by omega) (by omega) g1.2 (by omega) (by omega) (show _ + 8 ≤ d + 3 by omega) _ ?_ ?_
      · intro k1 w1 g' e a b c
        subst e
        have := hQ g' a b (fPw_tr (Int.le_refl _) fp2 c)
        simpa [r50_41, r50_44, r50_45, r50_47, r50_50, r50_53, r50_54, r50_55, r50_56, r50_57, r50_60, r50_63, r50_64, r50_66, r50_69, r50_72, r50_73, r50_76, r50_77, r50_80, r50_83, r50_84, r50_87, r50_88, cs_nil, cs_cons, lc_lt, lc_ge, lc_gt, lc_le, lc_eq] using this
      · intro p2 c1 g' e a1 a2 a3 a4 a5 a6 a7 a8
        simp [r50_41, r50_44, r50_45, r50_47, cs_nil, cs_cons, lc_lt, lc_ge, lc_gt, lc_le, lc_eq]
        by_cases hc : isg B N p2 44 = true
        · rw [if_pos hc] at e
          have g2' := isg_b a2 hc
          refine c_takeSY a4.1 hN hB a5 (by omega) a2 hc ?_
          intro g3 d1 d2
          have f3 : fP R sA (s + c1.length) g' g3 := fun c j hc => d2 c j (by omega)
          have f3' : fP R sA s f g3 := fP_tr (Int.le_refl _) fp2 (fP_tr (by omega) a8 f3)
          simp (disch := omega) [r50_50, r50_53, r50_54, r50_55, r50_56, r50_57, cs_nil, cs_cons, lc_lt, lc_ge, lc_gt, lc_le, lc_eq, am_wid2]
          refine d_sub (m1 := 4) ih e (CU_fP hU f3' h0) d1 ((d2 _ _ (by omega)).trans a6) (by omega) (by omega) (by omega) g2'.2 (by omega) (by omega) (show _ + 8 ≤ d + 3 by omega) _ ?_ ?_
          · intro k1 w1 g4 e a b c
            subst e
            have := hQ g4 a b (fPw_tr (by omega) f3' c)
            simpa [r50_60, r50_63, r50_64, r50_66, r50_69, r50_72, r50_73, r50_76, r50_77, r50_80, r50_83, r50_84, r50_87, r50_88, cs_nil, cs_cons, lc_lt, lc_ge, lc_gt, lc_le, lc_eq] using this
          · intro p3 c2 g4 e e1 e2 e3 e4 e5 e6 e7 e8
            simp [r50_60, r50_63, r50_64, r50_66, cs_nil, cs_cons, lc_lt, lc_ge, lc_gt, lc_le, lc_eq]
            by_cases hc3 : isg B N p3 41 = true
            · rw [if_pos hc3] at e
              cases e
              refine c_takeSY e4.1 hN hB e5 (by omega) e2 hc3 ?_
              intro g5 i1 i2
              have f5 : fP R sA (s + c1.length + c2.length) g4 g5 := fun c j hc => i2 c j (by omega)
              have f5' : fP R sA s f g5 := fP_tr (by omega) f3' (fP_tr (by omega) e8 f5)
              have hU5 := CU_fP hU f5' h0
              have ee := hU5.2.1.1
              have r0 : 0 ≤ R := by omega
              have k1 : al (am_up (am_up g5 R 3 (s + c1.length + c2.length + 1)) sA (s + c1.length + c2.length) (cst op)) sA cst s c1 := al_fr c1 s (fun j j0 j1 => by rw [am_un (by omega), am_un (by omega), i2 _ _ (by omega), e8 _ _ (by omega), d2 _ _ (by omega)]) a7
              have k2 : al (am_up (am_up g5 R 3 (s + c1.length + c2.length + 1)) sA (s + c1.length + c2.length) (cst op)) sA cst (s + c1.length) c2 := al_fr c2 _ (fun j j0 j1 => by rw [am_un (by omega), am_un (by omega), i2 _ _ (by omega)]) e7
              have := hQ (am_up (am_up g5 R 3 (s + c1.length + c2.length + 1)) sA (s + c1.length + c2.length) (cst op)) (CK_fr i1 (fun j _ _ => by rw [am_un (by omega), am_un (by omega)])) (by rw [am_un (by omega), am_ue, List.length_append, List.length_append]; simp; omega) (al_app c1 _ s k1 (al_app c2 [op] _ k2 ⟨by rw [am_ue], trivial⟩)) (fP_tr (Int.le_refl _) f5' (fP_ad (by omega)))
              rw [hv] at this
              simp (disch := omega) [r50_69, r50_72, r50_73, r50_76, r50_77, r50_80, r50_83, r50_84, r50_87, r50_88, cs_nil, cs_cons, lc_lt, lc_ge, lc_gt, lc_le, lc_eq, ee, am_wid2, c_add hU5 ((i2 _ _ (by omega)).trans e6) (by omega) (by omega)]
              exact ⟨r0, this⟩
            · rw [if_neg hc3] at e
              cases e
              have := hQ _ (by simp [am_up]) (by simp [am_up]) (fPw_tr (by omega) f3' (fPw_tr (Int.le_refl _) e8 (fPw_fl (k := 1) (q := tS B N p3))))
              rw [c_takeSN e5 hc3]
              simpa [r50_69, r50_72, r50_73, r50_76, r50_77, r50_80, r50_83, r50_84, r50_87, r50_88, cs_nil, cs_cons, lc_lt, lc_ge, lc_gt, lc_le, lc_eq] using this
        · rw [if_neg hc] at e
          cases e
          have := hQ _ (by simp [am_up]) (by simp [am_up]) (fPw_tr (Int.le_refl _) fp2 (fPw_tr (Int.le_refl _) a8 (fPw_fl (k := 1) (q := tS B N p2))))
          rw [c_takeSN a5 hc]
          simpa [r50_50, r50_53, r50_54, r50_55, r50_56, r50_57, r50_60, r50_63, r50_64, r50_66, r50_69, r50_72, r50_73, r50_76, r50_77, r50_80, r50_83, r50_84, r50_87, r50_88, cs_nil, cs_cons, lc_lt, lc_ge, lc_gt, lc_le, lc_eq] using this
  · rw [if_neg hg] at h
    cases h
    have := hQ _ (by simp [am_up]) (by simp [am_up]) (fPw_tr (Int.le_refl _) fp (fPw_fl (k := 1) (q := tS B N (tE B N p))))
    simpa (disch := omega) [r50_4, r50_5, r50_6, r50_8, r50_11, r50_14, r50_15, r50_18, cs_nil, cs_cons, lc_lt, lc_ge, lc_gt, lc_le, lc_eq, c_seesS b1, hg, c_wrong b1] using this
theorem cst_pw {w : Int} (h : 0 ≤ pw w) : cst (40 + pw w) = 10000 + w := by
  have hh : w = 1 ∨ w = 2 ∨ w = 3 ∨ w = 15 ∨ w = 16 ∨ w = 17 ∨ w = 18 ∨ w = 5 ∨ w = 19 ∨ w = 20 ∨ pw w = -1 := by
    unfold pw
    repeat' split
    all_goals omega
  rcases hh with e | e | e | e | e | e | e | e | e | e | e
  all_goals first | (subst e; decide) | omega
theorem m_0 {k : Nat} (hN : N ≤ 1600) (hB : ∀ j, 0 ≤ B j ∧ B j ≤ 255) (ih : HD B N κ R sA k) : HM B N κ R sA k 0 := by
  intro p o r f s Q dd h hU hK hs h0 h1 p0 pN o0 o6 hd hQ
  have hd : 14 * (6 - o).toNat + 6 ≤ dd := hd
  obtain ⟨d, rfl⟩ : ∃ d, dd = d + 5 := ⟨dd - 5, by omega⟩
  have hR := hU.2.2
  show aw_cl (d + 5) 49 [(104, 33), (0, o)] f Q
  rw [rd] at h
  by_cases hk : tK B N p = 2
  · rw [if_pos hk] at h
    exact m_0n hN hB hk h hU hK hs h0 h1 p0 pN hQ
  rw [if_neg hk] at h
  have hk' : ¬ f 33 4 = 2 := by rw [hK.1]; exact hk
  by_cases hb : isg B N p 40 = true
  · rw [if_pos hb] at h
    exact m_0b hN hB ih hb h hU hK hs h0 h1 p0 pN o0 o6 hd hQ
  rw [if_neg hb] at h
  by_cases hw : tW B N p = 26 ∨ tW B N p = 27
  · rw [if_pos hw] at h
    have g0 := tW_b pN (show ¬ tW B N p = -1 by omega)
    have e7 := hK.2.2.2.1
    have hv : cst (tW B N p - 21) = 10000 + tW B N p := by rcases hw with e | e <;> rw [e] <;> decide
    have fin : aw_wp (d + 5) 49 106 [(104, 33), (0, o)] [] f Q := by
      have w32 := tW_r (B := B) (N := N) (p := p)
      simp (disch := omega) [r49_106, r49_107, r49_108, r49_111, r49_112, r49_115, r49_116, cs_nil, cs_cons, lc_lt, lc_ge, lc_gt, lc_le, lc_eq, e7, am_wid2]
      refine c_pair hN hB ih hv (by omega) h hU hK hs h0 h1 p0 pN o0 o6 (by omega) ?_
      match r, hQ with
      | .inl (k, q), hQ => exact fun g' a b c => by simpa [r49_119, cs_nil, cs_cons, lc_lt, lc_ge, lc_gt, lc_le, lc_eq] using hQ g' a b c
      | .inr (p', cs), hQ => exact fun g' a b c e => by simpa [r49_119, cs_nil, cs_cons, lc_lt, lc_ge, lc_gt, lc_le, lc_eq] using hQ g' a b c e
    by_cases h26 : tW B N p = 26
    · simpa (disch := omega) [r49_0, r49_1, r49_4, r49_5, cs_nil, cs_cons, lc_lt, lc_ge, lc_gt, lc_le, lc_eq, r49_39, r49_40, r49_42, r49_45, r49_88, r49_89, r49_91, r49_94, r49_97, r49_98, r49_100, r49_103, q49, hk', c_seesS hK, hb, c_seesW hK, h26] using fin
    · have h27 : tW B N p = 27 := by omega
      simpa (disch := omega) [r49_0, r49_1, r49_4, r49_5, cs_nil, cs_cons, lc_lt, lc_ge, lc_gt, lc_le, lc_eq, r49_39, r49_40, r49_42, r49_45, r49_88, r49_89, r49_91, r49_94, r49_97, r49_98, r49_100, r49_103, q49, hk', c_seesS hK, hb, c_seesW hK, h27] using fin
  rw [if_neg hw] at h
  have h26 : ¬ tW B N p = 26 := by omega
  have h27 : ¬ tW B N p = 27 := by omega
  by_cases hi : tW B N p = 8 ∧ κ = 3
  · rw [if_pos hi] at h
    exact m_0o hN hB ih hi.1 hi.2 h hU hK hs h0 h1 p0 pN o0 o6 hd hQ
  rw [if_neg hi] at h
  have h3 := hU.2.1.2.1
  have w32 := tW_r (B := B) (N := N) (p := p)
  have to : aw_wp (d + 5) 49 181 [(104, 33), (0, o)] [] f Q → aw_cl (d + 5) 49 [(104, 33), (0, o)] f Q := by
    intro fin
    by_cases h8 : tW B N p = 8
    · have hκ : ¬ κ = 3 := fun q => hi ⟨h8, q⟩
      simpa (disch := omega) [r49_0, r49_1, r49_4, r49_5, cs_nil, cs_cons, lc_lt, lc_ge, lc_gt, lc_le, lc_eq, r49_39, r49_40, r49_42, r49_45, r49_88, r49_89, r49_91, r49_94, r49_97, r49_98, r49_100, r49_103, r49_120, r49_121, r49_123, r49_126, r49_129, r49_130, r49_133, r49_134, q49, hk', c_seesS hK, hb, c_seesW hK, h26, h27, h8, h3, hκ] using fin
    · simpa (disch := omega) [r49_0, r49_1, r49_4, r49_5, cs_nil, cs_cons, lc_lt, lc_ge, lc_gt, lc_le, lc_eq, r49_39, r49_40, r49_42, r49_45, r49_88, r49_89, r49_91, r49_94, r49_97, r49_98, r49_100, r49_103, r49_120, r49_121, r49_123, r49_126, r49_129, r49_130, r49_133, r49_134, q49, hk', c_seesS hK, hb, c_seesW hK, h26, h27, h8] using fin
  apply to
  have e7 := hK.2.2.2.1
  by_cases ha : alw κ (pw (tW B N p)) = true
  · rw [if_pos ha] at h
    cases h
    have ab := alw_b ha
    have wn : ¬ tW B N p = -1 := fun q => by rw [q] at ab; exact absurd ab.1 (by decide)
    have k1 := hK.1
    rw [tW_k wn] at k1
    have g1 := tW_b pN wn
    have e2 := hU.2.1.1
    have r0 : 0 ≤ R := by omega
    simp (disch := omega) [r49_181, r49_182, r49_185, r49_186, r49_189, r49_190, r49_193, r49_196, r49_197, r49_200, r49_203, r49_204, r49_207, r49_208, cs_nil, cs_cons, lc_lt, lc_ge, lc_gt, lc_le, lc_eq, k1, c_ipw h3 e7 w32.1 w32.2, ha, e7, e2, am_wid2, c_add hU hs h0 (by omega)]
    refine ⟨r0, ?_⟩
    have fp : fP R sA s f (am_up (am_up f R 3 (s + 1)) sA s (10000 + tW B N p)) := fP_ad (by omega)
    simp [r49_211, r49_214, r49_215, cs_nil, cs_cons, lc_lt, lc_ge, lc_gt, lc_le, lc_eq]
    refine c_adv (CU_fP hU fp h0).1 hN hB (by rw [am_un (by omega), am_un (by omega)]; exact hK.2.2.1) (by omega) g1.2 ?_
    intro g b1 b2
    have := hQ g b1 (by rw [b2 _ _ (by omega), am_un (by omega), am_ue]; simp) ⟨by rw [b2 _ _ (by omega), am_ue, cst_pw ab.1], trivial⟩ (fP_tr (Int.le_refl _) fp (fun c j hc => b2 c j (by omega)))
    simpa [r49_218, r49_221, r49_222, r49_225, r49_226, cs_nil, cs_cons, lc_lt, lc_ge, lc_gt, lc_le, lc_eq] using this
  · rw [if_neg ha] at h
    cases h
    have := hQ _ (by simp [am_up]) (by simp [am_up]) (fPw_fl (k := 1) (q := tS B N p))
    by_cases k1 : tK B N p = 1
    · have k1' := hK.1
      rw [k1] at k1'
      simpa (disch := omega) [r49_181, r49_182, r49_185, r49_186, r49_189, r49_190, r49_193, cs_nil, cs_cons, lc_lt, lc_ge, lc_gt, lc_le, lc_eq, r49_227, r49_228, r49_231, k1', c_ipw h3 e7 w32.1 w32.2, ha, c_wrong hK] using this
    · have k1' : ¬ f 33 4 = 1 := by rw [hK.1]; exact k1
      simpa (disch := omega) [r49_181, r49_182, r49_185, r49_186, r49_189, r49_190, r49_193, cs_nil, cs_cons, lc_lt, lc_ge, lc_gt, lc_le, lc_eq, r49_227, r49_228, r49_231, k1', c_wrong hK] using this
theorem c_rd (hN : N ≤ 1600) (hB : ∀ j, 0 ≤ B j ∧ B j ≤ 255) : ∀ k, HD B N κ R sA k
  | 0 => by
    intro mode p o r f s Q dd h
    cases h
  | k + 1 => by
    have ih := c_rd hN hB k
    intro mode
    match mode with
    | 0 => exact m_0 hN hB ih
    | 1 => exact m_1 hN hB ih
    | 2 => exact m_2 hN hB ih
    | 3 => exact m_3 hN ih
    | 4 => exact m_4 hN ih
    | 5 => exact m_5 hN hB ih
    | 6 => exact m_6 hN hB ih
    | 7 => exact m_7 hN ih
    | 8 => exact m_8 hN hB ih
    | j + 9 =>
      intro p o r f s Q dd h hU hK hs h0 h1 p0 pN o0 o6 hd hQ
      have e : rd B N κ (k + 1) (j + 9) p o = rd B N κ (k + 1) 9 p o := rfl
      have l : lvd (j + 9) = lvd 9 := by unfold lvd; simp
      have gc : GC N p (j + 9) dd o f Q = GC N p 9 dd o f Q := by unfold GC; simp
      rw [gc]
      exact m_9 hN ih p o r f s Q dd (e ▸ h) hU hK hs h0 h1 p0 pN o0 o6 (l ▸ hd) hQ
end
