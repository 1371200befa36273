/-! the class reads facts and parts -/
section
variable {B : Int → Int} {N κ R sA s : Int} {f : am_F} {Q : am_V → am_F → Prop}
/-- a reading within another -/
theorem d_sub {k : Nat} (ih : HD B N κ R sA k) {m1 : Nat} {p o : Int} {r : RR} {dd : Nat} {h : Int → List Int → Option RR} (hx : bd (rd B N κ k m1 p o) h = some r) (hU : CU f B N κ R sA) (hK : CK f B N p) (hs : f R 3 = s) (h0 : 0 ≤ s) (h1 : s + (N - p) ≤ 1600) (p0 : 0 ≤ p) (pN : p ≤ N) (o0 : 0 ≤ o) (o6 : o ≤ 6) (hd1 : 14 * (6 - o).toNat + lvd m1 ≤ dd)
    (Q1 : am_V → am_F → Prop) (q0 : ∀ k1 w1 g, r = .inl (k1, w1) → g 33 11 = k1 → g 33 12 = w1 → fPw R sA s f g → Q1 (0, 0) g)
    (q1 : ∀ p1 c1 g, h p1 c1 = some r → p ≤ p1 → p1 ≤ N → (c1.length : Int) ≤ p1 - p → CU g B N κ R sA → CK g B N p1 → g R 3 = s + c1.length → al g sA cst s c1 → fP R sA s f g → Q1 (0, 1) g) : GC N p m1 dd o f Q1 := by
  cases e1 : rd B N κ k m1 p o with
  | none => rw [e1] at hx; cases hx
  | some r1 =>
    rw [e1] at hx
    refine ih m1 p o r1 f s Q1 dd e1 hU hK hs h0 h1 p0 pN o0 o6 hd1 ?_
    match r1, hx with
    | .inl (k1, w1), hx =>
      cases hx
      exact fun g a b c => q0 k1 w1 g rfl a b c
    | .inr (p1, c1), hx =>
      intro g a1 a2 a3 a4
      have ln := (rd_len k m1 p o p1 c1 e1 pN).1
      exact q1 p1 c1 g hx ln.1 ln.2.1 ln.2.2 (CU_fP hU a4 h0) a1 a2 a3 a4
theorem fPw_fl {k q : Int} : fPw R sA s f (am_up (am_up f 33 11 k) 33 12 q) := fun c j hc => by rw [am_un (by omega), am_un (by omega)]
theorem fP_ad {t v : Int} (ht : s ≤ t) : fP R sA s f (am_up (am_up f R 3 (t + 1)) sA t v) := fun c j hc => by rw [am_un (by omega), am_un (by omega)]
/-- not, and a fact -/
theorem m_5n {k : Nat} (hN : N ≤ 1600) (hB : ∀ j, 0 ≤ B j ∧ B j ≤ 255) (ih : HD B N κ R sA k) {p o : Int} {r : RR} {d : Nat} (hw : tW B N p = 24) (h : (if 6 ≤ o then ft 4 (tS B N p) else bd (rd B N κ k 5 (tE B N p) (o + 1)) fun p1 cs => okR p1 (cs ++ [12])) = some r) (hU : CU f B N κ R sA) (hK : CK f B N p) (hs : f R 3 = s) (h0 : 0 ≤ s) (h1 : s + (N - p) ≤ 1600) (p0 : 0 ≤ p) (pN : p ≤ N) (o0 : 0 ≤ o) (o6 : o ≤ 6) (hd : 14 * (6 - o).toNat + 10 ≤ d + 4) (hQ : PQ B N R sA f s Q r) : aw_cl (d + 4) 41 [(104, 33), (0, o)] f Q := by
  have hR := hU.2.2
  have g1 := tW_b pN (show ¬ tW B N p = -1 by omega)
  by_cases ho : 6 ≤ o
  · rw [if_pos ho] at h
    cases h
    have := hQ _ (by simp [am_up]) (by simp [am_up]) (fPw_fl (k := 4) (q := tS B N p))
    simpa (disch := omega) [q41, r41_0, r41_1, r41_3, r41_6, r41_9, r41_10, r41_11, r41_14, r41_17, r41_18, r41_21, r41_24, r41_25, r41_26, r41_27, r41_28, r41_31, r41_34, r41_35, r41_38, r41_41, r41_44, r41_47, r41_48, r41_51, r41_52, r41_53, r41_54, r41_56, r41_59, r41_62, r41_63, r41_64, r41_67, r41_70, r41_71, r41_74, r41_77, r41_78, r41_79, r41_80, r41_81, r41_84, r41_87, r41_88, r41_90, r41_93, r41_96, r41_97, r41_100, r41_101, r41_102, r41_103, r41_105, r41_108, r41_111, r41_112, r41_115, r41_116, r41_119, r41_122, r41_123, r41_126, r41_129, r41_130, r41_133, r41_134, r41_135, r41_136, r41_137, r41_140, cs_nil, cs_cons, lc_lt, lc_ge, lc_gt, lc_le, lc_eq, c_seesW hK, hw, c_openN hK ho] using this
  · rw [if_neg ho] at h
    simp (disch := omega) [r41_0, r41_1, r41_3, r41_6, r41_9, r41_10, r41_11, r41_14, r41_17, r41_18, cs_nil, cs_cons, lc_lt, lc_ge, lc_gt, lc_le, lc_eq, q41, c_seesW hK, hw, c_openY (show o < 6 by omega)]
    refine c_adv hU.1 hN hB hK.2.2.1 (by omega) g1.2 ?_
    intro g b1 b2
    have fp : fP R sA s f g := fun c j hc => b2 c j (by omega)
    simp (disch := omega) [r41_21, r41_24, r41_25, r41_26, r41_27, r41_28, cs_nil, cs_cons, lc_lt, lc_ge, lc_gt, lc_le, lc_eq, am_wid2]
    refine d_sub (m1 := 5) ih h (CU_fP hU fp h0) b1 ((b2 _ _ (by omega)).trans hs) h0 (by omega) (by omega) g1.2 (by omega) (by omega) (show _ + 10 ≤ d + 3 by omega) _ ?_ ?_
    · intro k1 w1 g' e a b c
      subst e
      have := hQ g' a b (fPw_tr (Int.le_refl _) fp c)
      simpa [r41_31, r41_34, r41_35, r41_38, r41_41, r41_44, r41_47, r41_48, r41_51, r41_52, cs_nil, cs_cons, lc_lt, lc_ge, lc_gt, lc_le, lc_eq] using this
    · intro p1 c1 g' e a1 a2 a3 a4 a5 a6 a7 a8
      cases e
      have e2 := a4.2.1.1
      have r0 : 0 ≤ R := by omega
      have := hQ (am_up (am_up g' R 3 (s + c1.length + 1)) sA (s + c1.length) (cst 12)) (CK_fr a5 (fun j _ _ => by rw [am_un (by omega), am_un (by omega)])) (by rw [am_un (by omega), am_ue, List.length_append]; simp; omega) (al_app c1 [12] s (al_fr c1 s (fun j j0 j1 => by rw [am_un (by omega), am_un (by omega)]) a7) ⟨by rw [am_ue], trivial⟩) (fP_tr (Int.le_refl _) fp (fP_tr (Int.le_refl _) a8 (fP_ad (by omega))))
      rw [show cst 12 = 10024 by decide] at this
      simp (disch := omega) [r41_31, r41_34, r41_35, r41_38, r41_41, r41_44, r41_47, r41_48, r41_51, r41_52, cs_nil, cs_cons, lc_lt, lc_ge, lc_gt, lc_le, lc_eq, e2, c_add a4 a6 (by omega) (by omega)]
      exact ⟨r0, this⟩
/-- a test in square brackets -/
theorem m_5b {k : Nat} (hN : N ≤ 1600) (hB : ∀ j, 0 ≤ B j ∧ B j ≤ 255) (ih : HD B N κ R sA k) {p o : Int} {r : RR} {d : Nat} (hg : isg B N p 91 = true) (h : (if 6 ≤ o then ft 4 (tS B N p) else bd (rd B N κ k 9 (tE B N p) (o + 1)) fun p1 cs => if isg B N p1 93 = true then okR (tE B N p1) cs else ft 1 (tS B N p1)) = some r) (hU : CU f B N κ R sA) (hK : CK f B N p) (hs : f R 3 = s) (h0 : 0 ≤ s) (h1 : s + (N - p) ≤ 1600) (p0 : 0 ≤ p) (pN : p ≤ N) (o0 : 0 ≤ o) (o6 : o ≤ 6) (hd : 14 * (6 - o).toNat + 10 ≤ d + 4) (hQ : PQ B N R sA f s Q r) : aw_cl (d + 4) 41 [(104, 33), (0, o)] f Q := by
  have hR := hU.2.2
  have g1 := isg_b pN hg
  have hw : ¬ tW B N p = 24 := fun q => by
    have := tW_k (B := B) (N := N) (p := p) (by omega)
    rw [(isg_k hg).1] at this
    exact absurd this (by decide)
  by_cases ho : 6 ≤ o
  · rw [if_pos ho] at h
    cases h
    have := hQ _ (by simp [am_up]) (by simp [am_up]) (fPw_fl (k := 4) (q := tS B N p))
    simpa (disch := omega) [r41_0, r41_1, r41_3, r41_6, cs_nil, cs_cons, lc_lt, lc_ge, lc_gt, lc_le, lc_eq, r41_53, r41_54, r41_56, r41_59, r41_62, r41_63, r41_64, r41_67, r41_70, r41_71, r41_74, r41_77, r41_78, r41_79, r41_80, r41_81, r41_84, r41_87, r41_88, r41_90, r41_93, r41_96, r41_97, r41_100, r41_101, q41, c_seesW hK, hw, c_seesS hK, hg, c_openN hK ho] using this
  · rw [if_neg ho] at h
    simp (disch := omega) [r41_0, r41_1, r41_3, r41_6, cs_nil, cs_cons, lc_lt, lc_ge, lc_gt, lc_le, lc_eq, r41_53, r41_54, r41_56, r41_59, r41_62, r41_63, r41_64, r41_67, r41_70, r41_71, q41, c_seesW hK, hw, c_seesS hK, hg, c_openY (show o < 6 by omega)]
    refine c_adv hU.1 hN hB hK.2.2.1 (by omega) g1.2 ?_
    intro g b1 b2
    have fp : fP R sA s f g := fun c j hc => b2 c j (by omega)
    simp (disch := omega) [r41_74, r41_77, r41_78, r41_79, r41_80, r41_81, cs_nil, cs_cons, lc_lt, lc_ge, lc_gt, lc_le, lc_eq, am_wid2]
    refine d_sub (m1 := 9) ih h (CU_fP hU fp h0) b1 ((b2 _ _ (by omega)).trans hs) h0 (by omega) (by omega) g1.2 (by omega) (by omega) (show _ + 12 ≤ d + 3 by omega) _ ?_ ?_
    · intro k1 w1 g' e a b c
      subst e
      have := hQ g' a b (fPw_tr (Int.le_refl _) fp c)
      simpa [r41_84, r41_87, r41_88, r41_90, r41_93, r41_96, r41_97, r41_100, r41_101, cs_nil, cs_cons, lc_lt, lc_ge, lc_gt, lc_le, lc_eq] using this
    · intro p1 c1 g' e a1 a2 a3 a4 a5 a6 a7 a8
      simp [r41_84, r41_87, r41_88, r41_90, cs_nil, cs_cons, lc_lt, lc_ge, lc_gt, lc_le, lc_eq]
      by_cases hc : isg B N p1 93 = true
      · rw [if_pos hc] at e
        cases e
        refine c_takeSY a4.1 hN hB a5 (by omega) a2 hc ?_
        intro g2 d1 d2
        have f2 : fP R sA s g' g2 := fun c j hc => d2 c j (by omega)
        have := hQ g2 d1 ((d2 _ _ (by omega)).trans a6) (al_fr c1 s (fun j j0 j1 => d2 _ _ (by omega)) a7) (fP_tr (Int.le_refl _) fp (fP_tr (Int.le_refl _) a8 f2))
        simpa [r41_93, r41_96, r41_97, r41_100, r41_101, cs_nil, cs_cons, lc_lt, lc_ge, lc_gt, lc_le, lc_eq] using this
      · rw [if_neg hc] at e
        cases e
        have := hQ _ (by simp [am_up]) (by simp [am_up]) (fPw_tr (Int.le_refl _) fp (fPw_tr (Int.le_refl _) a8 (fPw_fl (k := 1) (q := tS B N p1))))
        rw [c_takeSN a5 hc]
        simpa [r41_93, r41_96, r41_97, r41_100, r41_101, cs_nil, cs_cons, lc_lt, lc_ge, lc_gt, lc_le, lc_eq] using this
/-- two sums, compared -/
theorem c_cmp {k : Nat} (hN : N ≤ 1600) (hB : ∀ j, 0 ≤ B j ∧ B j ≤ 255) (ih : HD B N κ R sA k) {p o : Int} {r : RR} {d : Nat} (h : (bd (rd B N κ k 4 p o) fun p1 c1 => if isg B N p1 60 = true ∨ isg B N p1 62 = true ∨ isg B N p1 61 = true then bd (rd B N κ k 4 (tE B N p1) o) (fun p2 c2 => okR p2 (c1 ++ (c2 ++ [if tV B N p1 = 60 then 7 else if tV B N p1 = 62 then 8 else 9]))) else ft 1 (tS B N p1)) = some r) (hU : CU f B N κ R sA) (hK : CK f B N p) (hs : f R 3 = s) (h0 : 0 ≤ s) (h1 : s + (N - p) ≤ 1600) (p0 : 0 ≤ p) (pN : p ≤ N) (o0 : 0 ≤ o) (o6 : o ≤ 6) (hd : 14 * (6 - o).toNat + 8 ≤ d + 2) (hQ : PQ B N R sA f s Q r) : aw_cl (d + 3) 46 [(104, 33), (0, o)] f Q := by
  have hR := hU.2.2
  simp [r46_0, r46_1, r46_2, cs_nil, cs_cons, lc_lt, lc_ge, lc_gt, lc_le, lc_eq, q46]
  refine d_sub (m1 := 4) ih h hU hK hs h0 h1 p0 pN o0 o6 (show _ + 8 ≤ d + 2 by omega) _ ?_ ?_
  · intro k1 w1 g' e a b c
    subst e
    have := hQ g' a b c
    simpa [r46_5, r46_8, r46_9, cs_nil, cs_cons, lc_lt, lc_ge, lc_gt, lc_le, lc_eq] using this
  · intro p1 c1 g e a1 a2 a3 a4 a5 a6 a7 a8
    have on : ∀ (op v : Int), isg B N p1 v = true → 0 ≤ v → v ≤ 100 → cst op = 10100 + v → bd (rd B N κ k 4 (tE B N p1) o) (fun p2 c2 => okR p2 (c1 ++ (c2 ++ [op]))) = some r → aw_wp (d + 3) 46 42 [(104, 33), (0, o), (2, 0)] [] g Q := by
      intro op v hg v0 v1 hv h
      have g1 := isg_b a2 hg
      have ev := a5.2.2.2.2
      rw [(isg_k hg).2] at ev
      simp [r46_42, r46_43, r46_46, r46_47, r46_48, cs_nil, cs_cons, lc_lt, lc_ge, lc_gt, lc_le, lc_eq, ev]
      refine c_adv a4.1 hN hB a5.2.2.1 (by omega) g1.2 ?_
      intro g2 q1 q2
      have fp : fP R sA (s + c1.length) g g2 := fun c j hc => q2 c j (by omega)
      simp [r46_51, r46_54, r46_55, r46_56, cs_nil, cs_cons, lc_lt, lc_ge, lc_gt, lc_le, lc_eq]
      refine d_sub (m1 := 4) ih h (CU_fP a4 fp (by omega)) q1 ((q2 _ _ (by omega)).trans a6) (by omega) (by omega) (by omega) g1.2 o0 o6 (show _ + 8 ≤ d + 2 by omega) _ ?_ ?_
      · intro k1 w1 g' e a b c
        subst e
        have := hQ g' a b (fPw_tr (by omega) a8 (fPw_tr (by omega) fp c))
        simpa [r46_59, r46_62, r46_63, r46_66, r46_69, r46_70, r46_71, r46_74, r46_77, r46_78, r46_81, r46_82, cs_nil, cs_cons, lc_lt, lc_ge, lc_gt, lc_le, lc_eq] using this
      · intro p2 c2 g' e b1 b2 b3 b4 b5 b6 b7 b8
        cases e
        have e2 := b4.2.1.1
        have r0 : 0 ≤ R := by omega
        have k1 : al (am_up (am_up g' R 3 (s + c1.length + c2.length + 1)) sA (s + c1.length + c2.length) (cst op)) sA cst s c1 := al_fr c1 s (fun j j0 j1 => by rw [am_un (by omega), am_un (by omega), b8 _ _ (by omega), fp _ _ (by omega)]) a7
        have k2 : al (am_up (am_up g' R 3 (s + c1.length + c2.length + 1)) sA (s + c1.length + c2.length) (cst op)) sA cst (s + c1.length) c2 := al_fr c2 _ (fun j j0 j1 => by rw [am_un (by omega), am_un (by omega)]) b7
        have := hQ (am_up (am_up g' R 3 (s + c1.length + c2.length + 1)) sA (s + c1.length + c2.length) (cst op)) (CK_fr b5 (fun j _ _ => by rw [am_un (by omega), am_un (by omega)])) (by rw [am_un (by omega), am_ue, List.length_append, List.length_append]; simp; omega) (al_app c1 _ s k1 (al_app c2 [op] _ k2 ⟨by rw [am_ue], trivial⟩)) (fP_tr (by omega) a8 (fP_tr (by omega) fp (fP_tr (Int.le_refl _) b8 (fP_ad (by omega)))))
        rw [hv] at this
        simp (disch := omega) [r46_59, r46_62, r46_63, r46_66, r46_69, r46_70, r46_71, r46_74, r46_77, r46_78, r46_81, r46_82, cs_nil, cs_cons, lc_lt, lc_ge, lc_gt, lc_le, lc_eq, e2, am_wid2, c_add b4 b6 (by omega) (by omega)]
        exact ⟨r0, this⟩
    by_cases ha : isg B N p1 60 = true
    · rw [if_pos (Or.inl ha), if_pos (isg_k ha).2] at e
      simp [r46_5, r46_8, r46_9, r46_10, r46_11, r46_13, r46_16, r46_19, r46_20, r46_22, r46_25, r46_28, r46_29, r46_31, r46_34, cs_nil, cs_cons, lc_lt, lc_ge, lc_gt, lc_le, lc_eq, c_seesS a5, ha]
      exact on 7 60 ha (by omega) (by omega) (by decide) e
    · by_cases hb : isg B N p1 62 = true
      · rw [if_pos (Or.inr (Or.inl hb)), if_neg (by rw [(isg_k hb).2]; decide), if_pos (isg_k hb).2] at e
        simp [r46_5, r46_8, r46_9, r46_10, r46_11, r46_13, r46_16, r46_19, r46_20, r46_22, r46_25, r46_28, r46_29, r46_31, r46_34, cs_nil, cs_cons, lc_lt, lc_ge, lc_gt, lc_le, lc_eq, c_seesS a5, ha, hb]
        exact on 8 62 hb (by omega) (by omega) (by decide) e
      · by_cases hc : isg B N p1 61 = true
        · rw [if_pos (Or.inr (Or.inr hc)), if_neg (by rw [(isg_k hc).2]; decide), if_neg (by rw [(isg_k hc).2]; decide)] at e
          simp [r46_5, r46_8, r46_9, r46_10, r46_11, r46_13, r46_16, r46_19, r46_20, r46_22, r46_25, r46_28, r46_29, r46_31, r46_34, cs_nil, cs_cons, lc_lt, lc_ge, lc_gt, lc_le, lc_eq, c_seesS a5, ha, hb, hc]
          exact on 9 61 hc (by omega) (by omega) (by decide) e
        · rw [if_neg (fun q => q.elim ha (fun q => q.elim hb hc))] at e
          cases e
          have := hQ _ (by simp [am_up]) (by simp [am_up]) (fPw_tr (by omega) a8 (fPw_fl (s := s) (k := 1) (q := tS B N p1)))
          simpa [r46_5, r46_8, r46_9, r46_10, r46_11, r46_13, r46_16, r46_19, r46_20, r46_22, r46_25, r46_28, r46_29, r46_31, r46_34, r46_37, r46_38, r46_41, cs_nil, cs_cons, lc_lt, lc_ge, lc_gt, lc_le, lc_eq, c_seesS a5, ha, hb, hc, c_wrong a5] using this
/-- facts -/
theorem m_5 {k : Nat} (hN : N ≤ 1600) (hB : ∀ j, 0 ≤ B j ∧ B j ≤ 255) (ih : HD B N κ R sA k) : HM B N κ R sA k 5 := by
  intro p o r f s Q dd h hU hK hs h0 h1 p0 pN o0 o6 hd hQ
  have hd : 14 * (6 - o).toNat + 10 ≤ dd := hd
  obtain ⟨d, rfl⟩ : ∃ d, dd = d + 4 := ⟨dd - 4, by omega⟩
  have hR := hU.2.2
  show aw_cl (d + 4) 41 [(104, 33), (0, o)] f Q
  rw [rd] at h
  by_cases ha : tW B N p = 24
  · rw [if_pos ha] at h
    exact m_5n hN hB ih ha h hU hK hs h0 h1 p0 pN o0 o6 hd hQ
  · rw [if_neg ha] at h
    by_cases hb : isg B N p 91 = true
    · rw [if_pos hb] at h
      exact m_5b hN hB ih hb h hU hK hs h0 h1 p0 pN o0 o6 hd hQ
    · rw [if_neg hb] at h
      by_cases hc : tW B N p = 25
      · rw [if_pos hc] at h
        cases h
        have g1 := tW_b pN (show ¬ tW B N p = -1 by omega)
        have e2 := hU.2.1.1
        have r0 : 0 ≤ R := by omega
        simp (disch := omega) [r41_0, r41_1, r41_3, r41_6, cs_nil, cs_cons, lc_lt, lc_ge, lc_gt, lc_le, lc_eq, r41_53, r41_54, r41_56, r41_59, r41_102, r41_103, r41_105, r41_108, r41_111, r41_112, r41_115, r41_116, r41_119, r41_122, r41_123, q41, c_seesW hK, ha, c_seesS hK, hb, hc, e2, c_add hU hs h0 (by omega)]
        refine ⟨r0, ?_⟩
        have fp : fP R sA s f (am_up (am_up f R 3 (s + 1)) sA s 1) := fP_ad (by omega)
        refine c_adv (CU_fP hU fp h0).1 hN hB (by rw [am_un (by omega), am_un (by omega)]; exact hK.2.2.1) (by omega) g1.2 ?_
        intro g b1 b2
        have := hQ g b1 (by rw [b2 _ _ (by omega), am_un (by omega), am_ue]; simp) ⟨by rw [b2 _ _ (by omega), am_ue]; decide, trivial⟩ (fP_tr (Int.le_refl _) fp (fun c j hc => b2 c j (by omega)))
        simpa [r41_126, r41_129, r41_130, r41_133, r41_134, cs_nil, cs_cons, lc_lt, lc_ge, lc_gt, lc_le, lc_eq] using this
      · rw [if_neg hc] at h
        simp (disch := omega) [r41_0, r41_1, r41_3, r41_6, cs_nil, cs_cons, lc_lt, lc_ge, lc_gt, lc_le, lc_eq, r41_53, r41_54, r41_56, r41_59, r41_102, r41_103, r41_105, r41_108, r41_111, r41_112, r41_115, r41_116, r41_119, r41_122, r41_123, r41_126, r41_129, r41_130, r41_133, r41_134, r41_135, r41_136, r41_137, q41, c_seesW hK, ha, c_seesS hK, hb, hc]
        refine c_cmp hN hB ih h hU hK hs h0 h1 p0 pN o0 o6 (by omega) ?_
        match r, hQ with
        | .inl (k, q), hQ => exact fun g' a b c => by simpa [r41_140, cs_nil, cs_cons, lc_lt, lc_ge, lc_gt, lc_le, lc_eq] using hQ g' a b c
        | .inr (p', cs), hQ => exact fun g' a b c e => by simpa [r41_140, cs_nil, cs_cons, lc_lt, lc_ge, lc_gt, lc_le, lc_eq] using hQ g' a b c e
end
