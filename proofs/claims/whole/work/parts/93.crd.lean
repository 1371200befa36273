/-! the class reads tests and sums: mode by mode -/
section
variable {B : Int → Int} {N κ R sA : Int}
def HM (B : Int → Int) (N κ R sA : Int) (k mode : Nat) : Prop := ∀ (p o : Int) (r : RR) (f : am_F) (s : Int) (Q : am_V → am_F → Prop) (dd : Nat), rd B N κ (k + 1) mode p o = some r → CU f B N κ R sA → CK f B N p → f R 3 = s → 0 ≤ s → s + (N - p) ≤ 1600 → 0 ≤ p → p ≤ N → 0 ≤ o → o ≤ 6 → 14 * (6 - o).toNat + lvd mode ≤ dd → PQ B N R sA f s Q r → GC N p mode dd o f Q
theorem m_3 {k : Nat} (hN : N ≤ 1600) (ih : HD B N κ R sA k) : HM B N κ R sA k 3 := by
  intro p o r f s Q dd h hU hK hs h0 h1 p0 pN o0 o6 hd hQ
  have hd : 14 * (6 - o).toNat + 7 ≤ dd := hd
  obtain ⟨d, rfl⟩ : ∃ d, dd = d + 1 := ⟨dd - 1, by omega⟩
  show aw_cl (d + 1) 48 [(104, 33), (0, o)] f Q
  simp [q48, r48_0, r48_1, r48_2, r48_5, r48_8, r48_9, r48_10, r48_11, r48_13, r48_16, r48_19, r48_20, r48_22, r48_25, r48_28, r48_29, r48_31, r48_34, r48_37, r48_38, r48_41, r48_42, r48_43, r48_46, r48_49, r48_50, r48_51, r48_54, r48_57, r48_58, r48_61, r48_64, r48_65, r48_66, r48_69, r48_72, r48_73, r48_74, r48_77, r48_80, r48_81, cs_nil, cs_cons, lc_lt, lc_ge, lc_gt, lc_le, lc_eq]
  refine d_then (m1 := 0) (m2 := 1) ih h hU hK hs h0 h1 p0 pN o0 o6 (show _ + 6 ≤ d by omega) (show _ + 7 ≤ d + 1 by omega) hQ _ ?_ ?_ (Or.inl rfl)
  · intro g hg
    simpa [q48, r48_0, r48_1, r48_2, r48_5, r48_8, r48_9, r48_10, r48_11, r48_13, r48_16, r48_19, r48_20, r48_22, r48_25, r48_28, r48_29, r48_31, r48_34, r48_37, r48_38, r48_41, r48_42, r48_43, r48_46, r48_49, r48_50, r48_51, r48_54, r48_57, r48_58, r48_61, r48_64, r48_65, r48_66, r48_69, r48_72, r48_73, r48_74, r48_77, r48_80, r48_81, cs_nil, cs_cons, lc_lt, lc_ge, lc_gt, lc_le, lc_eq] using hg
  · intro p1 g hp hg
    have hg := hg 0
    simp [q48, r48_0, r48_1, r48_2, r48_5, r48_8, r48_9, r48_10, r48_11, r48_13, r48_16, r48_19, r48_20, r48_22, r48_25, r48_28, r48_29, r48_31, r48_34, r48_37, r48_38, r48_41, r48_42, r48_43, r48_46, r48_49, r48_50, r48_51, r48_54, r48_57, r48_58, r48_61, r48_64, r48_65, r48_66, r48_69, r48_72, r48_73, r48_74, r48_77, r48_80, r48_81, cs_nil, cs_cons, lc_lt, lc_ge, lc_gt, lc_le, lc_eq]
    exact hg _ (by omega) (by omega)
theorem m_4 {k : Nat} (hN : N ≤ 1600) (ih : HD B N κ R sA k) : HM B N κ R sA k 4 := by
  intro p o r f s Q dd h hU hK hs h0 h1 p0 pN o0 o6 hd hQ
  have hd : 14 * (6 - o).toNat + 8 ≤ dd := hd
  obtain ⟨d, rfl⟩ : ∃ d, dd = d + 1 := ⟨dd - 1, by omega⟩
  show aw_cl (d + 1) 47 [(104, 33), (0, o)] f Q
  simp [q47, r47_0, r47_1, r47_2, r47_5, r47_8, r47_9, r47_10, r47_11, r47_13, r47_16, r47_19, r47_20, r47_22, r47_25, r47_28, r47_29, r47_31, r47_34, r47_37, r47_38, r47_41, r47_42, r47_43, r47_46, r47_49, r47_50, r47_51, r47_54, r47_57, r47_58, r47_61, r47_64, r47_65, r47_66, r47_69, r47_72, r47_73, r47_74, r47_77, r47_80, r47_81, cs_nil, cs_cons, lc_lt, lc_ge, lc_gt, lc_le, lc_eq]
  refine d_then (m1 := 3) (m2 := 2) ih h hU hK hs h0 h1 p0 pN o0 o6 (show _ + 7 ≤ d by omega) (show _ + 8 ≤ d + 1 by omega) hQ _ ?_ ?_ (by omega)
  · intro g hg
    simpa [q47, r47_0, r47_1, r47_2, r47_5, r47_8, r47_9, r47_10, r47_11, r47_13, r47_16, r47_19, r47_20, r47_22, r47_25, r47_28, r47_29, r47_31, r47_34, r47_37, r47_38, r47_41, r47_42, r47_43, r47_46, r47_49, r47_50, r47_51, r47_54, r47_57, r47_58, r47_61, r47_64, r47_65, r47_66, r47_69, r47_72, r47_73, r47_74, r47_77, r47_80, r47_81, cs_nil, cs_cons, lc_lt, lc_ge, lc_gt, lc_le, lc_eq] using hg
  · intro p1 g hp hg
    have hg := hg 0
    simp [q47, r47_0, r47_1, r47_2, r47_5, r47_8, r47_9, r47_10, r47_11, r47_13, r47_16, r47_19, r47_20, r47_22, r47_25, r47_28, r47_29, r47_31, r47_34, r47_37, r47_38, r47_41, r47_42, r47_43, r47_46, r47_49, r47_50, r47_51, r47_54, r47_57, r47_58, r47_61, r47_64, r47_65, r47_66, r47_69, r47_72, r47_73, r47_74, r47_77, r47_80, r47_81, cs_nil, cs_cons, lc_lt, lc_ge, lc_gt, lc_le, lc_eq]
    exact hg _ (by omega) (by omega)
theorem m_7 {k : Nat} (hN : N ≤ 1600) (ih : HD B N κ R sA k) : HM B N κ R sA k 7 := by
  intro p o r f s Q dd h hU hK hs h0 h1 p0 pN o0 o6 hd hQ
  have hd : 14 * (6 - o).toNat + 11 ≤ dd := hd
  obtain ⟨d, rfl⟩ : ∃ d, dd = d + 1 := ⟨dd - 1, by omega⟩
  show aw_cl (d + 1) 40 [(104, 33), (0, o)] f Q
  simp [q40, r40_0, r40_1, r40_2, r40_5, r40_8, r40_9, r40_10, r40_11, r40_13, r40_16, r40_19, r40_20, r40_22, r40_25, r40_28, r40_29, r40_32, r40_35, r40_36, r40_37, r40_40, r40_43, r40_44, r40_47, r40_50, r40_53, r40_56, r40_57, r40_58, r40_61, r40_64, r40_65, cs_nil, cs_cons, lc_lt, lc_ge, lc_gt, lc_le, lc_eq]
  refine d_then (m1 := 5) (m2 := 6) ih h hU hK hs h0 h1 p0 pN o0 o6 (show _ + 10 ≤ d by omega) (show _ + 11 ≤ d + 1 by omega) hQ _ ?_ ?_ (by omega)
  · intro g hg
    simpa [q40, r40_0, r40_1, r40_2, r40_5, r40_8, r40_9, r40_10, r40_11, r40_13, r40_16, r40_19, r40_20, r40_22, r40_25, r40_28, r40_29, r40_32, r40_35, r40_36, r40_37, r40_40, r40_43, r40_44, r40_47, r40_50, r40_53, r40_56, r40_57, r40_58, r40_61, r40_64, r40_65, cs_nil, cs_cons, lc_lt, lc_ge, lc_gt, lc_le, lc_eq] using hg
  · intro p1 g hp hg
    have hg := hg 0
    simp [q40, r40_0, r40_1, r40_2, r40_5, r40_8, r40_9, r40_10, r40_11, r40_13, r40_16, r40_19, r40_20, r40_22, r40_25, r40_28, r40_29, r40_32, r40_35, r40_36, r40_37, r40_40, r40_43, r40_44, r40_47, r40_50, r40_53, r40_56, r40_57, r40_58, r40_61, r40_64, r40_65, cs_nil, cs_cons, lc_lt, lc_ge, lc_gt, lc_le, lc_eq]
    exact hg (by omega) (by omega)
theorem m_9 {k : Nat} (hN : N ≤ 1600) (ih : HD B N κ R sA k) : HM B N κ R sA k 9 := by
  intro p o r f s Q dd h hU hK hs h0 h1 p0 pN o0 o6 hd hQ
  have hd : 14 * (6 - o).toNat + 12 ≤ dd := hd
  obtain ⟨d, rfl⟩ : ∃ d, dd = d + 1 := ⟨dd - 1, by omega⟩
  show aw_cl (d + 1) 39 [(104, 33), (0, o)] f Q
  simp [q39, r39_0, r39_1, r39_2, r39_5, r39_8, r39_9, r39_10, r39_11, r39_13, r39_16, r39_19, r39_20, r39_22, r39_25, r39_28, r39_29, r39_32, r39_35, r39_36, r39_37, r39_40, r39_43, r39_44, r39_47, r39_50, r39_53, r39_56, r39_57, r39_58, r39_61, r39_64, r39_65, cs_nil, cs_cons, lc_lt, lc_ge, lc_gt, lc_le, lc_eq]
  refine d_then (m1 := 7) (m2 := 8) ih h hU hK hs h0 h1 p0 pN o0 o6 (show _ + 11 ≤ d by omega) (show _ + 12 ≤ d + 1 by omega) hQ _ ?_ ?_ (by omega)
  · intro g hg
    simpa [q39, r39_0, r39_1, r39_2, r39_5, r39_8, r39_9, r39_10, r39_11, r39_13, r39_16, r39_19, r39_20, r39_22, r39_25, r39_28, r39_29, r39_32, r39_35, r39_36, r39_37, r39_40, r39_43, r39_44, r39_47, r39_50, r39_53, r39_56, r39_57, r39_58, r39_61, r39_64, r39_65, cs_nil, cs_cons, lc_lt, lc_ge, lc_gt, lc_le, lc_eq] using hg
  · intro p1 g hp hg
    have hg := hg 0
    simp [q39, r39_0, r39_1, r39_2, r39_5, r39_8, r39_9, r39_10, r39_11, r39_13, r39_16, r39_19, r39_20, r39_22, r39_25, r39_28, r39_29, r39_32, r39_35, r39_36, r39_37, r39_40, r39_43, r39_44, r39_47, r39_50, r39_53, r39_56, r39_57, r39_58, r39_61, r39_64, r39_65, cs_nil, cs_cons, lc_lt, lc_ge, lc_gt, lc_le, lc_eq]
    exact hg (by omega) (by omega)
theorem PQ_fP {f g : am_F} {s : Int} {Q : am_V → am_F → Prop} {r : RR} (h : PQ B N R sA f s Q r) (hg : fP R sA s f g) : PQ B N R sA g s Q r := by
  match r, h with
  | .inl (k, q), h => exact fun g' a b c => h g' a b (fPw_tr (Int.le_refl _) hg c)
  | .inr (p', cs), h => exact fun g' a b c e => h g' a b c (fP_tr (Int.le_refl _) hg e)
theorem m_1 {k : Nat} (hN : N ≤ 1600) (hB : ∀ j, 0 ≤ B j ∧ B j ≤ 255) (ih : HD B N κ R sA k) : HM B N κ R sA k 1 := by
  intro p o r f s Q dd h hU hK hs h0 h1 p0 pN o0 o6 hd hQ
  have hd : 14 * (6 - o).toNat + 7 ≤ dd := hd
  obtain ⟨d, rfl⟩ : ∃ d, dd = d + 3 := ⟨dd - 3, by omega⟩
  intro i x i0 i1
  have hR := hU.2.2
  rw [rd] at h
  have on : ∀ (op v : Int), isg B N p v = true → 0 ≤ v → v ≤ 100 → cst op = 10100 + v → bd (rd B N κ k 0 (tE B N p) o) (fun p1 c1 => bd (rd B N κ k 1 p1 o) fun p2 c2 => okR p2 (c1 ++ (op :: c2))) = some r → aw_wp (d + 3) 48 37 [(104, 33), (0, o), (0, i), x] [] f Q := by
    intro op v hg v0 v1 hv h
    have g1 := isg_b pN hg
    have ev := hK.2.2.2.2
    rw [(isg_k hg).2] at ev
    simp [r48_37, r48_38, r48_41, r48_42, r48_43, cs_nil, cs_cons, lc_lt, lc_ge, lc_gt, lc_le, lc_eq, ev]
    refine c_adv hU.1 hN hB hK.2.2.1 (by omega) g1.2 ?_
    intro g q1 q2
    have fp : fP R sA s f g := fun c j hc => q2 c j (by omega)
    simp [r48_46, r48_49, r48_50, r48_51, cs_nil, cs_cons, lc_lt, lc_ge, lc_gt, lc_le, lc_eq]
    refine d_loop (m1 := 0) (m2 := 1) ih h (CU_fP hU fp h0) q1 ((q2 _ _ (by omega)).trans hs) h0 h1 p0 g1.1 g1.2 o0 o6 (show _ + 6 ≤ d + 2 by omega) (show _ + 7 ≤ d + 3 by omega) (PQ_fP hQ fp) (by omega) _ ?_ ?_
    · intro g hg
      simpa [r48_54, r48_57, r48_58, r48_61, r48_64, r48_65, r48_66, r48_69, r48_72, r48_73, cs_nil, cs_cons, lc_lt, lc_ge, lc_gt, lc_le, lc_eq] using hg
    · intro p1 g' s1 a1 a2 a3 a4 a5 a6 a7
      have e2 := a3.2.1.1
      have r0 : 0 ≤ R := by omega
      have a7 := a7 (i + 1) (0, v) (by omega) (by omega)
      rw [hv] at a7
      simp (disch := omega) [r48_54, r48_57, r48_58, r48_61, r48_64, r48_65, r48_66, r48_69, r48_72, r48_73, r48_74, r48_77, cs_nil, cs_cons, lc_lt, lc_ge, lc_gt, lc_le, lc_eq, e2, am_wid2, c_add a3 a4 a5 (by omega)]
      exact ⟨r0, a7⟩
  by_cases hi : N ≤ p
  · have ga : ∀ c, ¬ isg B N p c = true := fun c q => by have := isg_b pN q; omega
    rw [if_neg (fun q => q.elim (ga _) (ga _))] at h
    cases h
    have := hQ f hK (by rw [hs]; simp) trivial (fun _ _ _ => rfl)
    by_cases h16 : 1600 ≤ i
    · simpa (disch := omega) [r48_12, r48_13, r48_16, cs_nil, cs_cons, lc_lt, lc_ge, lc_gt, lc_le, lc_eq, r48_80, r48_81, le_T, lt_T, le_F, lt_F] using this
    · simpa (disch := omega) [r48_12, r48_13, r48_16, r48_19, r48_20, r48_22, r48_25, r48_28, r48_29, r48_31, r48_34, cs_nil, cs_cons, lc_lt, lc_ge, lc_gt, lc_le, lc_eq, r48_80, r48_81, le_T, lt_T, le_F, lt_F, c_seesS hK, ga] using this
  · by_cases ha : isg B N p 42 = true
    · rw [if_pos (Or.inl ha), if_pos (isg_k ha).2] at h
      simp (disch := omega) [r48_12, r48_13, r48_16, r48_19, r48_20, r48_22, r48_25, r48_28, r48_29, r48_31, r48_34, cs_nil, cs_cons, lc_lt, lc_ge, lc_gt, lc_le, lc_eq, le_T, lt_T, le_F, lt_F, c_seesS hK, ha]
      exact on 3 42 ha (by omega) (by omega) (by decide) h
    · by_cases hb : isg B N p 47 = true
      · rw [if_pos (Or.inr hb), if_neg (by rw [(isg_k hb).2]; decide)] at h
        simp (disch := omega) [r48_12, r48_13, r48_16, r48_19, r48_20, r48_22, r48_25, r48_28, r48_29, r48_31, r48_34, cs_nil, cs_cons, lc_lt, lc_ge, lc_gt, lc_le, lc_eq, le_T, lt_T, le_F, lt_F, c_seesS hK, ha, hb]
        exact on 4 47 hb (by omega) (by omega) (by decide) h
      · rw [if_neg (fun q => q.elim ha hb)] at h
        cases h
        have := hQ f hK (by rw [hs]; simp) trivial (fun _ _ _ => rfl)
        simpa (disch := omega) [r48_12, r48_13, r48_16, r48_19, r48_20, r48_22, r48_25, r48_28, r48_29, r48_31, r48_34, cs_nil, cs_cons, lc_lt, lc_ge, lc_gt, lc_le, lc_eq, r48_80, r48_81, le_T, lt_T, le_F, lt_F, c_seesS hK, ha, hb] using this
theorem m_2 {k : Nat} (hN : N ≤ 1600) (hB : ∀ j, 0 ≤ B j ∧ B j ≤ 255) (ih : HD B N κ R sA k) : HM B N κ R sA k 2 := by
  intro p o r f s Q dd h hU hK hs h0 h1 p0 pN o0 o6 hd hQ
  have hd : 14 * (6 - o).toNat + 8 ≤ dd := hd
  obtain ⟨d, rfl⟩ : ∃ d, dd = d + 3 := ⟨dd - 3, by omega⟩
  intro i x i0 i1
  have hR := hU.2.2
  rw [rd] at h
  have on : ∀ (op v : Int), isg B N p v = true → 0 ≤ v → v ≤ 100 → cst op = 10100 + v → bd (rd B N κ k 3 (tE B N p) o) (fun p1 c1 => bd (rd B N κ k 2 p1 o) fun p2 c2 => okR p2 (c1 ++ (op :: c2))) = some r → aw_wp (d + 3) 47 37 [(104, 33), (0, o), (0, i), x] [] f Q := by
    intro op v hg v0 v1 hv h
    have g1 := isg_b pN hg
    have ev := hK.2.2.2.2
    rw [(isg_k hg).2] at ev
    simp [r47_37, r47_38, r47_41, r47_42, r47_43, cs_nil, cs_cons, lc_lt, lc_ge, lc_gt, lc_le, lc_eq, ev]
    refine c_adv hU.1 hN hB hK.2.2.1 (by omega) g1.2 ?_
    intro g q1 q2
    have fp : fP R sA s f g := fun c j hc => q2 c j (by omega)
    simp [r47_46, r47_49, r47_50, r47_51, cs_nil, cs_cons, lc_lt, lc_ge, lc_gt, lc_le, lc_eq]
    refine d_loop (m1 := 3) (m2 := 2) ih h (CU_fP hU fp h0) q1 ((q2 _ _ (by omega)).trans hs) h0 h1 p0 g1.1 g1.2 o0 o6 (show _ + 7 ≤ d + 2 by omega) (show _ + 8 ≤ d + 3 by omega) (PQ_fP hQ fp) (by omega) _ ?_ ?_
    · intro g hg
      simpa [r47_54, r47_57, r47_58, r47_61, r47_64, r47_65, r47_66, r47_69, r47_72, r47_73, cs_nil, cs_cons, lc_lt, lc_ge, lc_gt, lc_le, lc_eq] using hg
    · intro p1 g' s1 a1 a2 a3 a4 a5 a6 a7
      have e2 := a3.2.1.1
      have r0 : 0 ≤ R := by omega
      have a7 := a7 (i + 1) (0, v) (by omega) (by omega)
      rw [hv] at a7
      simp (disch := omega) [r47_54, r47_57, r47_58, r47_61, r47_64, r47_65, r47_66, r47_69, r47_72, r47_73, r47_74, r47_77, cs_nil, cs_cons, lc_lt, lc_ge, lc_gt, lc_le, lc_eq, e2, am_wid2, c_add a3 a4 a5 (by omega)]
      exact ⟨r0, a7⟩
  by_cases hi : N ≤ p
  · have ga : ∀ c, ¬ isg B N p c = true := fun c q => by have := isg_b pN q; omega
    rw [if_neg (fun q => q.elim (ga _) (ga _))] at h
    cases h
    have := hQ f hK (by rw [hs]; simp) trivial (fun _ _ _ => rfl)
    by_cases h16 : 1600 ≤ i
    · simpa (disch := omega) [r47_12, r47_13, r47_16, cs_nil, cs_cons, lc_lt, lc_ge, lc_gt, lc_le, lc_eq, r47_80, r47_81, le_T, lt_T, le_F, lt_F] using this
    · simpa (disch := omega) [r47_12, r47_13, r47_16, r47_19, r47_20, r47_22, r47_25, r47_28, r47_29, r47_31, r47_34, cs_nil, cs_cons, lc_lt, lc_ge, lc_gt, lc_le, lc_eq, r47_80, r47_81, le_T, lt_T, le_F, lt_F, c_seesS hK, ga] using this
  · by_cases ha : isg B N p 43 = true
    · rw [if_pos (Or.inl ha), if_pos (isg_k ha).2] at h
      simp (disch := omega) [r47_12, r47_13, r47_16, r47_19, r47_20, r47_22, r47_25, r47_28, r47_29, r47_31, r47_34, cs_nil, cs_cons, lc_lt, lc_ge, lc_gt, lc_le, lc_eq, le_T, lt_T, le_F, lt_F, c_seesS hK, ha]
      exact on 1 43 ha (by omega) (by omega) (by decide) h
    · by_cases hb : isg B N p 45 = true
      · rw [if_pos (Or.inr hb), if_neg (by rw [(isg_k hb).2]; decide)] at h
        simp (disch := omega) [r47_12, r47_13, r47_16, r47_19, r47_20, r47_22, r47_25, r47_28, r47_29, r47_31, r47_34, cs_nil, cs_cons, lc_lt, lc_ge, lc_gt, lc_le, lc_eq, le_T, lt_T, le_F, lt_F, c_seesS hK, ha, hb]
        exact on 2 45 hb (by omega) (by omega) (by decide) h
      · rw [if_neg (fun q => q.elim ha hb)] at h
        cases h
        have := hQ f hK (by rw [hs]; simp) trivial (fun _ _ _ => rfl)
        simpa (disch := omega) [r47_12, r47_13, r47_16, r47_19, r47_20, r47_22, r47_25, r47_28, r47_29, r47_31, r47_34, cs_nil, cs_cons, lc_lt, lc_ge, lc_gt, lc_le, lc_eq, r47_80, r47_81, le_T, lt_T, le_F, lt_F, c_seesS hK, ha, hb] using this
theorem m_6 {k : Nat} (hN : N ≤ 1600) (hB : ∀ j, 0 ≤ B j ∧ B j ≤ 255) (ih : HD B N κ R sA k) : HM B N κ R sA k 6 := by
  intro p o r f s Q dd h hU hK hs h0 h1 p0 pN o0 o6 hd hQ
  have hd : 14 * (6 - o).toNat + 11 ≤ dd := hd
  obtain ⟨d, rfl⟩ : ∃ d, dd = d + 3 := ⟨dd - 3, by omega⟩
  intro i i0 i1
  have hR := hU.2.2
  rw [rd] at h
  by_cases ha : tW B N p = 23
  · rw [if_pos ha] at h
    have g1 := tW_b pN (show ¬ tW B N p = -1 by omega)
    simp (disch := omega) [r40_12, r40_13, r40_16, r40_19, r40_20, r40_22, r40_25, r40_28, r40_29, cs_nil, cs_cons, lc_lt, lc_ge, lc_gt, lc_le, lc_eq, le_T, lt_T, le_F, lt_F, c_seesW hK, ha]
    refine c_adv hU.1 hN hB hK.2.2.1 (by omega) g1.2 ?_
    intro g q1 q2
    have fp : fP R sA s f g := fun c j hc => q2 c j (by omega)
    simp [r40_32, r40_35, r40_36, r40_37, cs_nil, cs_cons, lc_lt, lc_ge, lc_gt, lc_le, lc_eq]
    refine d_loop (m1 := 5) (m2 := 6) ih h (CU_fP hU fp h0) q1 ((q2 _ _ (by omega)).trans hs) h0 h1 p0 g1.1 g1.2 o0 o6 (show _ + 10 ≤ d + 2 by omega) (show _ + 11 ≤ d + 3 by omega) (PQ_fP hQ fp) (by omega) _ ?_ ?_
    · intro g hg
      simpa [r40_40, r40_43, r40_44, r40_47, r40_50, r40_53, r40_56, r40_57, cs_nil, cs_cons, lc_lt, lc_ge, lc_gt, lc_le, lc_eq] using hg
    · intro p1 g' s1 a1 a2 a3 a4 a5 a6 a7
      have e2 := a3.2.1.1
      have r0 : 0 ≤ R := by omega
      have a7 := a7 (i + 1) (by omega) (by omega)
      rw [show cst 10 = 10023 by decide] at a7
      simp (disch := omega) [r40_40, r40_43, r40_44, r40_47, r40_50, r40_53, r40_56, r40_57, r40_58, r40_61, cs_nil, cs_cons, lc_lt, lc_ge, lc_gt, lc_le, lc_eq, e2, am_wid2, c_add a3 a4 a5 (by omega)]
      exact ⟨r0, a7⟩
  · rw [if_neg ha] at h
    cases h
    have := hQ f hK (by rw [hs]; simp) trivial (fun _ _ _ => rfl)
    by_cases h16 : 1600 ≤ i
    · simpa (disch := omega) [r40_12, r40_13, r40_16, cs_nil, cs_cons, lc_lt, lc_ge, lc_gt, lc_le, lc_eq, r40_64, r40_65, le_T, lt_T, le_F, lt_F] using this
    · simpa (disch := omega) [r40_12, r40_13, r40_16, r40_19, r40_20, r40_22, r40_25, cs_nil, cs_cons, lc_lt, lc_ge, lc_gt, lc_le, lc_eq, r40_64, r40_65, le_T, lt_T, le_F, lt_F, c_seesW hK, ha] using this
theorem m_8 {k : Nat} (hN : N ≤ 1600) (hB : ∀ j, 0 ≤ B j ∧ B j ≤ 255) (ih : HD B N κ R sA k) : HM B N κ R sA k 8 := by
  intro p o r f s Q dd h hU hK hs h0 h1 p0 pN o0 o6 hd hQ
  have hd : 14 * (6 - o).toNat + 12 ≤ dd := hd
  obtain ⟨d, rfl⟩ : ∃ d, dd = d + 3 := ⟨dd - 3, by omega⟩
  intro i i0 i1
  have hR := hU.2.2
  rw [rd] at h
  by_cases ha : tW B N p = 22
  · rw [if_pos ha] at h
    have g1 := tW_b pN (show ¬ tW B N p = -1 by omega)
    simp (disch := omega) [r39_12, r39_13, r39_16, r39_19, r39_20, r39_22, r39_25, r39_28, r39_29, cs_nil, cs_cons, lc_lt, lc_ge, lc_gt, lc_le, lc_eq, le_T, lt_T, le_F, lt_F, c_seesW hK, ha]
    refine c_adv hU.1 hN hB hK.2.2.1 (by omega) g1.2 ?_
    intro g q1 q2
    have fp : fP R sA s f g := fun c j hc => q2 c j (by omega)
    simp [r39_32, r39_35, r39_36, r39_37, cs_nil, cs_cons, lc_lt, lc_ge, lc_gt, lc_le, lc_eq]
    refine d_loop (m1 := 7) (m2 := 8) ih h (CU_fP hU fp h0) q1 ((q2 _ _ (by omega)).trans hs) h0 h1 p0 g1.1 g1.2 o0 o6 (show _ + 11 ≤ d + 2 by omega) (show _ + 12 ≤ d + 3 by omega) (PQ_fP hQ fp) (by omega) _ ?_ ?_
    · intro g hg
      simpa [r39_40, r39_43, r39_44, r39_47, r39_50, r39_53, r39_56, r39_57, cs_nil, cs_cons, lc_lt, lc_ge, lc_gt, lc_le, lc_eq] using hg
    · intro p1 g' s1 a1 a2 a3 a4 a5 a6 a7
      have e2 := a3.2.1.1
      have r0 : 0 ≤ R := by omega
      have a7 := a7 (i + 1) (by omega) (by omega)
      rw [show cst 11 = 10022 by decide] at a7
      simp (disch := omega) [r39_40, r39_43, r39_44, r39_47, r39_50, r39_53, r39_56, r39_57, r39_58, r39_61, cs_nil, cs_cons, lc_lt, lc_ge, lc_gt, lc_le, lc_eq, e2, am_wid2, c_add a3 a4 a5 (by omega)]
      exact ⟨r0, a7⟩
  · rw [if_neg ha] at h
    cases h
    have := hQ f hK (by rw [hs]; simp) trivial (fun _ _ _ => rfl)
    by_cases h16 : 1600 ≤ i
    · simpa (disch := omega) [r39_12, r39_13, r39_16, cs_nil, cs_cons, lc_lt, lc_ge, lc_gt, lc_le, lc_eq, r39_64, r39_65, le_T, lt_T, le_F, lt_F] using this
    · simpa (disch := omega) [r39_12, r39_13, r39_16, r39_19, r39_20, r39_22, r39_25, cs_nil, cs_cons, lc_lt, lc_ge, lc_gt, lc_le, lc_eq, r39_64, r39_65, le_T, lt_T, le_F, lt_F, c_seesW hK, ha] using this
end
