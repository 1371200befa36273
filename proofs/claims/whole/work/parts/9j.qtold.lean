/-! the model answers questions: one thing -/
def ogM (f : am_F) (r t x : Int) : Int := if 0 ≤ x ∧ x < r then f 310 (8 * x + t) else 0
theorem m_qof {d : Nat} {f : am_F} {Q : am_V → am_F → Prop} {r t x : Int} (hm : mfx f) (hr : f 301 5 = r) (h5 : 0 ≤ r ∧ r ≤ 5) (ht : 0 ≤ t ∧ t < 8) (hx : -1000000 ≤ x ∧ x ≤ 1000000) : aw_cl (d + 1) 286 [(110, 270), (0, 0), (1, x), (0, t)] f Q = Q (1, ogM f r t x) f := by
  apply aw_det
  unfold mfx at hm
  unfold ogM
  by_cases h1 : 0 ≤ x
  · by_cases h2 : x < r
    · simp (disch := omega) [q286, r286_0, r286_1, r286_12, r286_13, r286_14, r286_15, r286_18, r286_19, r286_20, r286_21, r286_24, r286_27, r286_28, r286_31, r286_33, r286_34, r286_35, r286_36, r286_38, r286_39, r286_40, r286_41, r286_44, r286_45, q239, r239_0, r239_1, r239_4, r239_5, r239_6, cs_nil, cs_cons, lc_lt, lc_ge, lc_gt, lc_le, lc_eq, h_isIn, hm, hr, ln_301, ln_310, h1, h2, am_wid2, le_T, lt_T, le_F, lt_F]
    · simp (disch := omega) [q286, r286_0, r286_1, r286_12, r286_13, r286_14, r286_15, r286_18, r286_19, r286_20, r286_21, r286_24, r286_27, r286_28, r286_31, r286_33, r286_34, r286_35, r286_36, r286_38, r286_39, r286_40, r286_41, r286_44, r286_45, q239, r239_0, r239_1, r239_4, r239_5, r239_6, cs_nil, cs_cons, lc_lt, lc_ge, lc_gt, lc_le, lc_eq, h_isIn, hm, hr, ln_301, ln_310, h1, h2, am_wid2, le_T, lt_T, le_F, lt_F]
  · simp (disch := omega) [q286, r286_0, r286_1, r286_12, r286_13, r286_14, r286_15, r286_18, r286_19, r286_20, r286_21, r286_24, r286_27, r286_28, r286_31, r286_33, r286_34, r286_35, r286_36, r286_38, r286_39, r286_40, r286_41, r286_44, r286_45, q239, r239_0, r239_1, r239_4, r239_5, r239_6, cs_nil, cs_cons, lc_lt, lc_ge, lc_gt, lc_le, lc_eq, h_isIn, hm, hr, ln_301, ln_310, h1, am_wid2, le_T, lt_T, le_F, lt_F]
theorem m_qtold {d : Nat} {f : am_F} {Q : am_V → am_F → Prop} {t r : Int} {cs0 : List Int} {b : Bool} (hm : mfx f) (ht : 0 ≤ t ∧ t < 8) (h92 : f 270 92 = cs0.length) (hke : (cs0.length : Int) ≤ 1600) (hc : al f 340 id 0 cs0) (hty : tr false true cs0 [] = some [b]) (hp : ∀ k, 0 ≤ k → k ≤ 9 → (k = 7 → false = true) → -1000000 ≤ ptM f t k ∧ ptM f t k ≤ 1000000) (hr : f 301 5 = r ∧ 0 ≤ r ∧ r ≤ 5) (ho : ∀ x, -1000000 ≤ ogM f r t x ∧ ogM f r t x ≤ 1000000) (hQ : ∀ f1, fT f f1 → Q (1, vl (ptM f t) (ogM f r t) cs0) f1) : aw_cl (d + 3) 285 [(110, 270), (0, t)] f Q := by
  have key : ∀ (cs : List Int) (k : Int) (g : am_F) (s : List Int) (ts : List Bool) (x : am_V), k + cs.length = cs0.length → 0 ≤ k → fT f g → al f 340 id k cs → pl g 342 s → g 270 98 = s.length → okS ts s → tr false true cs ts = some [b] → ts.length ≤ 100 → (er (ptM f t) (ogM f r t) cs s).headD 0 = vl (ptM f t) (ogM f r t) cs0 → aw_wp (d + 3) 285 7 [(110, 270), (0, t), (0, k), x] [] g Q := by
    intro cs
    induction cs with
    | nil =>
      intro k g s ts x h1 h2 hF h4 h5 h6 h7 h8 h10 h9
      have hmg : mfx g := mfx_fr hm (fun j hj => hF _ _ (by omega))
      unfold mfx at hmg
      have z1 : g 270 92 = cs0.length := (hF _ _ (by omega)).trans h92
      simp only [List.length_nil] at h1
      have c2 : (cs0.length : Int) ≤ k := by omega
      cases h8
      match s, h7 with
      | [v], h7 =>
        have z2 : g 342 0 = v := h5.1
        have z3 : v = vl (ptM f t) (ogM f r t) cs0 := h9
        rw [r285_7]
        simp (disch := omega) [q285, r285_0, r285_1, r285_2, r285_5, r285_6, r285_8, r285_9, r285_12, r285_15, r285_16, r285_19, r285_20, r285_21, r285_22, r285_23, r285_26, r285_29, r285_30, r285_31, r285_34, r285_35, r285_36, r285_39, r285_42, r285_43, r285_45, r285_48, r285_49, r285_52, r285_53, r285_56, r285_57, r285_58, r285_59, r285_60, r285_62, r285_63, r285_64, r285_67, r285_68, r285_71, r285_72, r285_73, r285_74, r285_75, r285_78, r285_81, r285_82, r285_85, r285_86, r285_88, r285_91, r285_92, r285_93, r285_94, r285_96, r285_97, r285_98, r285_101, r285_104, r285_107, r285_110, r285_111, r285_113, r285_116, r285_117, r285_118, r285_121, r285_124, r285_125, r285_127, r285_130, r285_131, r285_134, r285_135, r285_138, r285_139, r285_140, r285_141, r285_142, r285_145, r285_146, r285_149, r285_150, r285_151, r285_152, r285_153, r285_154, r285_157, r285_158, r285_159, r285_162, r285_165, r285_168, r285_169, r285_172, r285_173, r285_174, cs_nil, cs_cons, lc_lt, lc_ge, lc_gt, lc_le, lc_eq, hmg, ln_340, ln_342, am_wid2, z1, c2, z2, z3]
        exact hQ g hF
    | cons c cs ih =>
      intro k g s ts x h1 h2 hF h4 h5 h6 h7 h8 h10 h9
      have hmg : mfx g := mfx_fr hm (fun j hj => hF _ _ (by omega))
      have hmg' := hmg
      unfold mfx at hmg
      have z1 : g 270 92 = cs0.length := (hF _ _ (by omega)).trans h92
      simp only [List.length_cons] at h1
      have c2 : ¬ (cs0.length : Int) ≤ k := by omega
      have c3 : (0 : Int) ≤ k ∧ k < 1700 := by omega
      have z2 : g 340 k = c := (hF _ _ (by omega)).trans h4.1
      unfold tr at h8
      cases h1' : t1 false true c ts with
      | none => rw [h1'] at h8; cases h8
      | some us =>
        rw [h1'] at h8
        have hok := e1_ok (og := ogM f r t) hp ho h1' h7
        have hl7 := okS_len _ _ h7
        have go : ∀ g' x', fT f g' → pl g' 342 (e1 (ptM f t) (ogM f r t) c s) → g' 270 98 = ((e1 (ptM f t) (ogM f r t) c s).length : Int) → aw_wp (d + 3) 285 7 [(110, 270), (0, t), (0, k + 1), x'] [] g' Q := fun g' x' i1 i2 i3 => ih (k + 1) g' _ us x' (by omega) (by omega) i1 h4.2 i2 i3 hok h8 (t1_len h1' h10) h9
        rw [r285_7]
        have h1o := h1'
        unfold t1 at h1'
        by_cases b1 : 1000 ≤ c
        · rw [if_pos b1] at h1'
          split at h1'
          · rename_i hh
            have c4 : (s.length : Int) < 1700 := by omega
            have hE : e1 (ptM f t) (ogM f r t) c s = (c - 1000) :: s := by unfold e1; rw [if_pos b1]
            rw [hE] at go
            have b1' : ¬ c < 1000 := by omega
            simp (disch := omega) [q285, r285_0, r285_1, r285_2, r285_5, r285_6, r285_8, r285_9, r285_12, r285_15, r285_16, r285_19, r285_20, r285_21, r285_22, r285_23, r285_26, r285_29, r285_30, r285_31, r285_34, r285_35, r285_36, r285_39, r285_42, r285_43, r285_45, r285_48, r285_49, r285_52, r285_53, r285_56, r285_57, r285_58, r285_59, r285_60, r285_62, r285_63, r285_64, r285_67, r285_68, r285_71, r285_72, r285_73, r285_74, r285_75, r285_78, r285_81, r285_82, r285_85, r285_86, r285_88, r285_91, r285_92, r285_93, r285_94, r285_96, r285_97, r285_98, r285_101, r285_104, r285_107, r285_110, r285_111, r285_113, r285_116, r285_117, r285_118, r285_121, r285_124, r285_125, r285_127, r285_130, r285_131, r285_134, r285_135, r285_138, r285_139, r285_140, r285_141, r285_142, r285_145, r285_146, r285_149, r285_150, r285_151, r285_152, r285_153, r285_154, r285_157, r285_158, r285_159, r285_162, r285_165, r285_168, r285_169, r285_172, r285_173, r285_174, q216, r216_0, r216_1, r216_4, r216_5, r216_8, r216_9, r216_10, r216_11, r216_12, r216_15, r216_16, r216_17, r216_20, cs_nil, cs_cons, lc_lt, lc_ge, lc_gt, lc_le, lc_eq, hmg, ln_340, ln_342, am_wid2, z1, c2, c3, c4, z2, b1', am_ue, am_un, h6]
            refine go _ _ ?_ ?_ ?_
            · intro a j hh2
              rw [am_un (by omega), am_un (by omega)]
              exact hF a j hh2
            · exact pl_fr _ (fun j _ _ => am_un (by omega)) (pl_push h5)
            · rw [am_ue]; simp
          · cases h1'
        rw [if_neg b1] at h1'
        have b1' : c < 1000 := by omega
        by_cases b2 : 60 ≤ c
        · rw [if_pos b2] at h1'
          match ts, s, h1', h5, h6, h7, go, hl7, h10 with
          | false :: rr, y :: s, h1', h5, h6, h7, go, hl7, h10 =>
            have c60 : c = 60 := by
              have h1'' : (if c = 60 ∧ true = true then some (false :: rr) else none) = some us := h1'
              split at h1''
              · rename_i hh; exact hh.1
              · cases h1''
            have c4 : (s.length : Int) < 1700 := by simp at hl7 h10; omega
            have hE : e1 (ptM f t) (ogM f r t) c (y :: s) = ogM f r t y :: s := by unfold e1; rw [if_neg b1, if_pos b2]
            rw [hE] at go
            have c5 := okv_b h7.1
            have z3 : g 342 (s.length : Int) = y := h5.1
            have z4 : g 270 98 = (s.length : Int) + 1 := by rw [h6]; simp
            have eo := fun (dd : Nat) (QQ : am_V → am_F → Prop) => m_qof (d := dd) (Q := QQ) (f := g) (r := r) (x := y) hmg' ((hF _ _ (by omega)).trans hr.1) hr.2 ht c5
            have eog : ogM g r t y = ogM f r t y := by unfold ogM; rw [hF _ _ (by omega)]
            have ecl : clp (ogM f r t y) = ogM f r t y := by have := ho y; unfold clp; rw [if_neg (by omega), if_neg (by omega)]
            simp (disch := omega) [q285, r285_0, r285_1, r285_2, r285_5, r285_6, r285_8, r285_9, r285_12, r285_15, r285_16, r285_19, r285_20, r285_21, r285_22, r285_23, r285_26, r285_29, r285_30, r285_31, r285_34, r285_35, r285_36, r285_39, r285_42, r285_43, r285_45, r285_48, r285_49, r285_52, r285_53, r285_56, r285_57, r285_58, r285_59, r285_60, r285_62, r285_63, r285_64, r285_67, r285_68, r285_71, r285_72, r285_73, r285_74, r285_75, r285_78, r285_81, r285_82, r285_85, r285_86, r285_88, r285_91, r285_92, r285_93, r285_94, r285_96, r285_97, r285_98, r285_101, r285_104, r285_107, r285_110, r285_111, r285_113, r285_116, r285_117, r285_118, r285_121, r285_124, r285_125, r285_127, r285_130, r285_131, r285_134, r285_135, r285_138, r285_139, r285_140, r285_141, r285_142, r285_145, r285_146, r285_149, r285_150, r285_151, r285_152, r285_153, r285_154, r285_157, r285_158, r285_159, r285_162, r285_165, r285_168, r285_169, r285_172, r285_173, r285_174, q216, r216_0, r216_1, r216_4, r216_5, r216_8, r216_9, r216_10, r216_11, r216_12, r216_15, r216_16, r216_17, r216_20, cs_nil, cs_cons, lc_lt, lc_ge, lc_gt, lc_le, lc_eq, hmg, ln_340, ln_342, am_wid2, z1, c2, c3, c4, z2, z3, z4, c60, eo, eog, m_clip, ecl, am_ue, am_un]
            refine go _ _ ?_ ?_ ?_
            · intro a j hh2
              rw [am_un (by omega)]
              exact hF a j hh2
            · exact pl_push h5.2
            · rw [am_un (by omega), z4]; simp
          | true :: rr, y :: s, h1', _, _, _, _, _, _ => cases h1'
          | [], [], h1', _, _, _, _, _, _ => cases h1'
        rw [if_neg b2] at h1'
        have b2' : c < 60 := by omega
        by_cases b3 : 40 ≤ c
        · rw [if_pos b3] at h1'
          split at h1'
          · rename_i hh
            have c4 : (s.length : Int) < 1700 := by omega
            have hE : e1 (ptM f t) (ogM f r t) c s = ptM f t (c - 40) :: s := by unfold e1; rw [if_neg b1, if_neg b2, if_pos b3]
            rw [hE] at go
            have b3' : ¬ c < 40 := by omega
            have ecl : clp (ptM f t (c - 40)) = ptM f t (c - 40) := by have := hp (c - 40) (by omega) (by omega) (fun q => hh.2.1 (by omega)); unfold clp; rw [if_neg (by omega), if_neg (by omega)]
            simp (disch := omega) [q285, r285_0, r285_1, r285_2, r285_5, r285_6, r285_8, r285_9, r285_12, r285_15, r285_16, r285_19, r285_20, r285_21, r285_22, r285_23, r285_26, r285_29, r285_30, r285_31, r285_34, r285_35, r285_36, r285_39, r285_42, r285_43, r285_45, r285_48, r285_49, r285_52, r285_53, r285_56, r285_57, r285_58, r285_59, r285_60, r285_62, r285_63, r285_64, r285_67, r285_68, r285_71, r285_72, r285_73, r285_74, r285_75, r285_78, r285_81, r285_82, r285_85, r285_86, r285_88, r285_91, r285_92, r285_93, r285_94, r285_96, r285_97, r285_98, r285_101, r285_104, r285_107, r285_110, r285_111, r285_113, r285_116, r285_117, r285_118, r285_121, r285_124, r285_125, r285_127, r285_130, r285_131, r285_134, r285_135, r285_138, r285_139, r285_140, r285_141, r285_142, r285_145, r285_146, r285_149, r285_150, r285_151, r285_152, r285_153, r285_154, r285_157, r285_158, r285_159, r285_162, r285_165, r285_168, r285_169, r285_172, r285_173, r285_174, q216, r216_0, r216_1, r216_4, r216_5, r216_8, r216_9, r216_10, r216_11, r216_12, r216_15, r216_16, r216_17, r216_20, cs_nil, cs_cons, lc_lt, lc_ge, lc_gt, lc_le, lc_eq, hmg, ln_340, ln_342, am_wid2, z1, c2, c3, c4, z2, b1', b2', b3', am_ue, am_un, h6, m_part hmg' ht.1 ht.2, ptM_fr hF, m_clip, ecl]
            refine go _ _ ?_ ?_ ?_
            · intro a j hh2
              rw [am_un (by omega), am_un (by omega)]
              exact hF a j hh2
            · exact pl_fr _ (fun j _ _ => am_un (by omega)) (pl_push h5)
            · rw [am_ue]; simp
          · cases h1'
        rw [if_neg b3] at h1'
        have b3' : c < 40 := by omega
        by_cases b4 : c = 13
        · rw [if_pos b4] at h1'
          split at h1'
          · rename_i hh
            have c4 : (s.length : Int) < 1700 := by omega
            have hE : e1 (ptM f t) (ogM f r t) c s = 1 :: s := by unfold e1; rw [if_neg b1, if_neg b2, if_neg b3, if_pos b4]
            rw [hE] at go
            simp (disch := omega) [q285, r285_0, r285_1, r285_2, r285_5, r285_6, r285_8, r285_9, r285_12, r285_15, r285_16, r285_19, r285_20, r285_21, r285_22, r285_23, r285_26, r285_29, r285_30, r285_31, r285_34, r285_35, r285_36, r285_39, r285_42, r285_43, r285_45, r285_48, r285_49, r285_52, r285_53, r285_56, r285_57, r285_58, r285_59, r285_60, r285_62, r285_63, r285_64, r285_67, r285_68, r285_71, r285_72, r285_73, r285_74, r285_75, r285_78, r285_81, r285_82, r285_85, r285_86, r285_88, r285_91, r285_92, r285_93, r285_94, r285_96, r285_97, r285_98, r285_101, r285_104, r285_107, r285_110, r285_111, r285_113, r285_116, r285_117, r285_118, r285_121, r285_124, r285_125, r285_127, r285_130, r285_131, r285_134, r285_135, r285_138, r285_139, r285_140, r285_141, r285_142, r285_145, r285_146, r285_149, r285_150, r285_151, r285_152, r285_153, r285_154, r285_157, r285_158, r285_159, r285_162, r285_165, r285_168, r285_169, r285_172, r285_173, r285_174, q216, r216_0, r216_1, r216_4, r216_5, r216_8, r216_9, r216_10, r216_11, r216_12, r216_15, r216_16, r216_17, r216_20, cs_nil, cs_cons, lc_lt, lc_ge, lc_gt, lc_le, lc_eq, hmg, ln_340, ln_342, am_wid2, z1, c2, c3, c4, z2, b1', b2', b3', b4, am_ue, am_un, h6]
            refine go _ _ ?_ ?_ ?_
            · intro a j hh2
              rw [am_un (by omega), am_un (by omega)]
              exact hF a j hh2
            · exact pl_fr _ (fun j _ _ => am_un (by omega)) (pl_push h5)
            · rw [am_ue]; simp
          · cases h1'
        rw [if_neg b4] at h1'
        by_cases b5 : c = 12
        · rw [if_pos b5] at h1'
          match ts, s, h1', h5, h6, h7, go, hl7, h10 with
          | true :: rr, y :: s, h1', h5, h6, h7, go, hl7, h10 =>
            have c4 : (s.length : Int) < 1700 := by simp at hl7 h10; omega
            have hE : e1 (ptM f t) (ogM f r t) c (y :: s) = (1 - y) :: s := by unfold e1; rw [if_neg b1, if_neg b2, if_neg b3, if_neg b4, if_pos b5]
            rw [hE] at go
            have c5 := h7.1
            simp [okv] at c5
            have z3 : g 342 (s.length : Int) = y := h5.1
            have z4 : g 270 98 = (s.length : Int) + 1 := by rw [h6]; simp
            simp (disch := omega) [q285, r285_0, r285_1, r285_2, r285_5, r285_6, r285_8, r285_9, r285_12, r285_15, r285_16, r285_19, r285_20, r285_21, r285_22, r285_23, r285_26, r285_29, r285_30, r285_31, r285_34, r285_35, r285_36, r285_39, r285_42, r285_43, r285_45, r285_48, r285_49, r285_52, r285_53, r285_56, r285_57, r285_58, r285_59, r285_60, r285_62, r285_63, r285_64, r285_67, r285_68, r285_71, r285_72, r285_73, r285_74, r285_75, r285_78, r285_81, r285_82, r285_85, r285_86, r285_88, r285_91, r285_92, r285_93, r285_94, r285_96, r285_97, r285_98, r285_101, r285_104, r285_107, r285_110, r285_111, r285_113, r285_116, r285_117, r285_118, r285_121, r285_124, r285_125, r285_127, r285_130, r285_131, r285_134, r285_135, r285_138, r285_139, r285_140, r285_141, r285_142, r285_145, r285_146, r285_149, r285_150, r285_151, r285_152, r285_153, r285_154, r285_157, r285_158, r285_159, r285_162, r285_165, r285_168, r285_169, r285_172, r285_173, r285_174, q216, r216_0, r216_1, r216_4, r216_5, r216_8, r216_9, r216_10, r216_11, r216_12, r216_15, r216_16, r216_17, r216_20, cs_nil, cs_cons, lc_lt, lc_ge, lc_gt, lc_le, lc_eq, hmg, ln_340, ln_342, am_wid2, am_wLd2, z1, c2, c3, c4, z2, z3, z4, b1', b2', b3', b5, am_ue, am_un]
            refine go _ _ ?_ ?_ ?_
            · intro a j hh2
              rw [am_un (by omega)]
              exact hF a j hh2
            · exact pl_push h5.2
            · rw [am_un (by omega), z4]; simp
          | false :: rr, x :: s, h1', _, _, _, _, _, _ => cases h1'
          | [], [], h1', _, _, _, _, _, _ => cases h1'
        rw [if_neg b5] at h1'
        have hj : ∃ y z s', s = y :: z :: s' ∧ -1000000 ≤ y ∧ y ≤ 1000000 ∧ -1000000 ≤ z ∧ z ≤ 1000000 ∧ 1 ≤ c ∧ c ≤ 11 := t1_two h1o b3' b4 b5 h7
        obtain ⟨y, z, s', rfl, y1, y2, y3, y4, b6, b7⟩ := hj
        have c4 : (s'.length : Int) + 2 ≤ 1700 := by simp at hl7; omega
        have hE : e1 (ptM f t) (ogM f r t) c (y :: z :: s') = jn c z y :: s' := by unfold e1; rw [if_neg b1, if_neg b2, if_neg b3, if_neg b4, if_neg b5]
        rw [hE] at go
        have z4 : g 270 98 = (s'.length : Int) + 2 := by rw [h6]; simp; omega
        have z5 : g 342 ((s'.length : Int) + 2 - 2) = z := by rw [Int.add_sub_cancel]; exact h5.2.1
        have z6 : g 342 ((s'.length : Int) + 2 - 1) = y := by have := h5.1; simp only [List.length_cons, Int.natCast_add] at this; rw [show (s'.length : Int) + 2 - 1 = s'.length + (1 : Nat) by omega]; exact this
        simp (disch := omega) [q285, r285_0, r285_1, r285_2, r285_5, r285_6, r285_8, r285_9, r285_12, r285_15, r285_16, r285_19, r285_20, r285_21, r285_22, r285_23, r285_26, r285_29, r285_30, r285_31, r285_34, r285_35, r285_36, r285_39, r285_42, r285_43, r285_45, r285_48, r285_49, r285_52, r285_53, r285_56, r285_57, r285_58, r285_59, r285_60, r285_62, r285_63, r285_64, r285_67, r285_68, r285_71, r285_72, r285_73, r285_74, r285_75, r285_78, r285_81, r285_82, r285_85, r285_86, r285_88, r285_91, r285_92, r285_93, r285_94, r285_96, r285_97, r285_98, r285_101, r285_104, r285_107, r285_110, r285_111, r285_113, r285_116, r285_117, r285_118, r285_121, r285_124, r285_125, r285_127, r285_130, r285_131, r285_134, r285_135, r285_138, r285_139, r285_140, r285_141, r285_142, r285_145, r285_146, r285_149, r285_150, r285_151, r285_152, r285_153, r285_154, r285_157, r285_158, r285_159, r285_162, r285_165, r285_168, r285_169, r285_172, r285_173, r285_174, cs_nil, cs_cons, lc_lt, lc_ge, lc_gt, lc_le, lc_eq, hmg, ln_340, am_wid2, z1, c2, c3, z2, b1', b2', b3', b4, b5, am_un, m_join hmg' z4 (by omega) c4 z5 z6 y3 y4 y1 y2 ⟨b6, b7⟩]
        refine go _ _ ?_ ?_ ?_
        · intro a j hh2
          rw [am_un (by omega), am_un (by omega), am_un (by omega)]
          exact hF a j hh2
        · refine pl_fr _ (fun j _ _ => am_un (by omega)) (pl_push (pl_fr _ (fun j _ _ => am_un (by omega)) h5.2.2))
        · rw [am_ue]; simp; omega
  have h5' : fT f (am_up f 270 98 0) := by
    intro a j hh2
    rw [am_un (by omega)]
  have fin := key cs0 0 _ [] [] (2, 0) (by omega) (by omega) h5' hc trivial am_ue trivial hty (by simp) rfl
  simpa [q285, r285_0, r285_1, r285_2, r285_5, r285_6, cs_nil, cs_cons, lc_lt, lc_ge, lc_gt, lc_le, lc_eq] using fin
