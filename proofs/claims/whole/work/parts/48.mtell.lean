theorem mfx_fr {f g : am_F} (hm : mfx f) (h : ∀ j : Int, (j = 0 ∨ j = 9 ∨ (39 ≤ j ∧ j ≤ 42) ∨ (45 ≤ j ∧ j ≤ 47) ∨ j = 51 ∨ j = 52 ∨ j = 56 ∨ (59 ≤ j ∧ j ≤ 64) ∨ j = 91 ∨ j = 93 ∨ j = 97 ∨ j = 101) → g 270 j = f 270 j) : mfx g := by
  unfold mfx at hm ⊢
  refine ⟨(h 0 (by omega)).trans hm.1, (h 9 (by omega)).trans hm.2.1, (h 39 (by omega)).trans hm.2.2.1, (h 40 (by omega)).trans hm.2.2.2.1, (h 41 (by omega)).trans hm.2.2.2.2.1, (h 42 (by omega)).trans hm.2.2.2.2.2.1, (h 45 (by omega)).trans hm.2.2.2.2.2.2.1, (h 46 (by omega)).trans hm.2.2.2.2.2.2.2.1, (h 47 (by omega)).trans hm.2.2.2.2.2.2.2.2.1, (h 51 (by omega)).trans hm.2.2.2.2.2.2.2.2.2.1, (h 52 (by omega)).trans hm.2.2.2.2.2.2.2.2.2.2.1, (h 56 (by omega)).trans hm.2.2.2.2.2.2.2.2.2.2.2.1, (h 59 (by omega)).trans hm.2.2.2.2.2.2.2.2.2.2.2.2.1, (h 60 (by omega)).trans hm.2.2.2.2.2.2.2.2.2.2.2.2.2.1, (h 61 (by omega)).trans hm.2.2.2.2.2.2.2.2.2.2.2.2.2.2.1, (h 62 (by omega)).trans hm.2.2.2.2.2.2.2.2.2.2.2.2.2.2.2.1, (h 63 (by omega)).trans hm.2.2.2.2.2.2.2.2.2.2.2.2.2.2.2.2.1, (h 64 (by omega)).trans hm.2.2.2.2.2.2.2.2.2.2.2.2.2.2.2.2.2.1, (h 91 (by omega)).trans hm.2.2.2.2.2.2.2.2.2.2.2.2.2.2.2.2.2.2.1, (h 93 (by omega)).trans hm.2.2.2.2.2.2.2.2.2.2.2.2.2.2.2.2.2.2.2.1, (h 97 (by omega)).trans hm.2.2.2.2.2.2.2.2.2.2.2.2.2.2.2.2.2.2.2.2.1, (h 101 (by omega)).trans hm.2.2.2.2.2.2.2.2.2.2.2.2.2.2.2.2.2.2.2.2.2⟩
/-- what codesTell leaves as it was -/
def fT (f g : am_F) : Prop := ∀ c j : Int, ¬ (c = 342 ∨ c = 270 ∧ (j = 50 ∨ j = 98)) → g c j = f c j
theorem ptM_fr {f g : am_F} (h : fT f g) {t k : Int} : ptM g t k = ptM f t k := by
  unfold fT at h
  unfold ptM
  simp (disch := omega) only [h]
theorem pl_push {f : am_F} {b v : Int} {s : List Int} (h : pl f b s) : pl (am_up f b (s.length : Int) v) b (v :: s) := by
  refine ⟨am_ue, pl_fr s (fun j h0 h1 => am_un (by omega)) h⟩
theorem t1_len {sk q : Bool} {c : Int} {ts us : List Bool} (h : t1 sk q c ts = some us) (hl : ts.length ≤ 100) : us.length ≤ 100 := by
  unfold t1 at h
  repeat' (split at h)
  all_goals first | (cases h; done) | (cases h; simp at *; omega)
theorem okv_b {t : Bool} {v : Int} (h : okv t v) : -1000000 ≤ v ∧ v ≤ 1000000 := by
  unfold okv at h
  split at h <;> omega
theorem t1_two {sk q : Bool} {c : Int} {ts us : List Bool} {s : List Int} (h : t1 sk q c ts = some us) (b3 : c < 40) (b4 : ¬ c = 13) (b5 : ¬ c = 12) (h7 : okS ts s) : ∃ y z s', s = y :: z :: s' ∧ -1000000 ≤ y ∧ y ≤ 1000000 ∧ -1000000 ≤ z ∧ z ≤ 1000000 ∧ 1 ≤ c ∧ c ≤ 11 := by
  have hc : (1 ≤ c ∧ c ≤ 11) ∧ 2 ≤ ts.length := by
    unfold t1 at h
    rw [if_neg (by omega), if_neg (by omega), if_neg (by omega), if_neg b4, if_neg b5] at h
    repeat' (split at h)
    all_goals first | (cases h; done) | (simp; omega)
  match ts, s, h7, hc with
  | t :: u :: r, y :: z :: s', h7, hc =>
    have i1 := okv_b h7.1
    have i2 := okv_b h7.2.1
    exact ⟨y, z, s', rfl, i1.1, i1.2, i2.1, i2.2, hc.1.1, hc.1.2⟩
  | [t], _, _, hc => simp at hc
  | [], _, _, hc => simp at hc
theorem m_tell {d : Nat} {f : am_F} {Q : am_V → am_F → Prop} {w t k0 : Int} {cs0 : List Int} {sk b : Bool} {og : Int → Int} (hm : mfx f) (hw : 0 ≤ w ∧ w < 10) (ht : 0 ≤ t ∧ t < 8) (hk0 : f 305 (10 + w) = k0) (he : f 306 (10 + w) = k0 + cs0.length) (hk : 0 ≤ k0) (hke : k0 + cs0.length ≤ 1600) (hc : al f 307 id (1600 + k0) cs0) (hty : tr sk false cs0 [] = some [b]) (hp : ∀ k, 0 ≤ k → k ≤ 9 → (k = 7 → sk = true) → -1000000 ≤ ptM f t k ∧ ptM f t k ≤ 1000000) (ho : ∀ x, -1000000 ≤ og x ∧ og x ≤ 1000000) (hQ : ∀ f1, fT f f1 → Q (1, vl (ptM f t) og cs0) f1) : aw_cl (d + 3) 215 [(110, 270), (0, w), (0, t)] f Q := by
  have key : ∀ (cs : List Int) (k : Int) (g : am_F) (s : List Int) (ts : List Bool) (x : am_V), k + cs.length = k0 + cs0.length → 0 ≤ k → fT f g → al f 307 id (1600 + k) cs → pl g 342 s → g 270 98 = s.length → okS ts s → tr sk false cs ts = some [b] → ts.length ≤ 100 → (er (ptM f t) og cs s).headD 0 = vl (ptM f t) og cs0 → aw_wp (d + 3) 215 23 [(110, 270), (0, w), (0, t), (0, k), x] [] g Q := by
    intro cs
    induction cs with
    | nil =>
      intro k g s ts x h1 h2 hF h4 h5 h6 h7 h8 h10 h9
      have hmg : mfx g := mfx_fr hm (fun j hj => hF _ _ (by omega))
      unfold mfx at hmg
      have z1 : g 306 (10 + w) = k0 + cs0.length := (hF _ _ (by omega)).trans he
      have c1 : (0 : Int) ≤ 10 + w ∧ 10 + w < 20 := by omega
      simp only [List.length_nil] at h1
      have c2 : k0 + cs0.length ≤ k := by omega
      cases h8
      match s, h7 with
      | [v], h7 =>
        have z2 : g 342 0 = v := h5.1
        have z3 : v = vl (ptM f t) og cs0 := h9
        rw [r215_23]
        simp (disch := omega) [q215, r215_0, r215_1, r215_2, r215_5, r215_8, r215_9, r215_10, r215_13, r215_14, r215_17, r215_19, r215_20, r215_21, r215_22, r215_24, r215_25, r215_28, r215_30, r215_31, r215_32, r215_33, r215_36, r215_37, r215_40, r215_43, r215_44, r215_45, r215_46, r215_48, r215_50, r215_53, r215_56, r215_57, r215_59, r215_62, r215_63, r215_64, r215_67, r215_70, r215_72, r215_74, r215_77, r215_78, r215_79, r215_81, r215_83, r215_84, r215_85, r215_88, r215_91, r215_94, r215_96, r215_98, r215_101, r215_102, r215_103, r215_106, r215_109, r215_111, r215_113, r215_116, r215_117, r215_120, r215_121, r215_124, r215_125, r215_126, r215_127, r215_128, r215_131, r215_132, r215_135, r215_136, r215_137, r215_138, r215_139, r215_140, r215_143, r215_144, r215_146, r215_149, r215_152, r215_155, r215_156, r215_159, r215_160, r215_161, cs_nil, cs_cons, lc_lt, lc_ge, lc_gt, lc_le, lc_eq, hmg, ln_306, ln_342, am_wid2, z1, c1, c2, z2, z3]
        exact hQ g hF
    | cons c cs ih =>
      intro k g s ts x h1 h2 hF h4 h5 h6 h7 h8 h10 h9
      have hmg : mfx g := mfx_fr hm (fun j hj => hF _ _ (by omega))
      have hmg' := hmg
      unfold mfx at hmg
      have z1 : g 306 (10 + w) = k0 + cs0.length := (hF _ _ (by omega)).trans he
      have c1 : (0 : Int) ≤ 10 + w ∧ 10 + w < 20 := by omega
      simp only [List.length_cons] at h1
      have c2 : ¬ k0 + cs0.length ≤ k := by omega
      have c3 : (0 : Int) ≤ 1600 + k ∧ 1600 + k < 3200 := by omega
      have z2 : g 307 (1600 + k) = c := (hF _ _ (by omega)).trans h4.1
      unfold tr at h8
      cases h1' : t1 sk false c ts with
      | none => rw [h1'] at h8; cases h8
      | some us =>
        rw [h1'] at h8
        have hok := e1_ok (og := og) hp ho h1' h7
        have hl7 := okS_len _ _ h7
        have go : ∀ g' x', fT f g' → pl g' 342 (e1 (ptM f t) og c s) → g' 270 98 = ((e1 (ptM f t) og c s).length : Int) → aw_wp (d + 3) 215 23 [(110, 270), (0, w), (0, t), (0, k + 1), x'] [] g' Q := fun g' x' i1 i2 i3 => ih (k + 1) g' _ us x' (by omega) (by omega) i1 (by have := h4.2; rwa [Int.add_assoc] at this) i2 i3 hok h8 (t1_len h1' h10) h9
        rw [r215_23]
        have h1o := h1'
        unfold t1 at h1'
        by_cases b1 : 1000 ≤ c
        · rw [if_pos b1] at h1'
          split at h1'
          · rename_i hh
            have c4 : (s.length : Int) < 1700 := by omega
            have hE : e1 (ptM f t) og c s = (c - 1000) :: s := by unfold e1; rw [if_pos b1]
            rw [hE] at go
            have b1' : ¬ c < 1000 := by omega
            simp (disch := omega) [q215, r215_0, r215_1, r215_2, r215_5, r215_8, r215_9, r215_10, r215_13, r215_14, r215_17, r215_19, r215_20, r215_21, r215_22, r215_24, r215_25, r215_28, r215_30, r215_31, r215_32, r215_33, r215_36, r215_37, r215_40, r215_43, r215_44, r215_45, r215_46, r215_48, r215_50, r215_53, r215_56, r215_57, r215_59, r215_62, r215_63, r215_64, r215_67, r215_70, r215_72, r215_74, r215_77, r215_78, r215_79, r215_81, r215_83, r215_84, r215_85, r215_88, r215_91, r215_94, r215_96, r215_98, r215_101, r215_102, r215_103, r215_106, r215_109, r215_111, r215_113, r215_116, r215_117, r215_120, r215_121, r215_124, r215_125, r215_126, r215_127, r215_128, r215_131, r215_132, r215_135, r215_136, r215_137, r215_138, r215_139, r215_140, r215_143, r215_144, r215_146, r215_149, r215_152, r215_155, r215_156, r215_159, r215_160, r215_161, q216, r216_0, r216_1, r216_4, r216_5, r216_8, r216_9, r216_10, r216_11, r216_12, r216_15, r216_16, r216_17, r216_20, cs_nil, cs_cons, lc_lt, lc_ge, lc_gt, lc_le, lc_eq, hmg, ln_306, ln_307, ln_342, am_wid2, z1, c1, c2, c3, c4, z2, b1', am_ue, am_un, h6]
            refine go _ _ ?_ ?_ ?_
            · intro a j hh2
              rw [am_un (by omega), am_un (by omega)]
              exact hF a j hh2
            · exact pl_fr _ (fun j _ _ => am_un (by omega)) (pl_push h5)
            · rw [am_ue]; simp
          · cases h1'
        rw [if_neg b1] at h1'
        have b1' : c < 1000 := by omega
        by_cases b2 : 60 ≤ c
        · rw [if_pos b2] at h1'
          match ts, h1' with
          | false :: r, h1' => simp at h1'
          | true :: r, h1' => cases h1'
          | [], h1' => cases h1'
        rw [if_neg b2] at h1'
        by_cases b3 : 40 ≤ c
        · rw [if_pos b3] at h1'
          split at h1'
          · rename_i hh
            have c4 : (s.length : Int) < 1700 := by omega
            have hE : e1 (ptM f t) og c s = ptM f t (c - 40) :: s := by unfold e1; rw [if_neg b1, if_neg b2, if_pos b3]
            rw [hE] at go
            have b3' : ¬ c < 40 := by omega
            simp (disch := omega) [q215, r215_0, r215_1, r215_2, r215_5, r215_8, r215_9, r215_10, r215_13, r215_14, r215_17, r215_19, r215_20, r215_21, r215_22, r215_24, r215_25, r215_28, r215_30, r215_31, r215_32, r215_33, r215_36, r215_37, r215_40, r215_43, r215_44, r215_45, r215_46, r215_48, r215_50, r215_53, r215_56, r215_57, r215_59, r215_62, r215_63, r215_64, r215_67, r215_70, r215_72, r215_74, r215_77, r215_78, r215_79, r215_81, r215_83, r215_84, r215_85, r215_88, r215_91, r215_94, r215_96, r215_98, r215_101, r215_102, r215_103, r215_106, r215_109, r215_111, r215_113, r215_116, r215_117, r215_120, r215_121, r215_124, r215_125, r215_126, r215_127, r215_128, r215_131, r215_132, r215_135, r215_136, r215_137, r215_138, r215_139, r215_140, r215_143, r215_144, r215_146, r215_149, r215_152, r215_155, r215_156, r215_159, r215_160, r215_161, q216, r216_0, r216_1, r216_4, r216_5, r216_8, r216_9, r216_10, r216_11, r216_12, r216_15, r216_16, r216_17, r216_20, cs_nil, cs_cons, lc_lt, lc_ge, lc_gt, lc_le, lc_eq, hmg, ln_306, ln_307, ln_342, am_wid2, z1, c1, c2, c3, c4, z2, b1', b3', am_ue, am_un, h6, m_part hmg' ht.1 ht.2, ptM_fr hF]
            refine go _ _ ?_ ?_ ?_
            · intro a j hh2
              rw [am_un (by omega), am_un (by omega)]
              exact hF a j hh2
            · exact pl_fr _ (fun j _ _ => am_un (by omega)) (pl_push h5)
            · rw [am_ue]; simp
          · cases h1'
        rw [if_neg b3] at h1'
        have b3' : c < 40 := by omega
        by_cases b4 : c = 13
        · rw [if_pos b4] at h1'
          split at h1'
          · rename_i hh
            have c4 : (s.length : Int) < 1700 := by omega
            have hE : e1 (ptM f t) og c s = 1 :: s := by unfold e1; rw [if_neg b1, if_neg b2, if_neg b3, if_pos b4]
            rw [hE] at go
            simp (disch := omega) [q215, r215_0, r215_1, r215_2, r215_5, r215_8, r215_9, r215_10, r215_13, r215_14, r215_17, r215_19, r215_20, r215_21, r215_22, r215_24, r215_25, r215_28, r215_30, r215_31, r215_32, r215_33, r215_36, r215_37, r215_40, r215_43, r215_44, r215_45, r215_46, r215_48, r215_50, r215_53, r215_56, r215_57, r215_59, r215_62, r215_63, r215_64, r215_67, r215_70, r215_72, r215_74, r215_77, r215_78, r215_79, r215_81, r215_83, r215_84, r215_85, r215_88, r215_91, r215_94, r215_96, r215_98, r215_101, r215_102, r215_103, r215_106, r215_109, r215_111, r215_113, r215_116, r215_117, r215_120, r215_121, r215_124, r215_125, r215_126, r215_127, r215_128, r215_131, r215_132, r215_135, r215_136, r215_137, r215_138, r215_139, r215_140, r215_143, r215_144, r215_146, r215_149, r215_152, r215_155, r215_156, r215_159, r215_160, r215_161, q216, r216_0, r216_1, r216_4, r216_5, r216_8, r216_9, r216_10, r216_11, r216_12, r216_15, r216_16, r216_17, r216_20, cs_nil, cs_cons, lc_lt, lc_ge, lc_gt, lc_le, lc_eq, hmg, ln_306, ln_307, ln_342, am_wid2, z1, c1, c2, c3, c4, z2, b1', b3', b4, am_ue, am_un, h6]
            refine go _ _ ?_ ?_ ?_
            · intro a j hh2
              rw [am_un (by omega), am_un (by omega)]
              exact hF a j hh2
            · exact pl_fr _ (fun j _ _ => am_un (by omega)) (pl_push h5)
            · rw [am_ue]; simp
          · cases h1'
        rw [if_neg b4] at h1'
        by_cases b5 : c = 12
        · rw [if_pos b5] at h1'
          match ts, s, h1', h5, h6, h7, go, hl7, h10 with
          | true :: r, y :: s, h1', h5, h6, h7, go, hl7, h10 =>
            have c4 : (s.length : Int) < 1700 := by simp at hl7 h10; omega
            have hE : e1 (ptM f t) og c (y :: s) = (1 - y) :: s := by unfold e1; rw [if_neg b1, if_neg b2, if_neg b3, if_neg b4, if_pos b5]
            rw [hE] at go
            have c5 := h7.1
            simp [okv] at c5
            have z3 : g 342 (s.length : Int) = y := h5.1
            have z4 : g 270 98 = (s.length : Int) + 1 := by rw [h6]; simp
            simp (disch := omega) [q215, r215_0, r215_1, r215_2, r215_5, r215_8, r215_9, r215_10, r215_13, r215_14, r215_17, r215_19, r215_20, r215_21, r215_22, r215_24, r215_25, r215_28, r215_30, r215_31, r215_32, r215_33, r215_36, r215_37, r215_40, r215_43, r215_44, r215_45, r215_46, r215_48, r215_50, r215_53, r215_56, r215_57, r215_59, r215_62, r215_63, r215_64, r215_67, r215_70, r215_72, r215_74, r215_77, r215_78, r215_79, r215_81, r215_83, r215_84, r215_85, r215_88, r215_91, r215_94, r215_96, r215_98, r215_101, r215_102, r215_103, r215_106, r215_109, r215_111, r215_113, r215_116, r215_117, r215_120, r215_121, r215_124, r215_125, r215_126, r215_127, r215_128, r215_131, r215_132, r215_135, r215_136, r215_137, r215_138, r215_139, r215_140, r215_143, r215_144, r215_146, r215_149, r215_152, r215_155, r215_156, r215_159, r215_160, r215_161, q216, r216_0, r216_1, r216_4, r216_5, r216_8, r216_9, r216_10, r216_11, r216_12, r216_15, r216_16, r216_17, r216_20, cs_nil, cs_cons, lc_lt, lc_ge, lc_gt, lc_le, lc_eq, hmg, ln_306, ln_307, ln_342, am_wid2, am_wLd2, z1, c1, c2, c3, c4, z2, z3, z4, b1', b3', b5, am_ue, am_un]
            refine go _ _ ?_ ?_ ?_
            · intro a j hh2
              rw [am_un (by omega)]
              exact hF a j hh2
            · exact pl_push h5.2
            · rw [am_un (by omega), z4]; simp
          | false :: r, x :: s, h1', _, _, _, _, _, _ => cases h1'
          | [], [], h1', _, _, _, _, _, _ => cases h1'
        rw [if_neg b5] at h1'
        have hj : ∃ y z s', s = y :: z :: s' ∧ -1000000 ≤ y ∧ y ≤ 1000000 ∧ -1000000 ≤ z ∧ z ≤ 1000000 ∧ 1 ≤ c ∧ c ≤ 11 := t1_two h1o b3' b4 b5 h7
        obtain ⟨y, z, s', rfl, y1, y2, y3, y4, b6, b7⟩ := hj
        have c4 : (s'.length : Int) + 2 ≤ 1700 := by simp at hl7; omega
        have hE : e1 (ptM f t) og c (y :: z :: s') = jn c z y :: s' := by unfold e1; rw [if_neg b1, if_neg b2, if_neg b3, if_neg b4, if_neg b5]
        rw [hE] at go
        have z4 : g 270 98 = (s'.length : Int) + 2 := by rw [h6]; simp; omega
        have z5 : g 342 ((s'.length : Int) + 2 - 2) = z := by rw [Int.add_sub_cancel]; exact h5.2.1
        have z6 : g 342 ((s'.length : Int) + 2 - 1) = y := by have := h5.1; simp only [List.length_cons, Int.natCast_add] at this; rw [show (s'.length : Int) + 2 - 1 = s'.length + (1 : Nat) by omega]; exact this
        simp (disch := omega) [q215, r215_0, r215_1, r215_2, r215_5, r215_8, r215_9, r215_10, r215_13, r215_14, r215_17, r215_19, r215_20, r215_21, r215_22, r215_24, r215_25, r215_28, r215_30, r215_31, r215_32, r215_33, r215_36, r215_37, r215_40, r215_43, r215_44, r215_45, r215_46, r215_48, r215_50, r215_53, r215_56, r215_57, r215_59, r215_62, r215_63, r215_64, r215_67, r215_70, r215_72, r215_74, r215_77, r215_78, r215_79, r215_81, r215_83, r215_84, r215_85, r215_88, r215_91, r215_94, r215_96, r215_98, r215_101, r215_102, r215_103, r215_106, r215_109, r215_111, r215_113, r215_116, r215_117, r215_120, r215_121, r215_124, r215_125, r215_126, r215_127, r215_128, r215_131, r215_132, r215_135, r215_136, r215_137, r215_138, r215_139, r215_140, r215_143, r215_144, r215_146, r215_149, r215_152, r215_155, r215_156, r215_159, r215_160, r215_161, cs_nil, cs_cons, lc_lt, lc_ge, lc_gt, lc_le, lc_eq, hmg, ln_306, ln_307, am_wid2, z1, c1, c2, c3, z2, b1', b3', b4, b5, am_un, m_join hmg' z4 (by omega) c4 z5 z6 y3 y4 y1 y2 ⟨b6, b7⟩]
        refine go _ _ ?_ ?_ ?_
        · intro a j hh2
          rw [am_un (by omega), am_un (by omega), am_un (by omega)]
          exact hF a j hh2
        · refine pl_fr _ (fun j _ _ => am_un (by omega)) (pl_push (pl_fr _ (fun j _ _ => am_un (by omega)) h5.2.2))
        · rw [am_ue]; simp; omega
  have h5' : fT f (am_up (am_up f 270 50 (if w = 1 ∨ w = 4 then 0 else if w = 2 ∨ w = 3 then 2 else 1)) 270 98 0) := by
    intro a j hh2
    rw [am_un (by omega), am_un (by omega)]
  have fin := key cs0 k0 _ [] [] (2, 0) rfl hk h5' hc trivial am_ue trivial hty (by simp) rfl
  have c1 : (0 : Int) ≤ 10 + w ∧ 10 + w < 20 := by omega
  unfold mfx at hm
  by_cases w1 : w = 1
  · subst w1
    simp at hk0
    simpa (disch := omega) [q215, r215_0, r215_1, r215_2, r215_5, r215_8, r215_9, r215_10, r215_13, r215_14, r215_17, r215_19, r215_20, r215_21, r215_22, r215_24, r215_25, r215_28, r215_30, r215_31, r215_32, r215_33, r215_36, r215_37, r215_40, r215_43, r215_44, r215_45, r215_46, r215_48, r215_50, r215_53, r215_56, r215_57, r215_59, r215_62, r215_63, r215_64, r215_67, r215_70, r215_72, r215_74, r215_77, r215_78, r215_79, r215_81, r215_83, r215_84, r215_85, r215_88, r215_91, r215_94, r215_96, r215_98, r215_101, r215_102, r215_103, r215_106, r215_109, r215_111, r215_113, r215_116, r215_117, r215_120, r215_121, r215_124, r215_125, r215_126, r215_127, r215_128, r215_131, r215_132, r215_135, r215_136, r215_137, r215_138, r215_139, r215_140, r215_143, r215_144, r215_146, r215_149, r215_152, r215_155, r215_156, r215_159, r215_160, r215_161, q181, r181_0, r181_1, r181_2, r181_5, r181_6, r181_7, r181_10, r181_11, r181_14, r181_15, r181_16, r181_19, r181_20, r181_21, r181_24, r181_25, r181_28, r181_29, cs_nil, cs_cons, lc_lt, lc_ge, lc_gt, lc_le, lc_eq, hm, ln_305, am_wid2, hk0, c1, am_un] using fin
  by_cases w4 : w = 4
  · subst w4
    simp at hk0
    simpa (disch := omega) [q215, r215_0, r215_1, r215_2, r215_5, r215_8, r215_9, r215_10, r215_13, r215_14, r215_17, r215_19, r215_20, r215_21, r215_22, r215_24, r215_25, r215_28, r215_30, r215_31, r215_32, r215_33, r215_36, r215_37, r215_40, r215_43, r215_44, r215_45, r215_46, r215_48, r215_50, r215_53, r215_56, r215_57, r215_59, r215_62, r215_63, r215_64, r215_67, r215_70, r215_72, r215_74, r215_77, r215_78, r215_79, r215_81, r215_83, r215_84, r215_85, r215_88, r215_91, r215_94, r215_96, r215_98, r215_101, r215_102, r215_103, r215_106, r215_109, r215_111, r215_113, r215_116, r215_117, r215_120, r215_121, r215_124, r215_125, r215_126, r215_127, r215_128, r215_131, r215_132, r215_135, r215_136, r215_137, r215_138, r215_139, r215_140, r215_143, r215_144, r215_146, r215_149, r215_152, r215_155, r215_156, r215_159, r215_160, r215_161, q181, r181_0, r181_1, r181_2, r181_5, r181_6, r181_7, r181_10, r181_11, r181_14, r181_15, r181_16, r181_19, r181_20, r181_21, r181_24, r181_25, r181_28, r181_29, cs_nil, cs_cons, lc_lt, lc_ge, lc_gt, lc_le, lc_eq, hm, ln_305, am_wid2, hk0, c1, am_un] using fin
  by_cases w2 : w = 2
  · subst w2
    simp at hk0
    simpa (disch := omega) [q215, r215_0, r215_1, r215_2, r215_5, r215_8, r215_9, r215_10, r215_13, r215_14, r215_17, r215_19, r215_20, r215_21, r215_22, r215_24, r215_25, r215_28, r215_30, r215_31, r215_32, r215_33, r215_36, r215_37, r215_40, r215_43, r215_44, r215_45, r215_46, r215_48, r215_50, r215_53, r215_56, r215_57, r215_59, r215_62, r215_63, r215_64, r215_67, r215_70, r215_72, r215_74, r215_77, r215_78, r215_79, r215_81, r215_83, r215_84, r215_85, r215_88, r215_91, r215_94, r215_96, r215_98, r215_101, r215_102, r215_103, r215_106, r215_109, r215_111, r215_113, r215_116, r215_117, r215_120, r215_121, r215_124, r215_125, r215_126, r215_127, r215_128, r215_131, r215_132, r215_135, r215_136, r215_137, r215_138, r215_139, r215_140, r215_143, r215_144, r215_146, r215_149, r215_152, r215_155, r215_156, r215_159, r215_160, r215_161, q181, r181_0, r181_1, r181_2, r181_5, r181_6, r181_7, r181_10, r181_11, r181_14, r181_15, r181_16, r181_19, r181_20, r181_21, r181_24, r181_25, r181_28, r181_29, cs_nil, cs_cons, lc_lt, lc_ge, lc_gt, lc_le, lc_eq, hm, ln_305, am_wid2, hk0, c1, am_un] using fin
  by_cases w3 : w = 3
  · subst w3
    simp at hk0
    simpa (disch := omega) [q215, r215_0, r215_1, r215_2, r215_5, r215_8, r215_9, r215_10, r215_13, r215_14, r215_17, r215_19, r215_20, r215_21, r215_22, r215_24, r215_25, r215_28, r215_30, r215_31, r215_32, r215_33, r215_36, r215_37, r215_40, r215_43, r215_44, r215_45, r215_46, r215_48, r215_50, r215_53, r215_56, r215_57, r215_59, r215_62, r215_63, r215_64, r215_67, r215_70, r215_72, r215_74, r215_77, r215_78, r215_79, r215_81, r215_83, r215_84, r215_85, r215_88, r215_91, r215_94, r215_96, r215_98, r215_101, r215_102, r215_103, r215_106, r215_109, r215_111, r215_113, r215_116, r215_117, r215_120, r215_121, r215_124, r215_125, r215_126, r215_127, r215_128, r215_131, r215_132, r215_135, r215_136, r215_137, r215_138, r215_139, r215_140, r215_143, r215_144, r215_146, r215_149, r215_152, r215_155, r215_156, r215_159, r215_160, r215_161, q181, r181_0, r181_1, r181_2, r181_5, r181_6, r181_7, r181_10, r181_11, r181_14, r181_15, r181_16, r181_19, r181_20, r181_21, r181_24, r181_25, r181_28, r181_29, cs_nil, cs_cons, lc_lt, lc_ge, lc_gt, lc_le, lc_eq, hm, ln_305, am_wid2, hk0, c1, am_un] using fin
  simpa (disch := omega) [q215, r215_0, r215_1, r215_2, r215_5, r215_8, r215_9, r215_10, r215_13, r215_14, r215_17, r215_19, r215_20, r215_21, r215_22, r215_24, r215_25, r215_28, r215_30, r215_31, r215_32, r215_33, r215_36, r215_37, r215_40, r215_43, r215_44, r215_45, r215_46, r215_48, r215_50, r215_53, r215_56, r215_57, r215_59, r215_62, r215_63, r215_64, r215_67, r215_70, r215_72, r215_74, r215_77, r215_78, r215_79, r215_81, r215_83, r215_84, r215_85, r215_88, r215_91, r215_94, r215_96, r215_98, r215_101, r215_102, r215_103, r215_106, r215_109, r215_111, r215_113, r215_116, r215_117, r215_120, r215_121, r215_124, r215_125, r215_126, r215_127, r215_128, r215_131, r215_132, r215_135, r215_136, r215_137, r215_138, r215_139, r215_140, r215_143, r215_144, r215_146, r215_149, r215_152, r215_155, r215_156, r215_159, r215_160, r215_161, q181, r181_0, r181_1, r181_2, r181_5, r181_6, r181_7, r181_10, r181_11, r181_14, r181_15, r181_16, r181_19, r181_20, r181_21, r181_24, r181_25, r181_28, r181_29, cs_nil, cs_cons, lc_lt, lc_ge, lc_gt, lc_le, lc_eq, hm, ln_305, am_wid2, hk0, c1, w1, w2, w3, w4, am_un] using fin
