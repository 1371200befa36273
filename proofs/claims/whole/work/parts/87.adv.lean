/-! the class goes on -/
theorem srt_4 (b : Int) : srt b = 0 ∨ srt b = 1 ∨ srt b = 2 ∨ srt b = 3 := by
  unfold srt
  split
  · omega
  · split
    · omega
    · split <;> omega
section
variable {d : Nat} {f : am_F} {B : Int → Int} {N p : Int} {Q : am_V → am_F → Prop}
theorem CT_fr {g : am_F} (h : CT f B N) (hg : ∀ c j : Int, ¬ (c = 33 ∧ 1 ≤ j) → c = 33 ∨ c = 14 ∨ c = 15 → g c j = f c j) : CT g B N := by
  obtain ⟨a1, a2, a3, a4⟩ := h
  refine ⟨?_, ?_, ?_, fun j => ?_⟩
  · rw [hg _ _ (by omega) (by omega)]; exact a1
  · rw [hg _ _ (by omega) (by omega)]; exact a2
  · rw [hg _ _ (by omega) (by omega)]; exact a3
  · rw [hg _ _ (by omega) (by omega)]; exact a4 j
theorem CT_up {j v : Int} (h : CT f B N) (hj : 1 ≤ j) : CT (am_up f 33 j v) B N := CT_fr h (fun c i h1 h2 => am_un (by omega))
theorem tS_b (h : p ≤ N) : p ≤ tS B N p ∧ tS B N p ≤ N := ⟨(eo_b (s := 0) h).1, (eo_b (s := 0) h).2.1⟩
theorem tE_b (h : p ≤ N) (hk : ¬ N ≤ tS B N p) : tS B N p < tE B N p ∧ tE B N p ≤ N := by
  have h1 := tS_b (B := B) h
  unfold tE
  rw [if_neg hk]
  split
  · have := eo_b (B := B) (s := srt (B (tS B N p))) (p := tS B N p) (N := N) (by omega)
    rw [eo_1 (by omega) rfl] at this ⊢
    have h2 := eo_b (B := B) (s := srt (B (tS B N p))) (p := tS B N p + 1) (N := N) (by omega)
    omega
  · omega
set_option maxHeartbeats 2000000 in
theorem c_adv (h : CT f B N) (hN : N ≤ 1600) (hB : ∀ j, 0 ≤ B j ∧ B j ≤ 255) (hp : f 33 6 = p) (h0 : 0 ≤ p) (h1 : p ≤ N) (hQ : ∀ g, CK g B N p → (∀ c j : Int, ¬ (c = 33 ∧ 4 ≤ j ∧ j ≤ 8) → g c j = f c j) → Q (0, 1) g) : aw_cl (d + 2) 20 [(104, 33)] f Q := by
  have hs := tS_b (B := B) h1
  obtain ⟨a1, a2, a3, a4⟩ := id h
  have es := fun (dd : Nat) (QQ : am_V → am_F → Prop) => c_eo (d := dd) (Q := QQ) (s := 0) h hN h0 h1
  have e0 : eo B N 0 p = tS B N p := rfl
  rw [e0] at es
  by_cases hk : N ≤ tS B N p
  · have k0 : tK B N p = 0 := by unfold tK; rw [if_pos hk]
    have kE : tE B N p = tS B N p := by unfold tE; rw [if_pos hk]
    have kW : tW B N p = -1 := by unfold tW; rw [k0]; rfl
    have kV : tV B N p = 0 := by unfold tV; rw [k0]; rfl
    have := hQ (am_up (am_up (am_up (am_up (am_up f 33 5 (tS B N p)) 33 7 (-1)) 33 8 0) 33 4 0) 33 6 (tS B N p)) ⟨by rw [am_un (by omega), am_ue, k0], by rw [am_un (by omega), am_un (by omega), am_un (by omega), am_un (by omega), am_ue], by rw [am_ue, kE], by rw [am_un (by omega), am_un (by omega), am_un (by omega), am_ue, kW], by rw [am_un (by omega), am_un (by omega), am_ue, kV]⟩ (fun c j hc => by rw [am_un (by omega), am_un (by omega), am_un (by omega), am_un (by omega), am_un (by omega)])
    simpa (disch := omega) [q20, r20_0, r20_1, r20_2, r20_3, r20_6, r20_7, r20_10, r20_13, r20_14, r20_15, r20_18, r20_19, r20_20, r20_23, r20_24, r20_27, r20_28, r20_31, r20_34, r20_37, r20_38, r20_39, r20_42, r20_43, r20_44, r20_47, r20_50, r20_51, r20_52, r20_53, r20_56, r20_59, r20_60, r20_63, r20_64, r20_67, r20_68, r20_69, r20_72, r20_75, r20_76, r20_79, r20_80, r20_83, r20_86, r20_87, r20_90, r20_93, r20_94, r20_97, r20_100, r20_101, r20_104, r20_105, r20_106, r20_107, r20_110, r20_113, r20_116, r20_117, r20_120, r20_121, r20_122, r20_123, r20_124, r20_127, r20_128, r20_131, r20_132, r20_135, r20_136, r20_137, r20_140, r20_143, r20_144, r20_145, r20_148, r20_149, r20_152, r20_155, r20_156, r20_159, r20_160, r20_161, r20_164, r20_165, r20_168, r20_169, r20_172, r20_173, r20_174, r20_177, r20_180, r20_183, r20_184, r20_187, r20_188, r20_191, r20_192, r20_193, r20_196, r20_199, r20_202, r20_203, r20_204, r20_207, r20_210, r20_211, r20_214, r20_215, r20_218, r20_219, cs_nil, cs_cons, lc_lt, lc_ge, lc_gt, lc_le, lc_eq, hp, es, a1, a2, a3, am_un, am_ue, le_T, lt_T, le_F, lt_F] using this
  · have hE := tE_b h1 hk
    have stk : (tq B N p = true) = (0 < tS B N p ∧ tS B N p = p ∧ (srt (B (tS B N p)) = 1 ∨ srt (B (tS B N p)) = 2) ∧ (srt (B (tS B N p - 1)) = 1 ∨ srt (B (tS B N p - 1)) = 2)) := by unfold tq; simp
    have kK : tK B N p = if tq B N p = true then 4 else srt (B (tS B N p)) := by unfold tK; rw [if_neg hk]
    have kE : tE B N p = if srt (B (tS B N p)) = 1 ∨ srt (B (tS B N p)) = 2 then eo B N (srt (B (tS B N p))) (tS B N p) else tS B N p + 1 := by unfold tE; rw [if_neg hk]
    have kW : tW B N p = if tK B N p = 1 then fdW B (tS B N p) (tE B N p) WL 0 else -1 := rfl
    have kV : tV B N p = if tK B N p = 0 ∨ tK B N p = 1 then 0 else if tK B N p = 2 then nvF B (tS B N p) (tE B N p) 4 (tS B N p) 0 else B (tS B N p) := rfl
    have sr := srt_4 (B (tS B N p))
    have snz : ¬ srt (B (tS B N p)) = 0 := (eo_b (B := B) (s := 0) h1).2.2.2 (by unfold tS at hk; omega)
    have tail : aw_wp (d + 2) 20 122 [(104, 33), (0, srt (B (tS B N p))), (0, if tq B N p = true then 1 else 0)] [] (am_up (am_up (am_up f 33 5 (tS B N p)) 33 7 (-1)) 33 8 0) Q := by
      have m1 : CT (am_up (am_up (am_up (am_up f 33 5 (tS B N p)) 33 7 (-1)) 33 8 0) 33 4 (tK B N p)) B N := CT_up (CT_up (CT_up (CT_up h (by omega)) (by omega)) (by omega)) (by omega)
      have m2 : CT (am_up (am_up (am_up (am_up (am_up f 33 5 (tS B N p)) 33 7 (-1)) 33 8 0) 33 4 (tK B N p)) 33 6 (tE B N p)) B N := CT_up m1 (by omega)
      have em := fun (dd : Nat) (QQ : am_V → am_F → Prop) => c_eo (d := dd) (Q := QQ) (p := tS B N p) (s := srt (B (tS B N p))) m1 hN (by omega) hs.2
      have ew := fun (dd : Nat) (QQ : am_V → am_F → Prop) => c_word (d := dd) (Q := QQ) (s := tS B N p) (e := tE B N p) m2 hN (by rw [am_un (by omega), am_un (by omega), am_un (by omega), am_un (by omega), am_ue]) am_ue (by omega) (by omega) hE.2
      have en := fun (dd : Nat) (QQ : am_V → am_F → Prop) => c_num (d := dd) (Q := QQ) (s := tS B N p) (e := tE B N p) m2 hN hB (by rw [am_un (by omega), am_un (by omega), am_un (by omega), am_un (by omega), am_ue]) am_ue (by omega) (by omega) hE.2
      have fin : ∀ (w v : Int), w = tW B N p → v = tV B N p → ∀ g, (g = am_up (am_up (am_up (am_up (am_up (am_up f 33 5 (tS B N p)) 33 7 (-1)) 33 8 0) 33 4 (tK B N p)) 33 6 (tE B N p)) 33 7 w ∧ v = 0 ∨ g = am_up (am_up (am_up (am_up (am_up (am_up f 33 5 (tS B N p)) 33 7 (-1)) 33 8 0) 33 4 (tK B N p)) 33 6 (tE B N p)) 33 8 v ∧ w = -1) → Q (0, 1) g := by
        intro w v hw hv g hg
        rcases hg with ⟨rfl, hv0⟩ | ⟨rfl, hw1⟩
        · refine hQ _ ⟨?_, ?_, ?_, ?_, ?_⟩ (fun c j hc => ?_)
          · rw [am_un (by omega), am_un (by omega), am_ue]
          · rw [am_un (by omega), am_un (by omega), am_un (by omega), am_un (by omega), am_un (by omega), am_ue]
          · rw [am_un (by omega), am_ue]
          · rw [am_ue, hw]
          · rw [am_un (by omega), am_un (by omega), am_un (by omega), am_ue, ← hv, hv0]
          · rw [am_un (by omega), am_un (by omega), am_un (by omega), am_un (by omega), am_un (by omega), am_un (by omega)]
        · refine hQ _ ⟨?_, ?_, ?_, ?_, ?_⟩ (fun c j hc => ?_)
          · rw [am_un (by omega), am_un (by omega), am_ue]
          · rw [am_un (by omega), am_un (by omega), am_un (by omega), am_un (by omega), am_un (by omega), am_ue]
          · rw [am_un (by omega), am_ue]
          · rw [am_un (by omega), am_un (by omega), am_un (by omega), am_un (by omega), am_ue, ← hw, hw1]
          · rw [am_ue, hv]
          · rw [am_un (by omega), am_un (by omega), am_un (by omega), am_un (by omega), am_un (by omega), am_un (by omega)]
      by_cases hq : tq B N p = true
      · have kK' : tK B N p = 4 := by rw [kK, if_pos hq]
        have hsk : srt (B (tS B N p)) = 1 ∨ srt (B (tS B N p)) = 2 := ((stk ▸ hq : _ ∧ _ ∧ _ ∧ _)).2.2.1
        rw [kK'] at em fin kW kV
        rw [if_pos hsk] at kE
        have fv := fin (-1) (B (tS B N p)) (by rw [kW]; rfl) (by rw [kV]; rfl) _ (Or.inr ⟨rfl, rfl⟩)
        rcases hsk with hsk | hsk
        · rw [hsk] at em kE
          simpa (disch := omega) [r20_122, r20_123, r20_124, r20_127, r20_128, r20_131, r20_132, r20_135, r20_136, r20_137, r20_140, r20_143, r20_144, r20_145, r20_148, r20_149, r20_152, r20_155, r20_156, r20_159, r20_160, r20_161, r20_164, r20_165, r20_168, r20_169, r20_172, r20_173, r20_174, r20_177, r20_180, r20_183, r20_184, r20_187, r20_188, r20_191, r20_192, r20_193, r20_196, r20_199, r20_202, r20_203, r20_204, r20_207, r20_210, r20_211, r20_214, r20_215, r20_218, r20_219, cs_nil, cs_cons, lc_lt, lc_ge, lc_gt, lc_le, lc_eq, c_wn, a1, a2, a3, a4, ln_15, am_un, am_ue, am_wid2, le_T, lt_T, le_F, lt_F, hq, hsk, em, ← kE] using fv
        · rw [hsk] at em kE
          simpa (disch := omega) [r20_122, r20_123, r20_124, r20_127, r20_128, r20_131, r20_132, r20_135, r20_136, r20_137, r20_140, r20_143, r20_144, r20_145, r20_148, r20_149, r20_152, r20_155, r20_156, r20_159, r20_160, r20_161, r20_164, r20_165, r20_168, r20_169, r20_172, r20_173, r20_174, r20_177, r20_180, r20_183, r20_184, r20_187, r20_188, r20_191, r20_192, r20_193, r20_196, r20_199, r20_202, r20_203, r20_204, r20_207, r20_210, r20_211, r20_214, r20_215, r20_218, r20_219, cs_nil, cs_cons, lc_lt, lc_ge, lc_gt, lc_le, lc_eq, c_wn, a1, a2, a3, a4, ln_15, am_un, am_ue, am_wid2, le_T, lt_T, le_F, lt_F, hq, hsk, em, ← kE] using fv
      · have kK' : tK B N p = srt (B (tS B N p)) := by rw [kK, if_neg hq]
        rcases sr with hsk | hsk | hsk | hsk
        · exact absurd hsk snz
        · rw [hsk] at kK' em
          rw [if_pos (Or.inl hsk), hsk] at kE
          rw [kK'] at em ew fin kW kV
          have fv := fin (fdW B (tS B N p) (tE B N p) WL 0) 0 (by rw [kW]; rfl) (by rw [kV]; rfl) _ (Or.inl ⟨rfl, rfl⟩)
          simpa (disch := omega) [r20_122, r20_123, r20_124, r20_127, r20_128, r20_131, r20_132, r20_135, r20_136, r20_137, r20_140, r20_143, r20_144, r20_145, r20_148, r20_149, r20_152, r20_155, r20_156, r20_159, r20_160, r20_161, r20_164, r20_165, r20_168, r20_169, r20_172, r20_173, r20_174, r20_177, r20_180, r20_183, r20_184, r20_187, r20_188, r20_191, r20_192, r20_193, r20_196, r20_199, r20_202, r20_203, r20_204, r20_207, r20_210, r20_211, r20_214, r20_215, r20_218, r20_219, cs_nil, cs_cons, lc_lt, lc_ge, lc_gt, lc_le, lc_eq, c_wn, a1, a2, a3, a4, ln_15, am_un, am_ue, am_wid2, le_T, lt_T, le_F, lt_F, hq, hsk, em, ew, ← kE] using fv
        · rw [hsk] at kK' em
          rw [if_pos (Or.inr hsk), hsk] at kE
          rw [kK'] at em en fin kW kV
          have fv := fin (-1) (nvF B (tS B N p) (tE B N p) 4 (tS B N p) 0) (by rw [kW]; rfl) (by rw [kV]; rfl) _ (Or.inr ⟨rfl, rfl⟩)
          simpa (disch := omega) [r20_122, r20_123, r20_124, r20_127, r20_128, r20_131, r20_132, r20_135, r20_136, r20_137, r20_140, r20_143, r20_144, r20_145, r20_148, r20_149, r20_152, r20_155, r20_156, r20_159, r20_160, r20_161, r20_164, r20_165, r20_168, r20_169, r20_172, r20_173, r20_174, r20_177, r20_180, r20_183, r20_184, r20_187, r20_188, r20_191, r20_192, r20_193, r20_196, r20_199, r20_202, r20_203, r20_204, r20_207, r20_210, r20_211, r20_214, r20_215, r20_218, r20_219, cs_nil, cs_cons, lc_lt, lc_ge, lc_gt, lc_le, lc_eq, c_wn, a1, a2, a3, a4, ln_15, am_un, am_ue, am_wid2, le_T, lt_T, le_F, lt_F, hq, hsk, em, en, ← kE] using fv
        · rw [hsk] at kK'
          rw [if_neg (by omega)] at kE
          rw [kK'] at fin kW kV
          have fv := fin (-1) (B (tS B N p)) (by rw [kW]; rfl) (by rw [kV]; rfl) _ (Or.inr ⟨rfl, rfl⟩)
          rw [kE] at fv
          simpa (disch := omega) [r20_122, r20_123, r20_124, r20_127, r20_128, r20_131, r20_132, r20_135, r20_136, r20_137, r20_140, r20_143, r20_144, r20_145, r20_148, r20_149, r20_152, r20_155, r20_156, r20_159, r20_160, r20_161, r20_164, r20_165, r20_168, r20_169, r20_172, r20_173, r20_174, r20_177, r20_180, r20_183, r20_184, r20_187, r20_188, r20_191, r20_192, r20_193, r20_196, r20_199, r20_202, r20_203, r20_204, r20_207, r20_210, r20_211, r20_214, r20_215, r20_218, r20_219, cs_nil, cs_cons, lc_lt, lc_ge, lc_gt, lc_le, lc_eq, c_wn, a1, a2, a3, a4, ln_15, am_un, am_ue, am_wid2, le_T, lt_T, le_F, lt_F, hq, hsk] using fv
    by_cases q1 : 0 < tS B N p
    · by_cases q2 : tS B N p = p
      · by_cases q3 : srt (B (tS B N p)) = 1 ∨ srt (B (tS B N p)) = 2
        · have q3' := q3
          rw [q2] at q3'
          by_cases q4 : srt (B (tS B N p - 1)) = 1 ∨ srt (B (tS B N p - 1)) = 2
          · have q4' := q4
            rw [q2] at q4'
            have hq : tq B N p = true := by rw [stk]; exact ⟨q1, q2, q3, q4⟩
            rw [hq] at tail
            simpa (disch := omega) [q20, r20_0, r20_1, r20_2, r20_3, r20_6, r20_7, r20_10, r20_13, r20_14, r20_15, r20_18, r20_19, r20_20, r20_23, r20_24, r20_27, r20_28, r20_31, r20_34, r20_37, r20_38, r20_39, r20_42, r20_43, r20_44, r20_47, r20_50, r20_51, r20_52, r20_53, r20_56, r20_59, r20_60, r20_63, r20_64, r20_67, r20_68, r20_69, r20_72, r20_75, r20_76, r20_79, r20_80, r20_83, r20_86, r20_87, r20_90, r20_93, r20_94, r20_97, r20_100, r20_101, r20_104, r20_105, r20_106, r20_107, r20_110, r20_113, r20_116, r20_117, r20_120, r20_121, cs_nil, cs_cons, lc_lt, lc_ge, lc_gt, lc_le, lc_eq, hp, es, c_srt, c_wn, a1, a2, a3, a4, ln_15, am_un, am_ue, am_wid2, le_T, lt_T, le_F, lt_F, q2, q3', q4'] using tail
          · have q4' := q4
            rw [q2] at q4'
            have hq : tq B N p = false := by rw [Bool.eq_false_iff, ne_eq, stk]; exact fun w => q4 w.2.2.2
            rw [hq] at tail
            simpa (disch := omega) [q20, r20_0, r20_1, r20_2, r20_3, r20_6, r20_7, r20_10, r20_13, r20_14, r20_15, r20_18, r20_19, r20_20, r20_23, r20_24, r20_27, r20_28, r20_31, r20_34, r20_37, r20_38, r20_39, r20_42, r20_43, r20_44, r20_47, r20_50, r20_51, r20_52, r20_53, r20_56, r20_59, r20_60, r20_63, r20_64, r20_67, r20_68, r20_69, r20_72, r20_75, r20_76, r20_79, r20_80, r20_83, r20_86, r20_87, r20_90, r20_93, r20_94, r20_97, r20_100, r20_101, r20_104, r20_105, r20_106, r20_107, r20_110, r20_113, r20_116, r20_117, r20_120, r20_121, cs_nil, cs_cons, lc_lt, lc_ge, lc_gt, lc_le, lc_eq, hp, es, c_srt, c_wn, a1, a2, a3, a4, ln_15, am_un, am_ue, am_wid2, le_T, lt_T, le_F, lt_F, q2, q3', q4'] using tail
        · have q3' := q3
          rw [q2] at q3'
          have hq : tq B N p = false := by rw [Bool.eq_false_iff, ne_eq, stk]; exact fun w => q3 w.2.2.1
          rw [hq] at tail
          simpa (disch := omega) [q20, r20_0, r20_1, r20_2, r20_3, r20_6, r20_7, r20_10, r20_13, r20_14, r20_15, r20_18, r20_19, r20_20, r20_23, r20_24, r20_27, r20_28, r20_31, r20_34, r20_37, r20_38, r20_39, r20_42, r20_43, r20_44, r20_47, r20_50, r20_51, r20_52, r20_53, r20_56, r20_59, r20_60, r20_63, r20_64, r20_67, r20_68, r20_69, r20_72, r20_75, r20_76, r20_79, r20_80, r20_83, r20_86, r20_87, r20_90, r20_93, r20_94, r20_97, r20_100, r20_101, r20_104, r20_105, r20_106, r20_107, r20_110, r20_113, r20_116, r20_117, r20_120, r20_121, cs_nil, cs_cons, lc_lt, lc_ge, lc_gt, lc_le, lc_eq, hp, es, c_srt, c_wn, a1, a2, a3, a4, ln_15, am_un, am_ue, am_wid2, le_T, lt_T, le_F, lt_F, q2, q3'] using tail
      · have hq : tq B N p = false := by rw [Bool.eq_false_iff, ne_eq, stk]; exact fun w => q2 w.2.1
        rw [hq] at tail
        simpa (disch := omega) [q20, r20_0, r20_1, r20_2, r20_3, r20_6, r20_7, r20_10, r20_13, r20_14, r20_15, r20_18, r20_19, r20_20, r20_23, r20_24, r20_27, r20_28, r20_31, r20_34, r20_37, r20_38, r20_39, r20_42, r20_43, r20_44, r20_47, r20_50, r20_51, r20_52, r20_53, r20_56, r20_59, r20_60, r20_63, r20_64, r20_67, r20_68, r20_69, r20_72, r20_75, r20_76, r20_79, r20_80, r20_83, r20_86, r20_87, r20_90, r20_93, r20_94, r20_97, r20_100, r20_101, r20_104, r20_105, r20_106, r20_107, r20_110, r20_113, r20_116, r20_117, r20_120, r20_121, cs_nil, cs_cons, lc_lt, lc_ge, lc_gt, lc_le, lc_eq, hp, es, c_srt, c_wn, a1, a2, a3, a4, ln_15, am_un, am_ue, am_wid2, le_T, lt_T, le_F, lt_F, q2] using tail
    · have hq : tq B N p = false := by rw [Bool.eq_false_iff, ne_eq, stk]; exact fun w => q1 w.1
      rw [hq] at tail
      simpa (disch := omega) [q20, r20_0, r20_1, r20_2, r20_3, r20_6, r20_7, r20_10, r20_13, r20_14, r20_15, r20_18, r20_19, r20_20, r20_23, r20_24, r20_27, r20_28, r20_31, r20_34, r20_37, r20_38, r20_39, r20_42, r20_43, r20_44, r20_47, r20_50, r20_51, r20_52, r20_53, r20_56, r20_59, r20_60, r20_63, r20_64, r20_67, r20_68, r20_69, r20_72, r20_75, r20_76, r20_79, r20_80, r20_83, r20_86, r20_87, r20_90, r20_93, r20_94, r20_97, r20_100, r20_101, r20_104, r20_105, r20_106, r20_107, r20_110, r20_113, r20_116, r20_117, r20_120, r20_121, cs_nil, cs_cons, lc_lt, lc_ge, lc_gt, lc_le, lc_eq, hp, es, c_srt, c_wn, a1, a2, a3, a4, ln_15, am_un, am_ue, am_wid2, le_T, lt_T, le_F, lt_F] using tail
end
