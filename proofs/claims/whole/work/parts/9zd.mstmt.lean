/-! islands: the model reads a statement -/
section
variable {d : Nat} {f g : am_F} {B : Int → Int} {N p cd q0 : Int} {Q : am_V → am_F → Prop} {I : IS}
theorem up_id {c j v : Int} (h : f c j = v) : am_up f c j v = f := by
  funext a b
  by_cases q : a = c ∧ b = j
  · rw [q.1, q.2, am_ue]; exact h.symm
  · exact am_un (by omega)
theorem TQ_fr {x : RI} (h : gI f g) (hq : TQ B N f Q x) : TQ B N g Q x := by
  match x, hq with
  | .inl (k, q), hq =>
    intro k0 g' e5 e6 fr
    exact hq k0 g' e5 e6 (fun c j hc => (fr c j hc).trans (h c j (by omega)))
  | .inr (p', I'), hq =>
    intro g' cd' M fr
    exact hq g' cd' M (fun c j hc => (fr c j hc).trans (h c j hc))
theorem m_tail {x : RI} (hN : N ≤ 1600) (hc : ∀ p' I', x = .inr (p', I') → 0 ≤ I'.2.1 0 1 ∧ I'.2.1 0 1 ≤ 80) (hQ : TQ B N f Q (sS1 B N x)) : TQ B N f (fun v f' => aw_wp (d + 12) 163 197 [(110, 270), (0, q0)] (if v.fst = 3 then [] else [v]) f' Q) x := by
  match x, hc, hQ with
  | .inl (k, q), _, hQ =>
    intro k0 g e5 e6 fr
    have hb : ¬ g 270 5 = 0 := by rw [e5]; exact k0
    have as := fun (dd : Nat) (QQ : am_V → am_F → Prop) (c : Int) => m_askSB (d := dd) (Q := QQ) (c := c) hb
    have := hQ k0 (am_up g 270 49 (am_wI (g 270 49 + 1))) (by rw [am_un (by omega)]; exact e5) (by rw [am_un (by omega)]; exact e6) (fun c j hc => by rw [am_un (by omega)]; exact fr c j hc)
    simpa [r163_197, r163_198, r163_200, r163_203, r163_204, r163_205, r163_208, r163_209, r163_210, r163_213, cs_nil, cs_cons, lc_lt, lc_ge, lc_gt, lc_le, lc_eq, as] using this
  | .inr (p1, I1), hc, hQ =>
    have hc := hc p1 I1 rfl
    intro g cd' M fr
    obtain ⟨hX, hP, ⟨b5, b6⟩, hI, p0, pN, hcd⟩ := id M
    have e49 : g 270 49 = I1.2.1 0 1 := hI.1.2.2.2.2
    by_cases hg : isg B N p1 59 = true
    · have gb := isg_b pN hg
      have as := fun (dd : Nat) (QQ : am_V → am_F → Prop) => m_askSY (d := dd) (Q := QQ) (c := 59) hX hN p0 pN hP b5 hg
      have hQ : TQ B N f Q (.inr (tE B N p1, (I1.1, am_up I1.2.1 0 1 (I1.2.1 0 1 + 1), I1.2.2))) := by
        unfold sS1 at hQ
        simpa only [if_pos hg] using hQ
      have fr2 : ∀ c j : Int, ¬ (c = 270 ∧ (j = 2 ∨ j = 49)) → (am_up (am_up g 270 2 (tE B N p1)) 270 49 (I1.2.1 0 1 + 1)) c j = g c j := fun c j hc => by rw [am_un (by omega), am_un (by omega)]
      have fr3 : ∀ c j : Int, ¬ (c = 270 ∧ j = 2) → (am_up g 270 2 (tE B N p1)) c j = g c j := fun c j hc => by rw [am_un (by omega)]
      have hI2 : MI (am_up g 270 2 (tE B N p1)) I1 cd' := MI_fr hI (fun c j hc => fr3 c j (by omega))
      have := hQ (am_up (am_up g 270 2 (tE B N p1)) 270 49 (I1.2.1 0 1 + 1)) cd' ⟨MX_gIw hX (fun c j hc => fr2 c j (by omega)), PP_sign hP hg p0 pN (by rw [am_un (by omega), am_ue]) (fr2 _ _ (by omega)), ⟨by rw [fr2 _ _ (by omega)]; exact b5, by rw [fr2 _ _ (by omega)]; exact b6⟩, MI_c hI2 (fun c j hc => am_un (by omega)) (by rw [am_un (by omega), am_un (by omega), am_un (by omega)]; exact hI.1.2.2.2.1) (by rw [am_ue, am_ue]) (fun c j hc => am_un (by omega)), by omega, by omega, by omega⟩ (fun c j hc => by rw [fr2 c j (by omega)]; exact fr c j hc)
      generalize I1.2.1 0 1 = s at *
      simpa (disch := omega) [r163_197, r163_198, r163_200, r163_203, r163_204, r163_205, r163_208, r163_209, r163_210, r163_213, cs_nil, cs_cons, lc_lt, lc_ge, lc_gt, lc_le, lc_eq, as, e49, am_un, am_wid2] using this
    · have as := fun (dd : Nat) (QQ : am_V → am_F → Prop) => m_askSN (d := dd) (Q := QQ) (c := 59) hX hN p0 pN hP b5 (by decide) (by omega) hg
      have hQ : TQ B N f Q (.inl (1, tS B N p1)) := by
        unfold sS1 at hQ
        simpa only [if_neg hg] using hQ
      have fr2 : ∀ c j : Int, ¬ (c = 270 ∧ (j = 2 ∨ (5 ≤ j ∧ j ≤ 6) ∨ j = 49)) → (am_up (am_up (am_up (am_up g 270 2 (tS B N p1)) 270 5 1) 270 6 (tS B N p1)) 270 49 (I1.2.1 0 1 + 1)) c j = g c j := fun c j hc => by rw [am_un (by omega), am_un (by omega), am_un (by omega), am_un (by omega)]
      have := hQ (by omega) (am_up (am_up (am_up (am_up g 270 2 (tS B N p1)) 270 5 1) 270 6 (tS B N p1)) 270 49 (I1.2.1 0 1 + 1)) (by rw [am_un (by omega), am_un (by omega), am_ue]) (by rw [am_un (by omega), am_ue]) (fun c j hc => by rw [fr2 c j (by omega)]; exact fr c j (by omega))
      generalize I1.2.1 0 1 = s at *
      simpa (disch := omega) [r163_197, r163_198, r163_200, r163_203, r163_204, r163_205, r163_208, r163_209, r163_210, r163_213, cs_nil, cs_cons, lc_lt, lc_ge, lc_gt, lc_le, lc_eq, as, e49, am_un, am_wid2] using this
/-- the cat, told or not -/
theorem m_sC {c0 : Int} (hN : N ≤ 1600) (hM : MM f B N p I cd) (hQ : TQ B N f (fun v f' => aw_wp (d + 12) 163 197 [(110, 270), (0, q0)] (if v.fst = 3 then [] else [v]) f' Q) (if tW B N p = 14 then sdC B N I p else .inl (1, tS B N p))) : aw_wp (d + 12) 163 178 [(110, 270), (0, q0)] [] f Q := by
  obtain ⟨hX, hP, ⟨b5, b6⟩, hI, p0, pN, hcd⟩ := id hM
  simp [r163_178, r163_179, r163_180, r163_183, cs_nil, cs_cons, lc_lt, lc_ge, lc_gt, lc_le, lc_eq, own_fx hX.1.1]
  refine mm_ask (d := d + 8) hN hM (k := 14) (by decide) (by omega) ?_ ?_
  · intro k q e k0 g e5 e6 fr
    unfold rWd at e
    by_cases h14 : tW B N p = 14
    · rw [if_pos h14] at e; cases e
    rw [if_neg h14] at e hQ
    cases e
    have hb : ¬ g 270 5 = 0 := by rw [e5]; exact k0
    have nu := fun (dd : Nat) (QQ : am_V → am_F → Prop) (a b : Int) => m_numB (d := dd) (Q := QQ) (a := a) (b := b) hb
    have := hQ k0 (am_up g 270 43 0) (by rw [am_un (by omega)]; exact e5) (by rw [am_un (by omega)]; exact e6) (fun c j hc => by rw [am_un (by omega)]; exact fr c j (by omega))
    simpa [r163_186, r163_187, r163_188, r163_189, r163_191, r163_194, cs_nil, cs_cons, lc_lt, lc_ge, lc_gt, lc_le, lc_eq, nu] using this
  intro p2 e g2 M2 fr
  unfold rWd at e
  by_cases h14 : tW B N p = 14
  · rw [if_pos h14] at e hQ
    cases e
    unfold sdC at hQ
    simp [r163_186, r163_187, r163_188, r163_189, r163_191, cs_nil, cs_cons, lc_lt, lc_ge, lc_gt, lc_le, lc_eq]
    refine mm_num (d := d + 10) hN M2 ?_ ?_
    · intro k q e k0 v g vb e5 e6 fr3
      rw [e, b1_l] at hQ
      have := hQ k0 (am_up g 270 43 v) (by rw [am_un (by omega)]; exact e5) (by rw [am_un (by omega)]; exact e6) (fun c j hc => by rw [am_un (by omega), fr3 c j (by omega)]; exact fr c j (by omega))
      simpa [r163_194, cs_nil, cs_cons, lc_lt, lc_ge, lc_gt, lc_le, lc_eq] using this
    · intro p3 e g M fr3
      rw [e, b1_r] at hQ
      obtain ⟨gX, gP, ⟨g5, g6⟩, gI', q0', qN, qcd⟩ := id M
      have fr4 : ∀ c j : Int, ¬ (c = 270 ∧ j = 43) → (am_up g 270 43 (tV B N (tE B N p))) c j = g c j := fun c j hc => am_un (by omega)
      have := hQ (am_up g 270 43 (tV B N (tE B N p))) cd ⟨MX_gIw gX (fun c j hc => fr4 c j (by omega)), ⟨by rw [fr4 _ _ (by omega)]; exact gP.1, by rw [fr4 _ _ (by omega)]; exact gP.2.1, by rw [fr4 _ _ (by omega)]; exact gP.2.2⟩, ⟨by rw [fr4 _ _ (by omega)]; exact g5, by rw [fr4 _ _ (by omega)]; exact g6⟩, MI_c gI' (fun c j hc => fr4 c j (by omega)) (by rw [am_ue, am_ue]) (by rw [am_un (by omega), am_un (by omega)]; exact gI'.1.2.2.2.2) (fun c j hc => am_un (by omega)), q0', qN, qcd⟩ (fun c j hc => by rw [fr4 c j (by omega), fr3 c j (by omega)]; exact fr c j (by omega))
      simpa [r163_194, cs_nil, cs_cons, lc_lt, lc_ge, lc_gt, lc_le, lc_eq] using this
  · rw [if_neg h14] at e; cases e
theorem m_stmt (hN : N ≤ 1600) (hM : MM f B N p I cd) (hA : f 270 2 = tS B N p) (hp : PI I) (h80 : 0 ≤ I.2.1 0 1 ∧ I.2.1 0 1 < 80) (hQ : TQ B N f Q (sS1 B N (sdd B N I p))) : aw_cl (d + 12) 163 [(110, 270)] f Q := by
  obtain ⟨hX, hP, ⟨b5, b6⟩, hI, p0, pN, hcd⟩ := id hM
  have o := own_fx hX.1.1
  have e49 : f 270 49 = I.2.1 0 1 := hI.1.2.2.2.2
  have n80 : ¬ f 270 49 = 80 := by omega
  have eN : ∀ wa k, (wa, k) ∈ HWL → ¬ tW B N p = k → ∀ (dd : Nat) (QQ : am_V → am_F → Prop), aw_cl (dd + 2) 165 [(110, 270), (22, wa)] f QQ = QQ (0, 0) f := by
    intro wa k hw hk dd QQ
    rw [m_eatsN hX hN p0 pN hP b5 (hw_of hX.1.2 (q := (wa, k)) hw) hk, up_id hA]
  have eY : ∀ wa k, (wa, k) ∈ HWL → tW B N p = k → ∀ (dd : Nat) (QQ : am_V → am_F → Prop), aw_cl (dd + 2) 165 [(110, 270), (22, wa)] f QQ = QQ (0, 1) (am_up (am_up f 270 2 (tE B N p)) 270 4 (tE B N p)) := by
    intro wa k hw hk dd QQ
    rw [m_eatsY hX hN p0 pN hP b5 (hw_of hX.1.2 (q := (wa, k)) hw) hk]
  have fr : fW4 f (am_up (am_up f 270 2 (tE B N p)) 270 4 (tE B N p)) := fun c j hc => by rw [am_un (by omega), am_un (by omega)]
  have M1 : 0 ≤ tW B N p → MM (am_up (am_up f 270 2 (tE B N p)) 270 4 (tE B N p)) B N (tE B N p) I cd := fun hk => by
    have gb := tW_b pN (show ¬ tW B N p = -1 by omega)
    have k1 := tW_k (B := B) (N := N) (p := p) (by omega)
    exact MM_w hM fr (PP_word (Or.inl rfl) k1 p0 pN (by rw [am_un (by omega), am_ue]) am_ue) (by omega)
  have gf : gI f (am_up (am_up f 270 2 (tE B N p)) 270 4 (tE B N p)) := fun c j hc => fr c j (by omega)
  have hT := m_tail (d := d) (q0 := tS B N p) hN (fun p' I' e => by rw [sdd_c e]; omega) hQ
  clear hQ
  generalize am_up (am_up f 270 2 (tE B N p)) 270 4 (tE B N p) = F at *
  unfold sdd at hT
  by_cases k0 : tW B N p = 0
  · rw [if_pos k0] at hT
    have := m_sT (d := d + 5) (q0 := tS B N p) hN (M1 (by omega)) hp (TQ_fr gf hT)
    simpa [q163, r163_0, r163_1, r163_4, r163_5, r163_6, r163_9, r163_11, r163_14, r163_15, r163_16, r163_17, r163_20, r163_21, r163_22, r163_23, r163_26, r163_29, r163_32, r163_33, r163_34, r163_37, cs_nil, cs_cons, lc_lt, lc_ge, lc_gt, lc_le, lc_eq, hA, n80, o, eY 273 0 (by decide) k0] using this
  rw [if_neg k0] at hT
  have n0 := eN 273 0 (by decide) k0
  by_cases k4 : tW B N p = 4
  · rw [if_pos k4] at hT
    have := m_sM (d := d + 5) (q0 := tS B N p) hN (M1 (by omega)) hp (TQ_fr gf hT)
    simpa [q163, r163_0, r163_1, r163_4, r163_5, r163_6, r163_9, r163_11, r163_14, r163_15, r163_16, r163_17, r163_20, r163_21, r163_22, r163_23, r163_26, r163_29, r163_32, r163_33, r163_34, r163_37, r163_40, r163_41, r163_42, r163_45, r163_48, r163_51, r163_52, r163_53, r163_56, cs_nil, cs_cons, lc_lt, lc_ge, lc_gt, lc_le, lc_eq, hA, n80, o, n0, eY 277 4 (by decide) k4] using this
  rw [if_neg k4] at hT
  have n4 := eN 277 4 (by decide) k4
  by_cases k7 : tW B N p = 7
  · rw [if_pos k7] at hT
    have := m_sR (d := d) (q0 := tS B N p) hN (M1 (by omega)) hp (TQ_fr gf hT)
    simpa [q163, r163_0, r163_1, r163_4, r163_5, r163_6, r163_9, r163_11, r163_14, r163_15, r163_16, r163_17, r163_20, r163_21, r163_22, r163_23, r163_26, r163_29, r163_32, r163_33, r163_34, r163_37, r163_40, r163_41, r163_42, r163_45, r163_48, r163_51, r163_52, r163_53, r163_56, r163_59, r163_60, r163_61, r163_64, r163_67, r163_70, r163_71, r163_72, r163_75, cs_nil, cs_cons, lc_lt, lc_ge, lc_gt, lc_le, lc_eq, hA, n80, o, n0, n4, eY 280 7 (by decide) k7] using this
  rw [if_neg k7] at hT
  have n7 := eN 280 7 (by decide) k7
  by_cases k9 : tW B N p = 9
  · rw [if_pos k9] at hT
    have := m_sX (d := d) (w := 0) (q0 := tS B N p) hN (M1 (by omega)) (by omega) (by omega) (TQ_fr gf hT)
    simpa [q163, r163_0, r163_1, r163_4, r163_5, r163_6, r163_9, r163_11, r163_14, r163_15, r163_16, r163_17, r163_20, r163_21, r163_22, r163_23, r163_26, r163_29, r163_32, r163_33, r163_34, r163_37, r163_40, r163_41, r163_42, r163_45, r163_48, r163_51, r163_52, r163_53, r163_56, r163_59, r163_60, r163_61, r163_64, r163_67, r163_70, r163_71, r163_72, r163_75, r163_78, r163_79, r163_80, r163_83, r163_86, r163_89, r163_90, r163_91, r163_92, r163_95, cs_nil, cs_cons, lc_lt, lc_ge, lc_gt, lc_le, lc_eq, hA, n80, o, n0, n4, n7, eY 282 9 (by decide) k9] using this
  rw [if_neg k9] at hT
  have n9 := eN 282 9 (by decide) k9
  by_cases k10 : tW B N p = 10
  · rw [if_pos k10] at hT
    have := m_sX (d := d) (w := 1) (q0 := tS B N p) hN (M1 (by omega)) (by omega) (by omega) (TQ_fr gf hT)
    simpa [q163, r163_0, r163_1, r163_4, r163_5, r163_6, r163_9, r163_11, r163_14, r163_15, r163_16, r163_17, r163_20, r163_21, r163_22, r163_23, r163_26, r163_29, r163_32, r163_33, r163_34, r163_37, r163_40, r163_41, r163_42, r163_45, r163_48, r163_51, r163_52, r163_53, r163_56, r163_59, r163_60, r163_61, r163_64, r163_67, r163_70, r163_71, r163_72, r163_75, r163_78, r163_79, r163_80, r163_83, r163_86, r163_89, r163_90, r163_91, r163_92, r163_95, r163_98, r163_99, r163_100, r163_103, r163_106, r163_109, r163_110, r163_111, r163_112, r163_115, cs_nil, cs_cons, lc_lt, lc_ge, lc_gt, lc_le, lc_eq, hA, n80, o, n0, n4, n7, n9, eY 283 10 (by decide) k10] using this
  rw [if_neg k10] at hT
  have n10 := eN 283 10 (by decide) k10
  by_cases k11 : tW B N p = 11
  · rw [if_pos k11] at hT
    have := m_sX (d := d) (w := 2) (q0 := tS B N p) hN (M1 (by omega)) (by omega) (by omega) (TQ_fr gf hT)
    simpa [q163, r163_0, r163_1, r163_4, r163_5, r163_6, r163_9, r163_11, r163_14, r163_15, r163_16, r163_17, r163_20, r163_21, r163_22, r163_23, r163_26, r163_29, r163_32, r163_33, r163_34, r163_37, r163_40, r163_41, r163_42, r163_45, r163_48, r163_51, r163_52, r163_53, r163_56, r163_59, r163_60, r163_61, r163_64, r163_67, r163_70, r163_71, r163_72, r163_75, r163_78, r163_79, r163_80, r163_83, r163_86, r163_89, r163_90, r163_91, r163_92, r163_95, r163_98, r163_99, r163_100, r163_103, r163_106, r163_109, r163_110, r163_111, r163_112, r163_115, r163_118, r163_119, r163_120, r163_123, r163_126, r163_129, r163_130, r163_131, r163_132, r163_135, cs_nil, cs_cons, lc_lt, lc_ge, lc_gt, lc_le, lc_eq, hA, n80, o, n0, n4, n7, n9, n10, eY 284 11 (by decide) k11] using this
  rw [if_neg k11] at hT
  have n11 := eN 284 11 (by decide) k11
  by_cases k12 : tW B N p = 12
  · rw [if_pos k12] at hT
    have := m_sX (d := d) (w := 3) (q0 := tS B N p) hN (M1 (by omega)) (by omega) (by omega) (TQ_fr gf hT)
    simpa [q163, r163_0, r163_1, r163_4, r163_5, r163_6, r163_9, r163_11, r163_14, r163_15, r163_16, r163_17, r163_20, r163_21, r163_22, r163_23, r163_26, r163_29, r163_32, r163_33, r163_34, r163_37, r163_40, r163_41, r163_42, r163_45, r163_48, r163_51, r163_52, r163_53, r163_56, r163_59, r163_60, r163_61, r163_64, r163_67, r163_70, r163_71, r163_72, r163_75, r163_78, r163_79, r163_80, r163_83, r163_86, r163_89, r163_90, r163_91, r163_92, r163_95, r163_98, r163_99, r163_100, r163_103, r163_106, r163_109, r163_110, r163_111, r163_112, r163_115, r163_118, r163_119, r163_120, r163_123, r163_126, r163_129, r163_130, r163_131, r163_132, r163_135, r163_138, r163_139, r163_140, r163_143, r163_146, r163_149, r163_150, r163_151, r163_152, r163_155, cs_nil, cs_cons, lc_lt, lc_ge, lc_gt, lc_le, lc_eq, hA, n80, o, n0, n4, n7, n9, n10, n11, eY 285 12 (by decide) k12] using this
  rw [if_neg k12] at hT
  have n12 := eN 285 12 (by decide) k12
  by_cases k13 : tW B N p = 13
  · rw [if_pos k13] at hT
    have := m_sX (d := d) (w := 4) (q0 := tS B N p) hN (M1 (by omega)) (by omega) (by omega) (TQ_fr gf hT)
    simpa [q163, r163_0, r163_1, r163_4, r163_5, r163_6, r163_9, r163_11, r163_14, r163_15, r163_16, r163_17, r163_20, r163_21, r163_22, r163_23, r163_26, r163_29, r163_32, r163_33, r163_34, r163_37, r163_40, r163_41, r163_42, r163_45, r163_48, r163_51, r163_52, r163_53, r163_56, r163_59, r163_60, r163_61, r163_64, r163_67, r163_70, r163_71, r163_72, r163_75, r163_78, r163_79, r163_80, r163_83, r163_86, r163_89, r163_90, r163_91, r163_92, r163_95, r163_98, r163_99, r163_100, r163_103, r163_106, r163_109, r163_110, r163_111, r163_112, r163_115, r163_118, r163_119, r163_120, r163_123, r163_126, r163_129, r163_130, r163_131, r163_132, r163_135, r163_138, r163_139, r163_140, r163_143, r163_146, r163_149, r163_150, r163_151, r163_152, r163_155, r163_158, r163_159, r163_160, r163_163, r163_166, r163_169, r163_170, r163_171, r163_172, r163_175, cs_nil, cs_cons, lc_lt, lc_ge, lc_gt, lc_le, lc_eq, hA, n80, o, n0, n4, n7, n9, n10, n11, n12, eY 286 13 (by decide) k13] using this
  rw [if_neg k13] at hT
  have n13 := eN 286 13 (by decide) k13
  have := m_sC (c0 := 0) hN hM hT
  simpa [q163, r163_0, r163_1, r163_4, r163_5, r163_6, r163_9, r163_11, r163_14, r163_15, r163_16, r163_17, r163_20, r163_21, r163_22, r163_23, r163_26, r163_29, r163_32, r163_33, r163_34, r163_37, r163_40, r163_41, r163_42, r163_45, r163_48, r163_51, r163_52, r163_53, r163_56, r163_59, r163_60, r163_61, r163_64, r163_67, r163_70, r163_71, r163_72, r163_75, r163_78, r163_79, r163_80, r163_83, r163_86, r163_89, r163_90, r163_91, r163_92, r163_95, r163_98, r163_99, r163_100, r163_103, r163_106, r163_109, r163_110, r163_111, r163_112, r163_115, r163_118, r163_119, r163_120, r163_123, r163_126, r163_129, r163_130, r163_131, r163_132, r163_135, r163_138, r163_139, r163_140, r163_143, r163_146, r163_149, r163_150, r163_151, r163_152, r163_155, r163_158, r163_159, r163_160, r163_163, r163_166, r163_169, r163_170, r163_171, r163_172, r163_175, cs_nil, cs_cons, lc_lt, lc_ge, lc_gt, lc_le, lc_eq, hA, n80, o, n0, n4, n7, n9, n10, n11, n12, n13] using this
end
