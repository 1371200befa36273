/-! islands: the model takes new names -/
section
variable {d : Nat} {f g : am_F} {B : Int → Int} {N p : Int} {Q : am_V → am_F → Prop} {I : IS}
theorem m_nameN (hX : MX f B N) (hN : N ≤ 1600) (h0 : 0 ≤ p) (h1 : p ≤ N) (hP : PP f B N p) (hb : f 270 5 = 0) (hc : ¬ tK B N p = 1 ∨ (0 ≤ tW B N p ∧ tW B N p < 28)) : aw_cl (d + 3) 171 [(110, 270)] f Q = Q (1, 0) (am_up (am_up (am_up f 270 2 (tS B N p)) 270 5 1) 270 6 (tS B N p)) := by
  have lo := fun (dd : Nat) (QQ : am_V → am_F → Prop) => m_look (d := dd) (Q := QQ) hX hN h0 h1 hP.1
  have tk := tK_s (s := 1) (Or.inl rfl) hP h1
  have hf : (am_up f 270 2 (tS B N p)) 270 5 = 0 := by rw [am_un (by omega)]; exact hb
  have gp : gP f (am_up f 270 2 (tS B N p)) := gP_up gP_rf (by omega)
  have ow := fun (dd : Nat) (QQ : am_V → am_F → Prop) => m_own (d := dd) (Q := QQ) (MX_gP hX gp) hN h0 h1 (PP_look hP h1) hf am_ue
  apply aw_det
  by_cases hs1 : srt (lk B N p) = 1
  · by_cases en : f 270 4 = tS B N p
    · have en' : tS B N p = f 270 4 := en.symm
      simp (disch := omega) [q171, r171_0, r171_1, r171_4, r171_7, r171_8, r171_9, r171_10, r171_13, r171_16, r171_19, r171_20, r171_23, r171_24, r171_27, r171_30, r171_31, r171_34, r171_37, r171_38, r171_39, r171_40, r171_43, r171_46, r171_47, cs_nil, cs_cons, lc_lt, lc_ge, lc_gt, lc_le, lc_eq, hb, lo, m_let, hs1, ← en', m_fail hf, am_un, am_ue]
    · have hk := tk.mpr ⟨hs1, en⟩
      have hw : 0 ≤ tW B N p ∧ tW B N p < 28 := by
        rcases hc with q | q
        · exact absurd hk q
        · exact q
      have en' : ¬ tS B N p = f 270 4 := fun q => en q.symm
      simp (disch := omega) [q171, r171_0, r171_1, r171_4, r171_7, r171_8, r171_9, r171_10, r171_13, r171_16, r171_19, r171_20, r171_23, r171_24, r171_27, r171_30, r171_31, r171_34, r171_37, r171_38, r171_39, r171_40, r171_43, r171_46, r171_47, cs_nil, cs_cons, lc_lt, lc_ge, lc_gt, lc_le, lc_eq, hb, lo, m_let, hs1, en', ow, hw, m_fail hf, am_un, am_ue]
  · simp (disch := omega) [q171, r171_0, r171_1, r171_4, r171_7, r171_8, r171_9, r171_10, r171_13, r171_16, r171_19, r171_20, r171_23, r171_24, r171_27, r171_30, r171_31, r171_34, r171_37, r171_38, r171_39, r171_40, r171_43, r171_46, r171_47, cs_nil, cs_cons, lc_lt, lc_ge, lc_gt, lc_le, lc_eq, hb, lo, m_let, hs1, m_fail hf, am_un, am_ue]
theorem m_nameL (hX : MX f B N) (hN : N ≤ 1600) (h0 : 0 ≤ p) (h1 : p ≤ N) (hP : PP f B N p) (hb : f 270 5 = 0) (hk : tK B N p = 1) (hc : ¬ (0 ≤ tW B N p ∧ tW B N p < 28)) : aw_cl (d + 3) 171 [(110, 270)] f Q = if 6 < tE B N p - tS B N p then Q (1, 0) (am_up (am_up (am_up (am_up f 270 2 (tS B N p + 6)) 270 38 (tS B N p)) 270 5 1) 270 6 (tS B N p + 6)) else Q (1, nv (tN B N p)) (am_up (am_up (am_up f 270 2 (tE B N p)) 270 38 (tS B N p)) 270 4 (tE B N p)) := by
  have lo := fun (dd : Nat) (QQ : am_V → am_F → Prop) => m_look (d := dd) (Q := QQ) hX hN h0 h1 hP.1
  have tk := (tK_s (s := 1) (Or.inl rfl) hP h1).mp hk
  have tr := tE_r (Or.inl rfl) hk h1
  have hf : (am_up f 270 2 (tS B N p)) 270 5 = 0 := by rw [am_un (by omega)]; exact hb
  have gp : gP f (am_up f 270 2 (tS B N p)) := gP_up gP_rf (by omega)
  have ow := fun (dd : Nat) (QQ : am_V → am_F → Prop) => m_own (d := dd) (Q := QQ) (MX_gP hX gp) hN h0 h1 (PP_look hP h1) hf am_ue
  obtain ⟨⟨x1, x2⟩, x3, x4⟩ := hX
  have e0 := fx_270_0 x1
  have sb := tS_b (B := B) h1
  have en : ¬ tS B N p = f 270 4 := fun q => tk.2 q.symm
  have dg : ∀ q, tS B N p ≤ q → q < tE B N p → 97 ≤ B q ∧ B q ≤ 122 := fun q a b => srt_1.mp (tr.2.2.1 q a b)
  have sw : ∀ (q : Int), am_up (am_up f 270 2 q) 270 38 (tS B N p) = am_up (am_up f 270 38 (tS B N p)) 270 2 q := fun q => by
    funext c j
    unfold am_up
    by_cases e1 : c = 270 ∧ j = 38
    · rw [if_pos e1, if_neg (by omega), if_pos e1]
    · rw [if_neg e1]
      by_cases e2 : c = 270 ∧ j = 2
      · rw [if_pos e2, if_pos e2]
      · rw [if_neg e2, if_neg e2, if_neg e1]
  by_cases h6 : 6 < tE B N p - tS B N p
  · rw [if_pos h6, sw]
    have key : ∀ (j i : Nat), i + j = 6 → aw_wp (d + 3) 171 58 [(110, 270), (1, nv (nmL B (tS B N p) i)), (2, 0)] [] (am_up (am_up f 270 38 (tS B N p)) 270 2 (tS B N p + i)) (fun v g => v = (1, 0) ∧ g = am_up (am_up (am_up (am_up f 270 38 (tS B N p)) 270 2 (tS B N p + 6)) 270 5 1) 270 6 (tS B N p + 6)) := by
      intro j
      induction j with
      | zero =>
        intro i hi
        have i6 : i = 6 := by omega
        subst i6
        have hf2 : (am_up (am_up f 270 38 (tS B N p)) 270 2 (tS B N p + 6)) 270 5 = 0 := by rw [am_un (by omega), am_un (by omega)]; exact hb
        have d2 := tr.2.2.1 (tS B N p + 6) (by omega) (by omega)
        have n6 : am_wI (tS B N p + 6 - tS B N p) = 6 := by rw [am_wid2 (by omega) (by omega)]; omega
        rw [r171_58]
        simp (disch := omega) [r171_59, r171_62, r171_63, r171_66, r171_69, r171_70, r171_73, r171_74, r171_77, r171_78, r171_81, r171_84, r171_85, r171_88, r171_89, r171_92, r171_93, r171_95, r171_98, r171_99, r171_100, r171_101, r171_104, r171_107, r171_108, r171_109, r171_112, r171_113, r171_114, r171_115, r171_118, r171_119, r171_122, r171_123, r171_124, r171_125, r171_128, r171_129, r171_130, r171_131, r171_132, r171_133, r171_134, r171_137, r171_138, r171_139, r171_142, cs_nil, cs_cons, lc_lt, lc_ge, lc_gt, lc_le, lc_eq, e0, x3, x4, ln_271, m_let, d2, n6, m_fail hf2, am_un, am_ue, le_T, lt_T, le_F, lt_F]
      | succ j ih =>
        intro i hi
        have ih' := ih (i + 1) (by omega)
        have d2 := tr.2.2.1 (tS B N p + i) (by omega) (by omega)
        have d1 := dg (tS B N p + i) (by omega) (by omega)
        have b6 := nv_b6 (qs := nmL B (tS B N p) i) (by rw [nmL_len]; omega) (fun x hx => by have := nmL_d i (fun q a b => dg q a (by omega)) x hx; omega)
        have ev : nv (nmL B (tS B N p) (i + 1)) = 27 * nv (nmL B (tS B N p) i) + (B (tS B N p + i) - 96) := rfl
        rw [ev, Int.natCast_add i, ← Int.add_assoc] at ih'
        have n6 : ¬ tS B N p + (i : Int) - tS B N p = 6 := by omega
        generalize nv (nmL B (tS B N p) i) = v at ih' b6 ⊢
        have e2 : 27 * v + B (tS B N p + i) - 97 + 1 = 27 * v + (B (tS B N p + i) - 96) := by omega
        rw [r171_58]
        simpa (disch := omega) [r171_59, r171_62, r171_63, r171_66, r171_69, r171_70, r171_73, r171_74, r171_77, r171_78, r171_81, r171_84, r171_85, r171_88, r171_89, r171_92, r171_93, r171_95, r171_98, r171_99, r171_100, r171_101, r171_104, r171_107, r171_108, r171_109, r171_112, r171_113, r171_114, r171_115, r171_118, r171_119, r171_122, r171_123, r171_124, r171_125, r171_128, r171_129, r171_130, r171_131, r171_132, r171_133, r171_134, r171_137, r171_138, r171_139, r171_142, cs_nil, cs_cons, lc_lt, lc_ge, lc_gt, lc_le, lc_eq, e0, x3, x4, ln_271, m_let, d2, n6, e2, am_un, am_ue, am_uu, am_wid2, am_wLd2, le_T, lt_T, le_F, lt_F] using ih'
    apply aw_det
    have := key 6 0 (by omega)
    rw [show tS B N p + ((0 : Nat) : Int) = tS B N p by omega, ← sw] at this
    simpa (disch := omega) [q171, r171_0, r171_1, r171_4, r171_7, r171_8, r171_9, r171_10, r171_13, r171_16, r171_19, r171_20, r171_23, r171_24, r171_27, r171_30, r171_31, r171_34, r171_37, r171_38, r171_39, r171_40, r171_43, r171_46, r171_47, r171_48, r171_49, r171_50, r171_53, r171_56, r171_57, cs_nil, cs_cons, lc_lt, lc_ge, lc_gt, lc_le, lc_eq, hb, lo, m_let, tk.1, en, ow, hc, am_un, am_ue, nmL, nv] using this
  · rw [if_neg h6, sw]
    have fin : aw_wp (d + 3) 171 145 [(110, 270), (1, nv (tN B N p)), (2, 0)] [] (am_up (am_up f 270 38 (tS B N p)) 270 2 (tE B N p)) (fun v g => v = (1, nv (tN B N p)) ∧ g = am_up (am_up (am_up f 270 38 (tS B N p)) 270 2 (tE B N p)) 270 4 (tE B N p)) := by
      simp (disch := omega) [r171_145, r171_146, r171_147, r171_150, r171_153, r171_154, cs_nil, cs_cons, lc_lt, lc_ge, lc_gt, lc_le, lc_eq, am_un, am_ue]
    have key : ∀ (j i : Nat), tS B N p + i + j = tE B N p → aw_wp (d + 3) 171 58 [(110, 270), (1, nv (nmL B (tS B N p) i)), (2, 0)] [] (am_up (am_up f 270 38 (tS B N p)) 270 2 (tS B N p + i)) (fun v g => v = (1, nv (tN B N p)) ∧ g = am_up (am_up (am_up f 270 38 (tS B N p)) 270 2 (tE B N p)) 270 4 (tE B N p)) := by
      intro j
      induction j with
      | zero =>
        intro i hi
        have ei : tS B N p + (i : Int) = tE B N p := by omega
        have eN : nmL B (tS B N p) i = tN B N p := by unfold tN; rw [show (tE B N p - tS B N p).toNat = i by omega]
        rw [ei, eN, r171_58]
        by_cases hn : tE B N p < N
        · have := tr.2.2.2.1 hn
          simpa (disch := omega) [r171_59, r171_62, r171_63, r171_66, r171_69, r171_70, r171_73, r171_74, r171_77, r171_78, r171_81, cs_nil, cs_cons, lc_lt, lc_ge, lc_gt, lc_le, lc_eq, e0, x3, x4, ln_271, m_let, this, am_un, am_ue, le_T, lt_T, le_F, lt_F] using fin
        · simpa (disch := omega) [r171_59, r171_62, r171_63, r171_66, r171_69, r171_70, r171_73, r171_74, r171_77, r171_78, r171_81, cs_nil, cs_cons, lc_lt, lc_ge, lc_gt, lc_le, lc_eq, e0, x3, x4, ln_271, am_un, am_ue, le_T, lt_T, le_F, lt_F] using fin
      | succ j ih =>
        intro i hi
        have ih' := ih (i + 1) (by omega)
        have d2 := tr.2.2.1 (tS B N p + i) (by omega) (by omega)
        have d1 := dg (tS B N p + i) (by omega) (by omega)
        have b6 := nv_b6 (qs := nmL B (tS B N p) i) (by rw [nmL_len]; omega) (fun x hx => by have := nmL_d i (fun q a b => dg q a (by omega)) x hx; omega)
        have ev : nv (nmL B (tS B N p) (i + 1)) = 27 * nv (nmL B (tS B N p) i) + (B (tS B N p + i) - 96) := rfl
        rw [ev, Int.natCast_add i, ← Int.add_assoc] at ih'
        have n6 : ¬ tS B N p + (i : Int) - tS B N p = 6 := by omega
        generalize nv (nmL B (tS B N p) i) = v at ih' b6 ⊢
        have e2 : 27 * v + B (tS B N p + i) - 97 + 1 = 27 * v + (B (tS B N p + i) - 96) := by omega
        rw [r171_58]
        simpa (disch := omega) [r171_59, r171_62, r171_63, r171_66, r171_69, r171_70, r171_73, r171_74, r171_77, r171_78, r171_81, r171_84, r171_85, r171_88, r171_89, r171_92, r171_93, r171_95, r171_98, r171_99, r171_100, r171_101, r171_104, r171_107, r171_108, r171_109, r171_112, r171_113, r171_114, r171_115, r171_118, r171_119, r171_122, r171_123, r171_124, r171_125, r171_128, r171_129, r171_130, r171_131, r171_132, r171_133, r171_134, r171_137, r171_138, r171_139, r171_142, cs_nil, cs_cons, lc_lt, lc_ge, lc_gt, lc_le, lc_eq, e0, x3, x4, ln_271, m_let, d2, n6, e2, am_un, am_ue, am_uu, am_wid2, am_wLd2, le_T, lt_T, le_F, lt_F] using ih'
    apply aw_det
    have := key (tE B N p - tS B N p).toNat 0 (by omega)
    rw [show tS B N p + ((0 : Nat) : Int) = tS B N p by omega, ← sw] at this
    simpa (disch := omega) [q171, r171_0, r171_1, r171_4, r171_7, r171_8, r171_9, r171_10, r171_13, r171_16, r171_19, r171_20, r171_23, r171_24, r171_27, r171_30, r171_31, r171_34, r171_37, r171_38, r171_39, r171_40, r171_43, r171_46, r171_47, r171_48, r171_49, r171_50, r171_53, r171_56, r171_57, cs_nil, cs_cons, lc_lt, lc_ge, lc_gt, lc_le, lc_eq, hb, lo, m_let, tk.1, en, ow, hc, am_un, am_ue, nmL, nv] using this
end
