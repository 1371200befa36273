/-! the model takes words, numbers, signs -/
section
variable {d : Nat} {f : am_F} {B : Int → Int} {N p : Int} {Q : am_V → am_F → Prop}
theorem PP_look (hP : PP f B N p) (h1 : p ≤ N) : PP (am_up f 270 2 (tS B N p)) B N p := by
  have hs := tS_b (B := B) h1
  obtain ⟨_, h2, h3⟩ := hP
  refine ⟨by rw [am_ue]; omega, ?_, ?_⟩
  · rw [am_un (by omega)]; exact h2
  · rw [am_un (by omega)]; exact h3
theorem PP_word {g : am_F} {s : Int} (hs : s = 1 ∨ s = 2) (hk : tK B N p = s) (h0 : 0 ≤ p) (h1 : p ≤ N) (e2 : g 270 2 = tE B N p) (e4 : g 270 4 = tE B N p) : PP g B N (tE B N p) := by
  have tr := tE_r hs hk h1
  have hb := tS_b (B := B) h1
  have hb2 := tS_b (B := B) (N := N) (p := tE B N p) tr.2.2.2.2.2
  refine ⟨by omega, by omega, ⟨fun _ => ⟨by omega, ?_⟩, fun _ => e4⟩⟩
  rw [tr.2.2.1 (tE B N p - 1) (by omega) (by omega)]
  exact hs
theorem isg_E {c : Int} (hg : isg B N p c = true) : tE B N p = tS B N p + 1 ∧ tS B N p < N ∧ B (tS B N p) = c ∧ srt (B (tS B N p)) = 3 := by
  obtain ⟨k, v⟩ := isg_k hg
  have k' := k
  unfold tK at k'
  split at k'
  · omega
  · rename_i h
    split at k'
    · omega
    · unfold tV at v
      rw [if_neg (by omega), if_neg (by omega)] at v
      refine ⟨?_, by omega, v, k'⟩
      unfold tE
      rw [if_neg h, if_neg (by omega)]
theorem PP_sign {g : am_F} {c : Int} (hP : PP f B N p) (hg : isg B N p c = true) (h0 : 0 ≤ p) (h1 : p ≤ N) (e2 : g 270 2 = tE B N p) (e4 : g 270 4 = f 270 4) : PP g B N (tE B N p) := by
  have ie := isg_E hg
  have gb := isg_b h1 hg
  have hb2 := tS_b (B := B) (N := N) (p := tE B N p) gb.2
  have hb := tS_b (B := B) h1
  have h2 := hP.2.1
  refine ⟨by omega, by omega, ⟨fun q => by omega, fun q => ?_⟩⟩
  have := q.2
  rw [show tE B N p - 1 = tS B N p by omega] at this
  omega
theorem lk_s {c : Int} (hc : srt c = 3) (hc0 : 0 ≤ c) : lk B N p = c ↔ isg B N p c = true := by
  unfold lk
  split
  · rename_i h
    constructor
    · intro q; omega
    · intro q; have := (isg_E q).2.1; omega
  · rename_i h
    constructor
    · intro q
      unfold isg
      have k : tK B N p = 3 := by
        unfold tK
        rw [if_neg h, if_neg ?_, q, hc]
        unfold tq
        simp [q, hc]
      have v : tV B N p = c := by
        unfold tV
        rw [if_neg (by omega), if_neg (by omega), q]
      simp [k, v]
    · intro q; exact (isg_E q).2.2.1
theorem m_eatsY {wa k : Int} (hX : MX f B N) (hN : N ≤ 1600) (h0 : 0 ≤ p) (h1 : p ≤ N) (hP : PP f B N p) (hb : f 270 5 = 0) (hw : HW f wa k) (hk : tW B N p = k) : aw_cl (d + 2) 165 [(110, 270), (22, wa)] f Q = Q (0, 1) (am_up (am_up f 270 2 (tE B N p)) 270 4 (tE B N p)) := by
  have he := fun (dd : Nat) (QQ : am_V → am_F → Prop) => m_here (d := dd) (Q := QQ) hX hN h0 h1 hP hb hw
  obtain ⟨⟨k0, k1, wa1⟩, hl, _⟩ := hw
  have wa0 : 0 ≤ wa := by omega
  have tb := tW_b h1 (show ¬ tW B N p = -1 by omega)
  have hs := tS_b (B := B) h1
  have e : am_wI (tS B N p + am_len aw_SH wa) = tE B N p := by
    have := ((tW_i k0 k1).mp hk).2
    unfold mt at this
    simp only [Bool.and_eq_true, decide_eq_true_eq] at this
    rw [hl, am_wid2 (by omega) (by omega)]
    exact this.1
  apply aw_det
  simp (disch := omega) [q165, r165_0, r165_1, r165_2, r165_5, r165_8, r165_9, r165_10, r165_11, r165_12, r165_15, r165_16, r165_17, r165_18, r165_21, r165_22, r165_23, r165_26, r165_29, r165_30, cs_nil, cs_cons, lc_lt, lc_ge, lc_gt, lc_le, lc_eq, he, hk, wa0, e, am_un, am_ue, am_uu]
theorem m_eatsN {wa k : Int} (hX : MX f B N) (hN : N ≤ 1600) (h0 : 0 ≤ p) (h1 : p ≤ N) (hP : PP f B N p) (hb : f 270 5 = 0) (hw : HW f wa k) (hk : ¬ tW B N p = k) : aw_cl (d + 2) 165 [(110, 270), (22, wa)] f Q = Q (0, 0) (am_up f 270 2 (tS B N p)) := by
  have he := fun (dd : Nat) (QQ : am_V → am_F → Prop) => m_here (d := dd) (Q := QQ) hX hN h0 h1 hP hb hw
  have wa0 : 0 ≤ wa := by have := hw.1; omega
  apply aw_det
  simp (disch := omega) [q165, r165_0, r165_1, r165_2, r165_5, r165_8, r165_9, r165_10, r165_11, r165_12, r165_15, r165_16, r165_17, r165_18, r165_21, r165_22, r165_23, r165_26, r165_29, r165_30, cs_nil, cs_cons, lc_lt, lc_ge, lc_gt, lc_le, lc_eq, he, hk, wa0]
theorem m_asksY {wa k : Int} (hX : MX f B N) (hN : N ≤ 1600) (h0 : 0 ≤ p) (h1 : p ≤ N) (hP : PP f B N p) (hb : f 270 5 = 0) (hw : HW f wa k) (hk : tW B N p = k) : aw_cl (d + 3) 173 [(110, 270), (22, wa)] f Q = Q (3, 0) (am_up (am_up f 270 2 (tE B N p)) 270 4 (tE B N p)) := by
  have he := fun (dd : Nat) (QQ : am_V → am_F → Prop) => m_eatsY (d := dd) (Q := QQ) hX hN h0 h1 hP hb hw hk
  have wa0 : 0 ≤ wa := by have := hw.1; omega
  apply aw_det
  simp (disch := omega) [q173, r173_0, r173_1, r173_4, r173_7, r173_8, r173_9, r173_12, r173_15, r173_16, r173_17, r173_18, r173_21, r173_24, cs_nil, cs_cons, lc_lt, lc_ge, lc_gt, lc_le, lc_eq, he, hb, wa0]
theorem m_asksN {wa k : Int} (hX : MX f B N) (hN : N ≤ 1600) (h0 : 0 ≤ p) (h1 : p ≤ N) (hP : PP f B N p) (hb : f 270 5 = 0) (hw : HW f wa k) (hk : ¬ tW B N p = k) : aw_cl (d + 3) 173 [(110, 270), (22, wa)] f Q = Q (3, 0) (am_up (am_up (am_up f 270 2 (tS B N p)) 270 5 1) 270 6 (tS B N p)) := by
  have he := fun (dd : Nat) (QQ : am_V → am_F → Prop) => m_eatsN (d := dd) (Q := QQ) hX hN h0 h1 hP hb hw hk
  have hf : (am_up f 270 2 (tS B N p)) 270 5 = 0 := by rw [am_un (by omega)]; exact hb
  have wa0 : 0 ≤ wa := by have := hw.1; omega
  apply aw_det
  simp (disch := omega) [q173, r173_0, r173_1, r173_4, r173_7, r173_8, r173_9, r173_12, r173_15, r173_16, r173_17, r173_18, r173_21, r173_24, cs_nil, cs_cons, lc_lt, lc_ge, lc_gt, lc_le, lc_eq, he, hb, wa0, m_fail hf, am_un, am_ue]
theorem m_asksB {wa : Int} (hb : ¬ f 270 5 = 0) : aw_cl (d + 3) 173 [(110, 270), (22, wa)] f Q = Q (3, 0) f := by
  apply aw_det
  simp (disch := omega) [q173, r173_0, r173_1, r173_4, r173_7, r173_8, r173_9, r173_12, r173_15, r173_16, r173_17, r173_18, r173_21, r173_24, cs_nil, cs_cons, lc_lt, lc_ge, lc_gt, lc_le, lc_eq, hb]
theorem m_takesY {c : Int} (hX : MX f B N) (hN : N ≤ 1600) (h0 : 0 ≤ p) (h1 : p ≤ N) (hP : PP f B N p) (hb : f 270 5 = 0) (hg : isg B N p c = true) : aw_cl (d + 1) 192 [(110, 270), (0, c)] f Q = Q (0, 1) (am_up f 270 2 (tE B N p)) := by
  have lo := fun (dd : Nat) (QQ : am_V → am_F → Prop) => m_look (d := dd) (Q := QQ) hX hN h0 h1 hP.1
  have ie := isg_E hg
  have hs := tS_b (B := B) h1
  have el : lk B N p = c := by unfold lk; rw [if_neg (by omega)]; exact ie.2.2.1
  have e := ie.1
  apply aw_det
  simp (disch := omega) [q192, r192_0, r192_1, r192_4, r192_7, r192_8, r192_11, r192_12, r192_15, r192_16, r192_17, r192_18, r192_19, r192_22, r192_23, r192_24, r192_27, r192_28, cs_nil, cs_cons, lc_lt, lc_ge, lc_gt, lc_le, lc_eq, lo, hb, el, e, am_un, am_ue, am_uu, am_wid2]
theorem m_takesN {c : Int} (hX : MX f B N) (hN : N ≤ 1600) (h0 : 0 ≤ p) (h1 : p ≤ N) (hP : PP f B N p) (hb : f 270 5 = 0) (hc : srt c = 3) (hc0 : 0 ≤ c) (hg : ¬ isg B N p c = true) : aw_cl (d + 1) 192 [(110, 270), (0, c)] f Q = Q (0, 0) (am_up f 270 2 (tS B N p)) := by
  have lo := fun (dd : Nat) (QQ : am_V → am_F → Prop) => m_look (d := dd) (Q := QQ) hX hN h0 h1 hP.1
  have el : ¬ lk B N p = c := fun q => hg ((lk_s hc hc0).mp q)
  apply aw_det
  simp (disch := omega) [q192, r192_0, r192_1, r192_4, r192_7, r192_8, r192_11, r192_12, r192_15, r192_16, r192_17, r192_18, r192_19, r192_22, r192_23, r192_24, r192_27, r192_28, cs_nil, cs_cons, lc_lt, lc_ge, lc_gt, lc_le, lc_eq, lo, hb, el]
theorem m_askSY {c : Int} (hX : MX f B N) (hN : N ≤ 1600) (h0 : 0 ≤ p) (h1 : p ≤ N) (hP : PP f B N p) (hb : f 270 5 = 0) (hg : isg B N p c = true) : aw_cl (d + 2) 191 [(110, 270), (0, c)] f Q = Q (3, 0) (am_up f 270 2 (tE B N p)) := by
  have lo := fun (dd : Nat) (QQ : am_V → am_F → Prop) => m_takesY (d := dd) (Q := QQ) hX hN h0 h1 hP hb hg
  apply aw_det
  simp (disch := omega) [q191, r191_0, r191_1, r191_4, r191_7, r191_8, r191_9, r191_12, r191_15, r191_16, r191_17, r191_18, r191_21, r191_24, cs_nil, cs_cons, lc_lt, lc_ge, lc_gt, lc_le, lc_eq, lo, hb]
theorem m_askSN {c : Int} (hX : MX f B N) (hN : N ≤ 1600) (h0 : 0 ≤ p) (h1 : p ≤ N) (hP : PP f B N p) (hb : f 270 5 = 0) (hc : srt c = 3) (hc0 : 0 ≤ c) (hg : ¬ isg B N p c = true) : aw_cl (d + 2) 191 [(110, 270), (0, c)] f Q = Q (3, 0) (am_up (am_up (am_up f 270 2 (tS B N p)) 270 5 1) 270 6 (tS B N p)) := by
  have lo := fun (dd : Nat) (QQ : am_V → am_F → Prop) => m_takesN (d := dd) (Q := QQ) hX hN h0 h1 hP hb hc hc0 hg
  have hf : (am_up f 270 2 (tS B N p)) 270 5 = 0 := by rw [am_un (by omega)]; exact hb
  apply aw_det
  simp (disch := omega) [q191, r191_0, r191_1, r191_4, r191_7, r191_8, r191_9, r191_12, r191_15, r191_16, r191_17, r191_18, r191_21, r191_24, cs_nil, cs_cons, lc_lt, lc_ge, lc_gt, lc_le, lc_eq, lo, hb, m_fail hf, am_un, am_ue]
theorem m_askSB {c : Int} (hb : ¬ f 270 5 = 0) : aw_cl (d + 2) 191 [(110, 270), (0, c)] f Q = Q (3, 0) f := by
  apply aw_det
  simp (disch := omega) [q191, r191_0, r191_1, r191_4, r191_7, r191_8, r191_9, r191_12, r191_15, r191_16, r191_17, r191_18, r191_21, r191_24, cs_nil, cs_cons, lc_lt, lc_ge, lc_gt, lc_le, lc_eq, hb]
/-! numbers -/
theorem m_numB {a b : Int} (hb : ¬ f 270 5 = 0) : aw_cl (d + 1) 174 [(110, 270), (0, a), (0, b)] f Q = Q (0, 0) f := by
  apply aw_det
  simp (disch := omega) [r174_0, r174_1, r174_4, r174_7, r174_8, r174_9, r174_10, r174_13, r174_16, r174_19, r174_20, r174_23, r174_24, r174_27, r174_30, r174_31, r174_32, r174_33, r174_36, r174_39, r174_40, cs_nil, cs_cons, lc_lt, lc_ge, lc_gt, lc_le, lc_eq, q174, hb]
theorem m_numN {a b : Int} (hX : MX f B N) (hN : N ≤ 1600) (h0 : 0 ≤ p) (h1 : p ≤ N) (hP : PP f B N p) (hb : f 270 5 = 0) (hk : ¬ tK B N p = 2) : aw_cl (d + 1) 174 [(110, 270), (0, a), (0, b)] f Q = Q (0, 0) (am_up (am_up (am_up f 270 2 (tS B N p)) 270 5 1) 270 6 (tS B N p)) := by
  have lo := fun (dd : Nat) (QQ : am_V → am_F → Prop) => m_look (d := dd) (Q := QQ) hX hN h0 h1 hP.1
  have tk := tK_s (s := 2) (Or.inr rfl) hP h1
  have hf : (am_up f 270 2 (tS B N p)) 270 5 = 0 := by rw [am_un (by omega)]; exact hb
  apply aw_det
  by_cases hs1 : srt (lk B N p) = 2
  · have en : tS B N p = f 270 4 := by
      by_cases q : f 270 4 = tS B N p
      · exact q.symm
      · exact absurd (tk.mpr ⟨hs1, q⟩) hk
    simp (disch := omega) [r174_0, r174_1, r174_4, r174_7, r174_8, r174_9, r174_10, r174_13, r174_16, r174_19, r174_20, r174_23, r174_24, r174_27, r174_30, r174_31, r174_32, r174_33, r174_36, r174_39, r174_40, cs_nil, cs_cons, lc_lt, lc_ge, lc_gt, lc_le, lc_eq, q174, hb, lo, m_dig, hs1, ← en, m_fail hf, am_un, am_ue]
  · simp (disch := omega) [r174_0, r174_1, r174_4, r174_7, r174_8, r174_9, r174_10, r174_13, r174_16, r174_19, r174_20, r174_23, r174_24, r174_27, r174_30, r174_31, r174_32, r174_33, r174_36, r174_39, r174_40, cs_nil, cs_cons, lc_lt, lc_ge, lc_gt, lc_le, lc_eq, q174, hb, lo, m_dig, hs1, m_fail hf, am_un, am_ue]
theorem m_numY {a b : Int} (hX : MX f B N) (hN : N ≤ 1600) (h0 : 0 ≤ p) (h1 : p ≤ N) (hP : PP f B N p) (hb : f 270 5 = 0) (hk : tK B N p = 2) (hl : tE B N p - tS B N p ≤ 4) : aw_cl (d + 1) 174 [(110, 270), (0, a), (0, b)] f Q = Q (0, tV B N p) (if a ≤ tV B N p ∧ tV B N p ≤ b then am_up (am_up f 270 2 (tE B N p)) 270 4 (tE B N p) else am_up (am_up (am_up (am_up f 270 2 (tE B N p)) 270 4 (tE B N p)) 270 5 2) 270 6 (tS B N p)) := by
  have lo := fun (dd : Nat) (QQ : am_V → am_F → Prop) => m_look (d := dd) (Q := QQ) hX hN h0 h1 hP.1
  obtain ⟨⟨x1, x2⟩, x3, x4⟩ := hX
  have e0 := fx_270_0 x1
  have hs := tS_b (B := B) h1
  have t1 := (tK_s (s := 2) (Or.inr rfl) hP h1).mp hk
  have tr := tE_r (Or.inr rfl) hk h1
  have en : ¬ tS B N p = f 270 4 := fun q => t1.2 q.symm
  have dg : ∀ q, tS B N p ≤ q → q < tE B N p → 48 ≤ B q ∧ B q ≤ 57 := fun q a b => srt_2i.mp (tr.2.2.1 q a b)
  have vb := tV_b h1 hk
  have ev : tV B N p = nvF B (tS B N p) (tE B N p) 4 (tS B N p) 0 := by unfold tV; rw [if_neg (by omega), if_pos hk]
  have fin : aw_wp (d + 1) 174 129 [(110, 270), (0, a), (0, b), (0, tS B N p), (0, tV B N p)] [] (am_up f 270 2 (tE B N p)) (fun v g => v = (0, tV B N p) ∧ g = if a ≤ tV B N p ∧ tV B N p ≤ b then am_up (am_up f 270 2 (tE B N p)) 270 4 (tE B N p) else am_up (am_up (am_up (am_up f 270 2 (tE B N p)) 270 4 (tE B N p)) 270 5 2) 270 6 (tS B N p)) := by
    have hf : (am_up (am_up f 270 2 (tE B N p)) 270 4 (tE B N p)) 270 5 = 0 := by rw [am_un (by omega), am_un (by omega)]; exact hb
    by_cases c1 : a ≤ tV B N p
    · by_cases c2 : tV B N p ≤ b
      · simp (disch := omega) [r174_129, r174_130, r174_131, r174_134, r174_137, r174_139, r174_140, r174_141, r174_142, r174_143, r174_144, r174_147, r174_150, r174_151, r174_152, r174_153, r174_156, r174_158, cs_nil, cs_cons, lc_lt, lc_ge, lc_gt, lc_le, lc_eq, q176, r176_0, r176_1, r176_2, r176_3, r176_6, r176_7, r176_9, r176_10, r176_13, r176_14, r176_17, r176_18, cs_nil, cs_cons, lc_lt, lc_ge, lc_gt, lc_le, lc_eq, c1, c2, am_un, am_ue, le_T, lt_T, le_F, lt_F]
      · simp (disch := omega) [r174_129, r174_130, r174_131, r174_134, r174_137, r174_139, r174_140, r174_141, r174_142, r174_143, r174_144, r174_147, r174_150, r174_151, r174_152, r174_153, r174_156, r174_158, cs_nil, cs_cons, lc_lt, lc_ge, lc_gt, lc_le, lc_eq, q176, r176_0, r176_1, r176_2, r176_3, r176_6, r176_7, r176_9, r176_10, r176_13, r176_14, r176_17, r176_18, cs_nil, cs_cons, lc_lt, lc_ge, lc_gt, lc_le, lc_eq, c1, c2, m_fail hf, am_un, am_ue, le_T, lt_T, le_F, lt_F]
    · simp (disch := omega) [r174_129, r174_130, r174_131, r174_134, r174_137, r174_139, r174_140, r174_141, r174_142, r174_143, r174_144, r174_147, r174_150, r174_151, r174_152, r174_153, r174_156, r174_158, cs_nil, cs_cons, lc_lt, lc_ge, lc_gt, lc_le, lc_eq, q176, r176_0, r176_1, r176_2, r176_3, r176_6, r176_7, r176_9, r176_10, r176_13, r176_14, r176_17, r176_18, cs_nil, cs_cons, lc_lt, lc_ge, lc_gt, lc_le, lc_eq, c1, m_fail hf, am_un, am_ue, le_T, lt_T, le_F, lt_F]
  have key : ∀ (j : Nat) (q v : Int), q + j = tS B N p + 4 → tS B N p ≤ q → q ≤ tE B N p → 0 ≤ v → v ≤ 100000 → (j = 4 → v ≤ 0) → (j = 3 → v ≤ 9) → (j = 2 → v ≤ 99) → (j = 1 → v ≤ 999) → nvF B (tS B N p) (tE B N p) j q v = tV B N p → aw_wp (d + 1) 174 49 [(110, 270), (0, a), (0, b), (0, tS B N p), (0, v)] [] (am_up f 270 2 q) (fun v g => v = (0, tV B N p) ∧ g = if a ≤ tV B N p ∧ tV B N p ≤ b then am_up (am_up f 270 2 (tE B N p)) 270 4 (tE B N p) else am_up (am_up (am_up (am_up f 270 2 (tE B N p)) 270 4 (tE B N p)) 270 5 2) 270 6 (tS B N p)) := by
    intro j
    induction j with
    | zero =>
      intro q v hq hsq hqe v0 v1 _ _ _ _ hv
      have : q = tE B N p := by omega
      subst this
      have : v = tV B N p := hv
      subst this
      rw [r174_49]
      by_cases hn : tE B N p < N
      · have := tr.2.2.2.1 hn
        simpa (disch := omega) [r174_50, r174_53, r174_54, r174_57, r174_60, r174_61, r174_64, r174_65, r174_68, r174_69, r174_72, r174_75, r174_76, r174_79, r174_80, r174_81, r174_82, r174_85, r174_86, r174_87, r174_88, r174_91, r174_94, r174_95, r174_96, r174_98, r174_100, r174_101, r174_102, r174_105, r174_106, r174_109, r174_110, r174_111, r174_113, r174_114, r174_116, r174_117, r174_118, r174_121, r174_122, r174_123, r174_126, cs_nil, cs_cons, lc_lt, lc_ge, lc_gt, lc_le, lc_eq, e0, x3, x4, ln_271, m_dig, this, am_un, am_ue, le_T, lt_T, le_F, lt_F] using fin
      · simpa (disch := omega) [r174_50, r174_53, r174_54, r174_57, r174_60, r174_61, r174_64, r174_65, r174_68, r174_69, r174_72, r174_75, r174_76, r174_79, r174_80, r174_81, r174_82, r174_85, r174_86, r174_87, r174_88, r174_91, r174_94, r174_95, r174_96, r174_98, r174_100, r174_101, r174_102, r174_105, r174_106, r174_109, r174_110, r174_111, r174_113, r174_114, r174_116, r174_117, r174_118, r174_121, r174_122, r174_123, r174_126, cs_nil, cs_cons, lc_lt, lc_ge, lc_gt, lc_le, lc_eq, e0, x3, x4, ln_271, am_un, am_ue, le_T, lt_T, le_F, lt_F] using fin
    | succ j ih =>
      intro q v hq hsq hqe v0 v1 b4 b3 b2 b1 hv
      rw [r174_49]
      by_cases hqE : q < tE B N p
      · have d1 := dg q hsq hqE
        have d2 := tr.2.2.1 q hsq hqE
        have hv' : nvF B (tS B N p) (tE B N p) j (q + 1) (10 * v + B q - 48) = tV B N p := by
          rw [← hv]
          show _ = if q < tE B N p ∧ q < tS B N p + 4 then _ else _
          rw [if_pos ⟨hqE, by omega⟩]
        have ih' := ih (q + 1) (10 * v + B q - 48) (by omega) (by omega) (by omega) (by omega) (by omega) (by omega) (by omega) (by omega) (by omega) hv'
        have n4 : ¬ q - tS B N p = 4 := by omega
        simpa (disch := omega) [r174_50, r174_53, r174_54, r174_57, r174_60, r174_61, r174_64, r174_65, r174_68, r174_69, r174_72, r174_75, r174_76, r174_79, r174_80, r174_81, r174_82, r174_85, r174_86, r174_87, r174_88, r174_91, r174_94, r174_95, r174_96, r174_98, r174_100, r174_101, r174_102, r174_105, r174_106, r174_109, r174_110, r174_111, r174_113, r174_114, r174_116, r174_117, r174_118, r174_121, r174_122, r174_123, r174_126, cs_nil, cs_cons, lc_lt, lc_ge, lc_gt, lc_le, lc_eq, e0, x3, x4, ln_271, m_dig, d2, n4, am_un, am_ue, am_uu, am_wid2, le_T, lt_T, le_F, lt_F] using ih'
      · have : q = tE B N p := by omega
        subst this
        have : v = tV B N p := by
          rw [← hv]
          show v = if tE B N p < tE B N p ∧ _ then _ else _
          rw [if_neg (fun q => by omega)]
        subst this
        by_cases hn : tE B N p < N
        · have := tr.2.2.2.1 hn
          simpa (disch := omega) [r174_50, r174_53, r174_54, r174_57, r174_60, r174_61, r174_64, r174_65, r174_68, r174_69, r174_72, r174_75, r174_76, r174_79, r174_80, r174_81, r174_82, r174_85, r174_86, r174_87, r174_88, r174_91, r174_94, r174_95, r174_96, r174_98, r174_100, r174_101, r174_102, r174_105, r174_106, r174_109, r174_110, r174_111, r174_113, r174_114, r174_116, r174_117, r174_118, r174_121, r174_122, r174_123, r174_126, cs_nil, cs_cons, lc_lt, lc_ge, lc_gt, lc_le, lc_eq, e0, x3, x4, ln_271, m_dig, this, am_un, am_ue, le_T, lt_T, le_F, lt_F] using fin
        · simpa (disch := omega) [r174_50, r174_53, r174_54, r174_57, r174_60, r174_61, r174_64, r174_65, r174_68, r174_69, r174_72, r174_75, r174_76, r174_79, r174_80, r174_81, r174_82, r174_85, r174_86, r174_87, r174_88, r174_91, r174_94, r174_95, r174_96, r174_98, r174_100, r174_101, r174_102, r174_105, r174_106, r174_109, r174_110, r174_111, r174_113, r174_114, r174_116, r174_117, r174_118, r174_121, r174_122, r174_123, r174_126, cs_nil, cs_cons, lc_lt, lc_ge, lc_gt, lc_le, lc_eq, e0, x3, x4, ln_271, am_un, am_ue, le_T, lt_T, le_F, lt_F] using fin
  apply aw_det
  have := key 4 (tS B N p) 0 (by omega) (by omega) (by omega) (by omega) (by omega) (by omega) (by omega) (by omega) (by omega) ev.symm
  simpa (disch := omega) [r174_0, r174_1, r174_4, r174_7, r174_8, r174_9, r174_10, r174_13, r174_16, r174_19, r174_20, r174_23, r174_24, r174_27, r174_30, r174_31, r174_32, r174_33, r174_36, r174_39, r174_40, r174_41, r174_42, r174_45, r174_46, r174_47, cs_nil, cs_cons, lc_lt, lc_ge, lc_gt, lc_le, lc_eq, q174, hb, lo, m_dig, t1.1, en, am_un, am_ue] using this
theorem m_numL {a b : Int} (hX : MX f B N) (hN : N ≤ 1600) (h0 : 0 ≤ p) (h1 : p ≤ N) (hP : PP f B N p) (hb : f 270 5 = 0) (hk : tK B N p = 2) (hl : 4 < tE B N p - tS B N p) : aw_cl (d + 1) 174 [(110, 270), (0, a), (0, b)] f Q = Q (0, 0) (am_up (am_up (am_up f 270 2 (tS B N p + 4)) 270 5 1) 270 6 (tS B N p + 4)) := by
  have lo := fun (dd : Nat) (QQ : am_V → am_F → Prop) => m_look (d := dd) (Q := QQ) hX hN h0 h1 hP.1
  obtain ⟨⟨x1, x2⟩, x3, x4⟩ := hX
  have e0 := fx_270_0 x1
  have hs := tS_b (B := B) h1
  have t1 := (tK_s (s := 2) (Or.inr rfl) hP h1).mp hk
  have tr := tE_r (Or.inr rfl) hk h1
  have en : ¬ tS B N p = f 270 4 := fun q => t1.2 q.symm
  have dg : ∀ q, tS B N p ≤ q → q < tE B N p → 48 ≤ B q ∧ B q ≤ 57 := fun q a b => srt_2i.mp (tr.2.2.1 q a b)
  have key : ∀ (j : Nat) (q v : Int), q + j = tS B N p + 4 → tS B N p ≤ q → 0 ≤ v → v ≤ 100000 → (j = 4 → v ≤ 0) → (j = 3 → v ≤ 9) → (j = 2 → v ≤ 99) → (j = 1 → v ≤ 999) → aw_wp (d + 1) 174 49 [(110, 270), (0, a), (0, b), (0, tS B N p), (0, v)] [] (am_up f 270 2 q) (fun v g => v = (0, 0) ∧ g = am_up (am_up (am_up f 270 2 (tS B N p + 4)) 270 5 1) 270 6 (tS B N p + 4)) := by
    intro j
    induction j with
    | zero =>
      intro q v hq hsq v0 v1 _ _ _ _
      have : q = tS B N p + 4 := by omega
      subst this
      have hf : (am_up f 270 2 (tS B N p + 4)) 270 5 = 0 := by rw [am_un (by omega)]; exact hb
      have d2 := tr.2.2.1 (tS B N p + 4) (by omega) (by omega)
      have n4 : am_wI (tS B N p + 4 - tS B N p) = 4 := by rw [am_wid2 (by omega) (by omega)]; omega
      rw [r174_49]
      simp (disch := omega) [r174_50, r174_53, r174_54, r174_57, r174_60, r174_61, r174_64, r174_65, r174_68, r174_69, r174_72, r174_75, r174_76, r174_79, r174_80, r174_81, r174_82, r174_85, r174_86, r174_87, r174_88, r174_91, r174_94, r174_95, r174_96, r174_98, r174_100, r174_101, r174_102, r174_105, r174_106, r174_109, r174_110, r174_111, r174_113, r174_114, r174_116, r174_117, r174_118, r174_121, r174_122, r174_123, r174_126, cs_nil, cs_cons, lc_lt, lc_ge, lc_gt, lc_le, lc_eq, e0, x3, x4, ln_271, m_dig, d2, n4, m_fail hf, am_un, am_ue, le_T, lt_T, le_F, lt_F]
    | succ j ih =>
      intro q v hq hsq v0 v1 b4 b3 b2 b1
      have d1 := dg q hsq (by omega)
      have d2 := tr.2.2.1 q hsq (by omega)
      have ih' := ih (q + 1) (10 * v + B q - 48) (by omega) (by omega) (by omega) (by omega) (by omega) (by omega) (by omega) (by omega)
      have n4 : ¬ q - tS B N p = 4 := by omega
      rw [r174_49]
      simpa (disch := omega) [r174_50, r174_53, r174_54, r174_57, r174_60, r174_61, r174_64, r174_65, r174_68, r174_69, r174_72, r174_75, r174_76, r174_79, r174_80, r174_81, r174_82, r174_85, r174_86, r174_87, r174_88, r174_91, r174_94, r174_95, r174_96, r174_98, r174_100, r174_101, r174_102, r174_105, r174_106, r174_109, r174_110, r174_111, r174_113, r174_114, r174_116, r174_117, r174_118, r174_121, r174_122, r174_123, r174_126, cs_nil, cs_cons, lc_lt, lc_ge, lc_gt, lc_le, lc_eq, e0, x3, x4, ln_271, m_dig, d2, n4, am_un, am_ue, am_uu, am_wid2, le_T, lt_T, le_F, lt_F] using ih'
  apply aw_det
  have := key 4 (tS B N p) 0 (by omega) (by omega) (by omega) (by omega) (by omega) (by omega) (by omega) (by omega)
  simpa (disch := omega) [r174_0, r174_1, r174_4, r174_7, r174_8, r174_9, r174_10, r174_13, r174_16, r174_19, r174_20, r174_23, r174_24, r174_27, r174_30, r174_31, r174_32, r174_33, r174_36, r174_39, r174_40, r174_41, r174_42, r174_45, r174_46, r174_47, cs_nil, cs_cons, lc_lt, lc_ge, lc_gt, lc_le, lc_eq, q174, hb, lo, m_dig, t1.1, en, am_un, am_ue] using this
end
