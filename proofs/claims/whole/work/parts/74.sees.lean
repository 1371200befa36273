/-! see, tells -/
section
variable {d n m r : Nat} {f L z : am_F} {ρ : Int → List Int} {τ : Int → Bool} {l : Int} {Z : Int → am_F} {Q : am_V → am_F → Prop}
theorem c_isT2 (hx : f 0 6 = 46) (h9 : f 46 9 = l) (hn : f l 9 = n) (hl : 0 ≤ l) {t : Int} : aw_cl d 81 [(109, 0), (0, t)] f Q = Q (0, if 0 ≤ t ∧ t < n then 1 else 0) f := by
  apply aw_det
  by_cases h1 : 0 ≤ t
  · by_cases h2 : t < n
    · simp (disch := omega) [q81, r81_0, r81_1, r81_4, r81_5, r81_6, r81_9, r81_12, r81_15, r81_18, r81_19, r81_22, r81_23, cs_nil, cs_cons, lc_lt, lc_ge, lc_gt, lc_le, lc_eq, hx, h9, hn, hl, le_T, lt_T, le_F, lt_F]
    · simp (disch := omega) [q81, r81_0, r81_1, r81_4, r81_5, r81_6, r81_9, r81_12, r81_15, r81_18, r81_19, r81_22, r81_23, cs_nil, cs_cons, lc_lt, lc_ge, lc_gt, lc_le, lc_eq, hx, h9, hn, hl, le_T, lt_T, le_F, lt_F]
  · simp (disch := omega) [q81, r81_0, r81_1, r81_4, r81_5, r81_6, r81_9, r81_12, r81_15, r81_18, r81_19, r81_22, r81_23, cs_nil, cs_cons, lc_lt, lc_ge, lc_gt, lc_le, lc_eq, hx, h9, hn, hl, le_T, lt_T, le_F, lt_F]
theorem c_last {s : Nat} (hx : f 14 0 = 15) (hs : f 14 1 = s) (h16 : s ≤ 1600) : aw_cl d 126 [(108, 14)] f Q = Q (0, if s = 0 then 0 else f 15 ((s - 1 : Nat) : Int)) f := by
  apply aw_det
  by_cases h0 : s = 0
  · subst h0
    simp (disch := omega) [q126, r126_0, r126_1, r126_4, r126_7, r126_8, r126_11, r126_12, r126_15, r126_16, r126_17, r126_18, r126_21, r126_22, cs_nil, cs_cons, lc_lt, lc_ge, lc_gt, lc_le, lc_eq, hx, hs]
  · have e1 : (s : Int) - 1 = ((s - 1 : Nat) : Int) := by omega
    have h0' : ¬ (s : Int) ≤ 0 := by omega
    simp (disch := omega) [q126, r126_0, r126_1, r126_4, r126_7, r126_8, r126_11, r126_12, r126_15, r126_16, r126_17, r126_18, r126_21, r126_22, cs_nil, cs_cons, lc_lt, lc_ge, lc_gt, lc_le, lc_eq, hx, hs, h0, h0', am_wid2, e1, ln_15, le_T, lt_T, le_F, lt_F]
theorem m_seeO {B : Int → Int} {P : Int → Nat → Bool} {s D : Nat} {t : Int} (hx : f 270 0 = 271 ∧ f 270 63 = 315) (hB : ∀ j, f 271 j = B j) (hv : dvs B s 0 0 = true) (hs : 1 ≤ s) (hs2 : s ≤ 20) (hD : (D : Int) = B ((s - 1 : Nat) : Int)) (hD30 : D ≤ 30) (hP : ∀ i x : Int, 0 ≤ i → i < 10 → 1 ≤ x → x ≤ D → f 315 (31 * i + x) = if P i x.toNat = true then 1 else 0) (hQ : Q (0, (bm (fun i => cq (fun x => (sn B s).testBit x == P (i : Int) x) D) 10 : Int)) f) : ∀ (j i : Nat) (x5 x6 x7 x8 : am_V), i + j = 10 → (x8 = (0, 0) ∨ x8 = (0, 1) ∨ x8 = (2, 0)) → (x7 = (2, 0) ∨ x7 = (0, (D : Int) + 1)) → (x5 = (2, 0) ∨ x5 = (0, 0) ∨ x5 = (0, 1)) → (∃ v, x6 = (2, v) ∨ x6 = (0, v)) → aw_wp d 268 50 [(110, 270), (0, t), (0, (s : Int)), (0, (bm (fun i => cq (fun x => (sn B s).testBit x == P (i : Int) x) D) i : Int)), (0, (i : Int)), x5, x6, x7, x8] [] f Q := by
  intro j
  induction j with
  | zero =>
    intro i x5 x6 x7 x8 h1 h8 h7 h5 h6
    obtain ⟨t5, v5⟩ := x5
    obtain ⟨t6, v6⟩ := x6
    obtain ⟨t7, v7⟩ := x7
    obtain ⟨t8, v8⟩ := x8
    obtain rfl : i = 10 := by omega
    rw [r268_50]
    generalize bm (fun i => cq (fun x => (sn B s).testBit x == P (i : Int) x) D) 10 = w at hQ ⊢
    simpa (disch := omega) [q268, r268_0, r268_1, r268_4, r268_5, r268_6, r268_7, r268_10, r268_11, r268_12, r268_15, r268_18, r268_19, r268_20, r268_23, r268_26, r268_27, r268_28, r268_31, r268_32, r268_33, r268_34, r268_35, r268_36, r268_37, r268_40, r268_41, r268_42, r268_43, r268_44, r268_47, r268_48, r268_52, r268_54, r268_57, r268_58, r268_60, r268_61, r268_63, r268_64, r268_68, r268_69, r268_72, r268_73, r268_74, r268_75, r268_76, r268_79, r268_80, r268_83, r268_85, r268_86, r268_88, r268_91, r268_92, r268_95, r268_96, r268_98, r268_100, r268_103, r268_106, r268_108, r268_111, r268_113, r268_114, r268_117, r268_119, r268_121, r268_122, r268_124, r268_125, r268_126, r268_129, r268_130, r268_133, r268_134, r268_136, r268_139, r268_142, r268_144, r268_147, r268_148, r268_149, r268_151, r268_152, r268_153, r268_154, r268_157, r268_160, r268_161, cs_nil, cs_cons, lc_lt, lc_ge, lc_gt, lc_le, lc_eq] using hQ
  | succ j ih =>
    intro i x5 x6 x7 x8 h1 h8 h7 h5 h6
    have c1 : ¬ 10 ≤ i := by omega
    have go := m_seeI (Q := Q) (d := d) (P := P i) (t := t) (st := (bm (fun i => cq (fun x => (sn B s).testBit x == P (i : Int) x) D) i : Int)) (i := (i : Int)) hx hB hv hs hs2 hD (by omega) (by omega) hD30 (fun x a b => hP i x (by omega) (by omega) a b) D 1 0 x8 (by omega) (by omega) (fun u hu => by omega) (fun u _ hu => by have := dvs_m s 0 0 hv u (by omega) (by omega); omega) ?_ h8
    · obtain ⟨t5, v5⟩ := x5
      obtain ⟨v6, h6⟩ := h6
      obtain ⟨t8, v8⟩ := x8
      rw [r268_50]
      have t7 : ∃ a b, x7 = (a, b) ∧ ¬ a = 1 := by rcases h7 with rfl | rfl <;> exact ⟨_, _, rfl, by decide⟩
      obtain ⟨t7, v7, rfl, n7⟩ := t7
      have t6 : ∃ a, x6 = (a, v6) ∧ ¬ a = 1 := by rcases h6 with rfl | rfl <;> exact ⟨_, rfl, by decide⟩
      obtain ⟨t6, rfl, n6⟩ := t6
      simpa (disch := omega) [q268, r268_0, r268_1, r268_4, r268_5, r268_6, r268_7, r268_10, r268_11, r268_12, r268_15, r268_18, r268_19, r268_20, r268_23, r268_26, r268_27, r268_28, r268_31, r268_32, r268_33, r268_34, r268_35, r268_36, r268_37, r268_40, r268_41, r268_42, r268_43, r268_44, r268_47, r268_48, r268_52, r268_54, r268_57, r268_58, r268_60, r268_61, r268_63, r268_64, r268_68, r268_69, r268_72, r268_73, r268_74, r268_75, r268_76, r268_79, r268_80, r268_83, r268_85, r268_86, r268_88, r268_91, r268_92, r268_95, r268_96, r268_98, r268_100, r268_103, r268_106, r268_108, r268_111, r268_113, r268_114, r268_117, r268_119, r268_121, r268_122, r268_124, r268_125, r268_126, r268_129, r268_130, r268_133, r268_134, r268_136, r268_139, r268_142, r268_144, r268_147, r268_148, r268_149, r268_151, r268_152, r268_153, r268_154, r268_157, r268_160, r268_161, cs_nil, cs_cons, lc_lt, lc_ge, lc_gt, lc_le, lc_eq, le_F, lt_T, c1, cq, n6, n7] using go
    · intro x
      have fin : ∀ v8, (v8 = ((0 : Nat), (0 : Int)) ∨ v8 = (0, 1) ∨ v8 = (2, 0)) → ∀ x6 : Int, aw_wp d 268 142 [(110, 270), (0, t), (0, (s : Int)), (0, (bm (fun i => cq (fun x => (sn B s).testBit x == P (i : Int) x) D) i : Int)), (0, (i : Int)), (0, if cq (fun x => (sn B s).testBit x == P i x) D = true then 1 else 0), (0, x6), (0, (D : Int) + 1), v8] [] f Q := by
        intro v8 hv8 x6
        have ih' := fun x5 h5 => ih (i + 1) x5 (0, x6) (0, (D : Int) + 1) v8 (by omega) hv8 (Or.inr rfl) h5 ⟨x6, Or.inr rfl⟩
        obtain ⟨t8, w8⟩ := v8
        by_cases hc : cq (fun x => (sn B s).testBit x == P i x) D = true
        · have := ih' (0, 1) (by simp)
          rw [bm, if_pos hc, Int.natCast_add i] at this
          have hb := bm_set (p := fun i => cq (fun x => (sn B s).testBit x == P (i : Int) x) D) (n := i) (by omega)
          generalize hw : bm (fun i => cq (fun x => (sn B s).testBit x == P (i : Int) x) D) i = w at this hb ⊢
          rw [← hb] at this
          simpa (disch := omega) [q268, r268_0, r268_1, r268_4, r268_5, r268_6, r268_7, r268_10, r268_11, r268_12, r268_15, r268_18, r268_19, r268_20, r268_23, r268_26, r268_27, r268_28, r268_31, r268_32, r268_33, r268_34, r268_35, r268_36, r268_37, r268_40, r268_41, r268_42, r268_43, r268_44, r268_47, r268_48, r268_52, r268_54, r268_57, r268_58, r268_60, r268_61, r268_63, r268_64, r268_68, r268_69, r268_72, r268_73, r268_74, r268_75, r268_76, r268_79, r268_80, r268_83, r268_85, r268_86, r268_88, r268_91, r268_92, r268_95, r268_96, r268_98, r268_100, r268_103, r268_106, r268_108, r268_111, r268_113, r268_114, r268_117, r268_119, r268_121, r268_122, r268_124, r268_125, r268_126, r268_129, r268_130, r268_133, r268_134, r268_136, r268_139, r268_142, r268_144, r268_147, r268_148, r268_149, r268_151, r268_152, r268_153, r268_154, r268_157, r268_160, r268_161, cs_nil, cs_cons, lc_lt, lc_ge, lc_gt, lc_le, lc_eq, hc, am_wid2] using this
        · have := ih' (0, 0) (by simp)
          rw [bm, if_neg hc, Int.natCast_add i, Nat.add_zero] at this
          generalize hw : bm (fun i => cq (fun x => (sn B s).testBit x == P (i : Int) x) D) i = w at this ⊢
          simpa (disch := omega) [q268, r268_0, r268_1, r268_4, r268_5, r268_6, r268_7, r268_10, r268_11, r268_12, r268_15, r268_18, r268_19, r268_20, r268_23, r268_26, r268_27, r268_28, r268_31, r268_32, r268_33, r268_34, r268_35, r268_36, r268_37, r268_40, r268_41, r268_42, r268_43, r268_44, r268_47, r268_48, r268_52, r268_54, r268_57, r268_58, r268_60, r268_61, r268_63, r268_64, r268_68, r268_69, r268_72, r268_73, r268_74, r268_75, r268_76, r268_79, r268_80, r268_83, r268_85, r268_86, r268_88, r268_91, r268_92, r268_95, r268_96, r268_98, r268_100, r268_103, r268_106, r268_108, r268_111, r268_113, r268_114, r268_117, r268_119, r268_121, r268_122, r268_124, r268_125, r268_126, r268_129, r268_130, r268_133, r268_134, r268_136, r268_139, r268_142, r268_144, r268_147, r268_148, r268_149, r268_151, r268_152, r268_153, r268_154, r268_157, r268_160, r268_161, cs_nil, cs_cons, lc_lt, lc_ge, lc_gt, lc_le, lc_eq, hc, am_wid2] using this
      exact ⟨fin _ (Or.inl rfl) x, fin _ (Or.inr (Or.inl rfl)) x, fin _ (Or.inr (Or.inr rfl)) x⟩
theorem H_see (h : IW f n m r L ρ τ z l Z) {t : Int} : HC d 124 268 [(0, t)] 0 f := by
  unfold HC
  have hn := (iw_n h).1
  obtain ⟨aa, ⟨cb, cn⟩, ⟨mb, nm⟩, tp, rf, pc, fs, _, ps⟩ := id h
  obtain ⟨t1, t2, t3⟩ := id tp
  have hb : ∀ j, 0 ≤ f 15 j ∧ f 15 j ≤ 255 := fun j => (t3 j).2
  have e15 : f 271 = f 15 := by funext j; exact (t3 j).1
  have hl := aa.2.2.1
  have hl0 : 0 ≤ l := by omega
  have ho := cb.2.2.2.2.1
  obtain ⟨s, hs⟩ : ∃ s : Nat, f 14 1 = s := ⟨(f 14 1).toNat, by omega⟩
  have s16 : s ≤ 1600 := by omega
  have x14 : f 14 0 = 15 := fx_14_0 aa.1
  have hx0 : aw_fx (am_up f 14 1 0) := fun x hx => by rw [am_un (fun e => (fx_n hl hx).2 (Or.inr (Or.inl e)))]; exact aa.1 x hx
  have i0 := fun (dd : Nat) (QQ : am_V → am_F → Prop) => c_isT2 (d := dd) (Q := QQ) (f := am_up f 14 1 0) (l := l) (n := n) (t := t) (fx_0_6 hx0) ((am_un (by omega)).trans (iw_l h).2.1) ((am_un (by omega)).trans (iw_l h).2.2.1) hl0
  have d10 : am_up f 14 1 0 46 10 = z 0 0 := (am_un (by omega)).trans (iw_S h).1.2.2.2.2.2.2.2.2.2.1
  have seen := fun (dd : Nat) (QQ : am_V → am_F → Prop) => c_seen (d := dd) (Q := QQ) x14 hs s16 hb
  have lastB := fun (dd : Nat) (QQ : am_V → am_F → Prop) => c_last (d := dd) (Q := QQ) x14 hs s16
  have ref : ((1 ≤ s ∧ s ≤ 20) ∧ dvs (f 15) s 0 0 = true ∧ z 0 0 + f 15 ((s - 1 : Nat) : Int) ≤ 999 → ¬ (0 ≤ t ∧ t < n)) → aw_cl (d + 40) 268 [(110, 270), (0, t)] (am_up (am_up f 14 1 0) 269 1 (am_wI (f 269 1 + 1))) (fun w f2 => w = (0, -1) ∧ IV f2) := by
    intro hno
    have hB3 : MB (am_up (am_up (am_up f 14 1 0) 269 1 (am_wI (f 269 1 + 1))) 270 1 0) n m r L ρ τ z := MB_fr mb (fun c j _ _ => by rw [am_un (by omega), am_un (by omega), am_un (by omega)]) (fun j _ => by rw [am_un (by omega), am_un (by omega), am_un (by omega)])
    have e72 : (am_up (am_up (am_up f 14 1 0) 269 1 (am_wI (f 269 1 + 1))) 270 1 0) 271 = f 15 := by rw [am_ur (by omega), am_ur (by omega), am_ur (by omega)]; exact e15
    have ei := fun (dd : Nat) (QQ : am_V → am_F → Prop) => m_areDays (d := dd) (Q := QQ) (s := s) hB3 s16 (by rw [e72]; exact hb)
    rw [e72] at ei
    have hI : IV (am_up (am_up (am_up (am_up f 14 1 0) 269 1 (am_wI (f 269 1 + 1))) 270 1 0) 272 1 (am_wI (f 272 1 + 1))) := by
      refine (IW_t0 h (fun c j _ hc => ?_) ?_ ?_ (fun j => ?_)).iv
      · rw [am_un (by omega), am_un (by omega), am_un (by omega), am_un (by omega)]
      · rw [am_un (by omega), am_un (by omega), am_un (by omega), am_ue]
      · rw [am_un (by omega), am_ue]
      · by_cases hj : j = 1
        · subst hj
          rw [am_ue, am_un (by omega), am_un (by omega), am_ue, rf 1]
        · rw [am_un (by omega), am_un (by omega), am_un (by omega), am_un (by omega), am_un (by omega), am_un (by omega), am_un (by omega), am_un (by omega), rf j]
    have e1 : am_up (am_up f 14 1 0) 269 1 (am_wI (f 269 1 + 1)) 270 1 = s := by rw [am_un (by omega), am_un (by omega), t1, hs]
    by_cases hp : 0 ≤ t ∧ t < n
    · have hno' : ¬ ((1 ≤ s ∧ s ≤ 20) ∧ dvs (f 15) s 0 0 = true ∧ z 0 0 + f 15 ((s - 1 : Nat) : Int) ≤ 999) := fun q => hno q hp
      simp (disch := omega) [q268, r268_0, r268_1, r268_4, r268_5, r268_6, r268_7, r268_10, r268_11, r268_12, r268_15, r268_18, r268_19, r268_20, r268_23, r268_26, r268_27, r268_28, r268_31, r268_32, r268_33, r268_34, r268_35, r268_36, r268_37, r268_40, r268_41, r268_42, r268_43, r268_44, r268_47, r268_48, r268_52, r268_54, r268_57, r268_58, r268_60, r268_61, r268_63, r268_64, r268_68, r268_69, r268_72, r268_73, r268_74, r268_75, r268_76, r268_79, r268_80, r268_83, r268_85, r268_86, r268_88, r268_91, r268_92, r268_95, r268_96, r268_98, r268_100, r268_103, r268_106, r268_108, r268_111, r268_113, r268_114, r268_117, r268_119, r268_121, r268_122, r268_124, r268_125, r268_126, r268_129, r268_130, r268_133, r268_134, r268_136, r268_139, r268_142, r268_144, r268_147, r268_148, r268_149, r268_151, r268_152, r268_153, r268_154, r268_157, r268_160, r268_161, cs_nil, cs_cons, lc_lt, lc_ge, lc_gt, lc_le, lc_eq, e1, m_isT hB3, hp, ei, hno', m_refuse hB3.1.1, am_un, hI]
    · simp (disch := omega) [q268, r268_0, r268_1, r268_4, r268_5, r268_6, r268_7, r268_10, r268_11, r268_12, r268_15, r268_18, r268_19, r268_20, r268_23, r268_26, r268_27, r268_28, r268_31, r268_32, r268_33, r268_34, r268_35, r268_36, r268_37, r268_40, r268_41, r268_42, r268_43, r268_44, r268_47, r268_48, r268_52, r268_54, r268_57, r268_58, r268_60, r268_61, r268_63, r268_64, r268_68, r268_69, r268_72, r268_73, r268_74, r268_75, r268_76, r268_79, r268_80, r268_83, r268_85, r268_86, r268_88, r268_91, r268_92, r268_95, r268_96, r268_98, r268_100, r268_103, r268_106, r268_108, r268_111, r268_113, r268_114, r268_117, r268_119, r268_121, r268_122, r268_124, r268_125, r268_126, r268_129, r268_130, r268_133, r268_134, r268_136, r268_139, r268_142, r268_144, r268_147, r268_148, r268_149, r268_151, r268_152, r268_153, r268_154, r268_157, r268_160, r268_161, cs_nil, cs_cons, lc_lt, lc_ge, lc_gt, lc_le, lc_eq, e1, m_isT hB3, hp, m_refuse hB3.1.1, am_un, hI]
  by_cases hv : (1 ≤ s ∧ s ≤ 20) ∧ dvs (f 15) s 0 0 = true
  · have s0 : ¬ s = 0 := by omega
    have hm := dvs_m s 0 0 hv.2 ((s - 1 : Nat) : Int) (by omega) (by omega)
    have h20 : s ≤ 20 ∧ dvs (f 15) s 0 0 = true := ⟨hv.1.2, hv.2⟩
    obtain ⟨D, hD⟩ : ∃ D : Nat, (D : Int) = f 15 ((s - 1 : Nat) : Int) := ⟨(f 15 ((s - 1 : Nat) : Int)).toNat, by omega⟩
    have sn0 : ¬ sn (f 15) s = 0 := by
      intro e
      have hbit : (sn (f 15) s).testBit (f 15 ((s - 1 : Nat) : Int)).toNat = true := (sn_bit s).mpr ⟨s - 1, by omega, rfl⟩
      rw [e] at hbit
      simp at hbit
    by_cases hp : 0 ≤ t ∧ t < n
    · by_cases hd : z 0 0 + f 15 ((s - 1 : Nat) : Int) ≤ 999
      · have hC0 : CB (am_up f 14 1 0) 46 l n m r L ρ z := by
          refine ⟨?_, CL_fr cb.2.1 cb.2.2.2.1 (fun c j _ _ => am_un (by omega)), CZ_fr cb.2.2.1 (fun c j _ _ _ => am_un (by omega)), cb.2.2.2.1, cb.2.2.2.2⟩
          rw [am_un (by omega), am_un (by omega), am_un (by omega), am_un (by omega), am_un (by omega)]
          exact cb.1
        have hN0 : CN (am_up f 14 1 0) 46 z := CN_fr cn (fun i k _ _ => am_un (by omega)) (am_un (by omega)) (fun _ _ _ => rfl)
        rw [← hD] at hd
        simp (disch := omega) [q124, r124_0, r124_1, r124_4, r124_7, r124_8, r124_9, r124_12, r124_15, r124_16, r124_17, r124_20, r124_21, r124_24, r124_25, r124_28, r124_29, r124_30, r124_33, r124_36, r124_37, r124_40, r124_43, r124_44, r124_45, r124_48, r124_51, r124_52, r124_53, r124_56, r124_57, r124_58, r124_61, r124_62, r124_65, r124_66, r124_69, r124_70, r124_71, r124_74, r124_75, r124_78, r124_79, r124_82, cs_nil, cs_cons, lc_lt, lc_ge, lc_gt, lc_le, lc_eq, c_fx aa.1, seen, lastB, h20, s0, sn0, ← hD, am_un, i0, hp, (iw_S h).1.2.2.2.2.2.2.2.2.2.1, am_wid2, le_T, lt_T, le_F, lt_F]
        refine c_try (d := d + 31) hp.1 hp.2 (by omega) hd ⟨fx_40_0 hx0, fx_40_4 hx0⟩ (fx56 hx0) hC0 hN0 ?_
        intro g1 a1 a2 a3
        have y4 : g1 0 4 = 40 := (a3 _ _ (by omega)).trans (fx_0_4 hx0)
        have y44 : g1 40 4 = 44 := (a3 _ _ (by omega)).trans (fx_40_4 hx0)
        have cf := fun (dd : Nat) (QQ : am_V → am_F → Prop) => c_frails (d := dd) (Q := QQ) (s := sn (f 15) s) (P := fun i => brS L ρ n m z t i D) y44 a2
        simp (disch := omega) [q124, r124_0, r124_1, r124_4, r124_7, r124_8, r124_9, r124_12, r124_15, r124_16, r124_17, r124_20, r124_21, r124_24, r124_25, r124_28, r124_29, r124_30, r124_33, r124_36, r124_37, r124_40, r124_43, r124_44, r124_45, r124_48, r124_51, r124_52, r124_53, r124_56, r124_57, r124_58, r124_61, r124_62, r124_65, r124_66, r124_69, r124_70, r124_71, r124_74, r124_75, r124_78, r124_79, r124_82, cs_nil, cs_cons, lc_lt, lc_ge, lc_gt, lc_le, lc_eq, y4, cf]
        have g270 : ∀ c j : Int, 270 ≤ c → g1 c j = f c j := fun c j hc => (a3 c j (by omega)).trans (am_un (by omega))
        have hB3 : MB (am_up g1 270 1 0) n m r L ρ τ z := MB_fr mb (fun c j _ _ => by rw [am_un (by omega), g270 _ _ (by omega)]) (fun j _ => by rw [am_un (by omega), g270 _ _ (by omega)])
        have e72 : (am_up g1 270 1 0) 271 = f 15 := by rw [am_ur (by omega), ← e15]; funext j; exact g270 _ _ (by omega)
        have ei := fun (dd : Nat) (QQ : am_V → am_F → Prop) => m_areDays (d := dd) (Q := QQ) (s := s) hB3 s16 (by rw [e72]; exact hb)
        rw [e72] at ei
        have hok : (1 ≤ s ∧ s ≤ 20) ∧ dvs (f 15) s 0 0 = true ∧ z 0 0 + f 15 ((s - 1 : Nat) : Int) ≤ 999 := ⟨hv.1, hv.2, by omega⟩
        have e1 : g1 270 1 = s := by rw [g270 _ _ (by omega), t1, hs]
        have es1 : (s : Int) - 1 = ((s - 1 : Nat) : Int) := by omega
        have v71 : ∀ j, g1 271 j = f 15 j := fun j => by rw [g270 _ _ (by omega)]; exact congrFun e15 j
        simp (disch := omega) [q268, r268_0, r268_1, r268_4, r268_5, r268_6, r268_7, r268_10, r268_11, r268_12, r268_15, r268_18, r268_19, r268_20, r268_23, r268_26, r268_27, r268_28, r268_31, r268_32, r268_33, r268_34, r268_35, r268_36, r268_37, r268_40, r268_41, r268_42, r268_43, r268_44, r268_47, r268_48, r268_52, r268_54, r268_57, r268_58, r268_60, r268_61, r268_63, r268_64, r268_68, r268_69, r268_72, r268_73, r268_74, r268_75, r268_76, r268_79, r268_80, r268_83, r268_85, r268_86, r268_88, r268_91, r268_92, r268_95, r268_96, r268_98, r268_100, r268_103, r268_106, r268_108, r268_111, r268_113, r268_114, r268_117, r268_119, r268_121, r268_122, r268_124, r268_125, r268_126, r268_129, r268_130, r268_133, r268_134, r268_136, r268_139, r268_142, r268_144, r268_147, r268_148, r268_149, r268_151, r268_152, r268_153, r268_154, r268_157, r268_160, r268_161, cs_nil, cs_cons, lc_lt, lc_ge, lc_gt, lc_le, lc_eq, e1, m_isT hB3, hp, ei, hok, mfx_u hB3.1.1, ln_271, am_wid2, es1, am_un, v71, ← hD, le_T, lt_T]
        refine m_lays (d := d + 30) hp.1 hp.2 (by omega) hd hB3 (by rw [am_un (by omega), g270 _ _ (by omega)]; exact aa.2.2.2.2.2) (by rw [am_un (by omega), g270 _ _ (by omega)]; exact aa.2.2.2.2.1) ?_
        intro k1 b1 b2
        have kx : k1 270 0 = 271 ∧ k1 270 63 = 315 := ⟨(b2 _ _ (by omega)).trans hB3.1.1.1, (b2 _ _ (by omega)).trans (mfx_u hB3.1.1).2.2.2.2.2.2.2.2.2.2.2.2.2.2.2.2.1⟩
        have k71 : ∀ j, k1 271 j = f 15 j := fun j => (b2 _ _ (by omega)).trans (congrFun e72 j)
        simp (disch := omega) [q268, r268_0, r268_1, r268_4, r268_5, r268_6, r268_7, r268_10, r268_11, r268_12, r268_15, r268_18, r268_19, r268_20, r268_23, r268_26, r268_27, r268_28, r268_31, r268_32, r268_33, r268_34, r268_35, r268_36, r268_37, r268_40, r268_41, r268_42, r268_43, r268_44, r268_47, r268_48, r268_52, r268_54, r268_57, r268_58, r268_60, r268_61, r268_63, r268_64, r268_68, r268_69, r268_72, r268_73, r268_74, r268_75, r268_76, r268_79, r268_80, r268_83, r268_85, r268_86, r268_88, r268_91, r268_92, r268_95, r268_96, r268_98, r268_100, r268_103, r268_106, r268_108, r268_111, r268_113, r268_114, r268_117, r268_119, r268_121, r268_122, r268_124, r268_125, r268_126, r268_129, r268_130, r268_133, r268_134, r268_136, r268_139, r268_142, r268_144, r268_147, r268_148, r268_149, r268_151, r268_152, r268_153, r268_154, r268_157, r268_160, r268_161, cs_nil, cs_cons, lc_lt, lc_ge, lc_gt, lc_le, lc_eq]
        have hI : IV k1 := by
          refine (IW_t0 h (fun c j hc hc2 => ?_) ?_ ?_ (RF_fr rf (fun j => ?_) (fun j => ?_))).iv
          · have q := SC_n hc
            rw [b2 _ _ (by omega), am_un (by omega)]
            by_cases h56 : c = 56
            · subst h56
              exact sS_eq56 (fx56 aa.1) a1 (by omega) (by omega)
            · rw [a3 _ _ (by omega), am_un (by omega)]
          · rw [b2 _ _ (by omega), am_un (by omega), a3 _ _ (by omega), am_ue]
          · rw [b2 _ _ (by omega), am_ue]
          · rw [b2 _ _ (by omega), am_un (by omega), g270 _ _ (by omega)]
          · rw [b2 _ _ (by omega), am_un (by omega), a3 _ _ (by omega), am_un (by omega)]
        have := m_seeO (d := d + 40) (Q := fun w f2 => w = (0, (bm (fun i => decide (brS L ρ n m z t (i : Int) D = sn (f 15) s)) 10 : Int)) ∧ IV f2) (P := fun i x => brF L ρ n m z t i x) (t := t) kx k71 hv.2 hv.1.1 hv.1.2 hD (by omega) b1 ⟨by rw [bm_ext 10 (fun i _ => (see_eq (L := L) (ρ := ρ) (n := n) (m := m) (z := z) (t := t) (i := (i : Int)) hv.2 hv.1.1 hD).symm)], hI⟩ 10 0 (2, 0) (2, 0) (2, 0) (2, 0) (by omega) (by simp) (by simp) (by simp) ⟨0, by simp⟩
        simpa [bm] using this
      · have r0 := ref (fun q => absurd q.2.2 hd)
        simp (disch := omega) [q124, r124_0, r124_1, r124_4, r124_7, r124_8, r124_9, r124_12, r124_15, r124_16, r124_17, r124_20, r124_21, r124_24, r124_25, r124_28, r124_29, r124_30, r124_33, r124_36, r124_37, r124_40, r124_43, r124_44, r124_45, r124_48, r124_51, r124_52, r124_53, r124_56, r124_57, r124_58, r124_61, r124_62, r124_65, r124_66, r124_69, r124_70, r124_71, r124_74, r124_75, r124_78, r124_79, r124_82, cs_nil, cs_cons, lc_lt, lc_ge, lc_gt, lc_le, lc_eq, c_fx aa.1, seen, lastB, h20, s0, sn0, am_un, i0, hp, (iw_S h).1.2.2.2.2.2.2.2.2.2.1, am_wid2, le_T, lt_T, le_F, lt_F, c_refuse hx0]
        exact r0
    · have r0 := ref (fun _ => hp)
      simp (disch := omega) [q124, r124_0, r124_1, r124_4, r124_7, r124_8, r124_9, r124_12, r124_15, r124_16, r124_17, r124_20, r124_21, r124_24, r124_25, r124_28, r124_29, r124_30, r124_33, r124_36, r124_37, r124_40, r124_43, r124_44, r124_45, r124_48, r124_51, r124_52, r124_53, r124_56, r124_57, r124_58, r124_61, r124_62, r124_65, r124_66, r124_69, r124_70, r124_71, r124_74, r124_75, r124_78, r124_79, r124_82, cs_nil, cs_cons, lc_lt, lc_ge, lc_gt, lc_le, lc_eq, c_fx aa.1, seen, lastB, h20, s0, sn0, am_un, i0, hp, c_refuse hx0]
      exact r0
  · have r0 := ref (fun q => absurd ⟨q.1, q.2.1⟩ hv)
    have e0 : (if s ≤ 20 ∧ dvs (f 15) s 0 0 = true then (sn (f 15) s : Int) else 0) = 0 := by
      split
      · rename_i hq
        have : s = 0 := by
          by_cases q0 : s = 0
          · exact q0
          · exact absurd ⟨⟨by omega, hq.1⟩, hq.2⟩ hv
        rw [this]; rfl
      · rfl
    simp (disch := omega) only [q124, r124_0, r124_1, r124_4, r124_7, r124_8, r124_9, r124_12, r124_15, r124_16, r124_17, r124_20, r124_21, r124_24, r124_25, r124_28, r124_29, r124_30, r124_33, r124_36, r124_37, r124_40, r124_43, r124_44, r124_45, r124_48, r124_51, r124_52, r124_53, r124_56, r124_57, r124_58, r124_61, r124_62, r124_65, r124_66, r124_69, r124_70, r124_71, r124_74, r124_75, r124_78, r124_79, r124_82, cs_nil, cs_cons, lc_lt, lc_ge, lc_gt, lc_le, lc_eq, c_fx aa.1, seen, lastB, e0, am_un]
    simp (disch := omega) [q124, r124_0, r124_1, r124_4, r124_7, r124_8, r124_9, r124_12, r124_15, r124_16, r124_17, r124_20, r124_21, r124_24, r124_25, r124_28, r124_29, r124_30, r124_33, r124_36, r124_37, r124_40, r124_43, r124_44, r124_45, r124_48, r124_51, r124_52, r124_53, r124_56, r124_57, r124_58, r124_61, r124_62, r124_65, r124_66, r124_69, r124_70, r124_71, r124_74, r124_75, r124_78, r124_79, r124_82, cs_nil, cs_cons, lc_lt, lc_ge, lc_gt, lc_le, lc_eq, c_fx aa.1, seen, lastB, e0, am_un, c_refuse hx0]
    exact r0
end
