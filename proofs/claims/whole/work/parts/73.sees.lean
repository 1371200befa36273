/-! see, tells -/
section
variable {d n m r : Nat} {f L z : am_F} {ρ : Int → List Int} {τ : Int → Bool} {l : Int} {Z : Int → am_F} {Q : am_V → am_F → Prop}
theorem OC_nS {l c j : Int} (hl : l = 1 ∨ l = 20) (h : OC c j) : ¬ SC l c j := (by intro q; rcases q with q | q | q | q | q | q | q | q | q | q | q | q | q | q | q | q | q | q | q | q | q | q | q | q <;> omega)
theorem IW_t0 (h : IW f n m r L ρ τ z l Z) {k : am_F} (fr : ∀ c j : Int, ¬ SC l c j → ¬ ((c = 14 ∧ j = 1) ∨ (c = 270 ∧ j = 1) ∨ c = 269 ∨ c = 272) → k c j = f c j) (h14 : k 14 1 = 0) (h270 : k 270 1 = 0) (rf : RF k) : IW k n m r L ρ τ z l Z := by
  obtain ⟨a, _, _, tp, _, pc, fs, _⟩ := id h
  have hl := a.2.2.1
  have q : ∀ c j : Int, OC c j → ¬ ((c = 14 ∧ j = 1) ∨ (c = 270 ∧ j = 1) ∨ c = 269 ∨ c = 272) → k c j = f c j := fun c j h1 h2 => fr c j (OC_nS hl h1) h2
  refine IW_o h (fun c j h1 h2 => fr c j h1 (fun e => h2 (by omega))) ⟨by rw [h270, h14], by omega, fun j => ?_⟩ rf (PC_fr pc (q _ _ (by omega) (by omega)) (q _ _ (by omega) (by omega)) (fun j => q _ _ (by omega) (by omega)) (fun j => q _ _ (by omega) (by omega))) (FS_fr fs (fun j _ => q _ _ (by omega) (by omega)) (fun j _ => q _ _ (by omega) (by omega)))
  rw [q 271 j (by omega) (by omega), q 15 j (by omega) (by omega)]
  exact tp.2.2 j
theorem m_seeI {B : Int → Int} {P : Nat → Bool} {s D : Nat} {t st i : Int} (hx : f 270 0 = 271 ∧ f 270 63 = 315) (hB : ∀ j, f 271 j = B j) (hv : dvs B s 0 0 = true) (hs : 1 ≤ s) (hs2 : s ≤ 20) (hD : (D : Int) = B ((s - 1 : Nat) : Int)) (hi : 0 ≤ i) (hi2 : i < 10) (hD30 : D ≤ 30) (hP : ∀ x : Int, 1 ≤ x → x ≤ D → f 315 (31 * i + x) = if P x.toNat = true then 1 else 0) : ∀ (j y k : Nat) (x : am_V), y + j = D + 1 → 1 ≤ y → (∀ u : Nat, u < k → B u < y) → (∀ u : Nat, k ≤ u → u < s → (y : Int) ≤ B u) → (∀ x : Int, aw_wp d 268 142 [(110, 270), (0, t), (0, (s : Int)), (0, st), (0, i), (0, if cq (fun x => (sn B s).testBit x == P x) D = true then 1 else 0), (0, x), (0, (D : Int) + 1), (0, 0)] [] f Q ∧ aw_wp d 268 142 [(110, 270), (0, t), (0, (s : Int)), (0, st), (0, i), (0, if cq (fun x => (sn B s).testBit x == P x) D = true then 1 else 0), (0, x), (0, (D : Int) + 1), (0, 1)] [] f Q ∧ aw_wp d 268 142 [(110, 270), (0, t), (0, (s : Int)), (0, st), (0, i), (0, if cq (fun x => (sn B s).testBit x == P x) D = true then 1 else 0), (0, x), (0, (D : Int) + 1), (2, 0)] [] f Q) → (x = (0, 0) ∨ x = (0, 1) ∨ x = (2, 0)) → aw_wp d 268 66 [(110, 270), (0, t), (0, (s : Int)), (0, st), (0, i), (0, if cq (fun x => (sn B s).testBit x == P x) (y - 1) = true then 1 else 0), (0, (k : Int)), (0, (y : Int)), x] [] f Q := by
  intro j
  have e1 : (s : Int) - 1 = ((s - 1 : Nat) : Int) := by omega
  induction j with
  | zero =>
    intro y k x h1 h2 h3 h4 hQ hx3
    obtain rfl : y = D + 1 := by omega
    have hq := hQ (k : Int)
    rw [r268_66]
    rw [show D + 1 - 1 = D by omega]
    rcases hx3 with rfl | rfl | rfl
    · simpa (disch := omega) [r268_68, r268_69, r268_72, r268_73, r268_74, r268_75, r268_76, hx, hB, ln_271, am_wid2, e1, ← hD, le_T, lt_T, le_F, lt_F] using hq.1
    · simpa (disch := omega) [r268_68, r268_69, r268_72, r268_73, r268_74, r268_75, r268_76, hx, hB, ln_271, am_wid2, e1, ← hD, le_T, lt_T, le_F, lt_F] using hq.2.1
    · simpa (disch := omega) [r268_68, r268_69, r268_72, r268_73, r268_74, r268_75, r268_76, hx, hB, ln_271, am_wid2, e1, ← hD, le_T, lt_T, le_F, lt_F] using hq.2.2
  | succ j ih =>
    intro y k x h1 h2 h3 h4 hQ hx3
    have hks : k < s := by
      by_cases hc : k < s
      · exact hc
      · have := h3 (s - 1) (by omega); omega
    have eP := hP y (by omega) (by omega)
    rw [Int.toNat_natCast] at eP
    have ecq : cq (fun x => (sn B s).testBit x == P x) y = (cq (fun x => (sn B s).testBit x == P x) (y - 1) && ((sn B s).testBit y == P y)) := by
      obtain ⟨y', rfl⟩ : ∃ y', y = y' + 1 := ⟨y - 1, by omega⟩
      rfl
    have etb : (sn B s).testBit y = decide (B k = y) := by
      apply Bool.eq_iff_iff.mpr
      rw [decide_eq_true_eq, sn_bit]
      constructor
      · rintro ⟨u, hu, e⟩
        have hu1 := dvs_m s 0 0 hv u (by omega) (by omega)
        by_cases huk : u = k
        · rw [← huk]; omega
        · by_cases h5 : u < k
          · have := h3 u h5; omega
          · have h6 := dvs_inc hv (u - k) k (by omega)
            rw [show k + (u - k) = u by omega] at h6
            have := h4 k (by omega) hks
            omega
      · intro e
        exact ⟨k, hks, by omega⟩
    have kb : (k : Int) < 1600 := by omega
    have st31 : 0 ≤ 31 * i + (y : Int) ∧ 31 * i + (y : Int) < 310 := by omega
    have step : ∀ (b : Int) (k' : Nat) (vx : Int), (b = if cq (fun x => (sn B s).testBit x == P x) y = true then 1 else 0) → (vx = 0 ∨ vx = 1) → (∀ u : Nat, u < k' → B u < (y + 1 : Nat)) → (∀ u : Nat, k' ≤ u → u < s → ((y + 1 : Nat) : Int) ≤ B u) → aw_wp d 268 66 [(110, 270), (0, t), (0, (s : Int)), (0, st), (0, i), (0, b), (0, (k' : Int)), (0, (y : Int) + 1), (0, vx)] [] f Q := by
      intro b k' vx hb hvx i1 i2
      have := ih (y + 1) k' (0, vx) (by omega) (by omega) i1 i2 hQ (by rcases hvx with rfl | rfl <;> simp)
      rw [show y + 1 - 1 = y by omega, ← hb] at this
      exact this
    rw [r268_66]
    have hx3' : ∃ tx vx, x = (tx, vx) := ⟨x.1, x.2, rfl⟩
    obtain ⟨tx, vx, rfl⟩ := hx3'
    by_cases hB1 : B k = y
    · have i1 : ∀ u : Nat, u < k + 1 → B u < (y + 1 : Nat) := fun u hu => by
        by_cases huk : u = k
        · rw [huk]; omega
        · have := h3 u (by omega); omega
      have i2 : ∀ u : Nat, k + 1 ≤ u → u < s → ((y + 1 : Nat) : Int) ≤ B u := fun u hu hus => by
        have h6 := dvs_inc hv (u - k) k (by omega)
        rw [show k + (u - k) = u by omega] at h6
        omega
      rw [hB1, decide_eq_true rfl] at etb
      by_cases hc : cq (fun x => (sn B s).testBit x == P x) (y - 1) = true
      · by_cases hp : P y = true
        · have := step 1 (k + 1) 1 (by rw [ecq, hc, etb, hp]; rfl) (by omega) i1 i2
          rw [Int.natCast_add] at this
          rw [if_pos hp] at eP
          simpa (disch := omega) [q268, r268_0, r268_1, r268_4, r268_5, r268_6, r268_7, r268_10, r268_11, r268_12, r268_15, r268_18, r268_19, r268_20, r268_23, r268_26, r268_27, r268_28, r268_31, r268_32, r268_33, r268_34, r268_35, r268_36, r268_37, r268_40, r268_41, r268_42, r268_43, r268_44, r268_47, r268_48, r268_52, r268_54, r268_57, r268_58, r268_60, r268_61, r268_63, r268_64, r268_68, r268_69, r268_72, r268_73, r268_74, r268_75, r268_76, r268_79, r268_80, r268_83, r268_85, r268_86, r268_88, r268_91, r268_92, r268_95, r268_96, r268_98, r268_100, r268_103, r268_106, r268_108, r268_111, r268_113, r268_114, r268_117, r268_119, r268_121, r268_122, r268_124, r268_125, r268_126, r268_129, r268_130, r268_133, r268_134, r268_136, r268_139, r268_142, r268_144, r268_147, r268_148, r268_149, r268_151, r268_152, r268_153, r268_154, r268_157, r268_160, r268_161, cs_nil, cs_cons, lc_lt, lc_ge, lc_gt, lc_le, lc_eq, hx, hB, hB1, ln_271, ln_315, am_wid2, e1, ← hD, le_T, lt_T, le_F, lt_F, hc, eP] using this
        · have := step 0 (k + 1) 1 (by rw [ecq, hc, etb, Bool.eq_false_iff.mpr hp]; rfl) (by omega) i1 i2
          rw [Int.natCast_add] at this
          rw [if_neg hp] at eP
          simpa (disch := omega) [q268, r268_0, r268_1, r268_4, r268_5, r268_6, r268_7, r268_10, r268_11, r268_12, r268_15, r268_18, r268_19, r268_20, r268_23, r268_26, r268_27, r268_28, r268_31, r268_32, r268_33, r268_34, r268_35, r268_36, r268_37, r268_40, r268_41, r268_42, r268_43, r268_44, r268_47, r268_48, r268_52, r268_54, r268_57, r268_58, r268_60, r268_61, r268_63, r268_64, r268_68, r268_69, r268_72, r268_73, r268_74, r268_75, r268_76, r268_79, r268_80, r268_83, r268_85, r268_86, r268_88, r268_91, r268_92, r268_95, r268_96, r268_98, r268_100, r268_103, r268_106, r268_108, r268_111, r268_113, r268_114, r268_117, r268_119, r268_121, r268_122, r268_124, r268_125, r268_126, r268_129, r268_130, r268_133, r268_134, r268_136, r268_139, r268_142, r268_144, r268_147, r268_148, r268_149, r268_151, r268_152, r268_153, r268_154, r268_157, r268_160, r268_161, cs_nil, cs_cons, lc_lt, lc_ge, lc_gt, lc_le, lc_eq, hx, hB, hB1, ln_271, ln_315, am_wid2, e1, ← hD, le_T, lt_T, le_F, lt_F, hc, eP] using this
      · have := step 0 (k + 1) 1 (by rw [ecq, Bool.eq_false_iff.mpr hc]; rfl) (by omega) i1 i2
        rw [Int.natCast_add] at this
        simpa (disch := omega) [q268, r268_0, r268_1, r268_4, r268_5, r268_6, r268_7, r268_10, r268_11, r268_12, r268_15, r268_18, r268_19, r268_20, r268_23, r268_26, r268_27, r268_28, r268_31, r268_32, r268_33, r268_34, r268_35, r268_36, r268_37, r268_40, r268_41, r268_42, r268_43, r268_44, r268_47, r268_48, r268_52, r268_54, r268_57, r268_58, r268_60, r268_61, r268_63, r268_64, r268_68, r268_69, r268_72, r268_73, r268_74, r268_75, r268_76, r268_79, r268_80, r268_83, r268_85, r268_86, r268_88, r268_91, r268_92, r268_95, r268_96, r268_98, r268_100, r268_103, r268_106, r268_108, r268_111, r268_113, r268_114, r268_117, r268_119, r268_121, r268_122, r268_124, r268_125, r268_126, r268_129, r268_130, r268_133, r268_134, r268_136, r268_139, r268_142, r268_144, r268_147, r268_148, r268_149, r268_151, r268_152, r268_153, r268_154, r268_157, r268_160, r268_161, cs_nil, cs_cons, lc_lt, lc_ge, lc_gt, lc_le, lc_eq, hx, hB, hB1, ln_271, ln_315, am_wid2, e1, ← hD, le_T, lt_T, le_F, lt_F, hc] using this
    · have hlt : (y : Int) < B k := by have := h4 k (by omega) hks; omega
      have i1 : ∀ u : Nat, u < k → B u < (y + 1 : Nat) := fun u hu => by have := h3 u hu; omega
      have i2 : ∀ u : Nat, k ≤ u → u < s → ((y + 1 : Nat) : Int) ≤ B u := fun u hu hus => by
        have h6 := dvs_inc hv (u - k) k (by omega)
        rw [show k + (u - k) = u by omega] at h6
        omega
      rw [decide_eq_false hB1] at etb
      by_cases hc : cq (fun x => (sn B s).testBit x == P x) (y - 1) = true
      · by_cases hp : P y = true
        · have := step 0 k 0 (by rw [ecq, hc, etb, hp]; rfl) (by omega) i1 i2
          rw [if_pos hp] at eP
          simpa (disch := omega) [q268, r268_0, r268_1, r268_4, r268_5, r268_6, r268_7, r268_10, r268_11, r268_12, r268_15, r268_18, r268_19, r268_20, r268_23, r268_26, r268_27, r268_28, r268_31, r268_32, r268_33, r268_34, r268_35, r268_36, r268_37, r268_40, r268_41, r268_42, r268_43, r268_44, r268_47, r268_48, r268_52, r268_54, r268_57, r268_58, r268_60, r268_61, r268_63, r268_64, r268_68, r268_69, r268_72, r268_73, r268_74, r268_75, r268_76, r268_79, r268_80, r268_83, r268_85, r268_86, r268_88, r268_91, r268_92, r268_95, r268_96, r268_98, r268_100, r268_103, r268_106, r268_108, r268_111, r268_113, r268_114, r268_117, r268_119, r268_121, r268_122, r268_124, r268_125, r268_126, r268_129, r268_130, r268_133, r268_134, r268_136, r268_139, r268_142, r268_144, r268_147, r268_148, r268_149, r268_151, r268_152, r268_153, r268_154, r268_157, r268_160, r268_161, cs_nil, cs_cons, lc_lt, lc_ge, lc_gt, lc_le, lc_eq, hx, hB, hB1, ln_271, ln_315, am_wid2, e1, ← hD, le_T, lt_T, le_F, lt_F, hc, eP] using this
        · have := step 1 k 0 (by rw [ecq, hc, etb, Bool.eq_false_iff.mpr hp]; rfl) (by omega) i1 i2
          rw [if_neg hp] at eP
          simpa (disch := omega) [q268, r268_0, r268_1, r268_4, r268_5, r268_6, r268_7, r268_10, r268_11, r268_12, r268_15, r268_18, r268_19, r268_20, r268_23, r268_26, r268_27, r268_28, r268_31, r268_32, r268_33, r268_34, r268_35, r268_36, r268_37, r268_40, r268_41, r268_42, r268_43, r268_44, r268_47, r268_48, r268_52, r268_54, r268_57, r268_58, r268_60, r268_61, r268_63, r268_64, r268_68, r268_69, r268_72, r268_73, r268_74, r268_75, r268_76, r268_79, r268_80, r268_83, r268_85, r268_86, r268_88, r268_91, r268_92, r268_95, r268_96, r268_98, r268_100, r268_103, r268_106, r268_108, r268_111, r268_113, r268_114, r268_117, r268_119, r268_121, r268_122, r268_124, r268_125, r268_126, r268_129, r268_130, r268_133, r268_134, r268_136, r268_139, r268_142, r268_144, r268_147, r268_148, r268_149, r268_151, r268_152, r268_153, r268_154, r268_157, r268_160, r268_161, cs_nil, cs_cons, lc_lt, lc_ge, lc_gt, lc_le, lc_eq, hx, hB, hB1, ln_271, ln_315, am_wid2, e1, ← hD, le_T, lt_T, le_F, lt_F, hc, eP] using this
      · have := step 0 k 0 (by rw [ecq, Bool.eq_false_iff.mpr hc]; rfl) (by omega) i1 i2
        simpa (disch := omega) [q268, r268_0, r268_1, r268_4, r268_5, r268_6, r268_7, r268_10, r268_11, r268_12, r268_15, r268_18, r268_19, r268_20, r268_23, r268_26, r268_27, r268_28, r268_31, r268_32, r268_33, r268_34, r268_35, r268_36, r268_37, r268_40, r268_41, r268_42, r268_43, r268_44, r268_47, r268_48, r268_52, r268_54, r268_57, r268_58, r268_60, r268_61, r268_63, r268_64, r268_68, r268_69, r268_72, r268_73, r268_74, r268_75, r268_76, r268_79, r268_80, r268_83, r268_85, r268_86, r268_88, r268_91, r268_92, r268_95, r268_96, r268_98, r268_100, r268_103, r268_106, r268_108, r268_111, r268_113, r268_114, r268_117, r268_119, r268_121, r268_122, r268_124, r268_125, r268_126, r268_129, r268_130, r268_133, r268_134, r268_136, r268_139, r268_142, r268_144, r268_147, r268_148, r268_149, r268_151, r268_152, r268_153, r268_154, r268_157, r268_160, r268_161, cs_nil, cs_cons, lc_lt, lc_ge, lc_gt, lc_le, lc_eq, hx, hB, hB1, ln_271, ln_315, am_wid2, e1, ← hD, le_T, lt_T, le_F, lt_F, hc] using this
end
