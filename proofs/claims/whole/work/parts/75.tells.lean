/-! tells -/
def cnt (P : Int → Nat → Bool) (x : Nat) : Nat → Nat
  | 0 => 0
  | i + 1 => cnt P x i + if P i x = true then 1 else 0
theorem cnt_b {P : Int → Nat → Bool} {x : Nat} : ∀ i, cnt P x i ≤ i
  | 0 => Nat.le_refl 0
  | i + 1 => by
    have := cnt_b (P := P) (x := x) i
    rw [cnt]
    split <;> omega
def lfd (P : Int → Nat → Bool) (x : Nat) : Int := if (10 : Int) - cnt P x 10 ≤ cnt P x 10 then (cnt P x 10 : Int) else 10 - cnt P x 10
theorem lfd_b {P : Int → Nat → Bool} {x : Nat} : 0 ≤ lfd P x ∧ lfd P x ≤ 10 := by
  have := cnt_b (P := P) (x := x) 10
  unfold lfd
  split <;> omega
def tld (P : Int → Nat → Bool) : Nat → Int × Int
  | 0 => (-1, 11)
  | k + 1 => if lfd P (k + 1) < (tld P k).2 then ((k : Int) + 1, lfd P (k + 1)) else tld P k
theorem tld_b {P : Int → Nat → Bool} : ∀ k, 0 ≤ (tld P k).2 ∧ (tld P k).2 ≤ 11 ∧ (1 ≤ k → (tld P k).2 ≤ 10 ∧ 1 ≤ (tld P k).1)
  | 0 => by simp [tld]
  | k + 1 => by
    have h := tld_b (P := P) k
    have hb := lfd_b (P := P) (x := k + 1)
    rw [tld]
    split
    · refine ⟨hb.1, by show lfd P (k + 1) ≤ 11; omega, fun _ => ⟨hb.2, by show 1 ≤ (k : Int) + 1; omega⟩⟩
    · refine ⟨h.1, h.2.1, fun _ => ?_⟩
      by_cases hk : k = 0
      · subst hk
        simp [tld] at *
        omega
      · exact h.2.2 (by omega)
section
variable {d n m r : Nat} {f L z : am_F} {ρ : Int → List Int} {τ : Int → Bool} {l : Int} {Z : Int → am_F} {Q : am_V → am_F → Prop}
theorem c_telling {P : Int → Nat → Bool} {S : Int → Nat} (hx : f 40 4 = 44) (hS : ∀ i : Int, 0 ≤ i → i < 10 → f 44 i = (S i : Int)) (hb : ∀ i : Int, 0 ≤ i → i < 10 → S i < 2147483648) (hP : ∀ (i : Int) (x : Nat), 0 ≤ i → i < 10 → 1 ≤ x → x ≤ 30 → (S i).testBit x = P i x) (hQ : ∀ g, g 40 7 = (tld P 30).1 → g 40 8 = (tld P 30).2 → (∀ c j : Int, ¬ (c = 40 ∧ (j = 7 ∨ j = 8)) → g c j = f c j) → Q (3, 0) g) : aw_cl (d + 1) 130 [(103, 40)] f Q := by
  have inner : ∀ (x : Nat) (g : am_F), 1 ≤ x → x ≤ 30 → (∀ c j : Int, ¬ (c = 40 ∧ (j = 7 ∨ j = 8)) → g c j = f c j) → ∀ (j i : Nat) , i + j = 10 → aw_wp (d + 1) 130 43 [(103, 40), (0, (x : Int)), (0, (cnt P x 10 : Int)), (0, 10)] [] g Q → aw_wp (d + 1) 130 18 [(103, 40), (0, (x : Int)), (0, (cnt P x i : Int)), (0, (i : Int))] [] g Q := by
    intro x g x1 x30 hg j
    induction j with
    | zero =>
      intro i hi hq
      obtain rfl : i = 10 := by omega
      rw [r130_18]
      simpa (disch := omega) [r130_19, r130_21] using hq
    | succ j ih =>
      intro i hi hq
      have ih' := ih (i + 1) (by omega) hq
      have c1 : ¬ 10 ≤ i := by omega
      have y4 : g 40 4 = 44 := (hg _ _ (by omega)).trans hx
      have yv : g 44 i = (S i : Int) := (hg _ _ (by omega)).trans (hS i (by omega) (by omega))
      have bt := bit_n (a := S i) (t := x) (hb i (by omega) (by omega)) (by omega)
      rw [hP i x (by omega) (by omega) x1 x30] at bt
      have cb := cnt_b (P := P) (x := x) i
      rw [Int.natCast_add i] at ih'
      rw [r130_18]
      by_cases hp : P i x = true
      · rw [cnt, if_pos hp, Int.natCast_add (cnt P x i)] at ih'
        rw [if_pos hp] at bt
        simpa (disch := omega) [q130, r130_0, r130_1, r130_3, r130_6, r130_7, r130_9, r130_11, r130_14, r130_15, r130_16, r130_17, r130_19, r130_21, r130_24, r130_25, r130_26, r130_29, r130_30, r130_31, r130_32, r130_33, r130_34, r130_35, r130_36, r130_37, r130_40, r130_43, r130_44, r130_46, r130_47, r130_48, r130_51, r130_52, r130_53, r130_54, r130_57, r130_60, r130_61, r130_62, r130_65, r130_66, r130_67, r130_70, r130_73, r130_76, cs_nil, cs_cons, lc_lt, lc_ge, lc_gt, lc_le, lc_eq, y4, yv, ln_44, am_wid2, bt, c1, le_T, lt_T, le_F, lt_F] using ih'
      · rw [cnt, if_neg hp, Nat.add_zero] at ih'
        rw [if_neg hp] at bt
        simpa (disch := omega) [q130, r130_0, r130_1, r130_3, r130_6, r130_7, r130_9, r130_11, r130_14, r130_15, r130_16, r130_17, r130_19, r130_21, r130_24, r130_25, r130_26, r130_29, r130_30, r130_31, r130_32, r130_33, r130_34, r130_35, r130_36, r130_37, r130_40, r130_43, r130_44, r130_46, r130_47, r130_48, r130_51, r130_52, r130_53, r130_54, r130_57, r130_60, r130_61, r130_62, r130_65, r130_66, r130_67, r130_70, r130_73, r130_76, cs_nil, cs_cons, lc_lt, lc_ge, lc_gt, lc_le, lc_eq, y4, yv, ln_44, am_wid2, bt, c1, le_T, lt_T, le_F, lt_F] using ih'
  have outer : ∀ (j x : Nat) (g : am_F) (a b : am_V), x + j = 31 → 1 ≤ x → (2 ≤ x → g 40 7 = (tld P (x - 1)).1) → g 40 8 = (tld P (x - 1)).2 → (∀ c j : Int, ¬ (c = 40 ∧ (j = 7 ∨ j = 8)) → g c j = f c j) → aw_wp (d + 1) 130 8 [(103, 40), (0, (x : Int)), a, b] [] g Q := by
    intro j
    induction j with
    | zero =>
      intro x g a b h1 h2 h3 h4 h5
      obtain ⟨ta, va⟩ := a
      obtain ⟨tb, vb⟩ := b
      obtain rfl : x = 31 := by omega
      have := hQ g (h3 (by omega)) h4 h5
      rw [r130_8]
      simpa (disch := omega) [q130, r130_0, r130_1, r130_3, r130_6, r130_7, r130_9, r130_11, r130_14, r130_15, r130_16, r130_17, r130_19, r130_21, r130_24, r130_25, r130_26, r130_29, r130_30, r130_31, r130_32, r130_33, r130_34, r130_35, r130_36, r130_37, r130_40, r130_43, r130_44, r130_46, r130_47, r130_48, r130_51, r130_52, r130_53, r130_54, r130_57, r130_60, r130_61, r130_62, r130_65, r130_66, r130_67, r130_70, r130_73, r130_76, cs_nil, cs_cons, lc_lt, lc_ge, lc_gt, lc_le, lc_eq] using this
    | succ j ih =>
      intro x g a b h1 h2 h3 h4 h5
      obtain ⟨ta, va⟩ := a
      obtain ⟨tb, vb⟩ := b
      have tb1 := tld_b (P := P) (x - 1)
      have cb := cnt_b (P := P) (x := x) 10
      have etl : tld P x = if lfd P x < (tld P (x - 1)).2 then ((x : Int), lfd P x) else tld P (x - 1) := by
        obtain ⟨x', rfl⟩ : ∃ x', x = x' + 1 := ⟨x - 1, by omega⟩
        rw [tld]
        simp
      have lb := lfd_b (P := P) (x := x)
      have fin : aw_wp (d + 1) 130 43 [(103, 40), (0, (x : Int)), (0, (cnt P x 10 : Int)), (0, 10)] [] g Q := by
        have el : lfd P x = (if (10 : Int) - cnt P x 10 ≤ cnt P x 10 then (cnt P x 10 : Int) else 10 - cnt P x 10) := rfl
        simp (disch := omega) [q130, r130_0, r130_1, r130_3, r130_6, r130_7, r130_9, r130_11, r130_14, r130_15, r130_16, r130_17, r130_19, r130_21, r130_24, r130_25, r130_26, r130_29, r130_30, r130_31, r130_32, r130_33, r130_34, r130_35, r130_36, r130_37, r130_40, r130_43, r130_44, r130_46, r130_47, r130_48, r130_51, r130_52, r130_53, r130_54, r130_57, r130_60, r130_61, r130_62, r130_65, r130_66, r130_67, r130_70, r130_73, r130_76, cs_nil, cs_cons, lc_lt, lc_ge, lc_gt, lc_le, lc_eq, am_wid2, h_max, ← el, h4]
        by_cases hc : lfd P x < (tld P (x - 1)).2
        · have ih' := ih (x + 1) (am_up (am_up g 40 8 (lfd P x)) 40 7 x) (0, (cnt P x 10 : Int)) (0, lfd P x) (by omega) (by omega) (fun _ => by rw [am_ue, show x + 1 - 1 = x by omega, etl, if_pos hc]) (by rw [am_un (by omega), am_ue, show x + 1 - 1 = x by omega, etl, if_pos hc]) (fun c j hc => by rw [am_un (by omega), am_un (by omega), h5 _ _ hc])
          rw [Int.natCast_add x] at ih'
          refine ⟨fun q => absurd q (by omega), fun _ => ?_⟩
          simpa (disch := omega) [q130, r130_0, r130_1, r130_3, r130_6, r130_7, r130_9, r130_11, r130_14, r130_15, r130_16, r130_17, r130_19, r130_21, r130_24, r130_25, r130_26, r130_29, r130_30, r130_31, r130_32, r130_33, r130_34, r130_35, r130_36, r130_37, r130_40, r130_43, r130_44, r130_46, r130_47, r130_48, r130_51, r130_52, r130_53, r130_54, r130_57, r130_60, r130_61, r130_62, r130_65, r130_66, r130_67, r130_70, r130_73, r130_76, cs_nil, cs_cons, lc_lt, lc_ge, lc_gt, lc_le, lc_eq, am_wid2] using ih'
        · have ih' := ih (x + 1) g (0, (cnt P x 10 : Int)) (0, lfd P x) (by omega) (by omega) (fun _ => ?_) (by rw [show x + 1 - 1 = x by omega, etl, if_neg hc]; exact h4) h5
          · rw [Int.natCast_add x] at ih'
            refine ⟨fun _ => ?_, fun q => absurd q (by omega)⟩
            simpa (disch := omega) [q130, r130_0, r130_1, r130_3, r130_6, r130_7, r130_9, r130_11, r130_14, r130_15, r130_16, r130_17, r130_19, r130_21, r130_24, r130_25, r130_26, r130_29, r130_30, r130_31, r130_32, r130_33, r130_34, r130_35, r130_36, r130_37, r130_40, r130_43, r130_44, r130_46, r130_47, r130_48, r130_51, r130_52, r130_53, r130_54, r130_57, r130_60, r130_61, r130_62, r130_65, r130_66, r130_67, r130_70, r130_73, r130_76, cs_nil, cs_cons, lc_lt, lc_ge, lc_gt, lc_le, lc_eq, am_wid2] using ih'
          · rw [show x + 1 - 1 = x by omega, etl, if_neg hc]
            by_cases hx1 : x = 1
            · subst hx1
              simp [tld] at hc
              omega
            · exact h3 (by omega)
      have := inner x g h2 (by omega) h5 10 0 (by omega) fin
      rw [r130_8]
      simpa (disch := omega) [q130, r130_0, r130_1, r130_3, r130_6, r130_7, r130_9, r130_11, r130_14, r130_15, r130_16, r130_17, r130_19, r130_21, r130_24, r130_25, r130_26, r130_29, r130_30, r130_31, r130_32, r130_33, r130_34, r130_35, r130_36, r130_37, r130_40, r130_43, r130_44, r130_46, r130_47, r130_48, r130_51, r130_52, r130_53, r130_54, r130_57, r130_60, r130_61, r130_62, r130_65, r130_66, r130_67, r130_70, r130_73, r130_76, cs_nil, cs_cons, lc_lt, lc_ge, lc_gt, lc_le, lc_eq, le_T, lt_T, le_F, lt_F, cnt] using this
  have := outer 30 1 (am_up f 40 8 11) (2, 0) (2, 0) (by omega) (by omega) (fun q => by omega) am_ue (fun c j hc => am_un (by omega))
  simpa [q130, r130_0, r130_1, r130_3, r130_6, r130_7, r130_9, r130_11, r130_14, r130_15, r130_16, r130_17, r130_19, r130_21, r130_24, r130_25, r130_26, r130_29, r130_30, r130_31, r130_32, r130_33, r130_34, r130_35, r130_36, r130_37, r130_40, r130_43, r130_44, r130_46, r130_47, r130_48, r130_51, r130_52, r130_53, r130_54, r130_57, r130_60, r130_61, r130_62, r130_65, r130_66, r130_67, r130_70, r130_73, r130_76, cs_nil, cs_cons, lc_lt, lc_ge, lc_gt, lc_le, lc_eq] using this
theorem m_tellL {P : Int → Nat → Bool} {t w : Int} (hx : f 270 63 = 315) (hP : ∀ i x : Int, 0 ≤ i → i < 10 → 1 ≤ x → x ≤ 30 → f 315 (31 * i + x) = if P i x.toNat = true then 1 else 0) (hQ : Q (0, if w = 0 then (tld P 30).1 else (tld P 30).2) f) : ∀ (j x : Nat) (b c : Int) (u v : am_V), x + j = 31 → 1 ≤ x → (x = 1 → b = -1 ∧ c = 0) → (2 ≤ x → b = (tld P (x - 1)).1 ∧ c = (tld P (x - 1)).2) → aw_wp d 272 48 [(110, 270), (0, t), (0, w), (0, b), (0, c), (0, (x : Int)), u, v] [] f Q := by
  have inner : ∀ (x : Nat) (b c : Int), 1 ≤ x → x ≤ 30 → ∀ (j i : Nat) , i + j = 10 → aw_wp d 272 93 [(110, 270), (0, t), (0, w), (0, b), (0, c), (0, (x : Int)), (0, (cnt P x 10 : Int)), (0, 10)] [] f Q → aw_wp d 272 61 [(110, 270), (0, t), (0, w), (0, b), (0, c), (0, (x : Int)), (0, (cnt P x i : Int)), (0, (i : Int))] [] f Q := by
    intro x b c x1 x30 j
    induction j with
    | zero =>
      intro i hi hq
      obtain rfl : i = 10 := by omega
      rw [r272_61]
      simpa (disch := omega) [r272_63, r272_65] using hq
    | succ j ih =>
      intro i hi hq
      have ih' := ih (i + 1) (by omega) hq
      have c1 : ¬ 10 ≤ i := by omega
      have yv := hP i x (by omega) (by omega) (by omega) (by omega)
      rw [Int.toNat_natCast] at yv
      have cb := cnt_b (P := P) (x := x) i
      rw [Int.natCast_add i] at ih'
      rw [r272_61]
      by_cases hp : P i x = true
      · rw [cnt, if_pos hp, Int.natCast_add (cnt P x i)] at ih'
        rw [if_pos hp] at yv
        simpa (disch := omega) [q272, r272_0, r272_1, r272_2, r272_5, r272_8, r272_9, r272_10, r272_11, r272_12, r272_15, r272_18, r272_19, r272_21, r272_23, r272_25, r272_28, r272_31, r272_32, r272_33, r272_34, r272_35, r272_37, r272_40, r272_41, r272_42, r272_43, r272_45, r272_46, r272_50, r272_52, r272_55, r272_56, r272_58, r272_59, r272_63, r272_65, r272_68, r272_69, r272_72, r272_74, r272_76, r272_77, r272_79, r272_80, r272_81, r272_84, r272_87, r272_90, r272_93, r272_95, r272_97, r272_99, r272_100, r272_103, r272_105, r272_108, r272_110, r272_112, r272_113, r272_115, r272_116, r272_117, r272_120, r272_122, r272_124, r272_127, r272_130, r272_132, r272_133, r272_135, r272_137, r272_140, r272_143, r272_144, r272_147, r272_148, r272_151, r272_153, cs_nil, cs_cons, lc_lt, lc_ge, lc_gt, lc_le, lc_eq, hx, yv, ln_315, am_wid2, c1, le_T, lt_T, le_F, lt_F] using ih'
      · rw [cnt, if_neg hp, Nat.add_zero] at ih'
        rw [if_neg hp] at yv
        simpa (disch := omega) [q272, r272_0, r272_1, r272_2, r272_5, r272_8, r272_9, r272_10, r272_11, r272_12, r272_15, r272_18, r272_19, r272_21, r272_23, r272_25, r272_28, r272_31, r272_32, r272_33, r272_34, r272_35, r272_37, r272_40, r272_41, r272_42, r272_43, r272_45, r272_46, r272_50, r272_52, r272_55, r272_56, r272_58, r272_59, r272_63, r272_65, r272_68, r272_69, r272_72, r272_74, r272_76, r272_77, r272_79, r272_80, r272_81, r272_84, r272_87, r272_90, r272_93, r272_95, r272_97, r272_99, r272_100, r272_103, r272_105, r272_108, r272_110, r272_112, r272_113, r272_115, r272_116, r272_117, r272_120, r272_122, r272_124, r272_127, r272_130, r272_132, r272_133, r272_135, r272_137, r272_140, r272_143, r272_144, r272_147, r272_148, r272_151, r272_153, cs_nil, cs_cons, lc_lt, lc_ge, lc_gt, lc_le, lc_eq, hx, yv, ln_315, am_wid2, c1, le_T, lt_T, le_F, lt_F] using ih'
  intro j
  induction j with
  | zero =>
    intro x b c u v h1 h2 h3 h4
    obtain ⟨tu, vu⟩ := u
    obtain ⟨tv, vv⟩ := v
    have hx31 : x = 31 := by omega
    have e4 := h4 (by omega)
    rw [show x - 1 = 30 by omega] at e4
    rw [hx31, e4.1, e4.2]
    generalize tld P 30 = q at hQ
    rw [r272_48]
    by_cases hw : w = 0
    · rw [if_pos hw] at hQ
      simpa (disch := omega) [q272, r272_0, r272_1, r272_2, r272_5, r272_8, r272_9, r272_10, r272_11, r272_12, r272_15, r272_18, r272_19, r272_21, r272_23, r272_25, r272_28, r272_31, r272_32, r272_33, r272_34, r272_35, r272_37, r272_40, r272_41, r272_42, r272_43, r272_45, r272_46, r272_50, r272_52, r272_55, r272_56, r272_58, r272_59, r272_63, r272_65, r272_68, r272_69, r272_72, r272_74, r272_76, r272_77, r272_79, r272_80, r272_81, r272_84, r272_87, r272_90, r272_93, r272_95, r272_97, r272_99, r272_100, r272_103, r272_105, r272_108, r272_110, r272_112, r272_113, r272_115, r272_116, r272_117, r272_120, r272_122, r272_124, r272_127, r272_130, r272_132, r272_133, r272_135, r272_137, r272_140, r272_143, r272_144, r272_147, r272_148, r272_151, r272_153, cs_nil, cs_cons, lc_lt, lc_ge, lc_gt, lc_le, lc_eq, hw] using hQ
    · rw [if_neg hw] at hQ
      simpa (disch := omega) [q272, r272_0, r272_1, r272_2, r272_5, r272_8, r272_9, r272_10, r272_11, r272_12, r272_15, r272_18, r272_19, r272_21, r272_23, r272_25, r272_28, r272_31, r272_32, r272_33, r272_34, r272_35, r272_37, r272_40, r272_41, r272_42, r272_43, r272_45, r272_46, r272_50, r272_52, r272_55, r272_56, r272_58, r272_59, r272_63, r272_65, r272_68, r272_69, r272_72, r272_74, r272_76, r272_77, r272_79, r272_80, r272_81, r272_84, r272_87, r272_90, r272_93, r272_95, r272_97, r272_99, r272_100, r272_103, r272_105, r272_108, r272_110, r272_112, r272_113, r272_115, r272_116, r272_117, r272_120, r272_122, r272_124, r272_127, r272_130, r272_132, r272_133, r272_135, r272_137, r272_140, r272_143, r272_144, r272_147, r272_148, r272_151, r272_153, cs_nil, cs_cons, lc_lt, lc_ge, lc_gt, lc_le, lc_eq, hw] using hQ
  | succ j ih =>
    intro x b c u v h1 h2 h3 h4
    obtain ⟨tu, vu⟩ := u
    obtain ⟨tv, vv⟩ := v
    have cb := cnt_b (P := P) (x := x) 10
    have etl : tld P x = if lfd P x < (tld P (x - 1)).2 then ((x : Int), lfd P x) else tld P (x - 1) := by
      obtain ⟨x', rfl⟩ : ∃ x', x = x' + 1 := ⟨x - 1, by omega⟩
      rw [tld]
      simp
    have lb := lfd_b (P := P) (x := x)
    have el : ∀ q : Prop, (10 - (cnt P x 10 : Int) < cnt P x 10 → lfd P x = cnt P x 10) ∧ (¬ 10 - (cnt P x 10 : Int) < cnt P x 10 → lfd P x = 10 - cnt P x 10) := by
      intro _
      unfold lfd
      constructor
      · intro q; rw [if_pos (by omega)]
      · intro q
        split
        · omega
        · rfl
    have fin2 : aw_wp d 272 115 [(110, 270), (0, t), (0, w), (0, b), (0, c), (0, (x : Int)), (0, (cnt P x 10 : Int)), (0, lfd P x)] [] f Q := by
      by_cases hx1 : x = 1
      · obtain ⟨rfl, rfl⟩ := h3 hx1
        have ih' := ih (x + 1) x (lfd P x) (0, (cnt P x 10 : Int)) (0, lfd P x) (by omega) (by omega) (fun q => by omega) (fun _ => by
          rw [show x + 1 - 1 = x by omega, etl, if_pos (by rw [hx1]; have := lb.2; rw [hx1] at this; simp [tld]; omega)]
          exact ⟨rfl, rfl⟩)
        rw [Int.natCast_add x] at ih'
        simpa (disch := omega) [q272, r272_0, r272_1, r272_2, r272_5, r272_8, r272_9, r272_10, r272_11, r272_12, r272_15, r272_18, r272_19, r272_21, r272_23, r272_25, r272_28, r272_31, r272_32, r272_33, r272_34, r272_35, r272_37, r272_40, r272_41, r272_42, r272_43, r272_45, r272_46, r272_50, r272_52, r272_55, r272_56, r272_58, r272_59, r272_63, r272_65, r272_68, r272_69, r272_72, r272_74, r272_76, r272_77, r272_79, r272_80, r272_81, r272_84, r272_87, r272_90, r272_93, r272_95, r272_97, r272_99, r272_100, r272_103, r272_105, r272_108, r272_110, r272_112, r272_113, r272_115, r272_116, r272_117, r272_120, r272_122, r272_124, r272_127, r272_130, r272_132, r272_133, r272_135, r272_137, r272_140, r272_143, r272_144, r272_147, r272_148, r272_151, r272_153, cs_nil, cs_cons, lc_lt, lc_ge, lc_gt, lc_le, lc_eq, am_wid2] using ih'
      · obtain ⟨rfl, rfl⟩ := h4 (by omega)
        have tb1 := (tld_b (P := P) (x - 1)).2.2 (by omega)
        have nb : ¬ (tld P (x - 1)).1 = -1 := by omega
        by_cases hc : lfd P x < (tld P (x - 1)).2
        · have ih' := ih (x + 1) x (lfd P x) (0, (cnt P x 10 : Int)) (0, lfd P x) (by omega) (by omega) (fun q => by omega) (fun _ => by
            rw [show x + 1 - 1 = x by omega, etl, if_pos hc]
            exact ⟨rfl, rfl⟩)
          rw [Int.natCast_add x] at ih'
          simpa (disch := omega) [q272, r272_0, r272_1, r272_2, r272_5, r272_8, r272_9, r272_10, r272_11, r272_12, r272_15, r272_18, r272_19, r272_21, r272_23, r272_25, r272_28, r272_31, r272_32, r272_33, r272_34, r272_35, r272_37, r272_40, r272_41, r272_42, r272_43, r272_45, r272_46, r272_50, r272_52, r272_55, r272_56, r272_58, r272_59, r272_63, r272_65, r272_68, r272_69, r272_72, r272_74, r272_76, r272_77, r272_79, r272_80, r272_81, r272_84, r272_87, r272_90, r272_93, r272_95, r272_97, r272_99, r272_100, r272_103, r272_105, r272_108, r272_110, r272_112, r272_113, r272_115, r272_116, r272_117, r272_120, r272_122, r272_124, r272_127, r272_130, r272_132, r272_133, r272_135, r272_137, r272_140, r272_143, r272_144, r272_147, r272_148, r272_151, r272_153, cs_nil, cs_cons, lc_lt, lc_ge, lc_gt, lc_le, lc_eq, am_wid2, nb, hc, le_T, lt_T, le_F, lt_F] using ih'
        · have ih' := ih (x + 1) (tld P (x - 1)).1 (tld P (x - 1)).2 (0, (cnt P x 10 : Int)) (0, lfd P x) (by omega) (by omega) (fun q => by omega) (fun _ => by
            rw [show x + 1 - 1 = x by omega, etl, if_neg hc]
            exact ⟨rfl, rfl⟩)
          rw [Int.natCast_add x] at ih'
          simpa (disch := omega) [q272, r272_0, r272_1, r272_2, r272_5, r272_8, r272_9, r272_10, r272_11, r272_12, r272_15, r272_18, r272_19, r272_21, r272_23, r272_25, r272_28, r272_31, r272_32, r272_33, r272_34, r272_35, r272_37, r272_40, r272_41, r272_42, r272_43, r272_45, r272_46, r272_50, r272_52, r272_55, r272_56, r272_58, r272_59, r272_63, r272_65, r272_68, r272_69, r272_72, r272_74, r272_76, r272_77, r272_79, r272_80, r272_81, r272_84, r272_87, r272_90, r272_93, r272_95, r272_97, r272_99, r272_100, r272_103, r272_105, r272_108, r272_110, r272_112, r272_113, r272_115, r272_116, r272_117, r272_120, r272_122, r272_124, r272_127, r272_130, r272_132, r272_133, r272_135, r272_137, r272_140, r272_143, r272_144, r272_147, r272_148, r272_151, r272_153, cs_nil, cs_cons, lc_lt, lc_ge, lc_gt, lc_le, lc_eq, am_wid2, nb, hc, le_T, lt_T, le_F, lt_F] using ih'
    have fin : aw_wp d 272 93 [(110, 270), (0, t), (0, w), (0, b), (0, c), (0, (x : Int)), (0, (cnt P x 10 : Int)), (0, 10)] [] f Q := by
      by_cases hq : 10 - (cnt P x 10 : Int) < cnt P x 10
      · rw [(el True).1 hq] at fin2
        simpa (disch := omega) [r272_93, r272_95, r272_97, r272_99, r272_100, r272_103, r272_105, r272_108, r272_110, r272_112, r272_113, am_wid2, le_T, lt_T, le_F, lt_F] using fin2
      · rw [(el True).2 hq] at fin2
        simpa (disch := omega) [r272_93, r272_95, r272_97, r272_99, r272_100, r272_103, r272_105, r272_108, r272_110, r272_112, r272_113, am_wid2, le_T, lt_T, le_F, lt_F] using fin2
    have := inner x b c h2 (by omega) 10 0 (by omega) fin
    rw [r272_48]
    simpa (disch := omega) [q272, r272_0, r272_1, r272_2, r272_5, r272_8, r272_9, r272_10, r272_11, r272_12, r272_15, r272_18, r272_19, r272_21, r272_23, r272_25, r272_28, r272_31, r272_32, r272_33, r272_34, r272_35, r272_37, r272_40, r272_41, r272_42, r272_43, r272_45, r272_46, r272_50, r272_52, r272_55, r272_56, r272_58, r272_59, r272_63, r272_65, r272_68, r272_69, r272_72, r272_74, r272_76, r272_77, r272_79, r272_80, r272_81, r272_84, r272_87, r272_90, r272_93, r272_95, r272_97, r272_99, r272_100, r272_103, r272_105, r272_108, r272_110, r272_112, r272_113, r272_115, r272_116, r272_117, r272_120, r272_122, r272_124, r272_127, r272_130, r272_132, r272_133, r272_135, r272_137, r272_140, r272_143, r272_144, r272_147, r272_148, r272_151, r272_153, cs_nil, cs_cons, lc_lt, lc_ge, lc_gt, lc_le, lc_eq, le_T, lt_T, le_F, lt_F, cnt] using this
theorem H_tells (h : IW f n m r L ρ τ z l Z) {t w : Int} : HC d 129 272 [(0, t), (0, w)] 0 f := by
  unfold HC
  have hn := (iw_n h).1
  obtain ⟨aa, ⟨cb, cn⟩, ⟨mb, nm⟩, _⟩ := id h
  have ho := cb.2.2.2.2.1
  have hi := h.iv
  have sz := (iw_S h).1.2.2.2.2.2.2.2.2.2.1
  by_cases hp : 0 ≤ t ∧ t < n
  · by_cases hd : z 0 0 + 30 ≤ 999
    · by_cases hw : 0 ≤ w ∧ w ≤ 1
      · simp (disch := omega) [q129, r129_0, r129_1, r129_2, r129_5, r129_8, r129_9, r129_12, r129_15, r129_17, r129_18, r129_21, r129_24, r129_25, r129_28, r129_29, r129_30, r129_33, r129_34, r129_35, r129_36, r129_39, r129_40, r129_43, r129_44, r129_47, r129_48, r129_50, r129_53, r129_54, r129_57, r129_60, r129_61, r129_64, r129_65, r129_68, r129_71, r129_74, r129_75, r129_78, r129_81, cs_nil, cs_cons, lc_lt, lc_ge, lc_gt, lc_le, lc_eq, c_fx aa.1, c_isT h, hp, sz, am_wid2, le_T, lt_T, le_F, lt_F]
        refine c_try (d := d + 31) (D := 30) hp.1 hp.2 (by omega) (by omega) ⟨fx_40_0 aa.1, fx_40_4 aa.1⟩ (fx56 aa.1) cb cn ?_
        intro g1 a1 a2 a3
        have y4 : g1 0 4 = 40 := (a3 _ _ (by omega)).trans (fx_0_4 aa.1)
        have y44 : g1 40 4 = 44 := (a3 _ _ (by omega)).trans (fx_40_4 aa.1)
        simp (disch := omega) [q129, r129_0, r129_1, r129_2, r129_5, r129_8, r129_9, r129_12, r129_15, r129_17, r129_18, r129_21, r129_24, r129_25, r129_28, r129_29, r129_30, r129_33, r129_34, r129_35, r129_36, r129_39, r129_40, r129_43, r129_44, r129_47, r129_48, r129_50, r129_53, r129_54, r129_57, r129_60, r129_61, r129_64, r129_65, r129_68, r129_71, r129_74, r129_75, r129_78, r129_81, cs_nil, cs_cons, lc_lt, lc_ge, lc_gt, lc_le, lc_eq, y4]
        refine c_telling (P := fun i x => brF L ρ n m z t i x) (S := fun i => brS L ρ n m z t i 30) y44 a2 (fun i _ _ => bm_31 (by omega)) (fun i x _ _ x1 x30 => ?_) ?_
        · show (bm _ 31).testBit x = _
          rw [bm_bit]
          simp [show x < 31 by omega, show 0 < x by omega]
        · intro g2 b1 b2 b3
          have z4 : g2 0 4 = 40 := (b3 _ _ (by omega)).trans y4
          have g270 : ∀ c j : Int, 270 ≤ c → g2 c j = f c j := fun c j hc => (b3 c j (by omega)).trans (a3 c j (by omega))
          have hB2 : MB g2 n m r L ρ τ z := MB_fr mb (fun c j _ _ => g270 _ _ (by omega)) (fun j _ => g270 _ _ (by omega))
          have s2 : sS g2 56 := sS_fr a1 (fun j _ _ => b3 _ _ (by omega))
          have hh : (30 : Int) ≤ 30 ∧ (30 : Int) ≤ 30 ∧ z 0 0 + 30 ≤ 999 := ⟨by omega, by omega, hd⟩
          have fin : aw_cl (d + 40) 272 [(110, 270), (0, t), (0, w)] g2 (fun u f2 => u = (0, if w = 0 then (tld (fun i x => brF L ρ n m z t i x) 30).1 else (tld (fun i x => brF L ρ n m z t i x) 30).2) ∧ IV f2) := by
            simp (disch := omega) [q272, r272_0, r272_1, r272_2, r272_5, r272_8, r272_9, r272_10, r272_11, r272_12, r272_15, r272_18, r272_19, r272_21, r272_23, r272_25, r272_28, r272_31, r272_32, r272_33, r272_34, r272_35, r272_37, r272_40, r272_41, r272_42, r272_43, r272_45, r272_46, r272_50, r272_52, r272_55, r272_56, r272_58, r272_59, r272_63, r272_65, r272_68, r272_69, r272_72, r272_74, r272_76, r272_77, r272_79, r272_80, r272_81, r272_84, r272_87, r272_90, r272_93, r272_95, r272_97, r272_99, r272_100, r272_103, r272_105, r272_108, r272_110, r272_112, r272_113, r272_115, r272_116, r272_117, r272_120, r272_122, r272_124, r272_127, r272_130, r272_132, r272_133, r272_135, r272_137, r272_140, r272_143, r272_144, r272_147, r272_148, r272_151, r272_153, cs_nil, cs_cons, lc_lt, lc_ge, lc_gt, lc_le, lc_eq, m_isT hB2, hp, h_isIn, hw, m_ahead hB2, hd]
            refine m_lays (d := d + 30) (D := 30) hp.1 hp.2 (by omega) (by omega) hB2 (by rw [g270 _ _ (by omega)]; exact aa.2.2.2.2.2) (by rw [g270 _ _ (by omega)]; exact aa.2.2.2.2.1) ?_
            intro k1 c1 c2
            have hI : IV k1 := (IW_sp (g := g2) h (fun c j hc => by rw [b3 _ _ (by omega), a3 _ _ (by omega)]) s2 (fun c j hc => by have q := SC_n hc; exact c2 c j (by omega))).iv
            have kx : k1 270 63 = 315 := (c2 _ _ (by omega)).trans (mfx_u hB2.1.1).2.2.2.2.2.2.2.2.2.2.2.2.2.2.2.2.1
            have := m_tellL (d := d + 40) (Q := fun u f2 => u = (0, if w = 0 then (tld (fun i x => brF L ρ n m z t i x) 30).1 else (tld (fun i x => brF L ρ n m z t i x) 30).2) ∧ IV f2) (P := fun i x => brF L ρ n m z t i x) (t := t) (w := w) kx c1 ⟨rfl, hI⟩ 30 1 (-1) 0 (2, 0) (2, 0) (by omega) (by omega) (fun _ => ⟨rfl, rfl⟩) (fun q => by omega)
            simpa (disch := omega) [q272, r272_0, r272_1, r272_2, r272_5, r272_8, r272_9, r272_10, r272_11, r272_12, r272_15, r272_18, r272_19, r272_21, r272_23, r272_25, r272_28, r272_31, r272_32, r272_33, r272_34, r272_35, r272_37, r272_40, r272_41, r272_42, r272_43, r272_45, r272_46, r272_50, r272_52, r272_55, r272_56, r272_58, r272_59, r272_63, r272_65, r272_68, r272_69, r272_72, r272_74, r272_76, r272_77, r272_79, r272_80, r272_81, r272_84, r272_87, r272_90, r272_93, r272_95, r272_97, r272_99, r272_100, r272_103, r272_105, r272_108, r272_110, r272_112, r272_113, r272_115, r272_116, r272_117, r272_120, r272_122, r272_124, r272_127, r272_130, r272_132, r272_133, r272_135, r272_137, r272_140, r272_143, r272_144, r272_147, r272_148, r272_151, r272_153, cs_nil, cs_cons, lc_lt, lc_ge, lc_gt, lc_le, lc_eq] using this
          by_cases w0 : w = 0
          · simp only [if_pos w0] at fin
            simp (disch := omega) [q129, r129_0, r129_1, r129_2, r129_5, r129_8, r129_9, r129_12, r129_15, r129_17, r129_18, r129_21, r129_24, r129_25, r129_28, r129_29, r129_30, r129_33, r129_34, r129_35, r129_36, r129_39, r129_40, r129_43, r129_44, r129_47, r129_48, r129_50, r129_53, r129_54, r129_57, r129_60, r129_61, r129_64, r129_65, r129_68, r129_71, r129_74, r129_75, r129_78, r129_81, cs_nil, cs_cons, lc_lt, lc_ge, lc_gt, lc_le, lc_eq, z4, w0, b1]
            rw [w0] at fin
            exact fin
          · simp only [if_neg w0] at fin
            simp (disch := omega) [q129, r129_0, r129_1, r129_2, r129_5, r129_8, r129_9, r129_12, r129_15, r129_17, r129_18, r129_21, r129_24, r129_25, r129_28, r129_29, r129_30, r129_33, r129_34, r129_35, r129_36, r129_39, r129_40, r129_43, r129_44, r129_47, r129_48, r129_50, r129_53, r129_54, r129_57, r129_60, r129_61, r129_64, r129_65, r129_68, r129_71, r129_74, r129_75, r129_78, r129_81, cs_nil, cs_cons, lc_lt, lc_ge, lc_gt, lc_le, lc_eq, z4, w0, b2]
            exact fin
      · rcases (show w < 0 ∨ 1 < w by omega) with hw' | hw'
        · simp (disch := omega) [q129, r129_0, r129_1, r129_2, r129_5, r129_8, r129_9, r129_12, r129_15, r129_17, r129_18, r129_21, r129_24, r129_25, r129_28, r129_29, r129_30, r129_33, r129_34, r129_35, r129_36, r129_39, r129_40, r129_43, r129_44, r129_47, r129_48, r129_50, r129_53, r129_54, r129_57, r129_60, r129_61, r129_64, r129_65, r129_68, r129_71, r129_74, r129_75, r129_78, r129_81, q272, r272_0, r272_1, r272_2, r272_5, r272_8, r272_9, r272_10, r272_11, r272_12, r272_15, r272_18, r272_19, r272_21, r272_23, r272_25, r272_28, r272_31, r272_32, r272_33, r272_34, r272_35, r272_37, r272_40, r272_41, r272_42, r272_43, r272_45, r272_46, r272_50, r272_52, r272_55, r272_56, r272_58, r272_59, r272_63, r272_65, r272_68, r272_69, r272_72, r272_74, r272_76, r272_77, r272_79, r272_80, r272_81, r272_84, r272_87, r272_90, r272_93, r272_95, r272_97, r272_99, r272_100, r272_103, r272_105, r272_108, r272_110, r272_112, r272_113, r272_115, r272_116, r272_117, r272_120, r272_122, r272_124, r272_127, r272_130, r272_132, r272_133, r272_135, r272_137, r272_140, r272_143, r272_144, r272_147, r272_148, r272_151, r272_153, cs_nil, cs_cons, lc_lt, lc_ge, lc_gt, lc_le, lc_eq, c_fx aa.1, c_isT h, m_isT mb, h_isIn, hp, sz, am_wid2, le_T, lt_T, le_F, lt_F, hi]
        · simp (disch := omega) [q129, r129_0, r129_1, r129_2, r129_5, r129_8, r129_9, r129_12, r129_15, r129_17, r129_18, r129_21, r129_24, r129_25, r129_28, r129_29, r129_30, r129_33, r129_34, r129_35, r129_36, r129_39, r129_40, r129_43, r129_44, r129_47, r129_48, r129_50, r129_53, r129_54, r129_57, r129_60, r129_61, r129_64, r129_65, r129_68, r129_71, r129_74, r129_75, r129_78, r129_81, q272, r272_0, r272_1, r272_2, r272_5, r272_8, r272_9, r272_10, r272_11, r272_12, r272_15, r272_18, r272_19, r272_21, r272_23, r272_25, r272_28, r272_31, r272_32, r272_33, r272_34, r272_35, r272_37, r272_40, r272_41, r272_42, r272_43, r272_45, r272_46, r272_50, r272_52, r272_55, r272_56, r272_58, r272_59, r272_63, r272_65, r272_68, r272_69, r272_72, r272_74, r272_76, r272_77, r272_79, r272_80, r272_81, r272_84, r272_87, r272_90, r272_93, r272_95, r272_97, r272_99, r272_100, r272_103, r272_105, r272_108, r272_110, r272_112, r272_113, r272_115, r272_116, r272_117, r272_120, r272_122, r272_124, r272_127, r272_130, r272_132, r272_133, r272_135, r272_137, r272_140, r272_143, r272_144, r272_147, r272_148, r272_151, r272_153, cs_nil, cs_cons, lc_lt, lc_ge, lc_gt, lc_le, lc_eq, c_fx aa.1, c_isT h, m_isT mb, h_isIn, hp, sz, am_wid2, le_T, lt_T, le_F, lt_F, hi]
    · by_cases hw : 0 ≤ w ∧ w ≤ 1
      · simp (disch := omega) [q129, r129_0, r129_1, r129_2, r129_5, r129_8, r129_9, r129_12, r129_15, r129_17, r129_18, r129_21, r129_24, r129_25, r129_28, r129_29, r129_30, r129_33, r129_34, r129_35, r129_36, r129_39, r129_40, r129_43, r129_44, r129_47, r129_48, r129_50, r129_53, r129_54, r129_57, r129_60, r129_61, r129_64, r129_65, r129_68, r129_71, r129_74, r129_75, r129_78, r129_81, q272, r272_0, r272_1, r272_2, r272_5, r272_8, r272_9, r272_10, r272_11, r272_12, r272_15, r272_18, r272_19, r272_21, r272_23, r272_25, r272_28, r272_31, r272_32, r272_33, r272_34, r272_35, r272_37, r272_40, r272_41, r272_42, r272_43, r272_45, r272_46, r272_50, r272_52, r272_55, r272_56, r272_58, r272_59, r272_63, r272_65, r272_68, r272_69, r272_72, r272_74, r272_76, r272_77, r272_79, r272_80, r272_81, r272_84, r272_87, r272_90, r272_93, r272_95, r272_97, r272_99, r272_100, r272_103, r272_105, r272_108, r272_110, r272_112, r272_113, r272_115, r272_116, r272_117, r272_120, r272_122, r272_124, r272_127, r272_130, r272_132, r272_133, r272_135, r272_137, r272_140, r272_143, r272_144, r272_147, r272_148, r272_151, r272_153, cs_nil, cs_cons, lc_lt, lc_ge, lc_gt, lc_le, lc_eq, c_fx aa.1, c_isT h, m_isT mb, h_isIn, hp, hw, m_ahead mb, sz, am_wid2, le_T, lt_T, le_F, lt_F, hd, hi]
      · simp (disch := omega) [q129, r129_0, r129_1, r129_2, r129_5, r129_8, r129_9, r129_12, r129_15, r129_17, r129_18, r129_21, r129_24, r129_25, r129_28, r129_29, r129_30, r129_33, r129_34, r129_35, r129_36, r129_39, r129_40, r129_43, r129_44, r129_47, r129_48, r129_50, r129_53, r129_54, r129_57, r129_60, r129_61, r129_64, r129_65, r129_68, r129_71, r129_74, r129_75, r129_78, r129_81, q272, r272_0, r272_1, r272_2, r272_5, r272_8, r272_9, r272_10, r272_11, r272_12, r272_15, r272_18, r272_19, r272_21, r272_23, r272_25, r272_28, r272_31, r272_32, r272_33, r272_34, r272_35, r272_37, r272_40, r272_41, r272_42, r272_43, r272_45, r272_46, r272_50, r272_52, r272_55, r272_56, r272_58, r272_59, r272_63, r272_65, r272_68, r272_69, r272_72, r272_74, r272_76, r272_77, r272_79, r272_80, r272_81, r272_84, r272_87, r272_90, r272_93, r272_95, r272_97, r272_99, r272_100, r272_103, r272_105, r272_108, r272_110, r272_112, r272_113, r272_115, r272_116, r272_117, r272_120, r272_122, r272_124, r272_127, r272_130, r272_132, r272_133, r272_135, r272_137, r272_140, r272_143, r272_144, r272_147, r272_148, r272_151, r272_153, cs_nil, cs_cons, lc_lt, lc_ge, lc_gt, lc_le, lc_eq, c_fx aa.1, c_isT h, m_isT mb, h_isIn, hp, hw, sz, am_wid2, le_T, lt_T, le_F, lt_F, hi]
  · simp (disch := omega) [q129, r129_0, r129_1, r129_2, r129_5, r129_8, r129_9, r129_12, r129_15, r129_17, r129_18, r129_21, r129_24, r129_25, r129_28, r129_29, r129_30, r129_33, r129_34, r129_35, r129_36, r129_39, r129_40, r129_43, r129_44, r129_47, r129_48, r129_50, r129_53, r129_54, r129_57, r129_60, r129_61, r129_64, r129_65, r129_68, r129_71, r129_74, r129_75, r129_78, r129_81, q272, r272_0, r272_1, r272_2, r272_5, r272_8, r272_9, r272_10, r272_11, r272_12, r272_15, r272_18, r272_19, r272_21, r272_23, r272_25, r272_28, r272_31, r272_32, r272_33, r272_34, r272_35, r272_37, r272_40, r272_41, r272_42, r272_43, r272_45, r272_46, r272_50, r272_52, r272_55, r272_56, r272_58, r272_59, r272_63, r272_65, r272_68, r272_69, r272_72, r272_74, r272_76, r272_77, r272_79, r272_80, r272_81, r272_84, r272_87, r272_90, r272_93, r272_95, r272_97, r272_99, r272_100, r272_103, r272_105, r272_108, r272_110, r272_112, r272_113, r272_115, r272_116, r272_117, r272_120, r272_122, r272_124, r272_127, r272_130, r272_132, r272_133, r272_135, r272_137, r272_140, r272_143, r272_144, r272_147, r272_148, r272_151, r272_153, cs_nil, cs_cons, lc_lt, lc_ge, lc_gt, lc_le, lc_eq, c_isT h, m_isT mb, hp, hi]
end
