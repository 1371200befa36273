/-! see -/
def dvs (B : Int → Int) : Nat → Int → Int → Bool
  | 0, _, _ => true
  | j + 1, k, a => if a < B k ∧ B k ≤ 30 then dvs B j (k + 1) (B k) else false
def sn (B : Int → Int) : Nat → Nat
  | 0 => 0
  | k + 1 => sn B k ||| 2 ^ (B k).toNat
theorem sn_bit {B : Int → Int} {x : Nat} : ∀ s : Nat, (sn B s).testBit x = true ↔ ∃ k : Nat, k < s ∧ (B k).toNat = x
  | 0 => by simp [sn]
  | s + 1 => by
    rw [sn, Nat.testBit_or, Bool.or_eq_true, sn_bit s, Nat.testBit_two_pow, decide_eq_true_eq]
    constructor
    · rintro (⟨k, h1, h2⟩ | h)
      · exact ⟨k, by omega, h2⟩
      · exact ⟨s, by omega, h⟩
    · rintro ⟨k, h1, h2⟩
      by_cases hk : k = s
      · subst hk; exact Or.inr h2
      · exact Or.inl ⟨k, by omega, h2⟩
theorem dvs_m {B : Int → Int} : ∀ (j : Nat) (k a : Int), dvs B j k a = true → ∀ i : Int, k ≤ i → i < k + j → a < B i ∧ B i ≤ 30 ∧ (k < i → B (i - 1) < B i)
  | 0, k, a, _, i, h1, h2 => by omega
  | j + 1, k, a, h, i, h1, h2 => by
    unfold dvs at h
    split at h
    · rename_i hp
      by_cases hi : i = k
      · rw [hi]; exact ⟨hp.1, hp.2, fun q => by omega⟩
      · have := dvs_m j (k + 1) (B k) h i (by omega) (by omega)
        refine ⟨by omega, this.2.1, fun _ => ?_⟩
        by_cases h3 : k + 1 < i
        · exact this.2.2 h3
        · rw [show i - 1 = k by omega]; exact this.1
    · cases h
theorem sn_lt {B : Int → Int} : ∀ s : Nat, (∀ k : Nat, k < s → B k ≤ 30) → sn B s < 2147483648
  | 0, _ => by simp [sn]
  | s + 1, h => by
    rw [sn]
    have h1 := sn_lt s (fun k hk => h k (by omega))
    have h2 : 2 ^ (B s).toNat ≤ 2 ^ 30 := Nat.pow_le_pow_right (by omega) (by have := h s (by omega); omega)
    exact Nat.or_lt_two_pow (n := 31) h1 (by omega)
theorem dvs_inc {B : Int → Int} {s : Nat} (h : dvs B s 0 0 = true) : ∀ (j i : Nat), i + j < s → B i + j ≤ B ((i + j : Nat) : Int) := by
  intro j
  induction j with
  | zero => intro i _; simp
  | succ j ih =>
    intro i hi
    have h1 := ih i (by omega)
    have h2 := (dvs_m s 0 0 h ((i + (j + 1) : Nat) : Int) (by omega) (by omega)).2.2 (by omega)
    rw [show ((i + (j + 1) : Nat) : Int) - 1 = ((i + j : Nat) : Int) by omega] at h2
    omega
def cq (P : Nat → Bool) : Nat → Bool
  | 0 => true
  | d + 1 => cq P d && P (d + 1)
theorem cq_iff {P : Nat → Bool} : ∀ d, cq P d = true ↔ ∀ x, 1 ≤ x → x ≤ d → P x = true
  | 0 => by simp [cq]; intro x; omega
  | d + 1 => by
    rw [cq, Bool.and_eq_true, cq_iff d]
    constructor
    · rintro ⟨h1, h2⟩ x a b
      by_cases hx : x = d + 1
      · rw [hx]; exact h2
      · exact h1 x a (by omega)
    · intro h
      exact ⟨fun x a b => h x a (by omega), h (d + 1) (by omega) (by omega)⟩
section
variable {d n m r : Nat} {f L z : am_F} {ρ : Int → List Int} {τ : Int → Bool} {l : Int} {Z : Int → am_F} {Q : am_V → am_F → Prop}
theorem see_eq {B : Int → Int} {s D : Nat} {t i : Int} (h : dvs B s 0 0 = true) (hs : 1 ≤ s) (hD : (D : Int) = B (s - 1 : Nat)) : decide (brS L ρ n m z t i D = sn B s) = cq (fun x => (sn B s).testBit x == brF L ρ n m z t i x) D := by
  have hin : ∀ k : Nat, k < s → 1 ≤ B k ∧ B k ≤ D := by
    intro k hk
    have h1 := dvs_m s 0 0 h k (by omega) (by omega)
    have h2 := dvs_inc h (s - 1 - k) k (by omega)
    rw [show k + (s - 1 - k) = s - 1 by omega] at h2
    omega
  apply Bool.eq_iff_iff.mpr
  rw [decide_eq_true_eq, cq_iff]
  constructor
  · intro e x a b
    rw [← e]
    unfold brS
    rw [bm_bit]
    simp [show x < D + 1 by omega, show 0 < x by omega]
  · intro e
    apply Nat.eq_of_testBit_eq
    intro x
    unfold brS
    rw [bm_bit]
    by_cases hx : 1 ≤ x ∧ x ≤ D
    · have := e x hx.1 hx.2
      simp at this
      simp [show x < D + 1 by omega, show 0 < x by omega, this]
    · have h0 : (sn B s).testBit x = false := by
        cases hb : (sn B s).testBit x with
        | false => rfl
        | true =>
          obtain ⟨k, h1, h2⟩ := (sn_bit s).mp hb
          have := hin k h1
          omega
      rw [h0]
      by_cases h1 : x < D + 1
      · simp [show x = 0 by omega]
      · simp [h1]
theorem c_seen {s : Nat} (hx : f 14 0 = 15) (hs : f 14 1 = s) (h16 : s ≤ 1600) (hb : ∀ j, 0 ≤ f 15 j ∧ f 15 j ≤ 255) : aw_cl d 125 [(108, 14)] f Q = Q (0, if s ≤ 20 ∧ dvs (f 15) s 0 0 = true then (sn (f 15) s : Int) else 0) f := by
  apply aw_det
  by_cases h20 : s ≤ 20
  · have key : ∀ (j k : Nat) (a : Int) (x : am_V), k + j = s → 0 ≤ a → (∀ i : Nat, i < k → f 15 i ≤ 30) → aw_wp d 125 17 [(108, 14), (0, (sn (f 15) k : Int)), (0, a), (0, (k : Int)), x] [] f (fun v f1 => v = (0, if dvs (f 15) j k a = true then (sn (f 15) s : Int) else 0) ∧ f1 = f) := by
      intro j
      induction j with
      | zero =>
        intro k a x h1 h2 h3
        obtain ⟨tx, vx⟩ := x
        obtain rfl : k = s := by omega
        rw [r125_17]
        simp (disch := omega) [q125, r125_0, r125_1, r125_4, r125_6, r125_9, r125_10, r125_11, r125_12, r125_13, r125_14, r125_15, r125_16, r125_18, r125_19, r125_22, r125_25, r125_26, r125_29, r125_30, r125_31, r125_33, r125_35, r125_36, r125_39, r125_41, r125_43, r125_46, r125_47, r125_48, r125_49, r125_50, r125_52, r125_53, r125_54, r125_55, r125_57, r125_58, r125_61, r125_64, r125_65, cs_nil, cs_cons, lc_lt, lc_ge, lc_gt, lc_le, lc_eq, hs, dvs]
      | succ j ih =>
        intro k a x h1 h2 h3
        obtain ⟨tx, vx⟩ := x
        have hk := hb k
        rw [r125_17]
        by_cases p1 : a < f 15 k
        · by_cases p2 : f 15 k ≤ 30
          · have ih' := ih (k + 1) (f 15 k) (0, f 15 k) (by omega) (by omega) (fun i hi => by
              by_cases hik : i = k
              · rw [hik]; exact p2
              · exact h3 i (by omega))
            have l1 := sn_lt (B := f 15) k h3
            have e1 : am_shl 1 (f 15 k) = ((2 ^ (f 15 k).toNat : Nat) : Int) := by
              have := shl_n (t := (f 15 k).toNat) (by omega)
              rwa [Int.toNat_of_nonneg hk.1] at this
            have l2 : 2 ^ (f 15 k).toNat ≤ 2 ^ 30 := Nat.pow_le_pow_right (by omega) (by omega)
            have e2 : am_or (sn (f 15) k : Int) ((2 ^ (f 15 k).toNat : Nat) : Int) = (sn (f 15) (k + 1) : Int) := or_n l1 (by omega)
            have e12 : am_or (sn (f 15) k : Int) (am_shl 1 (f 15 k)) = (sn (f 15) (k + 1) : Int) := by rw [e1]; exact e2
            simp only [dvs, if_pos (show a < f 15 k ∧ f 15 k ≤ 30 from ⟨p1, p2⟩)]
            rw [Int.natCast_add] at ih'
            simpa (disch := omega) [q125, r125_0, r125_1, r125_4, r125_6, r125_9, r125_10, r125_11, r125_12, r125_13, r125_14, r125_15, r125_16, r125_18, r125_19, r125_22, r125_25, r125_26, r125_29, r125_30, r125_31, r125_33, r125_35, r125_36, r125_39, r125_41, r125_43, r125_46, r125_47, r125_48, r125_49, r125_50, r125_52, r125_53, r125_54, r125_55, r125_57, r125_58, r125_61, r125_64, r125_65, cs_nil, cs_cons, lc_lt, lc_ge, lc_gt, lc_le, lc_eq, hs, hx, ln_15, am_wid2, e12, le_T, lt_T, le_F, lt_F] using ih'
          · simp (disch := omega) [q125, r125_0, r125_1, r125_4, r125_6, r125_9, r125_10, r125_11, r125_12, r125_13, r125_14, r125_15, r125_16, r125_18, r125_19, r125_22, r125_25, r125_26, r125_29, r125_30, r125_31, r125_33, r125_35, r125_36, r125_39, r125_41, r125_43, r125_46, r125_47, r125_48, r125_49, r125_50, r125_52, r125_53, r125_54, r125_55, r125_57, r125_58, r125_61, r125_64, r125_65, cs_nil, cs_cons, lc_lt, lc_ge, lc_gt, lc_le, lc_eq, hs, hx, ln_15, le_T, lt_T, le_F, lt_F, dvs]
        · simp (disch := omega) [q125, r125_0, r125_1, r125_4, r125_6, r125_9, r125_10, r125_11, r125_12, r125_13, r125_14, r125_15, r125_16, r125_18, r125_19, r125_22, r125_25, r125_26, r125_29, r125_30, r125_31, r125_33, r125_35, r125_36, r125_39, r125_41, r125_43, r125_46, r125_47, r125_48, r125_49, r125_50, r125_52, r125_53, r125_54, r125_55, r125_57, r125_58, r125_61, r125_64, r125_65, cs_nil, cs_cons, lc_lt, lc_ge, lc_gt, lc_le, lc_eq, hs, hx, ln_15, le_T, lt_T, le_F, lt_F, dvs]
    have := key s 0 0 (2, 0) (by omega) (by omega) (fun i hi => by omega)
    simpa (disch := omega) [q125, r125_0, r125_1, r125_4, r125_6, r125_9, r125_10, r125_11, r125_12, r125_13, r125_14, r125_15, r125_16, r125_18, r125_19, r125_22, r125_25, r125_26, r125_29, r125_30, r125_31, r125_33, r125_35, r125_36, r125_39, r125_41, r125_43, r125_46, r125_47, r125_48, r125_49, r125_50, r125_52, r125_53, r125_54, r125_55, r125_57, r125_58, r125_61, r125_64, r125_65, cs_nil, cs_cons, lc_lt, lc_ge, lc_gt, lc_le, lc_eq, hs, h20, sn, le_T, lt_F] using this
  · simp (disch := omega) [q125, r125_0, r125_1, r125_4, r125_6, r125_9, r125_10, r125_11, r125_12, r125_13, r125_14, r125_15, r125_16, r125_18, r125_19, r125_22, r125_25, r125_26, r125_29, r125_30, r125_31, r125_33, r125_35, r125_36, r125_39, r125_41, r125_43, r125_46, r125_47, r125_48, r125_49, r125_50, r125_52, r125_53, r125_54, r125_55, r125_57, r125_58, r125_61, r125_64, r125_65, cs_nil, cs_cons, lc_lt, lc_ge, lc_gt, lc_le, lc_eq, hs, le_T, lt_T, le_F, lt_F, h20]
theorem m_areDays {s : Nat} (h : MB f n m r L ρ τ z) (h16 : s ≤ 1600) (hb : ∀ j, 0 ≤ f 271 j ∧ f 271 j ≤ 255) : aw_cl (d + 3) 269 [(110, 270), (0, (s : Int))] f Q = Q (0, if (1 ≤ s ∧ s ≤ 20) ∧ dvs (f 271) s 0 0 = true ∧ z 0 0 + f 271 ((s - 1 : Nat) : Int) ≤ 999 then 1 else 0) f := by
  apply aw_det
  have hx : f 270 0 = 271 := h.1.1.1
  by_cases h20 : 1 ≤ s ∧ s ≤ 20
  · have hi : (1 : Int) ≤ s ∧ (s : Int) ≤ 20 := by omega
    have key : ∀ (j k : Nat) (a : Int), k + j = s → a = (if k = 0 then 0 else f 271 ((k - 1 : Nat) : Int)) → dvs (f 271) s 0 0 = dvs (f 271) j k a → aw_wp (d + 3) 269 16 [(110, 270), (0, (s : Int)), (0, (k : Int))] [] f (fun v f1 => v = (0, if dvs (f 271) j k a = true ∧ z 0 0 + f 271 ((s - 1 : Nat) : Int) ≤ 999 then 1 else 0) ∧ f1 = f) := by
      intro j
      induction j with
      | zero =>
        intro k a h1 h2 h3
        obtain rfl : k = s := by omega
        have h4 := dvs_m k 0 0 (by rw [h3]; rfl) ((k - 1 : Nat) : Int) (by omega) (by omega)
        have e : (k : Int) - 1 = ((k - 1 : Nat) : Int) := by omega
        rw [r269_16]
        by_cases h5 : z 0 0 + f 271 ((k - 1 : Nat) : Int) ≤ 999
        · simp (disch := omega) [q269, r269_0, r269_1, r269_2, r269_3, r269_6, r269_9, r269_12, r269_13, r269_14, r269_15, r269_17, r269_18, r269_21, r269_22, r269_25, r269_26, r269_27, r269_28, r269_29, r269_32, r269_33, r269_36, r269_37, r269_40, r269_41, r269_42, r269_43, r269_44, r269_45, r269_46, r269_47, r269_50, r269_53, r269_56, r269_57, r269_58, r269_61, r269_64, r269_65, r269_66, r269_69, r269_70, r269_71, r269_72, r269_73, r269_74, r269_76, r269_79, cs_nil, cs_cons, lc_lt, lc_ge, lc_gt, lc_le, lc_eq, hx, ln_271, am_wid2, e, m_ahead h, le_T, lt_T, le_F, lt_F, dvs, h5]
        · simp (disch := omega) [q269, r269_0, r269_1, r269_2, r269_3, r269_6, r269_9, r269_12, r269_13, r269_14, r269_15, r269_17, r269_18, r269_21, r269_22, r269_25, r269_26, r269_27, r269_28, r269_29, r269_32, r269_33, r269_36, r269_37, r269_40, r269_41, r269_42, r269_43, r269_44, r269_45, r269_46, r269_47, r269_50, r269_53, r269_56, r269_57, r269_58, r269_61, r269_64, r269_65, r269_66, r269_69, r269_70, r269_71, r269_72, r269_73, r269_74, r269_76, r269_79, cs_nil, cs_cons, lc_lt, lc_ge, lc_gt, lc_le, lc_eq, hx, ln_271, am_wid2, e, m_ahead h, le_T, lt_T, le_F, lt_F, dvs, h5]
      | succ j ih =>
        intro k a h1 h2 h3
        have hk := hb k
        have lo : ∀ y, y = a + 1 → (if a < f 271 k ∧ f 271 k ≤ 30 then (1 : Int) else 0) = (if y ≤ f 271 k ∧ f 271 k ≤ 30 then (1 : Int) else 0) := by
          intro y hy
          by_cases hc : a < f 271 k ∧ f 271 k ≤ 30
          · rw [if_pos hc, if_pos (by omega)]
          · rw [if_neg hc, if_neg (by omega)]
        rw [r269_16]
        by_cases hc : a < f 271 k ∧ f 271 k ≤ 30
        · have ih' := ih (k + 1) (f 271 k) (by omega) (by simp) (h3.trans (if_pos hc))
          rw [Int.natCast_add] at ih'
          unfold dvs
          rw [if_pos hc]
          by_cases k0 : k = 0
          · have k0' : (k : Int) = 0 := by omega
            rw [if_pos k0] at h2
            have s0 : ¬ s = 0 := by omega
            have q1 : 1 ≤ f 271 0 ∧ f 271 0 ≤ 30 := by rw [k0'] at hc; omega
            simpa (disch := omega) [q269, r269_0, r269_1, r269_2, r269_3, r269_6, r269_9, r269_12, r269_13, r269_14, r269_15, r269_17, r269_18, r269_21, r269_22, r269_25, r269_26, r269_27, r269_28, r269_29, r269_32, r269_33, r269_36, r269_37, r269_40, r269_41, r269_42, r269_43, r269_44, r269_45, r269_46, r269_47, r269_50, r269_53, r269_56, r269_57, r269_58, r269_61, r269_64, r269_65, r269_66, r269_69, r269_70, r269_71, r269_72, r269_73, r269_74, r269_76, r269_79, cs_nil, cs_cons, lc_lt, lc_ge, lc_gt, lc_le, lc_eq, hx, ln_271, am_wid2, h_isIn, le_T, lt_T, le_F, lt_F, k0', s0] using ih'
          · rw [if_neg k0] at h2
            have e : (k : Int) - 1 = ((k - 1 : Nat) : Int) := by omega
            have q0 := hb ((k - 1 : Nat) : Int)
            have q1 : f 271 ((k - 1 : Nat) : Int) + 1 ≤ f 271 k := by omega
            have q2 : f 271 k ≤ 30 := hc.2
            have k0' : ¬ (k : Int) = 0 := by omega
            simpa (disch := omega) [q269, r269_0, r269_1, r269_2, r269_3, r269_6, r269_9, r269_12, r269_13, r269_14, r269_15, r269_17, r269_18, r269_21, r269_22, r269_25, r269_26, r269_27, r269_28, r269_29, r269_32, r269_33, r269_36, r269_37, r269_40, r269_41, r269_42, r269_43, r269_44, r269_45, r269_46, r269_47, r269_50, r269_53, r269_56, r269_57, r269_58, r269_61, r269_64, r269_65, r269_66, r269_69, r269_70, r269_71, r269_72, r269_73, r269_74, r269_76, r269_79, cs_nil, cs_cons, lc_lt, lc_ge, lc_gt, lc_le, lc_eq, hx, ln_271, am_wid2, h_isIn, le_T, lt_T, le_F, lt_F, q1, q2, e, k0, k0'] using ih'
        · unfold dvs
          rw [if_neg hc]
          by_cases k0 : k = 0
          · have k0' : (k : Int) = 0 := by omega
            rw [if_pos k0] at h2
            rw [k0'] at hc
            have s0 : ¬ s = 0 := by omega
            have q1 : f 271 0 < 1 ∨ 30 < f 271 0 := by omega
            rcases q1 with q1 | q1 <;> simp (disch := omega) [q269, r269_0, r269_1, r269_2, r269_3, r269_6, r269_9, r269_12, r269_13, r269_14, r269_15, r269_17, r269_18, r269_21, r269_22, r269_25, r269_26, r269_27, r269_28, r269_29, r269_32, r269_33, r269_36, r269_37, r269_40, r269_41, r269_42, r269_43, r269_44, r269_45, r269_46, r269_47, r269_50, r269_53, r269_56, r269_57, r269_58, r269_61, r269_64, r269_65, r269_66, r269_69, r269_70, r269_71, r269_72, r269_73, r269_74, r269_76, r269_79, cs_nil, cs_cons, lc_lt, lc_ge, lc_gt, lc_le, lc_eq, hx, ln_271, am_wid2, h_isIn, le_T, lt_T, le_F, lt_F, k0', s0]
          · rw [if_neg k0] at h2
            have e : (k : Int) - 1 = ((k - 1 : Nat) : Int) := by omega
            have q0 := hb ((k - 1 : Nat) : Int)
            have k0' : ¬ (k : Int) = 0 := by omega
            have q1 : f 271 k < f 271 ((k - 1 : Nat) : Int) + 1 ∨ 30 < f 271 k := by omega
            rcases q1 with q1 | q1 <;> simp (disch := omega) [q269, r269_0, r269_1, r269_2, r269_3, r269_6, r269_9, r269_12, r269_13, r269_14, r269_15, r269_17, r269_18, r269_21, r269_22, r269_25, r269_26, r269_27, r269_28, r269_29, r269_32, r269_33, r269_36, r269_37, r269_40, r269_41, r269_42, r269_43, r269_44, r269_45, r269_46, r269_47, r269_50, r269_53, r269_56, r269_57, r269_58, r269_61, r269_64, r269_65, r269_66, r269_69, r269_70, r269_71, r269_72, r269_73, r269_74, r269_76, r269_79, cs_nil, cs_cons, lc_lt, lc_ge, lc_gt, lc_le, lc_eq, hx, ln_271, am_wid2, h_isIn, le_T, lt_T, le_F, lt_F, e, k0, k0']
    have := key s 0 0 (by omega) rfl rfl
    simpa (disch := omega) [q269, r269_0, r269_1, r269_2, r269_3, r269_6, r269_9, r269_12, r269_13, r269_14, r269_15, r269_17, r269_18, r269_21, r269_22, r269_25, r269_26, r269_27, r269_28, r269_29, r269_32, r269_33, r269_36, r269_37, r269_40, r269_41, r269_42, r269_43, r269_44, r269_45, r269_46, r269_47, r269_50, r269_53, r269_56, r269_57, r269_58, r269_61, r269_64, r269_65, r269_66, r269_69, r269_70, r269_71, r269_72, r269_73, r269_74, r269_76, r269_79, cs_nil, cs_cons, lc_lt, lc_ge, lc_gt, lc_le, lc_eq, h_isIn, le_T, h20] using this
  · rcases (show s < 1 ∨ 20 < s by omega) with q | q
    · have : s = 0 := by omega
      subst this
      simp (disch := omega) [q269, r269_0, r269_1, r269_2, r269_3, r269_6, r269_9, r269_12, r269_13, r269_14, r269_15, r269_17, r269_18, r269_21, r269_22, r269_25, r269_26, r269_27, r269_28, r269_29, r269_32, r269_33, r269_36, r269_37, r269_40, r269_41, r269_42, r269_43, r269_44, r269_45, r269_46, r269_47, r269_50, r269_53, r269_56, r269_57, r269_58, r269_61, r269_64, r269_65, r269_66, r269_69, r269_70, r269_71, r269_72, r269_73, r269_74, r269_76, r269_79, cs_nil, cs_cons, lc_lt, lc_ge, lc_gt, lc_le, lc_eq, h_isIn]
    · simp (disch := omega) [q269, r269_0, r269_1, r269_2, r269_3, r269_6, r269_9, r269_12, r269_13, r269_14, r269_15, r269_17, r269_18, r269_21, r269_22, r269_25, r269_26, r269_27, r269_28, r269_29, r269_32, r269_33, r269_36, r269_37, r269_40, r269_41, r269_42, r269_43, r269_44, r269_45, r269_46, r269_47, r269_50, r269_53, r269_56, r269_57, r269_58, r269_61, r269_64, r269_65, r269_66, r269_69, r269_70, r269_71, r269_72, r269_73, r269_74, r269_76, r269_79, cs_nil, cs_cons, lc_lt, lc_ge, lc_gt, lc_le, lc_eq, h_isIn, le_T, lt_T, le_F, lt_F, h20]
theorem c_frails {s : Nat} {P : Int → Nat} (hx : f 40 4 = 44) (hP : ∀ i : Int, 0 ≤ i → i < 10 → f 44 i = (P i : Int)) : aw_cl d 128 [(103, 40), (0, (s : Int))] f Q = Q (0, (bm (fun i => decide (P (i : Int) = s)) 10 : Int)) f := by
  have key : ∀ j i : Nat, i + j = 10 → aw_wp d 128 4 [(103, 40), (0, (s : Int)), (0, (bm (fun i => decide (P (i : Int) = s)) i : Int)), (0, (i : Int))] [] f (fun v f1 => v = (0, (bm (fun i => decide (P (i : Int) = s)) 10 : Int)) ∧ f1 = f) := by
    intro j
    induction j with
    | zero =>
      intro i hi
      obtain rfl : i = 10 := by omega
      rw [r128_4]
      simp [q128, r128_0, r128_1, r128_2, r128_3, r128_5, r128_7, r128_10, r128_11, r128_12, r128_15, r128_16, r128_17, r128_18, r128_21, r128_22, r128_23, r128_24, r128_27, r128_28, r128_29, r128_30, r128_33, r128_36, r128_37, cs_nil, cs_cons, lc_lt, lc_ge, lc_gt, lc_le, lc_eq]
    | succ j ih =>
      intro i hi
      have ih' := ih (i + 1) (by omega)
      have e := hP i (by omega) (by omega)
      have c1 : ¬ 10 ≤ i := by omega
      rw [r128_4]
      by_cases hp : P (i : Int) = s
      · have hp' : (P (i : Int) : Int) = s := by omega
        simpa (disch := omega) [q128, r128_0, r128_1, r128_2, r128_3, r128_5, r128_7, r128_10, r128_11, r128_12, r128_15, r128_16, r128_17, r128_18, r128_21, r128_22, r128_23, r128_24, r128_27, r128_28, r128_29, r128_30, r128_33, r128_36, r128_37, cs_nil, cs_cons, lc_lt, lc_ge, lc_gt, lc_le, lc_eq, hx, ln_44, am_wid2, le_T, lt_T, le_F, lt_F, e, hp, hp', c1, bm, bm_set, bm_or0] using ih'
      · have hp' : ¬ (P (i : Int) : Int) = s := by omega
        simpa (disch := omega) [q128, r128_0, r128_1, r128_2, r128_3, r128_5, r128_7, r128_10, r128_11, r128_12, r128_15, r128_16, r128_17, r128_18, r128_21, r128_22, r128_23, r128_24, r128_27, r128_28, r128_29, r128_30, r128_33, r128_36, r128_37, cs_nil, cs_cons, lc_lt, lc_ge, lc_gt, lc_le, lc_eq, hx, ln_44, am_wid2, le_T, lt_T, le_F, lt_F, e, hp, hp', c1, bm, bm_set, bm_or0] using ih'
  apply aw_det
  have := key 10 0 (by omega)
  simpa [q128, r128_0, r128_1, r128_2, r128_3, r128_5, r128_7, r128_10, r128_11, r128_12, r128_15, r128_16, r128_17, r128_18, r128_21, r128_22, r128_23, r128_24, r128_27, r128_28, r128_29, r128_30, r128_33, r128_36, r128_37, cs_nil, cs_cons, lc_lt, lc_ge, lc_gt, lc_le, lc_eq, bm] using this
end
