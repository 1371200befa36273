/-! on -/
def ot (B : Int → Int) (k : Int) : Bool := decide (B k ≤ 2) && (decide (B (k + 1) ≤ 99) && (decide (B (k + 2) ≤ 99) && (decide (B (k + 3) ≤ 99) && (decide (B (k + 4) = 0) || (decide (B (k + 4) = 1) && decide (B k = 2))))))
def ag (P : Int → Bool) : Nat → Int → Bool
  | 0, _ => true
  | j + 1, t => if P t = true then ag P j (t + 1) else false
theorem ag_t {P : Int → Bool} : ∀ (j : Nat) (t : Int), ag P j t = true → ∀ i : Int, t ≤ i → i < t + j → P i = true
  | 0, t, _, i, h1, h2 => by omega
  | j + 1, t, h, i, h1, h2 => by
    unfold ag at h
    split at h
    · rename_i hp
      by_cases hi : i = t
      · rw [hi]; exact hp
      · exact ag_t j (t + 1) h i (by omega) (by omega)
    · cases h
def oi (B : Int → Int) (n : Nat) (s : Int) : Bool := decide (s = 3 + 5 * (n : Int)) && (decide (B (2 + 5 * (n : Int)) = sl B (2 + 5 * n)) && (decide (256 * B 0 + B 1 ≤ 999) && ag (fun t => ot B (2 + 5 * t)) n 0))
section
variable {d n m r : Nat} {f L z : am_F} {ρ : Int → List Int} {τ : Int → Bool} {l : Int} {Z : Int → am_F} {Q : am_V → am_F → Prop}
theorem c_ot {k : Int} (hx : f 0 0 = 14 ∧ f 14 0 = 15) (hb : ∀ j, 0 ≤ f 15 j ∧ f 15 j ≤ 255) (h0 : 0 ≤ k) (h1 : k ≤ 100) : aw_cl d 155 [(109, 0), (0, k)] f Q = Q (0, if ot (f 15) k = true then 1 else 0) f := by
  apply aw_det
  unfold ot
  by_cases a0 : f 15 k ≤ 2
  · by_cases a1 : f 15 (k + 1) ≤ 99
    · by_cases a2 : f 15 (k + 2) ≤ 99
      · by_cases a3 : f 15 (k + 3) ≤ 99
        · by_cases a4 : f 15 (k + 4) = 0
          · simp (disch := omega) [q155, r155_0, r155_1, r155_4, r155_7, r155_8, r155_9, r155_10, r155_11, r155_12, r155_13, r155_14, r155_15, r155_16, r155_17, r155_19, r155_20, r155_21, r155_24, r155_25, r155_26, r155_27, r155_28, r155_29, r155_31, r155_34, r155_35, r155_36, r155_37, r155_38, r155_39, r155_41, r155_44, r155_45, r155_46, r155_47, r155_48, r155_49, r155_51, r155_54, r155_56, r155_59, r155_61, r155_62, r155_65, r155_66, r155_67, r155_70, r155_71, r155_74, r155_75, cs_nil, cs_cons, lc_lt, lc_ge, lc_gt, lc_le, lc_eq, hx, ln_15, am_wid2, le_T, lt_T, le_F, lt_F, a4]
          · by_cases a5 : f 15 (k + 4) = 1
            · by_cases a6 : f 15 k = 2
              · simp (disch := omega) [q155, r155_0, r155_1, r155_4, r155_7, r155_8, r155_9, r155_10, r155_11, r155_12, r155_13, r155_14, r155_15, r155_16, r155_17, r155_19, r155_20, r155_21, r155_24, r155_25, r155_26, r155_27, r155_28, r155_29, r155_31, r155_34, r155_35, r155_36, r155_37, r155_38, r155_39, r155_41, r155_44, r155_45, r155_46, r155_47, r155_48, r155_49, r155_51, r155_54, r155_56, r155_59, r155_61, r155_62, r155_65, r155_66, r155_67, r155_70, r155_71, r155_74, r155_75, cs_nil, cs_cons, lc_lt, lc_ge, lc_gt, lc_le, lc_eq, hx, ln_15, am_wid2, le_T, lt_T, le_F, lt_F, a5, a6]
              · simp (disch := omega) [q155, r155_0, r155_1, r155_4, r155_7, r155_8, r155_9, r155_10, r155_11, r155_12, r155_13, r155_14, r155_15, r155_16, r155_17, r155_19, r155_20, r155_21, r155_24, r155_25, r155_26, r155_27, r155_28, r155_29, r155_31, r155_34, r155_35, r155_36, r155_37, r155_38, r155_39, r155_41, r155_44, r155_45, r155_46, r155_47, r155_48, r155_49, r155_51, r155_54, r155_56, r155_59, r155_61, r155_62, r155_65, r155_66, r155_67, r155_70, r155_71, r155_74, r155_75, cs_nil, cs_cons, lc_lt, lc_ge, lc_gt, lc_le, lc_eq, hx, ln_15, am_wid2, le_T, lt_T, le_F, lt_F, a5, a6]
            · simp (disch := omega) [q155, r155_0, r155_1, r155_4, r155_7, r155_8, r155_9, r155_10, r155_11, r155_12, r155_13, r155_14, r155_15, r155_16, r155_17, r155_19, r155_20, r155_21, r155_24, r155_25, r155_26, r155_27, r155_28, r155_29, r155_31, r155_34, r155_35, r155_36, r155_37, r155_38, r155_39, r155_41, r155_44, r155_45, r155_46, r155_47, r155_48, r155_49, r155_51, r155_54, r155_56, r155_59, r155_61, r155_62, r155_65, r155_66, r155_67, r155_70, r155_71, r155_74, r155_75, cs_nil, cs_cons, lc_lt, lc_ge, lc_gt, lc_le, lc_eq, hx, ln_15, am_wid2, le_T, lt_T, le_F, lt_F, a4, a5]
        · simp (disch := omega) [q155, r155_0, r155_1, r155_4, r155_7, r155_8, r155_9, r155_10, r155_11, r155_12, r155_13, r155_14, r155_15, r155_16, r155_17, r155_19, r155_20, r155_21, r155_24, r155_25, r155_26, r155_27, r155_28, r155_29, r155_31, r155_34, r155_35, r155_36, r155_37, r155_38, r155_39, r155_41, r155_44, r155_45, r155_46, r155_47, r155_48, r155_49, r155_51, r155_54, r155_56, r155_59, r155_61, r155_62, r155_65, r155_66, r155_67, r155_70, r155_71, r155_74, r155_75, cs_nil, cs_cons, lc_lt, lc_ge, lc_gt, lc_le, lc_eq, hx, ln_15, am_wid2, le_T, lt_T, le_F, lt_F]
      · simp (disch := omega) [q155, r155_0, r155_1, r155_4, r155_7, r155_8, r155_9, r155_10, r155_11, r155_12, r155_13, r155_14, r155_15, r155_16, r155_17, r155_19, r155_20, r155_21, r155_24, r155_25, r155_26, r155_27, r155_28, r155_29, r155_31, r155_34, r155_35, r155_36, r155_37, r155_38, r155_39, r155_41, r155_44, r155_45, r155_46, r155_47, r155_48, r155_49, r155_51, r155_54, r155_56, r155_59, r155_61, r155_62, r155_65, r155_66, r155_67, r155_70, r155_71, r155_74, r155_75, cs_nil, cs_cons, lc_lt, lc_ge, lc_gt, lc_le, lc_eq, hx, ln_15, am_wid2, le_T, lt_T, le_F, lt_F]
    · simp (disch := omega) [q155, r155_0, r155_1, r155_4, r155_7, r155_8, r155_9, r155_10, r155_11, r155_12, r155_13, r155_14, r155_15, r155_16, r155_17, r155_19, r155_20, r155_21, r155_24, r155_25, r155_26, r155_27, r155_28, r155_29, r155_31, r155_34, r155_35, r155_36, r155_37, r155_38, r155_39, r155_41, r155_44, r155_45, r155_46, r155_47, r155_48, r155_49, r155_51, r155_54, r155_56, r155_59, r155_61, r155_62, r155_65, r155_66, r155_67, r155_70, r155_71, r155_74, r155_75, cs_nil, cs_cons, lc_lt, lc_ge, lc_gt, lc_le, lc_eq, hx, ln_15, am_wid2, le_T, lt_T, le_F, lt_F]
  · simp (disch := omega) [q155, r155_0, r155_1, r155_4, r155_7, r155_8, r155_9, r155_10, r155_11, r155_12, r155_13, r155_14, r155_15, r155_16, r155_17, r155_19, r155_20, r155_21, r155_24, r155_25, r155_26, r155_27, r155_28, r155_29, r155_31, r155_34, r155_35, r155_36, r155_37, r155_38, r155_39, r155_41, r155_44, r155_45, r155_46, r155_47, r155_48, r155_49, r155_51, r155_54, r155_56, r155_59, r155_61, r155_62, r155_65, r155_66, r155_67, r155_70, r155_71, r155_74, r155_75, cs_nil, cs_cons, lc_lt, lc_ge, lc_gt, lc_le, lc_eq, hx, ln_15, am_wid2, le_T, lt_T, le_F, lt_F]
theorem m_ot {k : Int} (hx : f 270 0 = 271) (hb : ∀ j, 0 ≤ f 271 j ∧ f 271 j ≤ 255) (h0 : 0 ≤ k) (h1 : k ≤ 100) : aw_cl d 294 [(110, 270), (0, k)] f Q = Q (0, if ot (f 271) k = true then 1 else 0) f := by
  apply aw_det
  unfold ot
  have b4 := hb (k + 4)
  by_cases a0 : f 271 k ≤ 2
  · by_cases a6 : f 271 k = 2
    · by_cases a4 : f 271 (k + 4) ≤ 1
      · have a5 : f 271 (k + 4) = 0 ∨ f 271 (k + 4) = 1 := by omega
        by_cases a1 : f 271 (k + 1) ≤ 99
        · by_cases a2 : f 271 (k + 2) ≤ 99
          · by_cases a3 : f 271 (k + 3) ≤ 99
            · rcases a5 with a5 | a5 <;> simp (disch := omega) [q294, r294_0, r294_1, r294_4, r294_5, r294_6, r294_7, r294_10, r294_11, r294_14, r294_15, r294_16, r294_17, r294_18, r294_19, r294_22, r294_23, r294_24, r294_25, r294_28, r294_29, r294_32, r294_33, r294_36, r294_37, r294_38, r294_39, r294_42, r294_43, r294_44, r294_45, r294_46, r294_48, r294_51, r294_52, r294_55, r294_56, r294_57, r294_58, r294_59, r294_61, r294_64, r294_65, r294_68, r294_69, r294_70, r294_71, r294_72, r294_74, r294_77, r294_78, r294_81, r294_82, cs_nil, cs_cons, lc_lt, lc_ge, lc_gt, lc_le, lc_eq, hx, ln_271, am_wid2, le_T, lt_T, le_F, lt_F, a5, a6]
            · simp (disch := omega) [q294, r294_0, r294_1, r294_4, r294_5, r294_6, r294_7, r294_10, r294_11, r294_14, r294_15, r294_16, r294_17, r294_18, r294_19, r294_22, r294_23, r294_24, r294_25, r294_28, r294_29, r294_32, r294_33, r294_36, r294_37, r294_38, r294_39, r294_42, r294_43, r294_44, r294_45, r294_46, r294_48, r294_51, r294_52, r294_55, r294_56, r294_57, r294_58, r294_59, r294_61, r294_64, r294_65, r294_68, r294_69, r294_70, r294_71, r294_72, r294_74, r294_77, r294_78, r294_81, r294_82, cs_nil, cs_cons, lc_lt, lc_ge, lc_gt, lc_le, lc_eq, hx, ln_271, am_wid2, le_T, lt_T, le_F, lt_F, a6]
          · simp (disch := omega) [q294, r294_0, r294_1, r294_4, r294_5, r294_6, r294_7, r294_10, r294_11, r294_14, r294_15, r294_16, r294_17, r294_18, r294_19, r294_22, r294_23, r294_24, r294_25, r294_28, r294_29, r294_32, r294_33, r294_36, r294_37, r294_38, r294_39, r294_42, r294_43, r294_44, r294_45, r294_46, r294_48, r294_51, r294_52, r294_55, r294_56, r294_57, r294_58, r294_59, r294_61, r294_64, r294_65, r294_68, r294_69, r294_70, r294_71, r294_72, r294_74, r294_77, r294_78, r294_81, r294_82, cs_nil, cs_cons, lc_lt, lc_ge, lc_gt, lc_le, lc_eq, hx, ln_271, am_wid2, le_T, lt_T, le_F, lt_F, a6]
        · simp (disch := omega) [q294, r294_0, r294_1, r294_4, r294_5, r294_6, r294_7, r294_10, r294_11, r294_14, r294_15, r294_16, r294_17, r294_18, r294_19, r294_22, r294_23, r294_24, r294_25, r294_28, r294_29, r294_32, r294_33, r294_36, r294_37, r294_38, r294_39, r294_42, r294_43, r294_44, r294_45, r294_46, r294_48, r294_51, r294_52, r294_55, r294_56, r294_57, r294_58, r294_59, r294_61, r294_64, r294_65, r294_68, r294_69, r294_70, r294_71, r294_72, r294_74, r294_77, r294_78, r294_81, r294_82, cs_nil, cs_cons, lc_lt, lc_ge, lc_gt, lc_le, lc_eq, hx, ln_271, am_wid2, le_T, lt_T, le_F, lt_F, a6]
      · have a5 : ¬ f 271 (k + 4) = 0 ∧ ¬ f 271 (k + 4) = 1 := by omega
        simp (disch := omega) [q294, r294_0, r294_1, r294_4, r294_5, r294_6, r294_7, r294_10, r294_11, r294_14, r294_15, r294_16, r294_17, r294_18, r294_19, r294_22, r294_23, r294_24, r294_25, r294_28, r294_29, r294_32, r294_33, r294_36, r294_37, r294_38, r294_39, r294_42, r294_43, r294_44, r294_45, r294_46, r294_48, r294_51, r294_52, r294_55, r294_56, r294_57, r294_58, r294_59, r294_61, r294_64, r294_65, r294_68, r294_69, r294_70, r294_71, r294_72, r294_74, r294_77, r294_78, r294_81, r294_82, cs_nil, cs_cons, lc_lt, lc_ge, lc_gt, lc_le, lc_eq, hx, ln_271, am_wid2, le_T, lt_T, le_F, lt_F, a5, a6]
    · by_cases a4 : f 271 (k + 4) = 0
      · by_cases a1 : f 271 (k + 1) ≤ 99
        · by_cases a2 : f 271 (k + 2) ≤ 99
          · by_cases a3 : f 271 (k + 3) ≤ 99
            · simp (disch := omega) [q294, r294_0, r294_1, r294_4, r294_5, r294_6, r294_7, r294_10, r294_11, r294_14, r294_15, r294_16, r294_17, r294_18, r294_19, r294_22, r294_23, r294_24, r294_25, r294_28, r294_29, r294_32, r294_33, r294_36, r294_37, r294_38, r294_39, r294_42, r294_43, r294_44, r294_45, r294_46, r294_48, r294_51, r294_52, r294_55, r294_56, r294_57, r294_58, r294_59, r294_61, r294_64, r294_65, r294_68, r294_69, r294_70, r294_71, r294_72, r294_74, r294_77, r294_78, r294_81, r294_82, cs_nil, cs_cons, lc_lt, lc_ge, lc_gt, lc_le, lc_eq, hx, ln_271, am_wid2, le_T, lt_T, le_F, lt_F, a4, a6]
            · simp (disch := omega) [q294, r294_0, r294_1, r294_4, r294_5, r294_6, r294_7, r294_10, r294_11, r294_14, r294_15, r294_16, r294_17, r294_18, r294_19, r294_22, r294_23, r294_24, r294_25, r294_28, r294_29, r294_32, r294_33, r294_36, r294_37, r294_38, r294_39, r294_42, r294_43, r294_44, r294_45, r294_46, r294_48, r294_51, r294_52, r294_55, r294_56, r294_57, r294_58, r294_59, r294_61, r294_64, r294_65, r294_68, r294_69, r294_70, r294_71, r294_72, r294_74, r294_77, r294_78, r294_81, r294_82, cs_nil, cs_cons, lc_lt, lc_ge, lc_gt, lc_le, lc_eq, hx, ln_271, am_wid2, le_T, lt_T, le_F, lt_F, a4, a6]
          · simp (disch := omega) [q294, r294_0, r294_1, r294_4, r294_5, r294_6, r294_7, r294_10, r294_11, r294_14, r294_15, r294_16, r294_17, r294_18, r294_19, r294_22, r294_23, r294_24, r294_25, r294_28, r294_29, r294_32, r294_33, r294_36, r294_37, r294_38, r294_39, r294_42, r294_43, r294_44, r294_45, r294_46, r294_48, r294_51, r294_52, r294_55, r294_56, r294_57, r294_58, r294_59, r294_61, r294_64, r294_65, r294_68, r294_69, r294_70, r294_71, r294_72, r294_74, r294_77, r294_78, r294_81, r294_82, cs_nil, cs_cons, lc_lt, lc_ge, lc_gt, lc_le, lc_eq, hx, ln_271, am_wid2, le_T, lt_T, le_F, lt_F, a4, a6]
        · simp (disch := omega) [q294, r294_0, r294_1, r294_4, r294_5, r294_6, r294_7, r294_10, r294_11, r294_14, r294_15, r294_16, r294_17, r294_18, r294_19, r294_22, r294_23, r294_24, r294_25, r294_28, r294_29, r294_32, r294_33, r294_36, r294_37, r294_38, r294_39, r294_42, r294_43, r294_44, r294_45, r294_46, r294_48, r294_51, r294_52, r294_55, r294_56, r294_57, r294_58, r294_59, r294_61, r294_64, r294_65, r294_68, r294_69, r294_70, r294_71, r294_72, r294_74, r294_77, r294_78, r294_81, r294_82, cs_nil, cs_cons, lc_lt, lc_ge, lc_gt, lc_le, lc_eq, hx, ln_271, am_wid2, le_T, lt_T, le_F, lt_F, a4, a6]
      · simp (disch := omega) [q294, r294_0, r294_1, r294_4, r294_5, r294_6, r294_7, r294_10, r294_11, r294_14, r294_15, r294_16, r294_17, r294_18, r294_19, r294_22, r294_23, r294_24, r294_25, r294_28, r294_29, r294_32, r294_33, r294_36, r294_37, r294_38, r294_39, r294_42, r294_43, r294_44, r294_45, r294_46, r294_48, r294_51, r294_52, r294_55, r294_56, r294_57, r294_58, r294_59, r294_61, r294_64, r294_65, r294_68, r294_69, r294_70, r294_71, r294_72, r294_74, r294_77, r294_78, r294_81, r294_82, cs_nil, cs_cons, lc_lt, lc_ge, lc_gt, lc_le, lc_eq, hx, ln_271, am_wid2, le_T, lt_T, le_F, lt_F, a4, a6]
  · simp (disch := omega) [q294, r294_0, r294_1, r294_4, r294_5, r294_6, r294_7, r294_10, r294_11, r294_14, r294_15, r294_16, r294_17, r294_18, r294_19, r294_22, r294_23, r294_24, r294_25, r294_28, r294_29, r294_32, r294_33, r294_36, r294_37, r294_38, r294_39, r294_42, r294_43, r294_44, r294_45, r294_46, r294_48, r294_51, r294_52, r294_55, r294_56, r294_57, r294_58, r294_59, r294_61, r294_64, r294_65, r294_68, r294_69, r294_70, r294_71, r294_72, r294_74, r294_77, r294_78, r294_81, r294_82, cs_nil, cs_cons, lc_lt, lc_ge, lc_gt, lc_le, lc_eq, hx, ln_271, am_wid2, le_T, lt_T, le_F, lt_F]
theorem c_isImage (h : IW f n m r L ρ τ z l Z) : aw_cl (d + 1) 154 [(109, 0)] f Q = Q (0, if oi (f 15) n (f 14 1) = true then 1 else 0) f := by
  obtain ⟨t1, t2, t3⟩ := h.2.2.2.1
  have hn := (iw_n h).1
  have hx : f 0 0 = 14 ∧ f 14 0 = 15 := ⟨fx_0_0 h.1.1, fx_14_0 h.1.1⟩
  have hb : ∀ j, 0 ≤ f 15 j ∧ f 15 j ≤ 255 := fun j => (t3 j).2
  have key : ∀ (j : Nat) (t : Int), t + j = n → 0 ≤ t → aw_wp (d + 1) 154 88 [(109, 0), (0, (n : Int)), (0, 2 + 5 * (n : Int)), (0, t)] [] f (fun v f1 => v = (0, if ag (fun t => ot (f 15) (2 + 5 * t)) j t = true then 1 else 0) ∧ f1 = f) := by
    intro j
    induction j with
    | zero =>
      intro t h1 h2
      rw [r154_88]
      simp (disch := omega) [q154, r154_0, r154_1, r154_4, r154_7, r154_10, r154_11, r154_12, r154_13, r154_14, r154_15, r154_16, r154_17, r154_18, r154_21, r154_24, r154_25, r154_26, r154_27, r154_30, r154_31, r154_34, r154_37, r154_38, r154_39, r154_40, r154_43, r154_46, r154_47, r154_50, r154_53, r154_54, r154_55, r154_58, r154_59, r154_62, r154_65, r154_66, r154_67, r154_68, r154_69, r154_72, r154_75, r154_76, r154_77, r154_78, r154_81, r154_84, r154_85, r154_86, r154_87, r154_89, r154_90, r154_93, r154_94, r154_95, r154_96, r154_97, r154_98, r154_99, r154_102, r154_105, r154_106, r154_107, r154_110, r154_113, r154_114, cs_nil, cs_cons, lc_lt, lc_ge, lc_gt, lc_le, lc_eq, le_T, lt_F, ag]
    | succ j ih =>
      intro t h1 h2
      have ih' := ih (t + 1) (by omega) (by omega)
      rw [r154_88]
      by_cases hp : ot (f 15) (2 + 5 * t) = true
      · simpa (disch := omega) [q154, r154_0, r154_1, r154_4, r154_7, r154_10, r154_11, r154_12, r154_13, r154_14, r154_15, r154_16, r154_17, r154_18, r154_21, r154_24, r154_25, r154_26, r154_27, r154_30, r154_31, r154_34, r154_37, r154_38, r154_39, r154_40, r154_43, r154_46, r154_47, r154_50, r154_53, r154_54, r154_55, r154_58, r154_59, r154_62, r154_65, r154_66, r154_67, r154_68, r154_69, r154_72, r154_75, r154_76, r154_77, r154_78, r154_81, r154_84, r154_85, r154_86, r154_87, r154_89, r154_90, r154_93, r154_94, r154_95, r154_96, r154_97, r154_98, r154_99, r154_102, r154_105, r154_106, r154_107, r154_110, r154_113, r154_114, cs_nil, cs_cons, lc_lt, lc_ge, lc_gt, lc_le, lc_eq, le_F, lt_T, am_wid2, c_ot hx hb, hp, ag] using ih'
      · simp (disch := omega) [q154, r154_0, r154_1, r154_4, r154_7, r154_10, r154_11, r154_12, r154_13, r154_14, r154_15, r154_16, r154_17, r154_18, r154_21, r154_24, r154_25, r154_26, r154_27, r154_30, r154_31, r154_34, r154_37, r154_38, r154_39, r154_40, r154_43, r154_46, r154_47, r154_50, r154_53, r154_54, r154_55, r154_58, r154_59, r154_62, r154_65, r154_66, r154_67, r154_68, r154_69, r154_72, r154_75, r154_76, r154_77, r154_78, r154_81, r154_84, r154_85, r154_86, r154_87, r154_89, r154_90, r154_93, r154_94, r154_95, r154_96, r154_97, r154_98, r154_99, r154_102, r154_105, r154_106, r154_107, r154_110, r154_113, r154_114, cs_nil, cs_cons, lc_lt, lc_ge, lc_gt, lc_le, lc_eq, le_F, lt_T, am_wid2, c_ot hx hb, hp, ag]
  have e := fun (dd : Nat) (QQ : am_V → am_F → Prop) => c_seal (d := dd) (f := f) (Q := QQ) (a := 15) (K := 2 + 5 * n) (g := f 15) (by omega) (by omega) (by rw [ln_15]; omega) (fun j a b => rfl) (fun j a b => by have := hb j; omega)
  have e9 : ((2 + 5 * n : Nat) : Int) = 2 + 5 * (n : Int) := by omega
  rw [e9] at e
  have b0 := hb 0
  have b1 := hb 1
  apply aw_det
  unfold oi
  by_cases s : f 14 1 = 3 + 5 * (n : Int)
  · have s' : f 14 1 = 2 + 5 * (n : Int) + 1 := by omega
    by_cases s1 : f 15 (2 + 5 * (n : Int)) = sl (f 15) (2 + 5 * n)
    · by_cases s2 : 256 * f 15 0 + f 15 1 ≤ 999
      · have := key n 0 (by omega) (by omega)
        simpa (disch := omega) [q154, r154_0, r154_1, r154_4, r154_7, r154_10, r154_11, r154_12, r154_13, r154_14, r154_15, r154_16, r154_17, r154_18, r154_21, r154_24, r154_25, r154_26, r154_27, r154_30, r154_31, r154_34, r154_37, r154_38, r154_39, r154_40, r154_43, r154_46, r154_47, r154_50, r154_53, r154_54, r154_55, r154_58, r154_59, r154_62, r154_65, r154_66, r154_67, r154_68, r154_69, r154_72, r154_75, r154_76, r154_77, r154_78, r154_81, r154_84, r154_85, r154_86, r154_87, r154_89, r154_90, r154_93, r154_94, r154_95, r154_96, r154_97, r154_98, r154_99, r154_102, r154_105, r154_106, r154_107, r154_110, r154_113, r154_114, cs_nil, cs_cons, lc_lt, lc_ge, lc_gt, lc_le, lc_eq, c_fx h.1.1, iw_l h, ln_15, am_wid2, e, s, s1, s2, le_T, lt_T, le_F, lt_F, show 3 + 5 * (n : Int) = 2 + 5 * (n : Int) + 1 by omega] using this
      · simp (disch := omega) [q154, r154_0, r154_1, r154_4, r154_7, r154_10, r154_11, r154_12, r154_13, r154_14, r154_15, r154_16, r154_17, r154_18, r154_21, r154_24, r154_25, r154_26, r154_27, r154_30, r154_31, r154_34, r154_37, r154_38, r154_39, r154_40, r154_43, r154_46, r154_47, r154_50, r154_53, r154_54, r154_55, r154_58, r154_59, r154_62, r154_65, r154_66, r154_67, r154_68, r154_69, r154_72, r154_75, r154_76, r154_77, r154_78, r154_81, r154_84, r154_85, r154_86, r154_87, r154_89, r154_90, r154_93, r154_94, r154_95, r154_96, r154_97, r154_98, r154_99, r154_102, r154_105, r154_106, r154_107, r154_110, r154_113, r154_114, cs_nil, cs_cons, lc_lt, lc_ge, lc_gt, lc_le, lc_eq, c_fx h.1.1, iw_l h, ln_15, am_wid2, e, s, s1, s2, le_T, lt_T, le_F, lt_F, show 3 + 5 * (n : Int) = 2 + 5 * (n : Int) + 1 by omega]
    · simp (disch := omega) [q154, r154_0, r154_1, r154_4, r154_7, r154_10, r154_11, r154_12, r154_13, r154_14, r154_15, r154_16, r154_17, r154_18, r154_21, r154_24, r154_25, r154_26, r154_27, r154_30, r154_31, r154_34, r154_37, r154_38, r154_39, r154_40, r154_43, r154_46, r154_47, r154_50, r154_53, r154_54, r154_55, r154_58, r154_59, r154_62, r154_65, r154_66, r154_67, r154_68, r154_69, r154_72, r154_75, r154_76, r154_77, r154_78, r154_81, r154_84, r154_85, r154_86, r154_87, r154_89, r154_90, r154_93, r154_94, r154_95, r154_96, r154_97, r154_98, r154_99, r154_102, r154_105, r154_106, r154_107, r154_110, r154_113, r154_114, cs_nil, cs_cons, lc_lt, lc_ge, lc_gt, lc_le, lc_eq, c_fx h.1.1, iw_l h, ln_15, am_wid2, e, s, s1, le_T, lt_T, le_F, lt_F, show 3 + 5 * (n : Int) = 2 + 5 * (n : Int) + 1 by omega]
  · have s' : ¬ f 14 1 = 2 + 5 * (n : Int) + 1 := by omega
    simp (disch := omega) [q154, r154_0, r154_1, r154_4, r154_7, r154_10, r154_11, r154_12, r154_13, r154_14, r154_15, r154_16, r154_17, r154_18, r154_21, r154_24, r154_25, r154_26, r154_27, r154_30, r154_31, r154_34, r154_37, r154_38, r154_39, r154_40, r154_43, r154_46, r154_47, r154_50, r154_53, r154_54, r154_55, r154_58, r154_59, r154_62, r154_65, r154_66, r154_67, r154_68, r154_69, r154_72, r154_75, r154_76, r154_77, r154_78, r154_81, r154_84, r154_85, r154_86, r154_87, r154_89, r154_90, r154_93, r154_94, r154_95, r154_96, r154_97, r154_98, r154_99, r154_102, r154_105, r154_106, r154_107, r154_110, r154_113, r154_114, cs_nil, cs_cons, lc_lt, lc_ge, lc_gt, lc_le, lc_eq, c_fx h.1.1, iw_l h, am_wid2, s, s', le_T, lt_T, le_F, lt_F]
theorem m_isImage (h : MB f n m r L ρ τ z) {s : Int} (hs : 0 ≤ s ∧ s ≤ 1600) (hb : ∀ j, 0 ≤ f 271 j ∧ f 271 j ≤ 255) : aw_cl (d + 2) 293 [(110, 270), (0, s)] f Q = Q (0, if oi (f 271) n s = true then 1 else 0) f := by
  have hn := h.2.2.1.1
  have hx : f 270 0 = 271 := h.1.1.1
  have key : ∀ (j : Nat) (t : Int), t + j = n → 0 ≤ t → aw_wp (d + 2) 293 60 [(110, 270), (0, s), (0, t)] [] f (fun v f1 => v = (0, if ag (fun t => ot (f 271) (2 + 5 * t)) j t = true then 1 else 0) ∧ f1 = f) := by
    intro j
    induction j with
    | zero =>
      intro t h1 h2
      rw [r293_60]
      simp (disch := omega) [q293, r293_0, r293_1, r293_2, r293_3, r293_4, r293_7, r293_8, r293_9, r293_12, r293_13, r293_16, r293_17, r293_18, r293_19, r293_20, r293_21, r293_24, r293_25, r293_26, r293_27, r293_30, r293_33, r293_36, r293_37, r293_40, r293_41, r293_42, r293_43, r293_44, r293_47, r293_48, r293_49, r293_50, r293_53, r293_56, r293_57, r293_58, r293_59, r293_61, r293_62, r293_65, r293_68, r293_69, r293_70, r293_71, r293_72, r293_73, r293_74, r293_77, r293_80, r293_81, r293_82, r293_85, r293_88, r293_89, q209, r209_0, r209_1, r209_4, r209_5, r209_6, cs_nil, cs_cons, lc_lt, lc_ge, lc_gt, lc_le, lc_eq, mfx_u h.1.1, mb_m h, ln_301, le_T, lt_F, ag]
    | succ j ih =>
      intro t h1 h2
      have ih' := ih (t + 1) (by omega) (by omega)
      rw [r293_60]
      by_cases hp : ot (f 271) (2 + 5 * t) = true
      · simpa (disch := omega) [q293, r293_0, r293_1, r293_2, r293_3, r293_4, r293_7, r293_8, r293_9, r293_12, r293_13, r293_16, r293_17, r293_18, r293_19, r293_20, r293_21, r293_24, r293_25, r293_26, r293_27, r293_30, r293_33, r293_36, r293_37, r293_40, r293_41, r293_42, r293_43, r293_44, r293_47, r293_48, r293_49, r293_50, r293_53, r293_56, r293_57, r293_58, r293_59, r293_61, r293_62, r293_65, r293_68, r293_69, r293_70, r293_71, r293_72, r293_73, r293_74, r293_77, r293_80, r293_81, r293_82, r293_85, r293_88, r293_89, q209, r209_0, r209_1, r209_4, r209_5, r209_6, cs_nil, cs_cons, lc_lt, lc_ge, lc_gt, lc_le, lc_eq, mfx_u h.1.1, mb_m h, ln_301, le_F, lt_T, am_wid2, m_ot hx hb, hp, ag] using ih'
      · simp (disch := omega) [q293, r293_0, r293_1, r293_2, r293_3, r293_4, r293_7, r293_8, r293_9, r293_12, r293_13, r293_16, r293_17, r293_18, r293_19, r293_20, r293_21, r293_24, r293_25, r293_26, r293_27, r293_30, r293_33, r293_36, r293_37, r293_40, r293_41, r293_42, r293_43, r293_44, r293_47, r293_48, r293_49, r293_50, r293_53, r293_56, r293_57, r293_58, r293_59, r293_61, r293_62, r293_65, r293_68, r293_69, r293_70, r293_71, r293_72, r293_73, r293_74, r293_77, r293_80, r293_81, r293_82, r293_85, r293_88, r293_89, q209, r209_0, r209_1, r209_4, r209_5, r209_6, cs_nil, cs_cons, lc_lt, lc_ge, lc_gt, lc_le, lc_eq, mfx_u h.1.1, mb_m h, ln_301, le_F, lt_T, am_wid2, m_ot hx hb, hp, ag]
  have b0 := hb 0
  have b1 := hb 1
  apply aw_det
  unfold oi
  by_cases s0 : s = 3 + 5 * (n : Int)
  · have e := fun (dd : Nat) (QQ : am_V → am_F → Prop) => m_seal (d := dd) (f := f) (Q := QQ) (a := 271) (K := 2 + 5 * n) (g := f 271) (by omega) (by omega) (by rw [ln_271]; omega) (fun j a b => rfl) (fun j a b => by have := hb j; omega)
    have e9 : ((2 + 5 * n : Nat) : Int) = 2 + 5 * (n : Int) := by omega
    rw [e9] at e
    have e8 : 3 + 5 * (n : Int) - 1 = 2 + 5 * (n : Int) := by omega
    by_cases s1 : f 271 (2 + 5 * (n : Int)) = sl (f 271) (2 + 5 * n)
    · by_cases s2 : 256 * f 271 0 + f 271 1 ≤ 999
      · have := key n 0 (by omega) (by omega)
        subst s0
        simpa (disch := omega) [q293, r293_0, r293_1, r293_2, r293_3, r293_4, r293_7, r293_8, r293_9, r293_12, r293_13, r293_16, r293_17, r293_18, r293_19, r293_20, r293_21, r293_24, r293_25, r293_26, r293_27, r293_30, r293_33, r293_36, r293_37, r293_40, r293_41, r293_42, r293_43, r293_44, r293_47, r293_48, r293_49, r293_50, r293_53, r293_56, r293_57, r293_58, r293_59, r293_61, r293_62, r293_65, r293_68, r293_69, r293_70, r293_71, r293_72, r293_73, r293_74, r293_77, r293_80, r293_81, r293_82, r293_85, r293_88, r293_89, q209, r209_0, r209_1, r209_4, r209_5, r209_6, cs_nil, cs_cons, lc_lt, lc_ge, lc_gt, lc_le, lc_eq, mfx_u h.1.1, mb_m h, ln_301, ln_271, am_wid2, e, e8, s1, s2, le_T, lt_T, le_F, lt_F] using this
      · subst s0
        simp (disch := omega) [q293, r293_0, r293_1, r293_2, r293_3, r293_4, r293_7, r293_8, r293_9, r293_12, r293_13, r293_16, r293_17, r293_18, r293_19, r293_20, r293_21, r293_24, r293_25, r293_26, r293_27, r293_30, r293_33, r293_36, r293_37, r293_40, r293_41, r293_42, r293_43, r293_44, r293_47, r293_48, r293_49, r293_50, r293_53, r293_56, r293_57, r293_58, r293_59, r293_61, r293_62, r293_65, r293_68, r293_69, r293_70, r293_71, r293_72, r293_73, r293_74, r293_77, r293_80, r293_81, r293_82, r293_85, r293_88, r293_89, q209, r209_0, r209_1, r209_4, r209_5, r209_6, cs_nil, cs_cons, lc_lt, lc_ge, lc_gt, lc_le, lc_eq, mfx_u h.1.1, mb_m h, ln_301, ln_271, am_wid2, e, e8, s1, s2, le_T, lt_T, le_F, lt_F]
    · subst s0
      simp (disch := omega) [q293, r293_0, r293_1, r293_2, r293_3, r293_4, r293_7, r293_8, r293_9, r293_12, r293_13, r293_16, r293_17, r293_18, r293_19, r293_20, r293_21, r293_24, r293_25, r293_26, r293_27, r293_30, r293_33, r293_36, r293_37, r293_40, r293_41, r293_42, r293_43, r293_44, r293_47, r293_48, r293_49, r293_50, r293_53, r293_56, r293_57, r293_58, r293_59, r293_61, r293_62, r293_65, r293_68, r293_69, r293_70, r293_71, r293_72, r293_73, r293_74, r293_77, r293_80, r293_81, r293_82, r293_85, r293_88, r293_89, q209, r209_0, r209_1, r209_4, r209_5, r209_6, cs_nil, cs_cons, lc_lt, lc_ge, lc_gt, lc_le, lc_eq, mfx_u h.1.1, mb_m h, ln_301, ln_271, am_wid2, e, e8, s1, le_T, lt_T, le_F, lt_F]
  · simp (disch := omega) [q293, r293_0, r293_1, r293_2, r293_3, r293_4, r293_7, r293_8, r293_9, r293_12, r293_13, r293_16, r293_17, r293_18, r293_19, r293_20, r293_21, r293_24, r293_25, r293_26, r293_27, r293_30, r293_33, r293_36, r293_37, r293_40, r293_41, r293_42, r293_43, r293_44, r293_47, r293_48, r293_49, r293_50, r293_53, r293_56, r293_57, r293_58, r293_59, r293_61, r293_62, r293_65, r293_68, r293_69, r293_70, r293_71, r293_72, r293_73, r293_74, r293_77, r293_80, r293_81, r293_82, r293_85, r293_88, r293_89, q209, r209_0, r209_1, r209_4, r209_5, r209_6, cs_nil, cs_cons, lc_lt, lc_ge, lc_gt, lc_le, lc_eq, mfx_u h.1.1, mb_m h, ln_301, am_wid2, s0, le_T, lt_T, le_F, lt_F]
/-- the state that a tape tells -/
def onz (B : Int → Int) (z : am_F) : am_F := fun i t => if i = 0 then 256 * B 0 + B 1 else if i ≤ 5 then B (1 + i + 5 * t) else if i = 10 then 0 else z i t
theorem on_O {B : Int → Int} (hb : ∀ j, 0 ≤ B j ∧ B j ≤ 255) (ho : OZ n z) {s : Int} (h : oi B n s = true) : OZ n (onz B z) := by
  unfold oi at h
  simp only [Bool.and_eq_true, decide_eq_true_eq] at h
  obtain ⟨_, _, h3, h4⟩ := h
  have b0 := hb 0
  have b1 := hb 1
  refine ⟨?_, fun t a b => ?_⟩
  · show 0 ≤ 256 * B 0 + B 1 ∧ 256 * B 0 + B 1 ≤ 999
    omega
  · have q := ag_t n 0 h4 t a (by omega)
    unfold ot at q
    simp only [Bool.and_eq_true, Bool.or_eq_true, decide_eq_true_eq] at q
    obtain ⟨q1, q2, q3, q4, q5⟩ := q
    have e1 : onz B z 1 t = B (2 + 5 * t) := rfl
    have e2 : onz B z 2 t = B (2 + 5 * t + 1) := by show B (1 + 2 + 5 * t) = _; congr 1; omega
    have e3 : onz B z 3 t = B (2 + 5 * t + 2) := by show B (1 + 3 + 5 * t) = _; congr 1; omega
    have e4 : onz B z 4 t = B (2 + 5 * t + 3) := by show B (1 + 4 + 5 * t) = _; congr 1; omega
    have e5 : onz B z 5 t = B (2 + 5 * t + 4) := by show B (1 + 5 + 5 * t) = _; congr 1; omega
    have e6 : onz B z 6 t = z 6 t := rfl
    have p0 := hb (2 + 5 * t)
    have p1 := hb (2 + 5 * t + 1)
    have p2 := hb (2 + 5 * t + 2)
    have p3 := hb (2 + 5 * t + 3)
    have p4 := (ho.2 t a b).2.2.2.2.2
    rw [e1, e2, e3, e4, e5, e6]
    omega
theorem c_takeL {B : Int → Int} (h : IW f n m r L ρ τ z l Z) (hB : ∀ j, f 15 j = B j) : ∀ (j : Nat) (t : Int) (x : am_V) (g : am_F), t + j = n → 0 ≤ t → (∀ c j : Int, ¬ ((47 ≤ c ∧ c ≤ 51) ∨ (c = 46 ∧ j = 10) ∨ (c = 14 ∧ j = 1)) → g c j = f c j) → (∀ i u : Int, 1 ≤ i → i ≤ 5 → 0 ≤ u → u < t → g (46 + i) u = B (1 + i + 5 * u)) → g 46 10 = 256 * B 0 + B 1 → (∀ g', (∀ c j : Int, ¬ ((47 ≤ c ∧ c ≤ 51) ∨ (c = 46 ∧ j = 10) ∨ (c = 14 ∧ j = 1)) → g' c j = f c j) → (∀ i u : Int, 1 ≤ i → i ≤ 5 → 0 ≤ u → u < n → g' (46 + i) u = B (1 + i + 5 * u)) → g' 46 10 = 256 * B 0 + B 1 → g' 14 1 = g 14 1 → Q (3, 0) (am_up g' 46 11 0)) → aw_wp d 156 32 [(109, 0), (0, t), x] [] g Q := by
  intro j
  have hn := (iw_n h).1
  have hl := h.1.2.2.1
  have hl0 : 0 ≤ l := by omega
  induction j with
  | zero =>
    intro t x g h1 h2 h3 h4 h5 hQ
    obtain ⟨tx, vx⟩ := x
    have := hQ g h3 (fun i u a b c e => h4 i u a b c (by omega)) h5 rfl
    have x6 : g 0 6 = 46 := (h3 _ _ (by omega)).trans (fx_0_6 h.1.1)
    have x9 : g 46 9 = l := (h3 _ _ (by omega)).trans (iw_l h).2.1
    have xn : g l 9 = n := (h3 _ _ (by omega)).trans (iw_l h).2.2.1
    rw [r156_32]
    simpa (disch := omega) [q156, r156_0, r156_1, r156_4, r156_7, r156_8, r156_11, r156_14, r156_15, r156_16, r156_17, r156_18, r156_21, r156_24, r156_25, r156_26, r156_27, r156_30, r156_31, r156_33, r156_34, r156_37, r156_40, r156_43, r156_46, r156_47, r156_48, r156_49, r156_50, r156_51, r156_52, r156_53, r156_56, r156_59, r156_60, r156_61, r156_64, r156_67, r156_68, r156_69, r156_70, r156_71, r156_74, r156_77, r156_78, r156_79, r156_82, r156_85, r156_86, r156_87, r156_88, r156_89, r156_90, r156_91, r156_94, r156_97, r156_98, r156_99, r156_102, r156_105, r156_106, r156_107, r156_108, r156_109, r156_110, r156_111, r156_114, r156_117, r156_118, r156_119, r156_122, r156_125, r156_126, r156_127, r156_128, r156_129, r156_130, r156_131, r156_134, r156_137, r156_138, r156_139, r156_142, r156_145, r156_146, r156_147, r156_148, r156_149, r156_150, r156_153, r156_156, r156_157, r156_160, r156_161, r156_164, cs_nil, cs_cons, lc_lt, lc_ge, lc_gt, lc_le, lc_eq, x6, x9, xn, hl0, le_T, lt_F] using this
  | succ j ih =>
    intro t x g h1 h2 h3 h4 h5 hQ
    obtain ⟨tx, vx⟩ := x
    have x6 : g 0 6 = 46 := (h3 _ _ (by omega)).trans (fx_0_6 h.1.1)
    have x0 : g 0 0 = 14 := (h3 _ _ (by omega)).trans (fx_0_0 h.1.1)
    have x14 : g 14 0 = 15 := (h3 _ _ (by omega)).trans (fx_14_0 h.1.1)
    have x9 : g 46 9 = l := (h3 _ _ (by omega)).trans (iw_l h).2.1
    have xn : g l 9 = n := (h3 _ _ (by omega)).trans (iw_l h).2.2.1
    have s := iw_S h
    have y0 : g 46 0 = 47 := (h3 _ _ (by omega)).trans s.1.1
    have y1 : g 46 1 = 48 := (h3 _ _ (by omega)).trans s.1.2.1
    have y2 : g 46 2 = 49 := (h3 _ _ (by omega)).trans s.1.2.2.1
    have y3 : g 46 3 = 50 := (h3 _ _ (by omega)).trans s.1.2.2.2.1
    have y4 : g 46 4 = 51 := (h3 _ _ (by omega)).trans s.1.2.2.2.2.1
    have v : ∀ j, g 15 j = B j := fun j => (h3 _ _ (by omega)).trans (hB j)
    clear s
    have ih' := ih (t + 1) (0, 2 + 5 * t) (am_up (am_up (am_up (am_up (am_up g 47 t (B (2 + 5 * t))) 48 t (B (2 + 5 * t + 1))) 49 t (B (2 + 5 * t + 2))) 50 t (B (2 + 5 * t + 3))) 51 t (B (2 + 5 * t + 4))) (by omega) (by omega) (fun c j hc => by rw [am_un (by omega), am_un (by omega), am_un (by omega), am_un (by omega), am_un (by omega), h3 _ _ hc]) (fun i u a1 a2 a3 a4 => ?_) (by rw [am_un (by omega), am_un (by omega), am_un (by omega), am_un (by omega), am_un (by omega)]; exact h5) (fun g' k1 k2 k3 k4 => hQ g' k1 k2 k3 (by rw [k4, am_un (by omega), am_un (by omega), am_un (by omega), am_un (by omega), am_un (by omega)]))
    · rw [r156_32]
      simpa (disch := omega) [q156, r156_0, r156_1, r156_4, r156_7, r156_8, r156_11, r156_14, r156_15, r156_16, r156_17, r156_18, r156_21, r156_24, r156_25, r156_26, r156_27, r156_30, r156_31, r156_33, r156_34, r156_37, r156_40, r156_43, r156_46, r156_47, r156_48, r156_49, r156_50, r156_51, r156_52, r156_53, r156_56, r156_59, r156_60, r156_61, r156_64, r156_67, r156_68, r156_69, r156_70, r156_71, r156_74, r156_77, r156_78, r156_79, r156_82, r156_85, r156_86, r156_87, r156_88, r156_89, r156_90, r156_91, r156_94, r156_97, r156_98, r156_99, r156_102, r156_105, r156_106, r156_107, r156_108, r156_109, r156_110, r156_111, r156_114, r156_117, r156_118, r156_119, r156_122, r156_125, r156_126, r156_127, r156_128, r156_129, r156_130, r156_131, r156_134, r156_137, r156_138, r156_139, r156_142, r156_145, r156_146, r156_147, r156_148, r156_149, r156_150, r156_153, r156_156, r156_157, r156_160, r156_161, r156_164, cs_nil, cs_cons, lc_lt, lc_ge, lc_gt, lc_le, lc_eq, x6, x0, x14, x9, xn, y0, y1, y2, y3, y4, v, ln_15, ln_47, ln_48, ln_49, ln_50, ln_51, am_un, am_wid2, hl0, le_T, lt_T, le_F, lt_F, am_fitE] using ih'
    · by_cases hu : u = t
      · subst hu
        obtain rfl | rfl | rfl | rfl | rfl : i = 1 ∨ i = 2 ∨ i = 3 ∨ i = 4 ∨ i = 5 := by omega
        · rw [am_un (by omega), am_un (by omega), am_un (by omega), am_un (by omega)]; exact am_ue
        · rw [am_un (by omega), am_un (by omega), am_un (by omega)]; refine am_ue.trans ?_; congr 1; omega
        · rw [am_un (by omega), am_un (by omega)]; refine am_ue.trans ?_; congr 1; omega
        · rw [am_un (by omega)]; refine am_ue.trans ?_; congr 1; omega
        · refine am_ue.trans ?_; congr 1; omega
      · rw [am_un (by omega), am_un (by omega), am_un (by omega), am_un (by omega), am_un (by omega)]
        exact h4 i u a1 a2 a3 (by omega)
theorem H_on (h : IW f n m r L ρ τ z l Z) : HC d 153 292 [] 0 f := by
  unfold HC
  have hn := (iw_n h).1
  obtain ⟨_, ⟨cb, cn⟩, ⟨mb, nm⟩, tp, rf, pc, fs, _, ps⟩ := id h
  obtain ⟨t1, t2, t3⟩ := id tp
  have hb : ∀ j, 0 ≤ f 15 j ∧ f 15 j ≤ 255 := fun j => (t3 j).2
  have e15 : f 271 = f 15 := by funext j; exact (t3 j).1
  have b0 := hb 0
  have b1 := hb 1
  by_cases ho : oi (f 15) n (f 14 1) = true
  · simp (disch := omega) [q153, r153_0, r153_1, r153_4, r153_5, r153_6, r153_9, r153_10, r153_13, r153_14, r153_17, r153_18, r153_19, r153_22, r153_23, r153_24, r153_25, r153_26, r153_29, r153_30, r153_33, r153_34, r153_37, r153_38, q156, r156_0, r156_1, r156_4, r156_7, r156_8, r156_11, r156_14, r156_15, r156_16, r156_17, r156_18, r156_21, r156_24, r156_25, r156_26, r156_27, r156_30, r156_31, r156_33, r156_34, r156_37, r156_40, r156_43, r156_46, r156_47, r156_48, r156_49, r156_50, r156_51, r156_52, r156_53, r156_56, r156_59, r156_60, r156_61, r156_64, r156_67, r156_68, r156_69, r156_70, r156_71, r156_74, r156_77, r156_78, r156_79, r156_82, r156_85, r156_86, r156_87, r156_88, r156_89, r156_90, r156_91, r156_94, r156_97, r156_98, r156_99, r156_102, r156_105, r156_106, r156_107, r156_108, r156_109, r156_110, r156_111, r156_114, r156_117, r156_118, r156_119, r156_122, r156_125, r156_126, r156_127, r156_128, r156_129, r156_130, r156_131, r156_134, r156_137, r156_138, r156_139, r156_142, r156_145, r156_146, r156_147, r156_148, r156_149, r156_150, r156_153, r156_156, r156_157, r156_160, r156_161, r156_164, cs_nil, cs_cons, lc_lt, lc_ge, lc_gt, lc_le, lc_eq, c_fx h.1.1, c_isImage h, ho, am_un, ln_15, am_wid2]
    refine c_takeL (B := f 15) h (fun _ => rfl) n 0 _ _ (by omega) (by omega) (fun c j hc => by rw [am_un (by omega), am_un (by omega)]) (fun i u _ _ _ _ => by omega) am_ue ?_
    intro g1 a1 a2 a3 a4
    rw [am_un (by omega), am_ue] at a4
    have x8 : g1 0 8 = 66 := (a1 _ _ (by omega)).trans (fx_0_8 h.1.1)
    simp (disch := omega) [q153, r153_0, r153_1, r153_4, r153_5, r153_6, r153_9, r153_10, r153_13, r153_14, r153_17, r153_18, r153_19, r153_22, r153_23, r153_24, r153_25, r153_26, r153_29, r153_30, r153_33, r153_34, r153_37, r153_38, q156, r156_0, r156_1, r156_4, r156_7, r156_8, r156_11, r156_14, r156_15, r156_16, r156_17, r156_18, r156_21, r156_24, r156_25, r156_26, r156_27, r156_30, r156_31, r156_33, r156_34, r156_37, r156_40, r156_43, r156_46, r156_47, r156_48, r156_49, r156_50, r156_51, r156_52, r156_53, r156_56, r156_59, r156_60, r156_61, r156_64, r156_67, r156_68, r156_69, r156_70, r156_71, r156_74, r156_77, r156_78, r156_79, r156_82, r156_85, r156_86, r156_87, r156_88, r156_89, r156_90, r156_91, r156_94, r156_97, r156_98, r156_99, r156_102, r156_105, r156_106, r156_107, r156_108, r156_109, r156_110, r156_111, r156_114, r156_117, r156_118, r156_119, r156_122, r156_125, r156_126, r156_127, r156_128, r156_129, r156_130, r156_131, r156_134, r156_137, r156_138, r156_139, r156_142, r156_145, r156_146, r156_147, r156_148, r156_149, r156_150, r156_153, r156_156, r156_157, r156_160, r156_161, r156_164, cs_nil, cs_cons, lc_lt, lc_ge, lc_gt, lc_le, lc_eq, x8, am_un]
    have gf : ∀ c j : Int, ¬ ((47 ≤ c ∧ c ≤ 51) ∨ (c = 46 ∧ (j = 10 ∨ j = 11)) ∨ (c = 14 ∧ j = 1) ∨ (c = 66 ∧ j = 2)) → (am_up (am_up g1 46 11 0) 66 2 0) c j = f c j := fun c j hc => by rw [am_un (by omega), am_un (by omega), a1 _ _ (by omega)]
    have g14 : (am_up (am_up g1 46 11 0) 66 2 0) 14 1 = 0 := by rw [am_un (by omega), am_un (by omega)]; exact a4
    have g66 : (am_up (am_up g1 46 11 0) 66 2 0) 66 2 = 0 := am_ue
    have g11 : (am_up (am_up g1 46 11 0) 66 2 0) 46 11 = 0 := by rw [am_un (by omega), am_ue]
    have gZ : CZ (am_up (am_up g1 46 11 0) 66 2 0) 46 l n (onz (f 15) z) := by
      refine ⟨sS_fr cb.2.2.1.1 (fun j _ _ => gf _ _ (by omega)), by omega, (gf _ _ (by omega)).trans cb.2.2.1.2.2.1, ?_, fun i t q1 q2 q3 q4 => ?_⟩
      · rw [am_un (by omega), am_un (by omega)]; exact a3
      · by_cases h6 : i = 6
        · subst h6
          rw [gf _ _ (by omega)]
          exact cb.2.2.1.2.2.2.2 6 t q1 q2 q3 q4
        · rw [am_un (by omega), am_un (by omega), a2 i t q1 (by omega) q3 q4]
          unfold onz
          rw [if_neg (by omega), if_pos (by omega)]
    generalize am_up (am_up g1 46 11 0) 66 2 0 = g2 at gf g14 g66 g11 gZ
    have hB2 : MB g2 n m r L ρ τ z := MB_fr mb (fun c j _ _ => gf _ _ (by omega)) (fun j _ => gf _ _ (by omega))
    have e71 : g2 271 = f 15 := by rw [← e15]; funext j; exact gf _ _ (by omega)
    have e1 : g2 270 1 = f 14 1 := (gf _ _ (by omega)).trans t1
    have hB3 : MB (am_up g2 270 1 0) n m r L ρ τ z := MB_fr hB2 (fun c j _ _ => am_un (by omega)) (fun j _ => am_un (by omega))
    have e72 : (am_up g2 270 1 0) 271 = f 15 := by rw [am_ur (by omega)]; exact e71
    have ei := fun (dd : Nat) (QQ : am_V → am_F → Prop) => m_isImage (d := dd) (Q := QQ) (s := f 14 1) hB3 t2 (by rw [e72]; exact hb)
    rw [e72] at ei
    have v0 : ∀ j, g2 271 j = f 15 j := fun j => congrFun e71 j
    have key : ∀ (j : Nat) (k : Int) (Q : am_V → am_F → Prop) (w : am_F), w = am_up (am_up g2 270 1 0) 308 0 (256 * f 15 0 + f 15 1) → k + j = 5 * n → 0 ≤ k → aw_wp (d + 40) 292 87 [(110, 270), (0, f 14 1), (0, 5 * (n : Int))] [] (am_cpy w 271 2 308 1 (5 * (n : Int))) Q → aw_wp (d + 40) 292 55 [(110, 270), (0, f 14 1), (0, k)] [] (am_cpy w 271 2 308 1 k) Q := by
      intro j
      induction j with
      | zero =>
        intro k Q w hw hk h0 hQ
        have hmw : mfx w := by rw [hw]; exact mfx_up hB3.1.1 (by omega)
        have hw3 : w 301 3 = n := by rw [hw, am_un (by omega)]; exact (mb_m hB3).1
        obtain rfl : k = 5 * n := by omega
        rw [r292_55]
        simpa (disch := omega) [q292, r292_56, r292_57, r292_58, r292_61, r292_62, q209, r209_0, r209_1, r209_4, r209_5, r209_6, cs_nil, cs_cons, lc_lt, lc_ge, lc_gt, lc_le, lc_eq, cpy_n, mfx_u hmw, hw3, ln_301, am_wid2] using hQ
      | succ j ih =>
        intro k Q w hw hk h0 hQ
        have hmw : mfx w := by rw [hw]; exact mfx_up hB3.1.1 (by omega)
        have hw3 : w 301 3 = n := by rw [hw, am_un (by omega)]; exact (mb_m hB3).1
        have ih' := ih (k + 1) Q w hw (by omega) (by omega) hQ
        have e := cpy_s (f := w) (a0 := 271) (sp := 2) (a := 308) (dp := 1) (k := k) (by omega) h0
        rw [r292_55]
        simpa (disch := omega) [q292, r292_0, r292_1, r292_4, r292_5, r292_6, r292_7, r292_10, r292_11, r292_12, r292_15, r292_18, r292_19, r292_22, r292_23, r292_24, r292_25, r292_26, r292_27, r292_28, r292_29, r292_30, r292_31, r292_34, r292_35, r292_38, r292_39, r292_42, r292_43, r292_44, r292_45, r292_46, r292_49, r292_50, r292_51, r292_52, r292_53, r292_54, r292_56, r292_57, r292_58, r292_61, r292_62, r292_65, r292_66, r292_69, r292_70, r292_71, r292_72, r292_73, r292_76, r292_77, r292_78, r292_79, r292_80, r292_81, r292_84, r292_87, r292_88, r292_91, r292_93, r292_94, r292_95, r292_96, r292_97, r292_100, r292_101, q209, r209_0, r209_1, r209_4, r209_5, r209_6, cs_nil, cs_cons, lc_lt, lc_ge, lc_gt, lc_le, lc_eq, cpy_n, mfx_u hmw, hw3, ln_301, ln_308, ln_271, am_wid2, le_T, lt_T, le_F, lt_F, am_fitE, e] using ih'
    have k0 := fun Q => key (5 * n) 0 Q _ rfl (by omega) (by omega)
    rw [cpy_0] at k0
    simp (disch := omega) [q292, r292_0, r292_1, r292_4, r292_5, r292_6, r292_7, r292_10, r292_11, r292_12, r292_15, r292_18, r292_19, r292_22, r292_23, r292_24, r292_25, r292_26, r292_27, r292_28, r292_29, r292_30, r292_31, r292_34, r292_35, r292_38, r292_39, r292_42, r292_43, r292_44, r292_45, r292_46, r292_49, r292_50, r292_51, r292_52, r292_53, r292_54, r292_56, r292_57, r292_58, r292_61, r292_62, r292_65, r292_66, r292_69, r292_70, r292_71, r292_72, r292_73, r292_76, r292_77, r292_78, r292_79, r292_80, r292_81, r292_84, r292_87, r292_88, r292_91, r292_93, r292_94, r292_95, r292_96, r292_97, r292_100, r292_101, cs_nil, cs_cons, lc_lt, lc_ge, lc_gt, lc_le, lc_eq, e1, ei, ho, mfx_u hB3.1.1, ln_271, ln_308, v0, am_un, am_wid2, am_fitE]
    apply k0
    simp (disch := omega) [q292, r292_0, r292_1, r292_4, r292_5, r292_6, r292_7, r292_10, r292_11, r292_12, r292_15, r292_18, r292_19, r292_22, r292_23, r292_24, r292_25, r292_26, r292_27, r292_28, r292_29, r292_30, r292_31, r292_34, r292_35, r292_38, r292_39, r292_42, r292_43, r292_44, r292_45, r292_46, r292_49, r292_50, r292_51, r292_52, r292_53, r292_54, r292_56, r292_57, r292_58, r292_61, r292_62, r292_65, r292_66, r292_69, r292_70, r292_71, r292_72, r292_73, r292_76, r292_77, r292_78, r292_79, r292_80, r292_81, r292_84, r292_87, r292_88, r292_91, r292_93, r292_94, r292_95, r292_96, r292_97, r292_100, r292_101, cs_nil, cs_cons, lc_lt, lc_ge, lc_gt, lc_le, lc_eq, cpy_n, mfx_u hB3.1.1, am_un, ln_308, am_fitE]
    have kf : ∀ c j : Int, ¬ (c = 308 ∨ (c = 270 ∧ (j = 1 ∨ j = 65))) → (am_up (am_up (am_cpy (am_up (am_up g2 270 1 0) 308 0 (256 * f 15 0 + f 15 1)) 271 2 308 1 (5 * (n : Int))) 308 41 0) 270 65 0) c j = g2 c j := fun c j hc => by rw [am_un (by omega), am_un (by omega), cpy_n (by omega), am_un (by omega), am_un (by omega)]
    have k1 : (am_up (am_up (am_cpy (am_up (am_up g2 270 1 0) 308 0 (256 * f 15 0 + f 15 1)) 271 2 308 1 (5 * (n : Int))) 308 41 0) 270 65 0) 270 1 = 0 := by rw [am_un (by omega), am_un (by omega), cpy_n (by omega), am_un (by omega), am_ue]
    have k65 : (am_up (am_up (am_cpy (am_up (am_up g2 270 1 0) 308 0 (256 * f 15 0 + f 15 1)) 271 2 308 1 (5 * (n : Int))) 308 41 0) 270 65 0) 270 65 = 0 := am_ue
    have k41 : (am_up (am_up (am_cpy (am_up (am_up g2 270 1 0) 308 0 (256 * f 15 0 + f 15 1)) 271 2 308 1 (5 * (n : Int))) 308 41 0) 270 65 0) 308 41 = 0 := by rw [am_un (by omega), am_ue]
    have kd : (am_up (am_up (am_cpy (am_up (am_up g2 270 1 0) 308 0 (256 * f 15 0 + f 15 1)) 271 2 308 1 (5 * (n : Int))) 308 41 0) 270 65 0) 308 0 = 256 * f 15 0 + f 15 1 := by rw [am_un (by omega), am_un (by omega), cpy_o (by omega), am_ue]
    have kz : ∀ j : Int, 1 ≤ j → j < 1 + 5 * n → (am_up (am_up (am_cpy (am_up (am_up g2 270 1 0) 308 0 (256 * f 15 0 + f 15 1)) 271 2 308 1 (5 * (n : Int))) 308 41 0) 270 65 0) 308 j = f 15 (j + 1) := fun j q1 q2 => by
      rw [am_un (by omega), am_un (by omega), cpy_i (by omega), am_un (by omega), am_un (by omega), v0]; congr 1; omega
    generalize am_up (am_up (am_cpy (am_up (am_up g2 270 1 0) 308 0 (256 * f 15 0 + f 15 1)) 271 2 308 1 (5 * (n : Int))) 308 41 0) 270 65 0 = k2 at kf k1 k65 k41 kd kz
    have hO := on_O hb cb.2.2.2.2 ho
    have fr : ∀ c j : Int, ¬ ((47 ≤ c ∧ c ≤ 51) ∨ (c = 46 ∧ (j = 10 ∨ j = 11)) ∨ (c = 14 ∧ j = 1) ∨ (c = 66 ∧ j = 2) ∨ c = 308 ∨ (c = 270 ∧ (j = 1 ∨ j = 65))) → k2 c j = f c j := fun c j hc => (kf c j (by omega)).trans (gf c j (by omega))
    have hX : ∀ c j : Int, ¬ XC c j → k2 c j = f c j := fun c j hx => fr c j (fun q => hx (by
      rcases q with q | q | q | q | q | q
      · exact Or.inr (Or.inr (Or.inr (Or.inr (Or.inl ⟨by omega, by omega⟩))))
      · exact Or.inr (Or.inr (Or.inr (Or.inl ⟨q.1, by omega⟩)))
      · exact Or.inr (Or.inl q)
      · exact Or.inr (Or.inr (Or.inr (Or.inr (Or.inr (Or.inl ⟨q.1, by omega⟩)))))
      · exact Or.inr (Or.inr (Or.inr (Or.inr (Or.inr (Or.inr (Or.inr (Or.inr (Or.inr (Or.inr (Or.inr (Or.inl q)))))))))))
      · exact Or.inr (Or.inr (Or.inr (Or.inr (Or.inr (Or.inr (Or.inr (Or.inr (Or.inr (Or.inr (Or.inr (Or.inr (Or.inr (Or.inr ⟨q.1, by omega⟩)))))))))))))))
    refine (IW_mk (Y := Z) h (fun c j _ hx => hX c j hx) (CZ_fr gZ (fun c j _ _ _ => kf _ _ (by omega))) ⟨(kf _ _ (by omega)).trans g11, (show (0 : Int) ≤ 0 ∧ (0 : Int) ≤ 50 from by omega), fun i k _ _ q3 q4 => ?_⟩ ⟨kd, fun i t q1 q2 q3 q4 => ?_, fun t q1 q2 => ?_⟩ ⟨k41, (show (0 : Int) ≤ 0 ∧ (0 : Int) ≤ 50 from by omega), fun i k _ _ q3 q4 => ?_⟩ hO ⟨by rw [k1, kf _ _ (by omega), g14], by rw [kf _ _ (by omega), g14]; omega, fun j => ?_⟩ (RF_fr rf (fun j => fr _ _ (by omega)) (fun j => fr _ _ (by omega))) (PC_fr pc (fr _ _ (by omega)) (fr _ _ (by omega)) (fun j => fr _ _ (by omega)) (fun j => fr _ _ (by omega))) (FS_fr fs (fun j _ => fr _ _ (by omega)) (fun j _ => fr _ _ (by omega))) ⟨?_, ⟨?_, ?_, fun i q1 q2 => ?_⟩, ⟨?_, ?_, fun i q1 q2 => ?_⟩⟩).iv
    · have q4 : k < 0 := q4
      omega
    · rw [kz _ (by omega) (by omega)]
      unfold onz
      rw [if_neg (by omega), if_pos (by omega)]
      congr 1; omega
    · have := mb.2.1.2.2 t q1 q2
      rw [h.1.2.2.2.2.2, if_neg (by omega)] at this
      rw [fr _ _ (by omega), h.1.2.2.2.2.2, if_neg (by omega), fr _ _ (by omega)]
      exact this
    · have q4 : k < 0 := q4
      omega
    · rw [fr 271 j (by omega), fr 15 j (by omega)]; exact t3 j
    · rw [k65, kf _ _ (by omega), g66]
    · rw [kf _ _ (by omega), g66]; omega
    · rw [fr _ _ (by omega)]; exact ps.2.1.2.1
    · rw [kf _ _ (by omega), g66] at q2; omega
    · rw [k65]; omega
    · rw [fr _ _ (by omega)]; exact ps.2.2.2.1
    · rw [k65] at q2; omega
  · have ho' : oi (f 15) n (f 14 1) = false := by simpa using ho
    have hB3 : MB (am_up (am_up (am_up f 14 1 0) 269 5 (am_wI (f 269 5 + 1))) 270 1 0) n m r L ρ τ z := MB_fr mb (fun c j _ _ => by rw [am_un (by omega), am_un (by omega), am_un (by omega)]) (fun j _ => by rw [am_un (by omega), am_un (by omega), am_un (by omega)])
    have e72 : (am_up (am_up (am_up f 14 1 0) 269 5 (am_wI (f 269 5 + 1))) 270 1 0) 271 = f 15 := by rw [am_ur (by omega), am_ur (by omega), am_ur (by omega)]; exact e15
    have ei := fun (dd : Nat) (QQ : am_V → am_F → Prop) => m_isImage (d := dd) (Q := QQ) (s := f 14 1) hB3 t2 (by rw [e72]; exact hb)
    rw [e72] at ei
    have hx : aw_fx (am_up f 14 1 0) := fun x hx => by rw [am_un (fun e => (fx_n h.1.2.2.1 hx).2 (Or.inr (Or.inl e)))]; exact h.1.1 x hx
    have hm := mb.1.1
    simp (disch := omega) [q153, r153_0, r153_1, r153_4, r153_5, r153_6, r153_9, r153_10, r153_13, r153_14, r153_17, r153_18, r153_19, r153_22, r153_23, r153_24, r153_25, r153_26, r153_29, r153_30, r153_33, r153_34, r153_37, r153_38, cs_nil, cs_cons, lc_lt, lc_ge, lc_gt, lc_le, lc_eq, c_fx h.1.1, c_isImage h, ho, am_un, c_refuse hx]
    simp (disch := omega) [q292, r292_0, r292_1, r292_4, r292_5, r292_6, r292_7, r292_10, r292_11, r292_12, r292_15, r292_18, r292_19, r292_22, r292_23, r292_24, r292_25, r292_26, r292_27, r292_28, r292_29, r292_30, r292_31, r292_34, r292_35, r292_38, r292_39, r292_42, r292_43, r292_44, r292_45, r292_46, r292_49, r292_50, r292_51, r292_52, r292_53, r292_54, r292_56, r292_57, r292_58, r292_61, r292_62, r292_65, r292_66, r292_69, r292_70, r292_71, r292_72, r292_73, r292_76, r292_77, r292_78, r292_79, r292_80, r292_81, r292_84, r292_87, r292_88, r292_91, r292_93, r292_94, r292_95, r292_96, r292_97, r292_100, r292_101, cs_nil, cs_cons, lc_lt, lc_ge, lc_gt, lc_le, lc_eq, am_un, t1, ei, ho', mfx_u hB3.1.1, mfx_u hm, ln_272]
    refine (IW_o h (fun c j _ hc => ?_) ⟨?_, ?_, fun j => ?_⟩ (fun j => ?_) (PC_fr pc ?_ ?_ (fun j => ?_) (fun j => ?_)) (FS_fr fs (fun j _ => ?_) (fun j _ => ?_))).iv
    · rw [am_un (by omega), am_un (by omega), am_un (by omega), am_un (by omega)]
    · rw [am_un (by omega), am_ue, am_un (by omega), am_un (by omega), am_un (by omega), am_ue]
    · rw [am_un (by omega), am_un (by omega), am_un (by omega), am_ue]; omega
    · rw [am_un (by omega), am_un (by omega), am_un (by omega), am_un (by omega), am_un (by omega), am_un (by omega), am_un (by omega), am_un (by omega)]; exact t3 j
    · by_cases hj : j = 5
      · subst hj
        rw [am_ue, am_un (by omega), am_un (by omega), am_ue, rf 5]
      · rw [am_un (by omega), am_un (by omega), am_un (by omega), am_un (by omega), am_un (by omega), am_un (by omega), am_un (by omega), am_un (by omega), rf j]
    all_goals rw [am_un (by omega), am_un (by omega), am_un (by omega), am_un (by omega)]
end
