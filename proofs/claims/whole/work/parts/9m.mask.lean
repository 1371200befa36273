/-! questions: the model's answers -/
section
variable {d n m r : Nat} {f L z : am_F} {ρ : Int → List Int} {τ : Int → Bool} {Q : am_V → am_F → Prop} {cs : List Int} {b : Bool}
def kdW (w : Int) : Int := if w = 13 then 0 else if w = 21 then 1 else if w = 28 then 2 else if w = 29 then 3 else if w = 30 then 4 else 5
/-- one thing's answer is taken -/
theorem m_qtakes {U : Int → Int} {w : Int} {t : Nat} (hw : w = 13 ∨ w = 21 ∨ w = 28 ∨ w = 29 ∨ w = 30 ∨ w = 31) (h99 : f 270 99 = ans w U t) (h100 : f 270 100 = if t = 0 then 1 else 0) (ub : ∀ i : Nat, i ≤ t → -1000000 ≤ U i ∧ U i ≤ 1000000) (u01 : w = 13 ∨ w = 21 ∨ w = 28 → U t = 0 ∨ U t = 1) (t8 : t ≤ 8) (hQ : ∀ g, g 270 99 = ans w U (t + 1) → g 270 100 = 0 → (∀ c j : Int, ¬ (c = 270 ∧ (j = 99 ∨ j = 100)) → g c j = f c j) → Q (3, 0) g) : aw_cl d 287 [(110, 270), (0, kdW w), (1, U t), (0, (t : Int))] f Q := by
  have bu := ub t (by omega)
  have fin1 : ∀ A : Int, A = ans w U (t + 1) → Q (3, 0) (am_up (am_up f 270 99 A) 270 100 0) := fun A hA => hQ _ (by rw [am_un (by omega), am_ue, hA]) am_ue (fun c j hc => by rw [am_un (by omega), am_un (by omega)])
  have fin0 : f 270 99 = ans w U (t + 1) → Q (3, 0) (am_up f 270 100 0) := fun hA => hQ _ (by rw [am_un (by omega), hA]) am_ue (fun c j hc => by rw [am_un (by omega)])
  have b1 := aFst_b (U := U) t
  have b2 := aLst_b (U := U) t
  have b3 := aOft_b (U := U) t
  have b4 := aTot_b (U := U) t (fun i hi => ub i (by omega))
  rcases hw with e | e | e | e | e | e
  · have u := u01 (Or.inl e)
    subst e
    have e1 : ans 13 U t = aFst U t := rfl
    have e2 : ans 13 U (t + 1) = if aFst U t = -1 ∧ ¬ U t = 0 then (t : Int) else aFst U t := rfl
    rw [e1] at h99
    rcases u with u | u
    · have := fin0 (by rw [h99, e2, if_neg (fun q => q.2 u)])
      simpa [q287, r287_0, r287_1, r287_2, r287_5, r287_6, r287_7, r287_8, r287_11, r287_12, r287_15, r287_16, r287_18, r287_19, r287_22, r287_24, r287_27, r287_28, r287_31, r287_34, r287_35, r287_38, r287_39, r287_40, r287_43, r287_45, r287_48, r287_49, r287_51, r287_52, r287_55, r287_56, r287_57, r287_60, r287_62, r287_65, r287_66, r287_67, r287_70, r287_71, r287_72, r287_75, r287_76, r287_77, r287_80, r287_81, r287_82, r287_85, r287_86, r287_87, r287_90, r287_91, r287_92, r287_95, r287_96, r287_99, r287_102, r287_103, r287_104, r287_107, r287_108, r287_109, r287_112, r287_113, r287_116, r287_119, r287_120, r287_121, r287_124, r287_125, r287_128, r287_129, r287_130, r287_133, r287_134, r287_135, r287_138, cs_nil, cs_cons, lc_lt, lc_ge, lc_gt, lc_le, lc_eq, kdW, u] using this
    · by_cases a : aFst U t = -1
      · have := fin1 t (by rw [e2, if_pos ⟨a, by omega⟩])
        rw [a] at h99
        simpa [q287, r287_0, r287_1, r287_2, r287_5, r287_6, r287_7, r287_8, r287_11, r287_12, r287_15, r287_16, r287_18, r287_19, r287_22, r287_24, r287_27, r287_28, r287_31, r287_34, r287_35, r287_38, r287_39, r287_40, r287_43, r287_45, r287_48, r287_49, r287_51, r287_52, r287_55, r287_56, r287_57, r287_60, r287_62, r287_65, r287_66, r287_67, r287_70, r287_71, r287_72, r287_75, r287_76, r287_77, r287_80, r287_81, r287_82, r287_85, r287_86, r287_87, r287_90, r287_91, r287_92, r287_95, r287_96, r287_99, r287_102, r287_103, r287_104, r287_107, r287_108, r287_109, r287_112, r287_113, r287_116, r287_119, r287_120, r287_121, r287_124, r287_125, r287_128, r287_129, r287_130, r287_133, r287_134, r287_135, r287_138, cs_nil, cs_cons, lc_lt, lc_ge, lc_gt, lc_le, lc_eq, kdW, u, h99] using this
      · have := fin0 (by rw [h99, e2, if_neg (fun q => a q.1)])
        have a1 : ¬ aFst U t < -1 := by omega
        have a2 : -1 < aFst U t := by omega
        simpa [q287, r287_0, r287_1, r287_2, r287_5, r287_6, r287_7, r287_8, r287_11, r287_12, r287_15, r287_16, r287_18, r287_19, r287_22, r287_24, r287_27, r287_28, r287_31, r287_34, r287_35, r287_38, r287_39, r287_40, r287_43, r287_45, r287_48, r287_49, r287_51, r287_52, r287_55, r287_56, r287_57, r287_60, r287_62, r287_65, r287_66, r287_67, r287_70, r287_71, r287_72, r287_75, r287_76, r287_77, r287_80, r287_81, r287_82, r287_85, r287_86, r287_87, r287_90, r287_91, r287_92, r287_95, r287_96, r287_99, r287_102, r287_103, r287_104, r287_107, r287_108, r287_109, r287_112, r287_113, r287_116, r287_119, r287_120, r287_121, r287_124, r287_125, r287_128, r287_129, r287_130, r287_133, r287_134, r287_135, r287_138, cs_nil, cs_cons, lc_lt, lc_ge, lc_gt, lc_le, lc_eq, kdW, u, h99, a, a1, a2] using this
  · have u := u01 (Or.inr (Or.inl e))
    subst e
    have e1 : ans 21 U t = aLst U t := rfl
    have e2 : ans 21 U (t + 1) = if ¬ U t = 0 then (t : Int) else aLst U t := rfl
    rw [e1] at h99
    rcases u with u | u
    · have := fin0 (by rw [h99, e2, if_neg (fun q => q u)])
      simpa [q287, r287_0, r287_1, r287_2, r287_5, r287_6, r287_7, r287_8, r287_11, r287_12, r287_15, r287_16, r287_18, r287_19, r287_22, r287_24, r287_27, r287_28, r287_31, r287_34, r287_35, r287_38, r287_39, r287_40, r287_43, r287_45, r287_48, r287_49, r287_51, r287_52, r287_55, r287_56, r287_57, r287_60, r287_62, r287_65, r287_66, r287_67, r287_70, r287_71, r287_72, r287_75, r287_76, r287_77, r287_80, r287_81, r287_82, r287_85, r287_86, r287_87, r287_90, r287_91, r287_92, r287_95, r287_96, r287_99, r287_102, r287_103, r287_104, r287_107, r287_108, r287_109, r287_112, r287_113, r287_116, r287_119, r287_120, r287_121, r287_124, r287_125, r287_128, r287_129, r287_130, r287_133, r287_134, r287_135, r287_138, cs_nil, cs_cons, lc_lt, lc_ge, lc_gt, lc_le, lc_eq, kdW, u] using this
    · have := fin1 t (by rw [e2, if_pos (by omega)])
      simpa [q287, r287_0, r287_1, r287_2, r287_5, r287_6, r287_7, r287_8, r287_11, r287_12, r287_15, r287_16, r287_18, r287_19, r287_22, r287_24, r287_27, r287_28, r287_31, r287_34, r287_35, r287_38, r287_39, r287_40, r287_43, r287_45, r287_48, r287_49, r287_51, r287_52, r287_55, r287_56, r287_57, r287_60, r287_62, r287_65, r287_66, r287_67, r287_70, r287_71, r287_72, r287_75, r287_76, r287_77, r287_80, r287_81, r287_82, r287_85, r287_86, r287_87, r287_90, r287_91, r287_92, r287_95, r287_96, r287_99, r287_102, r287_103, r287_104, r287_107, r287_108, r287_109, r287_112, r287_113, r287_116, r287_119, r287_120, r287_121, r287_124, r287_125, r287_128, r287_129, r287_130, r287_133, r287_134, r287_135, r287_138, cs_nil, cs_cons, lc_lt, lc_ge, lc_gt, lc_le, lc_eq, kdW, u] using this
  · have u := u01 (Or.inr (Or.inr e))
    subst e
    have e1 : ans 28 U t = aOft U t := rfl
    have e2 : ans 28 U (t + 1) = if ¬ U t = 0 then aOft U t + 1 else aOft U t := rfl
    rw [e1] at h99
    rcases u with u | u
    · have := fin0 (by rw [h99, e2, if_neg (fun q => q u)])
      simpa [q287, r287_0, r287_1, r287_2, r287_5, r287_6, r287_7, r287_8, r287_11, r287_12, r287_15, r287_16, r287_18, r287_19, r287_22, r287_24, r287_27, r287_28, r287_31, r287_34, r287_35, r287_38, r287_39, r287_40, r287_43, r287_45, r287_48, r287_49, r287_51, r287_52, r287_55, r287_56, r287_57, r287_60, r287_62, r287_65, r287_66, r287_67, r287_70, r287_71, r287_72, r287_75, r287_76, r287_77, r287_80, r287_81, r287_82, r287_85, r287_86, r287_87, r287_90, r287_91, r287_92, r287_95, r287_96, r287_99, r287_102, r287_103, r287_104, r287_107, r287_108, r287_109, r287_112, r287_113, r287_116, r287_119, r287_120, r287_121, r287_124, r287_125, r287_128, r287_129, r287_130, r287_133, r287_134, r287_135, r287_138, cs_nil, cs_cons, lc_lt, lc_ge, lc_gt, lc_le, lc_eq, kdW, u] using this
    · have := fin1 (aOft U t + 1) (by rw [e2, if_pos (by omega)])
      simpa (disch := omega) [q287, r287_0, r287_1, r287_2, r287_5, r287_6, r287_7, r287_8, r287_11, r287_12, r287_15, r287_16, r287_18, r287_19, r287_22, r287_24, r287_27, r287_28, r287_31, r287_34, r287_35, r287_38, r287_39, r287_40, r287_43, r287_45, r287_48, r287_49, r287_51, r287_52, r287_55, r287_56, r287_57, r287_60, r287_62, r287_65, r287_66, r287_67, r287_70, r287_71, r287_72, r287_75, r287_76, r287_77, r287_80, r287_81, r287_82, r287_85, r287_86, r287_87, r287_90, r287_91, r287_92, r287_95, r287_96, r287_99, r287_102, r287_103, r287_104, r287_107, r287_108, r287_109, r287_112, r287_113, r287_116, r287_119, r287_120, r287_121, r287_124, r287_125, r287_128, r287_129, r287_130, r287_133, r287_134, r287_135, r287_138, cs_nil, cs_cons, lc_lt, lc_ge, lc_gt, lc_le, lc_eq, kdW, u, h99, am_wLd2] using this
  · subst e
    have e1 : ans 29 U t = aTot U t := rfl
    have e2 : ans 29 U (t + 1) = aTot U t + U t := rfl
    rw [e1] at h99
    have := fin1 (aTot U t + U t) (by rw [e2])
    have bt : -9000000 ≤ aTot U t ∧ aTot U t ≤ 9000000 := by omega
    generalize aTot U t = T at h99 this bt
    simpa (disch := omega) [q287, r287_0, r287_1, r287_2, r287_5, r287_6, r287_7, r287_8, r287_11, r287_12, r287_15, r287_16, r287_18, r287_19, r287_22, r287_24, r287_27, r287_28, r287_31, r287_34, r287_35, r287_38, r287_39, r287_40, r287_43, r287_45, r287_48, r287_49, r287_51, r287_52, r287_55, r287_56, r287_57, r287_60, r287_62, r287_65, r287_66, r287_67, r287_70, r287_71, r287_72, r287_75, r287_76, r287_77, r287_80, r287_81, r287_82, r287_85, r287_86, r287_87, r287_90, r287_91, r287_92, r287_95, r287_96, r287_99, r287_102, r287_103, r287_104, r287_107, r287_108, r287_109, r287_112, r287_113, r287_116, r287_119, r287_120, r287_121, r287_124, r287_125, r287_128, r287_129, r287_130, r287_133, r287_134, r287_135, r287_138, cs_nil, cs_cons, lc_lt, lc_ge, lc_gt, lc_le, lc_eq, kdW, h99, am_wLd2] using this
  · subst e
    have e1 : ans 30 U t = aMst U t := rfl
    have e2 : ans 30 U (t + 1) = if t = 0 then U 0 else if aMst U t < U t then U t else aMst U t := rfl
    rw [e1] at h99
    by_cases t0 : t = 0
    · subst t0
      have := fin1 (U 0) (by rw [e2, if_pos rfl])
      rw [if_pos rfl] at h100
      simpa [q287, r287_0, r287_1, r287_2, r287_5, r287_6, r287_7, r287_8, r287_11, r287_12, r287_15, r287_16, r287_18, r287_19, r287_22, r287_24, r287_27, r287_28, r287_31, r287_34, r287_35, r287_38, r287_39, r287_40, r287_43, r287_45, r287_48, r287_49, r287_51, r287_52, r287_55, r287_56, r287_57, r287_60, r287_62, r287_65, r287_66, r287_67, r287_70, r287_71, r287_72, r287_75, r287_76, r287_77, r287_80, r287_81, r287_82, r287_85, r287_86, r287_87, r287_90, r287_91, r287_92, r287_95, r287_96, r287_99, r287_102, r287_103, r287_104, r287_107, r287_108, r287_109, r287_112, r287_113, r287_116, r287_119, r287_120, r287_121, r287_124, r287_125, r287_128, r287_129, r287_130, r287_133, r287_134, r287_135, r287_138, cs_nil, cs_cons, lc_lt, lc_ge, lc_gt, lc_le, lc_eq, kdW, h100] using this
    · rw [if_neg t0] at h100 e2
      by_cases a : aMst U t < U t
      · have := fin1 (U t) (by rw [e2, if_pos a])
        have a1 : ¬ U t ≤ aMst U t := by omega
        simpa [q287, r287_0, r287_1, r287_2, r287_5, r287_6, r287_7, r287_8, r287_11, r287_12, r287_15, r287_16, r287_18, r287_19, r287_22, r287_24, r287_27, r287_28, r287_31, r287_34, r287_35, r287_38, r287_39, r287_40, r287_43, r287_45, r287_48, r287_49, r287_51, r287_52, r287_55, r287_56, r287_57, r287_60, r287_62, r287_65, r287_66, r287_67, r287_70, r287_71, r287_72, r287_75, r287_76, r287_77, r287_80, r287_81, r287_82, r287_85, r287_86, r287_87, r287_90, r287_91, r287_92, r287_95, r287_96, r287_99, r287_102, r287_103, r287_104, r287_107, r287_108, r287_109, r287_112, r287_113, r287_116, r287_119, r287_120, r287_121, r287_124, r287_125, r287_128, r287_129, r287_130, r287_133, r287_134, r287_135, r287_138, cs_nil, cs_cons, lc_lt, lc_ge, lc_gt, lc_le, lc_eq, kdW, h100, h99, a, a1] using this
      · have := fin0 (by rw [h99, e2, if_neg a])
        have a1 : U t ≤ aMst U t := by omega
        simpa [q287, r287_0, r287_1, r287_2, r287_5, r287_6, r287_7, r287_8, r287_11, r287_12, r287_15, r287_16, r287_18, r287_19, r287_22, r287_24, r287_27, r287_28, r287_31, r287_34, r287_35, r287_38, r287_39, r287_40, r287_43, r287_45, r287_48, r287_49, r287_51, r287_52, r287_55, r287_56, r287_57, r287_60, r287_62, r287_65, r287_66, r287_67, r287_70, r287_71, r287_72, r287_75, r287_76, r287_77, r287_80, r287_81, r287_82, r287_85, r287_86, r287_87, r287_90, r287_91, r287_92, r287_95, r287_96, r287_99, r287_102, r287_103, r287_104, r287_107, r287_108, r287_109, r287_112, r287_113, r287_116, r287_119, r287_120, r287_121, r287_124, r287_125, r287_128, r287_129, r287_130, r287_133, r287_134, r287_135, r287_138, cs_nil, cs_cons, lc_lt, lc_ge, lc_gt, lc_le, lc_eq, kdW, h100, h99, a, a1] using this
  · subst e
    have e1 : ans 31 U t = aLea U t := rfl
    have e2 : ans 31 U (t + 1) = if t = 0 then U 0 else if U t < aLea U t then U t else aLea U t := rfl
    rw [e1] at h99
    by_cases t0 : t = 0
    · subst t0
      have := fin1 (U 0) (by rw [e2, if_pos rfl])
      rw [if_pos rfl] at h100
      simpa [q287, r287_0, r287_1, r287_2, r287_5, r287_6, r287_7, r287_8, r287_11, r287_12, r287_15, r287_16, r287_18, r287_19, r287_22, r287_24, r287_27, r287_28, r287_31, r287_34, r287_35, r287_38, r287_39, r287_40, r287_43, r287_45, r287_48, r287_49, r287_51, r287_52, r287_55, r287_56, r287_57, r287_60, r287_62, r287_65, r287_66, r287_67, r287_70, r287_71, r287_72, r287_75, r287_76, r287_77, r287_80, r287_81, r287_82, r287_85, r287_86, r287_87, r287_90, r287_91, r287_92, r287_95, r287_96, r287_99, r287_102, r287_103, r287_104, r287_107, r287_108, r287_109, r287_112, r287_113, r287_116, r287_119, r287_120, r287_121, r287_124, r287_125, r287_128, r287_129, r287_130, r287_133, r287_134, r287_135, r287_138, cs_nil, cs_cons, lc_lt, lc_ge, lc_gt, lc_le, lc_eq, kdW, h100] using this
    · rw [if_neg t0] at h100 e2
      by_cases a : U t < aLea U t
      · have := fin1 (U t) (by rw [e2, if_pos a])
        have a1 : ¬ aLea U t ≤ U t := by omega
        simpa [q287, r287_0, r287_1, r287_2, r287_5, r287_6, r287_7, r287_8, r287_11, r287_12, r287_15, r287_16, r287_18, r287_19, r287_22, r287_24, r287_27, r287_28, r287_31, r287_34, r287_35, r287_38, r287_39, r287_40, r287_43, r287_45, r287_48, r287_49, r287_51, r287_52, r287_55, r287_56, r287_57, r287_60, r287_62, r287_65, r287_66, r287_67, r287_70, r287_71, r287_72, r287_75, r287_76, r287_77, r287_80, r287_81, r287_82, r287_85, r287_86, r287_87, r287_90, r287_91, r287_92, r287_95, r287_96, r287_99, r287_102, r287_103, r287_104, r287_107, r287_108, r287_109, r287_112, r287_113, r287_116, r287_119, r287_120, r287_121, r287_124, r287_125, r287_128, r287_129, r287_130, r287_133, r287_134, r287_135, r287_138, cs_nil, cs_cons, lc_lt, lc_ge, lc_gt, lc_le, lc_eq, kdW, h100, h99, a, a1] using this
      · have := fin0 (by rw [h99, e2, if_neg a])
        have a1 : aLea U t ≤ U t := by omega
        simpa [q287, r287_0, r287_1, r287_2, r287_5, r287_6, r287_7, r287_8, r287_11, r287_12, r287_15, r287_16, r287_18, r287_19, r287_22, r287_24, r287_27, r287_28, r287_31, r287_34, r287_35, r287_38, r287_39, r287_40, r287_43, r287_45, r287_48, r287_49, r287_51, r287_52, r287_55, r287_56, r287_57, r287_60, r287_62, r287_65, r287_66, r287_67, r287_70, r287_71, r287_72, r287_75, r287_76, r287_77, r287_80, r287_81, r287_82, r287_85, r287_86, r287_87, r287_90, r287_91, r287_92, r287_95, r287_96, r287_99, r287_102, r287_103, r287_104, r287_107, r287_108, r287_109, r287_112, r287_113, r287_116, r287_119, r287_120, r287_121, r287_124, r287_125, r287_128, r287_129, r287_130, r287_133, r287_134, r287_135, r287_138, cs_nil, cs_cons, lc_lt, lc_ge, lc_gt, lc_le, lc_eq, kdW, h100, h99, a, a1] using this
theorem og_eq (h : AT f n r L ρ z) (hr : r ≤ 5) {t : Int} (h0 : 0 ≤ t) (h1 : t < n) : ogM f r t = ogC (gvT L ρ z r t) := by
  funext x
  unfold ogM ogC gvT
  by_cases a : 0 ≤ x ∧ x < r
  · rw [if_pos a, if_pos (by omega), h x t a.1 a.2 h0 h1]
    have := bm_tst (p := fun k => aP L ρ z t (k : Int)) (n := r) (t := x.toNat) (by omega) (by omega)
    rw [show ((x.toNat : Nat) : Int) = x by omega] at this
    rw [this]
    unfold b01
    rfl
  · rw [if_neg a]
    by_cases c : 0 ≤ x ∧ x < 5
    · rw [if_pos c]
      have := bit_n (a := bm (fun k => aP L ρ z t (k : Int)) r) (t := x.toNat) (bm_31 (by omega)) (by omega)
      rw [show ((x.toNat : Nat) : Int) = x by omega] at this
      rw [this, bm_bit]
      have : ¬ x.toNat < r := by omega
      simp [this]
    · rw [if_neg c]
/-- one thing is asked -/
theorem m_ask1 (h : MB f n m r L ρ τ z) (hA : AT f n r L ρ z) (h92 : f 270 92 = (cs.length : Int)) (hl : (cs.length : Int) ≤ 1600) (hc : al f 340 id 0 cs) (hty : tr false true cs [] = some [b]) {t : Int} (h0 : 0 ≤ t) (h1 : t < n) (hQ : ∀ f1, fT f f1 → Q (1, UU L ρ z r cs t) f1) : aw_cl (d + 3) 285 [(110, 270), (0, t)] f Q := by
  obtain ⟨hl1, hz, hT, ho⟩ := id h
  have hr5 := hT.2.2.1
  have hn8 := hT.1
  refine m_qtold (r := (r : Int)) (b := b) hl1.1 (by omega) h92 hl hc hty ?_ ⟨hl1.2.1.2.2.1, by omega, by omega⟩ ?_ ?_
  · intro k _ _ k7
    rw [ptM_Z hl1 hz ho h0 h1]
    exact pt_b hT ho h0 h1 (fun hk => by have := k7 hk; cases this)
  · intro x
    rw [og_eq hA hr5 h0 h1]
    exact og_b x
  · intro f1 hf
    have e : vl (ptM f t) (ogM f r t) cs = UU L ρ z r cs t := by
      unfold UU
      refine vl_cg (q := true) (sk := false) ?_ (fun _ => og_eq hA hr5 h0 h1) hty
      intro k k0 k9 k7
      rw [ptM_Z hl1 hz ho h0 h1]
      unfold ptZ
      by_cases hk : k = 7
      · have := k7 hk; cases this
      · simp [hk]
    rw [e]
    exact hQ f1 hf
def fX (f g : am_F) : Prop := ∀ c j : Int, ¬ (c = 310 ∨ c = 342 ∨ (c = 270 ∧ (j = 50 ∨ j = 55 ∨ (98 ≤ j ∧ j ≤ 100)))) → g c j = f c j
theorem MB_fX (h : MB f n m r L ρ τ z) {g : am_F} (hg : fX f g) : MB g n m r L ρ τ z := MB_fr h (fun c j _ _ => hg c j (by omega)) (fun j _ => hg 270 j (by omega))
/-- all trials of all things are laid down -/
theorem m_askT (h : MB f n m r L ρ τ z) {k1 : Int} (hQ : ∀ g x, AT g n r L ρ z → (∀ c j : Int, ¬ (c = 310 ∨ c = 342 ∨ (c = 270 ∧ (j = 50 ∨ j = 55 ∨ j = 98))) → g c j = f c j) → aw_wp (d + 5) 283 226 [(110, 270), (0, k1), (0, (r : Int)), x] [] g Q) {y : am_V} : aw_wp (d + 5) 283 167 [(110, 270), (0, k1), (0, 0), y] [] f Q := by
  have hn := h.2.2.1.1
  have hr := h.2.2.1.2.2.1
  have inner : ∀ (k : Nat), k < r → ∀ (j t : Nat) (g : am_F), t + j = n → (∀ c j : Int, ¬ (c = 310 ∨ c = 342 ∨ (c = 270 ∧ (j = 50 ∨ j = 55 ∨ j = 98))) → g c j = f c j) → (∀ k' t' : Int, 0 ≤ k' → 0 ≤ t' → t' < n → (k' < k ∨ (k' = k ∧ t' < t)) → g 310 (8 * k' + t') = b01 (aP L ρ z t' k')) → (∀ g', (∀ c j : Int, ¬ (c = 310 ∨ c = 342 ∨ (c = 270 ∧ (j = 50 ∨ j = 55 ∨ j = 98))) → g' c j = f c j) → (∀ k' t' : Int, 0 ≤ k' → 0 ≤ t' → t' < n → k' < (k : Int) + 1 → g' 310 (8 * k' + t') = b01 (aP L ρ z t' k')) → aw_wp (d + 5) 283 220 [(110, 270), (0, k1), (0, (k : Int)), (0, (n : Int))] [] g' Q) → aw_wp (d + 5) 283 177 [(110, 270), (0, k1), (0, (k : Int)), (0, (t : Int))] [] g Q := by
    intro k hk j
    induction j with
    | zero =>
      intro t g h1 h2 h3 hq
      obtain rfl : t = n := by omega
      have := hq g h2 (fun k' t' a b c e => h3 k' t' a b c (by omega))
      have hB := MB_310 h h2
      rw [r283_177]
      simpa (disch := omega) [r283_178, r283_179, r283_182, cs_nil, cs_cons, lc_lt, lc_ge, lc_gt, lc_le, lc_eq, q209, r209_0, r209_1, r209_4, r209_5, r209_6, cs_nil, cs_cons, lc_lt, lc_ge, lc_gt, lc_le, lc_eq, mfx_u hB.1.1, mb_m hB, ln_301] using this
    | succ j ih =>
      intro t g h1 h2 h3 hq
      have hB := MB_310 h h2
      have c1 : ¬ n ≤ t := by omega
      have tw : τ (5 + (k : Int)) = true := by
        rcases hB.1.2.2.2.2 (5 + (k : Int)) (by omega) (by omega) with q | q
        · exact q.1
        · have := q.2.1; omega
      have c5 : (5 : Int) + k = 5 + (k : Int) := rfl
      rw [r283_177]
      simp (disch := omega) [r283_178, r283_179, r283_182, r283_185, r283_186, r283_189, r283_191, r283_192, r283_193, r283_194, r283_195, r283_196, r283_197, r283_198, r283_199, r283_200, cs_nil, cs_cons, lc_lt, lc_ge, lc_gt, lc_le, lc_eq, q209, r209_0, r209_1, r209_4, r209_5, r209_6, cs_nil, cs_cons, lc_lt, lc_ge, lc_gt, lc_le, lc_eq, mfx_u hB.1.1, mb_m hB, ln_301, c1, am_wid2]
      refine m_val (w := 5 + (k : Int)) (gv := 0) hB.2.2.1 hB.1 hB.2.1 hB.2.2.2 (by omega) (by omega) (by omega) tw (fun q => by omega) ?_
      intro g1 hg
      have vb := (V_b hB.2.2.1 hB.2.2.2 (w := 5 + (k : Int)) (gv := 0) (t := (t : Int)) (by omega) (by omega) (by omega) (fun q => by omega)).2.2 (by unfold tyw; simp; omega)
      have m1 : g1 270 56 = 310 := (hg _ _ (by omega)).trans (by simp [mfx_u hB.1.1])
      have eP : (if V L ρ z t 0 (5 + (k : Int)) = 1 then (1 : Int) else 0) = b01 (aP L ρ z t k) := by
        unfold b01 aP
        rcases vb with q | q <;> simp [q]
      have ih' := ih (t + 1) (am_up g1 310 (8 * k + t) (b01 (aP L ρ z t k))) (by omega) (fun c j hc => by rw [am_un (by omega), hg _ _ (by omega), h2 _ _ hc]) (fun k' t' a b c e => by
        by_cases hkt : k' = k ∧ t' = t
        · obtain ⟨rfl, rfl⟩ := hkt; exact am_ue
        · rw [am_un (by omega), hg _ _ (by omega)]; exact h3 k' t' a b c (by omega)) hq
      rw [Int.natCast_add t] at ih'
      rcases vb with q | q
      · rw [if_neg (by omega)] at eP
        rw [← eP] at ih'
        simpa (disch := omega) [r283_203, r283_204, r283_205, r283_208, r283_209, r283_212, r283_213, r283_214, r283_217, cs_nil, cs_cons, lc_lt, lc_ge, lc_gt, lc_le, lc_eq, q, ln_310, am_wid2, am_fitE, le_T, lt_T] using ih'
      · rw [if_pos q] at eP
        rw [← eP] at ih'
        simpa (disch := omega) [r283_203, r283_204, r283_205, r283_208, r283_209, r283_212, r283_213, r283_214, r283_217, cs_nil, cs_cons, lc_lt, lc_ge, lc_gt, lc_le, lc_eq, q, ln_310, am_wid2, am_fitE, le_T, lt_T] using ih'
  have outer : ∀ (j k : Nat) (x : am_V) (g : am_F), k + j = r → (∀ c j : Int, ¬ (c = 310 ∨ c = 342 ∨ (c = 270 ∧ (j = 50 ∨ j = 55 ∨ j = 98))) → g c j = f c j) → (∀ k' t' : Int, 0 ≤ k' → 0 ≤ t' → t' < n → k' < k → g 310 (8 * k' + t') = b01 (aP L ρ z t' k')) → aw_wp (d + 5) 283 167 [(110, 270), (0, k1), (0, (k : Int)), x] [] g Q := by
    intro j
    induction j with
    | zero =>
      intro k x g h1 h2 h3
      obtain ⟨tx, vx⟩ := x
      obtain rfl : k = r := by omega
      have := hQ g (tx, vx) (fun k' t' a b c e => h3 k' t' a c e b) h2
      have hB := MB_310 h h2
      rw [r283_167]
      simpa (disch := omega) [r283_168, r283_169, r283_172, cs_nil, cs_cons, lc_lt, lc_ge, lc_gt, lc_le, lc_eq, q239, r239_0, r239_1, r239_4, r239_5, r239_6, cs_nil, cs_cons, lc_lt, lc_ge, lc_gt, lc_le, lc_eq, mfx_u hB.1.1, mb_m hB, ln_301] using this
    | succ j ih =>
      intro k x g h1 h2 h3
      obtain ⟨tx, vx⟩ := x
      have hB := MB_310 h h2
      have c1 : ¬ r ≤ k := by omega
      have go := inner k (by omega) n 0 g (by omega) h2 (fun k' t' a b c e => h3 k' t' a b c (by omega)) (fun g' w1 w2 => by
        have := ih (k + 1) (0, (n : Int)) g' (by omega) w1 (fun k' t' a b c e => w2 k' t' a b c (by omega))
        rw [Int.natCast_add k] at this
        simpa (disch := omega) [r283_220, r283_223, cs_nil, cs_cons, lc_lt, lc_ge, lc_gt, lc_le, lc_eq, am_wid2] using this)
      rw [r283_167]
      simpa (disch := omega) [r283_168, r283_169, r283_172, r283_175, r283_176, cs_nil, cs_cons, lc_lt, lc_ge, lc_gt, lc_le, lc_eq, q239, r239_0, r239_1, r239_4, r239_5, r239_6, cs_nil, cs_cons, lc_lt, lc_ge, lc_gt, lc_le, lc_eq, mfx_u hB.1.1, mb_m hB, ln_301, c1] using go
  exact outer r 0 y f (by omega) (fun _ _ _ => rfl) (fun k' t' a b c e => by omega)
/-- all things are asked -/
theorem m_askL (h : MB f n m r L ρ τ z) (hA : AT f n r L ρ z) (h92 : f 270 92 = (cs.length : Int)) (hl : (cs.length : Int) ≤ 1600) (hc : al f 340 id 0 cs) (hty : tr false true cs [] = some [b]) {w : Int} (hw : w = 13 ∨ w = 21 ∨ w = 28 ∨ w = 29 ∨ w = 30 ∨ w = 31) (hb : w = 13 ∨ w = 21 ∨ w = 28 → b = true) (h99 : f 270 99 = ans w (UU L ρ z r cs) 0) (h100 : f 270 100 = 1) {x : am_V} (hQ : ∀ g, (∀ c j : Int, ¬ (c = 342 ∨ (c = 270 ∧ (j = 50 ∨ (98 ≤ j ∧ j ≤ 100)))) → g c j = f c j) → Q (1, ans w (UU L ρ z r cs) n) g) : aw_wp (d + 5) 283 233 [(110, 270), (0, kdW w), (0, 0), x] [] f Q := by
  obtain ⟨tx, vx⟩ := x
  have hn := h.2.2.1.1
  have key : ∀ (j t : Nat) (g : am_F), t + j = n → (∀ c j : Int, ¬ (c = 342 ∨ (c = 270 ∧ (j = 50 ∨ (98 ≤ j ∧ j ≤ 100)))) → g c j = f c j) → g 270 99 = ans w (UU L ρ z r cs) t → g 270 100 = (if t = 0 then 1 else 0) → aw_wp (d + 5) 283 233 [(110, 270), (0, kdW w), (0, (t : Int)), (tx, vx)] [] g Q := by
    intro j
    induction j with
    | zero =>
      intro t g h1 h2 h3 h4
      obtain rfl : t = n := by omega
      have hB := MB_fX h (fun c j hc => h2 c j (by omega))
      have := hQ g h2
      rw [← h3] at this
      rw [r283_233]
      simpa (disch := omega) [r283_234, r283_235, r283_238, r283_241, r283_242, r283_243, r283_244, r283_245, r283_248, r283_249, r283_252, r283_255, r283_258, r283_259, r283_262, cs_nil, cs_cons, lc_lt, lc_ge, lc_gt, lc_le, lc_eq, q209, r209_0, r209_1, r209_4, r209_5, r209_6, cs_nil, cs_cons, lc_lt, lc_ge, lc_gt, lc_le, lc_eq, mfx_u hB.1.1, mb_m hB, ln_301] using this
    | succ j ih =>
      intro t g h1 h2 h3 h4
      have hB := MB_fX h (fun c j hc => h2 c j (by omega))
      have hA' : AT g n r L ρ z := fun k' t' a b c e => by rw [h2 _ _ (by omega)]; exact hA k' t' a b c e
      have c1 : ¬ n ≤ t := by omega
      rw [r283_233]
      simp (disch := omega) [r283_234, r283_235, r283_238, r283_241, r283_242, r283_243, r283_244, r283_245, cs_nil, cs_cons, lc_lt, lc_ge, lc_gt, lc_le, lc_eq, q209, r209_0, r209_1, r209_4, r209_5, r209_6, cs_nil, cs_cons, lc_lt, lc_ge, lc_gt, lc_le, lc_eq, mfx_u hB.1.1, mb_m hB, ln_301, c1]
      refine m_ask1 hB hA' ((h2 _ _ (by omega)).trans h92) hl (al_fr cs 0 (fun j _ _ => h2 _ _ (by omega)) hc) hty (t := (t : Int)) (by omega) (by omega) ?_
      intro g1 hg
      simp [r283_248, r283_249, cs_nil, cs_cons, lc_lt, lc_ge, lc_gt, lc_le, lc_eq]
      refine m_qtakes hw ((hg _ _ (by omega)).trans h3) ((hg _ _ (by omega)).trans h4) (fun i hi => ?_) (fun q => ?_) (by omega) ?_
      · have := UU_b hB.2.2.1 hB.2.2.2 (t := (i : Int)) (by omega) (by omega) hty
        exact ⟨this.1, this.2.1⟩
      · exact (UU_b hB.2.2.1 hB.2.2.2 (t := (t : Int)) (by omega) (by omega) hty).2.2 (hb q)
      · intro g2 e1 e2 e3
        have ih' := ih (t + 1) g2 (by omega) (fun c j hc => by rw [e3 _ _ (by omega), hg _ _ (by omega)]; exact h2 c j hc) e1 (by rw [if_neg (by omega)]; exact e2)
        rw [Int.natCast_add t] at ih'
        simpa (disch := omega) [r283_252, r283_255, cs_nil, cs_cons, lc_lt, lc_ge, lc_gt, lc_le, lc_eq, am_wid2] using ih'
  exact key n 0 f (by omega) (fun _ _ _ => rfl) h99 (by rw [if_pos rfl]; exact h100)
end
