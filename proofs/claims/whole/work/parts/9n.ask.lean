/-! ask, as a whole -/
section
variable {d n m r : Nat} {f L z : am_F} {ρ : Int → List Int} {τ : Int → Bool} {l : Int} {Z : Int → am_F} {B : Int → Int} {N κ : Int} {Q : am_V → am_F → Prop} {cs : List Int} {b : Bool}
theorem XC_1 : XC 270 1 := by
  unfold XC
  simp
theorem m_qkindN {p : Int} (hX : MX f B N) (hN : N ≤ 1600) (h0 : 0 ≤ p) (h1 : p ≤ N) (hP : PP f B N p) (hb : f 270 5 = 0) (hw : ¬ qt (tW B N p) = true ∧ ¬ qs (tW B N p) = true) : aw_cl (d + 4) 284 [(110, 270)] f Q = Q (0, 5) (am_up (am_up (am_up f 270 2 (tS B N p)) 270 5 1) 270 6 (tS B N p)) := by
  obtain ⟨⟨x1, x2⟩, x3, x4⟩ := id hX
  rw [qt_i, qs_i] at hw
  have gp : gP f (am_up f 270 2 (tS B N p)) := gP_up gP_rf (by omega)
  have hX1 := MX_gP hX gp
  have hP1 := PP_look hP h1
  have hb1 : (am_up f 270 2 (tS B N p)) 270 5 = 0 := by rw [am_un (by omega)]; exact hb
  have e0 := fun (dd : Nat) (QQ : am_V → am_F → Prop) => m_eatsN (d := dd) (Q := QQ) hX hN h0 h1 hP hb (hw_of x2 (q := (317, 13)) (by decide)) (by simp only; omega)
  have eN := fun {wa k : Int} (hq : (wa, k) ∈ HWL) (hk : ¬ tW B N p = k) (dd : Nat) (QQ : am_V → am_F → Prop) => m_eatsN (d := dd) (Q := QQ) hX1 hN h0 h1 hP1 hb1 (hw_of hX1.1.2 (q := (wa, k)) hq) hk
  have e1 := eN (wa := 318) (k := 21) (by decide) (by omega)
  have e2 := eN (wa := 319) (k := 28) (by decide) (by omega)
  have e3 := eN (wa := 320) (k := 29) (by decide) (by omega)
  have e4 := eN (wa := 321) (k := 30) (by decide) (by omega)
  have e5 := fun (dd : Nat) (QQ : am_V → am_F → Prop) => m_asksN (d := dd) (Q := QQ) hX1 hN h0 h1 hP1 hb1 (hw_of hX1.1.2 (q := (322, 31)) (by decide)) (by simp only; omega)
  simp only [am_uu] at e0 e1 e2 e3 e4 e5
  have f1 := fx_270_69 hX1.1.1
  have f2 := fx_270_70 hX1.1.1
  have f3 := fx_270_71 hX1.1.1
  have f4 := fx_270_72 hX1.1.1
  have f5 := fx_270_73 hX1.1.1
  apply aw_det
  simp [q284, r284_0, r284_1, r284_2, r284_5, r284_8, r284_11, r284_12, r284_15, r284_16, r284_17, r284_20, r284_23, r284_26, r284_27, r284_30, r284_31, r284_32, r284_35, r284_38, r284_41, r284_42, r284_45, r284_46, r284_47, r284_50, r284_53, r284_56, r284_57, r284_60, r284_61, r284_62, r284_65, r284_68, r284_71, r284_72, r284_75, r284_76, r284_77, r284_78, r284_79, r284_82, r284_83, r284_84, r284_87, r284_90, r284_91, cs_nil, cs_cons, lc_lt, lc_ge, lc_gt, lc_le, lc_eq, fx_270_68 x1, f1, f2, f3, f4, f5, e0, e1, e2, e3, e4, e5]
theorem m_qkindY {p : Int} (hX : MX f B N) (hN : N ≤ 1600) (h0 : 0 ≤ p) (h1 : p ≤ N) (hP : PP f B N p) (hb : f 270 5 = 0) (hw : qt (tW B N p) = true ∨ qs (tW B N p) = true) : aw_cl (d + 4) 284 [(110, 270)] f Q = Q (0, kdW (tW B N p)) (am_up (am_up f 270 2 (tE B N p)) 270 4 (tE B N p)) := by
  obtain ⟨⟨x1, x2⟩, x3, x4⟩ := id hX
  rw [qt_i, qs_i] at hw
  have gp : gP f (am_up f 270 2 (tS B N p)) := gP_up gP_rf (by omega)
  have hX1 := MX_gP hX gp
  have hP1 := PP_look hP h1
  have hb1 : (am_up f 270 2 (tS B N p)) 270 5 = 0 := by rw [am_un (by omega)]; exact hb
  have e0N := fun (hk : ¬ tW B N p = 13) (dd : Nat) (QQ : am_V → am_F → Prop) => m_eatsN (d := dd) (Q := QQ) hX hN h0 h1 hP hb (hw_of x2 (q := (317, 13)) (by decide)) hk
  have eN := fun {wa k : Int} (hq : (wa, k) ∈ HWL) (hk : ¬ tW B N p = k) (dd : Nat) (QQ : am_V → am_F → Prop) => m_eatsN (d := dd) (Q := QQ) hX1 hN h0 h1 hP1 hb1 (hw_of hX1.1.2 (q := (wa, k)) hq) hk
  have eY := fun {wa k : Int} (hq : (wa, k) ∈ HWL) (hk : tW B N p = k) (dd : Nat) (QQ : am_V → am_F → Prop) => m_eatsY (d := dd) (Q := QQ) hX1 hN h0 h1 hP1 hb1 (hw_of hX1.1.2 (q := (wa, k)) hq) hk
  have f1 := fx_270_69 hX1.1.1
  have f2 := fx_270_70 hX1.1.1
  have f3 := fx_270_71 hX1.1.1
  have f4 := fx_270_72 hX1.1.1
  have f5 := fx_270_73 hX1.1.1
  apply aw_det
  by_cases k0 : tW B N p = 13
  · have e0 := fun (dd : Nat) (QQ : am_V → am_F → Prop) => m_eatsY (d := dd) (Q := QQ) hX hN h0 h1 hP hb (hw_of x2 (q := (317, 13)) (by decide)) k0
    simp only at e0
    simp [q284, r284_0, r284_1, r284_2, r284_5, r284_8, r284_11, r284_12, r284_15, r284_16, r284_17, r284_20, r284_23, r284_26, r284_27, r284_30, r284_31, r284_32, r284_35, r284_38, r284_41, r284_42, r284_45, r284_46, r284_47, r284_50, r284_53, r284_56, r284_57, r284_60, r284_61, r284_62, r284_65, r284_68, r284_71, r284_72, r284_75, r284_76, r284_77, r284_78, r284_79, r284_82, r284_83, r284_84, r284_87, r284_90, r284_91, cs_nil, cs_cons, lc_lt, lc_ge, lc_gt, lc_le, lc_eq, fx_270_68 x1, e0, kdW, k0]
  have e0 := e0N k0
  simp only at e0
  by_cases k1 : tW B N p = 21
  · have e1 := eY (wa := 318) (k := 21) (by decide) k1
    simp only [am_uu] at e1
    simp [q284, r284_0, r284_1, r284_2, r284_5, r284_8, r284_11, r284_12, r284_15, r284_16, r284_17, r284_20, r284_23, r284_26, r284_27, r284_30, r284_31, r284_32, r284_35, r284_38, r284_41, r284_42, r284_45, r284_46, r284_47, r284_50, r284_53, r284_56, r284_57, r284_60, r284_61, r284_62, r284_65, r284_68, r284_71, r284_72, r284_75, r284_76, r284_77, r284_78, r284_79, r284_82, r284_83, r284_84, r284_87, r284_90, r284_91, cs_nil, cs_cons, lc_lt, lc_ge, lc_gt, lc_le, lc_eq, fx_270_68 x1, f1, e0, e1, kdW, k1]
  have e1 := eN (wa := 318) (k := 21) (by decide) k1
  simp only [am_uu] at e1
  by_cases k2 : tW B N p = 28
  · have e2 := eY (wa := 319) (k := 28) (by decide) k2
    simp only [am_uu] at e2
    simp [q284, r284_0, r284_1, r284_2, r284_5, r284_8, r284_11, r284_12, r284_15, r284_16, r284_17, r284_20, r284_23, r284_26, r284_27, r284_30, r284_31, r284_32, r284_35, r284_38, r284_41, r284_42, r284_45, r284_46, r284_47, r284_50, r284_53, r284_56, r284_57, r284_60, r284_61, r284_62, r284_65, r284_68, r284_71, r284_72, r284_75, r284_76, r284_77, r284_78, r284_79, r284_82, r284_83, r284_84, r284_87, r284_90, r284_91, cs_nil, cs_cons, lc_lt, lc_ge, lc_gt, lc_le, lc_eq, fx_270_68 x1, f1, f2, e0, e1, e2, kdW, k2]
  have e2 := eN (wa := 319) (k := 28) (by decide) k2
  simp only [am_uu] at e2
  by_cases k3 : tW B N p = 29
  · have e3 := eY (wa := 320) (k := 29) (by decide) k3
    simp only [am_uu] at e3
    simp [q284, r284_0, r284_1, r284_2, r284_5, r284_8, r284_11, r284_12, r284_15, r284_16, r284_17, r284_20, r284_23, r284_26, r284_27, r284_30, r284_31, r284_32, r284_35, r284_38, r284_41, r284_42, r284_45, r284_46, r284_47, r284_50, r284_53, r284_56, r284_57, r284_60, r284_61, r284_62, r284_65, r284_68, r284_71, r284_72, r284_75, r284_76, r284_77, r284_78, r284_79, r284_82, r284_83, r284_84, r284_87, r284_90, r284_91, cs_nil, cs_cons, lc_lt, lc_ge, lc_gt, lc_le, lc_eq, fx_270_68 x1, f1, f2, f3, e0, e1, e2, e3, kdW, k3]
  have e3 := eN (wa := 320) (k := 29) (by decide) k3
  simp only [am_uu] at e3
  by_cases k4 : tW B N p = 30
  · have e4 := eY (wa := 321) (k := 30) (by decide) k4
    simp only [am_uu] at e4
    simp [q284, r284_0, r284_1, r284_2, r284_5, r284_8, r284_11, r284_12, r284_15, r284_16, r284_17, r284_20, r284_23, r284_26, r284_27, r284_30, r284_31, r284_32, r284_35, r284_38, r284_41, r284_42, r284_45, r284_46, r284_47, r284_50, r284_53, r284_56, r284_57, r284_60, r284_61, r284_62, r284_65, r284_68, r284_71, r284_72, r284_75, r284_76, r284_77, r284_78, r284_79, r284_82, r284_83, r284_84, r284_87, r284_90, r284_91, cs_nil, cs_cons, lc_lt, lc_ge, lc_gt, lc_le, lc_eq, fx_270_68 x1, f1, f2, f3, f4, e0, e1, e2, e3, e4, kdW, k4]
  have e4 := eN (wa := 321) (k := 30) (by decide) k4
  have k5 : tW B N p = 31 := by omega
  have e5 := fun (dd : Nat) (QQ : am_V → am_F → Prop) => m_asksY (d := dd) (Q := QQ) hX1 hN h0 h1 hP1 hb1 (hw_of hX1.1.2 (q := (322, 31)) (by decide)) k5
  simp only [am_uu] at e4 e5
  simp [q284, r284_0, r284_1, r284_2, r284_5, r284_8, r284_11, r284_12, r284_15, r284_16, r284_17, r284_20, r284_23, r284_26, r284_27, r284_30, r284_31, r284_32, r284_35, r284_38, r284_41, r284_42, r284_45, r284_46, r284_47, r284_50, r284_53, r284_56, r284_57, r284_60, r284_61, r284_62, r284_65, r284_68, r284_71, r284_72, r284_75, r284_76, r284_77, r284_78, r284_79, r284_82, r284_83, r284_84, r284_87, r284_90, r284_91, cs_nil, cs_cons, lc_lt, lc_ge, lc_gt, lc_le, lc_eq, fx_270_68 x1, f1, f2, f3, f4, f5, e0, e1, e2, e3, e4, e5, kdW, k5]
/-- what the model's ask leaves as it was -/
def aQ (f g : am_F) : Prop := ∀ c j : Int, ¬ ((c = 270 ∧ ((1 ≤ j ∧ j ≤ 8) ∨ j = 50 ∨ j = 55 ∨ j = 92 ∨ (94 ≤ j ∧ j ≤ 96) ∨ (98 ≤ j ∧ j ≤ 100))) ∨ c = 310 ∨ (340 ≤ c ∧ c ≤ 342)) → g c j = f c j
theorem lk_e (hB : ∀ j, 0 ≤ B j ∧ B j ≤ 255) {p : Int} : lk B N p = -1 ↔ tK B N p = 0 := by
  unfold lk tK
  constructor
  · intro q
    split at q
    · rename_i h; rw [if_pos h]
    · have := hB (tS B N p); omega
  · intro q
    split at q
    · rename_i h; rw [if_pos h]
    · rename_i h
      split at q
      · omega
      · have := (eo_b (B := B) (N := N) (s := 0) (p := p))
        exfalso
        by_cases hp : p ≤ N
        · exact (this hp).2.2.2 (by unfold tS at h; omega) q
        · have e : tS B N p = p := by unfold tS; exact eo_N (by omega)
          omega
def qF (B : Int → Int) (N k q : Int) : Prop := if ¬ qt (tW B N 0) = true ∧ ¬ qs (tW B N 0) = true then k = 1 ∧ q = tS B N 0 else ∃ r, rd B N 3 20000 (if qt (tW B N 0) = true then 9 else 4) (tE B N 0) 0 = some r ∧ qR B N r = .inl (k, q)
def qO (B : Int → Int) (N : Int) (cs : List Int) : Prop := (qt (tW B N 0) = true ∨ qs (tW B N 0) = true) ∧ ∃ r, rd B N 3 20000 (if qt (tW B N 0) = true then 9 else 4) (tE B N 0) 0 = some r ∧ qR B N r = .inr cs
theorem m_ask (hx : aw_fx f) (hwd : aw_wd f) (h : MB f n m r L ρ τ z) (h1 : f 270 1 = N) (hBB : ∀ j, f 271 j = B j) (n0 : 0 ≤ N) (hN : N ≤ 1600) (hB : ∀ j, 0 ≤ B j ∧ B j ≤ 255) (hF : ∀ k q, qF B N k q → ∀ g, g 270 7 = k → g 270 8 = q → g 270 1 = 0 → aQ f g → Q (1, -1000000000000000) g) (hO : ∀ cs, qO B N cs → ∀ g, g 270 7 = 0 → g 270 8 = -1 → g 270 1 = 0 → aQ f g → Q (1, ans (tW B N 0) (UU L ρ z r cs) n) g) : aw_cl (d + 20) 283 [(110, 270)] f Q := by
  have gA : ∀ c j : Int, ¬ (c = 270 ∧ ((1 ≤ j ∧ j ≤ 6) ∨ j = 50 ∨ j = 92 ∨ (94 ≤ j ∧ j ≤ 96))) → (am_up (am_up (am_up (am_up (am_up (am_up (am_up (am_up (am_up (am_up (am_up f 270 3 N) 270 1 0) 270 2 0) 270 4 (-1)) 270 5 0) 270 6 (-1)) 270 50 3) 270 92 0) 270 94 0) 270 95 0) 270 96 0) c j = f c j := fun c j hc => by
    rw [am_un (by omega), am_un (by omega), am_un (by omega), am_un (by omega), am_un (by omega), am_un (by omega), am_un (by omega), am_un (by omega), am_un (by omega), am_un (by omega), am_un (by omega)]
  have v : ∀ w : Int × Int, w ∈ [(3, N), (1, 0), (2, 0), (4, -1), (5, 0), (6, -1), (50, 3), (92, 0), (94, 0), (95, 0), (96, 0)] → (am_up (am_up (am_up (am_up (am_up (am_up (am_up (am_up (am_up (am_up (am_up f 270 3 N) 270 1 0) 270 2 0) 270 4 (-1)) 270 5 0) 270 6 (-1)) 270 50 3) 270 92 0) 270 94 0) 270 95 0) 270 96 0) 270 w.1 = w.2 := by
    intro w hw
    simp only [List.mem_cons, List.not_mem_nil, or_false] at hw
    rcases hw with e | e | e | e | e | e | e | e | e | e | e <;> subst e <;> simp [am_up]
  have st : ∀ Q', aw_wp (d + 20) 283 58 [(110, 270), (2, 0), (2, 0), (2, 0)] [] (am_up (am_up (am_up (am_up (am_up (am_up (am_up (am_up (am_up (am_up (am_up f 270 3 N) 270 1 0) 270 2 0) 270 4 (-1)) 270 5 0) 270 6 (-1)) 270 50 3) 270 92 0) 270 94 0) 270 95 0) 270 96 0) Q' → aw_cl (d + 20) 283 [(110, 270)] f Q' := by
    intro Q' hq
    simpa [q283, r283_0, r283_1, r283_2, r283_5, r283_8, r283_9, r283_10, r283_13, r283_14, r283_15, r283_18, r283_19, r283_20, r283_23, r283_24, r283_25, r283_28, r283_29, r283_30, r283_33, r283_34, r283_35, r283_38, r283_39, r283_40, r283_43, r283_44, r283_45, r283_48, r283_49, r283_50, r283_53, r283_54, r283_55, cs_nil, cs_cons, lc_lt, lc_ge, lc_gt, lc_le, lc_eq, h1] using hq
  refine st _ ?_
  clear st
  generalize am_up (am_up (am_up (am_up (am_up (am_up (am_up (am_up (am_up (am_up (am_up f 270 3 N) 270 1 0) 270 2 0) 270 4 (-1)) 270 5 0) 270 6 (-1)) 270 50 3) 270 92 0) 270 94 0) 270 95 0) 270 96 0 = g at gA v
  have v3 : g 270 3 = N := v (3, N) (by simp)
  have v1 : g 270 1 = 0 := v (1, 0) (by simp)
  have v2 : g 270 2 = 0 := v (2, 0) (by simp)
  have v4 : g 270 4 = -1 := v (4, -1) (by simp)
  have v5 : g 270 5 = 0 := v (5, 0) (by simp)
  have v6 : g 270 6 = -1 := v (6, -1) (by simp)
  have v50 : g 270 50 = 3 := v (50, 3) (by simp)
  have v92 : g 270 92 = 0 := v (92, 0) (by simp)
  have v94 : g 270 94 = 0 := v (94, 0) (by simp)
  have v95 : g 270 95 = 0 := v (95, 0) (by simp)
  have v96 : g 270 96 = 0 := v (96, 0) (by simp)
  clear v
  have hX : MX g B N := by
    refine ⟨⟨fun x hxx => ?_, fun x hxx => ?_⟩, v3, fun j => ?_⟩
    · rw [gA _ _ (by have q := SC_n (fx_n (Or.inl rfl) hxx).1; have q2 := (fx_n (Or.inl rfl) hxx).2; intro e; have : ¬ (x.1 = 270 ∧ x.2.1 = 1) := fun q3 => q2 (by rw [q3.1, q3.2]; exact XC_1); omega)]; exact hx x hxx
    · rw [gA _ _ (by have q := SC_n (wd_n (Or.inl rfl) hxx).1; have q2 := (wd_n (Or.inl rfl) hxx).2; intro e; have : ¬ (x.1 = 270 ∧ x.2.1 = 1) := fun q3 => q2 (by rw [q3.1, q3.2]; exact XC_1); omega)]; exact hwd x hxx
    · rw [gA _ _ (by omega)]; exact hBB j
  have s0 := tS_b (B := B) (N := N) n0
  have hP : PP g B N 0 := ⟨by omega, by omega, ⟨fun q => by omega, fun q => by omega⟩⟩
  have hM0 : MS g B N 3 0 0 0 [] [] := ⟨hX, hP, ⟨v5, ⟨v50, v6⟩, v95, v96⟩, ⟨⟨fx_270_91 hX.1.1, fx_270_93 hX.1.1⟩, ⟨v94, v92⟩, ⟨trivial, trivial⟩, by simp⟩, ⟨by omega, n0, by simp⟩, ⟨by simp, by omega⟩, fun x hx => by cases hx⟩
  have m5 : mfx f := h.1.1
  -- the end with a fault
  have flt : ∀ (g1 : am_F) (k q kd : Int), ¬ k = 0 → qF B N k q → gPw g g1 → g1 270 5 = k → g1 270 6 = q → aw_wp (d + 20) 283 93 [(110, 270), (0, kd), (2, 0), (2, 0)] [] g1 Q := by
    intro g1 k q kd k0 hq gp e5 e6
    have := hF k q hq (am_up (am_up g1 270 7 k) 270 8 q) (by rw [am_un (by omega), am_ue]) am_ue (by rw [am_un (by omega), am_un (by omega), gp _ _ (by omega)]; exact v1) (fun c j hc => by rw [am_un (by omega), am_un (by omega), gp _ _ (by omega), gA _ _ (by omega)])
    have e5' : ¬ g1 270 5 = 0 := by rw [e5]; exact k0
    simpa [r283_93, r283_94, r283_97, cs_nil, cs_cons, lc_lt, lc_ge, lc_gt, lc_le, lc_eq, r283_117, r283_118, r283_119, r283_122, r283_125, r283_126, r283_127, r283_130, r283_133, r283_134, r283_137, r283_140, r283_143, e5, k0, e6, am_un, am_ue, am_up] using this
  by_cases hn : ¬ qt (tW B N 0) = true ∧ ¬ qs (tW B N 0) = true
  · have qk := fun (dd : Nat) (QQ : am_V → am_F → Prop) => m_qkindN (d := dd) (Q := QQ) hX hN (show (0 : Int) ≤ 0 by omega) n0 hP v5 hn
    have bd : (am_up (am_up (am_up g 270 2 (tS B N 0)) 270 5 1) 270 6 (tS B N 0)) 270 5 = 1 := by rw [am_un (by omega), am_ue]
    have := flt (am_up (am_up (am_up g 270 2 (tS B N 0)) 270 5 1) 270 6 (tS B N 0)) 1 (tS B N 0) 5 (by omega) (by unfold qF; rw [if_pos hn]; exact ⟨rfl, rfl⟩) (gPw_up (gPw_up (gPw_up gPw_rf (by omega)) (by omega)) (by omega)) bd am_ue
    simpa [r283_58, r283_59, r283_62, r283_63, r283_64, r283_67, r283_70, r283_71, r283_72, r283_75, r283_76, r283_79, r283_82, r283_83, r283_86, cs_nil, cs_cons, lc_lt, lc_ge, lc_gt, lc_le, lc_eq, qk, bd] using this
  · have hw : qt (tW B N 0) = true ∨ qs (tW B N 0) = true := by
      by_cases q : qt (tW B N 0) = true
      · exact Or.inl q
      · by_cases q' : qs (tW B N 0) = true
        · exact Or.inr q'
        · exact absurd ⟨q, q'⟩ hn
    have hw6 : tW B N 0 = 13 ∨ tW B N 0 = 21 ∨ tW B N 0 = 28 ∨ tW B N 0 = 29 ∨ tW B N 0 = 30 ∨ tW B N 0 = 31 := by rw [qt_i, qs_i] at hw; omega
    have gb := tW_b (B := B) (N := N) n0 (show ¬ tW B N 0 = -1 by omega)
    have k1 := tW_k (B := B) (N := N) (p := 0) (by omega)
    have qk := fun (dd : Nat) (QQ : am_V → am_F → Prop) => m_qkindY (d := dd) (Q := QQ) hX hN (show (0 : Int) ≤ 0 by omega) n0 hP v5 hw
    have gp2 : gP g (am_up (am_up g 270 2 (tE B N 0)) 270 4 (tE B N 0)) := gP_up (gP_up gP_rf (by omega)) (by omega)
    have hM2 : MS (am_up (am_up g 270 2 (tE B N 0)) 270 4 (tE B N 0)) B N 3 (tE B N 0) 0 0 [] [] := by
      refine MS_mk hM0 gp2 (PP_word (Or.inl rfl) k1 (by omega) n0 (by rw [am_un (by omega), am_ue]) am_ue) ?_ ?_ ?_ (RW_fr hM0.2.2.2.1 (fun c j hc => by rw [am_un (by omega), am_un (by omega)])) ⟨by omega, gb.2, by simp; omega⟩ ⟨by simp; omega, by omega⟩ (fun x hx => by cases hx)
      · rw [am_un (by omega), am_un (by omega)]; exact v5
      · rw [am_un (by omega), am_un (by omega)]; exact v95
      · rw [am_un (by omega), am_un (by omega)]; exact v96
    have b5 : (am_up (am_up g 270 2 (tE B N 0)) 270 4 (tE B N 0)) 270 5 = 0 := by rw [am_un (by omega), am_un (by omega)]; exact v5
    generalize am_up (am_up g 270 2 (tE B N 0)) 270 4 (tE B N 0) = g2 at qk gp2 hM2 b5
    -- behind the reading
    have good : ∀ (g3 : am_F) (p' : Int) (cs : List Int), rd B N 3 20000 (if qt (tW B N 0) = true then 9 else 4) (tE B N 0) 0 = some (.inr (p', cs)) → gP g2 g3 → MS g3 B N 3 p' 0 0 [] cs → aw_wp (d + 20) 283 93 [(110, 270), (0, kdW (tW B N 0)), (2, 0), (2, 0)] [] g3 Q := by
      intro g3 p' cs hr gp3 hM3
      obtain ⟨hX3, hP3, ⟨i5, ⟨i50, i6⟩, i95, i96⟩, hR3, hp3, _, _⟩ := id hM3
      have lo := fun (dd : Nat) (QQ : am_V → am_F → Prop) => m_look (d := dd) (Q := QQ) hX3 hN hp3.1 hp3.2.1 hP3.1
      have gp03 := gP_tr gp2 gp3
      by_cases hz : tK B N p' = 0
      · have el : lk B N p' = -1 := (lk_e hB).mpr hz
        have ln := (rd_len _ _ _ _ _ _ hr gb.2).1
        have lc : (cs.length : Int) ≤ 1600 := by omega
        have hty : ∃ b, tr false true cs [] = some [b] ∧ (tW B N 0 = 13 ∨ tW B N 0 = 21 ∨ tW B N 0 = 28 → b = true) := by
          have ty := rd_ty (sk := false) (q := true) (B := B) (N := N) (κ := 3) (fun q => by omega) (fun _ => rfl) 20000 (if qt (tW B N 0) = true then 9 else 4) (tE B N 0) 0 p' cs hr gb.2 (by omega) [] (by split <;> (simp [lvt]))
          by_cases q : qt (tW B N 0) = true
          · rw [if_pos q] at ty
            exact ⟨true, by simpa [tyi, tyo] using ty, fun _ => rfl⟩
          · rw [if_neg q] at ty
            exact ⟨false, by simpa [tyi, tyo] using ty, fun q' => absurd (qt_i.mpr q') q⟩
        obtain ⟨b, hb, hbt⟩ := hty
        have fr4 : ∀ (A : Int) (c j : Int), ¬ ((c = 270 ∧ ((1 ≤ j ∧ j ≤ 8) ∨ j = 50 ∨ j = 92 ∨ (94 ≤ j ∧ j ≤ 96) ∨ (99 ≤ j ∧ j ≤ 100))) ∨ c = 340 ∨ c = 341) → am_up (am_up (am_up (am_up (am_up g3 270 2 (tS B N p')) 270 7 0) 270 8 (-1)) 270 99 A) 270 100 1 c j = f c j := fun A c j hc => by
          rw [am_un (by omega), am_un (by omega), am_un (by omega), am_un (by omega), am_un (by omega), gp03 _ _ (by omega), gA _ _ (by omega)]
        have go : ∀ A : Int, A = ans (tW B N 0) (UU L ρ z r cs) 0 → aw_wp (d + 20) 283 165 [(110, 270), (0, kdW (tW B N 0)), (2, 0), (2, 0)] [] (am_up (am_up (am_up (am_up (am_up g3 270 2 (tS B N p')) 270 7 0) 270 8 (-1)) 270 99 A) 270 100 1) Q := by
          intro A hA
          have e92 : (am_up (am_up (am_up (am_up (am_up g3 270 2 (tS B N p')) 270 7 0) 270 8 (-1)) 270 99 A) 270 100 1) 270 92 = (cs.length : Int) := by rw [am_un (by omega), am_un (by omega), am_un (by omega), am_un (by omega), am_un (by omega)]; exact hR3.2.1.2
          have e340 : al (am_up (am_up (am_up (am_up (am_up g3 270 2 (tS B N p')) 270 7 0) 270 8 (-1)) 270 99 A) 270 100 1) 340 id 0 cs := al_fr cs 0 (fun j _ _ => by rw [am_un (by omega), am_un (by omega), am_un (by omega), am_un (by omega), am_un (by omega)]) hR3.2.2.1.2
          have e99 : (am_up (am_up (am_up (am_up (am_up g3 270 2 (tS B N p')) 270 7 0) 270 8 (-1)) 270 99 A) 270 100 1) 270 99 = A := by rw [am_un (by omega), am_ue]
          have e100 : (am_up (am_up (am_up (am_up (am_up g3 270 2 (tS B N p')) 270 7 0) 270 8 (-1)) 270 99 A) 270 100 1) 270 100 = 1 := am_ue
          have e7 : (am_up (am_up (am_up (am_up (am_up g3 270 2 (tS B N p')) 270 7 0) 270 8 (-1)) 270 99 A) 270 100 1) 270 7 = 0 := by rw [am_un (by omega), am_un (by omega), am_un (by omega), am_ue]
          have e8 : (am_up (am_up (am_up (am_up (am_up g3 270 2 (tS B N p')) 270 7 0) 270 8 (-1)) 270 99 A) 270 100 1) 270 8 = -1 := by rw [am_un (by omega), am_un (by omega), am_ue]
          have e1 : (am_up (am_up (am_up (am_up (am_up g3 270 2 (tS B N p')) 270 7 0) 270 8 (-1)) 270 99 A) 270 100 1) 270 1 = 0 := by rw [am_un (by omega), am_un (by omega), am_un (by omega), am_un (by omega), am_un (by omega), gp03 _ _ (by omega)]; exact v1
          have fr5 := fr4 A
          generalize am_up (am_up (am_up (am_up (am_up g3 270 2 (tS B N p')) 270 7 0) 270 8 (-1)) 270 99 A) 270 100 1 = g4 at fr5 e92 e340 e99 e100 e7 e8 e1
          have hB4 : MB g4 n m r L ρ τ z := MB_fr h (fun c j _ _ => fr5 c j (by omega)) (fun j hj => fr5 270 j (by omega))
          simp [r283_165, r283_166, cs_nil, cs_cons, lc_lt, lc_ge, lc_gt, lc_le, lc_eq]
          refine m_askT hB4 ?_
          intro g5 x hA5 fr6
          obtain ⟨tx, vx⟩ := x
          have hB5 : MB (am_up g5 270 50 3) n m r L ρ τ z := MB_fr hB4 (fun c j _ _ => by rw [am_un (by omega), fr6 _ _ (by omega)]) (fun j hj => by rw [am_un (by omega), fr6 _ _ (by omega)])
          have := m_askL (d := d + 15) (Q := Q) (x := (tx, vx)) hB5 (fun k' t' a b c e => by rw [am_un (by omega)]; exact hA5 k' t' a b c e) (by rw [am_un (by omega), fr6 _ _ (by omega)]; exact e92) lc (al_fr cs 0 (fun j _ _ => by rw [am_un (by omega), fr6 _ _ (by omega)]) e340) hb hw6 hbt (by rw [am_un (by omega), fr6 _ _ (by omega), e99, hA]) (by rw [am_un (by omega), fr6 _ _ (by omega)]; exact e100) (fun g7 fr7 => hO cs ⟨hw, _, hr, qR_0 hz⟩ g7 (by rw [fr7 _ _ (by omega), am_un (by omega), fr6 _ _ (by omega)]; exact e7) (by rw [fr7 _ _ (by omega), am_un (by omega), fr6 _ _ (by omega)]; exact e8) (by rw [fr7 _ _ (by omega), am_un (by omega), fr6 _ _ (by omega)]; exact e1) (fun c j hc => by rw [fr7 _ _ (by omega), am_un (by omega), fr6 _ _ (by omega), fr5 _ _ (by omega)]))
          simpa [r283_226, r283_227, r283_228, r283_231, r283_232, cs_nil, cs_cons, lc_lt, lc_ge, lc_gt, lc_le, lc_eq] using this
        have ki : (kdW (tW B N 0) < 2 ∧ ans (tW B N 0) (UU L ρ z r cs) 0 = -1) ∨ (2 ≤ kdW (tW B N 0) ∧ ans (tW B N 0) (UU L ρ z r cs) 0 = 0) := by
          rcases hw6 with e | e | e | e | e | e <;> rw [e] <;> simp [kdW, ans, aFst, aLst, aOft, aTot, aMst, aLea]
        rcases ki with ⟨q1, q2⟩ | ⟨q1, q2⟩
        · have := go (-1) q2.symm
          simpa (disch := omega) [r283_93, r283_94, r283_97, r283_100, r283_101, r283_104, r283_105, r283_108, r283_109, r283_110, r283_111, r283_114, r283_117, r283_118, r283_119, r283_122, r283_125, r283_126, r283_127, r283_130, r283_133, r283_134, r283_137, r283_140, r283_143, r283_144, r283_145, r283_146, r283_147, r283_150, r283_153, r283_156, r283_157, r283_160, r283_161, r283_162, cs_nil, cs_cons, lc_lt, lc_ge, lc_gt, lc_le, lc_eq, i5, i6, lo, el, am_un, am_ue, q1, le_T, lt_T, le_F, lt_F] using this
        · have := go 0 q2.symm
          simpa (disch := omega) [r283_93, r283_94, r283_97, r283_100, r283_101, r283_104, r283_105, r283_108, r283_109, r283_110, r283_111, r283_114, r283_117, r283_118, r283_119, r283_122, r283_125, r283_126, r283_127, r283_130, r283_133, r283_134, r283_137, r283_140, r283_143, r283_144, r283_145, r283_146, r283_147, r283_150, r283_153, r283_156, r283_157, r283_160, r283_161, r283_162, cs_nil, cs_cons, lc_lt, lc_ge, lc_gt, lc_le, lc_eq, i5, i6, lo, el, am_un, am_ue, q1, le_T, lt_T, le_F, lt_F] using this
      · have el : ¬ lk B N p' = -1 := fun q => hz ((lk_e hB).mp q)
        have mf := fun (dd : Nat) (QQ : am_V → am_F → Prop) (k q : Int) => m_fail (d := dd) (Q := QQ) (k := k) (q := q) (MS_at hM3).1.2.2.1.1
        have hA3 := (MS_at hM3).2
        have := hF 1 (tS B N p') (by unfold qF; rw [if_neg hn]; exact ⟨_, hr, qR_1 hz⟩) (am_up (am_up (am_up (am_up (am_up g3 270 2 (tS B N p')) 270 5 1) 270 6 (tS B N p')) 270 7 1) 270 8 (tS B N p')) (by rw [am_un (by omega), am_ue]) am_ue (by rw [am_un (by omega), am_un (by omega), am_un (by omega), am_un (by omega), am_un (by omega), gp03 _ _ (by omega)]; exact v1) (fun c j hc => by rw [am_un (by omega), am_un (by omega), am_un (by omega), am_un (by omega), am_un (by omega), gp03 _ _ (by omega), gA _ _ (by omega)])
        simpa (disch := omega) [r283_93, r283_94, r283_97, r283_100, r283_101, r283_104, r283_105, r283_108, r283_109, r283_110, r283_111, r283_114, r283_117, r283_118, r283_119, r283_122, r283_125, r283_126, r283_127, r283_130, r283_133, r283_134, r283_137, r283_140, r283_143, cs_nil, cs_cons, lc_lt, lc_ge, lc_gt, lc_le, lc_eq, i5, lo, el, hA3, mf, am_un, am_ue] using this
    by_cases ht : qt (tW B N 0) = true
    · obtain ⟨r0, hr⟩ := rd_K (B := B) (κ := 3) (o := 0) hN (show 0 ≤ tE B N 0 by omega) gb.2 9
      have kd3 : ¬ 3 ≤ kdW (tW B N 0) := by rcases qt_i.mp ht with e | e | e <;> rw [e] <;> decide
      simp [r283_58, r283_59, r283_62, r283_63, r283_64, r283_67, r283_70, r283_71, r283_72, r283_75, r283_76, cs_nil, cs_cons, lc_lt, lc_ge, lc_gt, lc_le, lc_eq, qk, b5, kd3]
      refine m_test (d := d + 10) hN (by omega) hr hM2 ?_
      rw [if_pos ht] at good
      match r0, hr with
      | .inl (k, q), hr =>
        intro g3 a1 a2 a3 a4
        have := flt g3 k q (kdW (tW B N 0)) (rd_fk hr) (by unfold qF; rw [if_neg hn, if_pos ht]; exact ⟨_, hr, rfl⟩) (gPw_tr gp2 a1) a2 a3
        simpa [r283_79, cs_nil, cs_cons, lc_lt, lc_ge, lc_gt, lc_le, lc_eq] using this
      | .inr (p', cs), hr =>
        intro g3 a1 a2
        have := good g3 p' cs hr a1 a2
        simpa [r283_79, cs_nil, cs_cons, lc_lt, lc_ge, lc_gt, lc_le, lc_eq] using this
    · obtain ⟨r0, hr⟩ := rd_K (B := B) (κ := 3) (o := 0) hN (show 0 ≤ tE B N 0 by omega) gb.2 4
      have kd3 : 3 ≤ kdW (tW B N 0) := by rcases qs_i.mp (hw.resolve_left ht) with e | e | e <;> rw [e] <;> decide
      simp [r283_58, r283_59, r283_62, r283_63, r283_64, r283_67, r283_70, r283_71, r283_72, r283_75, r283_76, r283_79, r283_82, r283_83, r283_86, r283_89, r283_90, cs_nil, cs_cons, lc_lt, lc_ge, lc_gt, lc_le, lc_eq, qk, b5, kd3]
      refine m_sums (d := d + 12) (Wb := []) hN (by omega) (fun x hx => by cases hx) hr hM2 ?_
      rw [if_neg ht] at good
      match r0, hr with
      | .inl (k, q), hr =>
        intro g3 a1 a2 a3 a4
        have := flt (am_up g3 270 96 0) k q (kdW (tW B N 0)) (rd_fk hr) (by unfold qF; rw [if_neg hn, if_neg ht]; exact ⟨_, hr, rfl⟩) (gPw_tr gp2 (gPw_up a1 (by omega))) (by rw [am_un (by omega)]; exact a2) (by rw [am_un (by omega)]; exact a3)
        simpa using this
      | .inr (p', cs), hr =>
        intro g3 a1 a2
        have := good g3 p' cs hr a1 a2
        simpa using this
end
