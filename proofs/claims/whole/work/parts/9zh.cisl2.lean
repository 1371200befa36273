/-! island, the one side -/
section
variable {d : Nat} {f g : am_F} {B : Int → Int} {N p l : Int} {Q : am_V → am_F → Prop} {I : IS}
theorem fxL {f : am_F} (h : aw_fx f) (lc : l = 1 ∨ l = 20) : sL f l := by
  unfold sL
  rcases lc with e | e
  · subst e
    exact ⟨by omega, ⟨fx_1_0 h, fx_1_1 h, fx_1_2 h, fx_1_3 h, fx_1_4 h, fx_1_5 h, fx_1_6 h, fx_1_7 h, fx_1_8 h, fx_10_0 h, fx_10_1 h, fx_10_2 h⟩, sl_n (Or.inl rfl)⟩
  · subst e
    exact ⟨by omega, ⟨fx_20_0 h, fx_20_1 h, fx_20_2 h, fx_20_3 h, fx_20_4 h, fx_20_5 h, fx_20_6 h, fx_20_7 h, fx_20_8 h, fx_29_0 h, fx_29_1 h, fx_29_2 h⟩, sl_n (Or.inr rfl)⟩
def stl (f : am_F) (l : Int) : am_F := am_cpy (am_fi (am_fi (am_fi (am_fi (am_fi (am_up (am_up (am_up f 46 9 l) 46 10 0) 46 11 0) 47 0 8) 48 0 8) 49 0 8) 50 0 8) 51 0 8) (l + 4) 0 52 0 8
theorem c_settle (h46 : f 46 0 = 47 ∧ f 46 1 = 48 ∧ f 46 2 = 49 ∧ f 46 3 = 50 ∧ f 46 4 = 51 ∧ f 46 5 = 52) (hl3 : f l 3 = l + 4) (lc : l = 1 ∨ l = 20) (hQ : Q (3, 0) (stl f l)) : aw_cl (d + 1) 60 [(107, 46), (100, l)] f Q := by
  have l0 : 0 ≤ l := by omega
  have l4 : 0 ≤ l + 4 := by omega
  have n4 := (sl_n lc).2.2.2.1
  have cr := fun (dd : Nat) (QQ : am_V → am_F → Prop) (g : am_F) => c_row (d := dd) (f := g) (Q := QQ) (a0 := l + 4) (a := 52) (k := 8) l4 (by omega) (by omega) (by rw [n4]; omega) (by rw [ln_52]; omega)
  clear n4
  have t6 : ∀ g : am_F, g l 3 = l + 4 → g 46 5 = 52 → Q (3, 0) (am_cpy g (l + 4) 0 52 0 8) → aw_wp (d + 1) 60 55 [(107, 46), (100, l)] [] g Q := by
    intro g a b c
    simpa [r60_55, r60_56, r60_59, r60_60, r60_63, r60_65, r60_68, cs_nil, cs_cons, lc_lt, lc_ge, lc_gt, lc_le, lc_eq, a, b, l0, l4, cr] using c
  have t5 : ∀ g : am_F, g 46 4 = 51 → aw_wp (d + 1) 60 55 [(107, 46), (100, l)] [] (am_fi g 51 0 8) Q → aw_wp (d + 1) 60 47 [(107, 46), (100, l)] [] g Q := by
    intro g a c
    have af := fun (dd : Nat) (QQ : am_V → am_F → Prop) => c_afill (d := dd) (f := g) (Q := QQ) (a := 51) (v := 0) (n := 8) (by omega) ln_51 (by omega) (by omega)
    simpa [r60_47, r60_48, r60_51, r60_52, cs_nil, cs_cons, lc_lt, lc_ge, lc_gt, lc_le, lc_eq, a, af] using c
  have t4 : ∀ g : am_F, g 46 3 = 50 → aw_wp (d + 1) 60 47 [(107, 46), (100, l)] [] (am_fi g 50 0 8) Q → aw_wp (d + 1) 60 39 [(107, 46), (100, l)] [] g Q := by
    intro g a c
    have af := fun (dd : Nat) (QQ : am_V → am_F → Prop) => c_afill (d := dd) (f := g) (Q := QQ) (a := 50) (v := 0) (n := 8) (by omega) ln_50 (by omega) (by omega)
    simpa [r60_39, r60_40, r60_43, r60_44, cs_nil, cs_cons, lc_lt, lc_ge, lc_gt, lc_le, lc_eq, a, af] using c
  have t3 : ∀ g : am_F, g 46 2 = 49 → aw_wp (d + 1) 60 39 [(107, 46), (100, l)] [] (am_fi g 49 0 8) Q → aw_wp (d + 1) 60 31 [(107, 46), (100, l)] [] g Q := by
    intro g a c
    have af := fun (dd : Nat) (QQ : am_V → am_F → Prop) => c_afill (d := dd) (f := g) (Q := QQ) (a := 49) (v := 0) (n := 8) (by omega) ln_49 (by omega) (by omega)
    simpa [r60_31, r60_32, r60_35, r60_36, cs_nil, cs_cons, lc_lt, lc_ge, lc_gt, lc_le, lc_eq, a, af] using c
  have t2 : ∀ g : am_F, g 46 1 = 48 → aw_wp (d + 1) 60 31 [(107, 46), (100, l)] [] (am_fi g 48 0 8) Q → aw_wp (d + 1) 60 23 [(107, 46), (100, l)] [] g Q := by
    intro g a c
    have af := fun (dd : Nat) (QQ : am_V → am_F → Prop) => c_afill (d := dd) (f := g) (Q := QQ) (a := 48) (v := 0) (n := 8) (by omega) ln_48 (by omega) (by omega)
    simpa [r60_23, r60_24, r60_27, r60_28, cs_nil, cs_cons, lc_lt, lc_ge, lc_gt, lc_le, lc_eq, a, af] using c
  have t1 : ∀ g : am_F, g 46 0 = 47 → aw_wp (d + 1) 60 23 [(107, 46), (100, l)] [] (am_fi g 47 0 8) Q → aw_wp (d + 1) 60 15 [(107, 46), (100, l)] [] g Q := by
    intro g a c
    have af := fun (dd : Nat) (QQ : am_V → am_F → Prop) => c_afill (d := dd) (f := g) (Q := QQ) (a := 47) (v := 0) (n := 8) (by omega) ln_47 (by omega) (by omega)
    simpa [r60_15, r60_16, r60_19, r60_20, cs_nil, cs_cons, lc_lt, lc_ge, lc_gt, lc_le, lc_eq, a, af] using c
  have y : ∀ c j : Int, ¬ (c = 46 ∧ 9 ≤ j) → (am_up (am_up (am_up f 46 9 l) 46 10 0) 46 11 0) c j = f c j := fun c j hc => by rw [am_un (by omega), am_un (by omega), am_un (by omega)]
  have := t1 (am_up (am_up (am_up f 46 9 l) 46 10 0) 46 11 0) (by rw [y _ _ (by omega)]; exact h46.1) (t2 _ (by rw [fl_n (by omega), y _ _ (by omega)]; exact h46.2.1) (t3 _ (by rw [fl_n (by omega), fl_n (by omega), y _ _ (by omega)]; exact h46.2.2.1) (t4 _ (by rw [fl_n (by omega), fl_n (by omega), fl_n (by omega), y _ _ (by omega)]; exact h46.2.2.2.1) (t5 _ (by rw [fl_n (by omega), fl_n (by omega), fl_n (by omega), fl_n (by omega), y _ _ (by omega)]; exact h46.2.2.2.2.1) (t6 _ (by rw [fl_n (by omega), fl_n (by omega), fl_n (by omega), fl_n (by omega), fl_n (by omega), y _ _ (by omega)]; exact hl3) (by rw [fl_n (by omega), fl_n (by omega), fl_n (by omega), fl_n (by omega), fl_n (by omega), y _ _ (by omega)]; exact h46.2.2.2.2.2) hQ)))))
  simpa [q60, r60_0, r60_1, r60_2, r60_5, r60_6, r60_7, r60_10, r60_11, r60_12, cs_nil, cs_cons, lc_lt, lc_ge, lc_gt, lc_le, lc_eq, l0] using this
def isR (g : am_F) (l l0 : Int) : am_F := am_up (stl (am_up (am_up (am_up (am_up g 0 14 0) 0 15 (-1)) 14 1 0) 0 11 l0) l) 66 2 0
theorem stl_o {c j : Int} (h : ¬ ((c = 46 ∧ (j = 9 ∨ j = 10 ∨ j = 11)) ∨ (47 ≤ c ∧ c ≤ 52))) : stl f l c j = f c j := by
  unfold stl
  rw [cpy_n (by omega), fl_n (by omega), fl_n (by omega), fl_n (by omega), fl_n (by omega), fl_n (by omega), am_un (by omega), am_un (by omega), am_un (by omega)]
theorem isR_o {l0 c j : Int} (h : ¬ ((c = 46 ∧ (j = 9 ∨ j = 10 ∨ j = 11)) ∨ (47 ≤ c ∧ c ≤ 52) ∨ (c = 0 ∧ (j = 11 ∨ j = 14 ∨ j = 15)) ∨ (c = 14 ∧ j = 1) ∨ (c = 66 ∧ j = 2))) : isR g l l0 c j = g c j := by
  unfold isR
  rw [am_un (by omega), stl_o (by omega), am_un (by omega), am_un (by omega), am_un (by omega), am_un (by omega)]
theorem isR_v {l0 : Int} (lc : l = 1 ∨ l = 20) : (isR g l l0 46 9 = l ∧ isR g l l0 46 10 = 0 ∧ isR g l l0 46 11 = 0) ∧ (∀ i t : Int, 1 ≤ i → i ≤ 5 → 0 ≤ t → t < 8 → isR g l l0 (46 + i) t = 0) ∧ (∀ t : Int, 0 ≤ t → t < 8 → isR g l l0 52 t = g (l + 4) t) ∧ isR g l l0 66 2 = 0 ∧ isR g l l0 0 11 = l0 ∧ isR g l l0 0 14 = 0 ∧ isR g l l0 0 15 = -1 ∧ isR g l l0 14 1 = 0 := by
  have e : ∀ c j : Int, ¬ (c = 66 ∧ j = 2) → isR g l l0 c j = stl (am_up (am_up (am_up (am_up g 0 14 0) 0 15 (-1)) 14 1 0) 0 11 l0) l c j := fun c j h => by unfold isR; rw [am_un (by omega)]
  refine ⟨⟨?_, ?_, ?_⟩, ?_, ?_, ?_, ?_, ?_, ?_, ?_⟩
  · rw [e _ _ (by omega)]; unfold stl
    rw [cpy_n (by omega), fl_n (by omega), fl_n (by omega), fl_n (by omega), fl_n (by omega), fl_n (by omega), am_un (by omega), am_un (by omega), am_ue]
  · rw [e _ _ (by omega)]; unfold stl
    rw [cpy_n (by omega), fl_n (by omega), fl_n (by omega), fl_n (by omega), fl_n (by omega), fl_n (by omega), am_un (by omega), am_ue]
  · rw [e _ _ (by omega)]; unfold stl
    rw [cpy_n (by omega), fl_n (by omega), fl_n (by omega), fl_n (by omega), fl_n (by omega), fl_n (by omega), am_ue]
  · intro i t i1 i5 t0 t8
    rw [e _ _ (by omega)]; unfold stl
    rcases (show i = 1 ∨ i = 2 ∨ i = 3 ∨ i = 4 ∨ i = 5 by omega) with q | q | q | q | q <;> subst q
    · rw [cpy_n (by omega), fl_n (by omega), fl_n (by omega), fl_n (by omega), fl_n (by omega), show (46 : Int) + 1 = 47 by omega, fl_i ⟨t0, t8⟩]
    · rw [cpy_n (by omega), fl_n (by omega), fl_n (by omega), fl_n (by omega), show (46 : Int) + 2 = 48 by omega, fl_i ⟨t0, t8⟩]
    · rw [cpy_n (by omega), fl_n (by omega), fl_n (by omega), show (46 : Int) + 3 = 49 by omega, fl_i ⟨t0, t8⟩]
    · rw [cpy_n (by omega), fl_n (by omega), show (46 : Int) + 4 = 50 by omega, fl_i ⟨t0, t8⟩]
    · rw [cpy_n (by omega), show (46 : Int) + 5 = 51 by omega, fl_i ⟨t0, t8⟩]
  · intro t t0 t8
    rw [e _ _ (by omega)]; unfold stl am_cpy
    rw [if_pos ⟨rfl, by omega, by omega⟩, show 0 + (t - 0) = t by omega, fl_n (by omega), fl_n (by omega), fl_n (by omega), fl_n (by omega), fl_n (by omega), am_un (by omega), am_un (by omega), am_un (by omega), am_un (by omega), am_un (by omega), am_un (by omega), am_un (by omega)]
  · unfold isR; exact am_ue
  · rw [e _ _ (by omega), stl_o (by omega), am_ue]
  · rw [e _ _ (by omega), stl_o (by omega), am_un (by omega), am_un (by omega), am_un (by omega), am_ue]
  · rw [e _ _ (by omega), stl_o (by omega), am_un (by omega), am_un (by omega), am_ue]
  · rw [e _ _ (by omega), stl_o (by omega), am_un (by omega), am_ue]
theorem c_isl2 {l0 s : Int} (lc : l = 1 ∨ l = 20) (cf : g 0 0 = 14 ∧ g 0 1 = 33 ∧ g 0 6 = 46 ∧ g 0 8 = 66) (h011 : g 0 11 = l) (h46 : g 46 0 = 47 ∧ g 46 1 = 48 ∧ g 46 2 = 49 ∧ g 46 3 = 50 ∧ g 46 4 = 51 ∧ g 46 5 = 52) (hl3 : g l 3 = l + 4) (e11 : g 33 11 = 0) (e12 : g 33 12 = -1) (hl0 : g 46 9 = l0) (h00 : 0 ≤ l0) (hs : g l 13 = s) (hQ : Q (0, s) (isR g l l0)) : aw_wp (d + 100) 14 11 [(109, 0), (2, 0), (2, 0)] [(0, 1)] g Q := by
  have l00 : 0 ≤ l := by omega
  have lne : ¬ l = 0 ∧ ¬ l = 14 ∧ ¬ l = 66 := by omega
  have r8 : stl (am_up (am_up (am_up (am_up g 0 14 0) 0 15 (-1)) 14 1 0) 0 11 l0) l 0 8 = 66 := by rw [stl_o (by omega), am_un (by omega), am_un (by omega), am_un (by omega), am_un (by omega)]; exact cf.2.2.2
  have r13 : stl (am_up (am_up (am_up (am_up g 0 14 0) 0 15 (-1)) 14 1 0) 0 11 l0) l l 13 = s := by rw [stl_o (by omega), am_un (by omega), am_un (by omega), am_un (by omega), am_un (by omega)]; exact hs
  unfold isR at hQ
  have y : ∀ c j : Int, ¬ ((c = 0 ∧ (j = 11 ∨ j = 14 ∨ j = 15)) ∨ (c = 14 ∧ j = 1)) → (am_up (am_up (am_up (am_up g 0 14 0) 0 15 (-1)) 14 1 0) 0 11 l0) c j = g c j := fun c j hc => by rw [am_un (by omega), am_un (by omega), am_un (by omega), am_un (by omega)]
  have : aw_cl (d + 99) 60 [(107, 46), (100, l)] (am_up (am_up (am_up (am_up g 0 14 0) 0 15 (-1)) 14 1 0) 0 11 l0) (fun v f' => aw_wp (d + 100) 14 58 [(109, 0), (0, 1), (100, l)] (if v.fst = 3 then [] else [v]) f' Q) := by
    refine c_settle (d := d + 98) ⟨(y _ _ (by omega)).trans h46.1, (y _ _ (by omega)).trans h46.2.1, (y _ _ (by omega)).trans h46.2.2.1, (y _ _ (by omega)).trans h46.2.2.2.1, (y _ _ (by omega)).trans h46.2.2.2.2.1, (y _ _ (by omega)).trans h46.2.2.2.2.2⟩ ((y _ _ (by omega)).trans hl3) lc ?_
    simpa (disch := omega) [r14_58, r14_59, r14_62, r14_63, r14_66, r14_67, r14_70, cs_nil, cs_cons, lc_lt, lc_ge, lc_gt, lc_le, lc_eq, r8, r13, l00, lne, am_un] using hQ
  simpa (disch := omega) [r14_11, r14_12, r14_13, r14_16, r14_17, r14_20, r14_21, r14_24, r14_25, r14_28, r14_29, r14_30, r14_33, r14_34, r14_35, r14_38, r14_39, r14_40, r14_41, r14_44, r14_47, r14_50, r14_51, r14_54, r14_55, cs_nil, cs_cons, lc_lt, lc_ge, lc_gt, lc_le, lc_eq, q59, r59_0, r59_1, r59_2, r59_5, r59_8, r59_11, r59_12, r59_13, r59_16, r59_19, r59_22, cs_nil, cs_cons, lc_lt, lc_ge, lc_gt, lc_le, lc_eq, cf, h011, e11, e12, hl0, h00, l00, lne, am_un, am_ue] using this
def fCw (l : Int) (f g : am_F) : Prop := ∀ c j : Int, ¬ ((c = 33 ∧ 1 ≤ j) ∨ (c = l ∧ 9 ≤ j) ∨ (l + 1 ≤ c ∧ c ≤ l + 8) ∨ (c = l + 9 ∧ j = 3) ∨ (l + 10 ≤ c ∧ c ≤ l + 12) ∨ (c = 0 ∧ (j = 14 ∨ j = 15)) ∨ (c = 14 ∧ j = 1) ∨ (c = 269 ∧ j = 1)) → g c j = f c j
theorem c_island (hx : aw_fx f) (lc : l = 1 ∨ l = 20) (h011 : f 0 11 = l) (h00 : 0 ≤ f 46 9) (h : CT f B N) (hN : N ≤ 1600) (n0 : 0 ≤ N) (hB : ∀ j, 0 ≤ B j ∧ B j ≤ 255) (hF : ∀ k q, il B N 80 I0 0 = .inl (k, q) → ∀ g, g 0 14 = k → g 0 15 = q → g 14 1 = 0 → g 269 1 = am_wI (f 269 1 + 1) → fCw l f g → Q (0, -1) g) (hO : ∀ I', il B N 80 I0 0 = .inr I' → PI I' → ∀ g sz, CI g l (dI (dI (dI (dI (dI I' 0) 1) 2) 3) 4) sz → sz ≤ 1616 → fIr l f g → Q (0, I'.2.1 0 1) (isR g l (f 46 9))) : aw_cl (d + 100) 14 [(109, 0)] f Q := by
  have cf := c_fx hx
  have cf0 : f 0 0 = 14 ∧ f 0 1 = 33 ∧ f 0 6 = 46 ∧ f 0 8 = 66 ∧ f 0 10 = 269 := by simp [cf]
  have l0 : 0 ≤ l := by omega
  have x46 := fx46 hx
  have w0 : aw_cl (d + 99) 15 [(104, 33), (100, l)] f (fun v f' => aw_wp (d + 100) 14 11 [(109, 0), (2, 0), (2, 0)] (if v.fst = 3 then [] else [v]) f' Q) := by
    refine c_readI h hN n0 hB lc (fxL hx lc) ?_ ?_
    · intro k q hil g e11 e12 fr
      have g0 : g 0 0 = 14 ∧ g 0 1 = 33 ∧ g 0 10 = 269 := ⟨(fr _ _ (by omega)).trans cf0.1, (fr _ _ (by omega)).trans cf0.2.1, (fr _ _ (by omega)).trans cf0.2.2.2.2⟩
      have fr2 : ∀ c j : Int, ¬ ((c = 0 ∧ (j = 14 ∨ j = 15)) ∨ (c = 14 ∧ j = 1) ∨ (c = 269 ∧ j = 1)) → (am_up (am_up (am_up (am_up g 0 14 k) 0 15 q) 14 1 0) 269 1 (am_wI (g 269 1 + 1))) c j = g c j := fun c j hc => by rw [am_un (by omega), am_un (by omega), am_un (by omega), am_un (by omega)]
      have := hF k q hil (am_up (am_up (am_up (am_up g 0 14 k) 0 15 q) 14 1 0) 269 1 (am_wI (g 269 1 + 1))) (by rw [am_un (by omega), am_un (by omega), am_un (by omega), am_ue]) (by rw [am_un (by omega), am_un (by omega), am_ue]) (by rw [am_un (by omega), am_ue]) (by rw [am_ue, fr _ _ (by omega)]) (fun c j hc => by rw [fr2 _ _ (by omega), fr _ _ (by omega)])
      simpa (disch := omega) [r14_11, r14_12, r14_13, r14_16, r14_17, r14_20, r14_21, r14_24, r14_25, r14_28, r14_29, r14_30, r14_33, cs_nil, cs_cons, lc_lt, lc_ge, lc_gt, lc_le, lc_eq, q59, r59_0, r59_1, r59_2, r59_5, r59_8, r59_11, r59_12, r59_13, r59_16, r59_19, r59_22, cs_nil, cs_cons, lc_lt, lc_ge, lc_gt, lc_le, lc_eq, q11, r11_0, r11_1, r11_4, r11_5, r11_6, r11_7, r11_8, r11_9, r11_10, r11_11, cs_nil, cs_cons, lc_lt, lc_ge, lc_gt, lc_le, lc_eq, g0, e11, e12, ln_269, am_un, am_ue, am_fitE, le_T, lt_T] using this
    · intro I' hil g sz hI hp hsz h33 e11 e12 fr k
      simp (disch := omega) [r15_96, r15_97, r15_100, cs_nil, cs_cons, lc_lt, lc_ge, lc_gt, lc_le, lc_eq, h33, l0]
      refine c_defs (d := d + 96) hI (fun w w0 w1 hw => (hp.2.2.2.1 w w0 w1 hw).1) (by omega) ?_
      intro g2 sz2 hI2 le2 fr2
      have fa : fIr l f g2 := fun c j hc => by rw [fr2 _ _ (by omega), fr _ _ hc]
      have s13 : g2 l 13 = I'.2.1 0 1 := by rw [fr2 _ _ (by omega)]; exact hI.2.2.1.2.2.2.2
      have := c_isl2 (d := d) (g := g2) (l := l) (l0 := f 46 9) (s := I'.2.1 0 1) (Q := Q) lc ⟨(fa _ _ (by omega)).trans cf0.1, (fa _ _ (by omega)).trans cf0.2.1, (fa _ _ (by omega)).trans cf0.2.2.1, (fa _ _ (by omega)).trans cf0.2.2.2.1⟩ ((fa _ _ (by omega)).trans h011) ⟨(fa _ _ (by omega)).trans (fx_46_0 hx), (fa _ _ (by omega)).trans (fx_46_1 hx), (fa _ _ (by omega)).trans (fx_46_2 hx), (fa _ _ (by omega)).trans (fx_46_3 hx), (fa _ _ (by omega)).trans (fx_46_4 hx), (fa _ _ (by omega)).trans (fx_46_5 hx)⟩ (sl_f hI2.1).2.2.2.1 ((fr2 _ _ (by omega)).trans e11) ((fr2 _ _ (by omega)).trans e12) (fa _ _ (by omega)) h00 s13 (hO I' hil hp g2 sz2 hI2 le2 fa)
      simpa [r15_103, r15_104, cs_nil, cs_cons, lc_lt, lc_ge, lc_gt, lc_le, lc_eq] using this
  simpa (disch := omega) [q14, r14_0, r14_1, r14_4, r14_5, r14_8, cs_nil, cs_cons, lc_lt, lc_ge, lc_gt, lc_le, lc_eq, cf0, h011, l0] using w0
end
