/-! islands: rules that were not told -/
section
variable {d : Nat} {f g : am_F} {l sz : Int} {Q : am_V → am_F → Prop} {I : IS}
/-- a rule's codes, told or not -/
def dI (I : IS) (w : Int) : IS := if I.2.2.2.1 w = true then I else (I.1, I.2.1, u1 I.2.2.1 w (dfl w), u1 I.2.2.2.1 w true, I.2.2.2.2)
theorem ty_dfl {w : Int} (w0 : 0 ≤ w) (w5 : w < 5) : 0 < (dfl w).length ∧ (dfl w).length ≤ 3 ∧ ∃ b, tr (skw w) false (dfl w) [] = some [b] ∧ (tyw w = true → b = true ∨ dfl w = [1000]) := by
  rcases (show w = 0 ∨ w = 1 ∨ w = 2 ∨ w = 3 ∨ w = 4 by omega) with e | e | e | e | e <;> subst e
  · exact ⟨by decide, by decide, true, by decide, fun _ => Or.inl rfl⟩
  · exact ⟨by decide, by decide, false, by decide, fun _ => Or.inr rfl⟩
  · exact ⟨by decide, by decide, false, by decide, fun h => absurd h (by decide)⟩
  · exact ⟨by decide, by decide, false, by decide, fun h => absurd h (by decide)⟩
  · exact ⟨by decide, by decide, false, by decide, fun h => absurd h (by decide)⟩
/-- told rules are not empty -/
def NE (I : IS) : Prop := ∀ w, 0 ≤ w → w < 10 → I.2.2.2.1 w = true → 0 < (I.2.2.1 w).length
theorem NE_d {w : Int} (h : NE I) (w0 : 0 ≤ w) (w5 : w < 5) : NE (dI I w) := by
  unfold dI
  split
  · exact h
  · intro v v0 v1 hv
    have hv : u1 I.2.2.2.1 w true v = true := hv
    show 0 < (u1 I.2.2.1 w (dfl w) v).length
    by_cases q : v = w
    · subst q
      rw [u1_e]; exact (ty_dfl w0 w5).1
    · rw [u1_n q] at hv ⊢
      exact h v v0 v1 hv
theorem c_utold2 {w : Int} (hI : CI f l I sz) (hn : NE I) (w0 : 0 ≤ w) (w1 : w < 5) : aw_cl d 54 [(106, l + 9), (0, cr w)] f Q = Q (0, if I.2.2.2.1 w = true then 1 else 0) f := by
  have hl := hI.2.1
  have crb := cr_b w0 (show w < 10 by omega)
  apply aw_det
  by_cases ht : I.2.2.2.1 w = true
  · obtain ⟨k0, a, b, c, e, _⟩ := hI.2.2.2.2.2.2.1 w w0 (by omega) ht
    have len := hn w w0 (by omega) ht
    have hh2 : f (l + 11) (cr w) < f (l + 12) (cr w) := by rw [a, b]; omega
    clear a b c e len
    simp (disch := omega) [q54, r54_0, r54_1, r54_4, r54_5, r54_6, r54_7, r54_10, r54_11, r54_12, r54_15, r54_16, r54_19, r54_20, cs_nil, cs_cons, lc_lt, lc_ge, lc_gt, lc_le, lc_eq, sl_f hI.1, sl_n hl, ht, hh2, le_T, lt_T, le_F, lt_F]
  · obtain ⟨a, b⟩ := hI.2.2.2.2.2.2.2.1 w w0 w1 ht
    simp (disch := omega) [q54, r54_0, r54_1, r54_4, r54_5, r54_6, r54_7, r54_10, r54_11, r54_12, r54_15, r54_16, r54_19, r54_20, cs_nil, cs_cons, lc_lt, lc_ge, lc_gt, lc_le, lc_eq, sl_f hI.1, sl_n hl, ht, a, b, le_T, lt_T]
theorem c_uadd {v : Int} (hl : l = 1 ∨ l = 20) (hs : sL f l) (hz : f (l + 9) 3 = sz) (z0 : 0 ≤ sz) (z1 : sz < 1616) : aw_cl d 43 [(106, l + 9), (0, v)] f Q = Q (0, 1) (am_up (am_up f (l + 9) 3 (sz + 1)) (l + 10) sz v) := by
  have l9 : 0 ≤ l + 9 := by omega
  have l10 : 0 ≤ l + 10 := by omega
  have e0 : (am_up f (l + 9) 3 (sz + 1)) (l + 9) 0 = l + 10 := by rw [am_un (by omega)]; exact (sl_f hs).2.2.2.2.2.2.2.2.2.1
  apply aw_det
  simp (disch := omega) [q43, r43_0, r43_1, r43_4, r43_5, r43_8, r43_9, r43_12, r43_13, r43_14, r43_15, r43_18, r43_19, r43_20, r43_23, r43_24, r43_25, r43_26, r43_29, r43_30, r43_31, r43_32, cs_nil, cs_cons, lc_lt, lc_ge, lc_gt, lc_le, lc_eq, hz, sl_f hs, sl_n hl, l9, l10, e0, am_un, am_wid2, am_fitE, le_T, lt_T, le_F, lt_F]
def fR9 (l : Int) (f g : am_F) : Prop := ∀ c j : Int, ¬ ((c = l + 9 ∧ j = 3) ∨ (l + 10 ≤ c ∧ c ≤ l + 12)) → g c j = f c j
/-- a rule of one step, where it was not told -/
theorem c_def1 {w v : Int} (hI : CI f l I sz) (hn : NE I) (w0 : 0 ≤ w) (w1 : w < 5) (z1 : sz < 1610) (hv : dfl w = [v] ) (hQ : ∀ g sz', CI g l (dI I w) sz' → sz' ≤ sz + 1 → fR9 l f g → Q (3, 0) g) : aw_cl (d + 1) 58 [(100, l), (0, cr w), (0, cst v)] f Q := by
  have lc := hI.2.1
  have l0 : 0 ≤ l := by omega
  have l9 : 0 ≤ l + 9 := by omega
  have crb := cr_b w0 (show w < 10 by omega)
  have z0 := hI.2.2.2.2.2.2.2.2.2
  have hz := hI.2.2.2.2.2.2.2.2.1
  have ut := fun (dd : Nat) (QQ : am_V → am_F → Prop) => c_utold2 (d := dd) (Q := QQ) hI hn w0 w1
  by_cases ht : I.2.2.2.1 w = true
  · have := hQ f sz (by unfold dI; rw [if_pos ht]; exact hI) (by omega) (fun _ _ _ => rfl)
    simpa (disch := omega) [q58, r58_0, r58_1, r58_4, r58_5, r58_8, cs_nil, cs_cons, lc_lt, lc_ge, lc_gt, lc_le, lc_eq, r58_37, sl_f hI.1, l0, l9, ut, ht] using this
  · have uo := fun (dd : Nat) (QQ : am_V → am_F → Prop) => c_uopen (d := dd) (Q := QQ) (w := cr w) lc hI.1 crb.1 crb.2
    simp only [hz] at uo
    have s1 : sL (am_up f (l + 11) (cr w) sz) l := sL_fr hI.1 (fun j _ _ => am_un (by omega)) (fun j _ _ => am_un (by omega))
    have hz1 : (am_up f (l + 11) (cr w) sz) (l + 9) 3 = sz := by rw [am_un (by omega)]; exact hz
    have ua := fun (dd : Nat) (QQ : am_V → am_F → Prop) (x : Int) => c_uadd (d := dd) (Q := QQ) (v := x) lc s1 hz1 z0 (by omega)
    have s2 : sL (am_up (am_up (am_up f (l + 11) (cr w) sz) (l + 9) 3 (sz + 1)) (l + 10) sz (cst v)) l := sL_fr s1 (fun j _ _ => by rw [am_un (by omega), am_un (by omega)]) (fun j _ _ => by rw [am_un (by omega), am_un (by omega)])
    have uc := fun (dd : Nat) (QQ : am_V → am_F → Prop) => c_uclose (d := dd) (Q := QQ) (w := cr w) lc s2 crb.1 crb.2
    have hz2 : (am_up (am_up (am_up f (l + 11) (cr w) sz) (l + 9) 3 (sz + 1)) (l + 10) sz (cst v)) (l + 9) 3 = sz + 1 := by rw [am_un (by omega), am_ue]
    simp only [hz2] at uc
    have := hQ (am_up (am_up (am_up (am_up f (l + 11) (cr w) sz) (l + 9) 3 (sz + 1)) (l + 10) sz (cst v)) (l + 12) (cr w) (sz + 1)) (sz + 1) (by
      unfold dI
      rw [if_neg ht, hv]
      have := CI_X (g := am_up (am_up (am_up (am_up f (l + 11) (cr w) sz) (l + 9) 3 (sz + 1)) (l + 10) sz (cst v)) (l + 12) (cr w) (sz + 1)) (w := w) (cs := [v]) hI w0 (by omega) (fun c j hc => by rw [am_un (by omega), am_un (by omega), am_un (by omega), am_un (by omega)]) (by rw [am_un (by omega), am_un (by omega), am_un (by omega), am_ue]) (by rw [am_ue]; simp) (by rw [am_un (by omega), am_un (by omega), am_ue]; simp) ⟨by rw [am_un (by omega), am_ue], trivial⟩
      simpa using this) (by omega) (fun c j hc => by rw [am_un (by omega), am_un (by omega), am_un (by omega), am_un (by omega)])
    have a8 : ∀ x : am_F, sL x l → x l 8 = l + 9 := fun x hx => (sl_f hx).2.2.2.2.2.2.2.2.1
    have b0 := a8 _ hI.1
    have b1 := a8 _ s1
    have b2 := a8 _ s2
    simpa (disch := omega) [q58, r58_0, r58_1, r58_4, r58_5, r58_8, r58_11, r58_12, r58_15, r58_16, r58_19, r58_20, r58_23, r58_24, r58_27, r58_28, r58_29, r58_32, r58_33, r58_36, r58_37, cs_nil, cs_cons, lc_lt, lc_ge, lc_gt, lc_le, lc_eq, b0, b1, b2, l0, l9, ut, ht, uo, ua, uc] using this
/-- all rules that were not told -/
theorem c_defs (hI : CI f l I sz) (hn : NE I) (z1 : sz ≤ 1600) (hQ : ∀ g sz', CI g l (dI (dI (dI (dI (dI I 0) 1) 2) 3) 4) sz' → sz' ≤ 1616 → fR9 l f g → Q (3, 0) g) : aw_cl (d + 2) 57 [(100, l)] f Q := by
  have lc := hI.2.1
  have l0 : 0 ≤ l := by omega
  have l9 : 0 ≤ l + 9 := by omega
  have z0 := hI.2.2.2.2.2.2.2.2.2
  have hz := hI.2.2.2.2.2.2.2.2.1
  have ut := fun (dd : Nat) (QQ : am_V → am_F → Prop) => c_utold2 (d := dd) (Q := QQ) (w := 0) hI hn (by omega) (by omega)
  have c5 : cr 0 = 5 := by decide
  simp only [c5] at ut
  have tail : ∀ g s1, CI g l (dI I 0) s1 → s1 ≤ sz + 3 → fR9 l f g → aw_wp (d + 2) 57 59 [(100, l)] [] g Q := by
    intro g s1 h1 l1 f1
    simp [r57_59, r57_60, r57_62, r57_63, cs_nil, cs_cons, lc_lt, lc_ge, lc_gt, lc_le, lc_eq, l0]
    refine c_def1 (d := d) (w := 1) (v := 1000) h1 (NE_d hn (by omega) (by omega)) (by omega) (by omega) (by omega) rfl ?_
    intro g2 s2 h2 l2 f2
    simp [r57_66, r57_67, r57_69, r57_70, cs_nil, cs_cons, lc_lt, lc_ge, lc_gt, lc_le, lc_eq, l0]
    refine c_def1 (d := d) (w := 2) (v := 1004) h2 (NE_d (NE_d hn (by omega) (by omega)) (by omega) (by omega)) (by omega) (by omega) (by omega) rfl ?_
    intro g3 s3 h3 l3 f3
    simp [r57_73, r57_74, r57_76, r57_79, cs_nil, cs_cons, lc_lt, lc_ge, lc_gt, lc_le, lc_eq, l0]
    refine c_def1 (d := d) (w := 3) (v := 47) h3 (NE_d (NE_d (NE_d hn (by omega) (by omega)) (by omega) (by omega)) (by omega) (by omega)) (by omega) (by omega) (by omega) rfl ?_
    intro g4 s4 h4 l4 f4
    simp [r57_82, r57_83, r57_85, r57_88, cs_nil, cs_cons, lc_lt, lc_ge, lc_gt, lc_le, lc_eq, l0]
    refine c_def1 (d := d) (w := 4) (v := 41) h4 (NE_d (NE_d (NE_d (NE_d hn (by omega) (by omega)) (by omega) (by omega)) (by omega) (by omega)) (by omega) (by omega)) (by omega) (by omega) (by omega) rfl ?_
    intro g5 s5 h5 l5 f5
    have := hQ g5 s5 h5 (by omega) (fun c j hc => by rw [f5 c j hc, f4 c j hc, f3 c j hc, f2 c j hc, f1 c j hc])
    simpa [r57_91] using this
  by_cases ht : I.2.2.2.1 0 = true
  · have := tail f sz (by unfold dI; rw [if_pos ht]; exact hI) (by omega) (fun _ _ _ => rfl)
    simpa (disch := omega) [q57, r57_0, r57_1, r57_4, r57_5, r57_8, cs_nil, cs_cons, lc_lt, lc_ge, lc_gt, lc_le, lc_eq, sl_f hI.1, l0, l9, ut, ht] using this
  · have uo := fun (dd : Nat) (QQ : am_V → am_F → Prop) => c_uopen (d := dd) (Q := QQ) (w := 5) lc hI.1 (by omega) (by omega)
    simp only [hz] at uo
    have s1 : sL (am_up f (l + 11) 5 sz) l := sL_fr hI.1 (fun j _ _ => am_un (by omega)) (fun j _ _ => am_un (by omega))
    have hz1 : (am_up f (l + 11) 5 sz) (l + 9) 3 = sz := by rw [am_un (by omega)]; exact hz
    have ua1 := fun (dd : Nat) (QQ : am_V → am_F → Prop) (x : Int) => c_uadd (d := dd) (Q := QQ) (v := x) lc s1 hz1 z0 (by omega)
    have s2 : sL (am_up (am_up (am_up f (l + 11) 5 sz) (l + 9) 3 (sz + 1)) (l + 10) sz 10016) l := sL_fr s1 (fun j _ _ => by rw [am_un (by omega), am_un (by omega)]) (fun j _ _ => by rw [am_un (by omega), am_un (by omega)])
    have hz2 : (am_up (am_up (am_up f (l + 11) 5 sz) (l + 9) 3 (sz + 1)) (l + 10) sz 10016) (l + 9) 3 = sz + 1 := by rw [am_un (by omega), am_ue]
    have ua2 := fun (dd : Nat) (QQ : am_V → am_F → Prop) (x : Int) => c_uadd (d := dd) (Q := QQ) (v := x) lc s2 hz2 (by omega) (by omega)
    have s3 : sL (am_up (am_up (am_up (am_up (am_up f (l + 11) 5 sz) (l + 9) 3 (sz + 1)) (l + 10) sz 10016) (l + 9) 3 (sz + 1 + 1)) (l + 10) (sz + 1) 0) l := sL_fr s2 (fun j _ _ => by rw [am_un (by omega), am_un (by omega)]) (fun j _ _ => by rw [am_un (by omega), am_un (by omega)])
    have hz3 : (am_up (am_up (am_up (am_up (am_up f (l + 11) 5 sz) (l + 9) 3 (sz + 1)) (l + 10) sz 10016) (l + 9) 3 (sz + 1 + 1)) (l + 10) (sz + 1) 0) (l + 9) 3 = sz + 1 + 1 := by rw [am_un (by omega), am_ue]
    have ua3 := fun (dd : Nat) (QQ : am_V → am_F → Prop) (x : Int) => c_uadd (d := dd) (Q := QQ) (v := x) lc s3 hz3 (by omega) (by omega)
    have s4 : sL (am_up (am_up (am_up (am_up (am_up (am_up (am_up f (l + 11) 5 sz) (l + 9) 3 (sz + 1)) (l + 10) sz 10016) (l + 9) 3 (sz + 1 + 1)) (l + 10) (sz + 1) 0) (l + 9) 3 (sz + 1 + 1 + 1)) (l + 10) (sz + 1 + 1) 10162) l := sL_fr s3 (fun j _ _ => by rw [am_un (by omega), am_un (by omega)]) (fun j _ _ => by rw [am_un (by omega), am_un (by omega)])
    have hz4 : (am_up (am_up (am_up (am_up (am_up (am_up (am_up f (l + 11) 5 sz) (l + 9) 3 (sz + 1)) (l + 10) sz 10016) (l + 9) 3 (sz + 1 + 1)) (l + 10) (sz + 1) 0) (l + 9) 3 (sz + 1 + 1 + 1)) (l + 10) (sz + 1 + 1) 10162) (l + 9) 3 = sz + 1 + 1 + 1 := by rw [am_un (by omega), am_ue]
    have uc := fun (dd : Nat) (QQ : am_V → am_F → Prop) => c_uclose (d := dd) (Q := QQ) (w := 5) lc s4 (by omega) (by omega)
    simp only [hz4] at uc
    have := tail (am_up (am_up (am_up (am_up (am_up (am_up (am_up (am_up f (l + 11) 5 sz) (l + 9) 3 (sz + 1)) (l + 10) sz 10016) (l + 9) 3 (sz + 1 + 1)) (l + 10) (sz + 1) 0) (l + 9) 3 (sz + 1 + 1 + 1)) (l + 10) (sz + 1 + 1) 10162) (l + 12) 5 (sz + 1 + 1 + 1)) (sz + 3) (by
      unfold dI
      rw [if_neg ht]
      have := CI_X (g := am_up (am_up (am_up (am_up (am_up (am_up (am_up (am_up f (l + 11) 5 sz) (l + 9) 3 (sz + 1)) (l + 10) sz 10016) (l + 9) 3 (sz + 1 + 1)) (l + 10) (sz + 1) 0) (l + 9) 3 (sz + 1 + 1 + 1)) (l + 10) (sz + 1 + 1) 10162) (l + 12) 5 (sz + 1 + 1 + 1)) (w := 0) (cs := [44, 1000, 8]) hI (by omega) (by omega) (fun c j hc => by
        rw [c5] at hc
        rw [am_un (by omega), am_un (by omega), am_un (by omega), am_un (by omega), am_un (by omega), am_un (by omega), am_un (by omega), am_un (by omega)]) (by rw [c5, am_un (by omega), am_un (by omega), am_un (by omega), am_un (by omega), am_un (by omega), am_un (by omega), am_un (by omega), am_ue]) (by rw [c5, am_ue]; simp; omega) (by rw [am_un (by omega), am_un (by omega), am_ue]; simp; omega) ⟨by rw [am_un (by omega), am_un (by omega), am_un (by omega), am_un (by omega), am_un (by omega), am_ue]; decide, by rw [am_un (by omega), am_un (by omega), am_un (by omega), am_ue]; decide, by rw [am_un (by omega), am_ue]; decide, trivial⟩
      exact this) (by omega) (fun c j hc => by rw [am_un (by omega), am_un (by omega), am_un (by omega), am_un (by omega), am_un (by omega), am_un (by omega), am_un (by omega), am_un (by omega)])
    have a8 : ∀ x : am_F, sL x l → x l 8 = l + 9 := fun x hx => (sl_f hx).2.2.2.2.2.2.2.2.1
    have b0 := a8 _ hI.1
    have b1 := a8 _ s1
    have b2 := a8 _ s2
    have b3 := a8 _ s3
    have b4 := a8 _ s4
    clear hz1 hz2 hz3 hz4 s1 s2 s3 s4
    simpa (disch := omega) [q57, r57_0, r57_1, r57_4, r57_5, r57_8, r57_11, r57_12, r57_15, r57_16, r57_19, r57_20, r57_23, r57_26, r57_29, r57_30, r57_31, r57_34, r57_35, r57_38, r57_39, r57_40, r57_43, r57_46, r57_49, r57_50, r57_51, r57_54, r57_55, r57_58, cs_nil, cs_cons, lc_lt, lc_ge, lc_gt, lc_le, lc_eq, b0, b1, b2, b3, b4, l0, l9, ut, ht, uo, ua1, ua2, ua3, uc] using this
end
