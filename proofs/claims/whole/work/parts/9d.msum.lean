/-! the model reads sums: its parts -/
section
variable {d : Nat} {f f0 g : am_F} {B : Int → Int} {N κ p o b was : Int} {Q : am_V → am_F → Prop} {W C Wb : List Int}
def k30 (d : Nat) (was : Int) (Q : am_V → am_F → Prop) : am_V → am_F → Prop := fun v g1 => aw_wp (d + 7) 186 30 [(110, 270), (0, was), (0, 1)] (if v.1 = 3 then [] else [v]) g1 Q
def k41 (d : Nat) (was : Int) (Q : am_V → am_F → Prop) : am_V → am_F → Prop := fun v g1 => aw_wp (d + 7) 186 41 [(110, 270), (0, was), (0, 1)] (if v.1 = 3 then [] else [v]) g1 Q
def sE (d : Nat) (f0 : am_F) (B : Int → Int) (N κ : Int) (Wb : List Int) (was : Int) (Q : am_V → am_F → Prop) (p o : Int) (W C : List Int) : Prop := ∀ (g : am_F) (x2 x3 x4 x5 : am_V), gP f0 g → MS g B N κ p o Wb.length (W ++ Wb) C → aw_wp (d + 6) 187 2 [(110, 270), (0, 1), x2, x3, x4, x5] [] g (k30 d was Q)
def sG (d : Nat) (f0 : am_F) (B : Int → Int) (N κ : Int) (Wb : List Int) (was : Int) (Q : am_V → am_F → Prop) (p o : Int) (W C : List Int) : Prop := ∀ (g : am_F) (x : am_V), gP f0 g → MS g B N κ p o Wb.length (W ++ Wb) C → aw_wp (d + 6) 196 0 [(110, 270), x] [] g (k41 d was Q)
def sF (f0 : am_F) (was : Int) (Q : am_V → am_F → Prop) (k q : Int) : Prop := ∀ g, gPw f0 g → g 270 5 = k → g 270 6 = q → (0 ≤ g 270 92 ∧ g 270 92 ≤ 1601) → Q (3, 0) (am_up g 270 96 was)
def sX (f0 : am_F) (B : Int → Int) (N κ : Int) (Wb : List Int) (was : Int) (Q : am_V → am_F → Prop) (p o : Int) (C : List Int) : Prop := ∀ g, gP f0 g → MS g B N κ p o was Wb C → Q (3, 0) g
/-- behind a fault -/
theorem s_flt (hb : ¬ g 270 5 = 0) (hq : Q (3, 0) (am_up g 270 96 was)) : k30 d was Q (3, 0) g := by
  have h15 : aw_wp (d + 7) 186 15 [(110, 270), (0, was), (0, 0)] [] g Q := by
    rw [r186_15]
    simp [r186_16, cs_nil, cs_cons, lc_lt, lc_ge, lc_gt, lc_le, lc_eq]
    rw [r186_53]
    simpa [r186_54, r186_57, r186_60, r186_61, r186_64, r186_65, r186_68, r186_71, r186_72, r186_75, r186_78, r186_79, r186_80, r186_83, cs_nil, cs_cons, lc_lt, lc_ge, lc_gt, lc_le, lc_eq, hb] using hq
  simpa [k30, r186_30, r186_31, r186_34, r186_37, r186_38, r186_41, r186_44, r186_45, r186_48, r186_49, r186_50, cs_nil, cs_cons, lc_lt, lc_ge, lc_gt, lc_le, lc_eq, hb] using h15
theorem s_flt2 (hb : ¬ g 270 5 = 0) (hq : Q (3, 0) (am_up g 270 96 was)) : k41 d was Q (0, 0) g := by
  have h15 : aw_wp (d + 7) 186 15 [(110, 270), (0, was), (0, 0)] [] g Q := by
    rw [r186_15]
    simp [r186_16, cs_nil, cs_cons, lc_lt, lc_ge, lc_gt, lc_le, lc_eq]
    rw [r186_53]
    simpa [r186_54, r186_57, r186_60, r186_61, r186_64, r186_65, r186_68, r186_71, r186_72, r186_75, r186_78, r186_79, r186_80, r186_83, cs_nil, cs_cons, lc_lt, lc_ge, lc_gt, lc_le, lc_eq, hb] using hq
  simpa [k41, r186_41, r186_44, r186_45, r186_48, r186_49, r186_50, cs_nil, cs_cons, lc_lt, lc_ge, lc_gt, lc_le, lc_eq, hb] using h15
theorem p_bad {x1 x2 x3 x4 x5 : am_V} {m : Int} (hb : ¬ f 270 5 = 0) (hq : Q (3, 0) f) : aw_wp (d + 6) 187 2 [(110, 270), (0, m), x2, x3, x4, x5] [] f Q := by
  obtain ⟨t2, v2⟩ := x2
  obtain ⟨t3, v3⟩ := x3
  obtain ⟨t4, v4⟩ := x4
  obtain ⟨t5, v5⟩ := x5
  rw [r187_2]
  by_cases hm : m = 0
  · simpa [r187_3, r187_6, r187_7, r187_10, cs_nil, cs_cons, lc_lt, lc_ge, lc_gt, lc_le, lc_eq, r187_186, r187_187, r187_190, r187_193, hb, hm] using hq
  · simpa [r187_3, r187_6, r187_7, r187_10, cs_nil, cs_cons, lc_lt, lc_ge, lc_gt, lc_le, lc_eq, r187_186, r187_187, r187_190, r187_193, hb, hm] using hq
/-- behind parts -/
theorem s_part {G : Int → Int → List Int → List Int → Prop} (hb : g 270 5 = 0) (hq : aw_cl (d + 6) 196 [(110, 270)] g (k41 d was Q)) : k30 d was Q (3, 0) g := by
  unfold k41 at hq
  simpa [k30, r186_30, r186_31, r186_34, r186_37, r186_38, cs_nil, cs_cons, lc_lt, lc_ge, lc_gt, lc_le, lc_eq, hb] using hq
theorem s_on (hb : g 270 5 = 0) (hq : aw_wp (d + 6) 187 2 [(110, 270), (0, 1), (2, 0), (2, 0), (2, 0), (2, 0)] [] g (k30 d was Q)) : k41 d was Q (0, 1) g := by
  unfold k30 at hq
  have h15 : aw_wp (d + 7) 186 15 [(110, 270), (0, was), (0, 1)] [] g Q := by
    rw [r186_15]
    simpa [r186_16, r186_19, r186_20, r186_23, r186_26, r186_27, cs_nil, cs_cons, lc_lt, lc_ge, lc_gt, lc_le, lc_eq, q187, r187_0, r187_1, hb] using hq
  simpa [k41, r186_41, r186_44, r186_45, r186_48, r186_49, r186_50, cs_nil, cs_cons, lc_lt, lc_ge, lc_gt, lc_le, lc_eq] using h15
theorem p_head (hN : N ≤ 1600) (κ0 : 0 ≤ κ ∧ κ ≤ 3) (hM : MS f B N κ p o b W C) {x2 x3 x4 x5 : am_V} (hn : aw_wp (d + 6) 187 27 [(110, 270), (0, 1), (0, lk B N p), (0, if tW B N p = 8 ∧ κ = 3 then 10 else -1), x4, x5] [] (am_up f 270 2 (tS B N p)) Q) : aw_wp (d + 6) 187 2 [(110, 270), (0, 1), x2, x3, x4, x5] [] f Q := by
  obtain ⟨t2, v2⟩ := x2
  obtain ⟨t3, v3⟩ := x3
  obtain ⟨t4, v4⟩ := x4
  obtain ⟨t5, v5⟩ := x5
  have hb := hM.2.2.1.1
  have lo := fun (dd : Nat) (QQ : am_V → am_F → Prop) => m_look (d := dd) (Q := QQ) hM.1 hN hM.2.2.2.2.1.1 hM.2.2.2.2.1.2.1 hM.2.1.1
  obtain ⟨hM1, hA⟩ := MS_at hM
  have wo := fun (dd : Nat) (QQ : am_V → am_F → Prop) => m_wo1 (d := dd) (Q := QQ) hM1.1 hN hM.2.2.2.2.1.1 hM.2.2.2.2.1.2.1 hM1.2.1 hM1.2.2.1.1 hA hM1.2.2.1.2.1.1 κ0
  rw [r187_2]
  simpa [r187_3, r187_6, r187_7, r187_10, r187_13, r187_14, r187_17, r187_18, r187_19, r187_21, r187_23, r187_26, cs_nil, cs_cons, lc_lt, lc_ge, lc_gt, lc_le, lc_eq, hb, lo, wo] using hn
/-- no bracket, no min, max, no is -/
theorem p_exit (hN : N ≤ 1600) (κ0 : 0 ≤ κ ∧ κ ≤ 3) (hM : MS f B N κ p o b W C) {x2 x3 x4 x5 : am_V} (h1 : ¬ isg B N p 40 = true) (h2 : ¬ tW B N p = 26) (h3 : ¬ tW B N p = 27) (h4 : ¬ (tW B N p = 8 ∧ κ = 3)) (hn : ∀ x2 x3 x4 x5 : am_V, aw_wp (d + 6) 187 194 [(110, 270), (0, 0), x2, x3, x4, x5] [] (am_up f 270 2 (tS B N p)) Q) : aw_wp (d + 6) 187 2 [(110, 270), (0, 1), x2, x3, x4, x5] [] f Q := by
  refine p_head hN κ0 hM ?_
  obtain ⟨t4, v4⟩ := x4
  obtain ⟨t5, v5⟩ := x5
  obtain ⟨hM1, hA⟩ := MS_at hM
  have e40 : ¬ lk B N p = 40 := fun q => h1 ((lk_s (by decide) (by omega)).mp q)
  have x1 := hM1.1.1.1
  have x2' := hM1.1.1.2
  have hb := hM1.2.2.1.1
  have he := fun {wa k : Int} (hw : HW (am_up f 270 2 (tS B N p)) wa k) (dd : Nat) (QQ : am_V → am_F → Prop) => m_hereA (d := dd) (Q := QQ) hM1.1 hN hM.2.2.2.2.1.1 hM.2.2.2.2.1.2.1 hM1.2.1 hM1.2.2.1.1 hA hw
  have w1 := he (hw_of x2' (q := (327, 26)) (by decide))
  have w2 := he (hw_of x2' (q := (328, 27)) (by decide))
  simp only at w1 w2
  have := hn (0, lk B N p) (0, -1) (t4, v4) (t5, v5)
  have hn' : aw_wp (d + 6) 187 2 [(110, 270), (0, 0), (0, lk B N p), (0, -1), (t4, v4), (t5, v5)] [] (am_up f 270 2 (tS B N p)) Q := by
    rw [r187_2]
    simpa [r187_3, cs_nil, cs_cons, lc_lt, lc_ge, lc_gt, lc_le, lc_eq, r187_186, r187_187, r187_190, hb] using this
  rw [if_neg h4]
  simpa [r187_27, r187_28, r187_30, cs_nil, cs_cons, lc_lt, lc_ge, lc_gt, lc_le, lc_eq, r187_56, r187_57, r187_58, r187_61, r187_64, r187_67, r187_68, r187_69, r187_72, r187_75, r187_153, r187_154, r187_155, r187_181, r187_182, r187_183, e40, fx_270_78 x1, fx_270_79 x1, w1, w2, h2, h3] using hn'
theorem e_rnd (hN : N ≤ 1600) (κ0 : 0 ≤ κ ∧ κ ≤ 3) (hg : isg B N p 40 = true) (ho : o < 6) (hn : sE d f0 B N κ Wb was Q (tE B N p) (o + 1) (20 :: W) C) : sE d f0 B N κ Wb was Q p o W C := by
  intro g x2 x3 x4 x5 h0 hM
  refine p_head hN κ0 hM ?_
  obtain ⟨t4, v4⟩ := x4
  obtain ⟨t5, v5⟩ := x5
  obtain ⟨hM1, hA⟩ := MS_at hM
  obtain ⟨hX, hP, ⟨h5, h50, h95, h96⟩, hR, hp, hoo, hW⟩ := id hM1
  have e40 : lk B N p = 40 := (lk_s (by decide) (by omega)).mpr hg
  have ie := isg_E hg
  have gb := isg_b hp.2.1 hg
  have mo := fun (dd : Nat) (QQ : am_V → am_F → Prop) (q : Int) => m_opensY (d := dd) (Q := QQ) (x := 20) (q := q) hR h5 h95 (by omega) (by omega)
  have gp : gP (am_up g 270 2 (tS B N p)) (am_up (aO (am_up g 270 2 (tS B N p)) o (W ++ Wb).length 20) 270 2 (tE B N p)) := fun c j hc => by rw [am_un (by omega), aO_n (by omega)]
  have hA2 : aO (am_up g 270 2 (tS B N p)) o (W ++ Wb).length 20 270 2 = tS B N p := by rw [aO_n (by omega)]; exact hA
  have ew : am_wI (tS B N p + 1) = tE B N p := by rw [am_wid2 (by omega) (by omega)]; omega
  have := hn (am_up (aO (am_up g 270 2 (tS B N p)) o (W ++ Wb).length 20) 270 2 (tE B N p)) (0, 40) (0, if tW B N p = 8 ∧ κ = 3 then 10 else -1) (t4, v4) (t5, v5) (gP_tr h0 (gP_tr (gP_up gP_rf (by omega)) gp)) (MS_open hM1 ho (by omega) gp (PP_sign hP hg hp.1 hp.2.1 am_ue (by rw [am_un (by omega), aO_n (by omega)])) gb.1 gb.2 (fun c j hc => am_un (by omega)) hN)
  generalize ((W ++ Wb).length : Int) = w at mo hA2 this
  rw [e40]
  simpa [r187_27, r187_28, r187_30, r187_33, r187_34, r187_36, r187_37, r187_40, r187_43, r187_44, r187_45, r187_48, r187_49, r187_50, r187_53, cs_nil, cs_cons, lc_lt, lc_ge, lc_gt, lc_le, lc_eq, r187_183, mo, hA, hA2, ew] using this
theorem e_rndF (hN : N ≤ 1600) (κ0 : 0 ≤ κ ∧ κ ≤ 3) (hg : isg B N p 40 = true) (ho : 6 ≤ o) (hf : sF f0 was Q 4 (tS B N p)) : sE d f0 B N κ Wb was Q p o W C := by
  intro g x2 x3 x4 x5 h0 hM
  refine p_head hN κ0 hM ?_
  obtain ⟨t4, v4⟩ := x4
  obtain ⟨t5, v5⟩ := x5
  obtain ⟨hM1, hA⟩ := MS_at hM
  obtain ⟨hX, hP, ⟨h5, h50, h95, h96⟩, hR, hp, hoo, hW⟩ := id hM1
  have e40 : lk B N p = 40 := (lk_s (by decide) (by omega)).mpr hg
  have o6 : o = 6 := by omega
  rw [o6] at h95
  have mo := fun (dd : Nat) (QQ : am_V → am_F → Prop) (q : Int) => m_opensN (d := dd) (Q := QQ) (x := 20) (q := q) h5 h95
  have b2 := hR.2.1.2
  have ie := isg_E hg
  have hA2 : (am_up (am_up (am_up g 270 2 (tS B N p)) 270 5 4) 270 6 (tS B N p)) 270 2 = tS B N p := by rw [am_un (by omega), am_un (by omega)]; exact hA
  have fin : aw_wp (d + 6) 187 2 [(110, 270), (0, 1), (0, 40), (0, if tW B N p = 8 ∧ κ = 3 then 10 else -1), (t4, v4), (t5, v5)] [] (am_up (am_up (am_up (am_up g 270 2 (tS B N p)) 270 5 4) 270 6 (tS B N p)) 270 2 (tS B N p + 1)) (k30 d was Q) := by
    refine p_bad (x1 := (0, 0)) (by rw [am_un (by omega), am_un (by omega), am_ue]; decide) (s_flt (by rw [am_un (by omega), am_un (by omega), am_ue]; decide) (hf _ ?_ ?_ ?_ ?_))
    · exact gPw_tr h0 (gPw_up (gPw_up (gPw_up (gPw_up gPw_rf (by omega)) (by omega)) (by omega)) (by omega))
    · rw [am_un (by omega), am_un (by omega), am_ue]
    · rw [am_un (by omega), am_ue]
    · rw [am_un (by omega), am_un (by omega), am_un (by omega), b2]; omega
  have ew : am_wI (tS B N p + 1) = tS B N p + 1 := by have := tS_b (B := B) hp.2.1; rw [am_wid2 (by omega) (by omega)]
  rw [e40]
  simpa [r187_27, r187_28, r187_30, r187_33, r187_34, r187_36, r187_37, r187_40, r187_43, r187_44, r187_45, r187_48, r187_49, r187_50, r187_53, cs_nil, cs_cons, lc_lt, lc_ge, lc_gt, lc_le, lc_eq, r187_183, mo, hA, hA2, ew] using fin
theorem e_of (hN : N ≤ 1600) (κ0 : 0 ≤ κ ∧ κ ≤ 3) (hw : tW B N p = 8) (hκ : κ = 3) (ho : o < 6) (hn : sE d f0 B N κ Wb was Q (tE B N p) (o + 1) (60 :: W) C) : sE d f0 B N κ Wb was Q p o W C := by
  intro g x2 x3 x4 x5 h0 hM
  refine p_head hN κ0 hM ?_
  obtain ⟨t4, v4⟩ := x4
  obtain ⟨t5, v5⟩ := x5
  obtain ⟨hM1, hA⟩ := MS_at hM
  obtain ⟨hX, hP, ⟨h5, h50, h95, h96⟩, hR, hp, hoo, hW⟩ := id hM1
  have k1 := tW_k (B := B) (N := N) (p := p) (by omega)
  have h1 : ¬ isg B N p 40 = true := fun q => by have := (isg_k q).1; omega
  have e40 : ¬ lk B N p = 40 := fun q => h1 ((lk_s (by decide) (by omega)).mp q)
  have x1 := hM1.1.1.1
  have x2' := hM1.1.1.2
  have he := fun {wa k : Int} (hw : HW (am_up g 270 2 (tS B N p)) wa k) (dd : Nat) (QQ : am_V → am_F → Prop) => m_hereA (d := dd) (Q := QQ) hX hN hp.1 hp.2.1 hP h5 hA hw
  have w1 := he (hw_of x2' (q := (327, 26)) (by decide))
  have w2 := he (hw_of x2' (q := (328, 27)) (by decide))
  simp only at w1 w2
  have gb := tW_b hp.2.1 (show ¬ tW B N p = -1 by omega)
  have mo := fun (dd : Nat) (QQ : am_V → am_F → Prop) (q : Int) => m_opensY (d := dd) (Q := QQ) (x := 60) (q := q) hR h5 h95 (by omega) (by omega)
  have gp1 : gP (am_up g 270 2 (tS B N p)) (aO (am_up g 270 2 (tS B N p)) o (W ++ Wb).length 60) := fun c j hc => aO_n (by omega)
  have hP1 : PP (aO (am_up g 270 2 (tS B N p)) o (W ++ Wb).length 60) B N p := by
    obtain ⟨p1, p2, p3⟩ := hP
    exact ⟨by rw [aO_n (by omega)]; exact p1, by rw [aO_n (by omega)]; exact p2, by rw [aO_n (by omega)]; exact p3⟩
  have aw := fun (dd : Nat) (QQ : am_V → am_F → Prop) => m_aw (d := dd) (Q := QQ) (k := 10) (MX_gP hX gp1) hN hp.1 hp.2.1 hP1 (by rw [aO_n (by omega)]; exact h5) (Or.inr ⟨rfl, hw⟩)
  have gp : gP (am_up g 270 2 (tS B N p)) (am_up (am_up (aO (am_up g 270 2 (tS B N p)) o (W ++ Wb).length 60) 270 2 (tE B N p)) 270 4 (tE B N p)) := gP_up (gP_up gp1 (by omega)) (by omega)
  have := hn (am_up (am_up (aO (am_up g 270 2 (tS B N p)) o (W ++ Wb).length 60) 270 2 (tE B N p)) 270 4 (tE B N p)) (0, lk B N p) (0, 10) (t4, v4) (t5, v5) (gP_tr h0 (gP_tr (gP_up gP_rf (by omega)) gp)) (MS_open hM1 ho (by omega) gp (PP_word (Or.inl rfl) k1 hp.1 hp.2.1 (by rw [am_un (by omega), am_ue]) am_ue) gb.1 gb.2 (fun c j hc => (am_un (by omega)).trans (am_un (by omega))) hN)
  have e60 : am_wI (am_wI 70 - 10) = 60 := by decide
  generalize ((W ++ Wb).length : Int) = w at mo aw this
  rw [if_pos ⟨hw, hκ⟩]
  simpa [r187_27, r187_28, r187_30, cs_nil, cs_cons, lc_lt, lc_ge, lc_gt, lc_le, lc_eq, r187_56, r187_57, r187_58, r187_61, r187_64, r187_67, r187_68, r187_69, r187_72, r187_75, r187_153, r187_154, r187_155, r187_158, r187_159, r187_161, r187_162, r187_163, r187_165, r187_166, r187_167, r187_170, r187_173, r187_174, r187_175, r187_178, r187_183, e40, fx_270_78 x1, fx_270_79 x1, w1, w2, hw, mo, hA, aw, e60, am_wid2] using this
theorem e_ofF (hN : N ≤ 1600) (κ0 : 0 ≤ κ ∧ κ ≤ 3) (hw : tW B N p = 8) (hκ : κ = 3) (ho : 6 ≤ o) (hf : sF f0 was Q 4 (tS B N p)) : sE d f0 B N κ Wb was Q p o W C := by
  intro g x2 x3 x4 x5 h0 hM
  refine p_head hN κ0 hM ?_
  obtain ⟨t4, v4⟩ := x4
  obtain ⟨t5, v5⟩ := x5
  obtain ⟨hM1, hA⟩ := MS_at hM
  obtain ⟨hX, hP, ⟨h5, h50, h95, h96⟩, hR, hp, hoo, hW⟩ := id hM1
  have k1 := tW_k (B := B) (N := N) (p := p) (by omega)
  have h1 : ¬ isg B N p 40 = true := fun q => by have := (isg_k q).1; omega
  have e40 : ¬ lk B N p = 40 := fun q => h1 ((lk_s (by decide) (by omega)).mp q)
  have x1 := hM1.1.1.1
  have x2' := hM1.1.1.2
  have he := fun {wa k : Int} (hw : HW (am_up g 270 2 (tS B N p)) wa k) (dd : Nat) (QQ : am_V → am_F → Prop) => m_hereA (d := dd) (Q := QQ) hX hN hp.1 hp.2.1 hP h5 hA hw
  have w1 := he (hw_of x2' (q := (327, 26)) (by decide))
  have w2 := he (hw_of x2' (q := (328, 27)) (by decide))
  simp only at w1 w2
  have o6 : o = 6 := by omega
  rw [o6] at h95
  have mo := fun (dd : Nat) (QQ : am_V → am_F → Prop) (q : Int) => m_opensN (d := dd) (Q := QQ) (x := 60) (q := q) h5 h95
  have b2 := hR.2.1.2
  have gp1 : gPw (am_up g 270 2 (tS B N p)) (am_up (am_up (am_up g 270 2 (tS B N p)) 270 5 4) 270 6 (tS B N p)) := gPw_up (gPw_up gPw_rf (by omega)) (by omega)
  have bd : ¬ (am_up (am_up (am_up g 270 2 (tS B N p)) 270 5 4) 270 6 (tS B N p)) 270 5 = 0 := by rw [am_un (by omega), am_ue]; decide
  have aw := fun (dd : Nat) (QQ : am_V → am_F → Prop) => m_awB (d := dd) (Q := QQ) (MX_gPw hX gp1).1.1 bd
  have fin : aw_wp (d + 6) 187 2 [(110, 270), (0, 1), (0, lk B N p), (0, 10), (t4, v4), (t5, v5)] [] (am_up (am_up (am_up g 270 2 (tS B N p)) 270 5 4) 270 6 (tS B N p)) (k30 d was Q) := by
    refine p_bad (x1 := (0, 0)) bd (s_flt bd (hf _ ?_ ?_ ?_ ?_))
    · exact gPw_tr h0 (gPw_tr (gP_up gP_rf (by omega)) gp1)
    · rw [am_un (by omega), am_ue]
    · rw [am_ue]
    · rw [am_un (by omega), am_un (by omega), b2]; omega
  have e60 : am_wI (am_wI 70 - 10) = 60 := by decide
  rw [if_pos ⟨hw, hκ⟩]
  simpa [r187_27, r187_28, r187_30, cs_nil, cs_cons, lc_lt, lc_ge, lc_gt, lc_le, lc_eq, r187_56, r187_57, r187_58, r187_61, r187_64, r187_67, r187_68, r187_69, r187_72, r187_75, r187_153, r187_154, r187_155, r187_158, r187_159, r187_161, r187_162, r187_163, r187_165, r187_166, r187_167, r187_170, r187_173, r187_174, r187_175, r187_178, r187_183, e40, fx_270_78 x1, fx_270_79 x1, w1, w2, hw, mo, hA, aw, e60, am_wid2] using fin
end
