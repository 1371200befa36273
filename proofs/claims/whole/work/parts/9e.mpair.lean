/-! the model reads sums: pairs, numbers, words -/
section
variable {d : Nat} {f f0 g : am_F} {B : Int → Int} {N κ p o b was : Int} {Q : am_V → am_F → Prop} {W C Wb : List Int}
/-- at a pair's word: it is eaten, and what follows is looked at -/
theorem p_pair (hN : N ≤ 1600) (κ0 : 0 ≤ κ ∧ κ ≤ 3) (hM : MS f B N κ p o b W C) {x2 x3 x4 x5 : am_V} (hw : tW B N p = 26 ∨ tW B N p = 27) (hn : ∀ (x2 x3 x5 : am_V) (v : Int), (tW B N p = 26 → v = 1) → (tW B N p = 27 → v = 0) → aw_wp (d + 6) 187 105 [(110, 270), (0, 1), x2, x3, (0, v), x5] [(0, lk B N (tE B N p))] (am_up (am_up (am_up f 270 2 (tE B N p)) 270 4 (tE B N p)) 270 2 (tS B N (tE B N p))) Q) : aw_wp (d + 6) 187 2 [(110, 270), (0, 1), x2, x3, x4, x5] [] f Q := by
  refine p_head hN κ0 hM ?_
  obtain ⟨t4, v4⟩ := x4
  obtain ⟨t5, v5⟩ := x5
  obtain ⟨hM1, hA⟩ := MS_at hM
  obtain ⟨hX, hP, ⟨h5, h50, h95, h96⟩, hR, hp, hoo, hW⟩ := id hM1
  have k1 := tW_k (B := B) (N := N) (p := p) (by omega)
  have h1 : ¬ isg B N p 40 = true := fun q => by have := (isg_k q).1; omega
  have e40 : ¬ lk B N p = 40 := fun q => h1 ((lk_s (by decide) (by omega)).mp q)
  have x1 := hM1.1.1.1
  have x2' := hM1.1.1.2
  have gb := tW_b hp.2.1 (show ¬ tW B N p = -1 by omega)
  have he := fun {wa k : Int} (hw : HW (am_up f 270 2 (tS B N p)) wa k) (dd : Nat) (QQ : am_V → am_F → Prop) => m_hereA (d := dd) (Q := QQ) hX hN hp.1 hp.2.1 hP h5 hA hw
  have w1 := he (hw_of x2' (q := (327, 26)) (by decide))
  have w2 := he (hw_of x2' (q := (328, 27)) (by decide))
  have gp : gP (am_up f 270 2 (tS B N p)) (am_up (am_up f 270 2 (tE B N p)) 270 4 (tE B N p)) := fun c j hc => by rw [am_un (by omega), am_un (by omega), am_un (by omega)]
  have hP2 : PP (am_up (am_up f 270 2 (tE B N p)) 270 4 (tE B N p)) B N (tE B N p) := PP_word (Or.inl rfl) k1 hp.1 hp.2.1 (by rw [am_un (by omega), am_ue]) am_ue
  have lo := fun (dd : Nat) (QQ : am_V → am_F → Prop) => m_look (d := dd) (Q := QQ) (MX_gP hX gp) hN (by omega) gb.2 hP2.1
  simp only at w1 w2
  rw [if_neg (show ¬ (tW B N p = 8 ∧ κ = 3) by omega)]
  by_cases h26 : tW B N p = 26
  · have e1 := fun (dd : Nat) (QQ : am_V → am_F → Prop) => m_eatsY (d := dd) (Q := QQ) hX hN hp.1 hp.2.1 hP h5 (hw_of x2' (q := (327, 26)) (by decide)) h26
    simp only [am_uu] at e1
    have := hn (0, lk B N p) (0, -1) (t5, v5) 1 (fun _ => rfl) (fun q => by omega)
    simpa [r187_27, r187_28, r187_30, cs_nil, cs_cons, lc_lt, lc_ge, lc_gt, lc_le, lc_eq, r187_56, r187_57, r187_58, r187_61, r187_64, r187_67, r187_68, r187_69, r187_72, r187_75, r187_78, r187_79, r187_80, r187_83, r187_86, r187_88, r187_90, r187_93, r187_94, r187_95, r187_98, r187_101, r187_102, e40, fx_270_78 x1, fx_270_79 x1, w1, h26, e1, lo] using this
  · have h27 : tW B N p = 27 := by omega
    have e1 := fun (dd : Nat) (QQ : am_V → am_F → Prop) => m_eatsN (d := dd) (Q := QQ) hX hN hp.1 hp.2.1 hP h5 (hw_of x2' (q := (327, 26)) (by decide)) h26
    have e2 := fun (dd : Nat) (QQ : am_V → am_F → Prop) => m_asksY (d := dd) (Q := QQ) hX hN hp.1 hp.2.1 hP h5 (hw_of x2' (q := (328, 27)) (by decide)) h27
    simp only [am_uu] at e1 e2
    have := hn (0, lk B N p) (0, -1) (t5, v5) 0 (fun q => by omega) (fun _ => rfl)
    simpa [r187_27, r187_28, r187_30, cs_nil, cs_cons, lc_lt, lc_ge, lc_gt, lc_le, lc_eq, r187_56, r187_57, r187_58, r187_61, r187_64, r187_67, r187_68, r187_69, r187_72, r187_75, r187_78, r187_79, r187_80, r187_83, r187_86, r187_88, r187_90, r187_93, r187_94, r187_95, r187_98, r187_101, r187_102, e40, fx_270_78 x1, fx_270_79 x1, w1, w2, h27, e1, e2, lo] using this
/-- where it stands behind a pair's word -/
theorem MS_pair (hM : MS f B N κ p o b W C) (hw : ¬ tW B N p = -1) : MS (am_up (am_up (am_up f 270 2 (tE B N p)) 270 4 (tE B N p)) 270 2 (tS B N (tE B N p))) B N κ (tE B N p) o b W C ∧ gP f (am_up (am_up (am_up f 270 2 (tE B N p)) 270 4 (tE B N p)) 270 2 (tS B N (tE B N p))) := by
  obtain ⟨hX, hP, ⟨h5, h50, h95, h96⟩, hR, hp, hoo, hW⟩ := id hM
  have k1 := tW_k (B := B) (N := N) (p := p) hw
  have gb := tW_b hp.2.1 hw
  have hP2 : PP (am_up (am_up f 270 2 (tE B N p)) 270 4 (tE B N p)) B N (tE B N p) := PP_word (Or.inl rfl) k1 hp.1 hp.2.1 (by rw [am_un (by omega), am_ue]) am_ue
  have gp : gP f (am_up (am_up (am_up f 270 2 (tE B N p)) 270 4 (tE B N p)) 270 2 (tS B N (tE B N p))) := gP_up (gP_up (gP_up gP_rf (by omega)) (by omega)) (by omega)
  refine ⟨MS_mk hM gp (PP_look hP2 gb.2) ?_ ?_ ?_ (RW_fr hR (fun c j hc => by rw [am_un (by omega), am_un (by omega), am_un (by omega)])) ⟨by omega, gb.2, by omega⟩ ⟨by omega, hoo.2⟩ hW, gp⟩
  · rw [am_un (by omega), am_un (by omega), am_un (by omega)]; exact h5
  · rw [am_un (by omega), am_un (by omega), am_un (by omega)]; exact h95
  · rw [am_un (by omega), am_un (by omega), am_un (by omega)]; exact h96
theorem e_pair (hN : N ≤ 1600) (κ0 : 0 ≤ κ ∧ κ ≤ 3) (hw : tW B N p = 26 ∨ tW B N p = 27) (hg : isg B N (tE B N p) 40 = true) (ho : o < 6) (hn : sE d f0 B N κ Wb was Q (tE B N (tE B N p)) (o + 1) ((tW B N p - 5) :: W) C) : sE d f0 B N κ Wb was Q p o W C := by
  intro g x2 x3 x4 x5 h0 hM
  refine p_pair hN κ0 hM hw ?_
  intro y2 y3 y5 v v26 v27
  obtain ⟨t2, u2⟩ := y2
  obtain ⟨t3, u3⟩ := y3
  obtain ⟨t5, u5⟩ := y5
  obtain ⟨hM1, gp0⟩ := MS_pair hM (show ¬ tW B N p = -1 by omega)
  have hA : (am_up (am_up (am_up g 270 2 (tE B N p)) 270 4 (tE B N p)) 270 2 (tS B N (tE B N p))) 270 2 = tS B N (tE B N p) := am_ue
  revert hM1 gp0 hA
  generalize am_up (am_up (am_up g 270 2 (tE B N p)) 270 4 (tE B N p)) 270 2 (tS B N (tE B N p)) = g1
  intro hM1 gp0 hA
  obtain ⟨hX, hP, ⟨h5, h50, h95, h96⟩, hR, hp, hoo, hW⟩ := id hM1
  have ie := isg_E hg
  have gb := isg_b hp.2.1 hg
  have e40 : lk B N (tE B N p) = 40 := (lk_s (by decide) (by omega)).mpr hg
  have hs := tS_b (B := B) hp.2.1
  have nn : ¬ tS B N (tE B N p) = -1 := by omega
  have mo := fun (dd : Nat) (QQ : am_V → am_F → Prop) (q : Int) => m_opensY (d := dd) (Q := QQ) (x := tW B N p - 5) (q := q) hR h5 h95 (by omega) (by omega)
  have gp1 : gP g1 (aO g1 o (W ++ Wb).length (tW B N p - 5)) := fun c j hc => aO_n (by omega)
  have hP1 : PP (aO g1 o (W ++ Wb).length (tW B N p - 5)) B N (tE B N p) := by
    obtain ⟨p1, p2, p3⟩ := hP
    exact ⟨by rw [aO_n (by omega)]; exact p1, by rw [aO_n (by omega)]; exact p2, by rw [aO_n (by omega)]; exact p3⟩
  have as := fun (dd : Nat) (QQ : am_V → am_F → Prop) => m_askSY (d := dd) (Q := QQ) (c := 40) (MX_gP hX gp1) hN hp.1 hp.2.1 hP1 (by rw [aO_n (by omega)]; exact h5) hg
  have gp : gP g1 (am_up (aO g1 o (W ++ Wb).length (tW B N p - 5)) 270 2 (tE B N (tE B N p))) := gP_up gp1 (by omega)
  have := hn (am_up (aO g1 o (W ++ Wb).length (tW B N p - 5)) 270 2 (tE B N (tE B N p))) (t2, u2) (t3, u3) (0, v) (0, tS B N (tE B N p)) (gP_tr h0 (gP_tr gp0 gp)) (MS_open hM1 ho (by omega) gp (PP_sign hP hg hp.1 hp.2.1 am_ue (by rw [am_un (by omega), aO_n (by omega)])) gb.1 gb.2 (fun c j hc => am_un (by omega)) hN)
  generalize ((W ++ Wb).length : Int) = w at mo as this
  rw [e40]
  by_cases h26 : tW B N p = 26
  · have hv := v26 h26
    rw [h26] at mo as this
    simp only [show (26 : Int) - 5 = 21 by decide] at mo as this
    simpa [r187_105, r187_107, r187_110, r187_111, r187_114, r187_117, r187_118, r187_120, r187_122, r187_123, r187_126, r187_127, r187_129, r187_132, r187_134, r187_137, r187_139, r187_141, r187_144, r187_145, r187_147, r187_150, cs_nil, cs_cons, lc_lt, lc_ge, lc_gt, lc_le, lc_eq, r187_183, hA, nn, hv, mo, as] using this
  · have h27 : tW B N p = 27 := by omega
    have hv := v27 h27
    rw [h27] at mo as this
    simp only [show (27 : Int) - 5 = 22 by decide] at mo as this
    simpa [r187_105, r187_107, r187_110, r187_111, r187_114, r187_117, r187_118, r187_120, r187_122, r187_123, r187_126, r187_127, r187_129, r187_132, r187_134, r187_137, r187_139, r187_141, r187_144, r187_145, r187_147, r187_150, cs_nil, cs_cons, lc_lt, lc_ge, lc_gt, lc_le, lc_eq, r187_183, hA, nn, hv, mo, as] using this
theorem e_pair4 (hN : N ≤ 1600) (κ0 : 0 ≤ κ ∧ κ ≤ 3) (hw : tW B N p = 26 ∨ tW B N p = 27) (hg : isg B N (tE B N p) 40 = true) (ho : 6 ≤ o) (hf : sF f0 was Q 4 (tS B N (tE B N p))) : sE d f0 B N κ Wb was Q p o W C := by
  intro g x2 x3 x4 x5 h0 hM
  refine p_pair hN κ0 hM hw ?_
  intro y2 y3 y5 v v26 v27
  obtain ⟨t2, u2⟩ := y2
  obtain ⟨t3, u3⟩ := y3
  obtain ⟨t5, u5⟩ := y5
  obtain ⟨hM1, gp0⟩ := MS_pair hM (show ¬ tW B N p = -1 by omega)
  have hA : (am_up (am_up (am_up g 270 2 (tE B N p)) 270 4 (tE B N p)) 270 2 (tS B N (tE B N p))) 270 2 = tS B N (tE B N p) := am_ue
  revert hM1 gp0 hA
  generalize am_up (am_up (am_up g 270 2 (tE B N p)) 270 4 (tE B N p)) 270 2 (tS B N (tE B N p)) = g1
  intro hM1 gp0 hA
  obtain ⟨hX, hP, ⟨h5, h50, h95, h96⟩, hR, hp, hoo, hW⟩ := id hM1
  have e40 : lk B N (tE B N p) = 40 := (lk_s (by decide) (by omega)).mpr hg
  have hs := tS_b (B := B) hp.2.1
  have nn : ¬ tS B N (tE B N p) = -1 := by omega
  have o6 : o = 6 := by omega
  rw [o6] at h95
  have b2 := hR.2.1.2
  have mo := fun (dd : Nat) (QQ : am_V → am_F → Prop) (x q : Int) => m_opensN (d := dd) (Q := QQ) (x := x) (q := q) h5 h95
  have bd : ¬ (am_up (am_up g1 270 5 4) 270 6 (tS B N (tE B N p))) 270 5 = 0 := by rw [am_un (by omega), am_ue]; decide
  have as := fun (dd : Nat) (QQ : am_V → am_F → Prop) (c : Int) => m_askSB (d := dd) (Q := QQ) (c := c) bd
  have fin : aw_wp (d + 6) 187 2 [(110, 270), (0, 1), (t2, u2), (t3, u3), (0, v), (0, tS B N (tE B N p))] [] (am_up (am_up g1 270 5 4) 270 6 (tS B N (tE B N p))) (k30 d was Q) := by
    refine p_bad (x1 := (0, 0)) bd (s_flt bd (hf _ ?_ ?_ ?_ ?_))
    · exact gPw_tr h0 (gPw_tr gp0 (gPw_up (gPw_up gPw_rf (by omega)) (by omega)))
    · rw [am_un (by omega), am_ue]
    · rw [am_ue]
    · rw [am_un (by omega), am_un (by omega), b2]; omega
  rw [e40]
  by_cases h26 : tW B N p = 26
  · have hv := v26 h26
    rw [hv] at fin ⊢
    simpa [r187_105, r187_107, r187_110, r187_111, r187_114, r187_117, r187_118, r187_120, r187_122, r187_123, r187_126, r187_127, r187_129, r187_132, r187_134, r187_137, r187_139, r187_141, r187_144, r187_145, r187_147, r187_150, cs_nil, cs_cons, lc_lt, lc_ge, lc_gt, lc_le, lc_eq, r187_183, hA, nn, mo, as] using fin
  · have hv := v27 (by omega)
    rw [hv] at fin ⊢
    simpa [r187_105, r187_107, r187_110, r187_111, r187_114, r187_117, r187_118, r187_120, r187_122, r187_123, r187_126, r187_127, r187_129, r187_132, r187_134, r187_137, r187_139, r187_141, r187_144, r187_145, r187_147, r187_150, cs_nil, cs_cons, lc_lt, lc_ge, lc_gt, lc_le, lc_eq, r187_183, hA, nn, mo, as] using fin
theorem e_pair1 (hN : N ≤ 1600) (κ0 : 0 ≤ κ ∧ κ ≤ 3) (hw : tW B N p = 26 ∨ tW B N p = 27) (hg : ¬ isg B N (tE B N p) 40 = true) (hf : sF f0 was Q 1 (tS B N (tE B N p))) : sE d f0 B N κ Wb was Q p o W C := by
  intro g x2 x3 x4 x5 h0 hM
  refine p_pair hN κ0 hM hw ?_
  intro y2 y3 y5 v v26 v27
  obtain ⟨t2, u2⟩ := y2
  obtain ⟨t3, u3⟩ := y3
  obtain ⟨t5, u5⟩ := y5
  obtain ⟨hM1, gp0⟩ := MS_pair hM (show ¬ tW B N p = -1 by omega)
  have hA : (am_up (am_up (am_up g 270 2 (tE B N p)) 270 4 (tE B N p)) 270 2 (tS B N (tE B N p))) 270 2 = tS B N (tE B N p) := am_ue
  revert hM1 gp0 hA
  generalize am_up (am_up (am_up g 270 2 (tE B N p)) 270 4 (tE B N p)) 270 2 (tS B N (tE B N p)) = g1
  intro hM1 gp0 hA
  obtain ⟨hX, hP, ⟨h5, h50, h95, h96⟩, hR, hp, hoo, hW⟩ := id hM1
  have e40 : ¬ lk B N (tE B N p) = 40 := fun q => hg ((lk_s (by decide) (by omega)).mp q)
  have b2 := hR.2.1.2
  have as := fun (dd : Nat) (QQ : am_V → am_F → Prop) => m_askSN (d := dd) (Q := QQ) (c := 40) hX hN hp.1 hp.2.1 hP h5 (by decide) (by omega) hg
  have bd : ¬ (am_up (am_up (am_up g1 270 2 (tS B N (tE B N p))) 270 5 1) 270 6 (tS B N (tE B N p))) 270 5 = 0 := by rw [am_un (by omega), am_ue]; decide
  have fin : aw_wp (d + 6) 187 2 [(110, 270), (0, 1), (t2, u2), (t3, u3), (0, v), (0, -1)] [] (am_up (am_up (am_up g1 270 2 (tS B N (tE B N p))) 270 5 1) 270 6 (tS B N (tE B N p))) (k30 d was Q) := by
    refine p_bad (x1 := (0, 0)) bd (s_flt bd (hf _ ?_ ?_ ?_ ?_))
    · exact gPw_tr h0 (gPw_tr gp0 (gPw_up (gPw_up (gPw_up gPw_rf (by omega)) (by omega)) (by omega)))
    · rw [am_un (by omega), am_ue]
    · rw [am_ue]
    · rw [am_un (by omega), am_un (by omega), am_un (by omega), b2]; omega
  simpa [r187_105, r187_107, r187_110, r187_111, r187_114, r187_117, r187_118, r187_120, r187_122, r187_123, r187_126, r187_127, r187_129, r187_132, r187_134, r187_137, r187_139, r187_141, r187_144, r187_145, r187_147, r187_150, cs_nil, cs_cons, lc_lt, lc_ge, lc_gt, lc_le, lc_eq, r187_183, e40, as] using fin
/-- what stands behind a part that was read -/
theorem p_ends (hN : N ≤ 1600) (κ0 : 0 ≤ κ ∧ κ ≤ 3) {v : Int} {h : am_F} {ls : List am_V} (h0 : gP f0 g) (hM : MS g B N κ p o Wb.length (W ++ Wb) C) {p' : Int} (hP : PP h B N p') (pp : p < p') (pN : p' ≤ N) (hO : ∀ c j : Int, ¬ (c = 270 ∧ (j = 2 ∨ j = 4)) → h c j = am_up (am_up g 340 C.length v) 270 92 (C.length + 1) c j) (hn : pend 60 (sG d f0 B N κ Wb was Q) p' W o (C ++ [v])) : aw_cl (d + 5) 194 [(110, 270)] h (fun v f' => aw_wp (d + 6) 187 244 ls (if v.fst = 3 then [] else [v]) f' (k30 d was Q)) := by
  have gp : gP g h := fun c j hc => by rw [hO c j (by omega), am_un (by omega), am_un (by omega)]
  have hM2 := MS_code hM gp hP pp pN hO hN
  have := m_ends (d := d + 3) (Q := fun v f' => aw_wp (d + 6) 187 244 ls (if v.fst = 3 then [] else [v]) f' (k30 d was Q)) hN W (C ++ [v]) o h hn hM2 (fun g2 o' W' C' hG hM3 gp3 => by
    have hs : k30 d was Q (3, 0) g2 := by
      refine s_part (G := sG d f0 B N κ Wb was Q) hM3.2.2.1.1 ?_
      have := hG g2 (2, 0) (gP_tr h0 (gP_tr gp gp3)) hM3
      simpa [q196] using this
    simpa [r187_244] using hs)
  simpa [q194] using this
/-- a fault behind a part -/
theorem p_endsF (hN : N ≤ 1600) (κ0 : 0 ≤ κ ∧ κ ≤ 3) {h : am_F} {ls : List am_V} (hb : ¬ h 270 5 = 0) (hq : Q (3, 0) (am_up h 270 96 was)) : aw_cl (d + 5) 194 [(110, 270)] h (fun v f' => aw_wp (d + 6) 187 244 ls (if v.fst = 3 then [] else [v]) f' (k30 d was Q)) := by
  rw [m_endsB (d := d + 3) hb]
  have := s_flt (d := d) hb hq
  simpa [r187_244] using this
theorem e_num (hN : N ≤ 1600) (κ0 : 0 ≤ κ ∧ κ ≤ 3) (hk : tK B N p = 2) (hl : tE B N p - tS B N p ≤ 4) (hn : pend 60 (sG d f0 B N κ Wb was Q) (tE B N p) W o (C ++ [1000 + tV B N p])) : sE d f0 B N κ Wb was Q p o W C := by
  intro g x2 x3 x4 x5 h0 hM
  have tw : tW B N p = -1 := by unfold tW; rw [if_neg (by omega)]
  refine p_exit hN κ0 hM (fun q => by have := (isg_k q).1; omega) (by omega) (by omega) (by omega) ?_
  intro x2 x3 x4 x5
  obtain ⟨t2, v2⟩ := x2
  obtain ⟨t3, v3⟩ := x3
  obtain ⟨t4, v4⟩ := x4
  obtain ⟨t5, v5⟩ := x5
  obtain ⟨hM1, hA⟩ := MS_at hM
  obtain ⟨hX, hP, ⟨h5, h50, h95, h96⟩, hR, hp, hoo, hW⟩ := id hM1
  have vb := tV_b hp.2.1 hk
  have tb := tok_b hp.2.1 (show ¬ tK B N p = 0 by omega)
  have pm : pw (-1) = -1 := by decide
  have am1 : alw κ (-1) = false := by unfold alw; simp
  have wo := fun (dd : Nat) (QQ : am_V → am_F → Prop) => m_wo0 (d := dd) (Q := QQ) hX hN hp.1 hp.2.1 hP h5 hA h50.1 κ0
  rw [tw] at wo
  have nu := fun (dd : Nat) (QQ : am_V → am_F → Prop) => m_numY (d := dd) (Q := QQ) (a := 0) (b := 9999) hX hN hp.1 hp.2.1 hP h5 hk hl
  have c2 : 0 ≤ tV B N p ∧ tV B N p ≤ 9999 := vb
  simp only [if_pos c2, am_uu] at nu
  have mc := fun (dd : Nat) (QQ : am_V → am_F → Prop) (v : Int) => m_code (d := dd) (f := am_up (am_up g 270 2 (tE B N p)) 270 4 (tE B N p)) (n := C.length) (Q := QQ) (v := v) (by rw [am_un (by omega), am_un (by omega)]; have := hR.1.1; rw [am_un (by omega)] at this; exact this) (by rw [am_un (by omega), am_un (by omega)]; have := hR.2.1.2; rw [am_un (by omega)] at this; exact this) (by omega) (by omega)
  have ew : am_wI (1000 + tV B N p) = 1000 + tV B N p := am_wid2 (by omega) (by omega)
  have := fun (ls : List am_V) => p_ends hN κ0 h0 hM (ls := ls) (h := am_up (am_up (am_up (am_up g 270 2 (tE B N p)) 270 4 (tE B N p)) 340 C.length (1000 + tV B N p)) 270 92 (C.length + 1)) (p' := tE B N p) (PP_word (Or.inr rfl) hk hp.1 hp.2.1 (by rw [am_un (by omega), am_un (by omega), am_un (by omega), am_ue]) (by rw [am_un (by omega), am_un (by omega), am_ue])) (by omega) tb.2.2 (fun c j hc => by
    by_cases q1 : c = 270 ∧ j = 92
    · rw [q1.1, q1.2, am_ue, am_ue]
    · rw [am_un q1, am_un q1]
      by_cases q2 : c = 340 ∧ j = C.length
      · rw [q2.1, q2.2, am_ue, am_ue]
      · rw [am_un q2, am_un q2, am_un (by omega), am_un (by omega)]) hn
  simpa [r187_194, r187_195, r187_196, r187_198, r187_201, r187_202, r187_203, r187_204, r187_207, r187_208, r187_209, r187_212, r187_213, r187_214, r187_215, r187_218, r187_220, r187_221, r187_222, r187_225, r187_228, r187_229, r187_230, r187_233, r187_236, r187_237, r187_240, r187_241, cs_nil, cs_cons, lc_lt, lc_ge, lc_gt, lc_le, lc_eq, wo, pm, am1, nu, mc, ew] using this _
theorem e_numF (hN : N ≤ 1600) (κ0 : 0 ≤ κ ∧ κ ≤ 3) (hk : tK B N p = 2) (hl : 4 < tE B N p - tS B N p) (hf : sF f0 was Q 1 (tS B N p + 4)) : sE d f0 B N κ Wb was Q p o W C := by
  intro g x2 x3 x4 x5 h0 hM
  have tw : tW B N p = -1 := by unfold tW; rw [if_neg (by omega)]
  refine p_exit hN κ0 hM (fun q => by have := (isg_k q).1; omega) (by omega) (by omega) (by omega) ?_
  intro x2 x3 x4 x5
  obtain ⟨t2, v2⟩ := x2
  obtain ⟨t3, v3⟩ := x3
  obtain ⟨t4, v4⟩ := x4
  obtain ⟨t5, v5⟩ := x5
  obtain ⟨hM1, hA⟩ := MS_at hM
  obtain ⟨hX, hP, ⟨h5, h50, h95, h96⟩, hR, hp, hoo, hW⟩ := id hM1
  have pm : pw (-1) = -1 := by decide
  have am1 : alw κ (-1) = false := by unfold alw; simp
  have wo := fun (dd : Nat) (QQ : am_V → am_F → Prop) => m_wo0 (d := dd) (Q := QQ) hX hN hp.1 hp.2.1 hP h5 hA h50.1 κ0
  rw [tw] at wo
  have nu := fun (dd : Nat) (QQ : am_V → am_F → Prop) => m_numL (d := dd) (Q := QQ) (a := 0) (b := 9999) hX hN hp.1 hp.2.1 hP h5 hk hl
  simp only [am_uu] at nu
  have r1 := hM.2.2.2.1.1.1
  have r2 := hM.2.2.2.1.2.1.2
  have mc := fun (dd : Nat) (QQ : am_V → am_F → Prop) (v : Int) => m_code (d := dd) (f := am_up (am_up (am_up g 270 2 (tS B N p + 4)) 270 5 1) 270 6 (tS B N p + 4)) (n := C.length) (Q := QQ) (v := v) (by rw [am_un (by omega), am_un (by omega), am_un (by omega)]; exact r1) (by rw [am_un (by omega), am_un (by omega), am_un (by omega)]; exact r2) (by omega) (by omega)
  have ew : am_wI 1000 = 1000 := by decide
  have fin := fun (ls : List am_V) => p_endsF (d := d) (was := was) (Q := Q) (ls := ls) hN κ0 (h := am_up (am_up (am_up (am_up (am_up g 270 2 (tS B N p + 4)) 270 5 1) 270 6 (tS B N p + 4)) 340 C.length 1000) 270 92 (C.length + 1)) (by rw [am_un (by omega), am_un (by omega), am_un (by omega), am_ue]; decide) (hf _ (gPw_tr h0 (gPw_up (gPw_up (gPw_up (gPw_up (gPw_up gPw_rf (by omega)) (by omega)) (by omega)) (by omega)) (by omega))) (by rw [am_un (by omega), am_un (by omega), am_un (by omega), am_ue]) (by rw [am_un (by omega), am_un (by omega), am_ue]) (by rw [am_ue]; omega))
  simpa [r187_194, r187_195, r187_196, r187_198, r187_201, r187_202, r187_203, r187_204, r187_207, r187_208, r187_209, r187_212, r187_213, r187_214, r187_215, r187_218, r187_220, r187_221, r187_222, r187_225, r187_228, r187_229, r187_230, r187_233, r187_236, r187_237, r187_240, r187_241, cs_nil, cs_cons, lc_lt, lc_ge, lc_gt, lc_le, lc_eq, wo, pm, am1, nu, mc, ew] using fin _
theorem e_word (hN : N ≤ 1600) (κ0 : 0 ≤ κ ∧ κ ≤ 3) (ha : alw κ (pw (tW B N p)) = true) (hn : pend 60 (sG d f0 B N κ Wb was Q) (tE B N p) W o (C ++ [40 + pw (tW B N p)])) : sE d f0 B N κ Wb was Q p o W C := by
  intro g x2 x3 x4 x5 h0 hM
  have ab := alw_b ha
  have wn : ¬ tW B N p = -1 := fun q => by rw [q] at ab; exact absurd ab.1 (by decide)
  have k1 := tW_k wn
  have n8 : ¬ tW B N p = 8 := fun q => by rw [q] at ab; exact absurd ab.1 (by decide)
  have n26 : ¬ tW B N p = 26 := fun q => by rw [q] at ab; exact absurd ab.1 (by decide)
  have n27 : ¬ tW B N p = 27 := fun q => by rw [q] at ab; exact absurd ab.1 (by decide)
  refine p_exit hN κ0 hM (fun q => by have := (isg_k q).1; omega) n26 n27 (fun q => n8 q.1) ?_
  intro x2 x3 x4 x5
  obtain ⟨t2, v2⟩ := x2
  obtain ⟨t3, v3⟩ := x3
  obtain ⟨t4, v4⟩ := x4
  obtain ⟨t5, v5⟩ := x5
  obtain ⟨hM1, hA⟩ := MS_at hM
  obtain ⟨hX, hP, ⟨h5, h50, h95, h96⟩, hR, hp, hoo, hW⟩ := id hM1
  have gb := tW_b hp.2.1 wn
  have pb := pw_b (w := tW B N p)
  have wo := fun (dd : Nat) (QQ : am_V → am_F → Prop) => m_wo0 (d := dd) (Q := QQ) hX hN hp.1 hp.2.1 hP h5 hA h50.1 κ0
  simp only [if_pos ha] at wo
  have aw := fun (dd : Nat) (QQ : am_V → am_F → Prop) => m_aw (d := dd) (Q := QQ) (k := pw (tW B N p)) hX hN hp.1 hp.2.1 hP h5 (Or.inl ⟨ab.1, rfl⟩)
  simp only [am_uu] at aw
  have r1 := hM.2.2.2.1.1.1
  have r2 := hM.2.2.2.1.2.1.2
  have mc := fun (dd : Nat) (QQ : am_V → am_F → Prop) (v : Int) => m_code (d := dd) (f := am_up (am_up g 270 2 (tE B N p)) 270 4 (tE B N p)) (n := C.length) (Q := QQ) (v := v) (by rw [am_un (by omega), am_un (by omega)]; exact r1) (by rw [am_un (by omega), am_un (by omega)]; exact r2) (by omega) (by omega)
  have ew : am_wI (40 + pw (tW B N p)) = 40 + pw (tW B N p) := am_wid2 (by omega) (by omega)
  have nn : ¬ pw (tW B N p) = -1 := by omega
  have := fun (ls : List am_V) => p_ends hN κ0 h0 hM (ls := ls) (h := am_up (am_up (am_up (am_up g 270 2 (tE B N p)) 270 4 (tE B N p)) 340 C.length (40 + pw (tW B N p))) 270 92 (C.length + 1)) (p' := tE B N p) (PP_word (Or.inl rfl) k1 hp.1 hp.2.1 (by rw [am_un (by omega), am_un (by omega), am_un (by omega), am_ue]) (by rw [am_un (by omega), am_un (by omega), am_ue])) (by omega) gb.2 (fun c j hc => by
    by_cases q1 : c = 270 ∧ j = 92
    · rw [q1.1, q1.2, am_ue, am_ue]
    · rw [am_un q1, am_un q1]
      by_cases q2 : c = 340 ∧ j = C.length
      · rw [q2.1, q2.2, am_ue, am_ue]
      · rw [am_un q2, am_un q2, am_un (by omega), am_un (by omega)]) hn
  simpa [r187_194, r187_195, r187_196, r187_198, r187_201, r187_202, r187_203, r187_204, r187_207, r187_208, r187_209, r187_212, r187_213, r187_214, r187_215, r187_218, r187_220, r187_221, r187_222, r187_225, r187_228, r187_229, r187_230, r187_233, r187_236, r187_237, r187_240, r187_241, cs_nil, cs_cons, lc_lt, lc_ge, lc_gt, lc_le, lc_eq, wo, nn, aw, mc, ew] using this _
theorem e_bad (hN : N ≤ 1600) (κ0 : 0 ≤ κ ∧ κ ≤ 3) (hk : ¬ tK B N p = 2) (h1 : ¬ isg B N p 40 = true) (h2 : ¬ (tW B N p = 26 ∨ tW B N p = 27)) (h3 : ¬ (tW B N p = 8 ∧ κ = 3)) (ha : ¬ alw κ (pw (tW B N p)) = true) (hf : sF f0 was Q 1 (tS B N p)) : sE d f0 B N κ Wb was Q p o W C := by
  intro g x2 x3 x4 x5 h0 hM
  refine p_exit hN κ0 hM h1 (fun q => h2 (Or.inl q)) (fun q => h2 (Or.inr q)) h3 ?_
  intro x2 x3 x4 x5
  obtain ⟨t2, v2⟩ := x2
  obtain ⟨t3, v3⟩ := x3
  obtain ⟨t4, v4⟩ := x4
  obtain ⟨t5, v5⟩ := x5
  obtain ⟨hM1, hA⟩ := MS_at hM
  obtain ⟨hX, hP, ⟨h5, h50, h95, h96⟩, hR, hp, hoo, hW⟩ := id hM1
  have wo := fun (dd : Nat) (QQ : am_V → am_F → Prop) => m_wo0 (d := dd) (Q := QQ) hX hN hp.1 hp.2.1 hP h5 hA h50.1 κ0
  simp only [if_neg ha] at wo
  have nu := fun (dd : Nat) (QQ : am_V → am_F → Prop) => m_numN (d := dd) (Q := QQ) (a := 0) (b := 9999) hX hN hp.1 hp.2.1 hP h5 hk
  simp only [am_uu] at nu
  have r1 := hM.2.2.2.1.1.1
  have r2 := hM.2.2.2.1.2.1.2
  have mc := fun (dd : Nat) (QQ : am_V → am_F → Prop) (v : Int) => m_code (d := dd) (f := am_up (am_up (am_up g 270 2 (tS B N p)) 270 5 1) 270 6 (tS B N p)) (n := C.length) (Q := QQ) (v := v) (by rw [am_un (by omega), am_un (by omega), am_un (by omega)]; exact r1) (by rw [am_un (by omega), am_un (by omega), am_un (by omega)]; exact r2) (by omega) (by omega)
  have ew : am_wI 1000 = 1000 := by decide
  have fin := fun (ls : List am_V) => p_endsF (d := d) (was := was) (Q := Q) (ls := ls) hN κ0 (h := am_up (am_up (am_up (am_up (am_up g 270 2 (tS B N p)) 270 5 1) 270 6 (tS B N p)) 340 C.length 1000) 270 92 (C.length + 1)) (by rw [am_un (by omega), am_un (by omega), am_un (by omega), am_ue]; decide) (hf _ (gPw_tr h0 (gPw_up (gPw_up (gPw_up (gPw_up (gPw_up gPw_rf (by omega)) (by omega)) (by omega)) (by omega)) (by omega))) (by rw [am_un (by omega), am_un (by omega), am_un (by omega), am_ue]) (by rw [am_un (by omega), am_un (by omega), am_ue]) (by rw [am_ue]; omega))
  simpa [r187_194, r187_195, r187_196, r187_198, r187_201, r187_202, r187_203, r187_204, r187_207, r187_208, r187_209, r187_212, r187_213, r187_214, r187_215, r187_218, r187_220, r187_221, r187_222, r187_225, r187_228, r187_229, r187_230, r187_233, r187_236, r187_237, r187_240, r187_241, cs_nil, cs_cons, lc_lt, lc_ge, lc_gt, lc_le, lc_eq, wo, nu, mc, ew] using fin _
end
