/-! the model reads sums: how they go on -/
theorem hd_app {V Wb : List Int} {P : Int → Prop} (h : ¬ P (V.headD 0)) (hW : ∀ x ∈ Wb, ¬ P x) : ¬ P ((V ++ Wb).headD 0) := by
  cases V with
  | nil =>
    cases Wb with
    | nil => exact h
    | cons x W => exact hW x List.mem_cons_self
  | cons x W => exact h
theorem RW_T {f : am_F} {V C : List Int} {x y : Int} (h : RW f (x :: V) C) : RW (am_up f 341 V.length y) (y :: V) C := by
  obtain ⟨⟨a1, a2⟩, ⟨b1, b2⟩, ⟨c1, c2⟩, e⟩ := h
  refine ⟨⟨?_, ?_⟩, ⟨?_, ?_⟩, ⟨⟨am_ue, pl_fr V (fun j _ _ => am_un (by omega)) c1.2⟩, al_fr C 0 (fun j _ _ => am_un (by omega)) c2⟩, e⟩
  · rw [am_un (by omega)]; exact a1
  · rw [am_un (by omega)]; exact a2
  · rw [am_un (by omega)]; exact b1
  · rw [am_un (by omega)]; exact b2
section
variable {d : Nat} {f f0 g : am_F} {B : Int → Int} {N κ p o b was : Int} {Q : am_V → am_F → Prop} {W C Wb S V : List Int}
theorem isg_o {c c' : Int} (h : isg B N p c = true) (hc : ¬ c = c') : ¬ isg B N p c' = true := fun q => hc ((isg_k h).2.symm.trans (isg_k q).2)
/-- no closing bracket here -/
theorem g_head1 (hN : N ≤ 1600) (hM : MS f B N κ p o b W C) {x : am_V} (hc : ¬ isg B N p 41 = true) (hn : aw_wp (d + 6) 196 122 [(110, 270), x] [] (am_up f 270 2 (tS B N p)) Q) : aw_wp (d + 6) 196 0 [(110, 270), x] [] f Q := by
  obtain ⟨t, v⟩ := x
  have hb := hM.2.2.1.1
  have lo := fun (dd : Nat) (QQ : am_V → am_F → Prop) => m_look (d := dd) (Q := QQ) hM.1 hN hM.2.2.2.2.1.1 hM.2.2.2.2.1.2.1 hM.2.1.1
  have e41 : ¬ lk B N p = 41 := fun q => hc ((lk_s (by decide) (by omega)).mp q)
  rw [r196_0]
  simpa [r196_1, r196_4, r196_7, r196_8, r196_11, r196_13, cs_nil, cs_cons, lc_lt, lc_ge, lc_gt, lc_le, lc_eq, hb, lo, e41] using hn
theorem g_head2 (hN : N ≤ 1600) (hM : MS f B N κ p o b W C) {x : am_V} {v : Int} (hbk : ∀ (dd : Nat) (QQ : am_V → am_F → Prop), aw_cl (dd + 1) 197 [(110, 270)] (am_up f 270 2 (tS B N p)) QQ = QQ (0, v) (am_up f 270 2 (tS B N p))) (h1 : ¬ v = 20) (h2 : ¬ v = 23) (h3 : ¬ v = 24) (hn : aw_wp (d + 6) 196 122 [(110, 270), x] [] (am_up f 270 2 (tS B N p)) Q) : aw_wp (d + 6) 196 0 [(110, 270), x] [] f Q := by
  by_cases hc : isg B N p 41 = true
  · obtain ⟨t, u⟩ := x
    have hb := hM.2.2.1.1
    have lo := fun (dd : Nat) (QQ : am_V → am_F → Prop) => m_look (d := dd) (Q := QQ) hM.1 hN hM.2.2.2.2.1.1 hM.2.2.2.2.1.2.1 hM.2.1.1
    have e41 : lk B N p = 41 := (lk_s (by decide) (by omega)).mpr hc
    rw [r196_0]
    simpa [r196_1, r196_4, r196_7, r196_8, r196_11, r196_13, r196_16, r196_17, r196_20, r196_22, r196_25, r196_26, r196_29, r196_31, r196_34, r196_35, r196_38, r196_40, cs_nil, cs_cons, lc_lt, lc_ge, lc_gt, lc_le, lc_eq, hb, lo, e41, hbk, h1, h2, h3] using hn
  · exact g_head1 hN hM hc hn
/-- none of * / + - -/
theorem g_none (hN : N ≤ 1600) (hM : MS f B N κ p o b W C) (hA : f 270 2 = tS B N p) {x : am_V} (h1 : nm B N p) (h2 : na B N p) (hn : aw_wp (d + 6) 196 308 [(110, 270), x] [] f Q) : aw_wp (d + 6) 196 122 [(110, 270), x] [] f Q := by
  obtain ⟨t, u⟩ := x
  have ta := fun (c : Int) (hc : srt c = 3) (hc0 : 0 ≤ c) (hg : ¬ isg B N p c = true) (dd : Nat) (QQ : am_V → am_F → Prop) => m_takesA (d := dd) (Q := QQ) (c := c) hM.1 hN hM.2.2.2.2.1.1 hM.2.2.2.2.1.2.1 hM.2.1 hM.2.2.1.1 hA hc hc0 hg
  have t1 := ta 42 (by decide) (by omega) h1.1
  have t2 := ta 47 (by decide) (by omega) h1.2
  have t3 := ta 43 (by decide) (by omega) h2.1
  have t4 := ta 45 (by decide) (by omega) h2.2
  simpa [r196_122, r196_123, r196_125, r196_128, r196_131, r196_132, r196_134, r196_137, cs_nil, cs_cons, lc_lt, lc_ge, lc_gt, lc_le, lc_eq, r196_207, r196_208, r196_210, r196_213, r196_216, r196_217, r196_219, r196_222, t1, t2, t3, t4] using hn
/-- a bracket is closed -/
theorem g_close {y : Int} (hN : N ≤ 1600) (hM : MS f B N κ p o b (S ++ y :: V) C) (hb1 : b ≤ V.length) (hb0 : 0 ≤ b) (hy : y = 20 ∨ y = 23 ∨ y = 24) (hS : ops S) (hc : isg B N p 41 = true) {x : am_V} (hn : ∀ h, MS h B N κ (tE B N p) (o - 1) b V (C ++ S ++ (if y = 20 then [] else [y - 18])) → gP f h → aw_cl (d + 5) 194 [(110, 270)] h (fun v f' => aw_wp (d + 6) 196 119 [(110, 270), x] (if v.fst = 3 then [] else [v]) f' Q)) : aw_wp (d + 6) 196 0 [(110, 270), x] [] f Q := by
  obtain ⟨t, u⟩ := x
  obtain ⟨hX, hP, ⟨h5, h50, h95, h96⟩, hR, hp, hoo, hW⟩ := id hM
  have lo := fun (dd : Nat) (QQ : am_V → am_F → Prop) => m_look (d := dd) (Q := QQ) hX hN hp.1 hp.2.1 hP.1
  have e41 : lk B N p = 41 := (lk_s (by decide) (by omega)).mpr hc
  have ie := isg_E hc
  have gb := isg_b hp.2.1 hc
  have hs := tS_b (B := B) hp.2.1
  have hR1 : RW (am_up f 270 2 (tS B N p)) (S ++ y :: V) C := RW_fr hR (fun c j hc => am_un (by omega))
  have bk := fun (dd : Nat) (QQ : am_V → am_F → Prop) => m_brk (d := dd) (Q := QQ) hR1 hS (by omega) (b := b) (by rw [am_un (by omega)]; exact h96) hb1 hb0
  have hR2 : RW (am_up f 270 2 (tE B N p)) (S ++ y :: V) C := RW_fr hR (fun c j hc => am_un (by omega))
  have ew : am_wI (tS B N p + 1) = tE B N p := by rw [am_wid2 (by omega) (by omega)]; omega
  have at57 : aw_wp (d + 6) 196 53 [(110, 270), (t, u)] [] (am_up f 270 2 (tE B N p)) Q := by
    simp [r196_53, r196_54, cs_nil, cs_cons, lc_lt, lc_ge, lc_gt, lc_le, lc_eq]
    refine m_dtb hR2 hS (by omega) (b := b) (by rw [am_un (by omega)]; exact h96) hb1 hb0 ?_
    intro g3 r3 d3
    have f3 : ∀ c j : Int, ¬ ((c = 270 ∧ (j = 92 ∨ j = 94 ∨ j = 2)) ∨ c = 340) → g3 c j = f c j := fun c j hc => by rw [d3 c j (by omega), am_un (by omega)]
    obtain ⟨⟨a1, a2⟩, ⟨b1, b2⟩, ⟨c1, c2⟩, e⟩ := id r3
    have cx : g3 341 (V.length : Int) = y := c1.1
    have b1' : g3 270 94 = (V.length : Int) + 1 := by rw [b1]; simp
    have e' : (V.length : Int) + 1 ≤ 1600 := by simp at e; omega
    have o3 : g3 270 95 = o := (f3 _ _ (by omega)).trans h95
    have lp : (V.length : Int) + 1 + (C ++ S).length ≤ p := by have := hp.2.2; simp at this ⊢; omega
    have r4 : RW (am_up (am_up g3 270 94 V.length) 270 95 (o - 1)) V (C ++ S) := by
      refine ⟨⟨?_, ?_⟩, ⟨?_, ?_⟩, ⟨pl_fr V (fun j _ _ => by rw [am_un (by omega), am_un (by omega)]) c1.2, al_fr _ 0 (fun j _ _ => by rw [am_un (by omega), am_un (by omega)]) c2⟩, by omega⟩
      · rw [am_un (by omega), am_un (by omega)]; exact a1
      · rw [am_un (by omega), am_un (by omega)]; exact a2
      · rw [am_un (by omega), am_ue]
      · rw [am_un (by omega), am_un (by omega)]; exact b2
    have mk : ∀ (h : am_F) (D : List Int), RW h V (C ++ S ++ D) → (D.length : Int) ≤ 1 → (∀ c j : Int, ¬ ((c = 270 ∧ (j = 92 ∨ j = 94 ∨ j = 2 ∨ j = 95)) ∨ c = 340) → h c j = f c j) → h 270 2 = tE B N p → h 270 95 = o - 1 → MS h B N κ (tE B N p) (o - 1) b V (C ++ S ++ D) ∧ gP f h := by
      intro h D hr hd hf h2 ho
      have gp : gP f h := fun c j hc => hf c j (by omega)
      refine ⟨MS_mk hM gp (PP_sign hP hc hp.1 hp.2.1 h2 (hf _ _ (by omega))) ((hf _ _ (by omega)).trans h5) ho ((hf _ _ (by omega)).trans h96) hr ⟨by omega, gb.2, ?_⟩ ⟨?_, by omega⟩ (fun z hz => hW z (List.mem_append_right _ (List.mem_cons_of_mem _ hz))), gp⟩
      · rw [List.length_append (as := C ++ S)]; omega
      · rw [List.length_append (as := C ++ S), List.length_append]; omega
    have ey : (am_up (am_up g3 270 94 V.length) 270 95 (o - 1)) 341 V.length = y := by rw [am_un (by omega), am_un (by omega)]; exact cx
    by_cases h20 : y = 20
    · have m4 := mk (am_up (am_up g3 270 94 V.length) 270 95 (o - 1)) [] (by rw [List.append_nil]; exact r4) (by simp) (fun c j hc => by rw [am_un (by omega), am_un (by omega), f3 c j (by omega)]) (by rw [am_un (by omega), am_un (by omega), d3 _ _ (by omega), am_ue]) am_ue
      have := hn _ (by rw [if_pos h20]; exact m4.1) m4.2
      rw [h20] at cx
      clear m4 r4 mk ey b1 c1 e hn lp
      generalize (V.length : Int) = w at *
      have ew : w + 1 - 1 = w := by omega
      simpa (disch := omega) [r196_57, r196_58, r196_59, r196_62, r196_63, r196_64, r196_67, r196_68, r196_69, r196_72, r196_73, r196_74, r196_77, r196_78, r196_81, r196_82, r196_85, r196_86, r196_88, cs_nil, cs_cons, lc_lt, lc_ge, lc_gt, lc_le, lc_eq, r196_115, r196_116, b1', a2, cx, o3, ew, ln_341, am_un, am_ue, am_wid2, le_T, lt_T] using this
    · have n0 : (am_up (am_up g3 270 94 V.length) 270 95 (o - 1)) 270 92 = (C ++ S).length := by rw [am_un (by omega), am_un (by omega)]; exact b2
      have mc := fun (dd : Nat) (QQ : am_V → am_F → Prop) (v : Int) => m_code (d := dd) (Q := QQ) (v := v) r4.1.1 n0 (by omega) (by omega)
      have m4 := mk (am_up (am_up (am_up (am_up g3 270 94 V.length) 270 95 (o - 1)) 340 (C ++ S).length (y - 18)) 270 92 ((C ++ S).length + 1)) [y - 18] (RW_C r4 (by omega)) (by simp) (fun c j hc => by rw [am_un (by omega), am_un (by omega), am_un (by omega), am_un (by omega), f3 c j (by omega)]) (by rw [am_un (by omega), am_un (by omega), am_un (by omega), am_un (by omega), d3 _ _ (by omega), am_ue]) (by rw [am_un (by omega), am_un (by omega), am_ue])
      have := hn _ (by rw [if_neg h20]; exact m4.1) m4.2
      have hy2 : y = 23 ∨ y = 24 := by omega
      have l0 : 0 ≤ ((C ++ S).length : Int) := by omega
      clear m4 r4 mk ey b1 b2 c1 c2 r3 e hn n0
      generalize ((C ++ S).length : Int) = n at *
      generalize (V.length : Int) = w at *
      have ew : w + 1 - 1 = w := by omega
      rcases hy2 with e23 | e23
      · rw [e23] at cx this
        simpa (disch := omega) [r196_57, r196_58, r196_59, r196_62, r196_63, r196_64, r196_67, r196_68, r196_69, r196_72, r196_73, r196_74, r196_77, r196_78, r196_81, r196_82, r196_85, r196_86, r196_88, r196_91, r196_92, r196_93, r196_96, r196_97, r196_100, r196_101, r196_103, r196_106, r196_107, r196_110, r196_112, r196_115, r196_116, cs_nil, cs_cons, lc_lt, lc_ge, lc_gt, lc_le, lc_eq, b1', a2, cx, o3, ew, ln_341, mc, am_un, am_ue, am_wid2, le_T, lt_T] using this
      · rw [e23] at cx this
        simpa (disch := omega) [r196_57, r196_58, r196_59, r196_62, r196_63, r196_64, r196_67, r196_68, r196_69, r196_72, r196_73, r196_74, r196_77, r196_78, r196_81, r196_82, r196_85, r196_86, r196_88, r196_91, r196_92, r196_93, r196_96, r196_97, r196_100, r196_101, r196_103, r196_106, r196_107, r196_110, r196_112, r196_115, r196_116, cs_nil, cs_cons, lc_lt, lc_ge, lc_gt, lc_le, lc_eq, b1', a2, cx, o3, ew, ln_341, mc, am_un, am_ue, am_wid2, le_T, lt_T] using this
  rw [r196_0]
  rcases hy with e | e | e
  · rw [e] at bk
    simpa [r196_1, r196_4, r196_7, r196_8, r196_11, r196_13, r196_16, r196_17, r196_20, r196_22, r196_25, r196_26, r196_29, r196_31, r196_34, r196_35, r196_38, r196_40, r196_43, r196_44, r196_45, r196_48, r196_49, r196_50, cs_nil, cs_cons, lc_lt, lc_ge, lc_gt, lc_le, lc_eq, h5, lo, e41, bk, ew, am_ue, am_uu] using at57
  · rw [e] at bk
    simpa [r196_1, r196_4, r196_7, r196_8, r196_11, r196_13, r196_16, r196_17, r196_20, r196_22, r196_25, r196_26, r196_29, r196_31, r196_34, r196_35, r196_38, r196_40, r196_43, r196_44, r196_45, r196_48, r196_49, r196_50, cs_nil, cs_cons, lc_lt, lc_ge, lc_gt, lc_le, lc_eq, h5, lo, e41, bk, ew, am_ue, am_uu] using at57
  · rw [e] at bk
    simpa [r196_1, r196_4, r196_7, r196_8, r196_11, r196_13, r196_16, r196_17, r196_20, r196_22, r196_25, r196_26, r196_29, r196_31, r196_34, r196_35, r196_38, r196_40, r196_43, r196_44, r196_45, r196_48, r196_49, r196_50, cs_nil, cs_cons, lc_lt, lc_ge, lc_gt, lc_le, lc_eq, h5, lo, e41, bk, ew, am_ue, am_uu] using at57
end
