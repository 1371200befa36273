/-! the model reads sums: signs, and the end -/
def wbl (Wb : List Int) : Prop := ∀ x ∈ Wb, 10 ≤ x ∧ x ≤ 25
section
variable {d : Nat} {f f0 g : am_F} {B : Int → Int} {N κ p o b was : Int} {Q : am_V → am_F → Prop} {W C Wb S V : List Int}
theorem g_cl2 (hN : N ≤ 1600) {y : Int} (hy : y = 20 ∨ y = 23 ∨ y = 24) (hS : ops S) (hc : isg B N p 41 = true) (hn : pend 60 (sG d f0 B N κ Wb was Q) (tE B N p) W (o - 1) (C ++ S ++ (if y = 20 then [] else [y - 18]))) : sG d f0 B N κ Wb was Q p o (S ++ y :: W) C := by
  intro g x h0 hM
  rw [List.append_assoc, List.cons_append] at hM
  refine g_close hN hM (by simp; omega) (by omega) hy hS hc ?_
  intro h hM2 gp
  have := m_ends (d := d + 3) (Q := fun v f' => aw_wp (d + 6) 196 119 [(110, 270), x] (if v.fst = 3 then [] else [v]) f' (k41 d was Q)) hN W _ (o - 1) h hn hM2 (fun g2 o' W' C' hG hM3 gp3 => by
    have hs := hG g2 x (gP_tr h0 (gP_tr gp gp3)) hM3
    simpa [r196_119] using hs)
  simpa [q194] using this
/-- a sign of the product or the sum is pushed -/
theorem g_push (hN : N ≤ 1600) {y : Int} {x : am_V} (h0 : gP f0 g) (hM : MS g B N κ p o Wb.length (S ++ V ++ Wb) C) (hy : 1 ≤ y ∧ y ≤ 4) {c : Int} (hc : isg B N p c = true) (hn : sE d f0 B N κ Wb was Q (tE B N p) o (y :: V) (C ++ S)) {h : am_F} (hR : RW h (V ++ Wb) (C ++ S)) (hf : ∀ c j : Int, ¬ ((c = 270 ∧ (j = 92 ∨ j = 94 ∨ j = 2)) ∨ c = 340) → h c j = g c j) (h2 : h 270 2 = tE B N p) : k41 d was Q (0, 1) (am_up (am_up h 341 (V ++ Wb).length y) 270 94 ((V ++ Wb).length + 1)) := by
  obtain ⟨hX, hP, ⟨h5, h50, h95, h96⟩, hRg, hp, hoo, hW⟩ := id hM
  have gb := isg_b hp.2.1 hc
  have lp : ((V ++ Wb).length : Int) + (C ++ S).length ≤ p := by have := hp.2.2; simp at this ⊢; omega
  have hF : ∀ c j : Int, ¬ ((c = 270 ∧ (j = 92 ∨ j = 94 ∨ j = 2)) ∨ c = 340 ∨ c = 341) → am_up (am_up h 341 (V ++ Wb).length y) 270 94 ((V ++ Wb).length + 1) c j = g c j := fun c j hc => by rw [am_un (by omega), am_un (by omega), hf c j (by omega)]
  have gp : gP g (am_up (am_up h 341 (V ++ Wb).length y) 270 94 ((V ++ Wb).length + 1)) := fun c j hc => hF c j (by omega)
  have hM2 : MS (am_up (am_up h 341 (V ++ Wb).length y) 270 94 ((V ++ Wb).length + 1)) B N κ (tE B N p) o Wb.length (y :: V ++ Wb) (C ++ S) := by
    refine MS_mk hM gp (PP_sign hP hc hp.1 hp.2.1 (by rw [am_un (by omega), am_un (by omega), h2]) (hF _ _ (by omega))) ((hF _ _ (by omega)).trans h5) ((hF _ _ (by omega)).trans h95) ((hF _ _ (by omega)).trans h96) (RW_P hR (by omega)) ⟨by omega, gb.2, ?_⟩ ⟨?_, hoo.2⟩ (fun z hz => ?_)
    · rw [List.cons_append, List.length_cons]; omega
    · rw [List.length_append]; omega
    · rw [List.cons_append, List.mem_cons] at hz
      rcases hz with e | e
      · omega
      · exact hW z (by rw [List.append_assoc]; exact List.mem_append_right _ e)
  exact s_on ((hF _ _ (by omega)).trans h5) (hn _ _ _ _ _ (gP_tr h0 gp) hM2)
theorem g_mul (hN : N ≤ 1600) (hWb : wbl Wb) (hg : isg B N p 42 = true ∨ isg B N p 47 = true) (hS : opm S) (hV : ¬ (3 ≤ V.headD 0 ∧ V.headD 0 ≤ 4)) (hn : sE d f0 B N κ Wb was Q (tE B N p) o ((if tV B N p = 42 then 3 else 4) :: V) (C ++ S)) : sG d f0 B N κ Wb was Q p o (S ++ V) C := by
  intro g x h0 hM
  have hnc : ¬ isg B N p 41 = true := hg.elim (fun q => isg_o q (by decide)) (fun q => isg_o q (by decide))
  refine g_head1 hN hM hnc ?_
  obtain ⟨t, u⟩ := x
  obtain ⟨hM1, hA⟩ := MS_at hM
  obtain ⟨hX, hP, ⟨h5, h50, h95, h96⟩, hR, hp, hoo, hW⟩ := id hM1
  have hs := tS_b (B := B) hp.2.1
  have x1 := fx_270_0 hM.1.1.1
  have x4 := hM.1.2.2
  have hR2 : RW (am_up g 270 2 (tE B N p)) (S ++ (V ++ Wb)) C := by rw [← List.append_assoc]; exact RW_fr hM.2.2.2.1 (fun c j hc => am_un (by omega))
  have nV : ¬ (3 ≤ (V ++ Wb).headD 0 ∧ (V ++ Wb).headD 0 ≤ 4) := hd_app (P := fun z => 3 ≤ z ∧ z ≤ 4) hV (fun z hz => by have := hWb z hz; omega)
  have key : ∀ (y c : Int), (y = 3 ∨ y = 4) → isg B N p c = true → sE d f0 B N κ Wb was Q (tE B N p) o (y :: V) (C ++ S) → aw_wp (d + 6) 196 162 [(110, 270), (0, y)] [] (am_up g 270 2 (tE B N p)) (k41 d was Q) := by
    intro y c hy hc hn
    refine d_drop (ok := fun x => 3 ≤ x ∧ x ≤ 4) (V := V ++ Wb) (f0 := am_up g 270 2 (tE B N p)) ?_ S C _ hS hR2 (fun _ _ _ => rfl) ?_
    · intro z S' C' g' hz hr _ hx
      have on3 := fun (dd : Nat) (QQ : am_V → am_F → Prop) => m_isOn (d := dd) (Q := QQ) (x := 3) hr (by omega)
      have on4 := fun (dd : Nat) (QQ : am_V → am_F → Prop) => m_isOn (d := dd) (Q := QQ) (x := 4) hr (by omega)
      have md := fun (dd : Nat) (QQ : am_V → am_F → Prop) => m_drops (d := dd) (Q := QQ) hr
      rw [List.headD_cons] at on3 on4
      rw [r196_162]
      generalize ((S' ++ (V ++ Wb)).length : Int) = w at md hx
      by_cases z3 : z = 3
      · simpa [r196_163, r196_164, r196_167, r196_170, r196_171, r196_172, r196_175, r196_178, r196_179, r196_182, cs_nil, cs_cons, lc_lt, lc_ge, lc_gt, lc_le, lc_eq, on3, z3, md] using hx
      · have z4 : z = 4 := by omega
        simpa [r196_163, r196_164, r196_167, r196_170, r196_171, r196_172, r196_175, r196_178, r196_179, r196_182, cs_nil, cs_cons, lc_lt, lc_ge, lc_gt, lc_le, lc_eq, on3, on4, z3, z4, md] using hx
    · intro h hr hd
      have on3 := fun (dd : Nat) (QQ : am_V → am_F → Prop) => m_isOn (d := dd) (Q := QQ) (x := 3) hr (by omega)
      have on4 := fun (dd : Nat) (QQ : am_V → am_F → Prop) => m_isOn (d := dd) (Q := QQ) (x := 4) hr (by omega)
      have n3 : ¬ (V ++ Wb).headD 0 = 3 := by omega
      have n4 : ¬ (V ++ Wb).headD 0 = 4 := by omega
      simp only [if_neg n3] at on3
      simp only [if_neg n4] at on4
      have := g_push hN (x := (t, u)) h0 hM (show 1 ≤ y ∧ y ≤ 4 by omega) hc hn hr (fun c j hc => by rw [hd c j (by omega), am_un (by omega)]) (by rw [hd _ _ (by omega), am_ue])
      obtain ⟨⟨a1, a2⟩, ⟨b1, b2⟩, _, e⟩ := hr
      have w0 : 0 ≤ ((V ++ Wb).length : Int) := by omega
      have c0 : 0 ≤ ((C ++ S).length : Int) := by omega
      generalize ((V ++ Wb).length : Int) = w at b1 e this w0
      rw [r196_162]
      simpa (disch := omega) [r196_163, r196_164, r196_167, r196_170, r196_171, r196_172, r196_175, cs_nil, cs_cons, lc_lt, lc_ge, lc_gt, lc_le, lc_eq, r196_185, r196_186, r196_189, r196_190, r196_193, r196_194, r196_195, r196_196, r196_197, r196_200, r196_201, r196_202, r196_205, r196_206, on3, on4, a2, b1, ln_341, am_un, am_ue, am_wid2, am_fitE, le_T, lt_T] using this
  have e1 : tE B N p - 1 = tS B N p ∧ B (tS B N p) = tV B N p ∧ 1 ≤ tE B N p ∧ tS B N p < 1600 := by
    rcases hg with q | q
    · have ie := isg_E q; have := (isg_k q).2; omega
    · have ie := isg_E q; have := (isg_k q).2; omega
  by_cases h42 : isg B N p 42 = true
  · have v42 := (isg_k h42).2
    have t1 := fun (dd : Nat) (QQ : am_V → am_F → Prop) => m_takesY (d := dd) (Q := QQ) hX hN hp.1 hp.2.1 hP h5 h42
    simp only [am_uu] at t1
    rw [if_pos v42] at hn
    have := key 3 42 (by omega) h42 hn
    rw [v42] at e1
    simpa (disch := omega) [r196_122, r196_123, r196_125, r196_128, r196_131, r196_132, r196_134, r196_137, r196_140, r196_141, r196_144, r196_145, r196_148, r196_149, r196_150, r196_151, r196_153, r196_156, r196_157, r196_160, r196_161, cs_nil, cs_cons, lc_lt, lc_ge, lc_gt, lc_le, lc_eq, t1, x1, x4, ln_271, e1.1, e1.2.1, am_un, am_ue, am_wid2, le_T, lt_T] using this
  · have h47 : isg B N p 47 = true := hg.resolve_left h42
    have v47 := (isg_k h47).2
    have t0 := fun (dd : Nat) (QQ : am_V → am_F → Prop) => m_takesA (d := dd) (Q := QQ) (c := 42) hX hN hp.1 hp.2.1 hP h5 hA (by decide) (by omega) h42
    have t1 := fun (dd : Nat) (QQ : am_V → am_F → Prop) => m_takesY (d := dd) (Q := QQ) hX hN hp.1 hp.2.1 hP h5 h47
    simp only [am_uu] at t1
    rw [if_neg (by rw [v47]; decide)] at hn
    have := key 4 47 (by omega) h47 hn
    rw [v47] at e1
    simpa (disch := omega) [r196_122, r196_123, r196_125, r196_128, r196_131, r196_132, r196_134, r196_137, r196_140, r196_141, r196_144, r196_145, r196_148, r196_149, r196_150, r196_151, r196_153, r196_156, r196_157, r196_160, r196_161, cs_nil, cs_cons, lc_lt, lc_ge, lc_gt, lc_le, lc_eq, t0, t1, x1, x4, ln_271, e1.1, e1.2.1, am_un, am_ue, am_wid2, le_T, lt_T] using this
theorem g_add (hN : N ≤ 1600) (hWb : wbl Wb) (hg : isg B N p 43 = true ∨ isg B N p 45 = true) (hS : ops S) (hV : ¬ (1 ≤ V.headD 0 ∧ V.headD 0 ≤ 4)) (hn : sE d f0 B N κ Wb was Q (tE B N p) o ((if tV B N p = 43 then 1 else 2) :: V) (C ++ S)) : sG d f0 B N κ Wb was Q p o (S ++ V) C := by
  intro g x h0 hM
  have hno : ∀ c, ¬ c = 43 → ¬ c = 45 → ¬ isg B N p c = true := fun c c1 c2 => hg.elim (fun q => isg_o q (fun e => c1 e.symm)) (fun q => isg_o q (fun e => c2 e.symm))
  refine g_head1 hN hM (hno 41 (by decide) (by decide)) ?_
  obtain ⟨t, u⟩ := x
  obtain ⟨hM1, hA⟩ := MS_at hM
  obtain ⟨hX, hP, ⟨h5, h50, h95, h96⟩, hR, hp, hoo, hW⟩ := id hM1
  have hs := tS_b (B := B) hp.2.1
  have x1 := fx_270_0 hM.1.1.1
  have x4 := hM.1.2.2
  have hR2 : RW (am_up g 270 2 (tE B N p)) (S ++ (V ++ Wb)) C := by rw [← List.append_assoc]; exact RW_fr hM.2.2.2.1 (fun c j hc => am_un (by omega))
  have nV : ¬ (1 ≤ (V ++ Wb).headD 0 ∧ (V ++ Wb).headD 0 ≤ 4) := hd_app (P := fun z => 1 ≤ z ∧ z ≤ 4) hV (fun z hz => by have := hWb z hz; omega)
  have key : ∀ (y c : Int), (y = 1 ∨ y = 2) → isg B N p c = true → sE d f0 B N κ Wb was Q (tE B N p) o (y :: V) (C ++ S) → aw_wp (d + 6) 196 247 [(110, 270), (0, y)] [] (am_up g 270 2 (tE B N p)) (k41 d was Q) := by
    intro y c hy hc hn
    refine d_drop (ok := fun x => 1 ≤ x ∧ x ≤ 4) (V := V ++ Wb) (f0 := am_up g 270 2 (tE B N p)) ?_ S C _ hS hR2 (fun _ _ _ => rfl) ?_
    · intro z S' C' g' hz hr _ hx
      have on := fun (k : Int) (hk : ¬ k = 0) (dd : Nat) (QQ : am_V → am_F → Prop) => m_isOn (d := dd) (Q := QQ) (x := k) hr hk
      have on3 := on 3 (by omega)
      have on4 := on 4 (by omega)
      have on1 := on 1 (by omega)
      have on2 := on 2 (by omega)
      have md := fun (dd : Nat) (QQ : am_V → am_F → Prop) => m_drops (d := dd) (Q := QQ) hr
      rw [List.headD_cons] at on3 on4 on1 on2
      rw [r196_247]
      generalize ((S' ++ (V ++ Wb)).length : Int) = w at md hx
      rcases (show z = 3 ∨ z = 4 ∨ z = 1 ∨ z = 2 by omega) with e | e | e | e
      · rw [e] at on3 md hx
        simpa [r196_248, r196_249, r196_252, r196_255, r196_256, r196_257, r196_260, r196_263, r196_264, r196_265, r196_268, r196_271, r196_272, r196_273, r196_276, r196_279, r196_280, r196_283, cs_nil, cs_cons, lc_lt, lc_ge, lc_gt, lc_le, lc_eq, on3, md] using hx
      · rw [e] at on3 on4 md hx
        simpa [r196_248, r196_249, r196_252, r196_255, r196_256, r196_257, r196_260, r196_263, r196_264, r196_265, r196_268, r196_271, r196_272, r196_273, r196_276, r196_279, r196_280, r196_283, cs_nil, cs_cons, lc_lt, lc_ge, lc_gt, lc_le, lc_eq, on3, on4, md] using hx
      · rw [e] at on3 on4 on1 md hx
        simpa [r196_248, r196_249, r196_252, r196_255, r196_256, r196_257, r196_260, r196_263, r196_264, r196_265, r196_268, r196_271, r196_272, r196_273, r196_276, r196_279, r196_280, r196_283, cs_nil, cs_cons, lc_lt, lc_ge, lc_gt, lc_le, lc_eq, on3, on4, on1, md] using hx
      · rw [e] at on3 on4 on1 on2 md hx
        simpa [r196_248, r196_249, r196_252, r196_255, r196_256, r196_257, r196_260, r196_263, r196_264, r196_265, r196_268, r196_271, r196_272, r196_273, r196_276, r196_279, r196_280, r196_283, cs_nil, cs_cons, lc_lt, lc_ge, lc_gt, lc_le, lc_eq, on3, on4, on1, on2, md] using hx
    · intro h hr hd
      have on := fun (k : Int) (hk : ¬ k = 0) (dd : Nat) (QQ : am_V → am_F → Prop) => m_isOn (d := dd) (Q := QQ) (x := k) hr hk
      have on3 := on 3 (by omega)
      have on4 := on 4 (by omega)
      have on1 := on 1 (by omega)
      have on2 := on 2 (by omega)
      have n3 : ¬ (V ++ Wb).headD 0 = 3 := by omega
      have n4 : ¬ (V ++ Wb).headD 0 = 4 := by omega
      have n1 : ¬ (V ++ Wb).headD 0 = 1 := by omega
      have n2 : ¬ (V ++ Wb).headD 0 = 2 := by omega
      simp only [if_neg n3] at on3
      simp only [if_neg n4] at on4
      simp only [if_neg n1] at on1
      simp only [if_neg n2] at on2
      have := g_push hN (x := (t, u)) h0 hM (show 1 ≤ y ∧ y ≤ 4 by omega) hc hn hr (fun c j hc => by rw [hd c j (by omega), am_un (by omega)]) (by rw [hd _ _ (by omega), am_ue])
      obtain ⟨⟨a1, a2⟩, ⟨b1, b2⟩, _, e⟩ := hr
      have w0 : 0 ≤ ((V ++ Wb).length : Int) := by omega
      have c0 : 0 ≤ ((C ++ S).length : Int) := by omega
      generalize ((V ++ Wb).length : Int) = w at b1 e this w0
      rw [r196_247]
      simpa (disch := omega) [r196_248, r196_249, r196_252, r196_255, r196_256, r196_257, r196_260, r196_263, r196_264, r196_265, r196_268, r196_271, r196_272, r196_273, r196_276, cs_nil, cs_cons, lc_lt, lc_ge, lc_gt, lc_le, lc_eq, r196_286, r196_287, r196_290, r196_291, r196_294, r196_295, r196_296, r196_297, r196_298, r196_301, r196_302, r196_303, r196_306, r196_307, on3, on4, on1, on2, a2, b1, ln_341, am_un, am_ue, am_wid2, am_fitE, le_T, lt_T] using this
  have e1 : tE B N p - 1 = tS B N p ∧ B (tS B N p) = tV B N p ∧ 1 ≤ tE B N p ∧ tS B N p < 1600 := by
    rcases hg with q | q
    · have ie := isg_E q; have := (isg_k q).2; omega
    · have ie := isg_E q; have := (isg_k q).2; omega
  have ta := fun (c : Int) (hc : srt c = 3) (hc0 : 0 ≤ c) (hg : ¬ isg B N p c = true) (dd : Nat) (QQ : am_V → am_F → Prop) => m_takesA (d := dd) (Q := QQ) (c := c) hX hN hp.1 hp.2.1 hP h5 hA hc hc0 hg
  have a1 := ta 42 (by decide) (by omega) (hno 42 (by decide) (by decide))
  have a2 := ta 47 (by decide) (by omega) (hno 47 (by decide) (by decide))
  by_cases h43 : isg B N p 43 = true
  · have v43 := (isg_k h43).2
    have t1 := fun (dd : Nat) (QQ : am_V → am_F → Prop) => m_takesY (d := dd) (Q := QQ) hX hN hp.1 hp.2.1 hP h5 h43
    simp only [am_uu] at t1
    rw [if_pos v43] at hn
    have := key 1 43 (by omega) h43 hn
    rw [v43] at e1
    simpa (disch := omega) [r196_122, r196_123, r196_125, r196_128, r196_131, r196_132, r196_134, r196_137, cs_nil, cs_cons, lc_lt, lc_ge, lc_gt, lc_le, lc_eq, r196_207, r196_208, r196_210, r196_213, r196_216, r196_217, r196_219, r196_222, r196_225, r196_226, r196_229, r196_230, r196_233, r196_234, r196_235, r196_236, r196_238, r196_241, r196_242, r196_245, r196_246, a1, a2, t1, x1, x4, ln_271, e1.1, e1.2.1, am_un, am_ue, am_wid2, le_T, lt_T] using this
  · have h45 : isg B N p 45 = true := hg.resolve_left h43
    have v45 := (isg_k h45).2
    have t0 := ta 43 (by decide) (by omega) h43
    have t1 := fun (dd : Nat) (QQ : am_V → am_F → Prop) => m_takesY (d := dd) (Q := QQ) hX hN hp.1 hp.2.1 hP h5 h45
    simp only [am_uu] at t1
    rw [if_neg (by rw [v45]; decide)] at hn
    have := key 2 45 (by omega) h45 hn
    rw [v45] at e1
    simpa (disch := omega) [r196_122, r196_123, r196_125, r196_128, r196_131, r196_132, r196_134, r196_137, cs_nil, cs_cons, lc_lt, lc_ge, lc_gt, lc_le, lc_eq, r196_207, r196_208, r196_210, r196_213, r196_216, r196_217, r196_219, r196_222, r196_225, r196_226, r196_229, r196_230, r196_233, r196_234, r196_235, r196_236, r196_238, r196_241, r196_242, r196_245, r196_246, a1, a2, t0, t1, x1, x4, ln_271, e1.1, e1.2.1, am_un, am_ue, am_wid2, le_T, lt_T] using this
/-- the bracket that a stack shows -/
theorem g_bk (hN : N ≤ 1600) {y : Int} (hM : MS f B N κ p o Wb.length (S ++ y :: W ++ Wb) C) (hy : 20 ≤ y ∧ y ≤ 24) (hS : ops S) : ∀ (dd : Nat) (QQ : am_V → am_F → Prop), aw_cl (dd + 1) 197 [(110, 270)] f QQ = QQ (0, y) f := by
  intro dd QQ
  have hR := hM.2.2.2.1
  rw [List.append_assoc, List.cons_append] at hR
  exact m_brk hR hS hy hM.2.2.1.2.2.2 (by simp; omega) (by omega)
theorem g_nxt (hN : N ≤ 1600) {y : Int} (hy : y = 21 ∨ y = 22) (hc : isg B N p 44 = true) (hS : ops S) (hn : sE d f0 B N κ Wb was Q (tE B N p) o ((y + 2) :: W) (C ++ S)) : sG d f0 B N κ Wb was Q p o (S ++ y :: W) C := by
  intro g x h0 hM
  refine g_head1 hN hM (isg_o hc (by decide)) ?_
  obtain ⟨hM1, hA⟩ := MS_at hM
  refine g_none hN hM1 hA ⟨isg_o hc (by decide), isg_o hc (by decide)⟩ ⟨isg_o hc (by decide), isg_o hc (by decide)⟩ ?_
  obtain ⟨t, u⟩ := x
  have bk := g_bk hN hM1 (by omega) hS
  obtain ⟨hX, hP, ⟨h5, h50, h95, h96⟩, hR, hp, hoo, hW⟩ := id hM1
  have gb := isg_b hp.2.1 hc
  have as := fun (dd : Nat) (QQ : am_V → am_F → Prop) => m_askSY (d := dd) (Q := QQ) hX hN hp.1 hp.2.1 hP h5 hc
  simp only [am_uu] at as
  have hR2 : RW (am_up g 270 2 (tE B N p)) (S ++ y :: (W ++ Wb)) C := by
    have := hM.2.2.2.1
    rw [List.append_assoc, List.cons_append] at this
    exact RW_fr this (fun c j hc => am_un (by omega))
  have b5 : (am_up g 270 2 (tE B N p)) 270 5 = 0 := by rw [am_un (by omega)]; exact hM.2.2.1.1
  have at341 : aw_wp (d + 6) 196 341 [(110, 270), (t, u)] [] (am_up g 270 2 (tE B N p)) (k41 d was Q) := by
    simp [r196_341, r196_342, cs_nil, cs_cons, lc_lt, lc_ge, lc_gt, lc_le, lc_eq]
    refine m_dtb hR2 hS (by omega) (b := Wb.length) (by rw [am_un (by omega)]; exact hM.2.2.1.2.2.2) (by simp; omega) (by omega) ?_
    intro g3 r3 d3
    have f3 : ∀ c j : Int, ¬ ((c = 270 ∧ (j = 92 ∨ j = 94 ∨ j = 2)) ∨ c = 340) → g3 c j = g c j := fun c j hc => by rw [d3 c j (by omega), am_un (by omega)]
    have lp : ((W ++ Wb).length : Int) + 1 + (C ++ S).length ≤ p := by have := hp.2.2; simp at this ⊢; omega
    have hF : ∀ c j : Int, ¬ ((c = 270 ∧ (j = 92 ∨ j = 94 ∨ j = 2)) ∨ c = 340 ∨ c = 341) → am_up g3 341 (W ++ Wb).length (y + 2) c j = g c j := fun c j hc => by rw [am_un (by omega), f3 c j (by omega)]
    have gp : gP g (am_up g3 341 (W ++ Wb).length (y + 2)) := fun c j hc => hF c j (by omega)
    have hM2 : MS (am_up g3 341 (W ++ Wb).length (y + 2)) B N κ (tE B N p) o Wb.length ((y + 2) :: W ++ Wb) (C ++ S) := by
      refine MS_mk hM gp (PP_sign hM.2.1 hc hp.1 hp.2.1 (by rw [am_un (by omega), d3 _ _ (by omega), am_ue]) (hF _ _ (by omega))) ((hF _ _ (by omega)).trans hM.2.2.1.1) ((hF _ _ (by omega)).trans hM.2.2.1.2.2.1) ((hF _ _ (by omega)).trans hM.2.2.1.2.2.2) (RW_T r3) ⟨by omega, gb.2, ?_⟩ ⟨?_, hoo.2⟩ (fun z hz => ?_)
      · rw [List.cons_append, List.length_cons]; omega
      · rw [List.length_append]; omega
      · rw [List.cons_append, List.mem_cons] at hz
        rcases hz with e | e
        · omega
        · exact hW z (by rw [List.append_assoc, List.cons_append]; exact List.mem_append_right _ (List.mem_cons_of_mem _ e))
    have := s_on ((hF _ _ (by omega)).trans hM.2.2.1.1) (hn _ (2, 0) (2, 0) (2, 0) (2, 0) (gP_tr h0 gp) hM2)
    obtain ⟨⟨a1, a2⟩, ⟨b1, b2⟩, ⟨c1, c2⟩, e⟩ := id r3
    have cx : g3 341 ((W ++ Wb).length : Int) = y := c1.1
    have b1' : g3 270 94 = ((W ++ Wb).length : Int) + 1 := by rw [b1]; simp
    have w0 : 0 ≤ ((W ++ Wb).length : Int) := by omega
    have w1 : ((W ++ Wb).length : Int) + 1 ≤ 1600 := by omega
    clear hM2 gp hF lp b1 c1 e r3
    generalize ((W ++ Wb).length : Int) = w at *
    have ew : w + 1 - 1 = w := by omega
    simpa (disch := omega) [r196_345, r196_346, r196_349, r196_350, r196_353, r196_354, r196_355, r196_356, r196_357, r196_358, r196_359, r196_360, r196_361, cs_nil, cs_cons, lc_lt, lc_ge, lc_gt, lc_le, lc_eq, a2, b1', cx, ew, ln_341, am_un, am_ue, am_wid2, am_fitE, le_T, lt_T] using this
  rcases hy with e | e
  · rw [e] at bk
    simpa [r196_308, r196_309, r196_312, r196_314, r196_317, r196_318, r196_321, r196_323, r196_326, r196_327, r196_329, r196_332, r196_333, r196_336, cs_nil, cs_cons, lc_lt, lc_ge, lc_gt, lc_le, lc_eq, bk, as, b5] using at341
  · rw [e] at bk
    simpa [r196_308, r196_309, r196_312, r196_314, r196_317, r196_318, r196_321, r196_323, r196_326, r196_327, r196_329, r196_332, r196_333, r196_336, cs_nil, cs_cons, lc_lt, lc_ge, lc_gt, lc_le, lc_eq, bk, as, b5] using at341
theorem g_nxtF (hN : N ≤ 1600) {y : Int} (hy : y = 21 ∨ y = 22) (h1 : nm B N p) (h2 : na B N p) (hc : ¬ isg B N p 44 = true) (hS : ops S) (hf : sF f0 was Q 1 (tS B N p)) : sG d f0 B N κ Wb was Q p o (S ++ y :: W) C := by
  intro g x h0 hM
  obtain ⟨hM1, hA⟩ := MS_at hM
  have bk := g_bk hN hM1 (by omega) hS
  refine g_head2 hN hM bk (by omega) (by omega) (by omega) ?_
  refine g_none hN hM1 hA h1 h2 ?_
  obtain ⟨t, u⟩ := x
  obtain ⟨hX, hP, ⟨h5, h50, h95, h96⟩, hR, hp, hoo, hW⟩ := id hM1
  have as := fun (dd : Nat) (QQ : am_V → am_F → Prop) => m_askSN (d := dd) (Q := QQ) (c := 44) hX hN hp.1 hp.2.1 hP h5 (by decide) (by omega) hc
  simp only [am_uu] at as
  have b2 := hM.2.2.2.1.2.1.2
  have bd : ¬ (am_up (am_up (am_up g 270 2 (tS B N p)) 270 5 1) 270 6 (tS B N p)) 270 5 = 0 := by rw [am_un (by omega), am_ue]; decide
  have fin := s_flt2 (d := d) (was := was) (Q := Q) bd (hf _ (gPw_tr h0 (gPw_up (gPw_up (gPw_up gPw_rf (by omega)) (by omega)) (by omega))) (by rw [am_un (by omega), am_ue]) am_ue (by rw [am_un (by omega), am_un (by omega), am_un (by omega), b2]; omega))
  rcases hy with e | e
  · rw [e] at bk
    simpa [r196_308, r196_309, r196_312, r196_314, r196_317, r196_318, r196_321, r196_323, r196_326, r196_327, r196_329, r196_332, r196_333, r196_336, r196_339, r196_340, cs_nil, cs_cons, lc_lt, lc_ge, lc_gt, lc_le, lc_eq, bk, as, am_un, am_ue] using fin
  · rw [e] at bk
    simpa [r196_308, r196_309, r196_312, r196_314, r196_317, r196_318, r196_321, r196_323, r196_326, r196_327, r196_329, r196_332, r196_333, r196_336, r196_339, r196_340, cs_nil, cs_cons, lc_lt, lc_ge, lc_gt, lc_le, lc_eq, bk, as, am_un, am_ue] using fin
theorem g_brF (hN : N ≤ 1600) {y : Int} (hy : y = 20 ∨ y = 23 ∨ y = 24) (h1 : nm B N p) (h2 : na B N p) (hc : ¬ isg B N p 41 = true) (hS : ops S) (hf : sF f0 was Q 1 (tS B N p)) : sG d f0 B N κ Wb was Q p o (S ++ y :: W) C := by
  intro g x h0 hM
  obtain ⟨hM1, hA⟩ := MS_at hM
  have bk := g_bk hN hM1 (by omega) hS
  refine g_head1 hN hM hc ?_
  refine g_none hN hM1 hA h1 h2 ?_
  obtain ⟨t, u⟩ := x
  obtain ⟨hX, hP, ⟨h5, h50, h95, h96⟩, hR, hp, hoo, hW⟩ := id hM1
  have mf := fun (dd : Nat) (QQ : am_V → am_F → Prop) (k q : Int) => m_fail (d := dd) (Q := QQ) (k := k) (q := q) h5
  have b2 := hM.2.2.2.1.2.1.2
  have bd : ¬ (am_up (am_up (am_up g 270 2 (tS B N p)) 270 5 1) 270 6 (tS B N p)) 270 5 = 0 := by rw [am_un (by omega), am_ue]; decide
  have fin := s_flt2 (d := d) (was := was) (Q := Q) bd (hf _ (gPw_tr h0 (gPw_up (gPw_up (gPw_up gPw_rf (by omega)) (by omega)) (by omega))) (by rw [am_un (by omega), am_ue]) am_ue (by rw [am_un (by omega), am_un (by omega), am_un (by omega), b2]; omega))
  have n1 : ¬ y = 21 := by omega
  have n2 : ¬ y = 22 := by omega
  have n3 : ¬ y = -1 := by omega
  simpa [r196_308, r196_309, r196_312, r196_314, r196_317, r196_318, r196_321, r196_323, cs_nil, cs_cons, lc_lt, lc_ge, lc_gt, lc_le, lc_eq, r196_362, r196_363, r196_366, r196_367, r196_370, r196_371, r196_374, r196_377, r196_378, r196_379, r196_380, r196_383, r196_386, r196_387, bk, n1, n2, n3, h5, hA, mf] using fin
theorem g_end (hN : N ≤ 1600) (h1 : nm B N p) (h2 : na B N p) (hS : ops S) (hx : sX f0 B N κ Wb was Q p o (C ++ S)) : sG d f0 B N κ Wb was Q p o S C := by
  intro g x h0 hM
  obtain ⟨hM1, hA⟩ := MS_at hM
  have bk : ∀ (dd : Nat) (QQ : am_V → am_F → Prop), aw_cl (dd + 1) 197 [(110, 270)] (am_up g 270 2 (tS B N p)) QQ = QQ (0, -1) (am_up g 270 2 (tS B N p)) := fun dd QQ => m_brk0 hM1.2.2.2.1 hS hM1.2.2.1.2.2.2
  refine g_head2 hN hM bk (by omega) (by omega) (by omega) ?_
  refine g_none hN hM1 hA h1 h2 ?_
  obtain ⟨t, u⟩ := x
  obtain ⟨hX, hP, ⟨h5, h50, h95, h96⟩, hR, hp, hoo, hW⟩ := id hM1
  have at53 : aw_wp (d + 7) 186 53 [(110, 270), (0, was), (0, 0)] [] (am_up g 270 2 (tS B N p)) Q := by
    refine d_drop (ok := fun x => 1 ≤ x ∧ x ≤ 4) (V := Wb) (f0 := am_up g 270 2 (tS B N p)) ?_ S C _ hS hR (fun _ _ _ => rfl) ?_
    · intro z S' C' g' hz hr hd hx
      have md := fun (dd : Nat) (QQ : am_V → am_F → Prop) => m_drops (d := dd) (Q := QQ) hr
      have g5 : g' 270 5 = 0 := (hd _ _ (by omega)).trans h5
      have g96 : g' 270 96 = Wb.length := (hd _ _ (by omega)).trans h96
      have b1 : g' 270 94 = ((S' ++ Wb).length : Int) + 1 := by rw [hr.2.1.1]; simp
      have wb : (Wb.length : Int) ≤ ((S' ++ Wb).length : Int) := by simp; omega
      generalize ((S' ++ Wb).length : Int) = w at md hx b1 wb
      rw [r186_53]
      simpa (disch := omega) [r186_54, r186_57, r186_60, r186_61, r186_64, r186_65, r186_68, r186_71, r186_72, r186_75, cs_nil, cs_cons, lc_lt, lc_ge, lc_gt, lc_le, lc_eq, g5, g96, b1, md, le_T, lt_T, le_F, lt_F] using hx
    · intro g3 r3 d3
      have g5 : g3 270 5 = 0 := (d3 _ _ (by omega)).trans h5
      have g96 : g3 270 96 = Wb.length := (d3 _ _ (by omega)).trans h96
      have b1 : g3 270 94 = Wb.length := r3.2.1.1
      have f3 : ∀ c j : Int, ¬ ((c = 270 ∧ (j = 92 ∨ j = 94 ∨ j = 2 ∨ j = 96)) ∨ c = 340) → am_up g3 270 96 was c j = g c j := fun c j hc => by rw [am_un (by omega), d3 c j (by omega), am_un (by omega)]
      have gp : gP g (am_up g3 270 96 was) := fun c j hc => f3 c j (by omega)
      have lp : (Wb.length : Int) + (C ++ S).length ≤ p := by have := hp.2.2; simp at this ⊢; omega
      have := hx (am_up g3 270 96 was) (gP_tr h0 gp) (MS_mk hM gp (by
        have := PP_look hM.2.1 hp.2.1
        obtain ⟨p1, p2, p3⟩ := this
        have q2 : am_up g3 270 96 was 270 2 = am_up g 270 2 (tS B N p) 270 2 := by rw [am_un (by omega), d3 _ _ (by omega)]
        have q4 : am_up g3 270 96 was 270 4 = am_up g 270 2 (tS B N p) 270 4 := by rw [am_un (by omega), d3 _ _ (by omega)]
        exact ⟨by rw [q2]; exact p1, by rw [q4]; exact p2, by rw [q4]; exact p3⟩) ((f3 _ _ (by omega)).trans hM.2.2.1.1) ((f3 _ _ (by omega)).trans hM.2.2.1.2.2.1) am_ue (RW_fr r3 (fun c j hc => am_un (by omega))) ⟨hp.1, hp.2.1, lp⟩ ⟨by rw [List.length_append]; omega, hoo.2⟩ (fun z hz => hW z (List.mem_append_right _ hz)))
      rw [r186_53]
      simpa (disch := omega) [r186_54, r186_57, r186_60, r186_61, r186_64, r186_65, r186_68, r186_71, r186_72, r186_75, r186_78, r186_79, r186_80, r186_83, cs_nil, cs_cons, lc_lt, lc_ge, lc_gt, lc_le, lc_eq, g5, g96, b1, le_T, lt_T, le_F, lt_F] using this
  have h15 : aw_wp (d + 7) 186 15 [(110, 270), (0, was), (0, 0)] [] (am_up g 270 2 (tS B N p)) Q := by
    rw [r186_15]
    simpa [r186_16, cs_nil, cs_cons, lc_lt, lc_ge, lc_gt, lc_le, lc_eq] using at53
  have : k41 d was Q (0, 0) (am_up g 270 2 (tS B N p)) := by
    simpa [k41, r186_41, r186_44, r186_45, r186_48, r186_49, r186_50, cs_nil, cs_cons, lc_lt, lc_ge, lc_gt, lc_le, lc_eq] using h15
  simpa [r196_308, r196_309, r196_312, r196_314, r196_317, r196_318, r196_321, r196_323, cs_nil, cs_cons, lc_lt, lc_ge, lc_gt, lc_le, lc_eq, r196_362, r196_363, r196_366, r196_367, r196_370, r196_371, r196_374, r196_377, r196_378, r196_379, r196_380, r196_383, r196_386, r196_387, bk] using this
end
section
variable {d : Nat} {f f0 : am_F} {B : Int → Int} {N κ p o was : Int} {Q : am_V → am_F → Prop} {C Wb : List Int}
theorem s_SM (hN : N ≤ 1600) (κ0 : 0 ≤ κ ∧ κ ≤ 3) (hWb : wbl Wb) : SM B N κ (sE d f0 B N κ Wb was Q) (sG d f0 B N κ Wb was Q) (sF f0 was Q) (sX f0 B N κ Wb was Q) := ⟨fun _ _ _ _ a b c => e_rnd hN κ0 a b c, fun _ _ _ _ a b c => e_rndF hN κ0 a b c, fun _ _ _ _ a b c e => e_pair hN κ0 a b c e, fun _ _ _ _ a b c e => e_pair4 hN κ0 a b c e, fun _ _ _ _ a b c => e_pair1 hN κ0 a b c, fun _ _ _ _ a b c e => e_of hN κ0 a b c e, fun _ _ _ _ a b c e => e_ofF hN κ0 a b c e, fun _ _ _ _ a b c => e_num hN κ0 a b c, fun _ _ _ _ a b c => e_numF hN κ0 a b c, fun _ _ _ _ a b => e_word hN κ0 a b, fun _ _ _ _ a b c e h i => e_bad hN κ0 a b c e h i, fun _ _ _ _ _ a b c => g_cl2 hN (Or.inl rfl) b a (by rw [if_pos rfl, List.append_nil]; exact c), fun _ _ _ _ _ y a b c e => g_cl2 hN (Or.inr a) c b (by rw [if_neg (by omega)]; exact e), fun _ _ _ _ _ a b c e => g_mul hN hWb a b c e, fun _ _ _ _ _ a b c e => g_add hN hWb a b c e, fun _ _ _ _ _ _ a b c e => g_nxt hN a b c e, fun _ _ _ _ _ _ a b c e h i => g_nxtF hN a b c e h i, fun _ _ _ _ _ _ a b c e h i => g_brF hN a b c e h i, fun _ _ _ _ a b c e => g_end hN a b c e⟩
/-- the model reads a sum -/
theorem m_sums {k : Nat} {r : RR} (hN : N ≤ 1600) (κ0 : 0 ≤ κ ∧ κ ≤ 3) (hWb : wbl Wb) (h : rd B N κ k 4 p o = some r) (hM : MS f B N κ p o was Wb C) (hr : PR (sF f was Q) r (fun p' cs => sX f B N κ Wb was Q p' o (C ++ cs))) : aw_cl (d + 7) 186 [(110, 270)] f Q := by
  have hE := sm_sum (s_SM (d := d) (f0 := f) (Q := Q) hN κ0 hWb) (C := C) h hr
  obtain ⟨hX, hP, ⟨h5, h50, h95, h96⟩, hR, hp, hoo, hW⟩ := id hM
  have hb := hR.2.1.1
  have gp : gP f (am_up f 270 96 Wb.length) := gP_up gP_rf (by omega)
  have hM2 : MS (am_up f 270 96 Wb.length) B N κ p o Wb.length ([] ++ Wb) C := by
    refine MS_mk hM gp ?_ ?_ ?_ am_ue (RW_fr hR (fun c j hc => am_un (by omega))) hp hoo hW
    · obtain ⟨p1, p2, p3⟩ := hP
      exact ⟨by rw [am_un (by omega)]; exact p1, by rw [am_un (by omega)]; exact p2, by rw [am_un (by omega)]; exact p3⟩
    · rw [am_un (by omega)]; exact h5
    · rw [am_un (by omega)]; exact h95
  have e := hE (am_up f 270 96 Wb.length) (2, 0) (2, 0) (2, 0) (2, 0) gp hM2
  have h5' : (am_up f 270 96 Wb.length) 270 5 = 0 := by rw [am_un (by omega)]; exact h5
  have h15 : aw_wp (d + 7) 186 15 [(110, 270), (0, was), (0, 1)] [] (am_up f 270 96 Wb.length) Q := by
    rw [r186_15]
    unfold k30 at e
    simpa [r186_16, r186_19, r186_20, r186_23, r186_26, r186_27, cs_nil, cs_cons, lc_lt, lc_ge, lc_gt, lc_le, lc_eq, q187, r187_0, r187_1, h5'] using e
  simpa [q186, r186_0, r186_1, r186_4, r186_5, r186_6, r186_7, r186_10, r186_13, r186_14, cs_nil, cs_cons, lc_lt, lc_ge, lc_gt, lc_le, lc_eq, h96, hb] using h15
end
