/-! the model reads tests: how they go on -/
section
variable {d : Nat} {f f0 g : am_F} {B : Int → Int} {N κ p o b : Int} {Q : am_V → am_F → Prop} {W C S V : List Int}
theorem pl_all {P : Int → Prop} : ∀ (W : List Int), pl f 341 W → (∀ x ∈ W, P x) → ∀ i : Int, 0 ≤ i → i < W.length → P (f 341 i)
  | [], _, _, i, h0, h1 => by simp at h1; omega
  | x :: W, hp, hP, i, h0, h1 => by
    by_cases e : i = W.length
    · rw [e, hp.1]; exact hP x List.mem_cons_self
    · exact pl_all W hp.2 (fun y hy => hP y (List.mem_cons_of_mem _ hy)) i h0 (by simp at h1; omega)
theorem m_hasY (h : RW f (S ++ 25 :: V) C) : aw_cl d 203 [(110, 270)] f Q = Q (0, 1) f := by
  obtain ⟨⟨a1, a2⟩, ⟨b1, b2⟩, ⟨c1, c2⟩, e⟩ := h
  have cx := pl_at S 25 V c1
  have b1' : (V.length : Int) < f 270 94 := by rw [b1]; simp; omega
  have e' : (V.length : Int) ≤ 1600 := by simp at e; omega
  have v0 : 0 ≤ (V.length : Int) := by omega
  clear b1 c1 e
  generalize (V.length : Int) = w at cx b1' e' v0
  have key : ∀ (j : Nat) (i : Int), i + j = w → 0 ≤ i → aw_wp d 203 2 [(110, 270), (0, i)] [] f (fun v g => v = (0, 1) ∧ g = f) := by
    intro j
    induction j with
    | zero =>
      intro i hi i0
      have : i = w := by omega
      subst this
      rw [r203_2]
      simp (disch := omega) [r203_3, r203_4, r203_7, r203_10, r203_11, r203_14, r203_15, r203_16, r203_18, r203_21, r203_22, r203_23, r203_26, r203_29, r203_30, cs_nil, cs_cons, lc_lt, lc_ge, lc_gt, lc_le, lc_eq, a2, cx, ln_341, le_T, lt_T, le_F, lt_F]
    | succ j ih =>
      intro i hi i0
      have ih' := ih (i + 1) (by omega) (by omega)
      rw [r203_2]
      by_cases q : f 341 i = 25
      · simp (disch := omega) [r203_3, r203_4, r203_7, r203_10, r203_11, r203_14, r203_15, r203_16, r203_18, r203_21, r203_22, r203_23, r203_26, r203_29, r203_30, cs_nil, cs_cons, lc_lt, lc_ge, lc_gt, lc_le, lc_eq, a2, q, ln_341, le_T, lt_T, le_F, lt_F]
      · simpa (disch := omega) [r203_3, r203_4, r203_7, r203_10, r203_11, r203_14, r203_15, r203_16, r203_18, r203_21, r203_22, r203_23, r203_26, r203_29, r203_30, cs_nil, cs_cons, lc_lt, lc_ge, lc_gt, lc_le, lc_eq, a2, q, ln_341, am_wid2, le_T, lt_T, le_F, lt_F] using ih'
  apply aw_det
  have := key w.toNat 0 (by omega) (by omega)
  simpa [q203, r203_0, r203_1, cs_nil, cs_cons, lc_lt, lc_ge, lc_gt, lc_le, lc_eq] using this
theorem m_hasN (h : RW f S C) (hS : opl S) : aw_cl d 203 [(110, 270)] f Q = Q (0, 0) f := by
  obtain ⟨⟨a1, a2⟩, ⟨b1, b2⟩, ⟨c1, c2⟩, e⟩ := h
  have na := pl_all (P := fun x => ¬ x = 25) S c1 (fun x hx => by rcases hS x hx with q | q <;> omega)
  have e' : (S.length : Int) ≤ 1600 := by omega
  have v0 : 0 ≤ (S.length : Int) := by omega
  clear c1 e hS
  generalize (S.length : Int) = w at na b1 e' v0
  have key : ∀ (j : Nat) (i : Int), i + j = w → 0 ≤ i → aw_wp d 203 2 [(110, 270), (0, i)] [] f (fun v g => v = (0, 0) ∧ g = f) := by
    intro j
    induction j with
    | zero =>
      intro i hi i0
      have : i = w := by omega
      subst this
      rw [r203_2]
      simp (disch := omega) [r203_3, r203_4, r203_7, r203_10, r203_11, r203_14, r203_15, r203_16, r203_18, r203_21, r203_22, r203_23, r203_26, r203_29, r203_30, cs_nil, cs_cons, lc_lt, lc_ge, lc_gt, lc_le, lc_eq, b1, le_T, lt_T, le_F, lt_F]
    | succ j ih =>
      intro i hi i0
      have ih' := ih (i + 1) (by omega) (by omega)
      have q := na i i0 (by omega)
      rw [r203_2]
      simpa (disch := omega) [r203_3, r203_4, r203_7, r203_10, r203_11, r203_14, r203_15, r203_16, r203_18, r203_21, r203_22, r203_23, r203_26, r203_29, r203_30, cs_nil, cs_cons, lc_lt, lc_ge, lc_gt, lc_le, lc_eq, a2, b1, q, ln_341, am_wid2, le_T, lt_T, le_F, lt_F] using ih'
  apply aw_det
  have := key w.toNat 0 (by omega) (by omega)
  simpa [q203, r203_0, r203_1, cs_nil, cs_cons, lc_lt, lc_ge, lc_gt, lc_le, lc_eq] using this
theorem h_head1 (hN : N ≤ 1600) (hM : MS f B N κ p o b W C) (hc : ¬ isg B N p 93 = true) (hn : aw_wp (d + 8) 202 76 [(110, 270)] [] (am_up f 270 2 (tS B N p)) Q) : aw_wp (d + 8) 202 0 [(110, 270)] [] f Q := by
  have hb := hM.2.2.1.1
  have lo := fun (dd : Nat) (QQ : am_V → am_F → Prop) => m_look (d := dd) (Q := QQ) hM.1 hN hM.2.2.2.2.1.1 hM.2.2.2.2.1.2.1 hM.2.1.1
  have e93 : ¬ lk B N p = 93 := fun q => hc ((lk_s (by decide) (by omega)).mp q)
  rw [r202_0]
  simpa [r202_1, r202_4, r202_7, r202_8, r202_11, r202_13, cs_nil, cs_cons, lc_lt, lc_ge, lc_gt, lc_le, lc_eq, hb, lo, e93] using hn
theorem h_head2 (hN : N ≤ 1600) (hM : MS f B N κ p o b S C) (hS : opl S) (hn : aw_wp (d + 8) 202 76 [(110, 270)] [] (am_up f 270 2 (tS B N p)) Q) : aw_wp (d + 8) 202 0 [(110, 270)] [] f Q := by
  by_cases hc : isg B N p 93 = true
  · have hb := hM.2.2.1.1
    have lo := fun (dd : Nat) (QQ : am_V → am_F → Prop) => m_look (d := dd) (Q := QQ) hM.1 hN hM.2.2.2.2.1.1 hM.2.2.2.2.1.2.1 hM.2.1.1
    have e93 : lk B N p = 93 := (lk_s (by decide) (by omega)).mpr hc
    have hs := fun (dd : Nat) (QQ : am_V → am_F → Prop) => m_hasN (d := dd) (Q := QQ) (MS_at hM).1.2.2.2.1 hS
    rw [r202_0]
    simpa [r202_1, r202_4, r202_7, r202_8, r202_11, r202_13, r202_16, r202_17, r202_20, cs_nil, cs_cons, lc_lt, lc_ge, lc_gt, lc_le, lc_eq, hb, lo, e93, hs] using hn
  · exact h_head1 hN hM hc hn
/-- neither and nor or -/
theorem h_none (hN : N ≤ 1600) (hM : MS f B N κ p o b W C) (hA : f 270 2 = tS B N p) (h1 : ¬ tW B N p = 23) (h2 : ¬ tW B N p = 22) (hn : aw_wp (d + 8) 202 185 [(110, 270)] [] f Q) : aw_wp (d + 8) 202 76 [(110, 270)] [] f Q := by
  obtain ⟨hX, hP, ⟨h5, h50, h95, h96⟩, hR, hp, hoo, hW⟩ := id hM
  have ea := fun (dd : Nat) (QQ : am_V → am_F → Prop) => m_eatsN (d := dd) (Q := QQ) hX hN hp.1 hp.2.1 hP h5 (hw_of hX.1.2 (q := (324, 23)) (by decide)) h1
  have eo := fun (dd : Nat) (QQ : am_V → am_F → Prop) => m_eatsN (d := dd) (Q := QQ) hX hN hp.1 hp.2.1 hP h5 (hw_of hX.1.2 (q := (325, 22)) (by decide)) h2
  have ui : am_up f 270 2 (tS B N p) = f := by rw [← hA, am_ui]
  simp only [ui] at ea eo
  simpa [r202_76, r202_77, r202_78, r202_81, r202_84, cs_nil, cs_cons, lc_lt, lc_ge, lc_gt, lc_le, lc_eq, r202_126, r202_127, r202_128, r202_131, r202_134, fx_270_75 hX.1.1, fx_270_76 hX.1.1, ea, eo] using hn
theorem h_sq (hN : N ≤ 1600) (hc : isg B N p 93 = true) (hS : opl S) (hn : pend 12 (tH d f0 B N κ Q) (tE B N p) W (o - 1) (C ++ S)) : tH d f0 B N κ Q p o (S ++ 25 :: W) C := by
  intro g x h0 hM hw
  obtain ⟨hX, hP, ⟨h5, h50, h95, h96⟩, hR, hp, hoo, hW⟩ := id hM
  have lo := fun (dd : Nat) (QQ : am_V → am_F → Prop) => m_look (d := dd) (Q := QQ) hX hN hp.1 hp.2.1 hP.1
  have e93 : lk B N p = 93 := (lk_s (by decide) (by omega)).mpr hc
  have ie := isg_E hc
  have gb := isg_b hp.2.1 hc
  have hs := tS_b (B := B) hp.2.1
  have hq := fun (dd : Nat) (QQ : am_V → am_F → Prop) => m_hasY (d := dd) (Q := QQ) (MS_at hM).1.2.2.2.1
  have hR2 : RW (am_up g 270 2 (tE B N p)) (S ++ 25 :: W) C := RW_fr hR (fun c j hc => am_un (by omega))
  have ew : am_wI (tS B N p + 1) = tE B N p := by rw [am_wid2 (by omega) (by omega)]; omega
  have at33 : aw_wp (d + 8) 202 33 [(110, 270)] [] (am_up g 270 2 (tE B N p)) (k98 d x Q) := by
    refine d_drop (ok := fun x => x = 10 ∨ x = 11) (V := 25 :: W) (f0 := am_up g 270 2 (tE B N p)) ?_ S C _ hS hR2 (fun _ _ _ => rfl) ?_
    · intro z S' C' g' hz hr _ hx
      have on := fun (dd : Nat) (QQ : am_V → am_F → Prop) => m_isOn (d := dd) (Q := QQ) (x := 25) hr (by omega)
      have md := fun (dd : Nat) (QQ : am_V → am_F → Prop) => m_drops (d := dd) (Q := QQ) hr
      have nz : ¬ z = 25 := by omega
      rw [List.headD_cons] at on
      generalize ((S' ++ 25 :: W).length : Int) = w at md hx
      rw [r202_33]
      simpa [r202_34, r202_36, r202_39, r202_42, r202_43, r202_46, cs_nil, cs_cons, lc_lt, lc_ge, lc_gt, lc_le, lc_eq, on, nz, md] using hx
    · intro g3 r3 d3
      have f3 : ∀ c j : Int, ¬ ((c = 270 ∧ (j = 92 ∨ j = 94 ∨ j = 2)) ∨ c = 340) → g3 c j = g c j := fun c j hc => by rw [d3 c j (by omega), am_un (by omega)]
      have on := fun (dd : Nat) (QQ : am_V → am_F → Prop) => m_isOn (d := dd) (Q := QQ) (x := 25) r3 (by omega)
      rw [List.headD_cons] at on
      obtain ⟨⟨a1, a2⟩, ⟨b1, b2⟩, ⟨c1, c2⟩, e⟩ := id r3
      have b1' : g3 270 94 = (W.length : Int) + 1 := by rw [b1]; simp
      have o3 : g3 270 95 = o := (f3 _ _ (by omega)).trans h95
      have lp : (W.length : Int) + 1 + (C ++ S).length ≤ p := by have := hp.2.2; simp at this ⊢; omega
      have hF : ∀ c j : Int, ¬ ((c = 270 ∧ (j = 92 ∨ j = 94 ∨ j = 2 ∨ j = 95)) ∨ c = 340) → am_up (am_up g3 270 94 W.length) 270 95 (o - 1) c j = g c j := fun c j hc => by rw [am_un (by omega), am_un (by omega), f3 c j (by omega)]
      have gp : gP g (am_up (am_up g3 270 94 W.length) 270 95 (o - 1)) := fun c j hc => hF c j (by omega)
      have r4 : RW (am_up (am_up g3 270 94 W.length) 270 95 (o - 1)) W (C ++ S) := by
        refine ⟨⟨?_, ?_⟩, ⟨?_, ?_⟩, ⟨pl_fr W (fun j _ _ => by rw [am_un (by omega), am_un (by omega)]) c1.2, al_fr _ 0 (fun j _ _ => by rw [am_un (by omega), am_un (by omega)]) c2⟩, by omega⟩
        · rw [am_un (by omega), am_un (by omega)]; exact a1
        · rw [am_un (by omega), am_un (by omega)]; exact a2
        · rw [am_un (by omega), am_ue]
        · rw [am_un (by omega), am_un (by omega)]; exact b2
      have hM2 : MS (am_up (am_up g3 270 94 W.length) 270 95 (o - 1)) B N κ (tE B N p) (o - 1) 0 W (C ++ S) := by
        refine MS_mk hM gp (PP_sign hP hc hp.1 hp.2.1 (by rw [am_un (by omega), am_un (by omega), d3 _ _ (by omega), am_ue]) (hF _ _ (by omega))) ((hF _ _ (by omega)).trans h5) am_ue ((hF _ _ (by omega)).trans h96) r4 ⟨by omega, gb.2, by omega⟩ ⟨?_, by omega⟩ (fun z hz => hW z (List.mem_append_right _ (List.mem_cons_of_mem _ hz)))
        rw [List.length_append]; omega
      have := m_nots (d := d + 5) (Q := fun v f' => aw_wp (d + 8) 202 73 [(110, 270)] (if v.fst = 3 then [] else [v]) f' (k98 d x Q)) hN W _ (o - 1) _ hn hM2 (fun z hz => hw z (List.mem_append_right _ (List.mem_cons_of_mem _ hz))) (fun g2 o' W' C' hH hM3 hw3 gp3 => by
        have hs := hH g2 x (gP_tr h0 (gP_tr gp gp3)) hM3 hw3
        simpa [r202_73] using hs)
      have l1 : (W.length : Int) + 1 ≤ 1600 := by omega
      have l0 : 0 ≤ (W.length : Int) := by omega
      have o1 : -3200 ≤ o ∧ o ≤ 6 := by omega
      clear hM2 r4 gp hF lp b1 c1 e hn r3
      generalize (W.length : Int) = w at *
      have ew2 : w + 1 - 1 = w := by omega
      rw [r202_33]
      simpa (disch := omega) [r202_34, r202_36, r202_39, cs_nil, cs_cons, lc_lt, lc_ge, lc_gt, lc_le, lc_eq, r202_49, r202_50, r202_51, r202_54, r202_55, r202_56, r202_59, r202_60, r202_61, r202_64, r202_65, r202_66, r202_69, r202_70, q201, on, b1', o3, ew2, am_un, am_ue, am_wid2] using this
  rw [r202_0]
  simpa [r202_1, r202_4, r202_7, r202_8, r202_11, r202_13, r202_16, r202_17, r202_20, r202_23, r202_24, r202_25, r202_28, r202_29, r202_30, cs_nil, cs_cons, lc_lt, lc_ge, lc_gt, lc_le, lc_eq, h5, lo, e93, hq, ew, am_ue, am_uu] using at33
/-- a joining word is pushed -/
theorem h_push (hN : N ≤ 1600) {y : Int} {x : am_V} (h0 : gP f0 g) (hM : MS g B N κ p o 0 (S ++ V) C) (hw : wbl (S ++ V)) (hy : y = 10 ∨ y = 11) (hc : ¬ tW B N p = -1) (hn : tT d f0 B N κ Q (tE B N p) o (y :: V) (C ++ S)) {h : am_F} (hR : RW h V (C ++ S)) (hf : ∀ c j : Int, ¬ ((c = 270 ∧ (j = 92 ∨ j = 94 ∨ j = 2 ∨ j = 4)) ∨ c = 340) → h c j = g c j) (h2 : h 270 2 = tE B N p) (h4 : h 270 4 = tE B N p) : k98 d x Q (0, 1) (am_up (am_up h 341 V.length y) 270 94 (V.length + 1)) := by
  obtain ⟨hX, hP, ⟨h5, h50, h95, h96⟩, hRg, hp, hoo, hW⟩ := id hM
  have gb := tW_b hp.2.1 hc
  have k1 := tW_k hc
  have lp : (V.length : Int) + (C ++ S).length ≤ p := by have := hp.2.2; simp at this ⊢; omega
  have hF : ∀ c j : Int, ¬ ((c = 270 ∧ (j = 92 ∨ j = 94 ∨ j = 2 ∨ j = 4)) ∨ c = 340 ∨ c = 341) → am_up (am_up h 341 V.length y) 270 94 (V.length + 1) c j = g c j := fun c j hc => by rw [am_un (by omega), am_un (by omega), hf c j (by omega)]
  have gp : gP g (am_up (am_up h 341 V.length y) 270 94 (V.length + 1)) := fun c j hc => hF c j (by omega)
  have hM2 : MS (am_up (am_up h 341 V.length y) 270 94 (V.length + 1)) B N κ (tE B N p) o 0 (y :: V) (C ++ S) := by
    refine MS_mk hM gp (PP_word (Or.inl rfl) k1 hp.1 hp.2.1 (by rw [am_un (by omega), am_un (by omega), h2]) (by rw [am_un (by omega), am_un (by omega), h4])) ((hF _ _ (by omega)).trans h5) ((hF _ _ (by omega)).trans h95) ((hF _ _ (by omega)).trans h96) (RW_P hR (by omega)) ⟨by omega, gb.2, ?_⟩ ⟨?_, hoo.2⟩ (fun z hz => ?_)
    · rw [List.length_cons]; omega
    · rw [List.length_append]; omega
    · rw [List.mem_cons] at hz
      rcases hz with e | e
      · omega
      · exact hW z (List.mem_append_right _ e)
  exact t_on (hn _ x (gP_tr h0 gp) hM2 (fun z hz => by
    rw [List.mem_cons] at hz
    rcases hz with e | e
    · omega
    · exact hw z (List.mem_append_right _ e)))
theorem h_and (hN : N ≤ 1600) (ha : tW B N p = 23) (hS : opa S) (hV : ¬ V.headD 0 = 10) (hn : tT d f0 B N κ Q (tE B N p) o (10 :: V) (C ++ S)) : tH d f0 B N κ Q p o (S ++ V) C := by
  intro g x h0 hM hw
  have k1 := tW_k (B := B) (N := N) (p := p) (by omega)
  refine h_head1 hN hM (fun q => by have := (isg_k q).1; omega) ?_
  obtain ⟨hM1, hA⟩ := MS_at hM
  obtain ⟨hX, hP, ⟨h5, h50, h95, h96⟩, hR, hp, hoo, hW⟩ := id hM1
  have ea := fun (dd : Nat) (QQ : am_V → am_F → Prop) => m_eatsY (d := dd) (Q := QQ) hX hN hp.1 hp.2.1 hP h5 (hw_of hX.1.2 (q := (324, 23)) (by decide)) ha
  simp only [am_uu] at ea
  have hR2 : RW (am_up (am_up g 270 2 (tE B N p)) 270 4 (tE B N p)) (S ++ V) C := RW_fr hM.2.2.2.1 (fun c j hc => by rw [am_un (by omega), am_un (by omega)])
  have at87 : aw_wp (d + 8) 202 87 [(110, 270)] [] (am_up (am_up g 270 2 (tE B N p)) 270 4 (tE B N p)) (k98 d x Q) := by
    refine d_drop (ok := fun x => x = 10) (V := V) (f0 := am_up (am_up g 270 2 (tE B N p)) 270 4 (tE B N p)) ?_ S C _ hS hR2 (fun _ _ _ => rfl) ?_
    · intro z S' C' g' hz hr _ hx
      have on := fun (dd : Nat) (QQ : am_V → am_F → Prop) => m_isOn (d := dd) (Q := QQ) (x := 10) hr (by omega)
      have md := fun (dd : Nat) (QQ : am_V → am_F → Prop) => m_drops (d := dd) (Q := QQ) hr
      rw [List.headD_cons] at on
      generalize ((S' ++ V).length : Int) = w at md hx
      rw [r202_87]
      simpa [r202_88, r202_90, r202_93, r202_96, r202_97, r202_100, cs_nil, cs_cons, lc_lt, lc_ge, lc_gt, lc_le, lc_eq, on, hz, md] using hx
    · intro h hr hd
      have on := fun (dd : Nat) (QQ : am_V → am_F → Prop) => m_isOn (d := dd) (Q := QQ) (x := 10) hr (by omega)
      simp only [if_neg hV] at on
      have := h_push hN (x := x) h0 hM hw (Or.inl rfl) (by omega) hn hr (fun c j hc => by rw [hd c j (by omega), am_un (by omega), am_un (by omega)]) (by rw [hd _ _ (by omega), am_un (by omega), am_ue]) (by rw [hd _ _ (by omega), am_ue])
      obtain ⟨⟨a1, a2⟩, ⟨b1, b2⟩, _, e⟩ := hr
      have w0 : 0 ≤ (V.length : Int) := by omega
      have c0 : 0 ≤ ((C ++ S).length : Int) := by omega
      generalize (V.length : Int) = w at b1 e this w0
      rw [r202_87]
      simpa (disch := omega) [r202_88, r202_90, r202_93, cs_nil, cs_cons, lc_lt, lc_ge, lc_gt, lc_le, lc_eq, r202_103, r202_104, r202_107, r202_108, r202_111, r202_113, r202_114, r202_115, r202_116, r202_119, r202_120, r202_121, r202_124, r202_125, on, a2, b1, ln_341, am_un, am_ue, am_wid2, am_fitE, le_T, lt_T] using this
  simpa [r202_76, r202_77, r202_78, r202_81, r202_84, cs_nil, cs_cons, lc_lt, lc_ge, lc_gt, lc_le, lc_eq, fx_270_75 hX.1.1, ea] using at87
theorem h_or (hN : N ≤ 1600) (ha : tW B N p = 22) (hS : opl S) (hV : ¬ (V.headD 0 = 10 ∨ V.headD 0 = 11)) (hn : tT d f0 B N κ Q (tE B N p) o (11 :: V) (C ++ S)) : tH d f0 B N κ Q p o (S ++ V) C := by
  intro g x h0 hM hw
  have k1 := tW_k (B := B) (N := N) (p := p) (by omega)
  refine h_head1 hN hM (fun q => by have := (isg_k q).1; omega) ?_
  obtain ⟨hM1, hA⟩ := MS_at hM
  obtain ⟨hX, hP, ⟨h5, h50, h95, h96⟩, hR, hp, hoo, hW⟩ := id hM1
  have ea := fun (dd : Nat) (QQ : am_V → am_F → Prop) => m_eatsN (d := dd) (Q := QQ) hX hN hp.1 hp.2.1 hP h5 (hw_of hX.1.2 (q := (324, 23)) (by decide)) (by omega)
  have eo := fun (dd : Nat) (QQ : am_V → am_F → Prop) => m_eatsY (d := dd) (Q := QQ) hX hN hp.1 hp.2.1 hP h5 (hw_of hX.1.2 (q := (325, 22)) (by decide)) ha
  simp only [am_uu] at ea eo
  have hR2 : RW (am_up (am_up g 270 2 (tE B N p)) 270 4 (tE B N p)) (S ++ V) C := RW_fr hM.2.2.2.1 (fun c j hc => by rw [am_un (by omega), am_un (by omega)])
  have at137 : aw_wp (d + 8) 202 137 [(110, 270)] [] (am_up (am_up g 270 2 (tE B N p)) 270 4 (tE B N p)) (k98 d x Q) := by
    refine d_drop (ok := fun x => x = 10 ∨ x = 11) (V := V) (f0 := am_up (am_up g 270 2 (tE B N p)) 270 4 (tE B N p)) ?_ S C _ hS hR2 (fun _ _ _ => rfl) ?_
    · intro z S' C' g' hz hr _ hx
      have on := fun (dd : Nat) (QQ : am_V → am_F → Prop) => m_isOn (d := dd) (Q := QQ) (x := 10) hr (by omega)
      have on1 := fun (dd : Nat) (QQ : am_V → am_F → Prop) => m_isOn (d := dd) (Q := QQ) (x := 11) hr (by omega)
      have md := fun (dd : Nat) (QQ : am_V → am_F → Prop) => m_drops (d := dd) (Q := QQ) hr
      rw [List.headD_cons] at on on1
      generalize ((S' ++ V).length : Int) = w at md hx
      rw [r202_137]
      rcases hz with e | e
      · rw [e] at on md hx
        simpa [r202_138, r202_140, r202_143, r202_146, r202_147, r202_149, r202_152, r202_155, r202_156, r202_159, cs_nil, cs_cons, lc_lt, lc_ge, lc_gt, lc_le, lc_eq, on, md] using hx
      · rw [e] at on on1 md hx
        simpa [r202_138, r202_140, r202_143, r202_146, r202_147, r202_149, r202_152, r202_155, r202_156, r202_159, cs_nil, cs_cons, lc_lt, lc_ge, lc_gt, lc_le, lc_eq, on, on1, md] using hx
    · intro h hr hd
      have on := fun (dd : Nat) (QQ : am_V → am_F → Prop) => m_isOn (d := dd) (Q := QQ) (x := 10) hr (by omega)
      have on1 := fun (dd : Nat) (QQ : am_V → am_F → Prop) => m_isOn (d := dd) (Q := QQ) (x := 11) hr (by omega)
      simp only [if_neg (fun q => hV (Or.inl q))] at on
      simp only [if_neg (fun q => hV (Or.inr q))] at on1
      have := h_push hN (x := x) h0 hM hw (Or.inr rfl) (by omega) hn hr (fun c j hc => by rw [hd c j (by omega), am_un (by omega), am_un (by omega)]) (by rw [hd _ _ (by omega), am_un (by omega), am_ue]) (by rw [hd _ _ (by omega), am_ue])
      obtain ⟨⟨a1, a2⟩, ⟨b1, b2⟩, _, e⟩ := hr
      have w0 : 0 ≤ (V.length : Int) := by omega
      have c0 : 0 ≤ ((C ++ S).length : Int) := by omega
      generalize (V.length : Int) = w at b1 e this w0
      rw [r202_137]
      simpa (disch := omega) [r202_138, r202_140, r202_143, r202_146, r202_147, r202_149, r202_152, cs_nil, cs_cons, lc_lt, lc_ge, lc_gt, lc_le, lc_eq, r202_162, r202_163, r202_166, r202_167, r202_170, r202_172, r202_173, r202_174, r202_175, r202_178, r202_179, r202_180, r202_183, r202_184, on, on1, a2, b1, ln_341, am_un, am_ue, am_wid2, am_fitE, le_T, lt_T] using this
  simpa [r202_76, r202_77, r202_78, r202_81, r202_84, cs_nil, cs_cons, lc_lt, lc_ge, lc_gt, lc_le, lc_eq, r202_126, r202_127, r202_128, r202_131, r202_134, fx_270_75 hX.1.1, fx_270_76 hX.1.1, ea, eo] using at137
theorem h_sqF (hN : N ≤ 1600) (hc : ¬ isg B N p 93 = true) (h1 : ¬ tW B N p = 23) (h2 : ¬ tW B N p = 22) (hS : opl S) (hf : tF f0 Q 1 (tS B N p)) : tH d f0 B N κ Q p o (S ++ 25 :: W) C := by
  intro g x h0 hM hw
  refine h_head1 hN hM hc ?_
  obtain ⟨hM1, hA⟩ := MS_at hM
  refine h_none hN hM1 hA h1 h2 ?_
  obtain ⟨hX, hP, ⟨h5, h50, h95, h96⟩, hR, hp, hoo, hW⟩ := id hM1
  have hq := fun (dd : Nat) (QQ : am_V → am_F → Prop) => m_hasY (d := dd) (Q := QQ) hR
  have mf := fun (dd : Nat) (QQ : am_V → am_F → Prop) (k q : Int) => m_fail (d := dd) (Q := QQ) (k := k) (q := q) h5
  have b2 := hM.2.2.2.1.2.1.2
  have bd : ¬ (am_up (am_up (am_up g 270 2 (tS B N p)) 270 5 1) 270 6 (tS B N p)) 270 5 = 0 := by rw [am_un (by omega), am_ue]; decide
  have fin := t_off (x := x) (t_bad (d := d) (m := 0) (x := x) bd (hf _ (gPw_tr h0 (gPw_up (gPw_up (gPw_up gPw_rf (by omega)) (by omega)) (by omega))) (by rw [am_un (by omega), am_ue]) am_ue (by rw [am_un (by omega), am_un (by omega), am_un (by omega), b2]; omega)))
  simpa [r202_185, r202_186, r202_189, r202_192, r202_193, r202_196, r202_199, r202_200, r202_201, r202_202, r202_205, r202_208, r202_209, cs_nil, cs_cons, lc_lt, lc_ge, lc_gt, lc_le, lc_eq, h5, hq, hA, mf] using fin
theorem h_end (hN : N ≤ 1600) (h1 : ¬ tW B N p = 23) (h2 : ¬ tW B N p = 22) (hS : opl S) (hx : tX f0 B N κ Q p o (C ++ S)) : tH d f0 B N κ Q p o S C := by
  intro g x h0 hM hw
  refine h_head2 hN hM hS ?_
  obtain ⟨hM1, hA⟩ := MS_at hM
  refine h_none hN hM1 hA h1 h2 ?_
  obtain ⟨hX, hP, ⟨h5, h50, h95, h96⟩, hR, hp, hoo, hW⟩ := id hM1
  have hq := fun (dd : Nat) (QQ : am_V → am_F → Prop) => m_hasN (d := dd) (Q := QQ) hR hS
  obtain ⟨t, v⟩ := x
  have hR' : RW (am_up g 270 2 (tS B N p)) (S ++ []) C := by rw [List.append_nil]; exact hR
  have at110 : aw_wp (d + 9) 182 110 [(110, 270), (0, 0), (t, v)] [] (am_up g 270 2 (tS B N p)) Q := by
    refine d_drop (ok := fun x => x = 10 ∨ x = 11) (V := []) (f0 := am_up g 270 2 (tS B N p)) ?_ S C _ hS hR' (fun _ _ _ => rfl) ?_
    · intro z S' C' g' hz hr hd hx
      have md := fun (dd : Nat) (QQ : am_V → am_F → Prop) => m_drops (d := dd) (Q := QQ) hr
      have g5 : g' 270 5 = 0 := (hd _ _ (by omega)).trans h5
      have b1 : g' 270 94 = ((S' ++ []).length : Int) + 1 := by rw [hr.2.1.1]; simp
      have wb : 0 ≤ ((S' ++ []).length : Int) := by omega
      generalize ((S' ++ []).length : Int) = w at md hx b1 wb
      rw [r182_110]
      simpa (disch := omega) [r182_111, r182_114, r182_117, r182_118, r182_121, r182_124, r182_125, r182_128, cs_nil, cs_cons, lc_lt, lc_ge, lc_gt, lc_le, lc_eq, g5, b1, md, le_T, lt_T, le_F, lt_F] using hx
    · intro g3 r3 d3
      have g5 : g3 270 5 = 0 := (d3 _ _ (by omega)).trans h5
      have b1 : g3 270 94 = 0 := r3.2.1.1
      have f3 : ∀ c j : Int, ¬ ((c = 270 ∧ (j = 92 ∨ j = 94 ∨ j = 2)) ∨ c = 340) → g3 c j = g c j := fun c j hc => by rw [d3 c j (by omega), am_un (by omega)]
      have gp : gP g g3 := fun c j hc => f3 c j (by omega)
      have lp : ((C ++ S).length : Int) ≤ p := by have := hp.2.2; simp at this ⊢; omega
      have := hx g3 (gP_tr h0 gp) (MS_mk hM gp (by
        have := PP_look hM.2.1 hp.2.1
        obtain ⟨p1, p2, p3⟩ := this
        have q2 : g3 270 2 = am_up g 270 2 (tS B N p) 270 2 := d3 _ _ (by omega)
        have q4 : g3 270 4 = am_up g 270 2 (tS B N p) 270 4 := d3 _ _ (by omega)
        exact ⟨by rw [q2]; exact p1, by rw [q4]; exact p2, by rw [q4]; exact p3⟩) ((f3 _ _ (by omega)).trans hM.2.2.1.1) ((f3 _ _ (by omega)).trans hM.2.2.1.2.2.1) ((f3 _ _ (by omega)).trans hM.2.2.1.2.2.2) r3 ⟨hp.1, hp.2.1, by simp only [List.length_nil]; omega⟩ ⟨by rw [List.length_append]; omega, hoo.2⟩ (fun z hz => by cases hz))
      rw [r182_110]
      simpa (disch := omega) [r182_111, r182_114, r182_117, r182_118, r182_121, r182_124, r182_125, r182_128, r182_131, cs_nil, cs_cons, lc_lt, lc_ge, lc_gt, lc_le, lc_eq, g5, b1, le_T, lt_T, le_F, lt_F] using this
  have h2' : aw_wp (d + 9) 182 2 [(110, 270), (0, 0), (t, v)] [] (am_up g 270 2 (tS B N p)) Q := by
    rw [r182_2]
    simpa [r182_3, cs_nil, cs_cons, lc_lt, lc_ge, lc_gt, lc_le, lc_eq] using at110
  have := t_off h2'
  simpa [r202_185, r202_186, r202_189, r202_192, r202_193, r202_196, r202_199, r202_200, r202_201, r202_202, r202_205, r202_208, r202_209, cs_nil, cs_cons, lc_lt, lc_ge, lc_gt, lc_le, lc_eq, h5, hq] using this
theorem t_TM (hN : N ≤ 1600) (κ0 : 0 ≤ κ ∧ κ ≤ 3) : TM B N κ (tT d f0 B N κ Q) (tH d f0 B N κ Q) (tF f0 Q) (tX f0 B N κ Q) :=
  ⟨fun _ _ _ _ a b c => t_sq hN a b c, fun _ _ _ _ a b c => t_sqF hN a b c, fun _ _ _ _ a b c => t_not hN a b c, fun _ _ _ _ a b c => t_notF hN a b c, fun _ _ _ _ a b => t_all hN a b, fun _ _ _ _ _ _ a b c e h => t_cmp hN κ0 a b c e h, fun _ _ _ _ _ a b c => h_sq hN a b c, fun _ _ _ _ _ a b c e => h_and hN a b c e, fun _ _ _ _ _ a b c e => h_or hN a b c e, fun _ _ _ _ _ a b c e h => h_sqF hN a b c e h, fun _ _ _ _ a b c e => h_end hN a b c e⟩
/-- the model reads a test -/
theorem m_test {k : Nat} {r : RR} (hN : N ≤ 1600) (κ0 : 0 ≤ κ ∧ κ ≤ 3) (h : rd B N κ k 9 p o = some r) (hM : MS f B N κ p o 0 [] C) (hr : PR (tF f Q) r (fun p' cs => tX f B N κ Q p' o (C ++ cs))) : aw_cl (d + 9) 182 [(110, 270)] f Q := by
  have := tm_test (t_TM (d := d) (f0 := f) (Q := Q) hN κ0) (C := C) h hr f (2, 0) gP_rf hM (fun z hz => by cases hz)
  simpa [q182, r182_0, r182_1, cs_nil, cs_cons, lc_lt, lc_ge, lc_gt, lc_le, lc_eq] using this
end
