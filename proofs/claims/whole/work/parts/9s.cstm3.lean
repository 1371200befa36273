/-! islands: the one side reads rules, trials; all statements -/
section
variable {d : Nat} {f g : am_F} {B : Int → Int} {N p l sz : Int} {Q : am_V → am_F → Prop} {I : IS}
theorem c_uopen {w : Int} (hl : l = 1 ∨ l = 20) (hs : sL f l) (w0 : 0 ≤ w) (w1 : w < 10) : aw_cl d 38 [(106, l + 9), (0, w)] f Q = Q (3, 0) (am_up f (l + 11) w (f (l + 9) 3)) := by
  apply aw_det
  simp (disch := omega) [q38, r38_0, r38_1, r38_4, r38_5, r38_6, r38_9, r38_10, cs_nil, cs_cons, lc_lt, lc_ge, lc_gt, lc_le, lc_eq, sl_f hs, sl_n hl, am_fitE, le_T, lt_T]
theorem c_uclose {w : Int} (hl : l = 1 ∨ l = 20) (hs : sL f l) (w0 : 0 ≤ w) (w1 : w < 10) : aw_cl d 52 [(106, l + 9), (0, w)] f Q = Q (0, 1) (am_up f (l + 12) w (f (l + 9) 3)) := by
  apply aw_det
  simp (disch := omega) [q52, r52_0, r52_1, r52_4, r52_5, r52_6, r52_9, r52_10, r52_11, cs_nil, cs_cons, lc_lt, lc_ge, lc_gt, lc_le, lc_eq, sl_f hs, sl_n hl, am_fitE, le_T, lt_T]
theorem c_utold {w : Int} (hI : CI f l I sz) (hp : PI I) (w0 : 0 ≤ w) (w1 : w < 5) : aw_cl d 54 [(106, l + 9), (0, cr w)] f Q = Q (0, if I.2.2.2.1 w = true then 1 else 0) f := by
  have hl := hI.2.1
  have crb := cr_b w0 (show w < 10 by omega)
  apply aw_det
  by_cases ht : I.2.2.2.1 w = true
  · obtain ⟨k0, a, b, c, e, _⟩ := hI.2.2.2.2.2.2.1 w w0 (by omega) ht
    have len := (hp.2.2.2.1 w w0 (by omega) ht).1
    have hh : ¬ f (l + 12) (cr w) ≤ f (l + 11) (cr w) := by rw [a, b]; omega
    have hh2 : f (l + 11) (cr w) < f (l + 12) (cr w) := by omega
    clear a b c e len
    simp (disch := omega) [q54, r54_0, r54_1, r54_4, r54_5, r54_6, r54_7, r54_10, r54_11, r54_12, r54_15, r54_16, r54_19, r54_20, cs_nil, cs_cons, lc_lt, lc_ge, lc_gt, lc_le, lc_eq, sl_f hI.1, sl_n hl, ht, hh2, le_T, lt_T, le_F, lt_F]
  · obtain ⟨a, b⟩ := hI.2.2.2.2.2.2.2.1 w w0 w1 ht
    simp (disch := omega) [q54, r54_0, r54_1, r54_4, r54_5, r54_6, r54_7, r54_10, r54_11, r54_12, r54_15, r54_16, r54_19, r54_20, cs_nil, cs_cons, lc_lt, lc_ge, lc_gt, lc_le, lc_eq, sl_f hI.1, sl_n hl, ht, a, b, le_T, lt_T]
theorem lvd_b (mode : Nat) : lvd mode ≤ 12 := by
  unfold lvd
  repeat' split
  all_goals omega
/-- a text of a rule is read -/
theorem c_text {w κ p3 : Int} {mode : Nat} (hN : N ≤ 1600) (hB : ∀ j, 0 ≤ B j ∧ B j ≤ 255) (hI : CI f l I sz) (w0 : 0 ≤ w) (w1 : w < 10) (T : CT g B N) (K : CK g B N p3) (p0 : 0 ≤ p3) (pN : p3 ≤ N) (hz : sz ≤ p3) (fr : ∀ c j : Int, ¬ ((c = 33 ∧ 3 ≤ j ∧ j ≤ 9) ∨ (c = l + 11 ∧ j = cr w)) → g c j = f c j) (e3 : g 33 3 = κ) (e2 : g 33 2 = l + 9) (e11 : g (l + 11) (cr w) = sz) {Q1 : am_V → am_F → Prop} (hF : ∀ k q, rK B N κ mode p3 = .inl (k, q) → ∀ h, h 33 11 = k → h 33 12 = q → fIw l g h → Q1 (0, 0) h) (hO : ∀ p4 cs, rK B N κ mode p3 = .inr (p4, cs) → ∀ h, CK h B N p4 → p3 < p4 → p4 ≤ N → (cs.length : Int) ≤ p4 - p3 → h (l + 9) 3 = sz + cs.length → al h (l + 10) cst sz cs → h (l + 11) (cr w) = sz → (∀ c j : Int, ¬ ((c = 33 ∧ 3 ≤ j ∧ j ≤ 9) ∨ (c = l + 9 ∧ j = 3) ∨ (c = l + 10 ∧ sz ≤ j) ∨ (c = l + 11 ∧ j = cr w)) → h c j = f c j) → Q1 (0, 1) h) (hm : mode = 9 ∨ mode = 4) : GC N p3 mode (d + 96) 0 g Q1 := by
  have lc := hI.2.1
  have hs9 := hI.2.2.2.2.2.2.2.2.1
  have s0 := hI.2.2.2.2.2.2.2.2.2
  have hr := rK_e (B := B) (κ := κ) hN p0 pN mode
  have U : CU g B N κ (l + 9) (l + 10) := ⟨T, ⟨e2, e3, by rw [fr _ _ (by omega)]; exact (sl_f hI.1).2.2.2.2.2.2.2.2.2.1⟩, by omega, by omega⟩
  refine c_rd hN hB 20000 mode p3 0 _ g sz Q1 (d + 96) hr U K (by rw [fr _ _ (by omega)]; exact hs9) s0 (by omega) p0 pN (by omega) (by omega) (by
    have := lvd_b mode
    have e6 : (6 - (0 : Int)).toNat = 6 := rfl
    rw [e6]; omega) ?_
  match hx : rK B N κ mode p3 with
  | .inl (k, q) =>
    intro h a b c
    exact hF k q hx h a b (fun c' j' hc' => c c' j' (by omega))
  | .inr (p4, cs) =>
    intro h a b c e
    rw [hx] at hr
    have ln := rd_len _ _ _ _ _ _ hr pN
    exact hO p4 cs hx h a (ln.2 (by omega)) ln.1.2.1 ln.1.2.2 b c (by rw [e _ _ (by omega)]; exact e11) (fun c' j' hc' => by rw [e c' j' (by omega)]; exact fr c' j' (by omega))
theorem c_sX (h : CT f B N) (hN : N ≤ 1600) (hB : ∀ j, 0 ≤ B j ∧ B j ≤ 255) (hK : CK f B N p) (h0 : 0 ≤ p) (h1 : p ≤ N) (hI : CI f l I sz) (hp : PI I) (hz : sz ≤ p) (h33 : f 33 1 = l) (h332 : f 33 2 = l + 9) (hw : ¬ tW B N p = -1) {w : Int} (w0 : 0 ≤ w) (w1 : w < 5) (hQ : SQ B N l f Q (sdX B N w I p)) {mi : Nat} (hmi : (wM w = 9 ∧ mi = 53) ∨ (wM w = 4 ∧ mi = 55)) : aw_cl (d + 97) mi [(104, 33), (0, cr w), (0, wK w)] f Q := by
  have lc : l = 1 ∨ l = 20 := hI.2.1
  have l9 : 0 ≤ l + 9 := by omega
  have gb := tW_b h1 hw
  have crb := cr_b w0 (show w < 10 by omega)
  have hs9 := hI.2.2.2.2.2.2.2.2.1
  unfold sdX at hQ
  have ut := fun (dd : Nat) (QQ : am_V → am_F → Prop) => c_utold (d := dd) (Q := QQ) hI hp w0 w1
  by_cases ht : I.2.2.2.1 w = true
  · rw [if_pos ht] at hQ
    have := hQ _ (by rw [am_un (by omega), am_ue]) am_ue (fIw_fl (k := 5) (q := tS B N p) (fun _ _ _ => rfl))
    rcases hmi with ⟨_, rfl⟩ | ⟨_, rfl⟩
    · simpa (disch := omega) [q53, r53_0, r53_1, r53_4, r53_5, r53_8, r53_11, r53_12, r53_13, r53_14, r53_17, r53_20, cs_nil, cs_cons, lc_lt, lc_ge, lc_gt, lc_le, lc_eq, h332, l9, ut, ht, hK.2.1, c_fail] using this
    · simpa (disch := omega) [q55, r55_0, r55_1, r55_4, r55_5, r55_8, r55_11, r55_12, r55_13, r55_14, r55_17, r55_20, cs_nil, cs_cons, lc_lt, lc_ge, lc_gt, lc_le, lc_eq, h332, l9, ut, ht, hK.2.1, c_fail] using this
  rw [if_neg ht] at hQ
  have s1 : sL (am_up f 33 3 (wK w)) l := sL_fr hI.1 (fun j _ _ => am_un (by omega)) (fun j _ _ => am_un (by omega))
  have uo := fun (dd : Nat) (QQ : am_V → am_F → Prop) => c_uopen (d := dd) (Q := QQ) (w := cr w) lc s1 crb.1 crb.2
  have e93 : (am_up f 33 3 (wK w)) (l + 9) 3 = sz := by rw [am_un (by omega)]; exact hs9
  simp only [e93] at uo
  have o2 : (am_up f 33 3 (wK w)) 33 2 = l + 9 := by rw [am_un (by omega)]; exact h332
  have fr1 : ∀ c j : Int, ¬ ((c = 33 ∧ j = 3) ∨ (c = l + 11 ∧ j = cr w)) → (am_up (am_up f 33 3 (wK w)) (l + 11) (cr w) sz) c j = f c j := fun c j hc => by rw [am_un (by omega), am_un (by omega)]
  have x3 : (am_up (am_up f 33 3 (wK w)) (l + 11) (cr w) sz) 33 3 = wK w := by rw [am_un (by omega), am_ue]
  have x11 : (am_up (am_up f 33 3 (wK w)) (l + 11) (cr w) sz) (l + 11) (cr w) = sz := am_ue
  have adv : ∀ (mode : Nat), (mode = 9 ∨ mode = 4) → wM w = mode → ∀ (Q0 : am_V → am_F → Prop), (∀ g2, (∀ Q1 : am_V → am_F → Prop, (∀ h, Q (0, 0) h → Q1 (0, 0) h) → (∀ h, aw_wp (d + 97) mi 49 [(104, 33), (0, cr w), (0, wK w)] [] h Q → Q1 (0, 1) h) → GC N (tE B N p) mode (d + 96) 0 g2 Q1) → Q0 (0, 1) g2) → aw_cl (d + 96) 20 [(104, 33)] (am_up (am_up f 33 3 (wK w)) (l + 11) (cr w) sz) Q0 := by
    intro mode hm hm2 Q0 hq0
    refine c_adv (CT_33 h (fun c j hc => fr1 c j (by omega))) hN hB (by rw [fr1 _ _ (by omega)]; exact hK.2.2.1) (by omega) gb.2 ?_
    intro g2 k2 fr2
    apply hq0
    intro Q1 y0 y1
    rw [hm2] at hQ
    have fa2 : ∀ c j : Int, ¬ ((c = 33 ∧ 3 ≤ j ∧ j ≤ 9) ∨ (c = l + 11 ∧ j = cr w)) → g2 c j = f c j := fun c j hc => by rw [fr2 _ _ (by omega), fr1 _ _ (by omega)]
    refine c_text (κ := wK w) hN hB hI w0 (by omega) (CT_33 h (fun c j hc => fa2 c j (by omega))) k2 (by omega) gb.2 (by omega) fa2 (by rw [fr2 _ _ (by omega)]; exact x3) (by rw [fa2 _ _ (by omega)]; exact h332) (by rw [fr2 _ _ (by omega)]; exact x11) ?_ ?_ hm
    · intro k q e hh a b c
      rw [e] at hQ
      exact y0 hh (hQ hh a b (fun c' j' hc' => by rw [c c' j' hc', fa2 c' j' (by omega)]))
    · intro p4 cs e hh k4 lt4 le4 len4 e9 ala e11 fr4
      rw [e] at hQ
      apply y1
      have s4 : sL hh l := sL_fr hI.1 (fun j _ _ => fr4 _ _ (by omega)) (fun j _ _ => fr4 _ _ (by omega))
      have uc := fun (dd : Nat) (QQ : am_V → am_F → Prop) => c_uclose (d := dd) (Q := QQ) (w := cr w) lc s4 crb.1 crb.2
      simp only [e9] at uc
      have o4 : hh 33 2 = l + 9 := by rw [fr4 _ _ (by omega)]; exact h332
      have := hQ (am_up hh (l + 12) (cr w) (sz + cs.length)) (sz + cs.length) (CK_fr k4 (fun j _ _ => am_un (by omega))) (CI_X hI w0 (by omega) (fun c j hc => by rw [am_un (by omega)]; exact fr4 c j (by omega)) (by rw [am_un (by omega)]; exact e11) am_ue (by rw [am_un (by omega)]; exact e9) (al_fr _ _ (fun j _ _ => am_un (by omega)) ala)) (by omega) (fun c j hc => by rw [am_un (by omega)]; exact fr4 c j (by omega))
      generalize sz + (cs.length : Int) = u at uc this
      rcases hmi with ⟨_, rfl⟩ | ⟨_, rfl⟩
      · simpa [r53_49, r53_50, r53_53, r53_54, r53_57, r53_60, r53_61, r53_64, r53_65, cs_nil, cs_cons, lc_lt, lc_ge, lc_gt, lc_le, lc_eq, o4, l9, uc] using this
      · simpa [r55_49, r55_50, r55_53, r55_54, r55_57, r55_60, r55_61, r55_64, r55_65, cs_nil, cs_cons, lc_lt, lc_ge, lc_gt, lc_le, lc_eq, o4, l9, uc] using this
  rcases hmi with ⟨hm, rfl⟩ | ⟨hm, rfl⟩
  · simp [q53, r53_0, r53_1, r53_4, r53_5, r53_8, cs_nil, cs_cons, lc_lt, lc_ge, lc_gt, lc_le, lc_eq, r53_21, r53_22, r53_23, r53_26, r53_27, r53_30, r53_31, r53_34, r53_35, h332, l9, ut, ht, o2, uo]
    refine adv 9 (Or.inl rfl) hm _ ?_
    intro g2 hg
    simp [r53_38, r53_41, r53_42, r53_43, cs_nil, cs_cons, lc_lt, lc_ge, lc_gt, lc_le, lc_eq]
    refine hg _ ?_ ?_
    · intro hh hq
      simpa [r53_46, r53_49, r53_50, r53_53, r53_54, r53_57, r53_60, r53_61, r53_64, r53_65, cs_nil, cs_cons, lc_lt, lc_ge, lc_gt, lc_le, lc_eq] using hq
    · intro hh hq
      simpa [r53_46, cs_nil, cs_cons, lc_lt, lc_ge, lc_gt, lc_le, lc_eq] using hq
  · simp [q55, r55_0, r55_1, r55_4, r55_5, r55_8, cs_nil, cs_cons, lc_lt, lc_ge, lc_gt, lc_le, lc_eq, r55_21, r55_22, r55_23, r55_26, r55_27, r55_30, r55_31, r55_34, r55_35, h332, l9, ut, ht, o2, uo]
    refine adv 4 (Or.inr rfl) hm _ ?_
    intro g2 hg
    simp [r55_38, r55_41, r55_42, r55_43, cs_nil, cs_cons, lc_lt, lc_ge, lc_gt, lc_le, lc_eq]
    refine hg _ ?_ ?_
    · intro hh hq
      simpa [r55_46, r55_49, r55_50, r55_53, r55_54, r55_57, r55_60, r55_61, r55_64, r55_65, cs_nil, cs_cons, lc_lt, lc_ge, lc_gt, lc_le, lc_eq] using hq
    · intro hh hq
      simpa [r55_46, cs_nil, cs_cons, lc_lt, lc_ge, lc_gt, lc_le, lc_eq] using hq
theorem CI_R {t : Int} {rs cs : List Int} (h : CI f l I sz) (ht : I.1 2 = t) (h0 : 0 ≤ t) (ht5 : t < 5) (m0 : I.1 0 ≤ 8) (m1 : I.1 1 ≤ 4) (hg : ∀ c j : Int, ¬ ((c = 33 ∧ 3 ≤ j ∧ j ≤ 9) ∨ (c = l + 8 ∧ j = t) ∨ (c = l ∧ j = 11) ∨ (c = l + 9 ∧ j = 3) ∨ (c = l + 10 ∧ sz ≤ j) ∨ ((c = l + 11 ∨ c = l + 12) ∧ j = t)) → g c j = f c j) (e8 : g (l + 8) t = pnm rs) (e11 : g l 11 = t + 1) (e1 : g (l + 11) t = sz) (e2 : g (l + 12) t = sz + cs.length) (e3 : g (l + 9) 3 = sz + cs.length) (ha : al g (l + 10) cst sz cs) : CI g l (u1 I.1 2 (I.1 2 + 1), I.2.1, u1 I.2.2.1 (5 + I.1 2) cs, u1 I.2.2.2.1 (5 + I.1 2) true, u1 I.2.2.2.2 (16 + I.1 2) rs) (sz + cs.length) := by
  obtain ⟨hL, hl, ⟨f9, f10, f11, f12, f13⟩, hT, hM, hR, hW, hU, hs, s0⟩ := h
  have n1 : ∀ k : Int, ¬ k = 2 → u1 I.1 2 (I.1 2 + 1) k = I.1 k := fun k hk => u1_n hk
  have crt : cr (5 + t) = t := by unfold cr; rw [if_neg (by omega)]; omega
  refine ⟨sL_fr hL (fun j _ _ => hg _ _ (by omega)) (fun j _ _ => hg _ _ (by omega)), hl, ⟨?_, ?_, ?_, ?_, ?_⟩, ?_, ?_, ?_, ?_, ?_, e3, by omega⟩
  · show g l 9 = u1 I.1 2 (I.1 2 + 1) 0
    rw [n1 0 (by omega), hg _ _ (by omega)]; exact f9
  · show g l 10 = u1 I.1 2 (I.1 2 + 1) 1
    rw [n1 1 (by omega), hg _ _ (by omega)]; exact f10
  · show g l 11 = u1 I.1 2 (I.1 2 + 1) 2
    rw [u1_e, e11, ht]
  · rw [hg _ _ (by omega)]; exact f12
  · rw [hg _ _ (by omega)]; exact f13
  · intro k k0 k1
    have k1 : k < u1 I.1 2 (I.1 2 + 1) 0 := k1
    rw [n1 0 (by omega)] at k1
    show g (l + 1) k = pnm (u1 I.2.2.2.2 (16 + I.1 2) rs (0 + k)) ∧ _
    rw [u1_n (by omega), hg _ _ (by omega), hg _ _ (by omega), hg _ _ (by omega), hg _ _ (by omega)]
    exact hT k k0 k1
  · intro k k0 k1
    have k1 : k < u1 I.1 2 (I.1 2 + 1) 1 := k1
    rw [n1 1 (by omega)] at k1
    show g (l + 5) k = pnm (u1 I.2.2.2.2 (16 + I.1 2) rs (8 + k)) ∧ _
    rw [u1_n (by omega), hg _ _ (by omega), hg _ _ (by omega), hg _ _ (by omega)]
    exact hM k k0 k1
  · intro k k0 k1
    have k1 : k < u1 I.1 2 (I.1 2 + 1) 2 := k1
    rw [u1_e] at k1
    show g (l + 8) k = pnm (u1 I.2.2.2.2 (16 + I.1 2) rs (16 + k))
    by_cases q : k = t
    · subst q
      rw [ht, u1_e]; exact e8
    · rw [u1_n (by omega), hg _ _ (by omega)]
      exact hR k k0 (by omega)
  · intro v v0 v1 hv
    have hv : u1 I.2.2.2.1 (5 + I.1 2) true v = true := hv
    show ∃ k0, g (l + 11) (cr v) = k0 ∧ g (l + 12) (cr v) = k0 + (u1 I.2.2.1 (5 + I.1 2) cs v).length ∧ 0 ≤ k0 ∧ k0 + (u1 I.2.2.1 (5 + I.1 2) cs v).length ≤ sz + cs.length ∧ al g (l + 10) cst k0 (u1 I.2.2.1 (5 + I.1 2) cs v)
    by_cases q : v = 5 + t
    · subst q
      rw [ht, u1_e, crt]
      exact ⟨sz, e1, e2, s0, by omega, ha⟩
    · rw [u1_n (by omega)] at hv ⊢
      have ne : ¬ cr v = t := fun e => q (cr_i v0 v1 (by omega) (by omega) (by rw [crt]; exact e))
      obtain ⟨k0, a, b, c, e, al0⟩ := hW v v0 v1 hv
      refine ⟨k0, ?_, ?_, c, by omega, al_fr _ _ (fun j _ _ => hg _ _ (by omega)) al0⟩
      · rw [hg _ _ (by omega)]; exact a
      · rw [hg _ _ (by omega)]; exact b
  · intro v v0 v1 hv
    have hv : ¬ u1 I.2.2.2.1 (5 + I.1 2) true v = true := hv
    rw [u1_n (by omega)] at hv
    have ne : ¬ cr v = t := fun e => by have := cr_i v0 (by omega) (show 0 ≤ 5 + t by omega) (by omega) (by rw [crt]; exact e); omega
    rw [hg _ _ (by omega), hg _ _ (by omega)]
    exact hU v v0 v1 hv
theorem c_sR (h : CT f B N) (hN : N ≤ 1600) (hB : ∀ j, 0 ≤ B j ∧ B j ≤ 255) (hK : CK f B N p) (h0 : 0 ≤ p) (h1 : p ≤ N) (hI : CI f l I sz) (hp : PI I) (hz : sz ≤ p) (h33 : f 33 1 = l) (h332 : f 33 2 = l + 9) (hw : ¬ tW B N p = -1) (hQ : SQ B N l f Q (sdR B N I p)) : aw_cl (d + 97) 37 [(104, 33)] f Q := by
  have lc : l = 1 ∨ l = 20 := hI.2.1
  have l0 : 0 ≤ l := by omega
  have l9 : 0 ≤ l + 9 := by omega
  have pb := hp.1.2.2
  have m0 := hp.1.1.2
  have m1 := hp.1.2.1.2
  have gb := tW_b h1 hw
  have e9 := hI.2.2.1.2.2.1
  have hs9 := hI.2.2.2.2.2.2.2.2.1
  unfold sdR at hQ
  obtain ⟨t, ht⟩ : ∃ t, I.1 2 = t := ⟨_, rfl⟩
  rw [ht] at pb e9 hQ
  by_cases h8 : t = 5
  · rw [if_pos h8] at hQ
    have := hQ _ (by rw [am_un (by omega), am_ue]) am_ue (fIw_fl (k := 5) (q := tS B N p) (fun _ _ _ => rfl))
    rw [h8] at e9
    simpa (disch := omega) [q37, r37_0, r37_1, r37_4, r37_7, r37_8, r37_9, r37_10, r37_13, r37_14, r37_15, r37_16, r37_19, r37_22, cs_nil, cs_cons, lc_lt, lc_ge, lc_gt, lc_le, lc_eq, h33, l0, e9, hK.2.1, c_fail] using this
  rw [if_neg h8] at hQ
  have t5 : t < 5 := by omega
  have crt : cr (5 + t) = t := by unfold cr; rw [if_neg (by omega)]; omega
  simp (disch := omega) [q37, r37_0, r37_1, r37_4, r37_7, r37_8, r37_9, r37_10, cs_nil, cs_cons, lc_lt, lc_ge, lc_gt, lc_le, lc_eq, r37_23, r37_24, h33, l0, e9, le_T, lt_T, le_F, lt_F]
  refine c_adv h hN hB hK.2.2.1 (by omega) gb.2 ?_
  intro g1 k1 fr1
  have T1 : CT g1 B N := CT_33 h (fun c j hc => fr1 c j (by omega))
  simp [r37_27, r37_28, r37_29, cs_nil, cs_cons, lc_lt, lc_ge, lc_gt, lc_le, lc_eq]
  refine c_nm T1 hN hB k1 (by omega) gb.2 (CI_33 hI (fun c j hc => fr1 c j (by omega))) hp ((fr1 _ _ (by omega)).trans h33) ?_ ?_
  · intro k q e
    rw [e, b1_l] at hQ
    have := hQ _ (by rw [am_un (by omega), am_ue]) am_ue (fIw_fl (k := k) (q := q) (fun c j hc => fr1 c j (by omega)))
    simpa [r37_32, r37_35, r37_36, cs_nil, cs_cons, lc_lt, lc_ge, lc_gt, lc_le, lc_eq] using this
  intro p2 g2 e k2 v2 vn lt2 le2 fr2
  rw [e, b1_r] at hQ
  clear e
  have fa2 : ∀ c j : Int, ¬ (c = 33 ∧ 4 ≤ j ∧ j ≤ 9) → g2 c j = f c j := fun c j hc => by rw [fr2 _ _ (by omega), fr1 _ _ (by omega)]
  clear fr1 fr2 T1 k1 g1
  have s2 : sL g2 l := sL_fr hI.1 (fun j _ _ => fa2 _ _ (by omega)) (fun j _ _ => fa2 _ _ (by omega))
  have q2 : g2 33 1 = l := (fa2 _ _ (by omega)).trans h33
  have o2 : g2 33 2 = l + 9 := (fa2 _ _ (by omega)).trans h332
  have z2 : g2 (l + 9) 3 = sz := (fa2 _ _ (by omega)).trans hs9
  have s3 : sL (am_up (am_up g2 (l + 8) t (pnm (tN B N (tE B N p)))) 33 3 1) l := sL_fr s2 (fun j _ _ => by rw [am_un (by omega), am_un (by omega)]) (fun j _ _ => by rw [am_un (by omega), am_un (by omega)])
  have o3 : (am_up (am_up g2 (l + 8) t (pnm (tN B N (tE B N p)))) 33 3 1) 33 2 = l + 9 := by rw [am_un (by omega), am_un (by omega)]; exact o2
  have z3 : (am_up (am_up g2 (l + 8) t (pnm (tN B N (tE B N p)))) 33 3 1) (l + 9) 3 = sz := by rw [am_un (by omega), am_un (by omega)]; exact z2
  have uo := fun (dd : Nat) (QQ : am_V → am_F → Prop) => c_uopen (d := dd) (Q := QQ) (w := t) lc s3 pb.1 (by omega)
  simp only [z3] at uo
  simp (disch := omega) [r37_32, r37_35, r37_36, r37_37, r37_38, r37_41, r37_44, r37_45, r37_46, r37_49, r37_50, r37_51, r37_52, r37_55, r37_56, r37_59, r37_60, r37_63, r37_64, r37_66, cs_nil, cs_cons, lc_lt, lc_ge, lc_gt, lc_le, lc_eq, q2, l0, l9, sl_f s2, v2, sl_n lc, o3, uo, am_fitE, le_T, lt_T]
  clear v2 q2 s2 s3 o3 z3 uo o2 z2
  have fa3 : ∀ c j : Int, ¬ ((c = 33 ∧ 3 ≤ j ∧ j ≤ 9) ∨ (c = l + 8 ∧ j = t) ∨ (c = l + 11 ∧ j = t)) → (am_up (am_up (am_up g2 (l + 8) t (pnm (tN B N (tE B N p)))) 33 3 1) (l + 11) t sz) c j = f c j := fun c j hc => by rw [am_un (by omega), am_un (by omega), am_un (by omega)]; exact fa2 c j (by omega)
  have w1 : (am_up (am_up (am_up g2 (l + 8) t (pnm (tN B N (tE B N p)))) 33 3 1) (l + 11) t sz) (l + 8) t = pnm (tN B N (tE B N p)) := by rw [am_un (by omega), am_un (by omega), am_ue]
  have w2 : (am_up (am_up (am_up g2 (l + 8) t (pnm (tN B N (tE B N p)))) 33 3 1) (l + 11) t sz) (l + 11) t = sz := am_ue
  have w3 : (am_up (am_up (am_up g2 (l + 8) t (pnm (tN B N (tE B N p)))) 33 3 1) (l + 11) t sz) 33 3 = 1 := by rw [am_un (by omega), am_ue]
  have k3 : CK (am_up (am_up (am_up g2 (l + 8) t (pnm (tN B N (tE B N p)))) 33 3 1) (l + 11) t sz) B N p2 := CK_fr k2 (fun j _ _ => by rw [am_un (by omega), am_un (by omega), am_un (by omega)])
  generalize am_up (am_up (am_up g2 (l + 8) t (pnm (tN B N (tE B N p)))) 33 3 1) (l + 11) t sz = g3 at fa3 w1 w2 w3 k3 ⊢
  clear fa2 k2 g2
  refine c_tw (CT_33 h (fun c j hc => fa3 c j (by omega))) hN hB k3 (by omega) le2 (by omega) ?_ ?_
  · intro k q e
    rw [e, b1_l] at hQ
    have := hQ _ (by rw [am_un (by omega), am_ue]) am_ue (fIw_fl (k := k) (q := q) (fun c j hc => fa3 c j (by omega)))
    simpa [r37_69, r37_72, r37_73, r37_74, r37_77, r37_80, r37_81, cs_nil, cs_cons, lc_lt, lc_ge, lc_gt, lc_le, lc_eq] using this
  intro p3 g4 e k4 lt3 le3 fr4
  rw [e, b1_r] at hQ
  clear e
  have fa4 : ∀ c j : Int, ¬ ((c = 33 ∧ 3 ≤ j ∧ j ≤ 9) ∨ (c = l + 8 ∧ j = t) ∨ (c = l + 11 ∧ j = t)) → g4 c j = f c j := fun c j hc => by rw [fr4 _ _ (by omega)]; exact fa3 c j hc
  replace w1 : g4 (l + 8) t = pnm (tN B N (tE B N p)) := by rw [fr4 _ _ (by omega)]; exact w1
  replace w2 : g4 (l + 11) t = sz := by rw [fr4 _ _ (by omega)]; exact w2
  replace w3 : g4 33 3 = 1 := by rw [fr4 _ _ (by omega)]; exact w3
  clear fa3 fr4 k3 g3
  simp [r37_69, r37_72, r37_73, r37_74, cs_nil, cs_cons, lc_lt, lc_ge, lc_gt, lc_le, lc_eq]
  have hr := rK_e (B := B) (κ := 1) hN (show 0 ≤ p3 by omega) le3 9
  have U : CU g4 B N 1 (l + 9) (l + 10) := ⟨CT_33 h (fun c j hc => fa4 c j (by omega)), ⟨by rw [fa4 _ _ (by omega)]; exact h332, w3, by rw [fa4 _ _ (by omega)]; exact (sl_f hI.1).2.2.2.2.2.2.2.2.2.1⟩, by omega, by omega⟩
  have s0 := hI.2.2.2.2.2.2.2.2.2
  refine c_rd hN hB 20000 9 p3 0 _ g4 sz _ (d + 96) hr U k4 (by rw [fa4 _ _ (by omega)]; exact hs9) s0 (by omega) (by omega) le3 (by omega) (by omega) (show 14 * (6 - (0 : Int)).toNat + 12 ≤ d + 96 by omega) ?_
  match hx : rK B N 1 9 p3 with
  | .inl (k, q) =>
    rw [hx] at hQ
    intro hh a b c
    have := hQ hh a b (fun c' j' hc' => by rw [c c' j' (by omega)]; exact fa4 c' j' (by omega))
    simpa [r37_77, r37_80, r37_81, cs_nil, cs_cons, lc_lt, lc_ge, lc_gt, lc_le, lc_eq] using this
  | .inr (p4, cs) =>
    rw [hx] at hQ hr
    intro hh k5 b c e
    have ln := (rd_len _ _ _ _ _ _ hr le3).1
    have fa5 : ∀ c j : Int, ¬ ((c = 33 ∧ 3 ≤ j ∧ j ≤ 9) ∨ (c = l + 8 ∧ j = t) ∨ (c = l + 9 ∧ j = 3) ∨ (c = l + 10 ∧ sz ≤ j) ∨ (c = l + 11 ∧ j = t)) → hh c j = f c j := fun c' j' hc' => by rw [e c' j' (by omega)]; exact fa4 c' j' (by omega)
    replace w1 : hh (l + 8) t = pnm (tN B N (tE B N p)) := by rw [e _ _ (by omega)]; exact w1
    replace w2 : hh (l + 11) t = sz := by rw [e _ _ (by omega)]; exact w2
    have s5 : sL (am_up hh l 11 (t + 1)) l := sL_fr hI.1 (fun j _ _ => by rw [am_un (by omega), fa5 _ _ (by omega)]) (fun j _ _ => by rw [am_un (by omega), fa5 _ _ (by omega)])
    have q5 : hh 33 1 = l := (fa5 _ _ (by omega)).trans h33
    have o5 : (am_up hh l 11 (t + 1)) 33 2 = l + 9 := by rw [am_un (by omega), fa5 _ _ (by omega)]; exact h332
    have z5 : (am_up hh l 11 (t + 1)) (l + 9) 3 = sz + cs.length := by rw [am_un (by omega)]; exact b
    have uc := fun (dd : Nat) (QQ : am_V → am_F → Prop) => c_uclose (d := dd) (Q := QQ) (w := t) lc s5 pb.1 (by omega)
    simp only [z5] at uc
    have fin := hQ (am_up (am_up hh l 11 (t + 1)) (l + 12) t (sz + cs.length)) (sz + cs.length) (CK_fr k5 (fun j _ _ => by rw [am_un (by omega), am_un (by omega)])) (by
      have := CI_R (g := am_up (am_up hh l 11 (t + 1)) (l + 12) t (sz + cs.length)) (rs := tN B N (tE B N p)) (cs := cs) hI ht pb.1 t5 m0 m1 (fun c j hc => by rw [am_un (by omega), am_un (by omega)]; exact fa5 c j (by omega)) (by rw [am_un (by omega), am_un (by omega)]; exact w1) (by rw [am_un (by omega), am_ue]) (by rw [am_un (by omega), am_un (by omega)]; exact w2) am_ue (by rw [am_un (by omega), am_un (by omega)]; exact b) (al_fr _ _ (fun j _ _ => by rw [am_un (by omega), am_un (by omega)]) c)
      rw [ht] at this
      exact this) (by omega) (fun c j hc => by rw [am_un (by omega), am_un (by omega)]; exact fa5 c j (by omega))
    generalize sz + (cs.length : Int) = u at uc fin
    simpa (disch := omega) [r37_77, r37_80, r37_81, r37_82, r37_83, r37_86, r37_87, r37_88, r37_89, r37_92, r37_93, r37_96, r37_97, r37_100, cs_nil, cs_cons, lc_lt, lc_ge, lc_gt, lc_le, lc_eq, q5, l0, l9, o5, uc, am_wid2] using fin
/-- a statement -/
theorem c_stmt (h : CT f B N) (hN : N ≤ 1600) (hB : ∀ j, 0 ≤ B j ∧ B j ≤ 255) (hK : CK f B N p) (h0 : 0 ≤ p) (h1 : p ≤ N) (hI : CI f l I sz) (hp : PI I) (hz : sz ≤ p) (h33 : f 33 1 = l) (h332 : f 33 2 = l + 9) (hQ : SQ B N l f Q (sdd B N I p)) : aw_cl (d + 98) 26 [(104, 33)] f Q := by
  obtain ⟨a1, a2, a3, a4, a5⟩ := id hK
  have pass : ∀ (pc : Nat) (Q' : am_V → am_F → Prop), (∀ (v : Int) g, (v = 0 ∨ v = 1) → Q (0, v) g → Q' (0, v) g) → ∀ x, SQ B N l f Q x → SQ B N l f Q' x := by
    intro pc Q' hq x hx
    match x, hx with
    | .inl (k, q), hx => exact fun g a b c => hq _ _ (Or.inl rfl) (hx g a b c)
    | .inr (p', I'), hx => exact fun g z a b c e => hq _ _ (Or.inr rfl) (hx g z a b c e)
  by_cases hk : tK B N p = 1
  · rw [hk] at a1
    unfold sdd at hQ
    have bad : tW B N p = -1 ∨ 0 ≤ tW B N p := by have := tW_r (B := B) (N := N) (p := p); omega
    have wr := tW_r (B := B) (N := N) (p := p)
    by_cases c0 : tW B N p = 0
    · rw [if_pos c0] at hQ
      rw [c0] at a4
      simp [q26, r26_0, r26_1, r26_4, r26_5, r26_8, r26_9, r26_12, r26_13, r26_14, r26_17, r26_92, r26_93, cs_nil, cs_cons, lc_lt, lc_ge, lc_gt, lc_le, lc_eq, a1, a4]
      exact c_sT h hN hB hK h0 h1 hI hp hz h33 (by omega) (pass 96 _ (fun v g hv hq => by simpa [r26_96, cs_nil, cs_cons, lc_lt, lc_ge, lc_gt, lc_le, lc_eq, hv] using hq) _ hQ)
    rw [if_neg c0] at hQ
    by_cases c4 : tW B N p = 4
    · rw [if_pos c4] at hQ
      rw [c4] at a4
      simp [q26, r26_0, r26_1, r26_4, r26_5, r26_8, r26_9, r26_12, r26_13, r26_14, r26_17, cs_nil, cs_cons, lc_lt, lc_ge, lc_gt, lc_le, lc_eq, r26_97, r26_98, a1, a4]
      exact c_sM h hN hB hK h0 h1 hI hp hz h33 (by omega) (pass 101 _ (fun v g hv hq => by simpa [r26_101, cs_nil, cs_cons, lc_lt, lc_ge, lc_gt, lc_le, lc_eq, hv] using hq) _ hQ)
    rw [if_neg c4] at hQ
    by_cases c7 : tW B N p = 7
    · rw [if_pos c7] at hQ
      rw [c7] at a4
      simp [q26, r26_0, r26_1, r26_4, r26_5, r26_8, r26_9, r26_12, r26_13, r26_14, r26_17, cs_nil, cs_cons, lc_lt, lc_ge, lc_gt, lc_le, lc_eq, r26_102, r26_103, a1, a4]
      exact c_sR h hN hB hK h0 h1 hI hp hz h33 h332 (by omega) (pass 106 _ (fun v g hv hq => by simpa [r26_106, cs_nil, cs_cons, lc_lt, lc_ge, lc_gt, lc_le, lc_eq, hv] using hq) _ hQ)
    rw [if_neg c7] at hQ
    by_cases c9 : tW B N p = 9
    · rw [if_pos c9] at hQ
      rw [c9] at a4
      simp [q26, r26_0, r26_1, r26_4, r26_5, r26_8, r26_9, r26_12, r26_13, r26_14, r26_17, cs_nil, cs_cons, lc_lt, lc_ge, lc_gt, lc_le, lc_eq, r26_107, r26_108, r26_109, r26_110, a1, a4]
      exact c_sX (w := 0) h hN hB hK h0 h1 hI hp hz h33 h332 (by omega) (by omega) (by omega) (pass 113 _ (fun v g hv hq => by simpa [r26_113, cs_nil, cs_cons, lc_lt, lc_ge, lc_gt, lc_le, lc_eq, hv] using hq) _ hQ) (Or.inl ⟨rfl, rfl⟩)
    rw [if_neg c9] at hQ
    by_cases c10 : tW B N p = 10
    · rw [if_pos c10] at hQ
      rw [c10] at a4
      simp [q26, r26_0, r26_1, r26_4, r26_5, r26_8, r26_9, r26_12, r26_13, r26_14, r26_17, cs_nil, cs_cons, lc_lt, lc_ge, lc_gt, lc_le, lc_eq, r26_114, r26_115, r26_117, r26_118, a1, a4]
      exact c_sX (w := 1) h hN hB hK h0 h1 hI hp hz h33 h332 (by omega) (by omega) (by omega) (pass 121 _ (fun v g hv hq => by simpa [r26_121, cs_nil, cs_cons, lc_lt, lc_ge, lc_gt, lc_le, lc_eq, hv] using hq) _ hQ) (Or.inl ⟨rfl, rfl⟩)
    rw [if_neg c10] at hQ
    by_cases c11 : tW B N p = 11
    · rw [if_pos c11] at hQ
      rw [c11] at a4
      simp [q26, r26_0, r26_1, r26_4, r26_5, r26_8, r26_9, r26_12, r26_13, r26_14, r26_17, cs_nil, cs_cons, lc_lt, lc_ge, lc_gt, lc_le, lc_eq, r26_122, r26_123, r26_125, r26_126, a1, a4]
      exact c_sX (w := 2) h hN hB hK h0 h1 hI hp hz h33 h332 (by omega) (by omega) (by omega) (pass 129 _ (fun v g hv hq => by simpa [r26_129, cs_nil, cs_cons, lc_lt, lc_ge, lc_gt, lc_le, lc_eq, hv] using hq) _ hQ) (Or.inr ⟨rfl, rfl⟩)
    rw [if_neg c11] at hQ
    by_cases c12 : tW B N p = 12
    · rw [if_pos c12] at hQ
      rw [c12] at a4
      simp [q26, r26_0, r26_1, r26_4, r26_5, r26_8, r26_9, r26_12, r26_13, r26_14, r26_17, cs_nil, cs_cons, lc_lt, lc_ge, lc_gt, lc_le, lc_eq, r26_130, r26_131, r26_133, r26_134, a1, a4]
      exact c_sX (w := 3) h hN hB hK h0 h1 hI hp hz h33 h332 (by omega) (by omega) (by omega) (pass 137 _ (fun v g hv hq => by simpa [r26_137, cs_nil, cs_cons, lc_lt, lc_ge, lc_gt, lc_le, lc_eq, hv] using hq) _ hQ) (Or.inr ⟨rfl, rfl⟩)
    rw [if_neg c12] at hQ
    by_cases c13 : tW B N p = 13
    · rw [if_pos c13] at hQ
      rw [c13] at a4
      simp [q26, r26_0, r26_1, r26_4, r26_5, r26_8, r26_9, r26_12, r26_13, r26_14, r26_17, cs_nil, cs_cons, lc_lt, lc_ge, lc_gt, lc_le, lc_eq, r26_138, r26_139, r26_141, r26_142, a1, a4]
      exact c_sX (w := 4) h hN hB hK h0 h1 hI hp hz h33 h332 (by omega) (by omega) (by omega) (pass 145 _ (fun v g hv hq => by simpa [r26_145, cs_nil, cs_cons, lc_lt, lc_ge, lc_gt, lc_le, lc_eq, hv] using hq) _ hQ) (Or.inr ⟨rfl, rfl⟩)
    rw [if_neg c13] at hQ
    by_cases c14 : tW B N p = 14
    · rw [if_pos c14] at hQ
      rw [c14] at a4
      simp [q26, r26_0, r26_1, r26_4, r26_5, r26_8, r26_9, r26_12, r26_13, r26_14, r26_17, cs_nil, cs_cons, lc_lt, lc_ge, lc_gt, lc_le, lc_eq, r26_146, r26_147, a1, a4]
      exact c_sC h hN hB hK h0 h1 hI hz h33 (by omega) (pass 150 _ (fun v g hv hq => by simpa [r26_150, cs_nil, cs_cons, lc_lt, lc_ge, lc_gt, lc_le, lc_eq, hv] using hq) _ hQ)
    rw [if_neg c14] at hQ
    have := hQ _ (by rw [am_un (by omega), am_ue]) am_ue (fIw_fl (k := 1) (q := tS B N p) (fun _ _ _ => rfl))
    simpa [q26, r26_0, r26_1, r26_4, r26_5, r26_8, r26_9, r26_12, r26_13, r26_14, r26_17, cs_nil, cs_cons, lc_lt, lc_ge, lc_gt, lc_le, lc_eq, r26_151, r26_152, r26_155, a1, a4, c0, c4, c7, c9, c10, c11, c12, c13, c14, c_wrong hK] using this
  · have a1' : ¬ f 33 4 = 1 := by rw [a1]; exact hk
    have tw : tW B N p = -1 := by unfold tW; rw [if_neg hk]
    unfold sdd at hQ
    rw [tw] at hQ
    simp only [show ¬ (-1 : Int) = 0 by decide, show ¬ (-1 : Int) = 4 by decide, show ¬ (-1 : Int) = 7 by decide, show ¬ (-1 : Int) = 9 by decide, show ¬ (-1 : Int) = 10 by decide, show ¬ (-1 : Int) = 11 by decide, show ¬ (-1 : Int) = 12 by decide, show ¬ (-1 : Int) = 13 by decide, show ¬ (-1 : Int) = 14 by decide, if_false] at hQ
    have := hQ _ (by rw [am_un (by omega), am_ue]) am_ue (fIw_fl (k := 1) (q := tS B N p) (fun _ _ _ => rfl))
    simpa [q26, r26_0, r26_1, r26_4, r26_5, r26_8, r26_9, r26_12, cs_nil, cs_cons, lc_lt, lc_ge, lc_gt, lc_le, lc_eq, a1', c_wrong hK] using this
end
