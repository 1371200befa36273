/-! islands: the model reads trials, rules, the cat; a whole statement -/
section
variable {d : Nat} {f g : am_F} {B : Int → Int} {N p cd q0 : Int} {Q : am_V → am_F → Prop} {I : IS}
theorem MI_R {t : Int} {rs : List Int} (h : MI f I cd) (ht : I.1 2 = t) (h0 : 0 ≤ t) (ht5 : t < 5) (m0 : I.1 0 ≤ 8) (m1 : I.1 1 ≤ 4) (hg : ∀ c j : Int, ¬ ((c = 302 ∧ j = 16 + t) ∨ (c = 301 ∧ j = 2)) → g c j = f c j) (e1 : g 302 (16 + t) = nv rs) (e9 : g 301 2 = t + 1) : MI g (u1 I.1 2 (I.1 2 + 1), I.2.1, I.2.2.1, I.2.2.2.1, u1 I.2.2.2.2 (16 + I.1 2) rs) cd := by
  obtain ⟨⟨a0, a1, a2, a3, a4⟩, hT, hM, hR, hW, hU, hs, s0⟩ := h
  have n1 : ∀ k : Int, ¬ k = 2 → u1 I.1 2 (I.1 2 + 1) k = I.1 k := fun k hk => u1_n hk
  refine ⟨⟨?_, ?_, ?_, ?_, ?_⟩, ?_, ?_, ?_, ?_, ?_, ?_, s0⟩
  · show g 301 0 = u1 I.1 2 (I.1 2 + 1) 0
    rw [n1 0 (by omega), hg _ _ (by omega)]; exact a0
  · show g 301 1 = u1 I.1 2 (I.1 2 + 1) 1
    rw [n1 1 (by omega), hg _ _ (by omega)]; exact a1
  · show g 301 2 = u1 I.1 2 (I.1 2 + 1) 2
    rw [u1_e, e9, ht]
  · rw [hg _ _ (by omega)]; exact a3
  · rw [hg _ _ (by omega)]; exact a4
  · intro k k0 k1
    have k1 : k < u1 I.1 2 (I.1 2 + 1) 0 := k1
    rw [n1 0 (by omega)] at k1
    show g 302 (0 + k) = nv (u1 I.2.2.2.2 (16 + I.1 2) rs (0 + k)) ∧ _
    rw [u1_n (by omega), hg _ _ (by omega), hg _ _ (by omega), hg _ _ (by omega), hg _ _ (by omega)]
    exact hT k k0 k1
  · intro k k0 k1
    have k1 : k < u1 I.1 2 (I.1 2 + 1) 1 := k1
    rw [n1 1 (by omega)] at k1
    show g 302 (8 + k) = nv (u1 I.2.2.2.2 (16 + I.1 2) rs (8 + k)) ∧ _
    rw [u1_n (by omega), hg _ _ (by omega), hg _ _ (by omega), hg _ _ (by omega)]
    exact hM k k0 k1
  · intro k k0 k1
    have k1 : k < u1 I.1 2 (I.1 2 + 1) 2 := k1
    rw [u1_e] at k1
    show g 302 (16 + k) = nv (u1 I.2.2.2.2 (16 + I.1 2) rs (16 + k))
    by_cases q : k = t
    · subst q
      rw [ht, u1_e]
      exact e1
    · rw [u1_n (by omega), hg _ _ (by omega)]
      exact hR k k0 (by omega)
  · intro w w0 w1 hw
    obtain ⟨k0, a, b, c, e, al0⟩ := hW w w0 w1 hw
    refine ⟨k0, ?_, ?_, c, e, al_fr _ _ (fun j _ _ => hg _ _ (by omega)) al0⟩
    · rw [hg _ _ (by omega)]; exact a
    · rw [hg _ _ (by omega)]; exact b
  · intro w w0 w1 hw
    rw [hg _ _ (by omega)]
    exact hU w w0 w1 hw
  · rw [hg _ _ (by omega)]; exact hs
theorem MI_c {G : am_F} (h : MI f I cd) (hg : ∀ c j : Int, ¬ (c = 270 ∧ (j = 43 ∨ j = 49)) → g c j = f c j) (e1 : g 270 43 = G 0 0) (e2 : g 270 49 = G 0 1) (hG : ∀ c j : Int, 2 ≤ c → G c j = I.2.1 c j) : MI g (I.1, G, I.2.2.1, I.2.2.2.1, I.2.2.2.2) cd := by
  obtain ⟨⟨a0, a1, a2, a3, a4⟩, hT, hM, hR, hW, hU, hs, s0⟩ := h
  refine ⟨⟨?_, ?_, ?_, e1, e2⟩, ?_, ?_, ?_, ?_, ?_, ?_, s0⟩
  · rw [hg _ _ (by omega)]; exact a0
  · rw [hg _ _ (by omega)]; exact a1
  · rw [hg _ _ (by omega)]; exact a2
  · intro t t0 t1
    show _ ∧ _ = G 2 t ∧ _ = G 3 t ∧ _ = G 4 t
    rw [hG _ _ (by omega), hG _ _ (by omega), hG _ _ (by omega), hg _ _ (by omega), hg _ _ (by omega), hg _ _ (by omega), hg _ _ (by omega)]
    exact hT t t0 t1
  · intro t t0 t1
    show _ ∧ _ = G 6 t ∧ _ = G 7 t
    rw [hG _ _ (by omega), hG _ _ (by omega), hg _ _ (by omega), hg _ _ (by omega), hg _ _ (by omega)]
    exact hM t t0 t1
  · intro t t0 t1
    rw [hg _ _ (by omega)]
    exact hR t t0 t1
  · intro w w0 w1 hw
    obtain ⟨k0, a, b, c, e, al0⟩ := hW w w0 w1 hw
    refine ⟨k0, ?_, ?_, c, e, al_fr _ _ (fun j _ _ => hg _ _ (by omega)) al0⟩
    · rw [hg _ _ (by omega)]; exact a
    · rw [hg _ _ (by omega)]; exact b
  · intro w w0 w1 hw
    rw [hg _ _ (by omega)]
    exact hU w w0 w1 hw
  · rw [hg _ _ (by omega)]; exact hs
theorem m_sX {w : Int} (hN : N ≤ 1600) (hM : MM f B N p I cd) (w0 : 0 ≤ w) (w9 : w < 10) (hQ : TQ B N f Q (if I.2.2.2.1 w = true then .inl (5, q0) else match rK B N (wK w) (wM w) p with
    | .inl e => .inl e
    | .inr (p4, cs) => .inr (p4, (I.1, I.2.1, u1 I.2.2.1 w cs, u1 I.2.2.2.1 w true, I.2.2.2.2)))) : aw_cl (d + 11) 204 [(110, 270), (0, w), (0, q0)] f Q := by
  obtain ⟨hX, hP, ⟨b5, b6⟩, hI, p0, pN, hcd⟩ := id hM
  have x45 := fx_270_45 hX.1.1
  by_cases hw : I.2.2.2.1 w = true
  · rw [if_pos hw] at hQ
    obtain ⟨k0, e1, _, k00, _⟩ := hI.2.2.2.2.1 w w0 w9 hw
    have ne : ¬ f 305 w = -1 := by omega
    have hb : ¬ (am_up (am_up f 270 5 5) 270 6 q0) 270 5 = 0 := by rw [am_un (by omega), am_ue]; decide
    have := hQ (by omega) (am_up (am_up f 270 5 5) 270 6 q0) (by rw [am_un (by omega), am_ue]) am_ue (fun c j hc => by rw [am_un (by omega), am_un (by omega)])
    have tb := fun (QQ : am_V → am_F → Prop) => m_textB (d := d) (Q := QQ) (w := w) hb
    simpa (disch := omega) [q204, r204_0, r204_1, r204_4, r204_7, r204_8, r204_11, r204_12, r204_13, r204_14, r204_17, r204_18, r204_19, r204_20, r204_23, r204_24, r204_25, r204_28, cs_nil, cs_cons, lc_lt, lc_ge, lc_gt, lc_le, lc_eq, b5, x45, ln_305, ne, m_fail b5, tb, le_T, lt_T] using this
  · rw [if_neg hw] at hQ
    have e1 := hI.2.2.2.2.2.1 w w0 w9 hw
    have : aw_cl (d + 10) 180 [(110, 270), (0, w)] f (fun v f' => aw_wp (d + 11) 204 28 [(110, 270), (0, w), (0, q0)] (if v.fst = 3 then [] else [v]) f' Q) := by
      refine m_text hN hM w0 w9 ?_ ?_
      · intro k q e k0 g e5 e6 fr
        rw [e] at hQ
        have := hQ k0 g e5 e6 fr
        simpa [r204_28, cs_nil, cs_cons, lc_lt, lc_ge, lc_gt, lc_le, lc_eq] using this
      · intro p4 cs e g M fr
        rw [e] at hQ
        have := hQ g _ M fr
        simpa [r204_28, cs_nil, cs_cons, lc_lt, lc_ge, lc_gt, lc_le, lc_eq] using this
    simpa (disch := omega) [q204, r204_0, r204_1, r204_4, r204_7, r204_8, r204_11, r204_12, r204_13, r204_14, r204_17, r204_18, r204_19, r204_20, r204_23, r204_24, r204_25, cs_nil, cs_cons, lc_lt, lc_ge, lc_gt, lc_le, lc_eq, b5, x45, ln_305, e1, le_T, lt_T] using this
theorem m_sR (hN : N ≤ 1600) (hM : MM f B N p I cd) (hp : PI I) (hQ : TQ B N f Q (if I.1 2 = 5 then .inl (5, q0) else b1 (rNm B N I p) fun p2 => b1 (rWd B N 8 p2) fun p3 => match rK B N 1 9 p3 with
    | .inl e => .inl e
    | .inr (p4, cs) => .inr (p4, (u1 I.1 2 (I.1 2 + 1), I.2.1, u1 I.2.2.1 (5 + I.1 2) cs, u1 I.2.2.2.1 (5 + I.1 2) true, u1 I.2.2.2.2 (16 + I.1 2) (tN B N p))))) : aw_cl (d + 11) 179 [(110, 270), (0, q0)] f Q := by
  obtain ⟨hX, hP, ⟨b5, b6⟩, hI, p0, pN, hcd⟩ := id hM
  have x1 := hX.1.1
  have x39 := fx_270_39 x1
  have fu := fun (dd : Nat) (QQ : am_V → am_F → Prop) => m_full (d := dd) (Q := QQ) (c := 2) (room := 5) (q := q0) b5 x39 (by omega)
  simp only [hI.1.2.2.1] at fu
  by_cases h8 : I.1 2 = 5
  · rw [if_pos h8] at hQ
    simp only [if_pos h8] at fu
    have := hQ (by omega) (am_up (am_up f 270 5 5) 270 6 q0) (by rw [am_un (by omega), am_ue]) am_ue (fun c j hc => by rw [am_un (by omega), am_un (by omega)])
    simpa [q179, r179_0, r179_1, r179_2, r179_3, r179_4, r179_7, r179_10, cs_nil, cs_cons, lc_lt, lc_ge, lc_gt, lc_le, lc_eq, fu] using this
  rw [if_neg h8] at hQ
  simp only [if_neg h8] at fu
  have m2 := hp.1.2.2
  have bad : ∀ (g : am_F), ¬ g 270 5 = 0 → (∀ c j : Int, ¬ (c = 270 ∧ (j = 2 ∨ (4 ≤ j ∧ j ≤ 6) ∨ j = 38)) → g c j = f c j) → Q (3, 0) g → (∀ v, aw_wp (d + 11) 179 15 [(110, 270), (0, q0), (2, 0), (2, 0)] [(1, v)] g Q) ∧ (∀ v, aw_wp (d + 11) 179 24 [(110, 270), (0, q0), (1, v), (2, 0)] [] g Q) := by
    intro g hb fr hq
    have as := fun (dd : Nat) (QQ : am_V → am_F → Prop) (wa : Int) => m_asksB (d := dd) (Q := QQ) (wa := wa) hb
    have tb := fun (QQ : am_V → am_F → Prop) (w : Int) => m_textB (d := d) (Q := QQ) (w := w) hb
    have y18 : g 270 18 = 281 := (fr _ _ (by omega)).trans (fx_270_18 x1)
    have y39 : g 270 39 = 301 := (fr _ _ (by omega)).trans x39
    refine ⟨fun v => ?_, fun v => ?_⟩
    · simpa (disch := omega) [r179_15, r179_16, r179_17, r179_18, r179_21, r179_24, r179_25, r179_26, r179_27, r179_30, r179_31, r179_32, r179_33, r179_36, r179_37, r179_40, r179_43, r179_44, r179_45, r179_46, r179_49, r179_50, cs_nil, cs_cons, lc_lt, lc_ge, lc_gt, lc_le, lc_eq, y18, y39, ln_301, as, tb, hb, le_T, lt_T] using hq
    · simpa (disch := omega) [r179_24, r179_25, r179_26, r179_27, r179_30, r179_31, r179_32, r179_33, r179_36, r179_37, r179_40, r179_43, r179_44, r179_45, r179_46, r179_49, r179_50, cs_nil, cs_cons, lc_lt, lc_ge, lc_gt, lc_le, lc_eq, y39, ln_301, as, tb, hb, le_T, lt_T] using hq
  simp [q179, r179_0, r179_1, r179_2, r179_3, r179_4, r179_7, r179_10, r179_11, r179_12, cs_nil, cs_cons, lc_lt, lc_ge, lc_gt, lc_le, lc_eq, fu]
  refine m_newName (d := d + 5) hN hM hp ?_ ?_
  · intro k q e k0 v g e5 e6 fr
    rw [e, b1_l] at hQ
    have := hQ k0 g e5 e6 (fun c j hc => fr c j (by omega))
    simpa using (bad g (by rw [e5]; exact k0) (fun c j hc => fr c j (by omega)) this).1 v
  intro p2 e g2 M2 fa2
  rw [e, b1_r] at hQ
  clear e
  simp [r179_15, r179_16, r179_17, r179_18, r179_21, cs_nil, cs_cons, lc_lt, lc_ge, lc_gt, lc_le, lc_eq, own_fx M2.1.1.1]
  refine mm_ask (d := d + 7) hN M2 (k := 8) (by decide) (by omega) ?_ ?_
  · intro k q e k0 g e5 e6 fr
    rw [e, b1_l] at hQ
    have := hQ k0 g e5 e6 (fun c j hc => by rw [fr c j (by omega)]; exact fa2 c j (by omega))
    simpa using (bad g (by rw [e5]; exact k0) (fun c j hc => by rw [fr c j (by omega)]; exact fa2 c j (by omega)) this).2 _
  intro p3 e g3 M3 fr
  rw [e, b1_r] at hQ
  clear e
  have fa3 : ∀ c j : Int, ¬ (c = 270 ∧ (j = 2 ∨ j = 4 ∨ j = 38)) → g3 c j = f c j := fun c j hc => by rw [fr c j (by omega)]; exact fa2 c j hc
  clear fr
  obtain ⟨t, ht⟩ : ∃ t, I.1 2 = t := ⟨_, rfl⟩
  rw [ht] at m2 h8
  have t8 : t < 5 := by omega
  have m0 := hp.1.1.2
  have m1 := hp.1.2.1.2
  have e301 : g3 301 2 = t := by rw [M3.2.2.2.1.1.2.2.1, ht]
  have y39 : g3 270 39 = 301 := fx_270_39 M3.1.1.1
  have wk : wK (5 + t) = 1 := by unfold wK; rw [if_neg (by omega), if_neg (by omega)]
  have wm : wM (5 + t) = 9 := by unfold wM; rw [if_pos (by omega)]
  have tx : aw_cl (d + 10) 180 [(110, 270), (0, 5 + t)] g3 (fun v f' => aw_wp (d + 11) 179 36 [(110, 270), (0, q0), (1, nv (tN B N p)), (2, 0)] (if v.fst = 3 then [] else [v]) f' Q) := by
    refine m_text hN M3 (by omega) (by omega) ?_ ?_
    · rw [wk, wm]
      intro k q e k0 g e5 e6 fr
      rw [e] at hQ
      have := hQ k0 g e5 e6 (fun c j hc => by rw [fr c j (by omega)]; exact fa3 c j (by omega))
      have hb : ¬ g 270 5 = 0 := by rw [e5]; exact k0
      simpa [r179_36, r179_37, r179_40, r179_43, r179_44, r179_45, r179_46, r179_49, r179_50, cs_nil, cs_cons, lc_lt, lc_ge, lc_gt, lc_le, lc_eq, hb] using this
    · rw [wk, wm]
      intro p4 cs e g M fr
      rw [e] at hQ
      obtain ⟨hX8, hP8, ⟨c5, c6⟩, hI8, p80, p8N, hcd8⟩ := id M
      have g301 : g 301 2 = t := hI8.1.2.2.1.trans ht
      have ad := fun (dd : Nat) (QQ : am_V → am_F → Prop) (v : Int) => m_adds (d := dd) (Q := QQ) (c := 2) (v := v) (fx_270_39 hX8.1.1) (fx_270_40 hX8.1.1) (by omega) g301 m2.1 (by omega)
      simp only [show (8 : Int) * 2 + t = 16 + t by omega] at ad
      have fr9 : ∀ c j : Int, ¬ ((c = 302 ∧ j = 16 + t) ∨ (c = 301 ∧ j = 2)) → (am_up (am_up g 302 (16 + t) (nv (tN B N p))) 301 2 (t + 1)) c j = g c j := fun c j hc => by rw [am_un (by omega), am_un (by omega)]
      have hR := MI_R (rs := tN B N p) hI8 ht m2.1 t8 m0 m1 fr9 (by rw [am_un (by omega), am_ue]) am_ue
      have fin := hQ (am_up (am_up g 302 (16 + t) (nv (tN B N p))) 301 2 (t + 1)) (cd + cs.length) ⟨MX_gIw hX8 (fun c j hc => fr9 c j (by omega)), ⟨by rw [fr9 _ _ (by omega)]; exact hP8.1, by rw [fr9 _ _ (by omega)]; exact hP8.2.1, by rw [fr9 _ _ (by omega)]; exact hP8.2.2⟩, ⟨by rw [fr9 _ _ (by omega)]; exact c5, by rw [fr9 _ _ (by omega)]; exact c6⟩, by rw [ht] at hR ⊢; exact hR, p80, p8N, hcd8⟩ (fun c j hc => by rw [fr9 c j (by omega), fr c j (by omega)]; exact fa3 c j (by omega))
      simpa [r179_36, r179_37, r179_40, r179_43, r179_44, r179_45, r179_46, r179_49, r179_50, cs_nil, cs_cons, lc_lt, lc_ge, lc_gt, lc_le, lc_eq, c5, ad] using fin
  simpa (disch := omega) [r179_24, r179_25, r179_26, r179_27, r179_30, r179_31, r179_32, r179_33, cs_nil, cs_cons, lc_lt, lc_ge, lc_gt, lc_le, lc_eq, y39, e301, ln_301, am_wid2, le_T, lt_T] using tx
end
