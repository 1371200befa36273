/-! islands: the model reads menders -/
section
variable {d : Nat} {f g : am_F} {B : Int → Int} {N p cd q0 : Int} {Q : am_V → am_F → Prop} {I : IS}
theorem MI_M {t : Int} {rs : List Int} {v1 v2 : Int} (h : MI f I cd) (ht : I.1 1 = t) (h0 : 0 ≤ t) (ht8 : t < 4) (m0 : I.1 0 ≤ 8) (m2 : I.1 2 ≤ 5) (hg : ∀ c j : Int, ¬ ((c = 302 ∧ j = 8 + t) ∨ (c = 301 ∧ j = 1) ∨ (c = 304 ∧ 2 * t ≤ j ∧ j ≤ 2 * t + 1)) → g c j = f c j) (e1 : g 302 (8 + t) = nv rs) (e2 : g 304 (2 * t) = v1) (e3 : g 304 (2 * t + 1) = v2) (e9 : g 301 1 = t + 1) : MI g (u1 I.1 1 (I.1 1 + 1), am_up (am_up I.2.1 6 (I.1 1) v1) 7 (I.1 1) v2, I.2.2.1, I.2.2.2.1, u1 I.2.2.2.2 (8 + I.1 1) rs) cd := by
  obtain ⟨⟨a0, a1, a2, a3, a4⟩, hT, hM, hR, hW, hU, hs, s0⟩ := h
  have n1 : ∀ k : Int, ¬ k = 1 → u1 I.1 1 (I.1 1 + 1) k = I.1 k := fun k hk => u1_n hk
  refine ⟨⟨?_, ?_, ?_, ?_, ?_⟩, ?_, ?_, ?_, ?_, ?_, ?_, s0⟩
  · show g 301 0 = u1 I.1 1 (I.1 1 + 1) 0
    rw [n1 0 (by omega), hg _ _ (by omega)]; exact a0
  · show g 301 1 = u1 I.1 1 (I.1 1 + 1) 1
    rw [u1_e, e9, ht]
  · show g 301 2 = u1 I.1 1 (I.1 1 + 1) 2
    rw [n1 2 (by omega), hg _ _ (by omega)]; exact a2
  · show _ = am_up (am_up I.2.1 6 (I.1 1) v1) 7 (I.1 1) v2 0 0
    rw [am_un (by omega), am_un (by omega), hg _ _ (by omega)]; exact a3
  · show _ = am_up (am_up I.2.1 6 (I.1 1) v1) 7 (I.1 1) v2 0 1
    rw [am_un (by omega), am_un (by omega), hg _ _ (by omega)]; exact a4
  · intro k k0 k1
    have k1 : k < u1 I.1 1 (I.1 1 + 1) 0 := k1
    rw [n1 0 (by omega)] at k1
    show g 302 (0 + k) = nv (u1 I.2.2.2.2 (8 + I.1 1) rs (0 + k)) ∧ g 303 (3 * k) = am_up (am_up I.2.1 6 (I.1 1) v1) 7 (I.1 1) v2 2 k ∧ g 303 (3 * k + 1) = am_up (am_up I.2.1 6 (I.1 1) v1) 7 (I.1 1) v2 3 k ∧ g 303 (3 * k + 2) = am_up (am_up I.2.1 6 (I.1 1) v1) 7 (I.1 1) v2 4 k
    rw [u1_n (by omega), am_un (by omega), am_un (by omega), am_un (by omega), am_un (by omega), am_un (by omega), am_un (by omega), hg _ _ (by omega), hg _ _ (by omega), hg _ _ (by omega), hg _ _ (by omega)]
    exact hT k k0 k1
  · intro k k0 k1
    have k1 : k < u1 I.1 1 (I.1 1 + 1) 1 := k1
    rw [u1_e] at k1
    show g 302 (8 + k) = nv (u1 I.2.2.2.2 (8 + I.1 1) rs (8 + k)) ∧ g 304 (2 * k) = am_up (am_up I.2.1 6 (I.1 1) v1) 7 (I.1 1) v2 6 k ∧ g 304 (2 * k + 1) = am_up (am_up I.2.1 6 (I.1 1) v1) 7 (I.1 1) v2 7 k
    by_cases q : k = t
    · subst q
      rw [ht, u1_e, am_un (by omega), am_ue, am_ue]
      exact ⟨e1, e2, e3⟩
    · rw [u1_n (by omega), am_un (by omega), am_un (by omega), am_un (by omega), am_un (by omega), hg _ _ (by omega), hg _ _ (by omega), hg _ _ (by omega)]
      exact hM k k0 (by omega)
  · intro k k0 k1
    have k1 : k < u1 I.1 1 (I.1 1 + 1) 2 := k1
    rw [n1 2 (by omega)] at k1
    show g 302 (16 + k) = nv (u1 I.2.2.2.2 (8 + I.1 1) rs (16 + k))
    rw [u1_n (by omega), hg _ _ (by omega)]
    exact hR k k0 k1
  · intro w w0 w1 hw
    obtain ⟨k0, a, b, c, e, al0⟩ := hW w w0 w1 hw
    refine ⟨k0, ?_, ?_, c, e, al_fr _ _ (fun j _ _ => hg _ _ (by omega)) al0⟩
    · rw [hg _ _ (by omega)]; exact a
    · rw [hg _ _ (by omega)]; exact b
  · intro w w0 w1 hw
    rw [hg _ _ (by omega)]
    exact hU w w0 w1 hw
  · rw [hg _ _ (by omega)]; exact hs
theorem m_sM (hN : N ≤ 1600) (hM : MM f B N p I cd) (hp : PI I) (hQ : TQ B N f Q (if I.1 1 = 4 then .inl (5, q0) else b1 (rNm B N I p) fun p2 => b1 (rWd B N 5 p2) fun p3 => b1 (rNu B N 0 9 p3) fun p4 => b1 (rWd B N 6 p4) fun p5 => b1 (rNu B N 1 24 p5) fun p6 => .inr (p6, (u1 I.1 1 (I.1 1 + 1), am_up (am_up I.2.1 6 (I.1 1) (tV B N p3)) 7 (I.1 1) (tV B N p5), I.2.2.1, I.2.2.2.1, u1 I.2.2.2.2 (8 + I.1 1) (tN B N p))))) : aw_cl (d + 6) 178 [(110, 270), (0, q0)] f Q := by
  obtain ⟨hX, hP, ⟨b5, b6⟩, hI, p0, pN, hcd⟩ := id hM
  have x1 := hX.1.1
  have x39 := fx_270_39 x1
  have fu := fun (dd : Nat) (QQ : am_V → am_F → Prop) => m_full (d := dd) (Q := QQ) (c := 1) (room := 4) (q := q0) b5 x39 (by omega)
  simp only [hI.1.2.1] at fu
  by_cases h8 : I.1 1 = 4
  · rw [if_pos h8] at hQ
    simp only [if_pos h8] at fu
    have := hQ (by omega) (am_up (am_up f 270 5 5) 270 6 q0) (by rw [am_un (by omega), am_ue]) am_ue (fun c j hc => by rw [am_un (by omega), am_un (by omega)])
    simpa [q178, r178_0, r178_1, r178_2, r178_3, r178_4, r178_7, r178_10, cs_nil, cs_cons, lc_lt, lc_ge, lc_gt, lc_le, lc_eq, fu] using this
  rw [if_neg h8] at hQ
  simp only [if_neg h8] at fu
  have m1 := hp.1.2.1
  have bad : ∀ (g : am_F), ¬ g 270 5 = 0 → aw_fx g → Q (3, 0) g → (∀ v, aw_wp (d + 6) 178 15 [(110, 270), (0, q0), (2, 0), (2, 0), (2, 0), (2, 0), (2, 0)] [(1, v)] g Q) ∧ (∀ v, aw_wp (d + 6) 178 24 [(110, 270), (0, q0), (1, v), (2, 0), (2, 0), (2, 0), (2, 0)] [] g Q) ∧ (∀ v w, aw_wp (d + 6) 178 31 [(110, 270), (0, q0), (1, v), (2, 0), (2, 0), (2, 0), (2, 0)] [(0, w)] g Q) ∧ (∀ v a, aw_wp (d + 6) 178 41 [(110, 270), (0, q0), (1, v), (2, 0), (0, a), (2, 0), (2, 0)] [] g Q) ∧ (∀ v a w, aw_wp (d + 6) 178 48 [(110, 270), (0, q0), (1, v), (2, 0), (0, a), (2, 0), (2, 0)] [(0, w)] g Q) := by
    intro g hb hx hq
    have as := fun (dd : Nat) (QQ : am_V → am_F → Prop) (wa : Int) => m_asksB (d := dd) (Q := QQ) (wa := wa) hb
    have nu := fun (dd : Nat) (QQ : am_V → am_F → Prop) (a b : Int) => m_numB (d := dd) (Q := QQ) (a := a) (b := b) hb
    have o := own_fx hx
    refine ⟨fun v => ?_, fun v => ?_, fun v w => ?_, fun v a => ?_, fun v a w => ?_⟩
    · simpa [r178_15, r178_16, r178_17, r178_18, r178_21, r178_24, r178_25, r178_26, r178_28, r178_31, r178_33, r178_34, r178_35, r178_38, r178_41, r178_42, r178_43, r178_45, r178_48, r178_50, r178_51, r178_54, r178_57, cs_nil, cs_cons, lc_lt, lc_ge, lc_gt, lc_le, lc_eq, o, as, nu, hb] using hq
    · simpa [r178_24, r178_25, r178_26, r178_28, r178_31, r178_33, r178_34, r178_35, r178_38, r178_41, r178_42, r178_43, r178_45, r178_48, r178_50, r178_51, r178_54, r178_57, cs_nil, cs_cons, lc_lt, lc_ge, lc_gt, lc_le, lc_eq, o, as, nu, hb] using hq
    · simpa [r178_31, r178_33, r178_34, r178_35, r178_38, r178_41, r178_42, r178_43, r178_45, r178_48, r178_50, r178_51, r178_54, r178_57, cs_nil, cs_cons, lc_lt, lc_ge, lc_gt, lc_le, lc_eq, o, as, nu, hb] using hq
    · simpa [r178_41, r178_42, r178_43, r178_45, r178_48, r178_50, r178_51, r178_54, r178_57, cs_nil, cs_cons, lc_lt, lc_ge, lc_gt, lc_le, lc_eq, o, as, nu, hb] using hq
    · simpa [r178_48, r178_50, r178_51, r178_54, r178_57, cs_nil, cs_cons, lc_lt, lc_ge, lc_gt, lc_le, lc_eq, hb] using hq
  simp [q178, r178_0, r178_1, r178_2, r178_3, r178_4, r178_7, r178_10, r178_11, r178_12, cs_nil, cs_cons, lc_lt, lc_ge, lc_gt, lc_le, lc_eq, fu]
  refine m_newName hN hM hp ?_ ?_
  · intro k q e k0 v g e5 e6 fr
    rw [e, b1_l] at hQ
    have := hQ k0 g e5 e6 (fun c j hc => fr c j (by omega))
    simpa using (bad g (by rw [e5]; exact k0) (MX_gIw hX (fun c j hc => fr c j (by omega))).1.1 this).1 v
  intro p2 e g2 M2 fa2
  rw [e, b1_r] at hQ
  clear e
  simp [r178_15, r178_16, r178_17, r178_18, r178_21, cs_nil, cs_cons, lc_lt, lc_ge, lc_gt, lc_le, lc_eq, own_fx M2.1.1.1]
  refine mm_ask hN M2 (k := 5) (by decide) (by omega) ?_ ?_
  · intro k q e k0 g e5 e6 fr
    rw [e, b1_l] at hQ
    have := hQ k0 g e5 e6 (fun c j hc => by rw [fr c j (by omega)]; exact fa2 c j (by omega))
    simpa using (bad g (by rw [e5]; exact k0) (MX_gIw hX (fun c j hc => by rw [fr c j (by omega)]; exact fa2 c j (by omega))).1.1 this).2.1 _
  intro p3 e g3 M3 fr
  rw [e, b1_r] at hQ
  clear e
  have fa3 : ∀ c j : Int, ¬ (c = 270 ∧ (j = 2 ∨ j = 4 ∨ j = 38)) → g3 c j = f c j := fun c j hc => by rw [fr c j (by omega)]; exact fa2 c j hc
  clear fr
  simp [r178_24, r178_25, r178_26, r178_28, cs_nil, cs_cons, lc_lt, lc_ge, lc_gt, lc_le, lc_eq]
  refine mm_num hN M3 ?_ ?_
  · intro k q e k0 v g vb e5 e6 fr
    rw [e, b1_l] at hQ
    have := hQ k0 g e5 e6 (fun c j hc => by rw [fr c j (by omega)]; exact fa3 c j (by omega))
    simpa using (bad g (by rw [e5]; exact k0) (MX_gIw hX (fun c j hc => by rw [fr c j (by omega)]; exact fa3 c j (by omega))).1.1 this).2.2.1 _ v
  intro p4 e g4 M4 fr
  rw [e, b1_r] at hQ
  clear e
  have fa4 : ∀ c j : Int, ¬ (c = 270 ∧ (j = 2 ∨ j = 4 ∨ j = 38)) → g4 c j = f c j := fun c j hc => by rw [fr c j (by omega)]; exact fa3 c j hc
  clear fr
  simp [r178_31, r178_33, r178_34, r178_35, r178_38, cs_nil, cs_cons, lc_lt, lc_ge, lc_gt, lc_le, lc_eq, own_fx M4.1.1.1]
  refine mm_ask hN M4 (k := 6) (by decide) (by omega) ?_ ?_
  · intro k q e k0 g e5 e6 fr
    rw [e, b1_l] at hQ
    have := hQ k0 g e5 e6 (fun c j hc => by rw [fr c j (by omega)]; exact fa4 c j (by omega))
    simpa using (bad g (by rw [e5]; exact k0) (MX_gIw hX (fun c j hc => by rw [fr c j (by omega)]; exact fa4 c j (by omega))).1.1 this).2.2.2.1 _ _
  intro p5 e g5 M5 fr
  rw [e, b1_r] at hQ
  clear e
  have fa5 : ∀ c j : Int, ¬ (c = 270 ∧ (j = 2 ∨ j = 4 ∨ j = 38)) → g5 c j = f c j := fun c j hc => by rw [fr c j (by omega)]; exact fa4 c j hc
  clear fr
  simp [r178_41, r178_42, r178_43, r178_45, cs_nil, cs_cons, lc_lt, lc_ge, lc_gt, lc_le, lc_eq]
  refine mm_num hN M5 ?_ ?_
  · intro k q e k0 v g vb e5 e6 fr
    rw [e, b1_l] at hQ
    have := hQ k0 g e5 e6 (fun c j hc => by rw [fr c j (by omega)]; exact fa5 c j (by omega))
    simpa using (bad g (by rw [e5]; exact k0) (MX_gIw hX (fun c j hc => by rw [fr c j (by omega)]; exact fa5 c j (by omega))).1.1 this).2.2.2.2 _ _ v
  intro p6 e g8 M8 fr
  rw [e, b1_r] at hQ
  clear e
  have fa8 : ∀ c j : Int, ¬ (c = 270 ∧ (j = 2 ∨ j = 4 ∨ j = 38)) → g8 c j = f c j := fun c j hc => by rw [fr c j (by omega)]; exact fa5 c j hc
  clear fr
  obtain ⟨hX8, hP8, ⟨c5, c6⟩, hI8, p80, p8N, hcd8⟩ := id M8
  obtain ⟨t, ht⟩ : ∃ t, I.1 1 = t := ⟨_, rfl⟩
  rw [ht] at m1 h8
  have t8 : t < 4 := by omega
  have m0 := hp.1.1.2
  have m2 := hp.1.2.2.2
  have e301 : g8 301 1 = t := by rw [hI8.1.2.1, ht]
  have ad := fun (dd : Nat) (QQ : am_V → am_F → Prop) (v : Int) => m_adds (d := dd) (Q := QQ) (c := 1) (v := v) (fx_270_39 hX8.1.1) (fx_270_40 hX8.1.1) (by omega) e301 m1.1 (by omega)
  simp only [show (8 : Int) * 1 + t = 8 + t by omega] at ad
  have x41 : (am_up (am_up g8 302 (8 + t) (nv (tN B N p))) 301 1 (t + 1)) 270 42 = 304 := by rw [am_un (by omega), am_un (by omega)]; exact fx_270_42 hX8.1.1
  have fr9 : ∀ c j : Int, ¬ ((c = 302 ∧ j = 8 + t) ∨ (c = 301 ∧ j = 1) ∨ (c = 304 ∧ 2 * t ≤ j ∧ j ≤ 2 * t + 1)) → (am_up (am_up (am_up (am_up g8 302 (8 + t) (nv (tN B N p))) 301 1 (t + 1)) 304 (2 * t) (tV B N p3)) 304 (2 * t + 1) (tV B N p5)) c j = g8 c j := fun c j hc => by rw [am_un (by omega), am_un (by omega), am_un (by omega), am_un (by omega)]
  have fin := hQ (am_up (am_up (am_up (am_up g8 302 (8 + t) (nv (tN B N p))) 301 1 (t + 1)) 304 (2 * t) (tV B N p3)) 304 (2 * t + 1) (tV B N p5)) cd ⟨MX_gIw hX8 (fun c j hc => fr9 c j (by omega)), ⟨by rw [fr9 _ _ (by omega)]; exact hP8.1, by rw [fr9 _ _ (by omega)]; exact hP8.2.1, by rw [fr9 _ _ (by omega)]; exact hP8.2.2⟩, ⟨by rw [fr9 _ _ (by omega)]; exact c5, by rw [fr9 _ _ (by omega)]; exact c6⟩, MI_M hI8 ht m1.1 t8 m0 m2 fr9 (by rw [am_un (by omega), am_un (by omega), am_un (by omega), am_ue]) (by rw [am_un (by omega), am_ue]) am_ue (by rw [am_un (by omega), am_un (by omega), am_ue]), p80, p8N, hcd8⟩ (fun c j hc => by rw [fr9 c j (by omega)]; exact fa8 c j (by omega))
  simpa (disch := omega) [r178_48, r178_50, r178_51, r178_54, r178_57, r178_58, r178_59, r178_60, r178_61, r178_62, r178_65, r178_66, r178_68, r178_69, r178_72, r178_74, r178_76, r178_77, r178_78, r178_81, r178_83, r178_84, r178_85, r178_87, r178_88, cs_nil, cs_cons, lc_lt, lc_ge, lc_gt, lc_le, lc_eq, c5, ad, x41, am_un, ln_304, am_wid2, am_fitE, le_T, lt_T] using fin
end
