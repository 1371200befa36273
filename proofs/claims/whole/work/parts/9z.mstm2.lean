/-! islands: the model reads statements -/
section
variable {d : Nat} {f g : am_F} {B : Int → Int} {N p cd q0 : Int} {Q : am_V → am_F → Prop} {I : IS}
def fW4 (f g : am_F) : Prop := ∀ c j : Int, ¬ (c = 270 ∧ (j = 2 ∨ j = 4)) → g c j = f c j
def fW6 (f g : am_F) : Prop := ∀ c j : Int, ¬ (c = 270 ∧ (j = 2 ∨ (4 ≤ j ∧ j ≤ 6))) → g c j = f c j
theorem MM_w {p2 : Int} (hM : MM f B N p I cd) (fr : fW4 f g) (hP : PP g B N p2) (h : p ≤ p2 ∧ p2 ≤ N) : MM g B N p2 I cd := by
  obtain ⟨hX, _, ⟨b5, b6⟩, hI, p0, pN, hcd⟩ := hM
  exact ⟨MX_gIw hX (fun c j hc => fr c j (by omega)), hP, ⟨(fr _ _ (by omega)).trans b5, (fr _ _ (by omega)).trans b6⟩, MI_fr hI (fun c j hc => fr c j (by omega)), by omega, h.2, by omega⟩
theorem mm_ask {wa k : Int} (hN : N ≤ 1600) (hM : MM f B N p I cd) (hw : (wa, k) ∈ HWL) (k0 : 0 ≤ k) (hF : ∀ k' q, rWd B N k p = .inl (k', q) → ¬ k' = 0 → ∀ g, g 270 5 = k' → g 270 6 = q → fW6 f g → Q (3, 0) g) (hO : ∀ p2, rWd B N k p = .inr p2 → ∀ g, MM g B N p2 I cd → fW4 f g → Q (3, 0) g) : aw_cl (d + 3) 173 [(110, 270), (22, wa)] f Q := by
  obtain ⟨hX, hP, ⟨b5, b6⟩, hI, p0, pN, hcd⟩ := id hM
  have hh := hw_of hX.1.2 (q := (wa, k)) hw
  by_cases q : tW B N p = k
  · have gb := tW_b pN (show ¬ tW B N p = -1 by omega)
    have k1 := tW_k (B := B) (N := N) (p := p) (by omega)
    rw [m_asksY hX hN p0 pN hP b5 hh q]
    have fr : fW4 f (am_up (am_up f 270 2 (tE B N p)) 270 4 (tE B N p)) := fun c j hc => by rw [am_un (by omega), am_un (by omega)]
    exact hO (tE B N p) (by unfold rWd; rw [if_pos q]) _ (MM_w hM fr (PP_word (Or.inl rfl) k1 p0 pN (by rw [am_un (by omega), am_ue]) am_ue) (by omega)) fr
  · rw [m_asksN hX hN p0 pN hP b5 hh q]
    exact hF 1 (tS B N p) (by unfold rWd; rw [if_neg q]) (by omega) _ (by rw [am_un (by omega), am_ue]) am_ue (fun c j hc => by rw [am_un (by omega), am_un (by omega), am_un (by omega)])
theorem mm_num {a b : Int} (hN : N ≤ 1600) (hM : MM f B N p I cd) (hF : ∀ k' q, rNu B N a b p = .inl (k', q) → ¬ k' = 0 → ∀ v g, (-1 ≤ v ∧ v ≤ 9999) → g 270 5 = k' → g 270 6 = q → fW6 f g → Q (0, v) g) (hO : ∀ p2, rNu B N a b p = .inr p2 → ∀ g, MM g B N p2 I cd → fW4 f g → Q (0, tV B N p) g) : aw_cl (d + 1) 174 [(110, 270), (0, a), (0, b)] f Q := by
  obtain ⟨hX, hP, ⟨b5, b6⟩, hI, p0, pN, hcd⟩ := id hM
  by_cases hk : tK B N p = 2
  · have tb := tok_b pN (show ¬ tK B N p = 0 by omega)
    have vb := tV_b pN hk
    by_cases hl : 4 < tE B N p - tS B N p
    · rw [m_numL hX hN p0 pN hP b5 hk hl]
      exact hF 1 (tS B N p + 4) (by unfold rNu; rw [if_neg (fun q => q hk), if_pos hl]) (by omega) _ _ (by omega) (by rw [am_un (by omega), am_ue]) am_ue (fun c j hc => by rw [am_un (by omega), am_un (by omega), am_un (by omega)])
    · rw [m_numY hX hN p0 pN hP b5 hk (by omega)]
      by_cases h2 : a ≤ tV B N p ∧ tV B N p ≤ b
      · rw [if_pos h2]
        have fr : fW4 f (am_up (am_up f 270 2 (tE B N p)) 270 4 (tE B N p)) := fun c j hc => by rw [am_un (by omega), am_un (by omega)]
        exact hO (tE B N p) (by unfold rNu; rw [if_neg (fun q => q hk), if_neg hl, if_pos h2]) _ (MM_w hM fr (PP_word (Or.inr rfl) hk p0 pN (by rw [am_un (by omega), am_ue]) am_ue) (by omega)) fr
      · rw [if_neg h2]
        exact hF 2 (tS B N p) (by unfold rNu; rw [if_neg (fun q => q hk), if_neg hl, if_neg h2]) (by omega) _ _ (by omega) (by rw [am_un (by omega), am_ue]) am_ue (fun c j hc => by rw [am_un (by omega), am_un (by omega), am_un (by omega), am_un (by omega)])
  · rw [m_numN hX hN p0 pN hP b5 hk]
    exact hF 1 (tS B N p) (by unfold rNu; rw [if_pos hk]) (by omega) _ _ (by omega) (by rw [am_un (by omega), am_ue]) am_ue (fun c j hc => by rw [am_un (by omega), am_un (by omega), am_un (by omega)])
theorem m_full {c room q : Int} (hb : f 270 5 = 0) (x39 : f 270 39 = 301) (hc : 0 ≤ c ∧ c < 3) : aw_cl (d + 1) 169 [(110, 270), (0, c), (0, room), (0, q)] f Q = if f 301 c = room then Q (0, 1) (am_up (am_up f 270 5 5) 270 6 q) else Q (0, 0) f := by
  by_cases e : f 301 c = room
  · rw [if_pos e]
    apply aw_det
    simp (disch := omega) [q169, r169_0, r169_1, r169_4, r169_7, r169_8, r169_11, r169_12, r169_13, r169_14, r169_17, r169_18, r169_19, r169_20, r169_23, r169_24, r169_27, r169_30, r169_31, r169_34, r169_35, cs_nil, cs_cons, lc_lt, lc_ge, lc_gt, lc_le, lc_eq, hb, x39, ln_301, e, m_fail hb, am_un, am_ue, le_T, lt_T]
  · rw [if_neg e]
    apply aw_det
    simp (disch := omega) [q169, r169_0, r169_1, r169_4, r169_7, r169_8, r169_11, r169_12, r169_13, r169_14, r169_17, r169_18, r169_19, r169_20, r169_23, r169_24, r169_27, r169_30, r169_31, r169_34, r169_35, cs_nil, cs_cons, lc_lt, lc_ge, lc_gt, lc_le, lc_eq, hb, x39, ln_301, e, le_T, lt_T]
theorem m_adds {c v n : Int} (x39 : f 270 39 = 301) (x40 : f 270 40 = 302) (hc : 0 ≤ c ∧ c < 3) (hn : f 301 c = n) (n0 : 0 ≤ n) (n8 : n < 8) : aw_cl d 177 [(110, 270), (0, c), (1, v)] f Q = Q (0, n) (am_up (am_up f 302 (8 * c + n) v) 301 c (n + 1)) := by
  have e1 : n + 1 - 1 = n := by omega
  apply aw_det
  simp (disch := omega) [q177, r177_0, r177_1, r177_4, r177_6, r177_7, r177_8, r177_9, r177_12, r177_13, r177_14, r177_15, r177_16, r177_17, r177_18, r177_21, r177_22, r177_23, r177_24, r177_25, r177_26, r177_27, r177_28, r177_31, r177_32, r177_33, r177_34, r177_35, cs_nil, cs_cons, lc_lt, lc_ge, lc_gt, lc_le, lc_eq, x39, x40, hn, ln_301, ln_302, am_un, am_ue, am_wid2, am_fitE, e1, le_T, lt_T]
/-- what a statement comes to, on the model's side -/
def TQ (B : Int → Int) (N : Int) (f : am_F) (Q : am_V → am_F → Prop) : RI → Prop
  | .inl (k, q) => ¬ k = 0 → ∀ g, g 270 5 = k → g 270 6 = q → gIw f g → Q (3, 0) g
  | .inr (p', I') => ∀ g cd', MM g B N p' I' cd' → gI f g → Q (3, 0) g
theorem MI_T {t : Int} {rs : List Int} {v1 v2 v3 : Int} (h : MI f I cd) (ht : I.1 0 = t) (h0 : 0 ≤ t) (ht8 : t < 8) (m1 : I.1 1 ≤ 4) (m2 : I.1 2 ≤ 5) (hg : ∀ c j : Int, ¬ ((c = 302 ∧ j = t) ∨ (c = 301 ∧ j = 0) ∨ (c = 303 ∧ 3 * t ≤ j ∧ j ≤ 3 * t + 2)) → g c j = f c j) (e1 : g 302 t = nv rs) (e2 : g 303 (3 * t) = v1) (e3 : g 303 (3 * t + 1) = v2) (e4 : g 303 (3 * t + 2) = v3) (e9 : g 301 0 = t + 1) : MI g (u1 I.1 0 (I.1 0 + 1), am_up (am_up (am_up I.2.1 2 (I.1 0) v1) 3 (I.1 0) v2) 4 (I.1 0) v3, I.2.2.1, I.2.2.2.1, u1 I.2.2.2.2 (0 + I.1 0) rs) cd := by
  obtain ⟨⟨a0, a1, a2, a3, a4⟩, hT, hM, hR, hW, hU, hs, s0⟩ := h
  have n1 : ∀ k : Int, ¬ k = 0 → u1 I.1 0 (I.1 0 + 1) k = I.1 k := fun k hk => u1_n hk
  refine ⟨⟨?_, ?_, ?_, ?_, ?_⟩, ?_, ?_, ?_, ?_, ?_, ?_, s0⟩
  · show g 301 0 = u1 I.1 0 (I.1 0 + 1) 0
    rw [u1_e, e9, ht]
  · show g 301 1 = u1 I.1 0 (I.1 0 + 1) 1
    rw [n1 1 (by omega), hg _ _ (by omega)]; exact a1
  · show g 301 2 = u1 I.1 0 (I.1 0 + 1) 2
    rw [n1 2 (by omega), hg _ _ (by omega)]; exact a2
  · show _ = am_up (am_up (am_up I.2.1 2 (I.1 0) v1) 3 (I.1 0) v2) 4 (I.1 0) v3 0 0
    rw [am_un (by omega), am_un (by omega), am_un (by omega), hg _ _ (by omega)]; exact a3
  · show _ = am_up (am_up (am_up I.2.1 2 (I.1 0) v1) 3 (I.1 0) v2) 4 (I.1 0) v3 0 1
    rw [am_un (by omega), am_un (by omega), am_un (by omega), hg _ _ (by omega)]; exact a4
  · intro k k0 k1
    have k1 : k < u1 I.1 0 (I.1 0 + 1) 0 := k1
    rw [u1_e] at k1
    show g 302 (0 + k) = nv (u1 I.2.2.2.2 (0 + I.1 0) rs (0 + k)) ∧ g 303 (3 * k) = am_up (am_up (am_up I.2.1 2 (I.1 0) v1) 3 (I.1 0) v2) 4 (I.1 0) v3 2 k ∧ g 303 (3 * k + 1) = am_up (am_up (am_up I.2.1 2 (I.1 0) v1) 3 (I.1 0) v2) 4 (I.1 0) v3 3 k ∧ g 303 (3 * k + 2) = am_up (am_up (am_up I.2.1 2 (I.1 0) v1) 3 (I.1 0) v2) 4 (I.1 0) v3 4 k
    by_cases q : k = t
    · subst q
      rw [ht, u1_e, am_un (by omega), am_un (by omega), am_ue, am_un (by omega), am_ue, am_ue, show 0 + k = k by omega]
      exact ⟨e1, e2, e3, e4⟩
    · rw [u1_n (by omega), am_un (by omega), am_un (by omega), am_un (by omega), am_un (by omega), am_un (by omega), am_un (by omega), am_un (by omega), am_un (by omega), am_un (by omega), hg _ _ (by omega), hg _ _ (by omega), hg _ _ (by omega), hg _ _ (by omega)]
      exact hT k k0 (by omega)
  · intro k k0 k1
    have k1 : k < u1 I.1 0 (I.1 0 + 1) 1 := k1
    rw [n1 1 (by omega)] at k1
    show g 302 (8 + k) = nv (u1 I.2.2.2.2 (0 + I.1 0) rs (8 + k)) ∧ g 304 (2 * k) = am_up (am_up (am_up I.2.1 2 (I.1 0) v1) 3 (I.1 0) v2) 4 (I.1 0) v3 6 k ∧ g 304 (2 * k + 1) = am_up (am_up (am_up I.2.1 2 (I.1 0) v1) 3 (I.1 0) v2) 4 (I.1 0) v3 7 k
    rw [u1_n (by omega), am_un (by omega), am_un (by omega), am_un (by omega), am_un (by omega), am_un (by omega), am_un (by omega), hg _ _ (by omega), hg _ _ (by omega), hg _ _ (by omega)]
    exact hM k k0 k1
  · intro k k0 k1
    have k1 : k < u1 I.1 0 (I.1 0 + 1) 2 := k1
    rw [n1 2 (by omega)] at k1
    show g 302 (16 + k) = nv (u1 I.2.2.2.2 (0 + I.1 0) rs (16 + k))
    rw [u1_n (by omega), hg _ _ (by omega)]
    exact hR k k0 k1
  · intro w w0 w1 hw
    obtain ⟨k0, a, b, c, e, al0⟩ := hW w w0 w1 hw
    refine ⟨k0, ?_, ?_, c, e, al_fr _ _ (fun j _ _ => hg _ _ (by omega)) al0⟩
    · rw [hg _ _ (by omega)]; exact a
    · rw [hg _ _ (by omega)]; exact b
  · intro w w0 w1 hw
    rw [hg _ _ (by omega)]
    exact hU w w0 w1 hw
  · rw [hg _ _ (by omega)]; exact hs
theorem m_sT (hN : N ≤ 1600) (hM : MM f B N p I cd) (hp : PI I) (hQ : TQ B N f Q (if I.1 0 = 8 then .inl (5, q0) else b1 (rNm B N I p) fun p2 => b1 (rWd B N 1 p2) fun p3 => b1 (rNu B N 0 99 p3) fun p4 => b1 (rWd B N 2 p4) fun p5 => b1 (rNu B N 0 99 p5) fun p6 => b1 (rWd B N 3 p6) fun p7 => b1 (rNu B N 0 9 p7) fun p8 => .inr (p8, (u1 I.1 0 (I.1 0 + 1), am_up (am_up (am_up I.2.1 2 (I.1 0) (tV B N p3)) 3 (I.1 0) (tV B N p5)) 4 (I.1 0) (tV B N p7), I.2.2.1, I.2.2.2.1, u1 I.2.2.2.2 (0 + I.1 0) (tN B N p))))) : aw_cl (d + 6) 168 [(110, 270), (0, q0)] f Q := by
  obtain ⟨hX, hP, ⟨b5, b6⟩, hI, p0, pN, hcd⟩ := id hM
  have x1 := hX.1.1
  have x39 := fx_270_39 x1
  have fu := fun (dd : Nat) (QQ : am_V → am_F → Prop) => m_full (d := dd) (Q := QQ) (c := 0) (room := 8) (q := q0) b5 x39 (by omega)
  simp only [hI.1.1] at fu
  by_cases h8 : I.1 0 = 8
  · rw [if_pos h8] at hQ
    simp only [if_pos h8] at fu
    have := hQ (by omega) (am_up (am_up f 270 5 5) 270 6 q0) (by rw [am_un (by omega), am_ue]) am_ue (fun c j hc => by rw [am_un (by omega), am_un (by omega)])
    simpa [q168, r168_0, r168_1, r168_2, r168_4, r168_5, r168_8, r168_11, cs_nil, cs_cons, lc_lt, lc_ge, lc_gt, lc_le, lc_eq, fu] using this
  rw [if_neg h8] at hQ
  simp only [if_neg h8] at fu
  have m0 := hp.1.1
  -- behind a fault nothing is done
  have bad : ∀ (g : am_F), ¬ g 270 5 = 0 → aw_fx g → Q (3, 0) g → (∀ v, aw_wp (d + 6) 168 16 [(110, 270), (0, q0), (2, 0), (2, 0), (2, 0), (2, 0), (2, 0), (2, 0)] [(1, v)] g Q) ∧ (∀ v, aw_wp (d + 6) 168 25 [(110, 270), (0, q0), (1, v), (2, 0), (2, 0), (2, 0), (2, 0), (2, 0)] [] g Q) ∧ (∀ v w, aw_wp (d + 6) 168 32 [(110, 270), (0, q0), (1, v), (2, 0), (2, 0), (2, 0), (2, 0), (2, 0)] [(0, w)] g Q) ∧ (∀ v a, aw_wp (d + 6) 168 42 [(110, 270), (0, q0), (1, v), (2, 0), (0, a), (2, 0), (2, 0), (2, 0)] [] g Q) ∧ (∀ v a w, aw_wp (d + 6) 168 49 [(110, 270), (0, q0), (1, v), (2, 0), (0, a), (2, 0), (2, 0), (2, 0)] [(0, w)] g Q) ∧ (∀ v a b, aw_wp (d + 6) 168 59 [(110, 270), (0, q0), (1, v), (2, 0), (0, a), (0, b), (2, 0), (2, 0)] [] g Q) ∧ (∀ v a b w, aw_wp (d + 6) 168 66 [(110, 270), (0, q0), (1, v), (2, 0), (0, a), (0, b), (2, 0), (2, 0)] [(0, w)] g Q) := by
    intro g hb hx hq
    have as := fun (dd : Nat) (QQ : am_V → am_F → Prop) (wa : Int) => m_asksB (d := dd) (Q := QQ) (wa := wa) hb
    have nu := fun (dd : Nat) (QQ : am_V → am_F → Prop) (a b : Int) => m_numB (d := dd) (Q := QQ) (a := a) (b := b) hb
    have o := own_fx hx
    refine ⟨fun v => ?_, fun v => ?_, fun v w => ?_, fun v a => ?_, fun v a w => ?_, fun v a b => ?_, fun v a b w => ?_⟩
    · simpa [r168_16, r168_17, r168_18, r168_19, r168_22, r168_25, r168_26, r168_27, r168_29, r168_32, r168_34, r168_35, r168_36, r168_39, r168_42, r168_43, r168_44, r168_46, r168_49, r168_51, r168_52, r168_53, r168_56, r168_59, r168_60, r168_61, r168_63, r168_66, r168_68, r168_69, r168_72, r168_75, cs_nil, cs_cons, lc_lt, lc_ge, lc_gt, lc_le, lc_eq, o, as, nu, hb] using hq
    · simpa [r168_25, r168_26, r168_27, r168_29, r168_32, r168_34, r168_35, r168_36, r168_39, r168_42, r168_43, r168_44, r168_46, r168_49, r168_51, r168_52, r168_53, r168_56, r168_59, r168_60, r168_61, r168_63, r168_66, r168_68, r168_69, r168_72, r168_75, cs_nil, cs_cons, lc_lt, lc_ge, lc_gt, lc_le, lc_eq, o, as, nu, hb] using hq
    · simpa [r168_32, r168_34, r168_35, r168_36, r168_39, r168_42, r168_43, r168_44, r168_46, r168_49, r168_51, r168_52, r168_53, r168_56, r168_59, r168_60, r168_61, r168_63, r168_66, r168_68, r168_69, r168_72, r168_75, cs_nil, cs_cons, lc_lt, lc_ge, lc_gt, lc_le, lc_eq, o, as, nu, hb] using hq
    · simpa [r168_42, r168_43, r168_44, r168_46, r168_49, r168_51, r168_52, r168_53, r168_56, r168_59, r168_60, r168_61, r168_63, r168_66, r168_68, r168_69, r168_72, r168_75, cs_nil, cs_cons, lc_lt, lc_ge, lc_gt, lc_le, lc_eq, o, as, nu, hb] using hq
    · simpa [r168_49, r168_51, r168_52, r168_53, r168_56, r168_59, r168_60, r168_61, r168_63, r168_66, r168_68, r168_69, r168_72, r168_75, cs_nil, cs_cons, lc_lt, lc_ge, lc_gt, lc_le, lc_eq, o, as, nu, hb] using hq
    · simpa [r168_59, r168_60, r168_61, r168_63, r168_66, r168_68, r168_69, r168_72, r168_75, cs_nil, cs_cons, lc_lt, lc_ge, lc_gt, lc_le, lc_eq, o, as, nu, hb] using hq
    · simpa [r168_66, r168_68, r168_69, r168_72, r168_75, cs_nil, cs_cons, lc_lt, lc_ge, lc_gt, lc_le, lc_eq, hb] using hq
  simp [q168, r168_0, r168_1, r168_2, r168_4, r168_5, r168_8, r168_11, r168_12, r168_13, cs_nil, cs_cons, lc_lt, lc_ge, lc_gt, lc_le, lc_eq, fu]
  refine m_newName hN hM hp ?_ ?_
  · intro k q e k0 v g e5 e6 fr
    rw [e, b1_l] at hQ
    have := hQ k0 g e5 e6 (fun c j hc => fr c j (by omega))
    simpa using (bad g (by rw [e5]; exact k0) (MX_gIw hX (fun c j hc => fr c j (by omega))).1.1 this).1 v
  intro p2 e g2 M2 fa2
  rw [e, b1_r] at hQ
  clear e
  simp [r168_16, r168_17, r168_18, r168_19, r168_22, cs_nil, cs_cons, lc_lt, lc_ge, lc_gt, lc_le, lc_eq, own_fx M2.1.1.1]
  refine mm_ask hN M2 (k := 1) (by decide) (by omega) ?_ ?_
  · intro k q e k0 g e5 e6 fr
    rw [e, b1_l] at hQ
    have := hQ k0 g e5 e6 (fun c j hc => by rw [fr c j (by omega)]; exact fa2 c j (by omega))
    simpa using (bad g (by rw [e5]; exact k0) (MX_gIw hX (fun c j hc => by rw [fr c j (by omega)]; exact fa2 c j (by omega))).1.1 this).2.1 _
  intro p3 e g3 M3 fr
  rw [e, b1_r] at hQ
  clear e
  have fa3 : ∀ c j : Int, ¬ (c = 270 ∧ (j = 2 ∨ j = 4 ∨ j = 38)) → g3 c j = f c j := fun c j hc => by rw [fr c j (by omega)]; exact fa2 c j hc
  clear fr
  simp [r168_25, r168_26, r168_27, r168_29, cs_nil, cs_cons, lc_lt, lc_ge, lc_gt, lc_le, lc_eq]
  refine mm_num hN M3 ?_ ?_
  · intro k q e k0 v g vb e5 e6 fr
    rw [e, b1_l] at hQ
    have := hQ k0 g e5 e6 (fun c j hc => by rw [fr c j (by omega)]; exact fa3 c j (by omega))
    simpa using (bad g (by rw [e5]; exact k0) (MX_gIw hX (fun c j hc => by rw [fr c j (by omega)]; exact fa3 c j (by omega))).1.1 this).2.2.1 _ v
  intro p4 e g4 M4 fr
  rw [e, b1_r] at hQ
  clear e
  have fa4 : ∀ c j : Int, ¬ (c = 270 ∧ (j = 2 ∨ j = 4 ∨ j = 38)) → g4 c j = f c j := fun c j hc => by rw [fr c j (by omega)]; exact fa3 c j hc
  clear fr
  simp [r168_32, r168_34, r168_35, r168_36, r168_39, cs_nil, cs_cons, lc_lt, lc_ge, lc_gt, lc_le, lc_eq, own_fx M4.1.1.1]
  refine mm_ask hN M4 (k := 2) (by decide) (by omega) ?_ ?_
  · intro k q e k0 g e5 e6 fr
    rw [e, b1_l] at hQ
    have := hQ k0 g e5 e6 (fun c j hc => by rw [fr c j (by omega)]; exact fa4 c j (by omega))
    simpa using (bad g (by rw [e5]; exact k0) (MX_gIw hX (fun c j hc => by rw [fr c j (by omega)]; exact fa4 c j (by omega))).1.1 this).2.2.2.1 _ _
  intro p5 e g5 M5 fr
  rw [e, b1_r] at hQ
  clear e
  have fa5 : ∀ c j : Int, ¬ (c = 270 ∧ (j = 2 ∨ j = 4 ∨ j = 38)) → g5 c j = f c j := fun c j hc => by rw [fr c j (by omega)]; exact fa4 c j hc
  clear fr
  simp [r168_42, r168_43, r168_44, r168_46, cs_nil, cs_cons, lc_lt, lc_ge, lc_gt, lc_le, lc_eq]
  refine mm_num hN M5 ?_ ?_
  · intro k q e k0 v g vb e5 e6 fr
    rw [e, b1_l] at hQ
    have := hQ k0 g e5 e6 (fun c j hc => by rw [fr c j (by omega)]; exact fa5 c j (by omega))
    simpa using (bad g (by rw [e5]; exact k0) (MX_gIw hX (fun c j hc => by rw [fr c j (by omega)]; exact fa5 c j (by omega))).1.1 this).2.2.2.2.1 _ _ v
  intro p6 e g6 M6 fr
  rw [e, b1_r] at hQ
  clear e
  have fa6 : ∀ c j : Int, ¬ (c = 270 ∧ (j = 2 ∨ j = 4 ∨ j = 38)) → g6 c j = f c j := fun c j hc => by rw [fr c j (by omega)]; exact fa5 c j hc
  clear fr
  simp [r168_49, r168_51, r168_52, r168_53, r168_56, cs_nil, cs_cons, lc_lt, lc_ge, lc_gt, lc_le, lc_eq, own_fx M6.1.1.1]
  refine mm_ask hN M6 (k := 3) (by decide) (by omega) ?_ ?_
  · intro k q e k0 g e5 e6 fr
    rw [e, b1_l] at hQ
    have := hQ k0 g e5 e6 (fun c j hc => by rw [fr c j (by omega)]; exact fa6 c j (by omega))
    simpa using (bad g (by rw [e5]; exact k0) (MX_gIw hX (fun c j hc => by rw [fr c j (by omega)]; exact fa6 c j (by omega))).1.1 this).2.2.2.2.2.1 _ _ _
  intro p7 e g7 M7 fr
  rw [e, b1_r] at hQ
  clear e
  have fa7 : ∀ c j : Int, ¬ (c = 270 ∧ (j = 2 ∨ j = 4 ∨ j = 38)) → g7 c j = f c j := fun c j hc => by rw [fr c j (by omega)]; exact fa6 c j hc
  clear fr
  simp [r168_59, r168_60, r168_61, r168_63, cs_nil, cs_cons, lc_lt, lc_ge, lc_gt, lc_le, lc_eq]
  refine mm_num hN M7 ?_ ?_
  · intro k q e k0 v g vb e5 e6 fr
    rw [e, b1_l] at hQ
    have := hQ k0 g e5 e6 (fun c j hc => by rw [fr c j (by omega)]; exact fa7 c j (by omega))
    simpa using (bad g (by rw [e5]; exact k0) (MX_gIw hX (fun c j hc => by rw [fr c j (by omega)]; exact fa7 c j (by omega))).1.1 this).2.2.2.2.2.2 _ _ _ v
  intro p8 e g8 M8 fr
  rw [e, b1_r] at hQ
  clear e
  have fa8 : ∀ c j : Int, ¬ (c = 270 ∧ (j = 2 ∨ j = 4 ∨ j = 38)) → g8 c j = f c j := fun c j hc => by rw [fr c j (by omega)]; exact fa7 c j hc
  clear fr
  obtain ⟨hX8, hP8, ⟨c5, c6⟩, hI8, p80, p8N, hcd8⟩ := id M8
  obtain ⟨t, ht⟩ : ∃ t, I.1 0 = t := ⟨_, rfl⟩
  rw [ht] at m0 h8
  have t8 : t < 8 := by omega
  have m1 := hp.1.2.1.2
  have m2 := hp.1.2.2.2
  have e301 : g8 301 0 = t := by rw [hI8.1.1, ht]
  have ad := fun (dd : Nat) (QQ : am_V → am_F → Prop) (v : Int) => m_adds (d := dd) (Q := QQ) (c := 0) (v := v) (fx_270_39 hX8.1.1) (fx_270_40 hX8.1.1) (by omega) e301 m0.1 t8
  simp only [show (8 : Int) * 0 + t = t by omega] at ad
  have x41 : (am_up (am_up g8 302 t (nv (tN B N p))) 301 0 (t + 1)) 270 41 = 303 := by rw [am_un (by omega), am_un (by omega)]; exact fx_270_41 hX8.1.1
  have fr9 : ∀ c j : Int, ¬ ((c = 302 ∧ j = t) ∨ (c = 301 ∧ j = 0) ∨ (c = 303 ∧ 3 * t ≤ j ∧ j ≤ 3 * t + 2)) → (am_up (am_up (am_up (am_up (am_up g8 302 t (nv (tN B N p))) 301 0 (t + 1)) 303 (3 * t) (tV B N p3)) 303 (3 * t + 1) (tV B N p5)) 303 (3 * t + 2) (tV B N p7)) c j = g8 c j := fun c j hc => by rw [am_un (by omega), am_un (by omega), am_un (by omega), am_un (by omega), am_un (by omega)]
  have fin := hQ (am_up (am_up (am_up (am_up (am_up g8 302 t (nv (tN B N p))) 301 0 (t + 1)) 303 (3 * t) (tV B N p3)) 303 (3 * t + 1) (tV B N p5)) 303 (3 * t + 2) (tV B N p7)) cd ⟨MX_gIw hX8 (fun c j hc => fr9 c j (by omega)), ⟨by rw [fr9 _ _ (by omega)]; exact hP8.1, by rw [fr9 _ _ (by omega)]; exact hP8.2.1, by rw [fr9 _ _ (by omega)]; exact hP8.2.2⟩, ⟨by rw [fr9 _ _ (by omega)]; exact c5, by rw [fr9 _ _ (by omega)]; exact c6⟩, MI_T hI8 ht m0.1 t8 m1 m2 fr9 (by rw [am_un (by omega), am_un (by omega), am_un (by omega), am_un (by omega), am_ue]) (by rw [am_un (by omega), am_un (by omega), am_ue]) (by rw [am_un (by omega), am_ue]) am_ue (by rw [am_un (by omega), am_un (by omega), am_un (by omega), am_ue]), p80, p8N, hcd8⟩ (fun c j hc => by rw [fr9 c j (by omega)]; exact fa8 c j (by omega))
  simpa (disch := omega) [r168_66, r168_68, r168_69, r168_72, r168_75, r168_76, r168_77, r168_78, r168_79, r168_80, r168_83, r168_84, r168_86, r168_87, r168_90, r168_92, r168_94, r168_95, r168_96, r168_99, r168_101, r168_102, r168_103, r168_105, r168_106, r168_107, r168_110, r168_112, r168_113, r168_114, r168_116, r168_117, cs_nil, cs_cons, lc_lt, lc_ge, lc_gt, lc_le, lc_eq, c5, ad, x41, am_un, ln_303, am_wid2, am_fitE, le_T, lt_T] using fin
end
