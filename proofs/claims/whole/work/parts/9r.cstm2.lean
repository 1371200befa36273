/-! islands: the one side reads statements -/
def fIs (l : Int) (f g : am_F) : Prop := ∀ c j : Int, ¬ ((c = 33 ∧ 3 ≤ j ∧ j ≤ 9) ∨ (c = l ∧ 9 ≤ j) ∨ (l + 1 ≤ c ∧ c ≤ l + 8) ∨ (c = l + 9 ∧ j = 3) ∨ (l + 10 ≤ c ∧ c ≤ l + 12)) → g c j = f c j
def fIw (l : Int) (f g : am_F) : Prop := ∀ c j : Int, ¬ ((c = 33 ∧ ((3 ≤ j ∧ j ≤ 9) ∨ j = 11 ∨ j = 12)) ∨ (c = l ∧ 9 ≤ j) ∨ (l + 1 ≤ c ∧ c ≤ l + 8) ∨ (c = l + 9 ∧ j = 3) ∨ (l + 10 ≤ c ∧ c ≤ l + 12)) → g c j = f c j
theorem fIs_tr {l : Int} {f g h : am_F} (h1 : fIs l f g) (h2 : fIs l g h) : fIs l f h := fun c j hc => (h2 c j hc).trans (h1 c j hc)
theorem fIw_tr {l : Int} {f g h : am_F} (h1 : fIs l f g) (h2 : fIw l g h) : fIw l f h := fun c j hc => (h2 c j hc).trans (h1 c j (by omega))
theorem fIw_fl {l : Int} {f g : am_F} {k q : Int} (h1 : fIs l f g) : fIw l f (am_up (am_up g 33 11 k) 33 12 q) := fun c j hc => by rw [am_un (by omega), am_un (by omega)]; exact h1 c j (by omega)
theorem cr_b {w : Int} (h0 : 0 ≤ w) (h1 : w < 10) : 0 ≤ cr w ∧ cr w < 10 := by unfold cr; split <;> omega
theorem cr_i {w v : Int} (h0 : 0 ≤ w) (h1 : w < 10) (h2 : 0 ≤ v) (h3 : v < 10) (h : cr w = cr v) : w = v := by
  unfold cr at h
  split at h <;> split at h <;> omega
section
variable {d : Nat} {f g : am_F} {B : Int → Int} {N p l sz : Int} {Q : am_V → am_F → Prop} {I : IS}
/-- what a statement comes to -/
def SQ (B : Int → Int) (N l : Int) (f : am_F) (Q : am_V → am_F → Prop) : RI → Prop
  | .inl (k, q) => ∀ g, g 33 11 = k → g 33 12 = q → fIw l f g → Q (0, 0) g
  | .inr (p', I') => ∀ g sz', CK g B N p' → CI g l I' sz' → sz' ≤ p' → fIs l f g → Q (0, 1) g
theorem CT_33 (h : CT f B N) (hg : ∀ c j : Int, c = 33 ∧ j = 0 ∨ c = 14 ∨ c = 15 → g c j = f c j) : CT g B N := by
  obtain ⟨a1, a2, a3, a4⟩ := h
  refine ⟨?_, ?_, ?_, fun j => ?_⟩
  · rw [hg _ _ (by omega)]; exact a1
  · rw [hg _ _ (by omega)]; exact a2
  · rw [hg _ _ (by omega)]; exact a3
  · rw [hg _ _ (by omega)]; exact a4 j
theorem CI_T {t : Int} {rs : List Int} {v1 v2 v3 : Int} (h : CI f l I sz) (ht : I.1 0 = t) (h0 : 0 ≤ t) (ht8 : t < 8) (hg : ∀ c j : Int, ¬ ((c = 33 ∧ 4 ≤ j ∧ j ≤ 9) ∨ (l + 1 ≤ c ∧ c ≤ l + 4 ∧ j = t) ∨ (c = l ∧ j = 9)) → g c j = f c j) (e1 : g (l + 1) t = pnm rs) (e2 : g (l + 2) t = v1) (e3 : g (l + 3) t = v2) (e4 : g (l + 4) t = v3) (e9 : g l 9 = t + 1) : CI g l (u1 I.1 0 (I.1 0 + 1), am_up (am_up (am_up I.2.1 2 (I.1 0) v1) 3 (I.1 0) v2) 4 (I.1 0) v3, I.2.2.1, I.2.2.2.1, u1 I.2.2.2.2 (0 + I.1 0) rs) sz := by
  obtain ⟨hL, hl, ⟨f9, f10, f11, f12, f13⟩, hT, hM, hR, hW, hU, hs, s0⟩ := h
  have n1 : ∀ k : Int, ¬ k = 0 → u1 I.1 0 (I.1 0 + 1) k = I.1 k := fun k hk => u1_n hk
  refine ⟨sL_fr hL (fun j _ _ => hg _ _ (by omega)) (fun j _ _ => hg _ _ (by omega)), hl, ⟨?_, ?_, ?_, ?_, ?_⟩, ?_, ?_, ?_, ?_, ?_, ?_, s0⟩
  · show g l 9 = u1 I.1 0 (I.1 0 + 1) 0
    rw [u1_e, e9, ht]
  · show g l 10 = u1 I.1 0 (I.1 0 + 1) 1
    rw [n1 1 (by omega), hg _ _ (by omega)]; exact f10
  · show g l 11 = u1 I.1 0 (I.1 0 + 1) 2
    rw [n1 2 (by omega), hg _ _ (by omega)]; exact f11
  · show g l 12 = am_up (am_up (am_up I.2.1 2 (I.1 0) v1) 3 (I.1 0) v2) 4 (I.1 0) v3 0 0
    rw [am_un (by omega), am_un (by omega), am_un (by omega), hg _ _ (by omega)]; exact f12
  · show g l 13 = am_up (am_up (am_up I.2.1 2 (I.1 0) v1) 3 (I.1 0) v2) 4 (I.1 0) v3 0 1
    rw [am_un (by omega), am_un (by omega), am_un (by omega), hg _ _ (by omega)]; exact f13
  · intro k k0 k1
    have k1 : k < u1 I.1 0 (I.1 0 + 1) 0 := k1
    rw [u1_e] at k1
    show g (l + 1) k = pnm (u1 I.2.2.2.2 (0 + I.1 0) rs (0 + k)) ∧ g (l + 2) k = am_up (am_up (am_up I.2.1 2 (I.1 0) v1) 3 (I.1 0) v2) 4 (I.1 0) v3 2 k ∧ g (l + 3) k = am_up (am_up (am_up I.2.1 2 (I.1 0) v1) 3 (I.1 0) v2) 4 (I.1 0) v3 3 k ∧ g (l + 4) k = am_up (am_up (am_up I.2.1 2 (I.1 0) v1) 3 (I.1 0) v2) 4 (I.1 0) v3 4 k
    by_cases q : k = t
    · subst q
      rw [ht, u1_e, am_un (by omega), am_un (by omega), am_ue, am_un (by omega), am_ue, am_ue]
      exact ⟨e1, e2, e3, e4⟩
    · rw [u1_n (by omega), am_un (by omega), am_un (by omega), am_un (by omega), am_un (by omega), am_un (by omega), am_un (by omega), am_un (by omega), am_un (by omega), am_un (by omega), hg _ _ (by omega), hg _ _ (by omega), hg _ _ (by omega), hg _ _ (by omega)]
      exact hT k k0 (by omega)
  · intro k k0 k1
    have k1 : k < u1 I.1 0 (I.1 0 + 1) 1 := k1
    rw [n1 1 (by omega)] at k1
    show g (l + 5) k = pnm (u1 I.2.2.2.2 (0 + I.1 0) rs (8 + k)) ∧ g (l + 6) k = am_up (am_up (am_up I.2.1 2 (I.1 0) v1) 3 (I.1 0) v2) 4 (I.1 0) v3 6 k ∧ g (l + 7) k = am_up (am_up (am_up I.2.1 2 (I.1 0) v1) 3 (I.1 0) v2) 4 (I.1 0) v3 7 k
    have t8 : t < 8 := ht8
    rw [u1_n (by omega), am_un (by omega), am_un (by omega), am_un (by omega), am_un (by omega), am_un (by omega), am_un (by omega), hg _ _ (by omega), hg _ _ (by omega), hg _ _ (by omega)]
    exact hM k k0 k1
  · intro k k0 k1
    have k1 : k < u1 I.1 0 (I.1 0 + 1) 2 := k1
    rw [n1 2 (by omega)] at k1
    show g (l + 8) k = pnm (u1 I.2.2.2.2 (0 + I.1 0) rs (16 + k))
    have t8 : t < 8 := ht8
    rw [u1_n (by omega), hg _ _ (by omega)]
    exact hR k k0 k1
  · intro w w0 w1 hw
    obtain ⟨k0, a, b, c, e, al0⟩ := hW w w0 w1 hw
    refine ⟨k0, ?_, ?_, c, e, al_fr _ _ (fun j _ _ => hg _ _ (by omega)) al0⟩
    · rw [hg _ _ (by omega)]; exact a
    · rw [hg _ _ (by omega)]; exact b
  · intro w w0 w1 hw
    rw [hg _ _ (by omega), hg _ _ (by omega)]
    exact hU w w0 w1 hw
  · rw [hg _ _ (by omega)]; exact hs
theorem CI_M {t : Int} {rs : List Int} {v1 v2 : Int} (h : CI f l I sz) (ht : I.1 1 = t) (h0 : 0 ≤ t) (ht8 : t < 4) (m0 : I.1 0 ≤ 8) (hg : ∀ c j : Int, ¬ ((c = 33 ∧ 4 ≤ j ∧ j ≤ 9) ∨ (l + 5 ≤ c ∧ c ≤ l + 7 ∧ j = t) ∨ (c = l ∧ j = 10)) → g c j = f c j) (e1 : g (l + 5) t = pnm rs) (e2 : g (l + 6) t = v1) (e3 : g (l + 7) t = v2) (e9 : g l 10 = t + 1) : CI g l (u1 I.1 1 (I.1 1 + 1), am_up (am_up I.2.1 6 (I.1 1) v1) 7 (I.1 1) v2, I.2.2.1, I.2.2.2.1, u1 I.2.2.2.2 (8 + I.1 1) rs) sz := by
  obtain ⟨hL, hl, ⟨f9, f10, f11, f12, f13⟩, hT, hM, hR, hW, hU, hs, s0⟩ := h
  have n1 : ∀ k : Int, ¬ k = 1 → u1 I.1 1 (I.1 1 + 1) k = I.1 k := fun k hk => u1_n hk
  refine ⟨sL_fr hL (fun j _ _ => hg _ _ (by omega)) (fun j _ _ => hg _ _ (by omega)), hl, ⟨?_, ?_, ?_, ?_, ?_⟩, ?_, ?_, ?_, ?_, ?_, ?_, s0⟩
  · show g l 9 = u1 I.1 1 (I.1 1 + 1) 0
    rw [n1 0 (by omega), hg _ _ (by omega)]; exact f9
  · show g l 10 = u1 I.1 1 (I.1 1 + 1) 1
    rw [u1_e, e9, ht]
  · show g l 11 = u1 I.1 1 (I.1 1 + 1) 2
    rw [n1 2 (by omega), hg _ _ (by omega)]; exact f11
  · show g l 12 = am_up (am_up I.2.1 6 (I.1 1) v1) 7 (I.1 1) v2 0 0
    rw [am_un (by omega), am_un (by omega), hg _ _ (by omega)]; exact f12
  · show g l 13 = am_up (am_up I.2.1 6 (I.1 1) v1) 7 (I.1 1) v2 0 1
    rw [am_un (by omega), am_un (by omega), hg _ _ (by omega)]; exact f13
  · intro k k0 k1
    have k1 : k < u1 I.1 1 (I.1 1 + 1) 0 := k1
    rw [n1 0 (by omega)] at k1
    show g (l + 1) k = pnm (u1 I.2.2.2.2 (8 + I.1 1) rs (0 + k)) ∧ g (l + 2) k = am_up (am_up I.2.1 6 (I.1 1) v1) 7 (I.1 1) v2 2 k ∧ g (l + 3) k = am_up (am_up I.2.1 6 (I.1 1) v1) 7 (I.1 1) v2 3 k ∧ g (l + 4) k = am_up (am_up I.2.1 6 (I.1 1) v1) 7 (I.1 1) v2 4 k
    rw [u1_n (by omega), am_un (by omega), am_un (by omega), am_un (by omega), am_un (by omega), am_un (by omega), am_un (by omega), hg _ _ (by omega), hg _ _ (by omega), hg _ _ (by omega), hg _ _ (by omega)]
    exact hT k k0 k1
  · intro k k0 k1
    have k1 : k < u1 I.1 1 (I.1 1 + 1) 1 := k1
    rw [u1_e] at k1
    show g (l + 5) k = pnm (u1 I.2.2.2.2 (8 + I.1 1) rs (8 + k)) ∧ g (l + 6) k = am_up (am_up I.2.1 6 (I.1 1) v1) 7 (I.1 1) v2 6 k ∧ g (l + 7) k = am_up (am_up I.2.1 6 (I.1 1) v1) 7 (I.1 1) v2 7 k
    by_cases q : k = t
    · subst q
      rw [ht, u1_e, am_un (by omega), am_ue, am_ue]
      exact ⟨e1, e2, e3⟩
    · rw [u1_n (by omega), am_un (by omega), am_un (by omega), am_un (by omega), am_un (by omega), hg _ _ (by omega), hg _ _ (by omega), hg _ _ (by omega)]
      exact hM k k0 (by omega)
  · intro k k0 k1
    have k1 : k < u1 I.1 1 (I.1 1 + 1) 2 := k1
    rw [n1 2 (by omega)] at k1
    show g (l + 8) k = pnm (u1 I.2.2.2.2 (8 + I.1 1) rs (16 + k))
    rw [u1_n (by omega), hg _ _ (by omega)]
    exact hR k k0 k1
  · intro w w0 w1 hw
    obtain ⟨k0, a, b, c, e, al0⟩ := hW w w0 w1 hw
    refine ⟨k0, ?_, ?_, c, e, al_fr _ _ (fun j _ _ => hg _ _ (by omega)) al0⟩
    · rw [hg _ _ (by omega)]; exact a
    · rw [hg _ _ (by omega)]; exact b
  · intro w w0 w1 hw
    rw [hg _ _ (by omega), hg _ _ (by omega)]
    exact hU w w0 w1 hw
  · rw [hg _ _ (by omega)]; exact hs
/-- codes of a rule are told -/
theorem CI_X {w : Int} {cs : List Int} (h : CI f l I sz) (w0 : 0 ≤ w) (w9 : w < 10) (hg : ∀ c j : Int, ¬ ((c = 33 ∧ 3 ≤ j ∧ j ≤ 9) ∨ (c = l + 9 ∧ j = 3) ∨ (c = l + 10 ∧ sz ≤ j) ∨ ((c = l + 11 ∨ c = l + 12) ∧ j = cr w)) → g c j = f c j) (e1 : g (l + 11) (cr w) = sz) (e2 : g (l + 12) (cr w) = sz + cs.length) (e3 : g (l + 9) 3 = sz + cs.length) (ha : al g (l + 10) cst sz cs) : CI g l (I.1, I.2.1, u1 I.2.2.1 w cs, u1 I.2.2.2.1 w true, I.2.2.2.2) (sz + cs.length) := by
  obtain ⟨hL, hl, ⟨f9, f10, f11, f12, f13⟩, hT, hM, hR, hW, hU, hs, s0⟩ := h
  have crb := cr_b w0 w9
  refine ⟨sL_fr hL (fun j _ _ => hg _ _ (by omega)) (fun j _ _ => hg _ _ (by omega)), hl, ⟨?_, ?_, ?_, ?_, ?_⟩, ?_, ?_, ?_, ?_, ?_, e3, by omega⟩
  · rw [hg _ _ (by omega)]; exact f9
  · rw [hg _ _ (by omega)]; exact f10
  · rw [hg _ _ (by omega)]; exact f11
  · rw [hg _ _ (by omega)]; exact f12
  · rw [hg _ _ (by omega)]; exact f13
  · intro k k0 k1
    rw [hg _ _ (by omega), hg _ _ (by omega), hg _ _ (by omega), hg _ _ (by omega)]
    exact hT k k0 k1
  · intro k k0 k1
    rw [hg _ _ (by omega), hg _ _ (by omega), hg _ _ (by omega)]
    exact hM k k0 k1
  · intro k k0 k1
    rw [hg _ _ (by omega)]
    exact hR k k0 k1
  · intro v v0 v1 hv
    have hv : u1 I.2.2.2.1 w true v = true := hv
    show ∃ k0, g (l + 11) (cr v) = k0 ∧ g (l + 12) (cr v) = k0 + (u1 I.2.2.1 w cs v).length ∧ 0 ≤ k0 ∧ k0 + (u1 I.2.2.1 w cs v).length ≤ sz + cs.length ∧ al g (l + 10) cst k0 (u1 I.2.2.1 w cs v)
    by_cases q : v = w
    · subst q
      rw [u1_e]
      exact ⟨sz, e1, e2, s0, by omega, ha⟩
    · rw [u1_n q] at hv ⊢
      have ne : ¬ cr v = cr w := fun e => q (cr_i v0 v1 w0 w9 e)
      obtain ⟨k0, a, b, c, e, al0⟩ := hW v v0 v1 hv
      refine ⟨k0, ?_, ?_, c, by omega, al_fr _ _ (fun j _ _ => hg _ _ (by omega)) al0⟩
      · rw [hg _ _ (by omega)]; exact a
      · rw [hg _ _ (by omega)]; exact b
  · intro v v0 v1 hv
    have hv : ¬ u1 I.2.2.2.1 w true v = true := hv
    by_cases q : v = w
    · subst q
      rw [u1_e] at hv
      exact absurd rfl hv
    · rw [u1_n q] at hv
      have ne : ¬ cr v = cr w := fun e => q (cr_i v0 (by omega) w0 w9 e)
      rw [hg _ _ (by omega), hg _ _ (by omega)]
      exact hU v v0 v1 hv
/-- nothing but the reader's own cells was changed -/
theorem CI_33 (h : CI f l I sz) (hg : ∀ c j : Int, ¬ c = 33 → g c j = f c j) : CI g l I sz := by
  obtain ⟨hL, hl, ⟨f9, f10, f11, f12, f13⟩, hT, hM, hR, hW, hU, hs, s0⟩ := h
  refine ⟨sL_fr hL (fun j _ _ => hg _ _ (by omega)) (fun j _ _ => hg _ _ (by omega)), hl, ⟨?_, ?_, ?_, ?_, ?_⟩, ?_, ?_, ?_, ?_, ?_, ?_, s0⟩
  · rw [hg _ _ (by omega)]; exact f9
  · rw [hg _ _ (by omega)]; exact f10
  · rw [hg _ _ (by omega)]; exact f11
  · rw [hg _ _ (by omega)]; exact f12
  · rw [hg _ _ (by omega)]; exact f13
  · intro k k0 k1
    rw [hg _ _ (by omega), hg _ _ (by omega), hg _ _ (by omega), hg _ _ (by omega)]
    exact hT k k0 k1
  · intro k k0 k1
    rw [hg _ _ (by omega), hg _ _ (by omega), hg _ _ (by omega)]
    exact hM k k0 k1
  · intro k k0 k1
    rw [hg _ _ (by omega)]
    exact hR k k0 k1
  · intro v v0 v1 hv
    obtain ⟨k0, a, b, c, e, al0⟩ := hW v v0 v1 hv
    refine ⟨k0, ?_, ?_, c, e, al_fr _ _ (fun j _ _ => hg _ _ (by omega)) al0⟩
    · rw [hg _ _ (by omega)]; exact a
    · rw [hg _ _ (by omega)]; exact b
  · intro v v0 v1 hv
    rw [hg _ _ (by omega), hg _ _ (by omega)]
    exact hU v v0 v1 hv
  · rw [hg _ _ (by omega)]; exact hs
theorem b1_r {p : Int} {h : Int → RI} : b1 (.inr p) h = h p := rfl
theorem b1_l {e : Int × Int} {h : Int → RI} : b1 (.inl e) h = .inl e := rfl
theorem sl_f (h : sL f l) : f l 0 = l + 1 ∧ f l 1 = l + 2 ∧ f l 2 = l + 3 ∧ f l 3 = l + 4 ∧ f l 4 = l + 5 ∧ f l 5 = l + 6 ∧ f l 6 = l + 7 ∧ f l 7 = l + 8 ∧ f l 8 = l + 9 ∧ f (l + 9) 0 = l + 10 ∧ f (l + 9) 1 = l + 11 ∧ f (l + 9) 2 = l + 12 := h.2.1
theorem sl_n (h : l = 1 ∨ l = 20) : am_len aw_SH (l + 1) = 8 ∧ am_len aw_SH (l + 2) = 8 ∧ am_len aw_SH (l + 3) = 8 ∧ am_len aw_SH (l + 4) = 8 ∧ am_len aw_SH (l + 5) = 4 ∧ am_len aw_SH (l + 6) = 4 ∧ am_len aw_SH (l + 7) = 4 ∧ am_len aw_SH (l + 8) = 5 ∧ am_len aw_SH (l + 10) = 1616 ∧ am_len aw_SH (l + 11) = 10 ∧ am_len aw_SH (l + 12) = 10 := by
  rcases h with rfl | rfl
  · exact ⟨ln_2, ln_3, ln_4, ln_5, ln_6, ln_7, ln_8, ln_9, ln_11, ln_12, ln_13⟩
  · exact ⟨ln_21, ln_22, ln_23, ln_24, ln_25, ln_26, ln_27, ln_28, ln_30, ln_31, ln_32⟩
theorem c_sT (h : CT f B N) (hN : N ≤ 1600) (hB : ∀ j, 0 ≤ B j ∧ B j ≤ 255) (hK : CK f B N p) (h0 : 0 ≤ p) (h1 : p ≤ N) (hI : CI f l I sz) (hp : PI I) (hz : sz ≤ p) (h33 : f 33 1 = l) (hw : ¬ tW B N p = -1) (hQ : SQ B N l f Q (sdT B N I p)) : aw_cl (d + 5) 29 [(104, 33)] f Q := by
  have lc : l = 1 ∨ l = 20 := hI.2.1
  have l0 : 0 ≤ l := by omega
  have pb := hp.1.1
  have gb := tW_b h1 hw
  have e9 := hI.2.2.1.1
  unfold sdT at hQ
  obtain ⟨t, ht⟩ : ∃ t, I.1 0 = t := ⟨_, rfl⟩
  rw [ht] at pb e9 hQ
  by_cases h8 : t = 8
  · rw [if_pos h8] at hQ
    have := hQ _ (by rw [am_un (by omega), am_ue]) am_ue (fIw_fl (k := 5) (q := tS B N p) (fun _ _ _ => rfl))
    rw [h8] at e9
    simpa (disch := omega) [q29, r29_0, r29_1, r29_4, r29_7, r29_8, r29_9, r29_11, r29_14, r29_15, r29_16, r29_17, r29_20, r29_23, cs_nil, cs_cons, lc_lt, lc_ge, lc_gt, lc_le, lc_eq, h33, l0, e9, hK.2.1, c_fail] using this
  rw [if_neg h8] at hQ
  have t8 : t < 8 := by omega
  simp (disch := omega) [q29, r29_0, r29_1, r29_4, r29_7, r29_8, r29_9, r29_11, cs_nil, cs_cons, lc_lt, lc_ge, lc_gt, lc_le, lc_eq, r29_24, r29_25, h33, l0, e9, le_T, lt_T, le_F, lt_F]
  refine c_adv h hN hB hK.2.2.1 (by omega) gb.2 ?_
  intro g1 k1 fr1
  have T1 : CT g1 B N := CT_33 h (fun c j hc => fr1 c j (by omega))
  simp [r29_28, r29_29, r29_30, cs_nil, cs_cons, lc_lt, lc_ge, lc_gt, lc_le, lc_eq]
  refine c_nm T1 hN hB k1 (by omega) gb.2 (CI_33 hI (fun c j hc => fr1 c j (by omega))) hp ((fr1 _ _ (by omega)).trans h33) ?_ ?_
  · intro k q e
    rw [e, b1_l] at hQ
    have := hQ _ (by rw [am_un (by omega), am_ue]) am_ue (fIw_fl (k := k) (q := q) (fun c j hc => fr1 c j (by omega)))
    simpa [r29_33, r29_36, r29_37, cs_nil, cs_cons, lc_lt, lc_ge, lc_gt, lc_le, lc_eq] using this
  intro p2 g2 e k2 v2 vn lt2 le2 fr2
  rw [e, b1_r] at hQ
  clear e
  have fa2 : ∀ c j : Int, ¬ ((c = 33 ∧ 4 ≤ j ∧ j ≤ 9) ∨ (l + 1 ≤ c ∧ c ≤ l + 4 ∧ j = t)) → g2 c j = f c j := fun c j hc => by rw [fr2 _ _ (by omega), fr1 _ _ (by omega)]
  clear fr1 fr2 T1 k1 g1
  have s2 : sL g2 l := sL_fr hI.1 (fun j _ _ => fa2 _ _ (by omega)) (fun j _ _ => fa2 _ _ (by omega))
  have q2 : g2 33 1 = l := (fa2 _ _ (by omega)).trans h33
  simp (disch := omega) [r29_33, r29_36, r29_37, r29_38, r29_39, r29_42, r29_45, r29_46, r29_47, r29_50, r29_51, r29_52, r29_53, cs_nil, cs_cons, lc_lt, lc_ge, lc_gt, lc_le, lc_eq, q2, l0, sl_f s2, v2, sl_n lc, am_fitE, le_T, lt_T]
  clear v2 q2 s2
  have fa3 : ∀ c j : Int, ¬ ((c = 33 ∧ 4 ≤ j ∧ j ≤ 9) ∨ (l + 1 ≤ c ∧ c ≤ l + 4 ∧ j = t)) → (am_up g2 (l + 1) t (pnm (tN B N (tE B N p)))) c j = f c j := fun c j hc => by rw [am_un (by omega)]; exact fa2 c j hc
  have w1 : (am_up g2 (l + 1) t (pnm (tN B N (tE B N p)))) (l + 1) t = pnm (tN B N (tE B N p)) := am_ue
  have k3 : CK (am_up g2 (l + 1) t (pnm (tN B N (tE B N p)))) B N p2 := CK_fr k2 (fun j _ _ => am_un (by omega))
  generalize am_up g2 (l + 1) t (pnm (tN B N (tE B N p))) = g3 at fa3 w1 k3 ⊢
  clear fa2 k2 g2
  refine c_tw (CT_33 h (fun c j hc => fa3 c j (by omega))) hN hB k3 (by omega) le2 (by omega) ?_ ?_
  · intro k q e
    rw [e, b1_l] at hQ
    have := hQ _ (by rw [am_un (by omega), am_ue]) am_ue (fIw_fl (k := k) (q := q) (fun c j hc => fa3 c j (by omega)))
    simpa [r29_56, r29_59, r29_60, r29_61, r29_63, r29_66, r29_69, r29_70, cs_nil, cs_cons, lc_lt, lc_ge, lc_gt, lc_le, lc_eq] using this
  intro p3 g4 e k4 lt3 le3 fr4
  rw [e, b1_r] at hQ
  clear e
  have fa4 : ∀ c j : Int, ¬ ((c = 33 ∧ 4 ≤ j ∧ j ≤ 9) ∨ (l + 1 ≤ c ∧ c ≤ l + 4 ∧ j = t)) → g4 c j = f c j := fun c j hc => by rw [fr4 _ _ (by omega)]; exact fa3 c j hc
  replace w1 : g4 (l + 1) t = pnm (tN B N (tE B N p)) := by rw [fr4 _ _ (by omega)]; exact w1
  clear fa3 fr4 k3 g3
  simp [r29_56, r29_59, r29_60, r29_61, r29_63, cs_nil, cs_cons, lc_lt, lc_ge, lc_gt, lc_le, lc_eq]
  refine c_tn (CT_33 h (fun c j hc => fa4 c j (by omega))) hN hB k4 (by omega) le3 ?_ ?_
  · intro k q e
    rw [e, b1_l] at hQ
    have := hQ _ (by rw [am_un (by omega), am_ue]) am_ue (fIw_fl (k := k) (q := q) (fun c j hc => fa4 c j (by omega)))
    simpa [r29_66, r29_69, r29_70, cs_nil, cs_cons, lc_lt, lc_ge, lc_gt, lc_le, lc_eq] using this
  intro p4 g5 e k5 v5 vb5 lt4 le4 fr5
  rw [e, b1_r] at hQ
  clear e
  have fa5 : ∀ c j : Int, ¬ ((c = 33 ∧ 4 ≤ j ∧ j ≤ 9) ∨ (l + 1 ≤ c ∧ c ≤ l + 4 ∧ j = t)) → g5 c j = f c j := fun c j hc => by rw [fr5 _ _ (by omega)]; exact fa4 c j hc
  replace w1 : g5 (l + 1) t = pnm (tN B N (tE B N p)) := by rw [fr5 _ _ (by omega)]; exact w1
  clear fa4 fr5 k4 g4
  have s5 : sL g5 l := sL_fr hI.1 (fun j _ _ => fa5 _ _ (by omega)) (fun j _ _ => fa5 _ _ (by omega))
  have q5 : g5 33 1 = l := (fa5 _ _ (by omega)).trans h33
  simp (disch := omega) [r29_66, r29_69, r29_70, r29_71, r29_72, r29_75, r29_78, r29_79, r29_80, r29_83, r29_84, r29_85, r29_86, cs_nil, cs_cons, lc_lt, lc_ge, lc_gt, lc_le, lc_eq, q5, l0, sl_f s5, v5, sl_n lc, am_fitE, le_T, lt_T]
  clear v5 q5 s5
  have fa6 : ∀ c j : Int, ¬ ((c = 33 ∧ 4 ≤ j ∧ j ≤ 9) ∨ (l + 1 ≤ c ∧ c ≤ l + 4 ∧ j = t)) → (am_up g5 (l + 2) t (tV B N p3)) c j = f c j := fun c j hc => by rw [am_un (by omega)]; exact fa5 c j hc
  replace w1 : (am_up g5 (l + 2) t (tV B N p3)) (l + 1) t = pnm (tN B N (tE B N p)) := by rw [am_un (by omega)]; exact w1
  have w2 : (am_up g5 (l + 2) t (tV B N p3)) (l + 2) t = tV B N p3 := am_ue
  have k6 : CK (am_up g5 (l + 2) t (tV B N p3)) B N p4 := CK_fr k5 (fun j _ _ => am_un (by omega))
  generalize am_up g5 (l + 2) t (tV B N p3) = g6 at fa6 w1 w2 k6 ⊢
  clear fa5 k5 g5
  refine c_tw (CT_33 h (fun c j hc => fa6 c j (by omega))) hN hB k6 (by omega) le4 (by omega) ?_ ?_
  · intro k q e
    rw [e, b1_l] at hQ
    have := hQ _ (by rw [am_un (by omega), am_ue]) am_ue (fIw_fl (k := k) (q := q) (fun c j hc => fa6 c j (by omega)))
    simpa [r29_89, r29_92, r29_93, r29_94, r29_96, r29_99, r29_102, r29_103, cs_nil, cs_cons, lc_lt, lc_ge, lc_gt, lc_le, lc_eq] using this
  intro p5 g7 e k7 lt5 le5 fr7
  rw [e, b1_r] at hQ
  clear e
  have fa7 : ∀ c j : Int, ¬ ((c = 33 ∧ 4 ≤ j ∧ j ≤ 9) ∨ (l + 1 ≤ c ∧ c ≤ l + 4 ∧ j = t)) → g7 c j = f c j := fun c j hc => by rw [fr7 _ _ (by omega)]; exact fa6 c j hc
  replace w1 : g7 (l + 1) t = pnm (tN B N (tE B N p)) := by rw [fr7 _ _ (by omega)]; exact w1
  replace w2 : g7 (l + 2) t = tV B N p3 := by rw [fr7 _ _ (by omega)]; exact w2
  clear fa6 fr7 k6 g6
  simp [r29_89, r29_92, r29_93, r29_94, r29_96, cs_nil, cs_cons, lc_lt, lc_ge, lc_gt, lc_le, lc_eq]
  refine c_tn (CT_33 h (fun c j hc => fa7 c j (by omega))) hN hB k7 (by omega) le5 ?_ ?_
  · intro k q e
    rw [e, b1_l] at hQ
    have := hQ _ (by rw [am_un (by omega), am_ue]) am_ue (fIw_fl (k := k) (q := q) (fun c j hc => fa7 c j (by omega)))
    simpa [r29_99, r29_102, r29_103, cs_nil, cs_cons, lc_lt, lc_ge, lc_gt, lc_le, lc_eq] using this
  intro p6 g8 e k8 v8 vb8 lt6 le6 fr8
  rw [e, b1_r] at hQ
  clear e
  have fa8 : ∀ c j : Int, ¬ ((c = 33 ∧ 4 ≤ j ∧ j ≤ 9) ∨ (l + 1 ≤ c ∧ c ≤ l + 4 ∧ j = t)) → g8 c j = f c j := fun c j hc => by rw [fr8 _ _ (by omega)]; exact fa7 c j hc
  replace w1 : g8 (l + 1) t = pnm (tN B N (tE B N p)) := by rw [fr8 _ _ (by omega)]; exact w1
  replace w2 : g8 (l + 2) t = tV B N p3 := by rw [fr8 _ _ (by omega)]; exact w2
  clear fa7 fr8 k7 g7
  have s8 : sL g8 l := sL_fr hI.1 (fun j _ _ => fa8 _ _ (by omega)) (fun j _ _ => fa8 _ _ (by omega))
  have q8 : g8 33 1 = l := (fa8 _ _ (by omega)).trans h33
  simp (disch := omega) [r29_99, r29_102, r29_103, r29_104, r29_105, r29_108, r29_111, r29_112, r29_113, r29_116, r29_117, r29_118, r29_119, cs_nil, cs_cons, lc_lt, lc_ge, lc_gt, lc_le, lc_eq, q8, l0, sl_f s8, v8, sl_n lc, am_fitE, le_T, lt_T]
  clear v8 q8 s8
  have fa9 : ∀ c j : Int, ¬ ((c = 33 ∧ 4 ≤ j ∧ j ≤ 9) ∨ (l + 1 ≤ c ∧ c ≤ l + 4 ∧ j = t)) → (am_up g8 (l + 3) t (tV B N p5)) c j = f c j := fun c j hc => by rw [am_un (by omega)]; exact fa8 c j hc
  replace w1 : (am_up g8 (l + 3) t (tV B N p5)) (l + 1) t = pnm (tN B N (tE B N p)) := by rw [am_un (by omega)]; exact w1
  replace w2 : (am_up g8 (l + 3) t (tV B N p5)) (l + 2) t = tV B N p3 := by rw [am_un (by omega)]; exact w2
  have w3 : (am_up g8 (l + 3) t (tV B N p5)) (l + 3) t = tV B N p5 := am_ue
  have k9 : CK (am_up g8 (l + 3) t (tV B N p5)) B N p6 := CK_fr k8 (fun j _ _ => am_un (by omega))
  generalize am_up g8 (l + 3) t (tV B N p5) = g9 at fa9 w1 w2 w3 k9 ⊢
  clear fa8 k8 g8
  refine c_tw (CT_33 h (fun c j hc => fa9 c j (by omega))) hN hB k9 (by omega) le6 (by omega) ?_ ?_
  · intro k q e
    rw [e, b1_l] at hQ
    have := hQ _ (by rw [am_un (by omega), am_ue]) am_ue (fIw_fl (k := k) (q := q) (fun c j hc => fa9 c j (by omega)))
    simpa [r29_122, r29_125, r29_126, r29_127, r29_129, r29_132, r29_135, r29_136, cs_nil, cs_cons, lc_lt, lc_ge, lc_gt, lc_le, lc_eq] using this
  intro p7 ga e ka lt7 le7 fra
  rw [e, b1_r] at hQ
  clear e
  have faa : ∀ c j : Int, ¬ ((c = 33 ∧ 4 ≤ j ∧ j ≤ 9) ∨ (l + 1 ≤ c ∧ c ≤ l + 4 ∧ j = t)) → ga c j = f c j := fun c j hc => by rw [fra _ _ (by omega)]; exact fa9 c j hc
  replace w1 : ga (l + 1) t = pnm (tN B N (tE B N p)) := by rw [fra _ _ (by omega)]; exact w1
  replace w2 : ga (l + 2) t = tV B N p3 := by rw [fra _ _ (by omega)]; exact w2
  replace w3 : ga (l + 3) t = tV B N p5 := by rw [fra _ _ (by omega)]; exact w3
  clear fa9 fra k9 g9
  simp [r29_122, r29_125, r29_126, r29_127, r29_129, cs_nil, cs_cons, lc_lt, lc_ge, lc_gt, lc_le, lc_eq]
  refine c_tn (CT_33 h (fun c j hc => faa c j (by omega))) hN hB ka (by omega) le7 ?_ ?_
  · intro k q e
    rw [e, b1_l] at hQ
    have := hQ _ (by rw [am_un (by omega), am_ue]) am_ue (fIw_fl (k := k) (q := q) (fun c j hc => faa c j (by omega)))
    simpa [r29_132, r29_135, r29_136, cs_nil, cs_cons, lc_lt, lc_ge, lc_gt, lc_le, lc_eq] using this
  intro p8 gb' e kb vb vbb lt8 le8 frb
  rw [e, b1_r] at hQ
  clear e
  have fab : ∀ c j : Int, ¬ ((c = 33 ∧ 4 ≤ j ∧ j ≤ 9) ∨ (l + 1 ≤ c ∧ c ≤ l + 4 ∧ j = t)) → gb' c j = f c j := fun c j hc => by rw [frb _ _ (by omega)]; exact faa c j hc
  replace w1 : gb' (l + 1) t = pnm (tN B N (tE B N p)) := by rw [frb _ _ (by omega)]; exact w1
  replace w2 : gb' (l + 2) t = tV B N p3 := by rw [frb _ _ (by omega)]; exact w2
  replace w3 : gb' (l + 3) t = tV B N p5 := by rw [frb _ _ (by omega)]; exact w3
  clear faa frb ka ga
  have sb : sL gb' l := sL_fr hI.1 (fun j _ _ => fab _ _ (by omega)) (fun j _ _ => fab _ _ (by omega))
  have qb : gb' 33 1 = l := (fab _ _ (by omega)).trans h33
  have fin := hQ (am_up (am_up gb' (l + 4) t (tV B N p7)) l 9 (t + 1)) sz (CK_fr kb (fun j _ _ => by rw [am_un (by omega), am_un (by omega)])) (by
    have := CI_T (g := am_up (am_up gb' (l + 4) t (tV B N p7)) l 9 (t + 1)) (rs := tN B N (tE B N p)) (v1 := tV B N p3) (v2 := tV B N p5) (v3 := tV B N p7) hI ht (by omega) t8 (fun c j hc => by rw [am_un (by omega), am_un (by omega)]; exact fab c j (by omega)) (by rw [am_un (by omega), am_un (by omega)]; exact w1) (by rw [am_un (by omega), am_un (by omega)]; exact w2) (by rw [am_un (by omega), am_un (by omega)]; exact w3) (by rw [am_un (by omega), am_ue]) am_ue
    rw [ht] at this
    exact this) (by omega) (fun c j hc => by rw [am_un (by omega), am_un (by omega)]; exact fab c j (by omega))
  simpa (disch := omega) [r29_132, r29_135, r29_136, r29_137, r29_138, r29_141, r29_144, r29_145, r29_146, r29_149, r29_150, r29_151, r29_154, r29_155, r29_156, r29_157, r29_160, r29_161, cs_nil, cs_cons, lc_lt, lc_ge, lc_gt, lc_le, lc_eq, qb, l0, sl_f sb, vb, sl_n lc, am_fitE, am_un, am_ue, am_wid2, le_T, lt_T] using fin
theorem c_sM (h : CT f B N) (hN : N ≤ 1600) (hB : ∀ j, 0 ≤ B j ∧ B j ≤ 255) (hK : CK f B N p) (h0 : 0 ≤ p) (h1 : p ≤ N) (hI : CI f l I sz) (hp : PI I) (hz : sz ≤ p) (h33 : f 33 1 = l) (hw : ¬ tW B N p = -1) (hQ : SQ B N l f Q (sdM B N I p)) : aw_cl (d + 5) 36 [(104, 33)] f Q := by
  have lc : l = 1 ∨ l = 20 := hI.2.1
  have l0 : 0 ≤ l := by omega
  have pb := hp.1.2.1
  have m8 := hp.1.1.2
  have gb := tW_b h1 hw
  have e9 := hI.2.2.1.2.1
  unfold sdM at hQ
  obtain ⟨t, ht⟩ : ∃ t, I.1 1 = t := ⟨_, rfl⟩
  rw [ht] at pb e9 hQ
  by_cases h8 : t = 4
  · rw [if_pos h8] at hQ
    have := hQ _ (by rw [am_un (by omega), am_ue]) am_ue (fIw_fl (k := 5) (q := tS B N p) (fun _ _ _ => rfl))
    rw [h8] at e9
    simpa (disch := omega) [q36, r36_0, r36_1, r36_4, r36_7, r36_8, r36_9, r36_10, r36_13, r36_14, r36_15, r36_16, r36_19, r36_22, cs_nil, cs_cons, lc_lt, lc_ge, lc_gt, lc_le, lc_eq, h33, l0, e9, hK.2.1, c_fail] using this
  rw [if_neg h8] at hQ
  have t8 : t < 4 := by omega
  simp (disch := omega) [q36, r36_0, r36_1, r36_4, r36_7, r36_8, r36_9, r36_10, cs_nil, cs_cons, lc_lt, lc_ge, lc_gt, lc_le, lc_eq, r36_23, r36_24, h33, l0, e9, le_T, lt_T, le_F, lt_F]
  refine c_adv h hN hB hK.2.2.1 (by omega) gb.2 ?_
  intro g1 k1 fr1
  have T1 : CT g1 B N := CT_33 h (fun c j hc => fr1 c j (by omega))
  simp [r36_27, r36_28, r36_29, cs_nil, cs_cons, lc_lt, lc_ge, lc_gt, lc_le, lc_eq]
  refine c_nm T1 hN hB k1 (by omega) gb.2 (CI_33 hI (fun c j hc => fr1 c j (by omega))) hp ((fr1 _ _ (by omega)).trans h33) ?_ ?_
  · intro k q e
    rw [e, b1_l] at hQ
    have := hQ _ (by rw [am_un (by omega), am_ue]) am_ue (fIw_fl (k := k) (q := q) (fun c j hc => fr1 c j (by omega)))
    simpa [r36_32, r36_35, r36_36, cs_nil, cs_cons, lc_lt, lc_ge, lc_gt, lc_le, lc_eq] using this
  intro p2 g2 e k2 v2 vn lt2 le2 fr2
  rw [e, b1_r] at hQ
  clear e
  have fa2 : ∀ c j : Int, ¬ ((c = 33 ∧ 4 ≤ j ∧ j ≤ 9) ∨ (l + 5 ≤ c ∧ c ≤ l + 7 ∧ j = t)) → g2 c j = f c j := fun c j hc => by rw [fr2 _ _ (by omega), fr1 _ _ (by omega)]
  clear fr1 fr2 T1 k1 g1
  have s2 : sL g2 l := sL_fr hI.1 (fun j _ _ => fa2 _ _ (by omega)) (fun j _ _ => fa2 _ _ (by omega))
  have q2 : g2 33 1 = l := (fa2 _ _ (by omega)).trans h33
  simp (disch := omega) [r36_32, r36_35, r36_36, r36_37, r36_38, r36_41, r36_44, r36_45, r36_46, r36_49, r36_50, r36_51, r36_52, cs_nil, cs_cons, lc_lt, lc_ge, lc_gt, lc_le, lc_eq, q2, l0, sl_f s2, v2, sl_n lc, am_fitE, le_T, lt_T]
  clear v2 q2 s2
  have fa3 : ∀ c j : Int, ¬ ((c = 33 ∧ 4 ≤ j ∧ j ≤ 9) ∨ (l + 5 ≤ c ∧ c ≤ l + 7 ∧ j = t)) → (am_up g2 (l + 5) t (pnm (tN B N (tE B N p)))) c j = f c j := fun c j hc => by rw [am_un (by omega)]; exact fa2 c j hc
  have w1 : (am_up g2 (l + 5) t (pnm (tN B N (tE B N p)))) (l + 5) t = pnm (tN B N (tE B N p)) := am_ue
  have k3 : CK (am_up g2 (l + 5) t (pnm (tN B N (tE B N p)))) B N p2 := CK_fr k2 (fun j _ _ => am_un (by omega))
  generalize am_up g2 (l + 5) t (pnm (tN B N (tE B N p))) = g3 at fa3 w1 k3 ⊢
  clear fa2 k2 g2
  refine c_tw (CT_33 h (fun c j hc => fa3 c j (by omega))) hN hB k3 (by omega) le2 (by omega) ?_ ?_
  · intro k q e
    rw [e, b1_l] at hQ
    have := hQ _ (by rw [am_un (by omega), am_ue]) am_ue (fIw_fl (k := k) (q := q) (fun c j hc => fa3 c j (by omega)))
    simpa [r36_55, r36_58, r36_59, r36_60, r36_62, r36_65, r36_68, r36_69, cs_nil, cs_cons, lc_lt, lc_ge, lc_gt, lc_le, lc_eq] using this
  intro p3 g4 e k4 lt3 le3 fr4
  rw [e, b1_r] at hQ
  clear e
  have fa4 : ∀ c j : Int, ¬ ((c = 33 ∧ 4 ≤ j ∧ j ≤ 9) ∨ (l + 5 ≤ c ∧ c ≤ l + 7 ∧ j = t)) → g4 c j = f c j := fun c j hc => by rw [fr4 _ _ (by omega)]; exact fa3 c j hc
  replace w1 : g4 (l + 5) t = pnm (tN B N (tE B N p)) := by rw [fr4 _ _ (by omega)]; exact w1
  clear fa3 fr4 k3 g3
  simp [r36_55, r36_58, r36_59, r36_60, r36_62, cs_nil, cs_cons, lc_lt, lc_ge, lc_gt, lc_le, lc_eq]
  refine c_tn (CT_33 h (fun c j hc => fa4 c j (by omega))) hN hB k4 (by omega) le3 ?_ ?_
  · intro k q e
    rw [e, b1_l] at hQ
    have := hQ _ (by rw [am_un (by omega), am_ue]) am_ue (fIw_fl (k := k) (q := q) (fun c j hc => fa4 c j (by omega)))
    simpa [r36_65, r36_68, r36_69, cs_nil, cs_cons, lc_lt, lc_ge, lc_gt, lc_le, lc_eq] using this
  intro p4 g5 e k5 v5 vb5 lt4 le4 fr5
  rw [e, b1_r] at hQ
  clear e
  have fa5 : ∀ c j : Int, ¬ ((c = 33 ∧ 4 ≤ j ∧ j ≤ 9) ∨ (l + 5 ≤ c ∧ c ≤ l + 7 ∧ j = t)) → g5 c j = f c j := fun c j hc => by rw [fr5 _ _ (by omega)]; exact fa4 c j hc
  replace w1 : g5 (l + 5) t = pnm (tN B N (tE B N p)) := by rw [fr5 _ _ (by omega)]; exact w1
  clear fa4 fr5 k4 g4
  have s5 : sL g5 l := sL_fr hI.1 (fun j _ _ => fa5 _ _ (by omega)) (fun j _ _ => fa5 _ _ (by omega))
  have q5 : g5 33 1 = l := (fa5 _ _ (by omega)).trans h33
  simp (disch := omega) [r36_65, r36_68, r36_69, r36_70, r36_71, r36_74, r36_77, r36_78, r36_79, r36_82, r36_83, r36_84, r36_86, cs_nil, cs_cons, lc_lt, lc_ge, lc_gt, lc_le, lc_eq, q5, l0, sl_f s5, v5, sl_n lc, am_fitE, le_T, lt_T]
  clear v5 q5 s5
  have fa6 : ∀ c j : Int, ¬ ((c = 33 ∧ 4 ≤ j ∧ j ≤ 9) ∨ (l + 5 ≤ c ∧ c ≤ l + 7 ∧ j = t)) → (am_up g5 (l + 6) t (tV B N p3)) c j = f c j := fun c j hc => by rw [am_un (by omega)]; exact fa5 c j hc
  replace w1 : (am_up g5 (l + 6) t (tV B N p3)) (l + 5) t = pnm (tN B N (tE B N p)) := by rw [am_un (by omega)]; exact w1
  have w2 : (am_up g5 (l + 6) t (tV B N p3)) (l + 6) t = tV B N p3 := am_ue
  have k6 : CK (am_up g5 (l + 6) t (tV B N p3)) B N p4 := CK_fr k5 (fun j _ _ => am_un (by omega))
  generalize am_up g5 (l + 6) t (tV B N p3) = g6 at fa6 w1 w2 k6 ⊢
  clear fa5 k5 g5
  refine c_tw (CT_33 h (fun c j hc => fa6 c j (by omega))) hN hB k6 (by omega) le4 (by omega) ?_ ?_
  · intro k q e
    rw [e, b1_l] at hQ
    have := hQ _ (by rw [am_un (by omega), am_ue]) am_ue (fIw_fl (k := k) (q := q) (fun c j hc => fa6 c j (by omega)))
    simpa [r36_89, r36_92, r36_93, r36_94, r36_96, r36_99, r36_102, r36_103, cs_nil, cs_cons, lc_lt, lc_ge, lc_gt, lc_le, lc_eq] using this
  intro p5 g7 e k7 lt5 le5 fr7
  rw [e, b1_r] at hQ
  clear e
  have fa7 : ∀ c j : Int, ¬ ((c = 33 ∧ 4 ≤ j ∧ j ≤ 9) ∨ (l + 5 ≤ c ∧ c ≤ l + 7 ∧ j = t)) → g7 c j = f c j := fun c j hc => by rw [fr7 _ _ (by omega)]; exact fa6 c j hc
  replace w1 : g7 (l + 5) t = pnm (tN B N (tE B N p)) := by rw [fr7 _ _ (by omega)]; exact w1
  replace w2 : g7 (l + 6) t = tV B N p3 := by rw [fr7 _ _ (by omega)]; exact w2
  clear fa6 fr7 k6 g6
  simp [r36_89, r36_92, r36_93, r36_94, r36_96, cs_nil, cs_cons, lc_lt, lc_ge, lc_gt, lc_le, lc_eq]
  refine c_tn (CT_33 h (fun c j hc => fa7 c j (by omega))) hN hB k7 (by omega) le5 ?_ ?_
  · intro k q e
    rw [e, b1_l] at hQ
    have := hQ _ (by rw [am_un (by omega), am_ue]) am_ue (fIw_fl (k := k) (q := q) (fun c j hc => fa7 c j (by omega)))
    simpa [r36_99, r36_102, r36_103, cs_nil, cs_cons, lc_lt, lc_ge, lc_gt, lc_le, lc_eq] using this
  intro p6 gb' e kb vb vbb lt8 le8 frb
  rw [e, b1_r] at hQ
  clear e
  have fab : ∀ c j : Int, ¬ ((c = 33 ∧ 4 ≤ j ∧ j ≤ 9) ∨ (l + 5 ≤ c ∧ c ≤ l + 7 ∧ j = t)) → gb' c j = f c j := fun c j hc => by rw [frb _ _ (by omega)]; exact fa7 c j hc
  replace w1 : gb' (l + 5) t = pnm (tN B N (tE B N p)) := by rw [frb _ _ (by omega)]; exact w1
  replace w2 : gb' (l + 6) t = tV B N p3 := by rw [frb _ _ (by omega)]; exact w2
  clear fa7 frb k7 g7
  have sb : sL gb' l := sL_fr hI.1 (fun j _ _ => fab _ _ (by omega)) (fun j _ _ => fab _ _ (by omega))
  have qb : gb' 33 1 = l := (fab _ _ (by omega)).trans h33
  have fin := hQ (am_up (am_up gb' (l + 7) t (tV B N p5)) l 10 (t + 1)) sz (CK_fr kb (fun j _ _ => by rw [am_un (by omega), am_un (by omega)])) (by
    have := CI_M (g := am_up (am_up gb' (l + 7) t (tV B N p5)) l 10 (t + 1)) (rs := tN B N (tE B N p)) (v1 := tV B N p3) (v2 := tV B N p5) hI ht (by omega) t8 m8 (fun c j hc => by rw [am_un (by omega), am_un (by omega)]; exact fab c j (by omega)) (by rw [am_un (by omega), am_un (by omega)]; exact w1) (by rw [am_un (by omega), am_un (by omega)]; exact w2) (by rw [am_un (by omega), am_ue]) am_ue
    rw [ht] at this
    exact this) (by omega) (fun c j hc => by rw [am_un (by omega), am_un (by omega)]; exact fab c j (by omega))
  simpa (disch := omega) [r36_99, r36_102, r36_103, r36_104, r36_105, r36_108, r36_111, r36_112, r36_113, r36_116, r36_117, r36_118, r36_121, r36_122, r36_123, r36_124, r36_127, r36_128, cs_nil, cs_cons, lc_lt, lc_ge, lc_gt, lc_le, lc_eq, qb, l0, sl_f sb, vb, sl_n lc, am_fitE, am_un, am_ue, am_wid2, le_T, lt_T] using fin
/-- a number of cats -/
theorem c_sC (h : CT f B N) (hN : N ≤ 1600) (hB : ∀ j, 0 ≤ B j ∧ B j ≤ 255) (hK : CK f B N p) (h0 : 0 ≤ p) (h1 : p ≤ N) (hI : CI f l I sz) (hz : sz ≤ p) (h33 : f 33 1 = l) (hw : ¬ tW B N p = -1) (hQ : SQ B N l f Q (sdC B N I p)) : aw_cl (d + 5) 56 [(104, 33)] f Q := by
  have lc : l = 1 ∨ l = 20 := hI.2.1
  have l0 : 0 ≤ l := by omega
  have gb := tW_b h1 hw
  unfold sdC at hQ
  simp [q56, r56_0, r56_1, cs_nil, cs_cons, lc_lt, lc_ge, lc_gt, lc_le, lc_eq]
  refine c_adv h hN hB hK.2.2.1 (by omega) gb.2 ?_
  intro g1 k1 fr1
  simp [r56_4, r56_5, r56_6, r56_7, r56_9, cs_nil, cs_cons, lc_lt, lc_ge, lc_gt, lc_le, lc_eq]
  refine c_tn (CT_33 h (fun c j hc => fr1 c j (by omega))) hN hB k1 (by omega) gb.2 ?_ ?_
  · intro k q e
    rw [e, b1_l] at hQ
    have := hQ _ (by rw [am_un (by omega), am_ue]) am_ue (fIw_fl (k := k) (q := q) (fun c j hc => fr1 c j (by omega)))
    simpa [r56_12, r56_15, r56_16, cs_nil, cs_cons, lc_lt, lc_ge, lc_gt, lc_le, lc_eq] using this
  intro p2 g2 e k2 v2 vb lt2 le2 fr2
  rw [e, b1_r] at hQ
  have fa2 : ∀ c j : Int, ¬ (c = 33 ∧ 4 ≤ j ∧ j ≤ 9) → g2 c j = f c j := fun c j hc => by rw [fr2 _ _ hc, fr1 _ _ (by omega)]
  have q2 : g2 33 1 = l := (fa2 _ _ (by omega)).trans h33
  obtain ⟨hL, hl, ⟨f9, f10, f11, f12, f13⟩, hT, hM, hR, hW, hU, hs, s0⟩ := id hI
  have hg : ∀ c j : Int, ¬ ((c = 33 ∧ 4 ≤ j ∧ j ≤ 9) ∨ (c = l ∧ j = 12)) → (am_up g2 l 12 (tV B N (tE B N p))) c j = f c j := fun c j hc => by rw [am_un (by omega)]; exact fa2 c j (by omega)
  have fin := hQ (am_up g2 l 12 (tV B N (tE B N p))) sz (CK_fr k2 (fun j _ _ => am_un (by omega))) (by
    refine ⟨sL_fr hL (fun j _ _ => hg _ _ (by omega)) (fun j _ _ => hg _ _ (by omega)), hl, ⟨?_, ?_, ?_, ?_, ?_⟩, ?_, ?_, ?_, ?_, ?_, ?_, s0⟩
    · rw [hg _ _ (by omega)]; exact f9
    · rw [hg _ _ (by omega)]; exact f10
    · rw [hg _ _ (by omega)]; exact f11
    · show _ = am_up I.2.1 0 0 (tV B N (tE B N p)) 0 0
      rw [am_ue, am_ue]
    · show _ = am_up I.2.1 0 0 (tV B N (tE B N p)) 0 1
      rw [hg _ _ (by omega), am_un (by omega)]; exact f13
    · intro k k0 k1
      show _ ∧ _ = am_up I.2.1 0 0 (tV B N (tE B N p)) 2 k ∧ _ = am_up I.2.1 0 0 (tV B N (tE B N p)) 3 k ∧ _ = am_up I.2.1 0 0 (tV B N (tE B N p)) 4 k
      rw [hg _ _ (by omega), hg _ _ (by omega), hg _ _ (by omega), hg _ _ (by omega), am_un (by omega), am_un (by omega), am_un (by omega)]
      exact hT k k0 k1
    · intro k k0 k1
      show _ ∧ _ = am_up I.2.1 0 0 (tV B N (tE B N p)) 6 k ∧ _ = am_up I.2.1 0 0 (tV B N (tE B N p)) 7 k
      rw [hg _ _ (by omega), hg _ _ (by omega), hg _ _ (by omega), am_un (by omega), am_un (by omega)]
      exact hM k k0 k1
    · intro k k0 k1
      rw [hg _ _ (by omega)]
      exact hR k k0 k1
    · intro v v0 v1 hv
      obtain ⟨k0, a, b, c, e, al0⟩ := hW v v0 v1 hv
      refine ⟨k0, ?_, ?_, c, e, al_fr _ _ (fun j _ _ => hg _ _ (by omega)) al0⟩
      · rw [hg _ _ (by omega)]; exact a
      · rw [hg _ _ (by omega)]; exact b
    · intro v v0 v1 hv
      rw [hg _ _ (by omega), hg _ _ (by omega)]
      exact hU v v0 v1 hv
    · rw [hg _ _ (by omega)]; exact hs) (by omega) (fun c j hc => hg c j (by omega))
  simpa (disch := omega) [r56_12, r56_15, r56_16, r56_17, r56_18, r56_21, r56_22, r56_25, r56_28, r56_29, cs_nil, cs_cons, lc_lt, lc_ge, lc_gt, lc_le, lc_eq, q2, l0, v2] using fin
end
