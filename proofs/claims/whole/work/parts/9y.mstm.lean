/-! islands: the model's statements -/
def MI (f : am_F) (I : IS) (cd : Int) : Prop := (f 301 0 = I.1 0 ∧ f 301 1 = I.1 1 ∧ f 301 2 = I.1 2 ∧ f 270 43 = I.2.1 0 0 ∧ f 270 49 = I.2.1 0 1) ∧ (∀ t, 0 ≤ t → t < I.1 0 → f 302 (0 + t) = nv (I.2.2.2.2 (0 + t)) ∧ f 303 (3 * t) = I.2.1 2 t ∧ f 303 (3 * t + 1) = I.2.1 3 t ∧ f 303 (3 * t + 2) = I.2.1 4 t) ∧ (∀ k, 0 ≤ k → k < I.1 1 → f 302 (8 + k) = nv (I.2.2.2.2 (8 + k)) ∧ f 304 (2 * k) = I.2.1 6 k ∧ f 304 (2 * k + 1) = I.2.1 7 k) ∧ (∀ k, 0 ≤ k → k < I.1 2 → f 302 (16 + k) = nv (I.2.2.2.2 (16 + k))) ∧ (∀ w, 0 ≤ w → w < 10 → I.2.2.2.1 w = true → ∃ k0, f 305 w = k0 ∧ f 306 w = k0 + (I.2.2.1 w).length ∧ 0 ≤ k0 ∧ k0 + (I.2.2.1 w).length ≤ cd ∧ al f 307 id k0 (I.2.2.1 w)) ∧ (∀ w, 0 ≤ w → w < 10 → ¬ I.2.2.2.1 w = true → f 305 w = -1) ∧ f 270 48 = cd ∧ 0 ≤ cd
/-- the model stands at p, with what was told -/
def MM (f : am_F) (B : Int → Int) (N p : Int) (I : IS) (cd : Int) : Prop := MX f B N ∧ PP f B N p ∧ (f 270 5 = 0 ∧ f 270 6 = -1) ∧ MI f I cd ∧ (0 ≤ p ∧ p ≤ N ∧ cd ≤ p)
section
variable {d : Nat} {f g : am_F} {B : Int → Int} {N p cd : Int} {Q : am_V → am_F → Prop} {I : IS}
/-- cells that reading of words changes -/
theorem MI_fr (h : MI f I cd) (hg : ∀ c j : Int, (c = 270 ∧ (j = 43 ∨ j = 48 ∨ j = 49)) ∨ (301 ≤ c ∧ c ≤ 307) → g c j = f c j) : MI g I cd := by
  obtain ⟨⟨a0, a1, a2, a3, a4⟩, hT, hM, hR, hW, hU, hs, s0⟩ := h
  refine ⟨⟨?_, ?_, ?_, ?_, ?_⟩, ?_, ?_, ?_, ?_, ?_, ?_, s0⟩
  · rw [hg _ _ (by omega)]; exact a0
  · rw [hg _ _ (by omega)]; exact a1
  · rw [hg _ _ (by omega)]; exact a2
  · rw [hg _ _ (by omega)]; exact a3
  · rw [hg _ _ (by omega)]; exact a4
  · intro t t0 t1
    rw [hg _ _ (by omega), hg _ _ (by omega), hg _ _ (by omega), hg _ _ (by omega)]
    exact hT t t0 t1
  · intro t t0 t1
    rw [hg _ _ (by omega), hg _ _ (by omega), hg _ _ (by omega)]
    exact hM t t0 t1
  · intro t t0 t1
    rw [hg _ _ (by omega)]
    exact hR t t0 t1
  · intro v v0 v1 hv
    obtain ⟨k0, a, b, c, e, al0⟩ := hW v v0 v1 hv
    refine ⟨k0, ?_, ?_, c, e, al_fr _ _ (fun j _ _ => hg _ _ (by omega)) al0⟩
    · rw [hg _ _ (by omega)]; exact a
    · rw [hg _ _ (by omega)]; exact b
  · intro v v0 v1 hv
    rw [hg _ _ (by omega)]
    exact hU v v0 v1 hv
  · rw [hg _ _ (by omega)]; exact hs
/-- a loop over names of a kind: bad already -/
theorem nn_bad {c v n : Int} {y : am_V} (hb : ¬ f 270 5 = 0) (x39 : f 270 39 = 301) (hc : 0 ≤ c ∧ c < 3) (hn : f 301 c = n) (n0 : 0 ≤ n) (n8 : n ≤ 8) (hq : aw_wp d 170 65 [(110, 270), (1, v), (2, 0), (0, c), (0, n)] [] f Q) : aw_wp d 170 15 [(110, 270), (1, v), (2, 0), (0, c), (0, 0)] [] f Q := by
  have key : ∀ (j : Nat) (k : Int), k + j = n → 0 ≤ k → aw_wp d 170 15 [(110, 270), (1, v), (2, 0), (0, c), (0, k)] [] f Q := by
    intro j
    induction j with
    | zero =>
      intro k hk k0
      have : k = n := by omega
      subst this
      rw [r170_15]
      simpa (disch := omega) [r170_17, r170_18, r170_21, r170_22, r170_23, cs_nil, cs_cons, lc_lt, lc_ge, lc_gt, lc_le, lc_eq, x39, hn, ln_301, le_T, lt_T, le_F, lt_F] using hq
    | succ j ih =>
      intro k hk k0
      have ih' := ih (k + 1) (by omega) (by omega)
      rw [r170_15]
      simpa (disch := omega) [r170_17, r170_18, r170_21, r170_22, r170_23, r170_26, r170_27, r170_30, r170_33, r170_34, r170_37, r170_39, r170_40, r170_41, r170_43, r170_44, r170_45, r170_46, r170_47, r170_50, r170_51, r170_52, r170_53, r170_56, r170_59, r170_62, cs_nil, cs_cons, lc_lt, lc_ge, lc_gt, lc_le, lc_eq, x39, hn, ln_301, hb, am_wid2, le_T, lt_T, le_F, lt_F] using ih'
  exact key n.toNat 0 (by omega) (by omega)
theorem nn_ok {c v n : Int} (hb : f 270 5 = 0) (x39 : f 270 39 = 301) (x40 : f 270 40 = 302) (hc : 0 ≤ c ∧ c < 3) (hn : f 301 c = n) (n0 : 0 ≤ n) (n8 : n ≤ 8) (hd : ¬ ∃ t, 0 ≤ t ∧ t < n ∧ f 302 (8 * c + t) = v) (hq : aw_wp d 170 65 [(110, 270), (1, v), (2, 0), (0, c), (0, n)] [] f Q) : aw_wp d 170 15 [(110, 270), (1, v), (2, 0), (0, c), (0, 0)] [] f Q := by
  have key : ∀ (j : Nat) (k : Int), k + j = n → 0 ≤ k → aw_wp d 170 15 [(110, 270), (1, v), (2, 0), (0, c), (0, k)] [] f Q := by
    intro j
    induction j with
    | zero =>
      intro k hk k0
      have : k = n := by omega
      subst this
      rw [r170_15]
      simpa (disch := omega) [r170_17, r170_18, r170_21, r170_22, r170_23, cs_nil, cs_cons, lc_lt, lc_ge, lc_gt, lc_le, lc_eq, x39, hn, ln_301, le_T, lt_T, le_F, lt_F] using hq
    | succ j ih =>
      intro k hk k0
      have ih' := ih (k + 1) (by omega) (by omega)
      have ne : ¬ f 302 (8 * c + k) = v := fun e => hd ⟨k, k0, by omega, e⟩
      rw [r170_15]
      rcases (show f 302 (8 * c + k) < v ∨ v < f 302 (8 * c + k) by omega) with q | q
      · simpa (disch := omega) [r170_17, r170_18, r170_21, r170_22, r170_23, r170_26, r170_27, r170_30, r170_33, r170_34, r170_37, r170_39, r170_40, r170_41, r170_43, r170_44, r170_45, r170_46, r170_47, r170_50, r170_51, r170_52, r170_53, r170_56, r170_59, r170_62, cs_nil, cs_cons, lc_lt, lc_ge, lc_gt, lc_le, lc_eq, x39, x40, hn, ln_301, ln_302, hb, q, ne, am_wid2, le_T, lt_T, le_F, lt_F] using ih'
      · simpa (disch := omega) [r170_17, r170_18, r170_21, r170_22, r170_23, r170_26, r170_27, r170_30, r170_33, r170_34, r170_37, r170_39, r170_40, r170_41, r170_43, r170_44, r170_45, r170_46, r170_47, r170_50, r170_51, r170_52, r170_53, r170_56, r170_59, r170_62, cs_nil, cs_cons, lc_lt, lc_ge, lc_gt, lc_le, lc_eq, x39, x40, hn, ln_301, ln_302, hb, q, ne, am_wid2, le_T, lt_T, le_F, lt_F] using ih'
  exact key n.toNat 0 (by omega) (by omega)
theorem nn_dup {c v n P : Int} (hb : f 270 5 = 0) (x38 : f 270 38 = P) (x39 : f 270 39 = 301) (x40 : f 270 40 = 302) (hc : 0 ≤ c ∧ c < 3) (hn : f 301 c = n) (n0 : 0 ≤ n) (n8 : n ≤ 8) (hd : ∃ t, 0 ≤ t ∧ t < n ∧ f 302 (8 * c + t) = v) (hq : aw_wp (d + 1) 170 65 [(110, 270), (1, v), (2, 0), (0, c), (0, n)] [] (am_up (am_up f 270 5 3) 270 6 P) Q) : aw_wp (d + 1) 170 15 [(110, 270), (1, v), (2, 0), (0, c), (0, 0)] [] f Q := by
  have x39' : (am_up (am_up f 270 5 3) 270 6 P) 270 39 = 301 := by rw [am_un (by omega), am_un (by omega)]; exact x39
  have b' : ¬ (am_up (am_up f 270 5 3) 270 6 P) 270 5 = 0 := by rw [am_un (by omega), am_ue]; decide
  have hn' : (am_up (am_up f 270 5 3) 270 6 P) 301 c = n := by rw [am_un (by omega), am_un (by omega)]; exact hn
  have key2 : ∀ (j : Nat) (k : Int), k + j = n → 0 ≤ k → aw_wp (d + 1) 170 15 [(110, 270), (1, v), (2, 0), (0, c), (0, k)] [] (am_up (am_up f 270 5 3) 270 6 P) Q := by
    intro j
    induction j with
    | zero =>
      intro k hk k0
      have : k = n := by omega
      subst this
      rw [r170_15]
      simpa (disch := omega) [r170_17, r170_18, r170_21, r170_22, r170_23, cs_nil, cs_cons, lc_lt, lc_ge, lc_gt, lc_le, lc_eq, x39', hn', ln_301, le_T, lt_T, le_F, lt_F] using hq
    | succ j ih =>
      intro k hk k0
      have ih' := ih (k + 1) (by omega) (by omega)
      rw [r170_15]
      simpa (disch := omega) [r170_17, r170_18, r170_21, r170_22, r170_23, r170_26, r170_27, r170_30, r170_33, r170_34, r170_37, r170_39, r170_40, r170_41, r170_43, r170_44, r170_45, r170_46, r170_47, r170_50, r170_51, r170_52, r170_53, r170_56, r170_59, r170_62, cs_nil, cs_cons, lc_lt, lc_ge, lc_gt, lc_le, lc_eq, x39', hn', ln_301, b', am_wid2, le_T, lt_T, le_F, lt_F] using ih'
  obtain ⟨t, t0, t1, ht⟩ := hd
  have key : ∀ (j : Nat) (k : Int), k + j = t → 0 ≤ k → aw_wp (d + 1) 170 15 [(110, 270), (1, v), (2, 0), (0, c), (0, k)] [] f Q := by
    intro j
    induction j with
    | zero =>
      intro k hk k0
      have : k = t := by omega
      subst this
      have := key2 (n - (k + 1)).toNat (k + 1) (by omega) (by omega)
      rw [r170_15]
      simpa (disch := omega) [r170_17, r170_18, r170_21, r170_22, r170_23, r170_26, r170_27, r170_30, r170_33, r170_34, r170_37, r170_39, r170_40, r170_41, r170_43, r170_44, r170_45, r170_46, r170_47, r170_50, r170_51, r170_52, r170_53, r170_56, r170_59, r170_62, cs_nil, cs_cons, lc_lt, lc_ge, lc_gt, lc_le, lc_eq, x38, x39, x40, hn, ln_301, ln_302, hb, ht, m_fail hb, am_wid2, le_T, lt_T, le_F, lt_F] using this
    | succ j ih =>
      intro k hk k0
      have ih' := ih (k + 1) (by omega) (by omega)
      rw [r170_15]
      rcases (show f 302 (8 * c + k) = v ∨ f 302 (8 * c + k) < v ∨ v < f 302 (8 * c + k) by omega) with q | q | q
      · have := key2 (n - (k + 1)).toNat (k + 1) (by omega) (by omega)
        simpa (disch := omega) [r170_17, r170_18, r170_21, r170_22, r170_23, r170_26, r170_27, r170_30, r170_33, r170_34, r170_37, r170_39, r170_40, r170_41, r170_43, r170_44, r170_45, r170_46, r170_47, r170_50, r170_51, r170_52, r170_53, r170_56, r170_59, r170_62, cs_nil, cs_cons, lc_lt, lc_ge, lc_gt, lc_le, lc_eq, x38, x39, x40, hn, ln_301, ln_302, hb, q, m_fail hb, am_wid2, le_T, lt_T, le_F, lt_F] using this
      · have ne : ¬ f 302 (8 * c + k) = v := by omega
        simpa (disch := omega) [r170_17, r170_18, r170_21, r170_22, r170_23, r170_26, r170_27, r170_30, r170_33, r170_34, r170_37, r170_39, r170_40, r170_41, r170_43, r170_44, r170_45, r170_46, r170_47, r170_50, r170_51, r170_52, r170_53, r170_56, r170_59, r170_62, cs_nil, cs_cons, lc_lt, lc_ge, lc_gt, lc_le, lc_eq, x39, x40, hn, ln_301, ln_302, hb, q, ne, am_wid2, le_T, lt_T, le_F, lt_F] using ih'
      · have ne : ¬ f 302 (8 * c + k) = v := by omega
        simpa (disch := omega) [r170_17, r170_18, r170_21, r170_22, r170_23, r170_26, r170_27, r170_30, r170_33, r170_34, r170_37, r170_39, r170_40, r170_41, r170_43, r170_44, r170_45, r170_46, r170_47, r170_50, r170_51, r170_52, r170_53, r170_56, r170_59, r170_62, cs_nil, cs_cons, lc_lt, lc_ge, lc_gt, lc_le, lc_eq, x39, x40, hn, ln_301, ln_302, hb, q, ne, am_wid2, le_T, lt_T, le_F, lt_F] using ih'
  exact key t.toNat 0 (by omega) (by omega)
/-- all kinds: bad already -/
theorem nn_badA {v : Int} {c : Int} (hb : ¬ f 270 5 = 0) (x39 : f 270 39 = 301) (hm : (0 ≤ f 301 0 ∧ f 301 0 ≤ 8) ∧ (0 ≤ f 301 1 ∧ f 301 1 ≤ 4) ∧ (0 ≤ f 301 2 ∧ f 301 2 ≤ 5)) (hc : c = 0 ∨ c = 1 ∨ c = 2) {x : am_V} (hq : Q (1, v) f) : aw_wp d 170 7 [(110, 270), (1, v), (2, 0), (0, c), x] [] f Q := by
  have a3 : ∀ x : am_V, aw_wp d 170 7 [(110, 270), (1, v), (2, 0), (0, 3), x] [] f Q := by
    rintro ⟨t, u⟩
    rw [r170_7]
    simpa [r170_8, r170_9, cs_nil, cs_cons, lc_lt, lc_ge, lc_gt, lc_le, lc_eq, r170_71, r170_72] using hq
  have go : ∀ (c c' : Int), (0 ≤ c ∧ c < 3) → c' = c + 1 → (0 ≤ f 301 c ∧ f 301 c ≤ 8) → (∀ x : am_V, aw_wp d 170 7 [(110, 270), (1, v), (2, 0), (0, c'), x] [] f Q) → ∀ x : am_V, aw_wp d 170 7 [(110, 270), (1, v), (2, 0), (0, c), x] [] f Q := by
    rintro c c' hc rfl hn hx ⟨t, u⟩
    have := nn_bad (d := d) (Q := Q) (c := c) (v := v) (y := (2, 0)) hb x39 hc rfl hn.1 hn.2 (by
      have := hx (0, f 301 c)
      simpa (disch := omega) [r170_65, r170_68, cs_nil, cs_cons, lc_lt, lc_ge, lc_gt, lc_le, lc_eq, am_wid2] using this)
    rw [r170_7]
    simpa (disch := omega) [r170_8, r170_9, r170_12, r170_13, cs_nil, cs_cons, lc_lt, lc_ge, lc_gt, lc_le, lc_eq, le_T, lt_T, le_F, lt_F] using this
  have a2 := go 2 3 (by omega) rfl (by omega) a3
  have a1 := go 1 2 (by omega) rfl (by omega) a2
  have a0 := go 0 1 (by omega) rfl (by omega) a1
  rcases hc with e | e | e
  · rw [e]; exact a0 x
  · rw [e]; exact a1 x
  · rw [e]; exact a2 x
/-- names are unlike, or not -/
theorem nn_all {rs : List Int} {P : Int} (hb : f 270 5 = 0) (x38 : f 270 38 = P) (x39 : f 270 39 = 301) (x40 : f 270 40 = 302) (h : MI f I cd) (hp : PI I) (hr : vnm rs) {x : am_V} (hq : Q (1, nv rs) (if dupN I rs = true then am_up (am_up f 270 5 3) 270 6 P else f)) : aw_wp (d + 1) 170 7 [(110, 270), (1, nv rs), (2, 0), (0, 0), x] [] f Q := by
  obtain ⟨⟨a0, a1, a2, _, _⟩, hT, hM, hR, _⟩ := h
  obtain ⟨⟨p0, p1, p2⟩, ⟨v0, v1, v2⟩, _⟩ := hp
  have iA : dup1 (I.1 0) 0 I.2.2.2.2 rs = true ↔ ∃ t, 0 ≤ t ∧ t < I.1 0 ∧ f 302 (8 * 0 + t) = nv rs := by
    rw [dup1_i]
    constructor
    · rintro ⟨t, a, b, c⟩; exact ⟨t, a, b, by rw [show (8 : Int) * 0 + t = 0 + t by omega, (hT t a b).1, c]⟩
    · rintro ⟨t, a, b, c⟩; exact ⟨t, a, b, nv_inj _ _ (v0 t a b).2.2 hr.2.2 (by rw [← (hT t a b).1, ← c, show (8 : Int) * 0 + t = 0 + t by omega])⟩
  have iB : dup1 (I.1 1) 8 I.2.2.2.2 rs = true ↔ ∃ t, 0 ≤ t ∧ t < I.1 1 ∧ f 302 (8 * 1 + t) = nv rs := by
    rw [dup1_i]
    constructor
    · rintro ⟨t, a, b, c⟩; exact ⟨t, a, b, by rw [show (8 : Int) * 1 + t = 8 + t by omega, (hM t a b).1, c]⟩
    · rintro ⟨t, a, b, c⟩; exact ⟨t, a, b, nv_inj _ _ (v1 t a b).2.2 hr.2.2 (by rw [← (hM t a b).1, ← c, show (8 : Int) * 1 + t = 8 + t by omega])⟩
  have iC : dup1 (I.1 2) 16 I.2.2.2.2 rs = true ↔ ∃ t, 0 ≤ t ∧ t < I.1 2 ∧ f 302 (8 * 2 + t) = nv rs := by
    rw [dup1_i]
    constructor
    · rintro ⟨t, a, b, c⟩; exact ⟨t, a, b, by rw [show (8 : Int) * 2 + t = 16 + t by omega, hR t a b, c]⟩
    · rintro ⟨t, a, b, c⟩; exact ⟨t, a, b, nv_inj _ _ (v2 t a b).2.2 hr.2.2 (by rw [← hR t a b, ← c, show (8 : Int) * 2 + t = 16 + t by omega])⟩
  have bad : ∀ (c : Int) (x : am_V), (c = 1 ∨ c = 2 ∨ c = 3) → dupN I rs = true → aw_wp (d + 1) 170 7 [(110, 270), (1, nv rs), (2, 0), (0, c), x] [] (am_up (am_up f 270 5 3) 270 6 P) Q := by
    intro c x hc hd
    rw [if_pos hd] at hq
    rcases hc with e | e | e
    · exact nn_badA (by rw [am_un (by omega), am_ue]; decide) (by rw [am_un (by omega), am_un (by omega)]; exact x39) (by rw [am_un (by omega), am_un (by omega), am_un (by omega), am_un (by omega), am_un (by omega), am_un (by omega), a0, a1, a2]; exact ⟨p0, p1, p2⟩) (Or.inr (Or.inl e)) hq
    · exact nn_badA (by rw [am_un (by omega), am_ue]; decide) (by rw [am_un (by omega), am_un (by omega)]; exact x39) (by rw [am_un (by omega), am_un (by omega), am_un (by omega), am_un (by omega), am_un (by omega), am_un (by omega), a0, a1, a2]; exact ⟨p0, p1, p2⟩) (Or.inr (Or.inr e)) hq
    · subst e
      obtain ⟨t, u⟩ := x
      rw [r170_7]
      simpa [r170_8, r170_9, cs_nil, cs_cons, lc_lt, lc_ge, lc_gt, lc_le, lc_eq, r170_71, r170_72] using hq
  have stepN : ∀ (c c' n : Int) (x : am_V), (0 ≤ c ∧ c < 3) → c' = c + 1 → f 301 c = n → 0 ≤ n → n ≤ 8 → (¬ ∃ t, 0 ≤ t ∧ t < n ∧ f 302 (8 * c + t) = nv rs) → (∀ x : am_V, aw_wp (d + 1) 170 7 [(110, 270), (1, nv rs), (2, 0), (0, c'), x] [] f Q) → aw_wp (d + 1) 170 7 [(110, 270), (1, nv rs), (2, 0), (0, c), x] [] f Q := by
    rintro c c' n ⟨t, u⟩ hc rfl hn n0 n8 hd hx
    have := nn_ok (d := d + 1) (Q := Q) (c := c) hb x39 x40 hc hn n0 n8 hd (by
      have := hx (0, n)
      simpa (disch := omega) [r170_65, r170_68, cs_nil, cs_cons, lc_lt, lc_ge, lc_gt, lc_le, lc_eq, am_wid2] using this)
    rw [r170_7]
    simpa (disch := omega) [r170_8, r170_9, r170_12, r170_13, cs_nil, cs_cons, lc_lt, lc_ge, lc_gt, lc_le, lc_eq, le_T, lt_T, le_F, lt_F] using this
  have stepY : ∀ (c c' n : Int) (x : am_V), (0 ≤ c ∧ c < 3) → c' = c + 1 → f 301 c = n → 0 ≤ n → n ≤ 8 → (∃ t, 0 ≤ t ∧ t < n ∧ f 302 (8 * c + t) = nv rs) → (∀ x : am_V, aw_wp (d + 1) 170 7 [(110, 270), (1, nv rs), (2, 0), (0, c'), x] [] (am_up (am_up f 270 5 3) 270 6 P) Q) → aw_wp (d + 1) 170 7 [(110, 270), (1, nv rs), (2, 0), (0, c), x] [] f Q := by
    rintro c c' n ⟨t, u⟩ hc rfl hn n0 n8 hd hx
    have := nn_dup (d := d) (Q := Q) (c := c) hb x38 x39 x40 hc hn n0 n8 hd (by
      have := hx (0, n)
      simpa (disch := omega) [r170_65, r170_68, cs_nil, cs_cons, lc_lt, lc_ge, lc_gt, lc_le, lc_eq, am_wid2] using this)
    rw [r170_7]
    simpa (disch := omega) [r170_8, r170_9, r170_12, r170_13, cs_nil, cs_cons, lc_lt, lc_ge, lc_gt, lc_le, lc_eq, le_T, lt_T, le_F, lt_F] using this
  by_cases q1 : dup1 (I.1 0) 0 I.2.2.2.2 rs = true
  · exact stepY 0 1 (I.1 0) x (by omega) rfl a0 p0.1 p0.2 (iA.mp q1) (fun x => bad 1 x (by omega) (by unfold dupN; simp [q1]))
  · refine stepN 0 1 (I.1 0) x (by omega) rfl a0 p0.1 p0.2 (fun q => q1 (iA.mpr q)) (fun x => ?_)
    by_cases q2 : dup1 (I.1 1) 8 I.2.2.2.2 rs = true
    · exact stepY 1 2 (I.1 1) x (by omega) rfl a1 p1.1 (by omega) (iB.mp q2) (fun x => bad 2 x (by omega) (by unfold dupN; simp [q2]))
    · refine stepN 1 2 (I.1 1) x (by omega) rfl a1 p1.1 (by omega) (fun q => q2 (iB.mpr q)) (fun x => ?_)
      by_cases q3 : dup1 (I.1 2) 16 I.2.2.2.2 rs = true
      · exact stepY 2 3 (I.1 2) x (by omega) rfl a2 p2.1 (by omega) (iC.mp q3) (fun x => bad 3 x (by omega) (by unfold dupN; simp [q3]))
      · refine stepN 2 3 (I.1 2) x (by omega) rfl a2 p2.1 (by omega) (fun q => q3 (iC.mpr q)) (fun x => ?_)
        have nd : ¬ dupN I rs = true := by unfold dupN; simp [q1, q2, q3]
        rw [if_neg nd] at hq
        obtain ⟨t, u⟩ := x
        rw [r170_7]
        simpa [r170_8, r170_9, cs_nil, cs_cons, lc_lt, lc_ge, lc_gt, lc_le, lc_eq, r170_71, r170_72] using hq
/-- a new name -/
theorem m_newName (hN : N ≤ 1600) (hM : MM f B N p I cd) (hp : PI I) (hF : ∀ k q, rNm B N I p = .inl (k, q) → ¬ k = 0 → ∀ v g, g 270 5 = k → g 270 6 = q → (∀ c j : Int, ¬ (c = 270 ∧ (j = 2 ∨ (4 ≤ j ∧ j ≤ 6) ∨ j = 38)) → g c j = f c j) → Q (1, v) g) (hO : ∀ p2, rNm B N I p = .inr p2 → ∀ g, MM g B N p2 I cd → (∀ c j : Int, ¬ (c = 270 ∧ (j = 2 ∨ j = 4 ∨ j = 38)) → g c j = f c j) → Q (1, nv (tN B N p)) g) : aw_cl (d + 5) 170 [(110, 270)] f Q := by
  obtain ⟨hX, hP, ⟨b5, b6⟩, hI, p0, pN, hcd⟩ := id hM
  have x1 := hX.1.1
  have m39 : f 270 39 = 301 := fx_270_39 x1
  have m40 : f 270 40 = 302 := fx_270_40 x1
  have hm : (0 ≤ f 301 0 ∧ f 301 0 ≤ 8) ∧ (0 ≤ f 301 1 ∧ f 301 1 ≤ 4) ∧ (0 ≤ f 301 2 ∧ f 301 2 ≤ 5) := by rw [hI.1.1, hI.1.2.1, hI.1.2.2.1]; exact hp.1
  by_cases hc : ¬ tK B N p = 1 ∨ (0 ≤ tW B N p ∧ tW B N p < 28)
  · have nm := fun (dd : Nat) (QQ : am_V → am_F → Prop) => m_nameN (d := dd) (Q := QQ) hX hN p0 pN hP b5 hc
    have := nn_badA (d := d + 5) (v := 0) (c := 0) (x := (2, 0)) (f := am_up (am_up (am_up f 270 2 (tS B N p)) 270 5 1) 270 6 (tS B N p)) (Q := Q) (by rw [am_un (by omega), am_ue]; decide) (by rw [am_un (by omega), am_un (by omega), am_un (by omega)]; exact m39) (by rw [am_un (by omega), am_un (by omega), am_un (by omega), am_un (by omega), am_un (by omega), am_un (by omega), am_un (by omega), am_un (by omega), am_un (by omega)]; exact hm) (Or.inl rfl) (hF 1 (tS B N p) (by unfold rNm; rw [if_pos hc]) (by omega) 0 _ (by rw [am_un (by omega), am_ue]) am_ue (fun c j hc => by rw [am_un (by omega), am_un (by omega), am_un (by omega)]))
    simpa [q170, r170_0, r170_1, r170_4, r170_5, r170_6, cs_nil, cs_cons, lc_lt, lc_ge, lc_gt, lc_le, lc_eq, nm] using this
  · have hk : tK B N p = 1 := by
      by_cases q : tK B N p = 1
      · exact q
      · exact absurd (Or.inl q) hc
    have hc2 : ¬ (0 ≤ tW B N p ∧ tW B N p < 28) := fun q => hc (Or.inr q)
    have tr := tE_r (Or.inl rfl) hk pN
    have sb := tS_b (B := B) pN
    have nm := fun (dd : Nat) (QQ : am_V → am_F → Prop) => m_nameL (d := dd) (Q := QQ) hX hN p0 pN hP b5 hk hc2
    by_cases h6 : 6 < tE B N p - tS B N p
    · simp only [if_pos h6] at nm
      have := nn_badA (d := d + 5) (v := 0) (c := 0) (x := (2, 0)) (f := am_up (am_up (am_up (am_up f 270 2 (tS B N p + 6)) 270 38 (tS B N p)) 270 5 1) 270 6 (tS B N p + 6)) (Q := Q) (by rw [am_un (by omega), am_ue]; decide) (by rw [am_un (by omega), am_un (by omega), am_un (by omega), am_un (by omega)]; exact m39) (by rw [am_un (by omega), am_un (by omega), am_un (by omega), am_un (by omega), am_un (by omega), am_un (by omega), am_un (by omega), am_un (by omega), am_un (by omega), am_un (by omega), am_un (by omega), am_un (by omega)]; exact hm) (Or.inl rfl) (hF 1 (tS B N p + 6) (by unfold rNm; rw [if_neg hc, if_pos h6]) (by omega) 0 _ (by rw [am_un (by omega), am_ue]) am_ue (fun c j hc => by rw [am_un (by omega), am_un (by omega), am_un (by omega), am_un (by omega)]))
      simpa [q170, r170_0, r170_1, r170_4, r170_5, r170_6, cs_nil, cs_cons, lc_lt, lc_ge, lc_gt, lc_le, lc_eq, nm] using this
    · simp only [if_neg h6] at nm
      have vn := tN_v hk pN (show tE B N p - tS B N p ≤ 6 by omega)
      have fr : ∀ c j : Int, ¬ (c = 270 ∧ (j = 2 ∨ j = 4 ∨ j = 38)) → (am_up (am_up (am_up f 270 2 (tE B N p)) 270 38 (tS B N p)) 270 4 (tE B N p)) c j = f c j := fun c j hc => by rw [am_un (by omega), am_un (by omega), am_un (by omega)]
      have e38 : (am_up (am_up (am_up f 270 2 (tE B N p)) 270 38 (tS B N p)) 270 4 (tE B N p)) 270 38 = tS B N p := by rw [am_un (by omega), am_ue]
      have e2 : (am_up (am_up (am_up f 270 2 (tE B N p)) 270 38 (tS B N p)) 270 4 (tE B N p)) 270 2 = tE B N p := by rw [am_un (by omega), am_un (by omega), am_ue]
      have e4 : (am_up (am_up (am_up f 270 2 (tE B N p)) 270 38 (tS B N p)) 270 4 (tE B N p)) 270 4 = tE B N p := am_ue
      generalize am_up (am_up (am_up f 270 2 (tE B N p)) 270 38 (tS B N p)) 270 4 (tE B N p) = g at nm fr e38 e2 e4
      have hIg : MI g I cd := MI_fr hI (fun c j hc => fr c j (by omega))
      have := nn_all (d := d + 4) (x := (2, 0)) (Q := Q) (f := g) (rs := tN B N p) ((fr _ _ (by omega)).trans b5) e38 ((fr _ _ (by omega)).trans m39) ((fr _ _ (by omega)).trans m40) hIg hp vn (by
        by_cases hd : dupN I (tN B N p) = true
        · rw [if_pos hd]
          exact hF 3 (tS B N p) (by unfold rNm; rw [if_neg hc, if_neg h6, if_pos hd]) (by omega) _ _ (by rw [am_un (by omega), am_ue]) am_ue (fun c j hc => by rw [am_un (by omega), am_un (by omega)]; exact fr c j (by omega))
        · rw [if_neg hd]
          refine hO (tE B N p) (by unfold rNm; rw [if_neg hc, if_neg h6, if_neg hd]) g ⟨MX_gIw hX (fun c j hc => fr c j (by omega)), PP_word (Or.inl rfl) hk p0 pN e2 e4, ⟨(fr _ _ (by omega)).trans b5, (fr _ _ (by omega)).trans b6⟩, hIg, by omega, tr.2.2.2.2.2, by omega⟩ fr)
      simpa [q170, r170_0, r170_1, r170_4, r170_5, r170_6, cs_nil, cs_cons, lc_lt, lc_ge, lc_gt, lc_le, lc_eq, nm] using this
end
