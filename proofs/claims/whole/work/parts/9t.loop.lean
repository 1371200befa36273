/-! islands: what is read holds together; the one side's loop -/
section
variable {B : Int → Int} {N p p' : Int} {I I' : IS}
theorem b1_o {x : R1} {h : Int → RI} {r : Int × IS} (e : b1 x h = .inr r) : ∃ q, x = .inr q ∧ h q = .inr r := by
  match x, e with
  | .inr q, e => exact ⟨q, rfl, e⟩
  | .inl _, e => cases e
theorem rWd_o {k q : Int} (h : rWd B N k p = .inr q) (hk : 0 ≤ k) (h1 : p ≤ N) : p < q ∧ q ≤ N := by
  unfold rWd at h
  split at h
  · rename_i hw
    cases h
    exact tW_b h1 (by omega)
  · cases h
theorem rNu_o {a b q : Int} (h : rNu B N a b p = .inr q) (h1 : p ≤ N) : (p < q ∧ q ≤ N) ∧ a ≤ tV B N p ∧ tV B N p ≤ b := by
  unfold rNu at h
  split at h
  · cases h
  · rename_i hk
    split at h
    · cases h
    · split at h
      · rename_i hv
        cases h
        have := tok_b h1 (show ¬ tK B N p = 0 by omega)
        exact ⟨by omega, hv⟩
      · cases h
theorem rNm_o {q : Int} (h : rNm B N I p = .inr q) (h1 : p ≤ N) : (p < q ∧ q ≤ N) ∧ vnm (tN B N p) := by
  unfold rNm at h
  split at h
  · cases h
  · rename_i hc
    have hk : tK B N p = 1 := by
      by_cases q : tK B N p = 1
      · exact q
      · exact absurd (Or.inl q) hc
    split at h
    · cases h
    · rename_i hl
      split at h
      · cases h
      · cases h
        have := tok_b h1 (show ¬ tK B N p = 0 by omega)
        exact ⟨by omega, tN_v hk h1 (by omega)⟩
theorem rK_o {κ : Int} {mode : Nat} {q : Int} {cs : List Int} {sk : Bool} (hN : N ≤ 1600) (p0 : 0 ≤ p) (h1 : p ≤ N) (hm : mode = 9 ∨ mode = 4) (hκ : ¬ κ = 3) (hs : κ = 2 → sk = true) (h : rK B N κ mode p = .inr (q, cs)) : (p < q ∧ q ≤ N) ∧ 0 < cs.length ∧ tr sk false cs [] = some [decide (mode = 9)] := by
  have hr := rK_e (B := B) (κ := κ) hN p0 h1 mode
  rw [h] at hr
  have ln := rd_len _ _ _ _ _ _ hr h1
  have ty := rd_ty (sk := sk) (q := false) hs (fun e => absurd e hκ) 20000 mode p 0 q cs hr h1 (by omega) [] (by rcases hm with e | e <;> rw [e] <;> simp [lvt])
  have ty2 : tr sk false cs [] = some [decide (mode = 9)] := by
    rcases hm with e | e
    · subst e; simpa [tyi, tyo] using ty
    · subst e; simpa [tyi, tyo] using ty
  refine ⟨⟨ln.2 (by omega), ln.1.2.1⟩, ?_, ty2⟩
  cases cs with
  | nil => cases ty2
  | cons c cs => simp
theorem PI_rule {w : Int} {cs : List Int} (hp : PI I) (w0 : 0 ≤ w) (w5 : w < 5) (hl : 0 < cs.length) (ht : tr (skw w) false cs [] = some [decide (wM w = 9)]) : PI (I.1, I.2.1, u1 I.2.2.1 w cs, u1 I.2.2.2.1 w true, I.2.2.2.2) := by
  obtain ⟨a, b, c, e, g⟩ := hp
  refine ⟨a, b, c, ?_, ?_⟩
  · intro v v0 v1 hv
    have hv : u1 I.2.2.2.1 w true v = true := hv
    show 0 < (u1 I.2.2.1 w cs v).length ∧ ∃ b, tr (skw v) false (u1 I.2.2.1 w cs v) [] = some [b] ∧ (tyw v = true → b = true)
    by_cases q : v = w
    · subst q
      rw [u1_e]
      refine ⟨hl, _, ht, fun hy => ?_⟩
      unfold tyw at hy
      unfold wM
      simp only [decide_eq_true_eq] at hy ⊢
      rw [if_pos (by omega)]
    · rw [u1_n q] at hv ⊢
      exact e v v0 v1 hv
  · intro k k0 k1
    show u1 I.2.2.2.1 w true (5 + k) = true ↔ _
    rw [u1_n (by omega)]
    exact g k k0 k1
theorem wK_n {w : Int} : ¬ wK w = 3 ∧ (wK w = 2 → skw w = true) := by
  unfold wK skw
  constructor
  · split
    · omega
    · split <;> omega
  · intro h
    split at h
    · omega
    · split at h
      · simp; omega
      · omega
theorem wM_n {w : Int} : wM w = 9 ∨ wM w = 4 := by
  unfold wM
  split
  · exact Or.inl rfl
  · exact Or.inr rfl
theorem sdX_PI {w : Int} (hN : N ≤ 1600) (hp : PI I) (p0 : 0 ≤ p) (h1 : p ≤ N) (hw : ¬ tW B N p = -1) (w0 : 0 ≤ w) (w5 : w < 5) (h : sdX B N w I p = .inr (p', I')) : PI I' ∧ p < p' ∧ p' ≤ N := by
  have gb := tW_b h1 hw
  unfold sdX at h
  split at h
  · cases h
  · match hx : rK B N (wK w) (wM w) (tE B N p) with
    | .inl e => rw [hx] at h; cases h
    | .inr (q, cs) =>
      rw [hx] at h
      cases h
      have o := rK_o (sk := skw w) hN (by omega) gb.2 wM_n wK_n.1 wK_n.2 hx
      exact ⟨PI_rule hp w0 w5 o.2.1 o.2.2, by omega, by omega⟩
theorem sdd_PI (hN : N ≤ 1600) (hp : PI I) (p0 : 0 ≤ p) (h1 : p ≤ N) (h : sdd B N I p = .inr (p', I')) : PI I' ∧ p < p' ∧ p' ≤ N := by
  unfold sdd at h
  by_cases c0 : tW B N p = 0
  · rw [if_pos c0] at h
    have gb := tW_b h1 (show ¬ tW B N p = -1 by omega)
    unfold sdT at h
    split at h
    · cases h
    rename_i h8
    obtain ⟨p2, e2, h⟩ := b1_o h
    have o2 := rNm_o e2 gb.2
    obtain ⟨p3, e3, h⟩ := b1_o h
    have o3 := rWd_o e3 (by omega) o2.1.2
    obtain ⟨p4, e4, h⟩ := b1_o h
    have o4 := rNu_o e4 o3.2
    obtain ⟨p5, e5, h⟩ := b1_o h
    have o5 := rWd_o e5 (by omega) o4.1.2
    obtain ⟨p6, e6, h⟩ := b1_o h
    have o6 := rNu_o e6 o5.2
    obtain ⟨p7, e7, h⟩ := b1_o h
    have o7 := rWd_o e7 (by omega) o6.1.2
    obtain ⟨p8, e8, h⟩ := b1_o h
    have o8 := rNu_o e8 o7.2
    cases h
    obtain ⟨⟨a0, a1, a2⟩, ⟨b0, b1, b2⟩, ⟨v0, v1, v2⟩, r1, r2⟩ := hp
    have n1 : ∀ k : Int, ¬ k = 0 → u1 I.1 0 (I.1 0 + 1) k = I.1 k := fun k hk => u1_n hk
    have n0 : u1 I.1 0 (I.1 0 + 1) 0 = I.1 0 + 1 := u1_e
    refine ⟨⟨⟨?_, ?_, ?_⟩, ⟨?_, ?_, ?_⟩, ⟨?_, ?_, ?_⟩, r1, ?_⟩, by omega, by omega⟩
    · show 0 ≤ u1 I.1 0 (I.1 0 + 1) 0 ∧ u1 I.1 0 (I.1 0 + 1) 0 ≤ 8
      rw [n0]; omega
    · show 0 ≤ u1 I.1 0 (I.1 0 + 1) 1 ∧ u1 I.1 0 (I.1 0 + 1) 1 ≤ 4
      rw [n1 1 (by omega)]; exact a1
    · show 0 ≤ u1 I.1 0 (I.1 0 + 1) 2 ∧ u1 I.1 0 (I.1 0 + 1) 2 ≤ 5
      rw [n1 2 (by omega)]; exact a2
    · intro t t0 t1
      have t1 : t < u1 I.1 0 (I.1 0 + 1) 0 := t1
      rw [n0] at t1
      show vnm (u1 I.2.2.2.2 (0 + I.1 0) (tN B N (tE B N p)) (0 + t))
      by_cases q : t = I.1 0
      · rw [q, u1_e]; exact o2.2
      · rw [u1_n (by omega)]; exact b0 t t0 (by omega)
    · intro t t0 t1
      have t1 : t < u1 I.1 0 (I.1 0 + 1) 1 := t1
      rw [n1 1 (by omega)] at t1
      show vnm (u1 I.2.2.2.2 (0 + I.1 0) (tN B N (tE B N p)) (8 + t))
      rw [u1_n (by omega)]; exact b1 t t0 t1
    · intro t t0 t1
      have t1 : t < u1 I.1 0 (I.1 0 + 1) 2 := t1
      rw [n1 2 (by omega)] at t1
      show vnm (u1 I.2.2.2.2 (0 + I.1 0) (tN B N (tE B N p)) (16 + t))
      rw [u1_n (by omega)]; exact b2 t t0 t1
    · intro t t0 t1
      have t1 : t < u1 I.1 0 (I.1 0 + 1) 0 := t1
      rw [n0] at t1
      show (0 ≤ am_up (am_up (am_up I.2.1 2 (I.1 0) (tV B N p3)) 3 (I.1 0) (tV B N p5)) 4 (I.1 0) (tV B N p7) 2 t ∧ am_up (am_up (am_up I.2.1 2 (I.1 0) (tV B N p3)) 3 (I.1 0) (tV B N p5)) 4 (I.1 0) (tV B N p7) 2 t ≤ 99) ∧ (0 ≤ am_up (am_up (am_up I.2.1 2 (I.1 0) (tV B N p3)) 3 (I.1 0) (tV B N p5)) 4 (I.1 0) (tV B N p7) 3 t ∧ am_up (am_up (am_up I.2.1 2 (I.1 0) (tV B N p3)) 3 (I.1 0) (tV B N p5)) 4 (I.1 0) (tV B N p7) 3 t ≤ 99) ∧ (0 ≤ am_up (am_up (am_up I.2.1 2 (I.1 0) (tV B N p3)) 3 (I.1 0) (tV B N p5)) 4 (I.1 0) (tV B N p7) 4 t ∧ am_up (am_up (am_up I.2.1 2 (I.1 0) (tV B N p3)) 3 (I.1 0) (tV B N p5)) 4 (I.1 0) (tV B N p7) 4 t ≤ 9)
      by_cases q : t = I.1 0
      · rw [q, am_un (by omega), am_un (by omega), am_ue, am_un (by omega), am_ue, am_ue]
        exact ⟨o4.2, o6.2, o8.2⟩
      · rw [am_un (by omega), am_un (by omega), am_un (by omega), am_un (by omega), am_un (by omega), am_un (by omega), am_un (by omega), am_un (by omega), am_un (by omega)]
        exact v0 t t0 (by omega)
    · intro t t0 t1
      have t1 : t < u1 I.1 0 (I.1 0 + 1) 1 := t1
      rw [n1 1 (by omega)] at t1
      show (0 ≤ am_up (am_up (am_up I.2.1 2 (I.1 0) (tV B N p3)) 3 (I.1 0) (tV B N p5)) 4 (I.1 0) (tV B N p7) 6 t ∧ am_up (am_up (am_up I.2.1 2 (I.1 0) (tV B N p3)) 3 (I.1 0) (tV B N p5)) 4 (I.1 0) (tV B N p7) 6 t ≤ 9) ∧ (1 ≤ am_up (am_up (am_up I.2.1 2 (I.1 0) (tV B N p3)) 3 (I.1 0) (tV B N p5)) 4 (I.1 0) (tV B N p7) 7 t ∧ am_up (am_up (am_up I.2.1 2 (I.1 0) (tV B N p3)) 3 (I.1 0) (tV B N p5)) 4 (I.1 0) (tV B N p7) 7 t ≤ 24)
      rw [am_un (by omega), am_un (by omega), am_un (by omega), am_un (by omega), am_un (by omega), am_un (by omega)]
      exact v1 t t0 t1
    · show 0 ≤ am_up (am_up (am_up I.2.1 2 (I.1 0) (tV B N p3)) 3 (I.1 0) (tV B N p5)) 4 (I.1 0) (tV B N p7) 0 0 ∧ am_up (am_up (am_up I.2.1 2 (I.1 0) (tV B N p3)) 3 (I.1 0) (tV B N p5)) 4 (I.1 0) (tV B N p7) 0 0 ≤ 100
      rw [am_un (by omega), am_un (by omega), am_un (by omega)]
      exact v2
    · intro k k0 k1
      show _ ↔ k < u1 I.1 0 (I.1 0 + 1) 2
      rw [n1 2 (by omega)]
      exact r2 k k0 k1
  rw [if_neg c0] at h
  by_cases c4 : tW B N p = 4
  · rw [if_pos c4] at h
    have gb := tW_b h1 (show ¬ tW B N p = -1 by omega)
    unfold sdM at h
    split at h
    · cases h
    rename_i h8
    obtain ⟨p2, e2, h⟩ := b1_o h
    have o2 := rNm_o e2 gb.2
    obtain ⟨p3, e3, h⟩ := b1_o h
    have o3 := rWd_o e3 (by omega) o2.1.2
    obtain ⟨p4, e4, h⟩ := b1_o h
    have o4 := rNu_o e4 o3.2
    obtain ⟨p5, e5, h⟩ := b1_o h
    have o5 := rWd_o e5 (by omega) o4.1.2
    obtain ⟨p6, e6, h⟩ := b1_o h
    have o6 := rNu_o e6 o5.2
    cases h
    obtain ⟨⟨a0, a1, a2⟩, ⟨b0, b1, b2⟩, ⟨v0, v1, v2⟩, r1, r2⟩ := hp
    have n1 : ∀ k : Int, ¬ k = 1 → u1 I.1 1 (I.1 1 + 1) k = I.1 k := fun k hk => u1_n hk
    have n0 : u1 I.1 1 (I.1 1 + 1) 1 = I.1 1 + 1 := u1_e
    refine ⟨⟨⟨?_, ?_, ?_⟩, ⟨?_, ?_, ?_⟩, ⟨?_, ?_, ?_⟩, r1, ?_⟩, by omega, by omega⟩
    · show 0 ≤ u1 I.1 1 (I.1 1 + 1) 0 ∧ u1 I.1 1 (I.1 1 + 1) 0 ≤ 8
      rw [n1 0 (by omega)]; exact a0
    · show 0 ≤ u1 I.1 1 (I.1 1 + 1) 1 ∧ u1 I.1 1 (I.1 1 + 1) 1 ≤ 4
      rw [n0]; omega
    · show 0 ≤ u1 I.1 1 (I.1 1 + 1) 2 ∧ u1 I.1 1 (I.1 1 + 1) 2 ≤ 5
      rw [n1 2 (by omega)]; exact a2
    · intro t t0 t1
      have t1 : t < u1 I.1 1 (I.1 1 + 1) 0 := t1
      rw [n1 0 (by omega)] at t1
      show vnm (u1 I.2.2.2.2 (8 + I.1 1) (tN B N (tE B N p)) (0 + t))
      rw [u1_n (by omega)]; exact b0 t t0 t1
    · intro t t0 t1
      have t1 : t < u1 I.1 1 (I.1 1 + 1) 1 := t1
      rw [n0] at t1
      show vnm (u1 I.2.2.2.2 (8 + I.1 1) (tN B N (tE B N p)) (8 + t))
      by_cases q : t = I.1 1
      · rw [q, u1_e]; exact o2.2
      · rw [u1_n (by omega)]; exact b1 t t0 (by omega)
    · intro t t0 t1
      have t1 : t < u1 I.1 1 (I.1 1 + 1) 2 := t1
      rw [n1 2 (by omega)] at t1
      show vnm (u1 I.2.2.2.2 (8 + I.1 1) (tN B N (tE B N p)) (16 + t))
      rw [u1_n (by omega)]; exact b2 t t0 t1
    · intro t t0 t1
      have t1 : t < u1 I.1 1 (I.1 1 + 1) 0 := t1
      rw [n1 0 (by omega)] at t1
      show (0 ≤ am_up (am_up I.2.1 6 (I.1 1) (tV B N p3)) 7 (I.1 1) (tV B N p5) 2 t ∧ am_up (am_up I.2.1 6 (I.1 1) (tV B N p3)) 7 (I.1 1) (tV B N p5) 2 t ≤ 99) ∧ (0 ≤ am_up (am_up I.2.1 6 (I.1 1) (tV B N p3)) 7 (I.1 1) (tV B N p5) 3 t ∧ am_up (am_up I.2.1 6 (I.1 1) (tV B N p3)) 7 (I.1 1) (tV B N p5) 3 t ≤ 99) ∧ (0 ≤ am_up (am_up I.2.1 6 (I.1 1) (tV B N p3)) 7 (I.1 1) (tV B N p5) 4 t ∧ am_up (am_up I.2.1 6 (I.1 1) (tV B N p3)) 7 (I.1 1) (tV B N p5) 4 t ≤ 9)
      rw [am_un (by omega), am_un (by omega), am_un (by omega), am_un (by omega), am_un (by omega), am_un (by omega)]
      exact v0 t t0 t1
    · intro t t0 t1
      have t1 : t < u1 I.1 1 (I.1 1 + 1) 1 := t1
      rw [n0] at t1
      show (0 ≤ am_up (am_up I.2.1 6 (I.1 1) (tV B N p3)) 7 (I.1 1) (tV B N p5) 6 t ∧ am_up (am_up I.2.1 6 (I.1 1) (tV B N p3)) 7 (I.1 1) (tV B N p5) 6 t ≤ 9) ∧ (1 ≤ am_up (am_up I.2.1 6 (I.1 1) (tV B N p3)) 7 (I.1 1) (tV B N p5) 7 t ∧ am_up (am_up I.2.1 6 (I.1 1) (tV B N p3)) 7 (I.1 1) (tV B N p5) 7 t ≤ 24)
      by_cases q : t = I.1 1
      · rw [q, am_un (by omega), am_ue, am_ue]
        exact ⟨o4.2, o6.2⟩
      · rw [am_un (by omega), am_un (by omega), am_un (by omega), am_un (by omega)]
        exact v1 t t0 (by omega)
    · show 0 ≤ am_up (am_up I.2.1 6 (I.1 1) (tV B N p3)) 7 (I.1 1) (tV B N p5) 0 0 ∧ am_up (am_up I.2.1 6 (I.1 1) (tV B N p3)) 7 (I.1 1) (tV B N p5) 0 0 ≤ 100
      rw [am_un (by omega), am_un (by omega)]
      exact v2
    · intro k k0 k1
      show _ ↔ k < u1 I.1 1 (I.1 1 + 1) 2
      rw [n1 2 (by omega)]
      exact r2 k k0 k1
  rw [if_neg c4] at h
  by_cases c7 : tW B N p = 7
  · rw [if_pos c7] at h
    have gb := tW_b h1 (show ¬ tW B N p = -1 by omega)
    unfold sdR at h
    split at h
    · cases h
    rename_i h8
    obtain ⟨p2, e2, h⟩ := b1_o h
    have o2 := rNm_o e2 gb.2
    obtain ⟨p3, e3, h⟩ := b1_o h
    have o3 := rWd_o e3 (by omega) o2.1.2
    match hx : rK B N 1 9 p3 with
    | .inl e => rw [hx] at h; cases h
    | .inr (p4, cs) =>
      rw [hx] at h
      have o := rK_o (sk := false) hN (by omega) o3.2 (Or.inl rfl) (by omega) (fun q => by omega) hx
      cases h
      obtain ⟨⟨a0, a1, a2⟩, ⟨b0, b1, b2⟩, v, r1, r2⟩ := hp
      have n1 : ∀ k : Int, ¬ k = 2 → u1 I.1 2 (I.1 2 + 1) k = I.1 k := fun k hk => u1_n hk
      have n0 : u1 I.1 2 (I.1 2 + 1) 2 = I.1 2 + 1 := u1_e
      refine ⟨⟨⟨?_, ?_, ?_⟩, ⟨?_, ?_, ?_⟩, ⟨?_, ?_, v.2.2⟩, ?_, ?_⟩, by omega, by omega⟩
      · show 0 ≤ u1 I.1 2 (I.1 2 + 1) 0 ∧ u1 I.1 2 (I.1 2 + 1) 0 ≤ 8
        rw [n1 0 (by omega)]; exact a0
      · show 0 ≤ u1 I.1 2 (I.1 2 + 1) 1 ∧ u1 I.1 2 (I.1 2 + 1) 1 ≤ 4
        rw [n1 1 (by omega)]; exact a1
      · show 0 ≤ u1 I.1 2 (I.1 2 + 1) 2 ∧ u1 I.1 2 (I.1 2 + 1) 2 ≤ 5
        rw [n0]; omega
      · intro t t0 t1
        have t1 : t < u1 I.1 2 (I.1 2 + 1) 0 := t1
        rw [n1 0 (by omega)] at t1
        show vnm (u1 I.2.2.2.2 (16 + I.1 2) (tN B N (tE B N p)) (0 + t))
        rw [u1_n (by omega)]; exact b0 t t0 t1
      · intro t t0 t1
        have t1 : t < u1 I.1 2 (I.1 2 + 1) 1 := t1
        rw [n1 1 (by omega)] at t1
        show vnm (u1 I.2.2.2.2 (16 + I.1 2) (tN B N (tE B N p)) (8 + t))
        rw [u1_n (by omega)]; exact b1 t t0 t1
      · intro t t0 t1
        have t1 : t < u1 I.1 2 (I.1 2 + 1) 2 := t1
        rw [n0] at t1
        show vnm (u1 I.2.2.2.2 (16 + I.1 2) (tN B N (tE B N p)) (16 + t))
        by_cases q : t = I.1 2
        · rw [q, u1_e]; exact o2.2
        · rw [u1_n (by omega)]; exact b2 t t0 (by omega)
      · intro t t0 t1
        have t1 : t < u1 I.1 2 (I.1 2 + 1) 0 := t1
        rw [n1 0 (by omega)] at t1
        exact v.1 t t0 t1
      · intro t t0 t1
        have t1 : t < u1 I.1 2 (I.1 2 + 1) 1 := t1
        rw [n1 1 (by omega)] at t1
        exact v.2.1 t t0 t1
      · intro w w0 w1 hw
        have hw : u1 I.2.2.2.1 (5 + I.1 2) true w = true := hw
        show 0 < (u1 I.2.2.1 (5 + I.1 2) cs w).length ∧ ∃ b, tr (skw w) false (u1 I.2.2.1 (5 + I.1 2) cs w) [] = some [b] ∧ (tyw w = true → b = true)
        by_cases q : w = 5 + I.1 2
        · subst q
          rw [u1_e]
          have hsk : skw (5 + I.1 2) = false := by unfold skw; simp; omega
          rw [hsk]
          exact ⟨o.2.1, _, o.2.2, fun _ => rfl⟩
        · rw [u1_n q] at hw ⊢
          exact r1 w w0 w1 hw
      · intro k k0 k1
        show u1 I.2.2.2.1 (5 + I.1 2) true (5 + k) = true ↔ k < u1 I.1 2 (I.1 2 + 1) 2
        rw [n0]
        by_cases q : k = I.1 2
        · rw [q, u1_e]
          exact ⟨fun _ => by omega, fun _ => rfl⟩
        · rw [u1_n (by omega), r2 k k0 k1]
          omega
  rw [if_neg c7] at h
  by_cases c9 : tW B N p = 9
  · rw [if_pos c9] at h
    exact sdX_PI hN hp p0 h1 (by omega) (by omega) (by omega) h
  rw [if_neg c9] at h
  by_cases c10 : tW B N p = 10
  · rw [if_pos c10] at h
    exact sdX_PI hN hp p0 h1 (by omega) (by omega) (by omega) h
  rw [if_neg c10] at h
  by_cases c11 : tW B N p = 11
  · rw [if_pos c11] at h
    exact sdX_PI hN hp p0 h1 (by omega) (by omega) (by omega) h
  rw [if_neg c11] at h
  by_cases c12 : tW B N p = 12
  · rw [if_pos c12] at h
    exact sdX_PI hN hp p0 h1 (by omega) (by omega) (by omega) h
  rw [if_neg c12] at h
  by_cases c13 : tW B N p = 13
  · rw [if_pos c13] at h
    exact sdX_PI hN hp p0 h1 (by omega) (by omega) (by omega) h
  rw [if_neg c13] at h
  by_cases c14 : tW B N p = 14
  · rw [if_pos c14] at h
    have gb := tW_b h1 (show ¬ tW B N p = -1 by omega)
    unfold sdC at h
    obtain ⟨p2, e2, h⟩ := b1_o h
    have o2 := rNu_o e2 gb.2
    cases h
    obtain ⟨a, b, ⟨v0, v1, v2⟩, r1, r2⟩ := hp
    refine ⟨⟨a, b, ⟨?_, ?_, ?_⟩, r1, r2⟩, by omega, by omega⟩
    · intro t t0 t1
      show (0 ≤ am_up I.2.1 0 0 (tV B N (tE B N p)) 2 t ∧ am_up I.2.1 0 0 (tV B N (tE B N p)) 2 t ≤ 99) ∧ (0 ≤ am_up I.2.1 0 0 (tV B N (tE B N p)) 3 t ∧ am_up I.2.1 0 0 (tV B N (tE B N p)) 3 t ≤ 99) ∧ (0 ≤ am_up I.2.1 0 0 (tV B N (tE B N p)) 4 t ∧ am_up I.2.1 0 0 (tV B N (tE B N p)) 4 t ≤ 9)
      rw [am_un (by omega), am_un (by omega), am_un (by omega)]
      exact v0 t t0 t1
    · intro t t0 t1
      show (0 ≤ am_up I.2.1 0 0 (tV B N (tE B N p)) 6 t ∧ am_up I.2.1 0 0 (tV B N (tE B N p)) 6 t ≤ 9) ∧ (1 ≤ am_up I.2.1 0 0 (tV B N (tE B N p)) 7 t ∧ am_up I.2.1 0 0 (tV B N (tE B N p)) 7 t ≤ 24)
      rw [am_un (by omega), am_un (by omega)]
      exact v1 t t0 t1
    · show 0 ≤ am_up I.2.1 0 0 (tV B N (tE B N p)) 0 0 ∧ am_up I.2.1 0 0 (tV B N (tE B N p)) 0 0 ≤ 100
      rw [am_ue]
      exact o2.2
  rw [if_neg c14] at h
  cases h
theorem PI_cnt {v : Int} (hp : PI I) : PI (I.1, am_up I.2.1 0 1 v, I.2.2) := by
  obtain ⟨a, b, ⟨v0, v1, v2⟩, r⟩ := hp
  refine ⟨a, b, ⟨?_, ?_, ?_⟩, r⟩
  · intro t t0 t1
    show (0 ≤ am_up I.2.1 0 1 v 2 t ∧ am_up I.2.1 0 1 v 2 t ≤ 99) ∧ (0 ≤ am_up I.2.1 0 1 v 3 t ∧ am_up I.2.1 0 1 v 3 t ≤ 99) ∧ (0 ≤ am_up I.2.1 0 1 v 4 t ∧ am_up I.2.1 0 1 v 4 t ≤ 9)
    rw [am_un (by omega), am_un (by omega), am_un (by omega)]
    exact v0 t t0 t1
  · intro t t0 t1
    show (0 ≤ am_up I.2.1 0 1 v 6 t ∧ am_up I.2.1 0 1 v 6 t ≤ 9) ∧ (1 ≤ am_up I.2.1 0 1 v 7 t ∧ am_up I.2.1 0 1 v 7 t ≤ 24)
    rw [am_un (by omega), am_un (by omega)]
    exact v1 t t0 t1
  · show 0 ≤ am_up I.2.1 0 1 v 0 0 ∧ am_up I.2.1 0 1 v 0 0 ≤ 100
    rw [am_un (by omega)]
    exact v2
end
