/-! counts and sums of sets -/
def bc1 (x : Int) : Int := am_wI (x - am_and (am_ush x 1) 1431655765)
def bc2 (x : Int) : Int := am_wI (am_and x 858993459 + am_and (am_ush x 2) 858993459)
def bc3 (x : Int) : Int := am_and (am_wI (x + am_ush x 4)) 252645135
def bc4 (x : Int) : Int := am_wI (x + am_ush x 8)
def bc5 (x : Int) : Int := am_and (am_wI (x + am_ush x 16)) 63
theorem bc_all : ∀ s : Fin 256, bc5 (bc4 (bc3 (bc2 (bc1 (s.val : Int))))) = ((pop s.val : Nat) : Int) := by decide +kernel
theorem c_bits {d s : Nat} {f : am_F} {Q : am_V → am_F → Prop} (h : s < 256) : aw_cl d 65 [(0, (s : Int))] f Q = Q (0, (pop s : Int)) f := by
  apply aw_det
  have e := bc_all ⟨s, h⟩
  have e : bc5 (bc4 (bc3 (bc2 (bc1 (s : Int))))) = ((pop s : Nat) : Int) := e
  simp [q65, r65_0, r65_1, r65_2, r65_3, r65_4, r65_7, r65_8, r65_9, r65_10, r65_11, r65_14, r65_15, r65_16, r65_17, r65_18, r65_21, r65_22, r65_23, r65_24, r65_25, r65_26, r65_27, r65_28, r65_29, r65_32, r65_33, r65_34, r65_35, r65_36, r65_38, r65_39, r65_40, r65_41, r65_42, r65_43, r65_45, r65_46, r65_47, r65_48, r65_49, r65_51, r65_52, cs_nil, cs_cons, lc_lt, lc_ge, lc_gt, lc_le, lc_eq]
  exact e
theorem pop_dn : ∀ s : Fin 256, 0 < s.val → (s.val &&& (s.val - 1)) < s.val ∧ pop (s.val &&& (s.val - 1)) + 1 = pop s.val := by decide +kernel
theorem m_bits {d s : Nat} {f : am_F} {Q : am_V → am_F → Prop} (h : s < 256) : aw_cl d 211 [(0, (s : Int))] f Q = Q (0, (pop s : Int)) f := by
  have key : ∀ k u : Nat, ∀ c : Int, u < k → u < 256 → 0 ≤ c → c + pop u = pop s → aw_wp d 211 4 [(0, (s : Int)), (0, c), (0, (u : Int))] [] f (fun v f1 => v = (0, (pop s : Int)) ∧ f1 = f) := by
    intro k
    induction k with
    | zero => intro u c hu; omega
    | succ k ih =>
      intro u c hu h8 hc e
      rw [r211_4]
      by_cases h0 : u = 0
      · subst h0
        have : pop 0 = 0 := by decide +kernel
        simp [q211, r211_0, r211_1, r211_2, r211_3, r211_5, r211_8, r211_11, r211_12, r211_13, r211_14, r211_15, r211_16, r211_17, r211_20, r211_21, cs_nil, cs_cons, lc_lt, lc_ge, lc_gt, lc_le, lc_eq]
        omega
      · have hd := pop_dn ⟨u, h8⟩ (by show 0 < u; omega)
        have hd : (u &&& (u - 1)) < u ∧ pop (u &&& (u - 1)) + 1 = pop u := hd
        have hp := pop_le (s := s)
        have ih' := ih (u &&& (u - 1)) (c + 1) (by omega) (by omega) (by omega) (by omega)
        have e1 : am_and (u : Int) (am_wI ((u : Int) - 1)) = ((u &&& (u - 1) : Nat) : Int) := by
          rw [am_wid2 (by omega) (by omega), show (u : Int) - 1 = ((u - 1 : Nat) : Int) by omega, an_n (by omega) (by omega)]
        have h0' : ¬ (u : Int) = 0 := by omega
        simpa [q211, r211_0, r211_1, r211_2, r211_3, r211_5, r211_8, r211_11, r211_12, r211_13, r211_14, r211_15, r211_16, r211_17, r211_20, r211_21, cs_nil, cs_cons, lc_lt, lc_ge, lc_gt, lc_le, lc_eq, h0, e1, am_wid2 (show -2147483648 ≤ c + 1 by omega) (show c + 1 < 2147483648 by omega)] using ih'
  apply aw_det
  have := key (s + 1) s 0 (by omega) h (by omega) (by omega)
  simpa [q211, r211_0, r211_1, r211_2, r211_3, r211_5, r211_8, r211_11, r211_12, r211_13, r211_14, r211_15, r211_16, r211_17, r211_20, r211_21, cs_nil, cs_cons, lc_lt, lc_ge, lc_gt, lc_le, lc_eq] using this
/-- the sum over a set -/
def us (g : Int → Int) (s : Nat) : Nat → Int
  | 0 => 0
  | n + 1 => us g s n + if s.testBit n = true then g n else 0
theorem us_b {g : Int → Int} {s : Nat} : ∀ n : Nat, (∀ t : Int, 0 ≤ t → t < n → 0 ≤ g t ∧ g t ≤ 99) → 0 ≤ us g s n ∧ us g s n ≤ 99 * n
  | 0, _ => by simp [us]
  | n + 1, h => by
    have h1 := us_b (g := g) (s := s) n (fun t a b => h t a (by omega))
    have h2 := h n (by omega) (by omega)
    rw [us]
    split <;> omega
theorem c_total {d n s : Nat} {f : am_F} {Q : am_V → am_F → Prop} {g : Int → Int} {l c : Int} (hl : 0 ≤ l) (hn : f l 9 = n) (h8 : n ≤ 8) (hc : 0 ≤ c) (hlen : am_len aw_SH c = 8) (hg : ∀ t : Int, 0 ≤ t → t < n → f c t = g t) (hb : ∀ t : Int, 0 ≤ t → t < n → 0 ≤ g t ∧ g t ≤ 99) (hs : s < 2147483648) : aw_cl d 79 [(100, l), (20, c), (0, (s : Int))] f Q = Q (0, us g s n) f := by
  have key : ∀ j t : Nat, t + j = n → aw_wp d 79 5 [(100, l), (20, c), (0, (s : Int)), (0, us g s t), (0, (t : Int))] [] f (fun v f1 => v = (0, us g s n) ∧ f1 = f) := by
    intro j
    induction j with
    | zero =>
      intro t ht
      obtain rfl : t = n := by omega
      rw [r79_5]
      simp [q79, r79_0, r79_1, r79_2, r79_3, r79_7, r79_8, r79_11, r79_14, r79_15, r79_16, r79_18, r79_19, r79_20, r79_21, r79_22, r79_24, r79_25, r79_26, r79_27, r79_28, r79_31, r79_34, r79_35, cs_nil, cs_cons, lc_lt, lc_ge, lc_gt, lc_le, lc_eq, hl, hn]
    | succ j ih =>
      intro t ht
      have ih' := ih (t + 1) (by omega)
      have c1 : ¬ n ≤ t := by omega
      have c2 : (t : Int) < 8 := by omega
      have e1 := hg t (by omega) (by omega)
      have e2 := hb t (by omega) (by omega)
      have hu := us_b (g := g) (s := s) t (fun t a b => hb t a (by omega))
      rw [r79_5]
      by_cases hp : s.testBit t = true
      · simpa (disch := omega) [q79, r79_0, r79_1, r79_2, r79_3, r79_7, r79_8, r79_11, r79_14, r79_15, r79_16, r79_18, r79_19, r79_20, r79_21, r79_22, r79_24, r79_25, r79_26, r79_27, r79_28, r79_31, r79_34, r79_35, cs_nil, cs_cons, lc_lt, lc_ge, lc_gt, lc_le, lc_eq, hl, hn, hc, hlen, c1, c2, e1, bit_n, hp, us, am_wid2] using ih'
      · simpa (disch := omega) [q79, r79_0, r79_1, r79_2, r79_3, r79_7, r79_8, r79_11, r79_14, r79_15, r79_16, r79_18, r79_19, r79_20, r79_21, r79_22, r79_24, r79_25, r79_26, r79_27, r79_28, r79_31, r79_34, r79_35, cs_nil, cs_cons, lc_lt, lc_ge, lc_gt, lc_le, lc_eq, hl, hn, hc, hlen, c1, c2, e1, bit_n, hp, us, am_wid2] using ih'
  apply aw_det
  have := key n 0 (by omega)
  simpa [q79, r79_0, r79_1, r79_2, r79_3, r79_7, r79_8, r79_11, r79_14, r79_15, r79_16, r79_18, r79_19, r79_20, r79_21, r79_22, r79_24, r79_25, r79_26, r79_27, r79_28, r79_31, r79_34, r79_35, cs_nil, cs_cons, lc_lt, lc_ge, lc_gt, lc_le, lc_eq, us] using this
theorem c_useOf {d n m r s : Nat} {f L : am_F} {Q : am_V → am_F → Prop} {l : Int} {ρ : Int → List Int} (hl : CL f l n m r L ρ) (hT : TW n m r L ρ) (hs : s < 2147483648) : aw_cl (d + 1) 78 [(100, l), (0, (s : Int))] f Q = Q (0, us (L 3) s n) f := by
  have hL := hl.1
  have h1 := hl.2.1
  have hl0 : 0 ≤ l := by omega
  have hl3 : 0 ≤ l + 3 := by omega
  have e := fun (d : Nat) Q => c_total (d := d) (Q := Q) (g := L 3) (c := l + 3) hl0 hl.2.2.1.1 hT.1 hl3 (by simp [sL_u hL]) (fun t a b => (hl.2.2.2.1 t a b).2) (fun t a b => by have := hT.2.2.2.2.1 t a b; omega) hs
  simp [q78, r78_0, r78_1, r78_2, r78_5, r78_6, r78_9, cs_nil, cs_cons, lc_lt, lc_ge, lc_gt, lc_le, lc_eq, sL_u hL, e]
theorem c_worthOf {d n m r s : Nat} {f L : am_F} {Q : am_V → am_F → Prop} {l : Int} {ρ : Int → List Int} (hl : CL f l n m r L ρ) (hT : TW n m r L ρ) (hs : s < 2147483648) : aw_cl (d + 1) 111 [(100, l), (0, (s : Int))] f Q = Q (0, us (L 2) s n) f := by
  have hL := hl.1
  have h1 := hl.2.1
  have hl0 : 0 ≤ l := by omega
  have hl3 : 0 ≤ l + 2 := by omega
  have e := fun (d : Nat) Q => c_total (d := d) (Q := Q) (g := L 2) (c := l + 2) hl0 hl.2.2.1.1 hT.1 hl3 (by simp [sL_u hL]) (fun t a b => (hl.2.2.2.1 t a b).1) (fun t a b => by have := hT.2.2.2.2.1 t a b; omega) hs
  simp [q111, r111_0, r111_1, r111_2, r111_5, r111_6, r111_9, cs_nil, cs_cons, lc_lt, lc_ge, lc_gt, lc_le, lc_eq, sL_u hL, e]
theorem m_useBy {d n m r s : Nat} {f L z : am_F} {Q : am_V → am_F → Prop} {ρ : Int → List Int} {τ : Int → Bool} (h : MB f n m r L ρ τ z) (hs : s < 2147483648) : aw_cl (d + 2) 227 [(110, 270), (0, (s : Int))] f Q = Q (0, us (L 3) s n) f := by
  obtain ⟨hl, hz, hT, ho⟩ := h
  have hm := hl.1
  have hn := hl.2.1.1
  have hn8 := hT.1
  have key : ∀ j t : Nat, t + j = n → aw_wp (d + 2) 227 4 [(110, 270), (0, (s : Int)), (0, us (L 3) s t), (0, (t : Int))] [] f (fun v f1 => v = (0, us (L 3) s n) ∧ f1 = f) := by
    intro j
    induction j with
    | zero =>
      intro t ht
      obtain rfl : t = n := by omega
      rw [r227_4]
      simp [q227, r227_0, r227_1, r227_2, r227_3, r227_5, r227_6, r227_9, r227_12, r227_13, r227_14, r227_15, r227_16, r227_17, r227_18, r227_21, r227_22, r227_23, r227_24, r227_27, r227_28, r227_29, r227_32, r227_35, r227_36, q209, r209_0, r209_1, r209_4, r209_5, r209_6, cs_nil, cs_cons, lc_lt, lc_ge, lc_gt, lc_le, lc_eq, mfx_u hm, hn, ln_301]
    | succ j ih =>
      intro t ht
      have ih' := ih (t + 1) (by omega)
      have c1 : ¬ n ≤ t := by omega
      have c2 : (0 : Int) ≤ 25 + 3 * (t : Int) ∧ 25 + 3 * (t : Int) < 48 := by omega
      have e1 := (hl.2.2.1 t (by omega) (by omega)).2
      have e2 := hT.2.2.2.2.1 t (by omega) (by omega)
      have hu := us_b (g := L 3) (s := s) t (fun t a b => by have := hT.2.2.2.2.1 t a (by omega); omega)
      rw [r227_4]
      by_cases hp : s.testBit t = true
      · simpa (disch := omega) [q227, r227_0, r227_1, r227_2, r227_3, r227_5, r227_6, r227_9, r227_12, r227_13, r227_14, r227_15, r227_16, r227_17, r227_18, r227_21, r227_22, r227_23, r227_24, r227_27, r227_28, r227_29, r227_32, r227_35, r227_36, q209, r209_0, r209_1, r209_4, r209_5, r209_6, q218, r218_0, r218_1, r218_4, r218_6, r218_7, r218_8, r218_9, r218_10, r218_11, cs_nil, cs_cons, lc_lt, lc_ge, lc_gt, lc_le, lc_eq, mfx_u hm, hn, ln_301, ln_303, c1, c2, e1, bit_n, hp, us, am_wid2] using ih'
      · simpa (disch := omega) [q227, r227_0, r227_1, r227_2, r227_3, r227_5, r227_6, r227_9, r227_12, r227_13, r227_14, r227_15, r227_16, r227_17, r227_18, r227_21, r227_22, r227_23, r227_24, r227_27, r227_28, r227_29, r227_32, r227_35, r227_36, q209, r209_0, r209_1, r209_4, r209_5, r209_6, q218, r218_0, r218_1, r218_4, r218_6, r218_7, r218_8, r218_9, r218_10, r218_11, cs_nil, cs_cons, lc_lt, lc_ge, lc_gt, lc_le, lc_eq, mfx_u hm, hn, ln_301, ln_303, c1, c2, e1, bit_n, hp, us, am_wid2] using ih'
  apply aw_det
  have := key n 0 (by omega)
  simpa [q227, r227_0, r227_1, r227_2, r227_3, r227_5, r227_6, r227_9, r227_12, r227_13, r227_14, r227_15, r227_16, r227_17, r227_18, r227_21, r227_22, r227_23, r227_24, r227_27, r227_28, r227_29, r227_32, r227_35, r227_36, cs_nil, cs_cons, lc_lt, lc_ge, lc_gt, lc_le, lc_eq, us] using this
theorem m_worthBy {d n m r s : Nat} {f L z : am_F} {Q : am_V → am_F → Prop} {ρ : Int → List Int} {τ : Int → Bool} (h : MB f n m r L ρ τ z) (hs : s < 2147483648) : aw_cl (d + 2) 258 [(110, 270), (0, (s : Int))] f Q = Q (0, us (L 2) s n) f := by
  obtain ⟨hl, hz, hT, ho⟩ := h
  have hm := hl.1
  have hn := hl.2.1.1
  have hn8 := hT.1
  have key : ∀ j t : Nat, t + j = n → aw_wp (d + 2) 258 4 [(110, 270), (0, (s : Int)), (0, us (L 2) s t), (0, (t : Int))] [] f (fun v f1 => v = (0, us (L 2) s n) ∧ f1 = f) := by
    intro j
    induction j with
    | zero =>
      intro t ht
      obtain rfl : t = n := by omega
      rw [r258_4]
      simp [q258, r258_0, r258_1, r258_2, r258_3, r258_5, r258_6, r258_9, r258_12, r258_13, r258_14, r258_15, r258_16, r258_17, r258_18, r258_21, r258_22, r258_23, r258_26, r258_28, r258_29, r258_30, r258_31, r258_32, r258_33, r258_34, r258_35, r258_38, r258_41, r258_42, q209, r209_0, r209_1, r209_4, r209_5, r209_6, cs_nil, cs_cons, lc_lt, lc_ge, lc_gt, lc_le, lc_eq, mfx_u hm, hn, ln_301]
    | succ j ih =>
      intro t ht
      have ih' := ih (t + 1) (by omega)
      have c1 : ¬ n ≤ t := by omega
      have c2 : (0 : Int) ≤ 24 + 3 * (t : Int) ∧ 24 + 3 * (t : Int) < 48 := by omega
      have e1 := (hl.2.2.1 t (by omega) (by omega)).1
      have e2 := hT.2.2.2.2.1 t (by omega) (by omega)
      have hu := us_b (g := L 2) (s := s) t (fun t a b => by have := hT.2.2.2.2.1 t a (by omega); omega)
      rw [r258_4]
      by_cases hp : s.testBit t = true
      · simpa (disch := omega) [q258, r258_0, r258_1, r258_2, r258_3, r258_5, r258_6, r258_9, r258_12, r258_13, r258_14, r258_15, r258_16, r258_17, r258_18, r258_21, r258_22, r258_23, r258_26, r258_28, r258_29, r258_30, r258_31, r258_32, r258_33, r258_34, r258_35, r258_38, r258_41, r258_42, q209, r209_0, r209_1, r209_4, r209_5, r209_6, cs_nil, cs_cons, lc_lt, lc_ge, lc_gt, lc_le, lc_eq, mfx_u hm, hn, ln_301, ln_303, c1, c2, e1, bit_n, hp, us, am_wid2] using ih'
      · simpa (disch := omega) [q258, r258_0, r258_1, r258_2, r258_3, r258_5, r258_6, r258_9, r258_12, r258_13, r258_14, r258_15, r258_16, r258_17, r258_18, r258_21, r258_22, r258_23, r258_26, r258_28, r258_29, r258_30, r258_31, r258_32, r258_33, r258_34, r258_35, r258_38, r258_41, r258_42, q209, r209_0, r209_1, r209_4, r209_5, r209_6, cs_nil, cs_cons, lc_lt, lc_ge, lc_gt, lc_le, lc_eq, mfx_u hm, hn, ln_301, ln_303, c1, c2, e1, bit_n, hp, us, am_wid2] using ih'
  apply aw_det
  have := key n 0 (by omega)
  simpa [q258, r258_0, r258_1, r258_2, r258_3, r258_5, r258_6, r258_9, r258_12, r258_13, r258_14, r258_15, r258_16, r258_17, r258_18, r258_21, r258_22, r258_23, r258_26, r258_28, r258_29, r258_30, r258_31, r258_32, r258_33, r258_34, r258_35, r258_38, r258_41, r258_42, cs_nil, cs_cons, lc_lt, lc_ge, lc_gt, lc_le, lc_eq, us] using this
theorem c_areZ {d n m r : Nat} {f L z : am_F} {Q : am_V → am_F → Prop} {s a l : Int} {ρ : Int → List Int} (h : CB f a l n m r L ρ z) : aw_cl d 64 [(107, a), (0, s)] f Q = Q (0, (bm (fun t => decide (z 1 (t : Int) = s)) n : Int)) f := by
  obtain ⟨hx, hl, hz, hT, ho⟩ := h
  rw [c_are hz.1 hl.1 hz.2.2.1 hl.2.2.1.1 hT.1]
  rw [bm_ext n (q := fun t => decide (z 1 (t : Int) = s)) (fun i hi => by rw [hz.2.2.2.2 1 i (by omega) (by omega) (by omega) (by omega)])]
theorem m_setOfZ {d n m r : Nat} {f L z : am_F} {Q : am_V → am_F → Prop} {s : Int} {ρ : Int → List Int} {τ : Int → Bool} (h : MB f n m r L ρ τ z) : aw_cl (d + 2) 208 [(110, 270), (0, s)] f Q = Q (0, (bm (fun t => decide (z 1 (t : Int) = s)) n : Int)) f := by
  obtain ⟨hl, hz, hT, ho⟩ := h
  rw [m_setOf hl.1 hl.2.1.1 hT.1]
  rw [bm_ext n (q := fun t => decide (z 1 (t : Int) = s)) (fun i hi => by rw [hz.2.1 1 i (by omega) (by omega) (by omega) (by omega)])]
theorem shl_0 : ∀ t : Fin 32, am_shl 0 (t.val : Int) = 0 := by decide +kernel
theorem c_forged {d n m r : Nat} {f L z : am_F} {Q : am_V → am_F → Prop} {a l : Int} {ρ : Int → List Int} (h : CB f a l n m r L ρ z) : aw_cl d 77 [(107, a)] f Q = Q (0, (bm (fun t => decide (z 5 (t : Int) = 1)) n : Int)) f := by
  obtain ⟨hx, hl, hz, hT, ho⟩ := h
  have hS := hz.1
  have hL := hl.1
  have hla := hz.2.2.1
  have hn := hl.2.2.1.1
  have hn8 := hT.1
  have key : ∀ j t : Nat, t + j = n → aw_wp d 77 4 [(107, a), (0, (bm (fun t => decide (z 5 (t : Int) = 1)) t : Int)), (0, (t : Int))] [] f (fun v f1 => v = (0, (bm (fun t => decide (z 5 (t : Int) = 1)) n : Int)) ∧ f1 = f) := by
    intro j
    induction j with
    | zero =>
      intro t ht
      obtain rfl : t = n := by omega
      rw [r77_4]
      simp (disch := omega) [q77, r77_0, r77_1, r77_2, r77_3, r77_5, r77_6, r77_9, r77_12, r77_15, r77_16, r77_17, r77_20, r77_21, r77_22, r77_23, r77_24, r77_25, r77_26, r77_29, r77_32, r77_33, cs_nil, cs_cons, lc_lt, lc_ge, lc_gt, lc_le, lc_eq, sS_u hS, sL_u hL, hla, hn]
    | succ j ih =>
      intro t ht
      have ih' := ih (t + 1) (by omega)
      have c1 : ¬ n ≤ t := by omega
      have c2 : (t : Int) < 8 := by omega
      have hw := hz.2.2.2.2 5 t (by omega) (by omega) (by omega) (by omega)
      have hb := (ho.2 t (by omega) (by omega)).2.2.2.2.1
      have e0 : am_shl 0 (t : Int) = 0 := shl_0 ⟨t, by omega⟩
      rw [r77_4]
      by_cases hp : z 5 (t : Int) = 1
      · simpa (disch := omega) [q77, r77_0, r77_1, r77_2, r77_3, r77_5, r77_6, r77_9, r77_12, r77_15, r77_16, r77_17, r77_20, r77_21, r77_22, r77_23, r77_24, r77_25, r77_26, r77_29, r77_32, r77_33, cs_nil, cs_cons, lc_lt, lc_ge, lc_gt, lc_le, lc_eq, sS_u hS, sL_u hL, hla, hn, am_wid2, c1, c2, hw, hp, bm, bm_set] using ih'
      · have hp0 : z 5 (t : Int) = 0 := by omega
        simpa (disch := omega) [q77, r77_0, r77_1, r77_2, r77_3, r77_5, r77_6, r77_9, r77_12, r77_15, r77_16, r77_17, r77_20, r77_21, r77_22, r77_23, r77_24, r77_25, r77_26, r77_29, r77_32, r77_33, cs_nil, cs_cons, lc_lt, lc_ge, lc_gt, lc_le, lc_eq, sS_u hS, sL_u hL, hla, hn, am_wid2, c1, c2, hw, hp0, e0, bm, bm_or0] using ih'
  apply aw_det
  have := key n 0 (by omega)
  simpa [q77, r77_0, r77_1, r77_2, r77_3, r77_5, r77_6, r77_9, r77_12, r77_15, r77_16, r77_17, r77_20, r77_21, r77_22, r77_23, r77_24, r77_25, r77_26, r77_29, r77_32, r77_33, cs_nil, cs_cons, lc_lt, lc_ge, lc_gt, lc_le, lc_eq, bm] using this
theorem c_twice {d n m r : Nat} {f L z : am_F} {Q : am_V → am_F → Prop} {a l : Int} {ρ : Int → List Int} (h : CB f a l n m r L ρ z) : aw_cl d 123 [(107, a)] f Q = Q (0, (bm (fun t => decide (2 ≤ z 3 (t : Int))) n : Int)) f := by
  obtain ⟨hx, hl, hz, hT, ho⟩ := h
  have hS := hz.1
  have hL := hl.1
  have hla := hz.2.2.1
  have hn := hl.2.2.1.1
  have hn8 := hT.1
  have key : ∀ j t : Nat, t + j = n → aw_wp d 123 4 [(107, a), (0, (bm (fun t => decide (2 ≤ z 3 (t : Int))) t : Int)), (0, (t : Int))] [] f (fun v f1 => v = (0, (bm (fun t => decide (2 ≤ z 3 (t : Int))) n : Int)) ∧ f1 = f) := by
    intro j
    induction j with
    | zero =>
      intro t ht
      obtain rfl : t = n := by omega
      rw [r123_4]
      simp (disch := omega) [q123, r123_0, r123_1, r123_2, r123_3, r123_5, r123_6, r123_9, r123_12, r123_15, r123_16, r123_17, r123_20, r123_21, r123_22, r123_23, r123_26, r123_27, r123_28, r123_29, r123_32, r123_33, r123_34, r123_35, r123_38, r123_41, r123_42, cs_nil, cs_cons, lc_lt, lc_ge, lc_gt, lc_le, lc_eq, sS_u hS, sL_u hL, hla, hn]
    | succ j ih =>
      intro t ht
      have ih' := ih (t + 1) (by omega)
      have c1 : ¬ n ≤ t := by omega
      have c2 : (t : Int) < 8 := by omega
      have hw := hz.2.2.2.2 3 t (by omega) (by omega) (by omega) (by omega)
      rw [r123_4]
      by_cases hp : 2 ≤ z 3 (t : Int)
      · have hp' : ¬ z 3 (t : Int) < 2 := by omega
        simpa (disch := omega) [q123, r123_0, r123_1, r123_2, r123_3, r123_5, r123_6, r123_9, r123_12, r123_15, r123_16, r123_17, r123_20, r123_21, r123_22, r123_23, r123_26, r123_27, r123_28, r123_29, r123_32, r123_33, r123_34, r123_35, r123_38, r123_41, r123_42, cs_nil, cs_cons, lc_lt, lc_ge, lc_gt, lc_le, lc_eq, sS_u hS, sL_u hL, hla, hn, am_wid2, c1, c2, hw, hp, hp', bm, bm_set] using ih'
      · have hp' : z 3 (t : Int) < 2 := by omega
        simpa (disch := omega) [q123, r123_0, r123_1, r123_2, r123_3, r123_5, r123_6, r123_9, r123_12, r123_15, r123_16, r123_17, r123_20, r123_21, r123_22, r123_23, r123_26, r123_27, r123_28, r123_29, r123_32, r123_33, r123_34, r123_35, r123_38, r123_41, r123_42, cs_nil, cs_cons, lc_lt, lc_ge, lc_gt, lc_le, lc_eq, sS_u hS, sL_u hL, hla, hn, am_wid2, c1, c2, hw, hp, hp', bm, bm_or0] using ih'
  apply aw_det
  have := key n 0 (by omega)
  simpa [q123, r123_0, r123_1, r123_2, r123_3, r123_5, r123_6, r123_9, r123_12, r123_15, r123_16, r123_17, r123_20, r123_21, r123_22, r123_23, r123_26, r123_27, r123_28, r123_29, r123_32, r123_33, r123_34, r123_35, r123_38, r123_41, r123_42, cs_nil, cs_cons, lc_lt, lc_ge, lc_gt, lc_le, lc_eq, bm] using this
theorem m_forgedMany {d n m r : Nat} {f L z : am_F} {Q : am_V → am_F → Prop} {ρ : Int → List Int} {τ : Int → Bool} (h : MB f n m r L ρ τ z) : aw_cl (d + 2) 226 [(110, 270)] f Q = Q (0, (ct (fun t => decide (z 5 (t : Int) = 1)) n : Int)) f := by
  obtain ⟨hl, hz, hT, ho⟩ := h
  have hm := hl.1
  have hn := hl.2.1.1
  have hn8 := hT.1
  have key : ∀ j t : Nat, t + j = n → aw_wp (d + 2) 226 4 [(110, 270), (0, (ct (fun t => decide (z 5 (t : Int) = 1)) t : Int)), (0, (t : Int))] [] f (fun v f1 => v = (0, (ct (fun t => decide (z 5 (t : Int) = 1)) n : Int)) ∧ f1 = f) := by
    intro j
    induction j with
    | zero =>
      intro t ht
      obtain rfl : t = n := by omega
      rw [r226_4]
      simp [q226, r226_0, r226_1, r226_2, r226_3, r226_5, r226_6, r226_9, r226_12, r226_13, r226_14, r226_17, r226_20, r226_23, r226_26, r226_29, r226_30, q209, r209_0, r209_1, r209_4, r209_5, r209_6, cs_nil, cs_cons, lc_lt, lc_ge, lc_gt, lc_le, lc_eq, mfx_u hm, hn, ln_301]
    | succ j ih =>
      intro t ht
      have ih' := ih (t + 1) (by omega)
      have c1 : ¬ n ≤ t := by omega
      have c2 : (0 : Int) ≤ 5 + 5 * (t : Int) ∧ 5 + 5 * (t : Int) < 192 := by omega
      have hw := hz.2.1 5 t (by omega) (by omega) (by omega) (by omega)
      have hc := ct_le (p := fun t => decide (z 5 (t : Int) = 1)) t
      rw [r226_4]
      by_cases hp : z 5 (t : Int) = 1
      · simpa (disch := omega) [q226, r226_0, r226_1, r226_2, r226_3, r226_5, r226_6, r226_9, r226_12, r226_13, r226_14, r226_17, r226_20, r226_23, r226_26, r226_29, r226_30, q209, r209_0, r209_1, r209_4, r209_5, r209_6, q222, r222_0, r222_1, r222_4, r222_5, r222_6, r222_7, r222_8, r222_9, r222_10, r222_11, r222_14, r222_15, r222_18, r222_19, cs_nil, cs_cons, lc_lt, lc_ge, lc_gt, lc_le, lc_eq, mfx_u hm, hn, ln_301, ln_308, am_wid2, c1, c2, hw, hp, ct] using ih'
      · simpa (disch := omega) [q226, r226_0, r226_1, r226_2, r226_3, r226_5, r226_6, r226_9, r226_12, r226_13, r226_14, r226_17, r226_20, r226_23, r226_26, r226_29, r226_30, q209, r209_0, r209_1, r209_4, r209_5, r209_6, q222, r222_0, r222_1, r222_4, r222_5, r222_6, r222_7, r222_8, r222_9, r222_10, r222_11, r222_14, r222_15, r222_18, r222_19, cs_nil, cs_cons, lc_lt, lc_ge, lc_gt, lc_le, lc_eq, mfx_u hm, hn, ln_301, ln_308, am_wid2, c1, c2, hw, hp, ct] using ih'
  apply aw_det
  have := key n 0 (by omega)
  simpa [q226, r226_0, r226_1, r226_2, r226_3, r226_5, r226_6, r226_9, r226_12, r226_13, r226_14, r226_17, r226_20, r226_23, r226_26, r226_29, r226_30, cs_nil, cs_cons, lc_lt, lc_ge, lc_gt, lc_le, lc_eq, ct] using this
