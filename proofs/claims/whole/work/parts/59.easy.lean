/-! the calls that look and change nothing that a later one sees -/
theorem le_T {a b : Int} (h : a ≤ b) : (a ≤ b) = True := eq_true h
theorem lt_T {a b : Int} (h : a < b) : (a < b) = True := eq_true h
theorem le_F {a b : Int} (h : b < a) : (a ≤ b) = False := eq_false (by omega)
theorem lt_F {a b : Int} (h : b ≤ a) : (a < b) = False := eq_false (by omega)
theorem eq_F {a b : Int} (h : ¬ a = b) : (a = b) = False := eq_false h
def HC (d c m : Nat) (as : List am_V) (k : Nat) (f : am_F) : Prop := aw_cl (d + 40) c ((109, 0) :: as) f (fun v f1 => aw_cl (d + 40) m ((110, 270) :: as) f1 (fun w f2 => w = v ∧ v.1 = k ∧ IV f2))
theorem h_isIn {d : Nat} {f : am_F} {Q : am_V → am_F → Prop} {v a b : Int} : aw_cl d 176 [(1, v), (1, a), (1, b)] f Q = Q (0, if a ≤ v ∧ v ≤ b then 1 else 0) f := by
  apply aw_det
  by_cases h1 : a ≤ v
  · by_cases h2 : v ≤ b
    · simp [q176, r176_0, r176_1, r176_2, r176_3, r176_6, r176_7, r176_9, r176_10, r176_13, r176_14, r176_17, r176_18, cs_nil, cs_cons, lc_lt, lc_ge, lc_gt, lc_le, lc_eq, h1, h2]
    · have h2' : b < v := by omega
      simp [q176, r176_0, r176_1, r176_2, r176_3, r176_6, r176_7, r176_9, r176_10, r176_13, r176_14, r176_17, r176_18, cs_nil, cs_cons, lc_lt, lc_ge, lc_gt, lc_le, lc_eq, h1, h2, h2']
  · have h1' : v < a := by omega
    simp [q176, r176_0, r176_1, r176_2, r176_3, r176_6, r176_7, r176_9, r176_10, r176_13, r176_14, r176_17, r176_18, cs_nil, cs_cons, lc_lt, lc_ge, lc_gt, lc_le, lc_eq, h1, h1']
section
variable {d n m r : Nat} {f L z : am_F} {ρ : Int → List Int} {τ : Int → Bool} {l : Int} {Z : Int → am_F} {Q : am_V → am_F → Prop}
theorem IW.iv (h : IW f n m r L ρ τ z l Z) : IV f := ⟨n, m, r, L, ρ, τ, z, l, Z, h⟩
theorem iw_n (h : IW f n m r L ρ τ z l Z) : n ≤ 8 ∧ m ≤ 4 ∧ r ≤ 5 := ⟨h.2.1.1.2.2.2.1.1, h.2.1.1.2.2.2.1.2.1, h.2.1.1.2.2.2.1.2.2.1⟩
theorem iw_l (h : IW f n m r L ρ τ z l Z) : 0 ≤ l ∧ f 46 9 = l ∧ f l 9 = n ∧ f l 10 = m ∧ f l 11 = r ∧ f l 12 = L 0 0 := ⟨by have := h.1.2.2.1; omega, h.2.1.1.2.2.1.2.2.1, h.2.1.1.2.1.2.2.1⟩
theorem iw_m (h : IW f n m r L ρ τ z l Z) : f 301 3 = n ∧ f 301 4 = m ∧ f 301 5 = r ∧ f 270 44 = L 0 0 := h.2.2.1.1.1.2.1
theorem c_isT (h : IW f n m r L ρ τ z l Z) {t : Int} : aw_cl d 81 [(109, 0), (0, t)] f Q = Q (0, if 0 ≤ t ∧ t < n then 1 else 0) f := by
  apply aw_det
  by_cases h1 : 0 ≤ t
  · have h1' : ¬ t < 0 := by omega
    by_cases h2 : t < n
    · have h2' : ¬ (n : Int) ≤ t := by omega
      simp [q81, r81_0, r81_1, r81_4, r81_5, r81_6, r81_9, r81_12, r81_15, r81_18, r81_19, r81_22, r81_23, cs_nil, cs_cons, lc_lt, lc_ge, lc_gt, lc_le, lc_eq, c_fx h.1.1, iw_l h, h1, h2, h1', h2']
    · have h2' : (n : Int) ≤ t := by omega
      simp [q81, r81_0, r81_1, r81_4, r81_5, r81_6, r81_9, r81_12, r81_15, r81_18, r81_19, r81_22, r81_23, cs_nil, cs_cons, lc_lt, lc_ge, lc_gt, lc_le, lc_eq, c_fx h.1.1, iw_l h, h1, h2, h1', h2']
  · have h1' : t < 0 := by omega
    simp [q81, r81_0, r81_1, r81_4, r81_5, r81_6, r81_9, r81_12, r81_15, r81_18, r81_19, r81_22, r81_23, cs_nil, cs_cons, lc_lt, lc_ge, lc_gt, lc_le, lc_eq, c_fx h.1.1, iw_l h, h1, h1']
theorem c_isM (h : IW f n m r L ρ τ z l Z) {t : Int} : aw_cl d 83 [(109, 0), (0, t)] f Q = Q (0, if 0 ≤ t ∧ t < m then 1 else 0) f := by
  apply aw_det
  by_cases h1 : 0 ≤ t
  · have h1' : ¬ t < 0 := by omega
    by_cases h2 : t < m
    · have h2' : ¬ (m : Int) ≤ t := by omega
      simp [q83, r83_0, r83_1, r83_4, r83_5, r83_6, r83_9, r83_12, r83_15, r83_18, r83_19, r83_22, r83_23, cs_nil, cs_cons, lc_lt, lc_ge, lc_gt, lc_le, lc_eq, c_fx h.1.1, iw_l h, h1, h2, h1', h2']
    · have h2' : (m : Int) ≤ t := by omega
      simp [q83, r83_0, r83_1, r83_4, r83_5, r83_6, r83_9, r83_12, r83_15, r83_18, r83_19, r83_22, r83_23, cs_nil, cs_cons, lc_lt, lc_ge, lc_gt, lc_le, lc_eq, c_fx h.1.1, iw_l h, h1, h2, h1', h2']
  · have h1' : t < 0 := by omega
    simp [q83, r83_0, r83_1, r83_4, r83_5, r83_6, r83_9, r83_12, r83_15, r83_18, r83_19, r83_22, r83_23, cs_nil, cs_cons, lc_lt, lc_ge, lc_gt, lc_le, lc_eq, c_fx h.1.1, iw_l h, h1, h1']
theorem c_isR (h : IW f n m r L ρ τ z l Z) {t : Int} : aw_cl d 84 [(109, 0), (0, t)] f Q = Q (0, if 0 ≤ t ∧ t < r then 1 else 0) f := by
  apply aw_det
  by_cases h1 : 0 ≤ t
  · have h1' : ¬ t < 0 := by omega
    by_cases h2 : t < r
    · have h2' : ¬ (r : Int) ≤ t := by omega
      simp [q84, r84_0, r84_1, r84_4, r84_5, r84_6, r84_9, r84_12, r84_15, r84_18, r84_19, r84_22, r84_23, cs_nil, cs_cons, lc_lt, lc_ge, lc_gt, lc_le, lc_eq, c_fx h.1.1, iw_l h, h1, h2, h1', h2']
    · have h2' : (r : Int) ≤ t := by omega
      simp [q84, r84_0, r84_1, r84_4, r84_5, r84_6, r84_9, r84_12, r84_15, r84_18, r84_19, r84_22, r84_23, cs_nil, cs_cons, lc_lt, lc_ge, lc_gt, lc_le, lc_eq, c_fx h.1.1, iw_l h, h1, h2, h1', h2']
  · have h1' : t < 0 := by omega
    simp [q84, r84_0, r84_1, r84_4, r84_5, r84_6, r84_9, r84_12, r84_15, r84_18, r84_19, r84_22, r84_23, cs_nil, cs_cons, lc_lt, lc_ge, lc_gt, lc_le, lc_eq, c_fx h.1.1, iw_l h, h1, h1']
theorem mb_m {f L z : am_F} (h : MB f n m r L ρ τ z) : f 301 3 = n ∧ f 301 4 = m ∧ f 301 5 = r ∧ f 270 44 = L 0 0 := h.1.2.1
theorem m_isT (h : MB f n m r L ρ τ z) {t : Int} : aw_cl (d + 1) 230 [(110, 270), (0, t)] f Q = Q (0, if 0 ≤ t ∧ t < n then 1 else 0) f := by
  have hn := h.2.2.1.1
  apply aw_det
  by_cases hp : 0 ≤ t ∧ t < n
  · have e : t ≤ (n : Int) - 1 := by omega
    simp (disch := omega) [q230, r230_0, r230_1, r230_2, r230_3, r230_4, r230_7, r230_8, r230_9, r230_10, r230_13, q209, r209_0, r209_1, r209_4, r209_5, r209_6, cs_nil, cs_cons, lc_lt, lc_ge, lc_gt, lc_le, lc_eq, mfx_u h.1.1, mb_m h, ln_301, am_wid2, h_isIn, hp, e]
  · have e : ¬ (0 ≤ t ∧ t ≤ (n : Int) - 1) := by omega
    simp (disch := omega) [q230, r230_0, r230_1, r230_2, r230_3, r230_4, r230_7, r230_8, r230_9, r230_10, r230_13, q209, r209_0, r209_1, r209_4, r209_5, r209_6, cs_nil, cs_cons, lc_lt, lc_ge, lc_gt, lc_le, lc_eq, mfx_u h.1.1, mb_m h, ln_301, am_wid2, h_isIn, hp, e]
theorem m_isM (h : MB f n m r L ρ τ z) {t : Int} : aw_cl (d + 1) 232 [(110, 270), (0, t)] f Q = Q (0, if 0 ≤ t ∧ t < m then 1 else 0) f := by
  have hn := h.2.2.1.2.1
  apply aw_det
  by_cases hp : 0 ≤ t ∧ t < m
  · have e : t ≤ (m : Int) - 1 := by omega
    simp (disch := omega) [q232, r232_0, r232_1, r232_2, r232_3, r232_4, r232_7, r232_8, r232_9, r232_10, r232_13, q233, r233_0, r233_1, r233_4, r233_5, r233_6, cs_nil, cs_cons, lc_lt, lc_ge, lc_gt, lc_le, lc_eq, mfx_u h.1.1, mb_m h, ln_301, am_wid2, h_isIn, hp, e]
  · have e : ¬ (0 ≤ t ∧ t ≤ (m : Int) - 1) := by omega
    simp (disch := omega) [q232, r232_0, r232_1, r232_2, r232_3, r232_4, r232_7, r232_8, r232_9, r232_10, r232_13, q233, r233_0, r233_1, r233_4, r233_5, r233_6, cs_nil, cs_cons, lc_lt, lc_ge, lc_gt, lc_le, lc_eq, mfx_u h.1.1, mb_m h, ln_301, am_wid2, h_isIn, hp, e]
theorem H_fault (h : IW f n m r L ρ τ z l Z) {w : Int} : HC d 62 206 [(0, w)] 0 f := by
  unfold HC
  have hf := h.2.2.2.2.2.2.1
  by_cases h0 : w = 0
  · subst h0
    simp [q62, r62_0, r62_1, r62_4, r62_5, r62_8, r62_9, r62_10, r62_11, r62_14, r62_15, r62_18, r62_21, r62_22, q206, r206_0, r206_1, r206_4, r206_5, r206_8, r206_11, r206_12, r206_13, r206_16, r206_17, r206_20, r206_23, r206_24, cs_nil, cs_cons, lc_lt, lc_ge, lc_gt, lc_le, lc_eq, hf.1, h.iv]
  · by_cases h1 : w = 1
    · subst h1
      simp [q62, r62_0, r62_1, r62_4, r62_5, r62_8, r62_9, r62_10, r62_11, r62_14, r62_15, r62_18, r62_21, r62_22, q206, r206_0, r206_1, r206_4, r206_5, r206_8, r206_11, r206_12, r206_13, r206_16, r206_17, r206_20, r206_23, r206_24, cs_nil, cs_cons, lc_lt, lc_ge, lc_gt, lc_le, lc_eq, hf.1, h.iv]
    · simp [q62, r62_0, r62_1, r62_4, r62_5, r62_8, r62_9, r62_10, r62_11, r62_14, r62_15, r62_18, r62_21, r62_22, q206, r206_0, r206_1, r206_4, r206_5, r206_8, r206_11, r206_12, r206_13, r206_16, r206_17, r206_20, r206_23, r206_24, cs_nil, cs_cons, lc_lt, lc_ge, lc_gt, lc_le, lc_eq, h0, h1, h.iv]
theorem H_status (h : IW f n m r L ρ τ z l Z) {w : Int} : HC d 157 295 [(0, w)] 0 f := by
  unfold HC
  have hr := h.2.2.2.2.1
  have hm := h.2.2.1.1.1.1
  by_cases h0 : 0 ≤ w
  · have h0' : ¬ w < 0 := by omega
    by_cases h1 : w < 6
    · have h1' : ¬ 6 ≤ w := by omega
      have h2 : w ≤ 5 := by omega
      simp (disch := omega) [q157, r157_0, r157_1, r157_4, r157_5, r157_6, r157_9, r157_10, r157_13, r157_14, r157_17, r157_18, r157_19, r157_22, r157_23, q295, r295_0, r295_1, r295_2, r295_3, r295_6, r295_9, r295_12, r295_13, r295_16, r295_17, r295_18, r295_21, r295_22, cs_nil, cs_cons, lc_lt, lc_ge, lc_gt, lc_le, lc_eq, c_fx h.1.1, mfx_u hm, ln_269, ln_272, h_isIn, h0, h0', h1, h1', h2, hr w, h.iv]
    · have h1' : 6 ≤ w := by omega
      have h2 : ¬ w ≤ 5 := by omega
      simp (disch := omega) [q157, r157_0, r157_1, r157_4, r157_5, r157_6, r157_9, r157_10, r157_13, r157_14, r157_17, r157_18, r157_19, r157_22, r157_23, q295, r295_0, r295_1, r295_2, r295_3, r295_6, r295_9, r295_12, r295_13, r295_16, r295_17, r295_18, r295_21, r295_22, cs_nil, cs_cons, lc_lt, lc_ge, lc_gt, lc_le, lc_eq, c_fx h.1.1, mfx_u hm, ln_269, ln_272, h_isIn, h0, h0', h1, h1', h2, h.iv]
  · have h0' : w < 0 := by omega
    simp (disch := omega) [q157, r157_0, r157_1, r157_4, r157_5, r157_6, r157_9, r157_10, r157_13, r157_14, r157_17, r157_18, r157_19, r157_22, r157_23, q295, r295_0, r295_1, r295_2, r295_3, r295_6, r295_9, r295_12, r295_13, r295_16, r295_17, r295_18, r295_21, r295_22, cs_nil, cs_cons, lc_lt, lc_ge, lc_gt, lc_le, lc_eq, c_fx h.1.1, mfx_u hm, ln_269, ln_272, h_isIn, h0, h0', h.iv]
theorem H_octet (h : IW f n m r L ρ τ z l Z) {k : Int} : HC d 152 291 [(0, k)] 0 f := by
  unfold HC
  obtain ⟨p1, p2, p3⟩ := h.2.2.2.2.2.1
  have hm := h.2.2.1.1.1.1
  by_cases h0 : 0 ≤ k
  · have h0' : ¬ k < 0 := by omega
    by_cases h1 : k < f 0 12
    · have h1' : ¬ f 0 12 ≤ k := by omega
      have h2 : k < 43 := by omega
      simp (disch := omega) [q152, r152_0, r152_1, r152_4, r152_5, r152_6, r152_9, r152_12, r152_13, r152_16, r152_17, r152_18, r152_21, r152_22, q291, r291_0, r291_1, r291_4, r291_5, r291_6, r291_9, r291_12, r291_13, r291_16, r291_17, r291_18, r291_21, r291_22, cs_nil, cs_cons, lc_lt, lc_ge, lc_gt, lc_le, lc_eq, c_fx h.1.1, mfx_u hm, ln_268, ln_343, h0, h0', h1, h1', h2, p1, p3 k h0 h1, h.iv]
    · have h1' : f 0 12 ≤ k := by omega
      simp (disch := omega) [q152, r152_0, r152_1, r152_4, r152_5, r152_6, r152_9, r152_12, r152_13, r152_16, r152_17, r152_18, r152_21, r152_22, q291, r291_0, r291_1, r291_4, r291_5, r291_6, r291_9, r291_12, r291_13, r291_16, r291_17, r291_18, r291_21, r291_22, cs_nil, cs_cons, lc_lt, lc_ge, lc_gt, lc_le, lc_eq, c_fx h.1.1, mfx_u hm, ln_268, ln_343, h0, h0', h1, h1', p1, h.iv]
  · have h0' : k < 0 := by omega
    simp (disch := omega) [q152, r152_0, r152_1, r152_4, r152_5, r152_6, r152_9, r152_12, r152_13, r152_16, r152_17, r152_18, r152_21, r152_22, q291, r291_0, r291_1, r291_4, r291_5, r291_6, r291_9, r291_12, r291_13, r291_16, r291_17, r291_18, r291_21, r291_22, cs_nil, cs_cons, lc_lt, lc_ge, lc_gt, lc_le, lc_eq, c_fx h.1.1, mfx_u hm, ln_268, ln_343, h0, h0', h.iv]
theorem H_mender (h : IW f n m r L ρ τ z l Z) {k w : Int} : HC d 86 231 [(0, k), (0, w)] 0 f := by
  unfold HC
  obtain ⟨hn, hm4, hr5⟩ := iw_n h
  have hm := h.2.2.1.1.1.1
  have hL := h.2.1.1.2.1.1
  by_cases hp : 0 ≤ k ∧ k < m
  · have c1 := h.2.1.1.2.1.2.2.2.2.1 k hp.1 hp.2
    have c2 := h.2.2.1.1.1.2.2.2.1 k hp.1 hp.2
    have c3 : k < 4 := by omega
    have c4 : (0 : Int) ≤ 8 + 2 * k ∧ 8 + 2 * k < 16 := by omega
    have c5 : (0 : Int) ≤ 8 + 2 * k + 1 ∧ 8 + 2 * k + 1 < 16 := by omega
    have e5 : f 304 (8 + 2 * k + 1) = L 7 k := by rw [show 8 + 2 * k + 1 = 9 + 2 * k by omega]; exact c2.2
    by_cases h0 : w = 0
    · subst h0
      simp (disch := omega) [q86, r86_0, r86_1, r86_2, r86_5, r86_8, r86_9, r86_10, r86_11, r86_14, r86_15, r86_18, r86_21, r86_24, r86_25, r86_26, r86_27, r86_28, r86_29, r86_32, r86_33, r86_36, r86_39, r86_42, r86_43, r86_44, r86_47, r86_48, q231, r231_0, r231_1, r231_2, r231_5, r231_8, r231_9, r231_10, r231_11, r231_12, r231_15, r231_18, r231_19, r231_22, r231_24, r231_25, r231_26, r231_27, r231_28, r231_29, r231_30, r231_31, r231_34, r231_35, cs_nil, cs_cons, lc_lt, lc_ge, lc_gt, lc_le, lc_eq, c_fx h.1.1, mfx_u hm, sL_u hL, iw_l h, c_isM h, m_isM h.2.2.1.1, h_isIn, ln_304, am_wid2, hp, c1, c2, c3, c4, h.iv]
    · by_cases h1 : w = 1
      · subst h1
        simp (disch := omega) [q86, r86_0, r86_1, r86_2, r86_5, r86_8, r86_9, r86_10, r86_11, r86_14, r86_15, r86_18, r86_21, r86_24, r86_25, r86_26, r86_27, r86_28, r86_29, r86_32, r86_33, r86_36, r86_39, r86_42, r86_43, r86_44, r86_47, r86_48, q231, r231_0, r231_1, r231_2, r231_5, r231_8, r231_9, r231_10, r231_11, r231_12, r231_15, r231_18, r231_19, r231_22, r231_24, r231_25, r231_26, r231_27, r231_28, r231_29, r231_30, r231_31, r231_34, r231_35, cs_nil, cs_cons, lc_lt, lc_ge, lc_gt, lc_le, lc_eq, c_fx h.1.1, mfx_u hm, sL_u hL, iw_l h, c_isM h, m_isM h.2.2.1.1, h_isIn, ln_304, am_wid2, hp, c1, c2, c3, c4, c5, e5, h.iv]
      · have h2 : ¬ (0 ≤ w ∧ w ≤ 1) := by omega
        simp (disch := omega) [q86, r86_0, r86_1, r86_2, r86_5, r86_8, r86_9, r86_10, r86_11, r86_14, r86_15, r86_18, r86_21, r86_24, r86_25, r86_26, r86_27, r86_28, r86_29, r86_32, r86_33, r86_36, r86_39, r86_42, r86_43, r86_44, r86_47, r86_48, q231, r231_0, r231_1, r231_2, r231_5, r231_8, r231_9, r231_10, r231_11, r231_12, r231_15, r231_18, r231_19, r231_22, r231_24, r231_25, r231_26, r231_27, r231_28, r231_29, r231_30, r231_31, r231_34, r231_35, cs_nil, cs_cons, lc_lt, lc_ge, lc_gt, lc_le, lc_eq, c_isM h, m_isM h.2.2.1.1, h_isIn, h0, h1, h2, hp, h.iv]
  · simp (disch := omega) [q86, r86_0, r86_1, r86_2, r86_5, r86_8, r86_9, r86_10, r86_11, r86_14, r86_15, r86_18, r86_21, r86_24, r86_25, r86_26, r86_27, r86_28, r86_29, r86_32, r86_33, r86_36, r86_39, r86_42, r86_43, r86_44, r86_47, r86_48, q231, r231_0, r231_1, r231_2, r231_5, r231_8, r231_9, r231_10, r231_11, r231_12, r231_15, r231_18, r231_19, r231_22, r231_24, r231_25, r231_26, r231_27, r231_28, r231_29, r231_30, r231_31, r231_34, r231_35, cs_nil, cs_cons, lc_lt, lc_ge, lc_gt, lc_le, lc_eq, c_isM h, m_isM h.2.2.1.1, hp, h.iv]
theorem IW_KU (h : IW f n m r L ρ τ z l Z) {f1 f2 : am_F} (h1 : fK f f1) (h2 : fU f1 f2) : IW f2 n m r L ρ τ z l Z := IW_fr h (fun c j hc => by have q := SC_n hc; rw [h2 c j (by omega), h1 c j (by omega)])
theorem MB_fK (h : MB f n m r L ρ τ z) {f1 : am_F} (h1 : fK f f1) : MB f1 n m r L ρ τ z := MB_fr h (fun c j _ _ => h1 c j (by omega)) (fun j _ => h1 270 j (by omega))
theorem IW_K (h : IW f n m r L ρ τ z l Z) {f1 : am_F} (h1 : fK f f1) : IW f1 n m r L ρ τ z l Z := IW_fr h (fun c j hc => by have q := SC_n hc; exact h1 c j (by omega))
theorem H_takes (h : IW f n m r L ρ τ z l Z) {t k : Int} : HC d 87 234 [(0, t), (0, k)] 0 f := by
  unfold HC
  by_cases hp : 0 ≤ t ∧ t < n
  · by_cases hq : 0 ≤ k ∧ k < m
    · simp (disch := omega) [q87, r87_0, r87_1, r87_2, r87_5, r87_8, r87_9, r87_10, r87_13, r87_16, r87_17, r87_20, r87_21, r87_24, r87_25, r87_26, r87_29, r87_32, r87_33, cs_nil, cs_cons, lc_lt, lc_ge, lc_gt, lc_le, lc_eq, c_fx h.1.1, c_isT h, c_isM h, hp, hq]
      refine c_hours h.2.1.1 hp.1 hp.2 hq.1 hq.2 ?_
      intro f1 hf
      have hB := MB_fK h.2.2.1.1 hf
      simp (disch := omega) [q87, r87_0, r87_1, r87_2, r87_5, r87_8, r87_9, r87_10, r87_13, r87_16, r87_17, r87_20, r87_21, r87_24, r87_25, r87_26, r87_29, r87_32, r87_33, q234, r234_0, r234_1, r234_2, r234_5, r234_8, r234_9, r234_10, r234_13, r234_16, r234_17, r234_18, r234_19, r234_22, r234_25, r234_26, cs_nil, cs_cons, lc_lt, lc_ge, lc_gt, lc_le, lc_eq, m_isT hB, m_isM hB, hp, hq]
      refine m_hours hB hp.1 hp.2 hq.1 hq.2 ?_
      intro f2 hf2
      simp [q234, r234_0, r234_1, r234_2, r234_5, r234_8, r234_9, r234_10, r234_13, r234_16, r234_17, r234_18, r234_19, r234_22, r234_25, r234_26, cs_nil, cs_cons, lc_lt, lc_ge, lc_gt, lc_le, lc_eq, (IW_KU h hf hf2).iv]
    · simp (disch := omega) [q87, r87_0, r87_1, r87_2, r87_5, r87_8, r87_9, r87_10, r87_13, r87_16, r87_17, r87_20, r87_21, r87_24, r87_25, r87_26, r87_29, r87_32, r87_33, q234, r234_0, r234_1, r234_2, r234_5, r234_8, r234_9, r234_10, r234_13, r234_16, r234_17, r234_18, r234_19, r234_22, r234_25, r234_26, cs_nil, cs_cons, lc_lt, lc_ge, lc_gt, lc_le, lc_eq, c_isT h, c_isM h, m_isT h.2.2.1.1, m_isM h.2.2.1.1, hp, hq, h.iv]
  · simp (disch := omega) [q87, r87_0, r87_1, r87_2, r87_5, r87_8, r87_9, r87_10, r87_13, r87_16, r87_17, r87_20, r87_21, r87_24, r87_25, r87_26, r87_29, r87_32, r87_33, q234, r234_0, r234_1, r234_2, r234_5, r234_8, r234_9, r234_10, r234_13, r234_16, r234_17, r234_18, r234_19, r234_22, r234_25, r234_26, cs_nil, cs_cons, lc_lt, lc_ge, lc_gt, lc_le, lc_eq, c_isT h, m_isT h.2.2.1.1, hp, h.iv]
theorem H_fine (h : IW f n m r L ρ τ z l Z) {t k : Int} : HC d 89 236 [(0, t), (0, k)] 0 f := by
  unfold HC
  by_cases hp : 0 ≤ t ∧ t < n
  · by_cases hq : 0 ≤ k ∧ k < m
    · simp (disch := omega) [q89, r89_0, r89_1, r89_2, r89_5, r89_8, r89_9, r89_10, r89_13, r89_16, r89_17, r89_20, r89_21, r89_24, r89_25, r89_26, r89_29, r89_32, r89_33, cs_nil, cs_cons, lc_lt, lc_ge, lc_gt, lc_le, lc_eq, c_fx h.1.1, c_isT h, c_isM h, hp, hq]
      refine c_fine h.2.1.1 hp.1 hp.2 hq.1 hq.2 ?_
      intro f1 hf
      have hB := MB_fK h.2.2.1.1 hf
      simp (disch := omega) [q89, r89_0, r89_1, r89_2, r89_5, r89_8, r89_9, r89_10, r89_13, r89_16, r89_17, r89_20, r89_21, r89_24, r89_25, r89_26, r89_29, r89_32, r89_33, q236, r236_0, r236_1, r236_2, r236_5, r236_8, r236_9, r236_10, r236_13, r236_16, r236_17, r236_18, r236_19, r236_22, r236_25, r236_26, cs_nil, cs_cons, lc_lt, lc_ge, lc_gt, lc_le, lc_eq, m_isT hB, m_isM hB, hp, hq]
      refine m_fine hB hp.1 hp.2 hq.1 hq.2 ?_
      intro f2 hf2
      simp [q236, r236_0, r236_1, r236_2, r236_5, r236_8, r236_9, r236_10, r236_13, r236_16, r236_17, r236_18, r236_19, r236_22, r236_25, r236_26, cs_nil, cs_cons, lc_lt, lc_ge, lc_gt, lc_le, lc_eq, (IW_KU h hf hf2).iv]
    · simp (disch := omega) [q89, r89_0, r89_1, r89_2, r89_5, r89_8, r89_9, r89_10, r89_13, r89_16, r89_17, r89_20, r89_21, r89_24, r89_25, r89_26, r89_29, r89_32, r89_33, q236, r236_0, r236_1, r236_2, r236_5, r236_8, r236_9, r236_10, r236_13, r236_16, r236_17, r236_18, r236_19, r236_22, r236_25, r236_26, cs_nil, cs_cons, lc_lt, lc_ge, lc_gt, lc_le, lc_eq, c_isT h, c_isM h, m_isT h.2.2.1.1, m_isM h.2.2.1.1, hp, hq, h.iv]
  · simp (disch := omega) [q89, r89_0, r89_1, r89_2, r89_5, r89_8, r89_9, r89_10, r89_13, r89_16, r89_17, r89_20, r89_21, r89_24, r89_25, r89_26, r89_29, r89_32, r89_33, q236, r236_0, r236_1, r236_2, r236_5, r236_8, r236_9, r236_10, r236_13, r236_16, r236_17, r236_18, r236_19, r236_22, r236_25, r236_26, cs_nil, cs_cons, lc_lt, lc_ge, lc_gt, lc_le, lc_eq, c_isT h, m_isT h.2.2.1.1, hp, h.iv]
theorem H_trial (h : IW f n m r L ρ τ z l Z) {k t : Int} : HC d 91 238 [(0, k), (0, t)] 0 f := by
  unfold HC
  obtain ⟨hn, hm4, hr5⟩ := iw_n h
  have hm := h.2.2.1.1.1.1
  by_cases hq : 0 ≤ k ∧ k < r
  · have er : k ≤ (r : Int) - 1 := by omega
    by_cases hp : 0 ≤ t ∧ t < n
    · simp (disch := omega) [q91, r91_0, r91_1, r91_2, r91_5, r91_8, r91_9, r91_10, r91_13, r91_16, r91_17, r91_18, r91_19, r91_22, r91_23, r91_26, r91_27, r91_30, r91_31, r91_32, r91_33, r91_34, cs_nil, cs_cons, lc_lt, lc_ge, lc_gt, lc_le, lc_eq, c_fx h.1.1, c_isT h, c_isR h, hp, hq]
      refine c_passed h.2.1.1 hp.1 hp.2 ?_
      intro f1 hf
      have hB := MB_fK h.2.2.1.1 hf
      obtain ⟨k', rfl⟩ : ∃ k' : Nat, k = k' := ⟨k.toNat, by omega⟩
      have eb := bm_tst (p := fun k => aP L ρ z t (k : Int)) (n := r) (t := k') (by omega) (by omega)
      simp (disch := omega) [q91, r91_0, r91_1, r91_2, r91_5, r91_8, r91_9, r91_10, r91_13, r91_16, r91_17, r91_18, r91_19, r91_22, r91_23, r91_26, r91_27, r91_30, r91_31, r91_32, r91_33, r91_34, q238, r238_0, r238_1, r238_2, r238_3, r238_4, r238_7, r238_8, r238_9, r238_10, r238_13, r238_16, r238_17, r238_18, r238_21, r238_24, r238_25, r238_26, r238_27, r238_28, r238_29, r238_32, r238_35, r238_36, r238_39, r238_40, q239, r239_0, r239_1, r239_4, r239_5, r239_6, cs_nil, cs_cons, lc_lt, lc_ge, lc_gt, lc_le, lc_eq, le_T, lt_T, le_F, lt_F, am_wid2, mfx_u hB.1.1, mb_m hB, ln_301, h_isIn, er, m_isT hB, hp, hq, eb]
      refine m_isTrial hB hp.1 hp.2 hq.1 hq.2 ?_
      intro f2 hf2
      have hv := (IW_KU h hf hf2).iv
      unfold aP
      by_cases hV : V L ρ z t 0 (5 + (k' : Int)) = 0
      · simp [q238, r238_0, r238_1, r238_2, r238_3, r238_4, r238_7, r238_8, r238_9, r238_10, r238_13, r238_16, r238_17, r238_18, r238_21, r238_24, r238_25, r238_26, r238_27, r238_28, r238_29, r238_32, r238_35, r238_36, r238_39, r238_40, cs_nil, cs_cons, lc_lt, lc_ge, lc_gt, lc_le, lc_eq, hV, hv]
      · simp [q238, r238_0, r238_1, r238_2, r238_3, r238_4, r238_7, r238_8, r238_9, r238_10, r238_13, r238_16, r238_17, r238_18, r238_21, r238_24, r238_25, r238_26, r238_27, r238_28, r238_29, r238_32, r238_35, r238_36, r238_39, r238_40, cs_nil, cs_cons, lc_lt, lc_ge, lc_gt, lc_le, lc_eq, hV, hv]
    · simp (disch := omega) [h.iv, q91, r91_0, r91_1, r91_2, r91_5, r91_8, r91_9, r91_10, r91_13, r91_16, r91_17, r91_18, r91_19, r91_22, r91_23, r91_26, r91_27, r91_30, r91_31, r91_32, r91_33, r91_34, q238, r238_0, r238_1, r238_2, r238_3, r238_4, r238_7, r238_8, r238_9, r238_10, r238_13, r238_16, r238_17, r238_18, r238_21, r238_24, r238_25, r238_26, r238_27, r238_28, r238_29, r238_32, r238_35, r238_36, r238_39, r238_40, q239, r239_0, r239_1, r239_4, r239_5, r239_6, cs_nil, cs_cons, lc_lt, lc_ge, lc_gt, lc_le, lc_eq, le_T, lt_T, le_F, lt_F, am_wid2, m_isT h.2.2.1.1, c_isT h, c_isR h, mfx_u hm, iw_m h, ln_301, h_isIn, er, hp, hq]
  · have er : ¬ (0 ≤ k ∧ k ≤ (r : Int) - 1) := by omega
    simp (disch := omega) [h.iv, q91, r91_0, r91_1, r91_2, r91_5, r91_8, r91_9, r91_10, r91_13, r91_16, r91_17, r91_18, r91_19, r91_22, r91_23, r91_26, r91_27, r91_30, r91_31, r91_32, r91_33, r91_34, q238, r238_0, r238_1, r238_2, r238_3, r238_4, r238_7, r238_8, r238_9, r238_10, r238_13, r238_16, r238_17, r238_18, r238_21, r238_24, r238_25, r238_26, r238_27, r238_28, r238_29, r238_32, r238_35, r238_36, r238_39, r238_40, q239, r239_0, r239_1, r239_4, r239_5, r239_6, cs_nil, cs_cons, lc_lt, lc_ge, lc_gt, lc_le, lc_eq, le_T, lt_T, le_F, lt_F, am_wid2, c_isR h, mfx_u hm, iw_m h, ln_301, h_isIn, er, hq]
    intro a b
    exact absurd ⟨a, b⟩ er
theorem H_kept (h : IW f n m r L ρ τ z l Z) {k w : Int} : HC d 93 241 [(0, k), (0, w)] 0 f := by
  unfold HC
  obtain ⟨p1, p2, p3⟩ := h.2.1.2
  obtain ⟨q1, q2, q3⟩ := h.2.2.1.2
  have hm := h.2.2.1.1.1.1
  have hS := h.2.1.1.2.2.1.1
  have hS := sS_u hS
  simp only [Int.reduceAdd] at hS
  by_cases hp : 0 ≤ k ∧ k < z 10 0
  · have er : k ≤ z 10 0 - 1 := by omega
    have c1 : ¬ k < 0 := by omega
    have c2 : k < 50 := by omega
    have c3 : (0 : Int) ≤ 42 + 3 * k ∧ 42 + 3 * k < 192 := by omega
    have c4 : (0 : Int) ≤ 42 + 3 * k + 1 ∧ 42 + 3 * k + 1 < 192 := by omega
    have c5 : (0 : Int) ≤ 42 + 3 * k + 2 ∧ 42 + 3 * k + 2 < 192 := by omega
    have a7 : f 53 k = z 7 k := p3 7 k (by omega) (by omega) hp.1 hp.2
    have a8 : f 54 k = z 8 k := p3 8 k (by omega) (by omega) hp.1 hp.2
    have a9 : f 55 k = z 9 k := p3 9 k (by omega) (by omega) hp.1 hp.2
    have b7 : f 308 (42 + 3 * k) = z 7 k := q3 7 k (by omega) (by omega) hp.1 hp.2
    have b8 : f 308 (42 + 3 * k + 1) = z 8 k := by rw [show 42 + 3 * k + 1 = 35 + 8 + 3 * k by omega]; exact q3 8 k (by omega) (by omega) hp.1 hp.2
    have b9 : f 308 (42 + 3 * k + 2) = z 9 k := by rw [show 42 + 3 * k + 2 = 35 + 9 + 3 * k by omega]; exact q3 9 k (by omega) (by omega) hp.1 hp.2
    by_cases w0 : w = 0
    · subst w0
      simp (disch := omega) [q93, r93_0, r93_1, r93_4, r93_5, r93_6, r93_9, r93_12, r93_15, r93_16, r93_17, r93_18, r93_44, r93_45, r93_48, r93_51, r93_52, r93_53, r93_54, r93_55, r93_58, r93_61, r93_62, r93_63, r93_64, r93_65, r93_68, r93_71, r93_72, r93_73, r93_74, r93_75, q241, r241_0, r241_1, r241_2, r241_3, r241_4, r241_7, r241_9, r241_10, r241_11, r241_12, r241_13, r241_16, r241_19, r241_20, r241_21, r241_22, r241_25, r241_28, r241_31, r241_32, r241_35, r241_37, r241_38, r241_39, r241_40, r241_41, r241_42, r241_43, r241_44, r241_47, r241_48, cs_nil, cs_cons, lc_lt, lc_ge, lc_gt, lc_le, lc_eq, le_T, lt_T, le_F, lt_F, am_wid2, c_fx h.1.1, mfx_u hm, hS, ln_308, h_isIn, p1, q1, er, hp, c1, c2, c3, a7, b7, h.iv]
    by_cases w1 : w = 1
    · subst w1
      simp (disch := omega) [q93, r93_0, r93_1, r93_4, r93_5, r93_6, r93_9, r93_12, r93_15, r93_16, r93_17, r93_18, r93_44, r93_45, r93_48, r93_51, r93_52, r93_53, r93_54, r93_55, r93_58, r93_61, r93_62, r93_63, r93_64, r93_65, r93_68, r93_71, r93_72, r93_73, r93_74, r93_75, q241, r241_0, r241_1, r241_2, r241_3, r241_4, r241_7, r241_9, r241_10, r241_11, r241_12, r241_13, r241_16, r241_19, r241_20, r241_21, r241_22, r241_25, r241_28, r241_31, r241_32, r241_35, r241_37, r241_38, r241_39, r241_40, r241_41, r241_42, r241_43, r241_44, r241_47, r241_48, cs_nil, cs_cons, lc_lt, lc_ge, lc_gt, lc_le, lc_eq, le_T, lt_T, le_F, lt_F, am_wid2, c_fx h.1.1, mfx_u hm, hS, ln_308, h_isIn, p1, q1, er, hp, c1, c2, c4, a8, b8, h.iv]
    by_cases w2 : w = 2
    · subst w2
      simp (disch := omega) [q93, r93_0, r93_1, r93_4, r93_5, r93_6, r93_9, r93_12, r93_15, r93_16, r93_17, r93_18, r93_44, r93_45, r93_48, r93_51, r93_52, r93_53, r93_54, r93_55, r93_58, r93_61, r93_62, r93_63, r93_64, r93_65, r93_68, r93_71, r93_72, r93_73, r93_74, r93_75, q241, r241_0, r241_1, r241_2, r241_3, r241_4, r241_7, r241_9, r241_10, r241_11, r241_12, r241_13, r241_16, r241_19, r241_20, r241_21, r241_22, r241_25, r241_28, r241_31, r241_32, r241_35, r241_37, r241_38, r241_39, r241_40, r241_41, r241_42, r241_43, r241_44, r241_47, r241_48, cs_nil, cs_cons, lc_lt, lc_ge, lc_gt, lc_le, lc_eq, le_T, lt_T, le_F, lt_F, am_wid2, c_fx h.1.1, mfx_u hm, hS, ln_308, h_isIn, p1, q1, er, hp, c1, c2, c5, a9, b9, h.iv]
    have c6 : ¬ (0 ≤ w ∧ w ≤ 2) := by omega
    simp (disch := omega) [q93, r93_0, r93_1, r93_4, r93_5, r93_6, r93_9, r93_12, r93_15, r93_16, r93_17, r93_18, r93_44, r93_45, r93_48, r93_51, r93_52, r93_53, r93_54, r93_55, r93_58, r93_61, r93_62, r93_63, r93_64, r93_65, r93_68, r93_71, r93_72, r93_73, r93_74, r93_75, q241, r241_0, r241_1, r241_2, r241_3, r241_4, r241_7, r241_9, r241_10, r241_11, r241_12, r241_13, r241_16, r241_19, r241_20, r241_21, r241_22, r241_25, r241_28, r241_31, r241_32, r241_35, r241_37, r241_38, r241_39, r241_40, r241_41, r241_42, r241_43, r241_44, r241_47, r241_48, cs_nil, cs_cons, lc_lt, lc_ge, lc_gt, lc_le, lc_eq, le_T, lt_T, le_F, lt_F, am_wid2, c_fx h.1.1, mfx_u hm, hS, ln_308, h_isIn, p1, q1, er, hp, c1, c2, w0, w1, w2, c6, h.iv]
  · have er : ¬ (0 ≤ k ∧ k ≤ z 10 0 - 1) := by omega
    by_cases h0 : k < 0
    · simp (disch := omega) [q93, r93_0, r93_1, r93_4, r93_5, r93_6, r93_9, r93_12, r93_15, r93_16, r93_17, r93_18, r93_44, r93_45, r93_48, r93_51, r93_52, r93_53, r93_54, r93_55, r93_58, r93_61, r93_62, r93_63, r93_64, r93_65, r93_68, r93_71, r93_72, r93_73, r93_74, r93_75, q241, r241_0, r241_1, r241_2, r241_3, r241_4, r241_7, r241_9, r241_10, r241_11, r241_12, r241_13, r241_16, r241_19, r241_20, r241_21, r241_22, r241_25, r241_28, r241_31, r241_32, r241_35, r241_37, r241_38, r241_39, r241_40, r241_41, r241_42, r241_43, r241_44, r241_47, r241_48, cs_nil, cs_cons, lc_lt, lc_ge, lc_gt, lc_le, lc_eq, le_T, lt_T, le_F, lt_F, am_wid2, c_fx h.1.1, mfx_u hm, ln_308, h_isIn, p1, q1, er, hp, h0, h.iv]
    · have h1 : ¬ k < z 10 0 := by omega
      simp (disch := omega) [q93, r93_0, r93_1, r93_4, r93_5, r93_6, r93_9, r93_12, r93_15, r93_16, r93_17, r93_18, r93_44, r93_45, r93_48, r93_51, r93_52, r93_53, r93_54, r93_55, r93_58, r93_61, r93_62, r93_63, r93_64, r93_65, r93_68, r93_71, r93_72, r93_73, r93_74, r93_75, q241, r241_0, r241_1, r241_2, r241_3, r241_4, r241_7, r241_9, r241_10, r241_11, r241_12, r241_13, r241_16, r241_19, r241_20, r241_21, r241_22, r241_25, r241_28, r241_31, r241_32, r241_35, r241_37, r241_38, r241_39, r241_40, r241_41, r241_42, r241_43, r241_44, r241_47, r241_48, cs_nil, cs_cons, lc_lt, lc_ge, lc_gt, lc_le, lc_eq, le_T, lt_T, le_F, lt_F, am_wid2, c_fx h.1.1, mfx_u hm, ln_308, h_isIn, p1, q1, er, hp, h0, h1, h.iv]
end
