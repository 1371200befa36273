/-! refusals; end, seed, feed -/
theorem cpy_s {f : am_F} {a0 sp a dp k : Int} (h : ¬ a0 = a) (hk : 0 ≤ k) : am_up (am_cpy f a0 sp a dp k) a (dp + k) (f a0 (sp + k)) = am_cpy f a0 sp a dp (k + 1) := by
  funext c i
  by_cases h1 : c = a
  · subst h1
    by_cases h2 : i = dp + k
    · subst h2
      rw [am_ue, cpy_i (by omega)]
      congr 1
      omega
    · rw [am_un (by omega)]
      by_cases h3 : dp ≤ i ∧ i < dp + k
      · rw [cpy_i h3, cpy_i (by omega)]
      · rw [cpy_o h3, cpy_o (by omega)]
  · rw [am_un (by omega), cpy_n h1, cpy_n h1]
theorem cpy_0 {f : am_F} {a0 sp a dp : Int} : am_cpy f a0 sp a dp 0 = f := by
  funext c i
  by_cases h1 : c = a
  · subst h1; exact cpy_o (by omega)
  · exact cpy_n h1
section
variable {d n m r : Nat} {f L z : am_F} {ρ : Int → List Int} {τ : Int → Bool} {l : Int} {Z : Int → am_F} {Q : am_V → am_F → Prop}
theorem IW_ref (h : IW f n m r L ρ τ z l Z) {w : Int} : IW (am_up (am_up f 269 w (am_wI (f 269 w + 1))) 272 w (am_wI (f 272 w + 1))) n m r L ρ τ z l Z := by
  obtain ⟨_, _, _, tp, rf, pc, fs, _⟩ := id h
  refine IW_o h (fun c j _ hc => by rw [am_un (by omega), am_un (by omega)]) (TP_fr tp ?_ ?_ (fun j => ?_) (fun j => ?_)) (fun j => ?_) (PC_fr pc ?_ ?_ (fun j => ?_) (fun j => ?_)) (FS_fr fs (fun j _ => ?_) (fun j _ => ?_))
  all_goals try (rw [am_un (by omega), am_un (by omega)])
  by_cases hj : j = w
  · subst hj
    rw [am_ue, am_un (by omega), am_ue, rf j]
  · rw [am_un (by omega), am_un (by omega), am_un (by omega), am_un (by omega), rf j]
theorem c_refuse {w : Int} (hx : aw_fx f) (h0 : 0 ≤ w) (h1 : w < 6) : aw_cl d 11 [(109, 0), (0, w)] f Q = Q (0, -1) (am_up f 269 w (am_wI (f 269 w + 1))) := by
  simp (disch := omega) [q11, r11_0, r11_1, r11_4, r11_5, r11_6, r11_7, r11_8, r11_9, r11_10, r11_11, cs_nil, cs_cons, lc_lt, lc_ge, lc_gt, lc_le, lc_eq, c_fx hx, ln_269, h0, h1]
theorem m_refuse {w : Int} (hx : mfx f) (h0 : 0 ≤ w) (h1 : w < 6) : aw_cl d 270 [(110, 270), (0, w)] f Q = Q (0, -1) (am_up f 272 w (am_wI (f 272 w + 1))) := by
  simp (disch := omega) [q270, r270_0, r270_1, r270_4, r270_5, r270_6, r270_7, r270_8, r270_9, r270_10, r270_11, cs_nil, cs_cons, lc_lt, lc_ge, lc_gt, lc_le, lc_eq, mfx_u hx, ln_272, h0, h1]
theorem m_refuse2 (hx : mfx f) : aw_cl d 275 [(110, 270)] f Q = Q (0, 0) (am_up f 272 2 (am_wI (f 272 2 + 1))) := by
  simp (disch := omega) [q275, r275_0, r275_1, r275_4, r275_5, r275_6, r275_7, r275_8, r275_9, r275_10, r275_11, cs_nil, cs_cons, lc_lt, lc_ge, lc_gt, lc_le, lc_eq, mfx_u hx, ln_272]
theorem mfx_up {f : am_F} {c j v : Int} (h : mfx f) (hc : ¬ c = 270) : mfx (am_up f c j v) := mfx_fr h (fun _ _ => am_un (by omega))
theorem MB_269 (h : MB f n m r L ρ τ z) {j v : Int} : MB (am_up f 269 j v) n m r L ρ τ z := MB_fr h (fun c j _ _ => am_un (by omega)) (fun j _ => am_un (by omega))
theorem H_end (h : IW f n m r L ρ τ z l Z) {k : Int} : HC d 13 160 [(0, k)] 0 f := by
  unfold HC
  obtain ⟨_, _, _, tp, rf, pc, fs, _⟩ := id h
  have hm := h.2.2.1.1.1.1
  have hi := (IW_ref h (w := 0)).iv
  by_cases h0 : k < 0
  · simp (disch := omega) [q13, r13_0, r13_1, r13_4, r13_5, r13_6, r13_9, r13_12, r13_15, r13_16, r13_17, r13_20, r13_21, r13_22, r13_23, r13_24, r13_27, r13_28, r13_31, r13_32, q160, r160_0, r160_1, r160_4, r160_5, r160_6, r160_9, r160_12, r160_13, r160_16, r160_17, r160_18, r160_19, r160_20, r160_21, r160_22, r160_23, r160_24, r160_25, r160_26, r160_29, r160_30, cs_nil, cs_cons, lc_lt, lc_ge, lc_gt, lc_le, lc_eq, c_refuse h.1.1, mfx_u hm, ln_272, am_un, h0, hi]
  · by_cases h1 : k ≤ f 14 1
    · simp (disch := omega) [q13, r13_0, r13_1, r13_4, r13_5, r13_6, r13_9, r13_12, r13_15, r13_16, r13_17, r13_20, r13_21, r13_22, r13_23, r13_24, r13_27, r13_28, r13_31, r13_32, q160, r160_0, r160_1, r160_4, r160_5, r160_6, r160_9, r160_12, r160_13, r160_16, r160_17, r160_18, r160_19, r160_20, r160_21, r160_22, r160_23, r160_24, r160_25, r160_26, r160_29, r160_30, cs_nil, cs_cons, lc_lt, lc_ge, lc_gt, lc_le, lc_eq, c_fx h.1.1, mfx_u hm, tp.1, am_un, am_ue, h0, h1]
      refine (IW_o (g := am_up (am_up f 14 1 k) 270 1 k) h (fun c j _ hc => by rw [am_un (by omega), am_un (by omega)]) ⟨?_, ?_, fun j => ?_⟩ (RF_fr rf (fun j => ?_) (fun j => ?_)) (PC_fr pc ?_ ?_ (fun j => ?_) (fun j => ?_)) (FS_fr fs (fun j _ => ?_) (fun j _ => ?_))).iv
      · rw [am_ue, am_un (by omega), am_ue]
      · rw [am_un (by omega), am_ue]; have := tp.2.1; omega
      · rw [am_un (by omega), am_un (by omega), am_un (by omega), am_un (by omega)]; exact tp.2.2 j
      all_goals rw [am_un (by omega), am_un (by omega)]
    · simp (disch := omega) [q13, r13_0, r13_1, r13_4, r13_5, r13_6, r13_9, r13_12, r13_15, r13_16, r13_17, r13_20, r13_21, r13_22, r13_23, r13_24, r13_27, r13_28, r13_31, r13_32, q160, r160_0, r160_1, r160_4, r160_5, r160_6, r160_9, r160_12, r160_13, r160_16, r160_17, r160_18, r160_19, r160_20, r160_21, r160_22, r160_23, r160_24, r160_25, r160_26, r160_29, r160_30, cs_nil, cs_cons, lc_lt, lc_ge, lc_gt, lc_le, lc_eq, c_fx h.1.1, c_refuse h.1.1, mfx_u hm, ln_272, tp.1, am_un, h0, h1, hi]
theorem H_seed (h : IW f n m r L ρ τ z l Z) {k : Int} (hk : k < 2147483648) : HC d 142 280 [(0, k)] 0 f := by
  unfold HC
  obtain ⟨_, _, _, tp, rf, pc, fs, _⟩ := id h
  have hm := h.2.2.1.1.1.1
  have hi := (IW_ref h (w := 5)).iv
  by_cases h0 : 0 ≤ k
  · simp (disch := omega) [q142, r142_0, r142_1, r142_4, r142_5, r142_6, r142_9, r142_10, r142_11, r142_12, r142_13, r142_14, r142_15, r142_18, r142_19, q280, r280_0, r280_1, r280_4, r280_5, r280_8, r280_9, r280_10, r280_11, r280_12, r280_13, r280_14, r280_15, r280_16, r280_17, r280_18, r280_19, r280_22, r280_23, cs_nil, cs_cons, lc_lt, lc_ge, lc_gt, lc_le, lc_eq, c_fx h.1.1, mfx_u hm, am_un, am_ue, h0]
    refine (IW_o (g := am_up (am_up f 0 13 k) 270 67 k) h (fun c j _ hc => by rw [am_un (by omega), am_un (by omega)]) (TP_fr tp ?_ ?_ (fun j => ?_) (fun j => ?_)) (RF_fr rf (fun j => ?_) (fun j => ?_)) (PC_fr pc ?_ ?_ (fun j => ?_) (fun j => ?_)) ⟨⟨?_, ?_⟩, ?_, ?_⟩).iv
    all_goals try (rw [am_un (by omega), am_un (by omega)]; done)
    · rw [am_un (by omega), am_un (by omega), am_un (by omega), am_un (by omega)]; exact fs.1.1
    · rw [am_un (by omega), am_un (by omega), am_un (by omega), am_un (by omega)]; exact fs.1.2
    · rw [am_ue, am_un (by omega), am_ue]
    · rw [am_un (by omega), am_ue]; omega
  · simp (disch := omega) [q142, r142_0, r142_1, r142_4, r142_5, r142_6, r142_9, r142_10, r142_11, r142_12, r142_13, r142_14, r142_15, r142_18, r142_19, q280, r280_0, r280_1, r280_4, r280_5, r280_8, r280_9, r280_10, r280_11, r280_12, r280_13, r280_14, r280_15, r280_16, r280_17, r280_18, r280_19, r280_22, r280_23, cs_nil, cs_cons, lc_lt, lc_ge, lc_gt, lc_le, lc_eq, c_refuse h.1.1, mfx_u hm, ln_272, am_un, h0, hi]
theorem and_255 {x : Int} : 0 ≤ am_and x 255 ∧ am_and x 255 ≤ 255 := by
  unfold am_and
  generalize Int32.ofInt x = y
  have e : (y &&& Int32.ofInt 255).toBitVec = y.toBitVec &&& 255#32 := Int32.toBitVec_and y _
  show 0 ≤ (y &&& Int32.ofInt 255).toBitVec.toInt ∧ (y &&& Int32.ofInt 255).toBitVec.toInt ≤ 255
  rw [e]
  have h1 : (y.toBitVec &&& 255#32).toNat ≤ 255 := by
    rw [BitVec.toNat_and]
    exact Nat.and_le_right
  rw [BitVec.toInt_eq_toNat_of_lt (by omega)]
  omega
/-- four bytes onto a tape whose size lies at (a, i) and whose bytes lie in row b -/
def p4 (a i b : Int) (x : Int) (f : am_F) : am_F := am_up (am_up (am_up (am_up (am_up f a i (f a i + 4)) b (f a i) (am_and (am_shr x 24) 255)) b (f a i + 1) (am_and (am_shr x 16) 255)) b (f a i + 2) (am_and (am_shr x 8) 255)) b (f a i + 3) (am_and (am_shr x 0) 255)
theorem p4_s {a i b x : Int} (h : ¬ a = b) : p4 a i b x f a i = f a i + 4 := by
  unfold p4
  rw [am_un (by omega), am_un (by omega), am_un (by omega), am_un (by omega), am_ue]
theorem p4_o {a i b x c j : Int} (h : ¬ (c = a ∧ j = i)) (h2 : ¬ c = b) : p4 a i b x f c j = f c j := by
  unfold p4
  rw [am_un (by omega), am_un (by omega), am_un (by omega), am_un (by omega), am_un (by omega)]
theorem c_put {x : Int} (hx : f 14 0 = 15) (h0 : 0 ≤ f 14 1) (h1 : f 14 1 + 4 ≤ 1600) : aw_cl d 12 [(108, 14), (0, x)] f Q = Q (3, 0) (p4 14 1 15 x f) := by
  apply aw_det
  unfold p4
  have e : f 14 1 + 1 + 1 = f 14 1 + 2 := by omega
  have e2 : f 14 1 + 2 + 1 = f 14 1 + 3 := by omega
  have e3 : f 14 1 + 3 + 1 = f 14 1 + 4 := by omega
  have e4 : ∀ v0 v1 v2 v3 w1 w2 w3 : Int, am_up (am_up (am_up (am_up (am_up (am_up (am_up (am_up f 14 1 w1) 15 (f 14 1) v0) 14 1 w2) 15 (f 14 1 + 1) v1) 14 1 w3) 15 (f 14 1 + 2) v2) 14 1 (f 14 1 + 4)) 15 (f 14 1 + 3) v3 = am_up (am_up (am_up (am_up (am_up f 14 1 (f 14 1 + 4)) 15 (f 14 1) v0) 15 (f 14 1 + 1) v1) 15 (f 14 1 + 2) v2) 15 (f 14 1 + 3) v3 := by
    intro v0 v1 v2 v3 w1 w2 w3
    funext c j
    unfold am_up
    split <;> (try split) <;> (try split) <;> (try split) <;> (try split) <;> (try split) <;> (try split) <;> (try split) <;> (try split) <;> (first | rfl | omega)
  simp (disch := omega) [q12, r12_0, r12_2, r12_4, r12_7, r12_8, r12_11, r12_14, r12_17, r12_18, r12_21, r12_22, r12_23, r12_26, r12_27, r12_28, r12_29, r12_32, r12_33, r12_34, r12_35, r12_38, r12_39, r12_40, r12_43, r12_46, cs_nil, cs_cons, lc_lt, lc_ge, lc_gt, lc_le, lc_eq]
  rw [r12_3]
  simp (disch := omega) [q12, r12_0, r12_2, r12_4, r12_7, r12_8, r12_11, r12_14, r12_17, r12_18, r12_21, r12_22, r12_23, r12_26, r12_27, r12_28, r12_29, r12_32, r12_33, r12_34, r12_35, r12_38, r12_39, r12_40, r12_43, r12_46, cs_nil, cs_cons, lc_lt, lc_ge, lc_gt, lc_le, lc_eq, hx, ln_15, am_un, am_ue, am_wid2, le_T, lt_T, le_F, lt_F]
  rw [r12_3]
  simp (disch := omega) [q12, r12_0, r12_2, r12_4, r12_7, r12_8, r12_11, r12_14, r12_17, r12_18, r12_21, r12_22, r12_23, r12_26, r12_27, r12_28, r12_29, r12_32, r12_33, r12_34, r12_35, r12_38, r12_39, r12_40, r12_43, r12_46, cs_nil, cs_cons, lc_lt, lc_ge, lc_gt, lc_le, lc_eq, hx, ln_15, am_un, am_ue, am_wid2, le_T, lt_T, le_F, lt_F, e, e2, e3]
  rw [r12_3]
  simp (disch := omega) [q12, r12_0, r12_2, r12_4, r12_7, r12_8, r12_11, r12_14, r12_17, r12_18, r12_21, r12_22, r12_23, r12_26, r12_27, r12_28, r12_29, r12_32, r12_33, r12_34, r12_35, r12_38, r12_39, r12_40, r12_43, r12_46, cs_nil, cs_cons, lc_lt, lc_ge, lc_gt, lc_le, lc_eq, hx, ln_15, am_un, am_ue, am_wid2, le_T, lt_T, le_F, lt_F, e, e2, e3]
  rw [r12_3]
  simp (disch := omega) [q12, r12_0, r12_2, r12_4, r12_7, r12_8, r12_11, r12_14, r12_17, r12_18, r12_21, r12_22, r12_23, r12_26, r12_27, r12_28, r12_29, r12_32, r12_33, r12_34, r12_35, r12_38, r12_39, r12_40, r12_43, r12_46, cs_nil, cs_cons, lc_lt, lc_ge, lc_gt, lc_le, lc_eq, hx, ln_15, am_un, am_ue, am_wid2, le_T, lt_T, le_F, lt_F, e, e2, e3]
  rw [r12_3]
  simp (disch := omega) [q12, r12_0, r12_2, r12_4, r12_7, r12_8, r12_11, r12_14, r12_17, r12_18, r12_21, r12_22, r12_23, r12_26, r12_27, r12_28, r12_29, r12_32, r12_33, r12_34, r12_35, r12_38, r12_39, r12_40, r12_43, r12_46, cs_nil, cs_cons, lc_lt, lc_ge, lc_gt, lc_le, lc_eq, e4]
theorem m_put4 {k y1 y2 y3 y4 y5 : Int} {s : am_V} (x : Int) (hx : f 270 0 = 271) (h0 : 0 ≤ f 270 1) (h1 : f 270 1 + 4 ≤ 1600) (hk : k = 0 ∧ x = y1 ∨ k = 4 ∧ x = y2 ∨ k = 8 ∧ x = y3 ∨ k = 12 ∧ x = y4 ∨ k = 16 ∧ x = y5) (hQ : ∀ s, aw_wp d 159 28 [(110, 270), (0, y1), (0, y2), (0, y3), (0, y4), (0, y5), (0, k + 4), s] [] (p4 270 1 271 x f) Q) : aw_wp d 159 28 [(110, 270), (0, y1), (0, y2), (0, y3), (0, y4), (0, y5), (0, k), s] [] f Q := by
  obtain ⟨ts, vs⟩ := s
  have e : f 270 1 + 1 + 1 = f 270 1 + 2 := by omega
  have e2 : f 270 1 + 2 + 1 = f 270 1 + 3 := by omega
  have e3 : f 270 1 + 3 + 1 = f 270 1 + 4 := by omega
  have e4 : ∀ v0 v1 v2 v3 w1 w2 w3 : Int, am_up (am_up (am_up (am_up (am_up (am_up (am_up (am_up f 271 (f 270 1) v0) 270 1 w1) 271 (f 270 1 + 1) v1) 270 1 w2) 271 (f 270 1 + 2) v2) 270 1 w3) 271 (f 270 1 + 3) v3) 270 1 (f 270 1 + 4) = am_up (am_up (am_up (am_up (am_up f 270 1 (f 270 1 + 4)) 271 (f 270 1) v0) 271 (f 270 1 + 1) v1) 271 (f 270 1 + 2) v2) 271 (f 270 1 + 3) v3 := by
    intro v0 v1 v2 v3 w1 w2 w3
    funext c j
    unfold am_up
    split <;> (try split) <;> (try split) <;> (try split) <;> (try split) <;> (try split) <;> (try split) <;> (try split) <;> (try split) <;> (first | rfl | omega)
  unfold p4 at hQ
  rcases hk with ⟨rfl, rfl⟩ | ⟨rfl, rfl⟩ | ⟨rfl, rfl⟩ | ⟨rfl, rfl⟩ | ⟨rfl, rfl⟩
  · rw [r159_28]
    simp (disch := omega) [q159, r159_0, r159_1, r159_4, r159_6, r159_7, r159_10, r159_13, r159_14, r159_17, r159_18, r159_19, r159_20, r159_21, r159_22, r159_23, r159_24, r159_25, r159_26, r159_30, r159_32, r159_35, r159_37, r159_38, r159_41, r159_42, r159_45, r159_47, r159_49, r159_52, r159_53, r159_56, r159_58, r159_60, r159_63, r159_64, r159_67, r159_69, r159_71, r159_74, r159_76, r159_79, r159_81, r159_83, r159_84, r159_87, r159_88, r159_91, r159_93, r159_95, r159_96, r159_98, r159_99, r159_100, r159_101, r159_102, r159_103, r159_106, r159_107, r159_108, r159_109, r159_110, r159_113, r159_114, r159_115, r159_118, r159_121, r159_124, r159_125, r159_128, cs_nil, cs_cons, lc_lt, lc_ge, lc_gt, lc_le, lc_eq, hx, ln_271, am_un, am_ue, am_wid2, le_T, lt_T, le_F, lt_F]
    rw [r159_28]
    simp (disch := omega) [q159, r159_0, r159_1, r159_4, r159_6, r159_7, r159_10, r159_13, r159_14, r159_17, r159_18, r159_19, r159_20, r159_21, r159_22, r159_23, r159_24, r159_25, r159_26, r159_30, r159_32, r159_35, r159_37, r159_38, r159_41, r159_42, r159_45, r159_47, r159_49, r159_52, r159_53, r159_56, r159_58, r159_60, r159_63, r159_64, r159_67, r159_69, r159_71, r159_74, r159_76, r159_79, r159_81, r159_83, r159_84, r159_87, r159_88, r159_91, r159_93, r159_95, r159_96, r159_98, r159_99, r159_100, r159_101, r159_102, r159_103, r159_106, r159_107, r159_108, r159_109, r159_110, r159_113, r159_114, r159_115, r159_118, r159_121, r159_124, r159_125, r159_128, cs_nil, cs_cons, lc_lt, lc_ge, lc_gt, lc_le, lc_eq, hx, ln_271, am_un, am_ue, am_wid2, le_T, lt_T, le_F, lt_F, e, e2, e3]
    rw [r159_28]
    simp (disch := omega) [q159, r159_0, r159_1, r159_4, r159_6, r159_7, r159_10, r159_13, r159_14, r159_17, r159_18, r159_19, r159_20, r159_21, r159_22, r159_23, r159_24, r159_25, r159_26, r159_30, r159_32, r159_35, r159_37, r159_38, r159_41, r159_42, r159_45, r159_47, r159_49, r159_52, r159_53, r159_56, r159_58, r159_60, r159_63, r159_64, r159_67, r159_69, r159_71, r159_74, r159_76, r159_79, r159_81, r159_83, r159_84, r159_87, r159_88, r159_91, r159_93, r159_95, r159_96, r159_98, r159_99, r159_100, r159_101, r159_102, r159_103, r159_106, r159_107, r159_108, r159_109, r159_110, r159_113, r159_114, r159_115, r159_118, r159_121, r159_124, r159_125, r159_128, cs_nil, cs_cons, lc_lt, lc_ge, lc_gt, lc_le, lc_eq, hx, ln_271, am_un, am_ue, am_wid2, le_T, lt_T, le_F, lt_F, e, e2, e3]
    rw [r159_28]
    simp (disch := omega) [q159, r159_0, r159_1, r159_4, r159_6, r159_7, r159_10, r159_13, r159_14, r159_17, r159_18, r159_19, r159_20, r159_21, r159_22, r159_23, r159_24, r159_25, r159_26, r159_30, r159_32, r159_35, r159_37, r159_38, r159_41, r159_42, r159_45, r159_47, r159_49, r159_52, r159_53, r159_56, r159_58, r159_60, r159_63, r159_64, r159_67, r159_69, r159_71, r159_74, r159_76, r159_79, r159_81, r159_83, r159_84, r159_87, r159_88, r159_91, r159_93, r159_95, r159_96, r159_98, r159_99, r159_100, r159_101, r159_102, r159_103, r159_106, r159_107, r159_108, r159_109, r159_110, r159_113, r159_114, r159_115, r159_118, r159_121, r159_124, r159_125, r159_128, cs_nil, cs_cons, lc_lt, lc_ge, lc_gt, lc_le, lc_eq, hx, ln_271, am_un, am_ue, am_wid2, le_T, lt_T, le_F, lt_F, e, e2, e3, e4]
    exact hQ _
  · rw [r159_28]
    simp (disch := omega) [q159, r159_0, r159_1, r159_4, r159_6, r159_7, r159_10, r159_13, r159_14, r159_17, r159_18, r159_19, r159_20, r159_21, r159_22, r159_23, r159_24, r159_25, r159_26, r159_30, r159_32, r159_35, r159_37, r159_38, r159_41, r159_42, r159_45, r159_47, r159_49, r159_52, r159_53, r159_56, r159_58, r159_60, r159_63, r159_64, r159_67, r159_69, r159_71, r159_74, r159_76, r159_79, r159_81, r159_83, r159_84, r159_87, r159_88, r159_91, r159_93, r159_95, r159_96, r159_98, r159_99, r159_100, r159_101, r159_102, r159_103, r159_106, r159_107, r159_108, r159_109, r159_110, r159_113, r159_114, r159_115, r159_118, r159_121, r159_124, r159_125, r159_128, cs_nil, cs_cons, lc_lt, lc_ge, lc_gt, lc_le, lc_eq, hx, ln_271, am_un, am_ue, am_wid2, le_T, lt_T, le_F, lt_F]
    rw [r159_28]
    simp (disch := omega) [q159, r159_0, r159_1, r159_4, r159_6, r159_7, r159_10, r159_13, r159_14, r159_17, r159_18, r159_19, r159_20, r159_21, r159_22, r159_23, r159_24, r159_25, r159_26, r159_30, r159_32, r159_35, r159_37, r159_38, r159_41, r159_42, r159_45, r159_47, r159_49, r159_52, r159_53, r159_56, r159_58, r159_60, r159_63, r159_64, r159_67, r159_69, r159_71, r159_74, r159_76, r159_79, r159_81, r159_83, r159_84, r159_87, r159_88, r159_91, r159_93, r159_95, r159_96, r159_98, r159_99, r159_100, r159_101, r159_102, r159_103, r159_106, r159_107, r159_108, r159_109, r159_110, r159_113, r159_114, r159_115, r159_118, r159_121, r159_124, r159_125, r159_128, cs_nil, cs_cons, lc_lt, lc_ge, lc_gt, lc_le, lc_eq, hx, ln_271, am_un, am_ue, am_wid2, le_T, lt_T, le_F, lt_F, e, e2, e3]
    rw [r159_28]
    simp (disch := omega) [q159, r159_0, r159_1, r159_4, r159_6, r159_7, r159_10, r159_13, r159_14, r159_17, r159_18, r159_19, r159_20, r159_21, r159_22, r159_23, r159_24, r159_25, r159_26, r159_30, r159_32, r159_35, r159_37, r159_38, r159_41, r159_42, r159_45, r159_47, r159_49, r159_52, r159_53, r159_56, r159_58, r159_60, r159_63, r159_64, r159_67, r159_69, r159_71, r159_74, r159_76, r159_79, r159_81, r159_83, r159_84, r159_87, r159_88, r159_91, r159_93, r159_95, r159_96, r159_98, r159_99, r159_100, r159_101, r159_102, r159_103, r159_106, r159_107, r159_108, r159_109, r159_110, r159_113, r159_114, r159_115, r159_118, r159_121, r159_124, r159_125, r159_128, cs_nil, cs_cons, lc_lt, lc_ge, lc_gt, lc_le, lc_eq, hx, ln_271, am_un, am_ue, am_wid2, le_T, lt_T, le_F, lt_F, e, e2, e3]
    rw [r159_28]
    simp (disch := omega) [q159, r159_0, r159_1, r159_4, r159_6, r159_7, r159_10, r159_13, r159_14, r159_17, r159_18, r159_19, r159_20, r159_21, r159_22, r159_23, r159_24, r159_25, r159_26, r159_30, r159_32, r159_35, r159_37, r159_38, r159_41, r159_42, r159_45, r159_47, r159_49, r159_52, r159_53, r159_56, r159_58, r159_60, r159_63, r159_64, r159_67, r159_69, r159_71, r159_74, r159_76, r159_79, r159_81, r159_83, r159_84, r159_87, r159_88, r159_91, r159_93, r159_95, r159_96, r159_98, r159_99, r159_100, r159_101, r159_102, r159_103, r159_106, r159_107, r159_108, r159_109, r159_110, r159_113, r159_114, r159_115, r159_118, r159_121, r159_124, r159_125, r159_128, cs_nil, cs_cons, lc_lt, lc_ge, lc_gt, lc_le, lc_eq, hx, ln_271, am_un, am_ue, am_wid2, le_T, lt_T, le_F, lt_F, e, e2, e3, e4]
    exact hQ _
  · rw [r159_28]
    simp (disch := omega) [q159, r159_0, r159_1, r159_4, r159_6, r159_7, r159_10, r159_13, r159_14, r159_17, r159_18, r159_19, r159_20, r159_21, r159_22, r159_23, r159_24, r159_25, r159_26, r159_30, r159_32, r159_35, r159_37, r159_38, r159_41, r159_42, r159_45, r159_47, r159_49, r159_52, r159_53, r159_56, r159_58, r159_60, r159_63, r159_64, r159_67, r159_69, r159_71, r159_74, r159_76, r159_79, r159_81, r159_83, r159_84, r159_87, r159_88, r159_91, r159_93, r159_95, r159_96, r159_98, r159_99, r159_100, r159_101, r159_102, r159_103, r159_106, r159_107, r159_108, r159_109, r159_110, r159_113, r159_114, r159_115, r159_118, r159_121, r159_124, r159_125, r159_128, cs_nil, cs_cons, lc_lt, lc_ge, lc_gt, lc_le, lc_eq, hx, ln_271, am_un, am_ue, am_wid2, le_T, lt_T, le_F, lt_F]
    rw [r159_28]
    simp (disch := omega) [q159, r159_0, r159_1, r159_4, r159_6, r159_7, r159_10, r159_13, r159_14, r159_17, r159_18, r159_19, r159_20, r159_21, r159_22, r159_23, r159_24, r159_25, r159_26, r159_30, r159_32, r159_35, r159_37, r159_38, r159_41, r159_42, r159_45, r159_47, r159_49, r159_52, r159_53, r159_56, r159_58, r159_60, r159_63, r159_64, r159_67, r159_69, r159_71, r159_74, r159_76, r159_79, r159_81, r159_83, r159_84, r159_87, r159_88, r159_91, r159_93, r159_95, r159_96, r159_98, r159_99, r159_100, r159_101, r159_102, r159_103, r159_106, r159_107, r159_108, r159_109, r159_110, r159_113, r159_114, r159_115, r159_118, r159_121, r159_124, r159_125, r159_128, cs_nil, cs_cons, lc_lt, lc_ge, lc_gt, lc_le, lc_eq, hx, ln_271, am_un, am_ue, am_wid2, le_T, lt_T, le_F, lt_F, e, e2, e3]
    rw [r159_28]
    simp (disch := omega) [q159, r159_0, r159_1, r159_4, r159_6, r159_7, r159_10, r159_13, r159_14, r159_17, r159_18, r159_19, r159_20, r159_21, r159_22, r159_23, r159_24, r159_25, r159_26, r159_30, r159_32, r159_35, r159_37, r159_38, r159_41, r159_42, r159_45, r159_47, r159_49, r159_52, r159_53, r159_56, r159_58, r159_60, r159_63, r159_64, r159_67, r159_69, r159_71, r159_74, r159_76, r159_79, r159_81, r159_83, r159_84, r159_87, r159_88, r159_91, r159_93, r159_95, r159_96, r159_98, r159_99, r159_100, r159_101, r159_102, r159_103, r159_106, r159_107, r159_108, r159_109, r159_110, r159_113, r159_114, r159_115, r159_118, r159_121, r159_124, r159_125, r159_128, cs_nil, cs_cons, lc_lt, lc_ge, lc_gt, lc_le, lc_eq, hx, ln_271, am_un, am_ue, am_wid2, le_T, lt_T, le_F, lt_F, e, e2, e3]
    rw [r159_28]
    simp (disch := omega) [q159, r159_0, r159_1, r159_4, r159_6, r159_7, r159_10, r159_13, r159_14, r159_17, r159_18, r159_19, r159_20, r159_21, r159_22, r159_23, r159_24, r159_25, r159_26, r159_30, r159_32, r159_35, r159_37, r159_38, r159_41, r159_42, r159_45, r159_47, r159_49, r159_52, r159_53, r159_56, r159_58, r159_60, r159_63, r159_64, r159_67, r159_69, r159_71, r159_74, r159_76, r159_79, r159_81, r159_83, r159_84, r159_87, r159_88, r159_91, r159_93, r159_95, r159_96, r159_98, r159_99, r159_100, r159_101, r159_102, r159_103, r159_106, r159_107, r159_108, r159_109, r159_110, r159_113, r159_114, r159_115, r159_118, r159_121, r159_124, r159_125, r159_128, cs_nil, cs_cons, lc_lt, lc_ge, lc_gt, lc_le, lc_eq, hx, ln_271, am_un, am_ue, am_wid2, le_T, lt_T, le_F, lt_F, e, e2, e3, e4]
    exact hQ _
  · rw [r159_28]
    simp (disch := omega) [q159, r159_0, r159_1, r159_4, r159_6, r159_7, r159_10, r159_13, r159_14, r159_17, r159_18, r159_19, r159_20, r159_21, r159_22, r159_23, r159_24, r159_25, r159_26, r159_30, r159_32, r159_35, r159_37, r159_38, r159_41, r159_42, r159_45, r159_47, r159_49, r159_52, r159_53, r159_56, r159_58, r159_60, r159_63, r159_64, r159_67, r159_69, r159_71, r159_74, r159_76, r159_79, r159_81, r159_83, r159_84, r159_87, r159_88, r159_91, r159_93, r159_95, r159_96, r159_98, r159_99, r159_100, r159_101, r159_102, r159_103, r159_106, r159_107, r159_108, r159_109, r159_110, r159_113, r159_114, r159_115, r159_118, r159_121, r159_124, r159_125, r159_128, cs_nil, cs_cons, lc_lt, lc_ge, lc_gt, lc_le, lc_eq, hx, ln_271, am_un, am_ue, am_wid2, le_T, lt_T, le_F, lt_F]
    rw [r159_28]
    simp (disch := omega) [q159, r159_0, r159_1, r159_4, r159_6, r159_7, r159_10, r159_13, r159_14, r159_17, r159_18, r159_19, r159_20, r159_21, r159_22, r159_23, r159_24, r159_25, r159_26, r159_30, r159_32, r159_35, r159_37, r159_38, r159_41, r159_42, r159_45, r159_47, r159_49, r159_52, r159_53, r159_56, r159_58, r159_60, r159_63, r159_64, r159_67, r159_69, r159_71, r159_74, r159_76, r159_79, r159_81, r159_83, r159_84, r159_87, r159_88, r159_91, r159_93, r159_95, r159_96, r159_98, r159_99, r159_100, r159_101, r159_102, r159_103, r159_106, r159_107, r159_108, r159_109, r159_110, r159_113, r159_114, r159_115, r159_118, r159_121, r159_124, r159_125, r159_128, cs_nil, cs_cons, lc_lt, lc_ge, lc_gt, lc_le, lc_eq, hx, ln_271, am_un, am_ue, am_wid2, le_T, lt_T, le_F, lt_F, e, e2, e3]
    rw [r159_28]
    simp (disch := omega) [q159, r159_0, r159_1, r159_4, r159_6, r159_7, r159_10, r159_13, r159_14, r159_17, r159_18, r159_19, r159_20, r159_21, r159_22, r159_23, r159_24, r159_25, r159_26, r159_30, r159_32, r159_35, r159_37, r159_38, r159_41, r159_42, r159_45, r159_47, r159_49, r159_52, r159_53, r159_56, r159_58, r159_60, r159_63, r159_64, r159_67, r159_69, r159_71, r159_74, r159_76, r159_79, r159_81, r159_83, r159_84, r159_87, r159_88, r159_91, r159_93, r159_95, r159_96, r159_98, r159_99, r159_100, r159_101, r159_102, r159_103, r159_106, r159_107, r159_108, r159_109, r159_110, r159_113, r159_114, r159_115, r159_118, r159_121, r159_124, r159_125, r159_128, cs_nil, cs_cons, lc_lt, lc_ge, lc_gt, lc_le, lc_eq, hx, ln_271, am_un, am_ue, am_wid2, le_T, lt_T, le_F, lt_F, e, e2, e3]
    rw [r159_28]
    simp (disch := omega) [q159, r159_0, r159_1, r159_4, r159_6, r159_7, r159_10, r159_13, r159_14, r159_17, r159_18, r159_19, r159_20, r159_21, r159_22, r159_23, r159_24, r159_25, r159_26, r159_30, r159_32, r159_35, r159_37, r159_38, r159_41, r159_42, r159_45, r159_47, r159_49, r159_52, r159_53, r159_56, r159_58, r159_60, r159_63, r159_64, r159_67, r159_69, r159_71, r159_74, r159_76, r159_79, r159_81, r159_83, r159_84, r159_87, r159_88, r159_91, r159_93, r159_95, r159_96, r159_98, r159_99, r159_100, r159_101, r159_102, r159_103, r159_106, r159_107, r159_108, r159_109, r159_110, r159_113, r159_114, r159_115, r159_118, r159_121, r159_124, r159_125, r159_128, cs_nil, cs_cons, lc_lt, lc_ge, lc_gt, lc_le, lc_eq, hx, ln_271, am_un, am_ue, am_wid2, le_T, lt_T, le_F, lt_F, e, e2, e3, e4]
    exact hQ _
  · rw [r159_28]
    simp (disch := omega) [q159, r159_0, r159_1, r159_4, r159_6, r159_7, r159_10, r159_13, r159_14, r159_17, r159_18, r159_19, r159_20, r159_21, r159_22, r159_23, r159_24, r159_25, r159_26, r159_30, r159_32, r159_35, r159_37, r159_38, r159_41, r159_42, r159_45, r159_47, r159_49, r159_52, r159_53, r159_56, r159_58, r159_60, r159_63, r159_64, r159_67, r159_69, r159_71, r159_74, r159_76, r159_79, r159_81, r159_83, r159_84, r159_87, r159_88, r159_91, r159_93, r159_95, r159_96, r159_98, r159_99, r159_100, r159_101, r159_102, r159_103, r159_106, r159_107, r159_108, r159_109, r159_110, r159_113, r159_114, r159_115, r159_118, r159_121, r159_124, r159_125, r159_128, cs_nil, cs_cons, lc_lt, lc_ge, lc_gt, lc_le, lc_eq, hx, ln_271, am_un, am_ue, am_wid2, le_T, lt_T, le_F, lt_F]
    rw [r159_28]
    simp (disch := omega) [q159, r159_0, r159_1, r159_4, r159_6, r159_7, r159_10, r159_13, r159_14, r159_17, r159_18, r159_19, r159_20, r159_21, r159_22, r159_23, r159_24, r159_25, r159_26, r159_30, r159_32, r159_35, r159_37, r159_38, r159_41, r159_42, r159_45, r159_47, r159_49, r159_52, r159_53, r159_56, r159_58, r159_60, r159_63, r159_64, r159_67, r159_69, r159_71, r159_74, r159_76, r159_79, r159_81, r159_83, r159_84, r159_87, r159_88, r159_91, r159_93, r159_95, r159_96, r159_98, r159_99, r159_100, r159_101, r159_102, r159_103, r159_106, r159_107, r159_108, r159_109, r159_110, r159_113, r159_114, r159_115, r159_118, r159_121, r159_124, r159_125, r159_128, cs_nil, cs_cons, lc_lt, lc_ge, lc_gt, lc_le, lc_eq, hx, ln_271, am_un, am_ue, am_wid2, le_T, lt_T, le_F, lt_F, e, e2, e3]
    rw [r159_28]
    simp (disch := omega) [q159, r159_0, r159_1, r159_4, r159_6, r159_7, r159_10, r159_13, r159_14, r159_17, r159_18, r159_19, r159_20, r159_21, r159_22, r159_23, r159_24, r159_25, r159_26, r159_30, r159_32, r159_35, r159_37, r159_38, r159_41, r159_42, r159_45, r159_47, r159_49, r159_52, r159_53, r159_56, r159_58, r159_60, r159_63, r159_64, r159_67, r159_69, r159_71, r159_74, r159_76, r159_79, r159_81, r159_83, r159_84, r159_87, r159_88, r159_91, r159_93, r159_95, r159_96, r159_98, r159_99, r159_100, r159_101, r159_102, r159_103, r159_106, r159_107, r159_108, r159_109, r159_110, r159_113, r159_114, r159_115, r159_118, r159_121, r159_124, r159_125, r159_128, cs_nil, cs_cons, lc_lt, lc_ge, lc_gt, lc_le, lc_eq, hx, ln_271, am_un, am_ue, am_wid2, le_T, lt_T, le_F, lt_F, e, e2, e3]
    rw [r159_28]
    simp (disch := omega) [q159, r159_0, r159_1, r159_4, r159_6, r159_7, r159_10, r159_13, r159_14, r159_17, r159_18, r159_19, r159_20, r159_21, r159_22, r159_23, r159_24, r159_25, r159_26, r159_30, r159_32, r159_35, r159_37, r159_38, r159_41, r159_42, r159_45, r159_47, r159_49, r159_52, r159_53, r159_56, r159_58, r159_60, r159_63, r159_64, r159_67, r159_69, r159_71, r159_74, r159_76, r159_79, r159_81, r159_83, r159_84, r159_87, r159_88, r159_91, r159_93, r159_95, r159_96, r159_98, r159_99, r159_100, r159_101, r159_102, r159_103, r159_106, r159_107, r159_108, r159_109, r159_110, r159_113, r159_114, r159_115, r159_118, r159_121, r159_124, r159_125, r159_128, cs_nil, cs_cons, lc_lt, lc_ge, lc_gt, lc_le, lc_eq, hx, ln_271, am_un, am_ue, am_wid2, le_T, lt_T, le_F, lt_F, e, e2, e3, e4]
    exact hQ _
/-- the same bytes onto both tapes -/
theorem TP_p4 {f g : am_F} {x : Int} (hb : ∀ j, 0 ≤ f 15 j ∧ f 15 j ≤ 255) (e : ∀ j, g 271 j = f 15 j) (hs : g 270 1 = f 14 1) : (∀ j, 0 ≤ p4 14 1 15 x f 15 j ∧ p4 14 1 15 x f 15 j ≤ 255) ∧ (∀ j, p4 270 1 271 x g 271 j = p4 14 1 15 x f 15 j) ∧ p4 270 1 271 x g 270 1 = p4 14 1 15 x f 14 1 := by
  refine ⟨fun j => ?_, fun j => ?_, ?_⟩
  · have q1 := and_255 (x := am_shr x 24)
    have q2 := and_255 (x := am_shr x 16)
    have q3 := and_255 (x := am_shr x 8)
    have q4 := and_255 (x := am_shr x 0)
    have q5 := hb j
    unfold p4 am_up
    split <;> (try split) <;> (try split) <;> (try split) <;> (try split) <;> (first | assumption | omega)
  · unfold p4
    rw [hs]
    simp [am_up, e j]
  · rw [p4_s (by omega), p4_s (by omega), hs]
theorem H_feed (h : IW f n m r L ρ τ z l Z) {a b c e k : Int} : HC d 10 159 [(0, a), (0, b), (0, c), (0, e), (0, k)] 0 f := by
  unfold HC
  obtain ⟨_, _, _, tp, rf, pc, fs, _⟩ := id h
  have hm := h.2.2.1.1.1.1
  have hi := (IW_ref h (w := 0)).iv
  have t1 := tp.2.1
  by_cases h0 : f 14 1 + 20 ≤ 1600
  · have x0 := (c_fx h.1.1).1
    have x14 : f 14 0 = 15 := fx_14_0 h.1.1
    have y0 : f 270 0 = 271 := hm.1
    have x1 : p4 14 1 15 a f 0 0 = 14 ∧ p4 14 1 15 a f 14 0 = 15 ∧ p4 14 1 15 a f 14 1 = f 14 1 + 4 := ⟨(p4_o (by omega) (by omega)).trans x0, (p4_o (by omega) (by omega)).trans x14, p4_s (by omega)⟩
    generalize hg1 : p4 14 1 15 a f = g1 at x1
    have x2 : p4 14 1 15 b g1 0 0 = 14 ∧ p4 14 1 15 b g1 14 0 = 15 ∧ p4 14 1 15 b g1 14 1 = g1 14 1 + 4 := ⟨(p4_o (by omega) (by omega)).trans x1.1, (p4_o (by omega) (by omega)).trans x1.2.1, p4_s (by omega)⟩
    generalize hg2 : p4 14 1 15 b g1 = g2 at x2
    have x3 : p4 14 1 15 c g2 0 0 = 14 ∧ p4 14 1 15 c g2 14 0 = 15 ∧ p4 14 1 15 c g2 14 1 = g2 14 1 + 4 := ⟨(p4_o (by omega) (by omega)).trans x2.1, (p4_o (by omega) (by omega)).trans x2.2.1, p4_s (by omega)⟩
    generalize hg3 : p4 14 1 15 c g2 = g3 at x3
    have x4 : p4 14 1 15 e g3 0 0 = 14 ∧ p4 14 1 15 e g3 14 0 = 15 ∧ p4 14 1 15 e g3 14 1 = g3 14 1 + 4 := ⟨(p4_o (by omega) (by omega)).trans x3.1, (p4_o (by omega) (by omega)).trans x3.2.1, p4_s (by omega)⟩
    generalize hg4 : p4 14 1 15 e g3 = g4 at x4
    have x5 : p4 14 1 15 k g4 0 0 = 14 ∧ p4 14 1 15 k g4 14 0 = 15 ∧ p4 14 1 15 k g4 14 1 = g4 14 1 + 4 := ⟨(p4_o (by omega) (by omega)).trans x4.1, (p4_o (by omega) (by omega)).trans x4.2.1, p4_s (by omega)⟩
    have s5 : ∀ c j, ¬ (c = 14 ∧ j = 1) → ¬ c = 15 → p4 14 1 15 k g4 c j = f c j := fun c j q1 q2 => by rw [p4_o q1 q2, ← hg4, p4_o q1 q2, ← hg3, p4_o q1 q2, ← hg2, p4_o q1 q2, ← hg1, p4_o q1 q2]
    generalize hg5 : p4 14 1 15 k g4 = g5 at x5 s5
    simp (disch := omega) [q10, r10_0, r10_1, r10_4, r10_7, r10_9, r10_10, r10_13, r10_16, r10_17, r10_18, r10_21, r10_22, r10_23, r10_26, r10_27, r10_30, r10_31, r10_34, r10_35, r10_38, r10_39, r10_42, r10_43, r10_46, r10_47, r10_50, r10_52, r10_55, r10_56, r10_59, r10_61, r10_64, r10_65, r10_68, r10_71, cs_nil, cs_cons, lc_lt, lc_ge, lc_gt, lc_le, lc_eq, x0, x14, am_wid2, h0, c_put x14, hg1, x1, c_put x1.2.1, hg2, x2, c_put x2.2.1, hg3, x3, c_put x3.2.1, hg4, x4, c_put x4.2.1, hg5, x5, le_T]
    have u1 := tp.2.2
    have b0 : g5 270 1 = f 14 1 := by rw [s5 _ _ (by omega) (by omega)]; exact tp.1
    have y5 : g5 270 0 = 271 := by rw [s5 _ _ (by omega) (by omega)]; exact y0
    have w1 := TP_p4 (f := f) (g := g5) (x := a) (fun j => (u1 j).2) (fun j => by rw [s5 _ _ (by omega) (by omega)]; exact (u1 j).1) b0
    rw [hg1] at w1
    have z1 : p4 270 1 271 a g5 270 0 = 271 ∧ p4 270 1 271 a g5 270 1 = g5 270 1 + 4 := ⟨(p4_o (by omega) (by omega)).trans y5, p4_s (by omega)⟩
    have v1 : ∀ c j, ¬ (c = 270 ∧ j = 1) → ¬ c = 271 → p4 270 1 271 a g5 c j = g5 c j := fun c j q1 q2 => p4_o q1 q2
    generalize hk1 : p4 270 1 271 a g5 = k1 at w1 z1 v1
    have w2 := TP_p4 (x := b) w1.1 w1.2.1 w1.2.2
    rw [hg2] at w2
    have z2 : p4 270 1 271 b k1 270 0 = 271 ∧ p4 270 1 271 b k1 270 1 = k1 270 1 + 4 := ⟨(p4_o (by omega) (by omega)).trans z1.1, p4_s (by omega)⟩
    have v2 : ∀ c j, ¬ (c = 270 ∧ j = 1) → ¬ c = 271 → p4 270 1 271 b k1 c j = g5 c j := fun c j q1 q2 => (p4_o q1 q2).trans (v1 c j q1 q2)
    generalize hk2 : p4 270 1 271 b k1 = k2 at w2 z2 v2
    have w3 := TP_p4 (x := c) w2.1 w2.2.1 w2.2.2
    rw [hg3] at w3
    have z3 : p4 270 1 271 c k2 270 0 = 271 ∧ p4 270 1 271 c k2 270 1 = k2 270 1 + 4 := ⟨(p4_o (by omega) (by omega)).trans z2.1, p4_s (by omega)⟩
    have v3 : ∀ c' j, ¬ (c' = 270 ∧ j = 1) → ¬ c' = 271 → p4 270 1 271 c k2 c' j = g5 c' j := fun c j q1 q2 => (p4_o q1 q2).trans (v2 c j q1 q2)
    generalize hk3 : p4 270 1 271 c k2 = k3 at w3 z3 v3
    have w4 := TP_p4 (x := e) w3.1 w3.2.1 w3.2.2
    rw [hg4] at w4
    have z4 : p4 270 1 271 e k3 270 0 = 271 ∧ p4 270 1 271 e k3 270 1 = k3 270 1 + 4 := ⟨(p4_o (by omega) (by omega)).trans z3.1, p4_s (by omega)⟩
    have v4 : ∀ c j, ¬ (c = 270 ∧ j = 1) → ¬ c = 271 → p4 270 1 271 e k3 c j = g5 c j := fun c j q1 q2 => (p4_o q1 q2).trans (v3 c j q1 q2)
    generalize hk4 : p4 270 1 271 e k3 = k4 at w4 z4 v4
    have w5 := TP_p4 (x := k) w4.1 w4.2.1 w4.2.2
    rw [hg5] at w5
    have z5 : p4 270 1 271 k k4 270 0 = 271 ∧ p4 270 1 271 k k4 270 1 = k4 270 1 + 4 := ⟨(p4_o (by omega) (by omega)).trans z4.1, p4_s (by omega)⟩
    have v5 : ∀ c j, ¬ (c = 270 ∧ j = 1) → ¬ c = 271 → p4 270 1 271 k k4 c j = g5 c j := fun c j q1 q2 => (p4_o q1 q2).trans (v4 c j q1 q2)
    generalize hk5 : p4 270 1 271 k k4 = k5 at w5 z5 v5
    have h0' : g5 270 1 + 20 ≤ 1600 := by omega
    simp (disch := omega) [q159, r159_0, r159_1, r159_4, r159_6, r159_7, r159_10, r159_13, r159_14, r159_17, r159_18, r159_19, r159_20, r159_21, r159_22, r159_23, r159_24, r159_25, r159_26, r159_30, r159_32, r159_35, r159_37, r159_38, r159_41, r159_42, r159_45, r159_47, r159_49, r159_52, r159_53, r159_56, r159_58, r159_60, r159_63, r159_64, r159_67, r159_69, r159_71, r159_74, r159_76, r159_79, r159_81, r159_83, r159_84, r159_87, r159_88, r159_91, r159_93, r159_95, r159_96, r159_98, r159_99, r159_100, r159_101, r159_102, r159_103, r159_106, r159_107, r159_108, r159_109, r159_110, r159_113, r159_114, r159_115, r159_118, r159_121, r159_124, r159_125, r159_128, cs_nil, cs_cons, lc_lt, lc_ge, lc_gt, lc_le, lc_eq, am_wid2, h0']
    refine m_put4 a y5 (by omega) (by omega) (by omega) (fun s => ?_)
    rw [hk1]
    refine m_put4 b z1.1 (by omega) (by omega) (by omega) (fun s => ?_)
    rw [hk2]
    refine m_put4 c z2.1 (by omega) (by omega) (by omega) (fun s => ?_)
    rw [hk3]
    refine m_put4 e z3.1 (by omega) (by omega) (by omega) (fun s => ?_)
    rw [hk4]
    refine m_put4 k z4.1 (by omega) (by omega) (by omega) (fun s => ?_)
    rw [hk5]
    obtain ⟨ts, vs⟩ := s
    have hfr : ∀ c j, ¬ (c = 14 ∧ j = 1) → ¬ c = 15 → ¬ (c = 270 ∧ j = 1) → ¬ c = 271 → k5 c j = f c j := fun c j q1 q2 q3 q4 => (v5 c j q3 q4).trans (s5 c j q1 q2)
    have hI : IV k5 := by
      refine (IW_o h (fun c j _ hc => hfr c j (by omega) (by omega) (by omega) (by omega)) ⟨?_, ?_, fun j => ?_⟩ (RF_fr rf (fun j => ?_) (fun j => ?_)) (PC_fr pc ?_ ?_ (fun j => ?_) (fun j => ?_)) (FS_fr fs (fun j _ => ?_) (fun j _ => ?_))).iv
      · rw [v5 14 1 (by omega) (by omega)]; exact w5.2.2
      · rw [v5 14 1 (by omega) (by omega)]; omega
      · rw [v5 15 j (by omega) (by omega)]; exact ⟨w5.2.1 j, w5.1 j⟩
      all_goals exact hfr _ _ (by omega) (by omega) (by omega) (by omega)
    rw [r159_28]
    simp (disch := omega) [q159, r159_0, r159_1, r159_4, r159_6, r159_7, r159_10, r159_13, r159_14, r159_17, r159_18, r159_19, r159_20, r159_21, r159_22, r159_23, r159_24, r159_25, r159_26, r159_30, r159_32, r159_35, r159_37, r159_38, r159_41, r159_42, r159_45, r159_47, r159_49, r159_52, r159_53, r159_56, r159_58, r159_60, r159_63, r159_64, r159_67, r159_69, r159_71, r159_74, r159_76, r159_79, r159_81, r159_83, r159_84, r159_87, r159_88, r159_91, r159_93, r159_95, r159_96, r159_98, r159_99, r159_100, r159_101, r159_102, r159_103, r159_106, r159_107, r159_108, r159_109, r159_110, r159_113, r159_114, r159_115, r159_118, r159_121, r159_124, r159_125, r159_128, cs_nil, cs_cons, lc_lt, lc_ge, lc_gt, lc_le, lc_eq, hI, w5.2.2, x5]
    omega
  · have h0' : ¬ f 270 1 + 20 ≤ 1600 := by have := tp.1; omega
    simp (disch := omega) [q10, r10_0, r10_1, r10_4, r10_7, r10_9, r10_10, r10_13, r10_16, r10_17, r10_18, r10_21, r10_22, r10_23, r10_26, r10_27, r10_30, r10_31, r10_34, r10_35, r10_38, r10_39, r10_42, r10_43, r10_46, r10_47, r10_50, r10_52, r10_55, r10_56, r10_59, r10_61, r10_64, r10_65, r10_68, r10_71, q159, r159_0, r159_1, r159_4, r159_6, r159_7, r159_10, r159_13, r159_14, r159_17, r159_18, r159_19, r159_20, r159_21, r159_22, r159_23, r159_24, r159_25, r159_26, r159_30, r159_32, r159_35, r159_37, r159_38, r159_41, r159_42, r159_45, r159_47, r159_49, r159_52, r159_53, r159_56, r159_58, r159_60, r159_63, r159_64, r159_67, r159_69, r159_71, r159_74, r159_76, r159_79, r159_81, r159_83, r159_84, r159_87, r159_88, r159_91, r159_93, r159_95, r159_96, r159_98, r159_99, r159_100, r159_101, r159_102, r159_103, r159_106, r159_107, r159_108, r159_109, r159_110, r159_113, r159_114, r159_115, r159_118, r159_121, r159_124, r159_125, r159_128, cs_nil, cs_cons, lc_lt, lc_ge, lc_gt, lc_le, lc_eq, c_fx h.1.1, c_refuse h.1.1, mfx_u hm, ln_272, am_un, am_wid2, h0, tp.1, hi]
end
