/-! parts: the model's side -/
section
variable {d n m r : Nat} {f L z : am_F} {ρ : Int → List Int} {τ : Int → Bool} {l : Int} {Z : Int → am_F} {Q : am_V → am_F → Prop}
def b01 (b : Bool) : Int := if b = true then 1 else 0
/-- the trials of all things, as told -/
def AT (f : am_F) (n r : Nat) (L : am_F) (ρ : Int → List Int) (z : am_F) : Prop := ∀ k t : Int, 0 ≤ k → k < r → 0 ≤ t → t < n → f 310 (8 * k + t) = b01 (aP L ρ z t k)
theorem MB_310 (h : MB f n m r L ρ τ z) {g : am_F} (hg : ∀ c j : Int, ¬ (c = 310 ∨ c = 342 ∨ (c = 270 ∧ (j = 50 ∨ j = 55 ∨ j = 98))) → g c j = f c j) : MB g n m r L ρ τ z := MB_fr h (fun c j _ _ => hg c j (by omega)) (fun j _ => hg 270 j (by omega))
theorem m_partsA (h : MB f n m r L ρ τ z) (hQ : ∀ g x, AT g n r L ρ z → (∀ c j : Int, ¬ (c = 310 ∨ c = 342 ∨ (c = 270 ∧ (j = 50 ∨ j = 55 ∨ j = 98))) → g c j = f c j) → aw_wp (d + 5) 265 57 [(110, 270), (0, (r : Int)), x] [] g Q) : aw_cl (d + 5) 265 [(110, 270)] f Q := by
  have hn := h.2.2.1.1
  have hr := h.2.2.1.2.2.1
  have inner : ∀ (k : Nat), k < r → ∀ (j t : Nat) (g : am_F), t + j = n → (∀ c j : Int, ¬ (c = 310 ∨ c = 342 ∨ (c = 270 ∧ (j = 50 ∨ j = 55 ∨ j = 98))) → g c j = f c j) → (∀ k' t' : Int, 0 ≤ k' → 0 ≤ t' → t' < n → (k' < k ∨ (k' = k ∧ t' < t)) → g 310 (8 * k' + t') = b01 (aP L ρ z t' k')) → (∀ g', (∀ c j : Int, ¬ (c = 310 ∨ c = 342 ∨ (c = 270 ∧ (j = 50 ∨ j = 55 ∨ j = 98))) → g' c j = f c j) → (∀ k' t' : Int, 0 ≤ k' → 0 ≤ t' → t' < n → k' < (k : Int) + 1 → g' 310 (8 * k' + t') = b01 (aP L ρ z t' k')) → aw_wp (d + 5) 265 51 [(110, 270), (0, (k : Int)), (0, (n : Int))] [] g' Q) → aw_wp (d + 5) 265 12 [(110, 270), (0, (k : Int)), (0, (t : Int))] [] g Q := by
    intro k hk j
    induction j with
    | zero =>
      intro t g h1 h2 h3 hq
      obtain rfl : t = n := by omega
      have := hq g h2 (fun k' t' a b c e => h3 k' t' a b c (by omega))
      have hB := MB_310 h h2
      rw [r265_12]
      simpa (disch := omega) [r265_13, r265_14, r265_17, q209, r209_0, r209_1, r209_4, r209_5, r209_6, cs_nil, cs_cons, lc_lt, lc_ge, lc_gt, lc_le, lc_eq, mfx_u hB.1.1, mb_m hB, ln_301] using this
    | succ j ih =>
      intro t g h1 h2 h3 hq
      have hB := MB_310 h h2
      have c1 : ¬ n ≤ t := by omega
      rw [r265_12]
      simp (disch := omega) [q265, r265_0, r265_1, r265_3, r265_4, r265_7, r265_10, r265_11, r265_13, r265_14, r265_17, r265_20, r265_21, r265_24, r265_26, r265_27, r265_28, r265_29, r265_30, r265_31, r265_32, r265_33, r265_36, r265_39, r265_40, r265_43, r265_44, r265_45, r265_48, r265_51, r265_54, r265_57, r265_58, r265_59, r265_60, r265_62, r265_63, r265_64, r265_67, r265_68, r265_71, r265_72, r265_73, r265_76, r265_77, r265_80, r265_81, r265_84, r265_87, r265_88, r265_89, r265_92, r265_95, r265_96, r265_97, r265_100, r265_103, r265_104, q209, r209_0, r209_1, r209_4, r209_5, r209_6, cs_nil, cs_cons, lc_lt, lc_ge, lc_gt, lc_le, lc_eq, mfx_u hB.1.1, mb_m hB, ln_301, c1, am_wid2]
      refine m_isTrial hB (t := (t : Int)) (k := (k : Int)) (by omega) (by omega) (by omega) (by omega) ?_
      intro g1 hg
      have eP : (if V L ρ z t 0 (5 + (k : Int)) = 0 then (0 : Int) else 1) = b01 (aP L ρ z t k) := by
        unfold b01 aP
        by_cases q : V L ρ z t 0 (5 + (k : Int)) = 0 <;> simp [q]
      have ih' := ih (t + 1) (am_up g1 310 (8 * k + t) (b01 (aP L ρ z t k))) (by omega) (fun c j hc => by rw [am_un (by omega), hg _ _ (by omega), h2 _ _ hc]) (fun k' t' a b c e => by
        by_cases hkt : k' = k ∧ t' = t
        · obtain ⟨rfl, rfl⟩ := hkt; exact am_ue
        · rw [am_un (by omega), hg _ _ (by omega)]; exact h3 k' t' a b c (by omega)) hq
      rw [Int.natCast_add t] at ih'
      by_cases q : V L ρ z t 0 (5 + (k : Int)) = 0
      · rw [if_pos q] at eP
        rw [← eP] at ih'
        simpa (disch := omega) [q265, r265_0, r265_1, r265_3, r265_4, r265_7, r265_10, r265_11, r265_13, r265_14, r265_17, r265_20, r265_21, r265_24, r265_26, r265_27, r265_28, r265_29, r265_30, r265_31, r265_32, r265_33, r265_36, r265_39, r265_40, r265_43, r265_44, r265_45, r265_48, r265_51, r265_54, r265_57, r265_58, r265_59, r265_60, r265_62, r265_63, r265_64, r265_67, r265_68, r265_71, r265_72, r265_73, r265_76, r265_77, r265_80, r265_81, r265_84, r265_87, r265_88, r265_89, r265_92, r265_95, r265_96, r265_97, r265_100, r265_103, r265_104, cs_nil, cs_cons, lc_lt, lc_ge, lc_gt, lc_le, lc_eq, q, ln_310, am_wid2, am_fitE, le_T, lt_T] using ih'
      · rw [if_neg q] at eP
        rw [← eP] at ih'
        simpa (disch := omega) [q265, r265_0, r265_1, r265_3, r265_4, r265_7, r265_10, r265_11, r265_13, r265_14, r265_17, r265_20, r265_21, r265_24, r265_26, r265_27, r265_28, r265_29, r265_30, r265_31, r265_32, r265_33, r265_36, r265_39, r265_40, r265_43, r265_44, r265_45, r265_48, r265_51, r265_54, r265_57, r265_58, r265_59, r265_60, r265_62, r265_63, r265_64, r265_67, r265_68, r265_71, r265_72, r265_73, r265_76, r265_77, r265_80, r265_81, r265_84, r265_87, r265_88, r265_89, r265_92, r265_95, r265_96, r265_97, r265_100, r265_103, r265_104, cs_nil, cs_cons, lc_lt, lc_ge, lc_gt, lc_le, lc_eq, q, ln_310, am_wid2, am_fitE, le_T, lt_T] using ih'
  have outer : ∀ (j k : Nat) (x : am_V) (g : am_F), k + j = r → (∀ c j : Int, ¬ (c = 310 ∨ c = 342 ∨ (c = 270 ∧ (j = 50 ∨ j = 55 ∨ j = 98))) → g c j = f c j) → (∀ k' t' : Int, 0 ≤ k' → 0 ≤ t' → t' < n → k' < k → g 310 (8 * k' + t') = b01 (aP L ρ z t' k')) → aw_wp (d + 5) 265 2 [(110, 270), (0, (k : Int)), x] [] g Q := by
    intro j
    induction j with
    | zero =>
      intro k x g h1 h2 h3
      obtain ⟨tx, vx⟩ := x
      obtain rfl : k = r := by omega
      have := hQ g (tx, vx) (fun k' t' a b c e => h3 k' t' a c e b) h2
      have hB := MB_310 h h2
      rw [r265_2]
      simpa (disch := omega) [r265_3, r265_4, r265_7, q239, r239_0, r239_1, r239_4, r239_5, r239_6, cs_nil, cs_cons, lc_lt, lc_ge, lc_gt, lc_le, lc_eq, mfx_u hB.1.1, mb_m hB, ln_301] using this
    | succ j ih =>
      intro k x g h1 h2 h3
      obtain ⟨tx, vx⟩ := x
      have hB := MB_310 h h2
      have c1 : ¬ r ≤ k := by omega
      have go := inner k (by omega) n 0 g (by omega) h2 (fun k' t' a b c e => h3 k' t' a b c (by omega)) (fun g' w1 w2 => by
        have := ih (k + 1) (0, (n : Int)) g' (by omega) w1 (fun k' t' a b c e => w2 k' t' a b c (by omega))
        rw [Int.natCast_add k] at this
        simpa (disch := omega) [q265, r265_0, r265_1, r265_3, r265_4, r265_7, r265_10, r265_11, r265_13, r265_14, r265_17, r265_20, r265_21, r265_24, r265_26, r265_27, r265_28, r265_29, r265_30, r265_31, r265_32, r265_33, r265_36, r265_39, r265_40, r265_43, r265_44, r265_45, r265_48, r265_51, r265_54, r265_57, r265_58, r265_59, r265_60, r265_62, r265_63, r265_64, r265_67, r265_68, r265_71, r265_72, r265_73, r265_76, r265_77, r265_80, r265_81, r265_84, r265_87, r265_88, r265_89, r265_92, r265_95, r265_96, r265_97, r265_100, r265_103, r265_104, cs_nil, cs_cons, lc_lt, lc_ge, lc_gt, lc_le, lc_eq, am_wid2] using this)
      rw [r265_2]
      simpa (disch := omega) [q265, r265_0, r265_1, r265_3, r265_4, r265_7, r265_10, r265_11, r265_13, r265_14, r265_17, r265_20, r265_21, r265_24, r265_26, r265_27, r265_28, r265_29, r265_30, r265_31, r265_32, r265_33, r265_36, r265_39, r265_40, r265_43, r265_44, r265_45, r265_48, r265_51, r265_54, r265_57, r265_58, r265_59, r265_60, r265_62, r265_63, r265_64, r265_67, r265_68, r265_71, r265_72, r265_73, r265_76, r265_77, r265_80, r265_81, r265_84, r265_87, r265_88, r265_89, r265_92, r265_95, r265_96, r265_97, r265_100, r265_103, r265_104, q239, r239_0, r239_1, r239_4, r239_5, r239_6, cs_nil, cs_cons, lc_lt, lc_ge, lc_gt, lc_le, lc_eq, mfx_u hB.1.1, mb_m hB, ln_301, c1] using go
  have := outer r 0 (2, 0) f (by omega) (fun _ _ _ => rfl) (fun k' t' a b c e => by omega)
  simpa [q265, r265_0, r265_1, r265_3, r265_4, r265_7, r265_10, r265_11, r265_13, r265_14, r265_17, r265_20, r265_21, r265_24, r265_26, r265_27, r265_28, r265_29, r265_30, r265_31, r265_32, r265_33, r265_36, r265_39, r265_40, r265_43, r265_44, r265_45, r265_48, r265_51, r265_54, r265_57, r265_58, r265_59, r265_60, r265_62, r265_63, r265_64, r265_67, r265_68, r265_71, r265_72, r265_73, r265_76, r265_77, r265_80, r265_81, r265_84, r265_87, r265_88, r265_89, r265_92, r265_95, r265_96, r265_97, r265_100, r265_103, r265_104, cs_nil, cs_cons, lc_lt, lc_ge, lc_gt, lc_le, lc_eq] using this
theorem m_isFo (h : MB f n m r L ρ τ z) {t : Int} (h0 : 0 ≤ t) (h1 : t < n) : aw_cl d 222 [(110, 270), (0, t)] f Q = Q (0, if z 5 t = 1 then 1 else 0) f := by
  have hn := h.2.2.1.1
  have e := h.2.1.2.1 5 t (by omega) (by omega) h0 h1
  apply aw_det
  by_cases hp : z 5 t = 1
  · simp (disch := omega) [q222, r222_0, r222_1, r222_4, r222_5, r222_6, r222_7, r222_8, r222_9, r222_10, r222_11, r222_14, r222_15, r222_18, r222_19, cs_nil, cs_cons, lc_lt, lc_ge, lc_gt, lc_le, lc_eq, mfx_u h.1.1, ln_308, am_wid2, le_T, lt_T, e, hp]
  · simp (disch := omega) [q222, r222_0, r222_1, r222_4, r222_5, r222_6, r222_7, r222_8, r222_9, r222_10, r222_11, r222_14, r222_15, r222_18, r222_19, cs_nil, cs_cons, lc_lt, lc_ge, lc_gt, lc_le, lc_eq, mfx_u h.1.1, ln_308, am_wid2, le_T, lt_T, e, hp]
theorem m_doPart {s : Nat} (h : MB f n m r L ρ τ z) (hA : AT f n r L ρ z) (hs : s < 32) : aw_cl (d + 1) 266 [(110, 270), (0, (s : Int))] f Q = Q (0, if pts L ρ z n r s = true then 1 else 0) f := by
  suffices key : ∀ Q : am_V → am_F → Prop, Q (0, if pts L ρ z n r s = true then 1 else 0) f → aw_cl (d + 1) 266 [(110, 270), (0, (s : Int))] f Q by exact aw_det (key _ ⟨rfl, rfl⟩)
  intro Q hQ
  have hn := h.2.2.1.1
  have hr := h.2.2.1.2.2.1
  have hm := h.1.1
  have hfo := fun (dd : Nat) (QQ : am_V → am_F → Prop) (t : Int) (h0 : 0 ≤ t) (h1 : t < n) => m_isFo (d := dd) (Q := QQ) h h0 h1
  have kl : ∀ (a b : Nat), a < n → b < n → ∀ (j k : Nat), k + j = r → aw_wp (d + 1) 266 118 [(110, 270), (0, (s : Int)), (0, (a : Int)), (0, (b : Int)), (0, b01 (orl L ρ z s a b r)), (0, (r : Int))] [] f Q → aw_wp (d + 1) 266 54 [(110, 270), (0, (s : Int)), (0, (a : Int)), (0, (b : Int)), (0, b01 (orl L ρ z s a b k)), (0, (k : Int))] [] f Q := by
    intro a b ha hb j
    induction j with
    | zero =>
      intro k hk hq
      obtain rfl : k = r := by omega
      rw [r266_54]
      simpa (disch := omega) [r266_56, r266_57, r266_60, q239, r239_0, r239_1, r239_4, r239_5, r239_6, cs_nil, cs_cons, lc_lt, lc_ge, lc_gt, lc_le, lc_eq, mfx_u hm, mb_m h, ln_301] using hq
    | succ j ih =>
      intro k hk hq
      have ih' := ih (k + 1) (by omega) hq
      have c1 : ¬ r ≤ k := by omega
      rw [Int.natCast_add k] at ih'
      have eo : orl L ρ z s a b (k + 1) = (orl L ρ z s a b k || (s.testBit k && !(aP L ρ z a (k : Int) == aP L ρ z b (k : Int)))) := rfl
      rw [eo] at ih'
      have bt := bit_n (a := s) (t := k) (by omega) (by omega)
      have va := hA k a (by omega) (by omega) (by omega) (by omega)
      have vb := hA k b (by omega) (by omega) (by omega) (by omega)
      rw [r266_54]
      by_cases h1 : orl L ρ z s a b k = true
      · rw [h1] at ih' ⊢
        simp only [Bool.true_or] at ih'
        have eb : b01 true = 1 := rfl
        rw [eb] at ih' ⊢
        simpa (disch := omega) [q266, r266_0, r266_1, r266_3, r266_4, r266_7, r266_10, r266_11, r266_13, r266_14, r266_17, r266_20, r266_21, r266_22, r266_25, r266_28, r266_29, r266_30, r266_33, r266_34, r266_37, r266_38, r266_39, r266_42, r266_45, r266_48, r266_49, r266_51, r266_52, r266_56, r266_57, r266_60, r266_63, r266_65, r266_68, r266_69, r266_71, r266_72, r266_73, r266_74, r266_75, r266_78, r266_79, r266_82, r266_84, r266_86, r266_87, r266_88, r266_89, r266_90, r266_91, r266_94, r266_96, r266_98, r266_99, r266_100, r266_101, r266_102, r266_105, r266_106, r266_109, r266_110, r266_112, r266_115, r266_118, r266_120, r266_123, r266_124, r266_125, r266_128, r266_131, r266_134, r266_137, r266_138, q239, r239_0, r239_1, r239_4, r239_5, r239_6, cs_nil, cs_cons, lc_lt, lc_ge, lc_gt, lc_le, lc_eq, mfx_u hm, mb_m h, ln_301, c1, am_wid2] using ih'
      · rw [Bool.eq_false_iff.mpr h1] at ih' ⊢
        simp only [Bool.false_or] at ih'
        have eb : b01 false = 0 := rfl
        rw [eb]
        by_cases h2 : s.testBit k = true
        · rw [if_pos h2] at bt
          rw [h2, Bool.true_and] at ih'
          by_cases h3 : aP L ρ z a (k : Int) = aP L ρ z b (k : Int)
          · rw [h3] at ih' va
            simp only [BEq.rfl, Bool.not_true] at ih'
            rw [eb] at ih'
            simpa (disch := omega) [q266, r266_0, r266_1, r266_3, r266_4, r266_7, r266_10, r266_11, r266_13, r266_14, r266_17, r266_20, r266_21, r266_22, r266_25, r266_28, r266_29, r266_30, r266_33, r266_34, r266_37, r266_38, r266_39, r266_42, r266_45, r266_48, r266_49, r266_51, r266_52, r266_56, r266_57, r266_60, r266_63, r266_65, r266_68, r266_69, r266_71, r266_72, r266_73, r266_74, r266_75, r266_78, r266_79, r266_82, r266_84, r266_86, r266_87, r266_88, r266_89, r266_90, r266_91, r266_94, r266_96, r266_98, r266_99, r266_100, r266_101, r266_102, r266_105, r266_106, r266_109, r266_110, r266_112, r266_115, r266_118, r266_120, r266_123, r266_124, r266_125, r266_128, r266_131, r266_134, r266_137, r266_138, q239, r239_0, r239_1, r239_4, r239_5, r239_6, cs_nil, cs_cons, lc_lt, lc_ge, lc_gt, lc_le, lc_eq, mfx_u hm, mb_m h, ln_301, ln_310, c1, bt, va, vb, am_wid2, le_T, lt_T] using ih'
          · have h4 : (aP L ρ z a (k : Int) == aP L ρ z b (k : Int)) = false := by simp [h3]
            rw [h4] at ih'
            have h5 : ¬ b01 (aP L ρ z a (k : Int)) = b01 (aP L ρ z b (k : Int)) := by
              unfold b01
              revert h3
              cases aP L ρ z a (k : Int) <;> cases aP L ρ z b (k : Int) <;> simp
            have eb1 : b01 (!false) = 1 := rfl
            rw [eb1] at ih'
            simpa (disch := omega) [q266, r266_0, r266_1, r266_3, r266_4, r266_7, r266_10, r266_11, r266_13, r266_14, r266_17, r266_20, r266_21, r266_22, r266_25, r266_28, r266_29, r266_30, r266_33, r266_34, r266_37, r266_38, r266_39, r266_42, r266_45, r266_48, r266_49, r266_51, r266_52, r266_56, r266_57, r266_60, r266_63, r266_65, r266_68, r266_69, r266_71, r266_72, r266_73, r266_74, r266_75, r266_78, r266_79, r266_82, r266_84, r266_86, r266_87, r266_88, r266_89, r266_90, r266_91, r266_94, r266_96, r266_98, r266_99, r266_100, r266_101, r266_102, r266_105, r266_106, r266_109, r266_110, r266_112, r266_115, r266_118, r266_120, r266_123, r266_124, r266_125, r266_128, r266_131, r266_134, r266_137, r266_138, q239, r239_0, r239_1, r239_4, r239_5, r239_6, cs_nil, cs_cons, lc_lt, lc_ge, lc_gt, lc_le, lc_eq, mfx_u hm, mb_m h, ln_301, ln_310, c1, bt, va, vb, h5, am_wid2, le_T, lt_T] using ih'
        · rw [if_neg h2] at bt
          rw [Bool.eq_false_iff.mpr h2, Bool.false_and, eb] at ih'
          simpa (disch := omega) [q266, r266_0, r266_1, r266_3, r266_4, r266_7, r266_10, r266_11, r266_13, r266_14, r266_17, r266_20, r266_21, r266_22, r266_25, r266_28, r266_29, r266_30, r266_33, r266_34, r266_37, r266_38, r266_39, r266_42, r266_45, r266_48, r266_49, r266_51, r266_52, r266_56, r266_57, r266_60, r266_63, r266_65, r266_68, r266_69, r266_71, r266_72, r266_73, r266_74, r266_75, r266_78, r266_79, r266_82, r266_84, r266_86, r266_87, r266_88, r266_89, r266_90, r266_91, r266_94, r266_96, r266_98, r266_99, r266_100, r266_101, r266_102, r266_105, r266_106, r266_109, r266_110, r266_112, r266_115, r266_118, r266_120, r266_123, r266_124, r266_125, r266_128, r266_131, r266_134, r266_137, r266_138, q239, r239_0, r239_1, r239_4, r239_5, r239_6, cs_nil, cs_cons, lc_lt, lc_ge, lc_gt, lc_le, lc_eq, mfx_u hm, mb_m h, ln_301, c1, bt, am_wid2] using ih'
  have inner : ∀ (a : Nat), a < n → ∀ (j b : Nat) (x y : am_V), b + j = n → (ag (fun b => prs L ρ z r s a b) j b = true → ∀ x y, aw_wp (d + 1) 266 131 [(110, 270), (0, (s : Int)), (0, (a : Int)), (0, (n : Int)), x, y] [] f Q) → (ag (fun b => prs L ρ z r s a b) j b = false → Q (0, 0) f) → aw_wp (d + 1) 266 12 [(110, 270), (0, (s : Int)), (0, (a : Int)), (0, (b : Int)), x, y] [] f Q := by
    intro a ha j
    induction j with
    | zero =>
      intro b x y hb h1 h2
      obtain ⟨tx, vx⟩ := x
      obtain ⟨ty, vy⟩ := y
      obtain rfl : b = n := by omega
      have := h1 rfl (tx, vx) (ty, vy)
      rw [r266_12]
      simpa (disch := omega) [r266_13, r266_14, r266_17, q209, r209_0, r209_1, r209_4, r209_5, r209_6, cs_nil, cs_cons, lc_lt, lc_ge, lc_gt, lc_le, lc_eq, mfx_u hm, mb_m h, ln_301] using this
    | succ j ih =>
      intro b x y hb h1 h2
      obtain ⟨tx, vx⟩ := x
      obtain ⟨ty, vy⟩ := y
      have c1 : ¬ n ≤ b := by omega
      have e1 : ∀ j, j = 1 + 5 * (b : Int) → f 308 j = z 1 b := fun j hj => by rw [hj]; exact h.2.1.2.1 1 b (by omega) (by omega) (by omega) (by omega)
      have eag : ag (fun b => prs L ρ z r s a b) (j + 1) b = if prs L ρ z r s a b = true then ag (fun b => prs L ρ z r s a b) j ((b : Int) + 1) else false := rfl
      rw [eag] at h1 h2
      have fa := fun (dd : Nat) (QQ : am_V → am_F → Prop) => hfo dd QQ a (by omega) (by omega)
      have fb := fun (dd : Nat) (QQ : am_V → am_F → Prop) => hfo dd QQ b (by omega) (by omega)
      rw [r266_12]
      by_cases ca : z 5 (a : Int) = 1
      · by_cases cb : z 1 (b : Int) = 2
        · by_cases cc : z 5 (b : Int) = 1
          · have hp : prs L ρ z r s a b = true := by unfold prs; simp [cc]
            rw [if_pos hp] at h1 h2
            have := ih (b + 1) (tx, vx) (ty, vy) (by omega) h1 h2
            rw [Int.natCast_add b] at this
            simpa (disch := omega) [q266, r266_0, r266_1, r266_3, r266_4, r266_7, r266_10, r266_11, r266_13, r266_14, r266_17, r266_20, r266_21, r266_22, r266_25, r266_28, r266_29, r266_30, r266_33, r266_34, r266_37, r266_38, r266_39, r266_42, r266_45, r266_48, r266_49, r266_51, r266_52, r266_56, r266_57, r266_60, r266_63, r266_65, r266_68, r266_69, r266_71, r266_72, r266_73, r266_74, r266_75, r266_78, r266_79, r266_82, r266_84, r266_86, r266_87, r266_88, r266_89, r266_90, r266_91, r266_94, r266_96, r266_98, r266_99, r266_100, r266_101, r266_102, r266_105, r266_106, r266_109, r266_110, r266_112, r266_115, r266_118, r266_120, r266_123, r266_124, r266_125, r266_128, r266_131, r266_134, r266_137, r266_138, q209, r209_0, r209_1, r209_4, r209_5, r209_6, q210, r210_0, r210_1, r210_4, r210_5, r210_6, r210_7, r210_8, r210_9, r210_10, cs_nil, cs_cons, lc_lt, lc_ge, lc_gt, lc_le, lc_eq, mfx_u hm, mb_m h, ln_301, ln_308, e1, c1, fa, fb, ca, cb, cc, am_wid2, le_T, lt_T] using this
          · have go := kl a b ha (by omega) r 0 (by omega)
            have e0 : b01 (orl L ρ z s a b 0) = 0 := rfl
            rw [e0, orl_dfs] at go
            by_cases hd : dfs L ρ z r s a b = true
            · have hp : prs L ρ z r s a b = true := by unfold prs; simp [hd]
              rw [if_pos hp] at h1 h2
              have := ih (b + 1) (0, 1) (0, (r : Int)) (by omega) h1 h2
              rw [Int.natCast_add b] at this
              rw [hd] at go
              have g2 := go (by
                have eb1 : b01 true = 1 := rfl
                rw [eb1]
                simpa (disch := omega) [q266, r266_0, r266_1, r266_3, r266_4, r266_7, r266_10, r266_11, r266_13, r266_14, r266_17, r266_20, r266_21, r266_22, r266_25, r266_28, r266_29, r266_30, r266_33, r266_34, r266_37, r266_38, r266_39, r266_42, r266_45, r266_48, r266_49, r266_51, r266_52, r266_56, r266_57, r266_60, r266_63, r266_65, r266_68, r266_69, r266_71, r266_72, r266_73, r266_74, r266_75, r266_78, r266_79, r266_82, r266_84, r266_86, r266_87, r266_88, r266_89, r266_90, r266_91, r266_94, r266_96, r266_98, r266_99, r266_100, r266_101, r266_102, r266_105, r266_106, r266_109, r266_110, r266_112, r266_115, r266_118, r266_120, r266_123, r266_124, r266_125, r266_128, r266_131, r266_134, r266_137, r266_138, cs_nil, cs_cons, lc_lt, lc_ge, lc_gt, lc_le, lc_eq, am_wid2] using this)
              simpa (disch := omega) [q266, r266_0, r266_1, r266_3, r266_4, r266_7, r266_10, r266_11, r266_13, r266_14, r266_17, r266_20, r266_21, r266_22, r266_25, r266_28, r266_29, r266_30, r266_33, r266_34, r266_37, r266_38, r266_39, r266_42, r266_45, r266_48, r266_49, r266_51, r266_52, r266_56, r266_57, r266_60, r266_63, r266_65, r266_68, r266_69, r266_71, r266_72, r266_73, r266_74, r266_75, r266_78, r266_79, r266_82, r266_84, r266_86, r266_87, r266_88, r266_89, r266_90, r266_91, r266_94, r266_96, r266_98, r266_99, r266_100, r266_101, r266_102, r266_105, r266_106, r266_109, r266_110, r266_112, r266_115, r266_118, r266_120, r266_123, r266_124, r266_125, r266_128, r266_131, r266_134, r266_137, r266_138, q209, r209_0, r209_1, r209_4, r209_5, r209_6, q210, r210_0, r210_1, r210_4, r210_5, r210_6, r210_7, r210_8, r210_9, r210_10, cs_nil, cs_cons, lc_lt, lc_ge, lc_gt, lc_le, lc_eq, mfx_u hm, mb_m h, ln_301, ln_308, e1, c1, fa, fb, ca, cb, cc, am_wid2, le_T, lt_T] using g2
            · have hp : prs L ρ z r s a b = false := by unfold prs; rw [Bool.eq_false_iff.mpr hd]; simp [ca, cb, cc]
              rw [hp] at h2
              have := h2 rfl
              rw [Bool.eq_false_iff.mpr hd] at go
              have g2 := go (by
                have eb1 : b01 false = 0 := rfl
                rw [eb1]
                simpa (disch := omega) [q266, r266_0, r266_1, r266_3, r266_4, r266_7, r266_10, r266_11, r266_13, r266_14, r266_17, r266_20, r266_21, r266_22, r266_25, r266_28, r266_29, r266_30, r266_33, r266_34, r266_37, r266_38, r266_39, r266_42, r266_45, r266_48, r266_49, r266_51, r266_52, r266_56, r266_57, r266_60, r266_63, r266_65, r266_68, r266_69, r266_71, r266_72, r266_73, r266_74, r266_75, r266_78, r266_79, r266_82, r266_84, r266_86, r266_87, r266_88, r266_89, r266_90, r266_91, r266_94, r266_96, r266_98, r266_99, r266_100, r266_101, r266_102, r266_105, r266_106, r266_109, r266_110, r266_112, r266_115, r266_118, r266_120, r266_123, r266_124, r266_125, r266_128, r266_131, r266_134, r266_137, r266_138, cs_nil, cs_cons, lc_lt, lc_ge, lc_gt, lc_le, lc_eq] using this)
              simpa (disch := omega) [q266, r266_0, r266_1, r266_3, r266_4, r266_7, r266_10, r266_11, r266_13, r266_14, r266_17, r266_20, r266_21, r266_22, r266_25, r266_28, r266_29, r266_30, r266_33, r266_34, r266_37, r266_38, r266_39, r266_42, r266_45, r266_48, r266_49, r266_51, r266_52, r266_56, r266_57, r266_60, r266_63, r266_65, r266_68, r266_69, r266_71, r266_72, r266_73, r266_74, r266_75, r266_78, r266_79, r266_82, r266_84, r266_86, r266_87, r266_88, r266_89, r266_90, r266_91, r266_94, r266_96, r266_98, r266_99, r266_100, r266_101, r266_102, r266_105, r266_106, r266_109, r266_110, r266_112, r266_115, r266_118, r266_120, r266_123, r266_124, r266_125, r266_128, r266_131, r266_134, r266_137, r266_138, q209, r209_0, r209_1, r209_4, r209_5, r209_6, q210, r210_0, r210_1, r210_4, r210_5, r210_6, r210_7, r210_8, r210_9, r210_10, cs_nil, cs_cons, lc_lt, lc_ge, lc_gt, lc_le, lc_eq, mfx_u hm, mb_m h, ln_301, ln_308, e1, c1, fa, fb, ca, cb, cc, am_wid2, le_T, lt_T] using g2
        · have hp : prs L ρ z r s a b = true := by unfold prs; simp [cb]
          rw [if_pos hp] at h1 h2
          have := ih (b + 1) (tx, vx) (ty, vy) (by omega) h1 h2
          rw [Int.natCast_add b] at this
          simpa (disch := omega) [q266, r266_0, r266_1, r266_3, r266_4, r266_7, r266_10, r266_11, r266_13, r266_14, r266_17, r266_20, r266_21, r266_22, r266_25, r266_28, r266_29, r266_30, r266_33, r266_34, r266_37, r266_38, r266_39, r266_42, r266_45, r266_48, r266_49, r266_51, r266_52, r266_56, r266_57, r266_60, r266_63, r266_65, r266_68, r266_69, r266_71, r266_72, r266_73, r266_74, r266_75, r266_78, r266_79, r266_82, r266_84, r266_86, r266_87, r266_88, r266_89, r266_90, r266_91, r266_94, r266_96, r266_98, r266_99, r266_100, r266_101, r266_102, r266_105, r266_106, r266_109, r266_110, r266_112, r266_115, r266_118, r266_120, r266_123, r266_124, r266_125, r266_128, r266_131, r266_134, r266_137, r266_138, q209, r209_0, r209_1, r209_4, r209_5, r209_6, q210, r210_0, r210_1, r210_4, r210_5, r210_6, r210_7, r210_8, r210_9, r210_10, cs_nil, cs_cons, lc_lt, lc_ge, lc_gt, lc_le, lc_eq, mfx_u hm, mb_m h, ln_301, ln_308, e1, c1, fa, ca, cb, am_wid2, le_T, lt_T] using this
      · have hp : prs L ρ z r s a b = true := by unfold prs; simp [ca]
        rw [if_pos hp] at h1 h2
        have := ih (b + 1) (tx, vx) (ty, vy) (by omega) h1 h2
        rw [Int.natCast_add b] at this
        simpa (disch := omega) [q266, r266_0, r266_1, r266_3, r266_4, r266_7, r266_10, r266_11, r266_13, r266_14, r266_17, r266_20, r266_21, r266_22, r266_25, r266_28, r266_29, r266_30, r266_33, r266_34, r266_37, r266_38, r266_39, r266_42, r266_45, r266_48, r266_49, r266_51, r266_52, r266_56, r266_57, r266_60, r266_63, r266_65, r266_68, r266_69, r266_71, r266_72, r266_73, r266_74, r266_75, r266_78, r266_79, r266_82, r266_84, r266_86, r266_87, r266_88, r266_89, r266_90, r266_91, r266_94, r266_96, r266_98, r266_99, r266_100, r266_101, r266_102, r266_105, r266_106, r266_109, r266_110, r266_112, r266_115, r266_118, r266_120, r266_123, r266_124, r266_125, r266_128, r266_131, r266_134, r266_137, r266_138, q209, r209_0, r209_1, r209_4, r209_5, r209_6, cs_nil, cs_cons, lc_lt, lc_ge, lc_gt, lc_le, lc_eq, mfx_u hm, mb_m h, ln_301, c1, fa, ca, am_wid2] using this
  have outer : ∀ (j a : Nat) (w x y : am_V), a + j = n → Q (0, if ag (fun a => ag (fun b => prs L ρ z r s a b) n 0) j a = true then 1 else 0) f → aw_wp (d + 1) 266 2 [(110, 270), (0, (s : Int)), (0, (a : Int)), w, x, y] [] f Q := by
    intro j
    induction j with
    | zero =>
      intro a w x y ha hq
      obtain ⟨tw, vw⟩ := w
      obtain ⟨tx, vx⟩ := x
      obtain ⟨ty, vy⟩ := y
      obtain rfl : a = n := by omega
      rw [r266_2]
      simpa (disch := omega) [q266, r266_0, r266_1, r266_3, r266_4, r266_7, r266_10, r266_11, r266_13, r266_14, r266_17, r266_20, r266_21, r266_22, r266_25, r266_28, r266_29, r266_30, r266_33, r266_34, r266_37, r266_38, r266_39, r266_42, r266_45, r266_48, r266_49, r266_51, r266_52, r266_56, r266_57, r266_60, r266_63, r266_65, r266_68, r266_69, r266_71, r266_72, r266_73, r266_74, r266_75, r266_78, r266_79, r266_82, r266_84, r266_86, r266_87, r266_88, r266_89, r266_90, r266_91, r266_94, r266_96, r266_98, r266_99, r266_100, r266_101, r266_102, r266_105, r266_106, r266_109, r266_110, r266_112, r266_115, r266_118, r266_120, r266_123, r266_124, r266_125, r266_128, r266_131, r266_134, r266_137, r266_138, q209, r209_0, r209_1, r209_4, r209_5, r209_6, cs_nil, cs_cons, lc_lt, lc_ge, lc_gt, lc_le, lc_eq, mfx_u hm, mb_m h, ln_301, ag] using hq
    | succ j ih =>
      intro a w x y ha hq
      obtain ⟨tw, vw⟩ := w
      obtain ⟨tx, vx⟩ := x
      obtain ⟨ty, vy⟩ := y
      have c1 : ¬ n ≤ a := by omega
      have eag : ag (fun a => ag (fun b => prs L ρ z r s a b) n 0) (j + 1) a = if ag (fun b => prs L ρ z r s a b) n 0 = true then ag (fun a => ag (fun b => prs L ρ z r s a b) n 0) j ((a : Int) + 1) else false := rfl
      rw [eag] at hq
      have go := inner a (by omega) n 0 (tx, vx) (ty, vy) (by omega) (fun q => by
        have q : ag (fun b => prs L ρ z r s a b) n 0 = true := q
        rw [if_pos q] at hq
        intro x y
        have := ih (a + 1) (0, (n : Int)) x y (by omega) hq
        obtain ⟨tx, vx⟩ := x
        obtain ⟨ty, vy⟩ := y
        rw [Int.natCast_add a] at this
        simpa (disch := omega) [q266, r266_0, r266_1, r266_3, r266_4, r266_7, r266_10, r266_11, r266_13, r266_14, r266_17, r266_20, r266_21, r266_22, r266_25, r266_28, r266_29, r266_30, r266_33, r266_34, r266_37, r266_38, r266_39, r266_42, r266_45, r266_48, r266_49, r266_51, r266_52, r266_56, r266_57, r266_60, r266_63, r266_65, r266_68, r266_69, r266_71, r266_72, r266_73, r266_74, r266_75, r266_78, r266_79, r266_82, r266_84, r266_86, r266_87, r266_88, r266_89, r266_90, r266_91, r266_94, r266_96, r266_98, r266_99, r266_100, r266_101, r266_102, r266_105, r266_106, r266_109, r266_110, r266_112, r266_115, r266_118, r266_120, r266_123, r266_124, r266_125, r266_128, r266_131, r266_134, r266_137, r266_138, cs_nil, cs_cons, lc_lt, lc_ge, lc_gt, lc_le, lc_eq, am_wid2] using this) (fun q => by
        have q : ag (fun b => prs L ρ z r s a b) n 0 = false := q
        rw [q] at hq
        simpa using hq)
      rw [r266_2]
      simpa (disch := omega) [q266, r266_0, r266_1, r266_3, r266_4, r266_7, r266_10, r266_11, r266_13, r266_14, r266_17, r266_20, r266_21, r266_22, r266_25, r266_28, r266_29, r266_30, r266_33, r266_34, r266_37, r266_38, r266_39, r266_42, r266_45, r266_48, r266_49, r266_51, r266_52, r266_56, r266_57, r266_60, r266_63, r266_65, r266_68, r266_69, r266_71, r266_72, r266_73, r266_74, r266_75, r266_78, r266_79, r266_82, r266_84, r266_86, r266_87, r266_88, r266_89, r266_90, r266_91, r266_94, r266_96, r266_98, r266_99, r266_100, r266_101, r266_102, r266_105, r266_106, r266_109, r266_110, r266_112, r266_115, r266_118, r266_120, r266_123, r266_124, r266_125, r266_128, r266_131, r266_134, r266_137, r266_138, q209, r209_0, r209_1, r209_4, r209_5, r209_6, cs_nil, cs_cons, lc_lt, lc_ge, lc_gt, lc_le, lc_eq, mfx_u hm, mb_m h, ln_301, c1] using go
  have fin := outer n 0 (2, 0) (2, 0) (2, 0) (by omega) hQ
  simpa (disch := omega) [q266, r266_0, r266_1, r266_3, r266_4, r266_7, r266_10, r266_11, r266_13, r266_14, r266_17, r266_20, r266_21, r266_22, r266_25, r266_28, r266_29, r266_30, r266_33, r266_34, r266_37, r266_38, r266_39, r266_42, r266_45, r266_48, r266_49, r266_51, r266_52, r266_56, r266_57, r266_60, r266_63, r266_65, r266_68, r266_69, r266_71, r266_72, r266_73, r266_74, r266_75, r266_78, r266_79, r266_82, r266_84, r266_86, r266_87, r266_88, r266_89, r266_90, r266_91, r266_94, r266_96, r266_98, r266_99, r266_100, r266_101, r266_102, r266_105, r266_106, r266_109, r266_110, r266_112, r266_115, r266_118, r266_120, r266_123, r266_124, r266_125, r266_128, r266_131, r266_134, r266_137, r266_138, cs_nil, cs_cons, lc_lt, lc_ge, lc_gt, lc_le, lc_eq] using fin
theorem m_parts (h : MB f n m r L ρ τ z) (hQ : ∀ g, (∀ c j : Int, ¬ (c = 310 ∨ c = 342 ∨ (c = 270 ∧ (j = 50 ∨ j = 55 ∨ j = 98))) → g c j = f c j) → Q (0, fws (pts L ρ z n r) (2 ^ r) 0 (-1)) g) : aw_cl (d + 5) 265 [(110, 270)] f Q := by
  have hr := h.2.2.1.2.2.1
  have h32 : 2 ^ r ≤ 2 ^ 5 := Nat.pow_le_pow_right (by omega) hr
  refine m_partsA h ?_
  intro g x hA h3
  obtain ⟨tx, vx⟩ := x
  have hB := MB_310 h h3
  have hm := hB.1.1
  have esh := shl_n (t := r) (by omega)
  have key : ∀ (j s : Nat) (b : Int), s + j = 2 ^ r → (b = -1 ∨ (0 ≤ b ∧ b < s)) → Q (0, fws (pts L ρ z n r) j s b) g → aw_wp (d + 5) 265 61 [(110, 270), (0, b), (0, (s : Int))] [] g Q := by
    intro j
    induction j with
    | zero =>
      intro s b h1 hb hq
      have c1 : ((2 ^ r : Nat) : Int) ≤ s := by omega
      generalize ((2 ^ r : Nat) : Int) = W at esh c1
      rw [r265_61]
      simpa (disch := omega) [q265, r265_0, r265_1, r265_3, r265_4, r265_7, r265_10, r265_11, r265_13, r265_14, r265_17, r265_20, r265_21, r265_24, r265_26, r265_27, r265_28, r265_29, r265_30, r265_31, r265_32, r265_33, r265_36, r265_39, r265_40, r265_43, r265_44, r265_45, r265_48, r265_51, r265_54, r265_57, r265_58, r265_59, r265_60, r265_62, r265_63, r265_64, r265_67, r265_68, r265_71, r265_72, r265_73, r265_76, r265_77, r265_80, r265_81, r265_84, r265_87, r265_88, r265_89, r265_92, r265_95, r265_96, r265_97, r265_100, r265_103, r265_104, q239, r239_0, r239_1, r239_4, r239_5, r239_6, cs_nil, cs_cons, lc_lt, lc_ge, lc_gt, lc_le, lc_eq, mfx_u hm, mb_m hB, ln_301, esh, c1, fws] using hq
    | succ j ih =>
      intro s b h1 hb hq
      have c1 : ¬ ((2 ^ r : Nat) : Int) ≤ s := by omega
      have hpf := fun (dd : Nat) (QQ : am_V → am_F → Prop) => m_doPart (d := dd) (Q := QQ) (s := s) hB hA (by omega)
      have cs := fun (dd : Nat) (QQ : am_V → am_F → Prop) => m_bits (d := dd) (f := g) (Q := QQ) (s := s) (by omega)
      have efw : fws (pts L ρ z n r) (j + 1) s b = fws (pts L ρ z n r) j (s + 1) (if pts L ρ z n r s = true ∧ (b = -1 ∨ pop s < pop b.toNat) then (s : Int) else b) := rfl
      rw [efw] at hq
      have step : ∀ b', b' = (if pts L ρ z n r s = true ∧ (b = -1 ∨ pop s < pop b.toNat) then (s : Int) else b) → aw_wp (d + 5) 265 61 [(110, 270), (0, b'), (0, (s : Int) + 1)] [] g Q := by
        intro b' hb'
        have := ih (s + 1) b' (by omega) (by rw [hb']; split <;> omega) (by rw [hb']; exact hq)
        rw [Int.natCast_add s] at this
        exact this
      generalize ((2 ^ r : Nat) : Int) = W at esh c1
      rw [r265_61]
      by_cases hb1 : b = -1
      · by_cases hp : pts L ρ z n r s = true
        · have := step s (by rw [if_pos ⟨hp, Or.inl hb1⟩])
          simpa (disch := omega) [q265, r265_0, r265_1, r265_3, r265_4, r265_7, r265_10, r265_11, r265_13, r265_14, r265_17, r265_20, r265_21, r265_24, r265_26, r265_27, r265_28, r265_29, r265_30, r265_31, r265_32, r265_33, r265_36, r265_39, r265_40, r265_43, r265_44, r265_45, r265_48, r265_51, r265_54, r265_57, r265_58, r265_59, r265_60, r265_62, r265_63, r265_64, r265_67, r265_68, r265_71, r265_72, r265_73, r265_76, r265_77, r265_80, r265_81, r265_84, r265_87, r265_88, r265_89, r265_92, r265_95, r265_96, r265_97, r265_100, r265_103, r265_104, q239, r239_0, r239_1, r239_4, r239_5, r239_6, cs_nil, cs_cons, lc_lt, lc_ge, lc_gt, lc_le, lc_eq, mfx_u hm, mb_m hB, ln_301, esh, c1, hpf, hp, hb1, am_wid2] using this
        · have := step b (by rw [if_neg (fun q => hp q.1)])
          rw [hb1] at this
          simpa (disch := omega) [q265, r265_0, r265_1, r265_3, r265_4, r265_7, r265_10, r265_11, r265_13, r265_14, r265_17, r265_20, r265_21, r265_24, r265_26, r265_27, r265_28, r265_29, r265_30, r265_31, r265_32, r265_33, r265_36, r265_39, r265_40, r265_43, r265_44, r265_45, r265_48, r265_51, r265_54, r265_57, r265_58, r265_59, r265_60, r265_62, r265_63, r265_64, r265_67, r265_68, r265_71, r265_72, r265_73, r265_76, r265_77, r265_80, r265_81, r265_84, r265_87, r265_88, r265_89, r265_92, r265_95, r265_96, r265_97, r265_100, r265_103, r265_104, q239, r239_0, r239_1, r239_4, r239_5, r239_6, cs_nil, cs_cons, lc_lt, lc_ge, lc_gt, lc_le, lc_eq, mfx_u hm, mb_m hB, ln_301, esh, c1, hpf, hp, hb1, am_wid2] using this
      · obtain ⟨b', rfl⟩ : ∃ b' : Nat, b = b' := ⟨b.toNat, by omega⟩
        have cb := fun (dd : Nat) (QQ : am_V → am_F → Prop) => m_bits (d := dd) (f := g) (Q := QQ) (s := b') (by omega)
        have hb1' : ¬ (b' : Int) = -1 := by omega
        by_cases hlt : pop s < pop b'
        · have hlt' : (pop s : Int) < pop b' := by omega
          by_cases hp : pts L ρ z n r s = true
          · have := step s (by rw [if_pos ⟨hp, Or.inr (by rw [Int.toNat_natCast]; exact hlt)⟩])
            simpa (disch := omega) [q265, r265_0, r265_1, r265_3, r265_4, r265_7, r265_10, r265_11, r265_13, r265_14, r265_17, r265_20, r265_21, r265_24, r265_26, r265_27, r265_28, r265_29, r265_30, r265_31, r265_32, r265_33, r265_36, r265_39, r265_40, r265_43, r265_44, r265_45, r265_48, r265_51, r265_54, r265_57, r265_58, r265_59, r265_60, r265_62, r265_63, r265_64, r265_67, r265_68, r265_71, r265_72, r265_73, r265_76, r265_77, r265_80, r265_81, r265_84, r265_87, r265_88, r265_89, r265_92, r265_95, r265_96, r265_97, r265_100, r265_103, r265_104, q239, r239_0, r239_1, r239_4, r239_5, r239_6, cs_nil, cs_cons, lc_lt, lc_ge, lc_gt, lc_le, lc_eq, mfx_u hm, mb_m hB, ln_301, esh, c1, hpf, hp, hb1', cs, cb, am_wid2, le_T, lt_T, le_F, lt_F] using this
          · have := step b' (by rw [if_neg (fun q => hp q.1)])
            simpa (disch := omega) [q265, r265_0, r265_1, r265_3, r265_4, r265_7, r265_10, r265_11, r265_13, r265_14, r265_17, r265_20, r265_21, r265_24, r265_26, r265_27, r265_28, r265_29, r265_30, r265_31, r265_32, r265_33, r265_36, r265_39, r265_40, r265_43, r265_44, r265_45, r265_48, r265_51, r265_54, r265_57, r265_58, r265_59, r265_60, r265_62, r265_63, r265_64, r265_67, r265_68, r265_71, r265_72, r265_73, r265_76, r265_77, r265_80, r265_81, r265_84, r265_87, r265_88, r265_89, r265_92, r265_95, r265_96, r265_97, r265_100, r265_103, r265_104, q239, r239_0, r239_1, r239_4, r239_5, r239_6, cs_nil, cs_cons, lc_lt, lc_ge, lc_gt, lc_le, lc_eq, mfx_u hm, mb_m hB, ln_301, esh, c1, hpf, hp, hb1', cs, cb, am_wid2, le_T, lt_T, le_F, lt_F] using this
        · have := step b' (by rw [if_neg (fun q => q.2.elim hb1' (fun q => hlt (by rwa [Int.toNat_natCast] at q)))])
          have hlt' : ¬ (pop s : Int) < pop b' := by omega
          simpa (disch := omega) [q265, r265_0, r265_1, r265_3, r265_4, r265_7, r265_10, r265_11, r265_13, r265_14, r265_17, r265_20, r265_21, r265_24, r265_26, r265_27, r265_28, r265_29, r265_30, r265_31, r265_32, r265_33, r265_36, r265_39, r265_40, r265_43, r265_44, r265_45, r265_48, r265_51, r265_54, r265_57, r265_58, r265_59, r265_60, r265_62, r265_63, r265_64, r265_67, r265_68, r265_71, r265_72, r265_73, r265_76, r265_77, r265_80, r265_81, r265_84, r265_87, r265_88, r265_89, r265_92, r265_95, r265_96, r265_97, r265_100, r265_103, r265_104, q239, r239_0, r239_1, r239_4, r239_5, r239_6, cs_nil, cs_cons, lc_lt, lc_ge, lc_gt, lc_le, lc_eq, mfx_u hm, mb_m hB, ln_301, esh, c1, hb1', cs, cb, am_wid2, le_T, lt_T, le_F, lt_F] using this
  have := key (2 ^ r) 0 (-1) (by omega) (Or.inl rfl) (hQ g h3)
  simpa [q265, r265_0, r265_1, r265_3, r265_4, r265_7, r265_10, r265_11, r265_13, r265_14, r265_17, r265_20, r265_21, r265_24, r265_26, r265_27, r265_28, r265_29, r265_30, r265_31, r265_32, r265_33, r265_36, r265_39, r265_40, r265_43, r265_44, r265_45, r265_48, r265_51, r265_54, r265_57, r265_58, r265_59, r265_60, r265_62, r265_63, r265_64, r265_67, r265_68, r265_71, r265_72, r265_73, r265_76, r265_77, r265_80, r265_81, r265_84, r265_87, r265_88, r265_89, r265_92, r265_95, r265_96, r265_97, r265_100, r265_103, r265_104, cs_nil, cs_cons, lc_lt, lc_ge, lc_gt, lc_le, lc_eq] using this
theorem H_parts (h : IW f n m r L ρ τ z l Z) : HC d 119 265 [] 0 f := by
  unfold HC
  simp (disch := omega) [q119, r119_0, r119_1, r119_4, r119_5, r119_8, r119_11, cs_nil, cs_cons, lc_lt, lc_ge, lc_gt, lc_le, lc_eq, c_fx h.1.1]
  refine c_fewest (d := d + 34) h.2.1.1 ⟨fx_40_3 h.1.1, fx_40_0 h.1.1⟩ ?_
  intro g g1
  simp (disch := omega) [q119, r119_0, r119_1, r119_4, r119_5, r119_8, r119_11, cs_nil, cs_cons, lc_lt, lc_ge, lc_gt, lc_le, lc_eq]
  refine m_parts (d := d + 35) (MB_fr h.2.2.1.1 (fun c j _ _ => g1 _ _ (by omega)) (fun j _ => g1 _ _ (by omega))) ?_
  intro k k1
  exact ⟨rfl, (IW_fr h (fun c j hc => by have q := SC_n hc; rw [k1 _ _ (by omega), g1 _ _ (by omega)])).iv⟩
end
