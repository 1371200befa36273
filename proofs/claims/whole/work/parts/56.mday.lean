/-! the model's day -/
theorem m_menderFor {d n m r : Nat} {f L z : am_F} {Q : am_V → am_F → Prop} {t : Int} {ρ : Int → List Int} {τ : Int → Bool} {left : Int → Int} (h : MB f n m r L ρ τ z) (h0 : 0 ≤ t) (h1 : t < n) (hH : ∀ k : Int, 0 ≤ k → k < m → f 312 k = left k) (hQ : ∀ f1, fU f f1 → Q (0, who (aH L ρ z t) left m) f1) : aw_cl (d + 5) 251 [(110, 270), (0, t)] f Q := by
  have key : ∀ j k : Nat, ∀ g, k + j = m → fU f g → whoF (aH L ρ z t) left j k = who (aH L ρ z t) left m → aw_wp (d + 5) 251 2 [(110, 270), (0, t), (0, (k : Int))] [] g Q := by
    intro j
    induction j with
    | zero =>
      intro k g hk hg e
      obtain rfl : k = m := by omega
      obtain ⟨hl, hz, hT, ho⟩ := MB_fU h hg
      have hm := hl.1
      have hn := hl.2.1.2.1
      have := hQ g hg
      rw [← e] at this
      rw [r251_2]
      simpa [q251, r251_0, r251_1, r251_3, r251_4, r251_7, r251_10, r251_11, r251_12, r251_13, r251_16, r251_17, r251_20, r251_21, r251_22, r251_25, r251_26, r251_27, r251_30, r251_33, r251_34, q233, r233_0, r233_1, r233_4, r233_5, r233_6, cs_nil, cs_cons, lc_lt, lc_ge, lc_gt, lc_le, lc_eq, mfx_u hm, hn, ln_301, whoF] using this
    | succ j ih =>
      intro k g hk hg e
      have hB := MB_fU h hg
      obtain ⟨hl, hz, hT, ho⟩ := MB_fU h hg
      have hm := hl.1
      have hn := hl.2.1.2.1
      have hm4 := hT.2.1
      have c1 : ¬ m ≤ k := by omega
      have c2 : (k : Int) < 4 := by omega
      rw [r251_2]
      simp [q251, r251_0, r251_1, r251_3, r251_4, r251_7, r251_10, r251_11, r251_12, r251_13, r251_16, r251_17, r251_20, r251_21, r251_22, r251_25, r251_26, r251_27, r251_30, r251_33, r251_34, q233, r233_0, r233_1, r233_4, r233_5, r233_6, cs_nil, cs_cons, lc_lt, lc_ge, lc_gt, lc_le, lc_eq, mfx_u hm, hn, ln_301, c1]
      refine m_hours hB h0 h1 (by omega) (by omega) ?_
      intro f1 hf
      have hm1 : f1 270 60 = 312 := (hf _ _ (by omega)).trans (by simp [mfx_u hm])
      have e1 : f1 312 (k : Int) = left k := (hf _ _ (by omega)).trans ((hg _ _ (by omega)).trans (hH k (by omega) (by omega)))
      unfold whoF at e
      by_cases hq : aH L ρ z t k ≤ left k
      · have hq' : ¬ left k < aH L ρ z t k := by omega
        rw [if_pos hq] at e
        have := hQ f1 (fU_tr hg hf)
        rw [← e] at this
        simpa [q251, r251_0, r251_1, r251_3, r251_4, r251_7, r251_10, r251_11, r251_12, r251_13, r251_16, r251_17, r251_20, r251_21, r251_22, r251_25, r251_26, r251_27, r251_30, r251_33, r251_34, cs_nil, cs_cons, lc_lt, lc_ge, lc_gt, lc_le, lc_eq, hm1, ln_312, c2, e1, hq, hq'] using this
      · have hq' : left k < aH L ρ z t k := by omega
        rw [if_neg hq] at e
        have ih' := ih (k + 1) f1 (by omega) (fU_tr hg hf) (by simpa using e)
        simpa (disch := omega) [q251, r251_0, r251_1, r251_3, r251_4, r251_7, r251_10, r251_11, r251_12, r251_13, r251_16, r251_17, r251_20, r251_21, r251_22, r251_25, r251_26, r251_27, r251_30, r251_33, r251_34, cs_nil, cs_cons, lc_lt, lc_ge, lc_gt, lc_le, lc_eq, hm1, ln_312, c2, e1, hq, hq', am_wid2] using ih'
  have := key m 0 f (by omega) fU_refl rfl
  simpa [q251, r251_0, r251_1, r251_3, r251_4, r251_7, r251_10, r251_11, r251_12, r251_13, r251_16, r251_17, r251_20, r251_21, r251_22, r251_25, r251_26, r251_27, r251_30, r251_33, r251_34, cs_nil, cs_cons, lc_lt, lc_ge, lc_gt, lc_le, lc_eq] using this
/-- what a mending of the day leaves as it was -/
def fE (b : Int) (f g : am_F) : Prop := ∀ c j : Int, ¬ (c = 342 ∨ c = 312 ∨ (c = 308 ∧ (b = 0 ∨ j ≤ 40)) ∨ c = 270 ∧ (j = 50 ∨ j = 55 ∨ j = 98 ∨ j = 58)) → g c j = f c j
theorem fE_tr {b : Int} {f g h : am_F} (h1 : fE b f g) (h2 : fE b g h) : fE b f h := fun c j hc => (h2 c j hc).trans (h1 c j hc)
theorem fM_E {b : Int} {f g : am_F} (h : fM b f g) : fE b f g := fun c j hc => h c j (by omega)
theorem fU_E {b : Int} {f g : am_F} (h : fU f g) : fE b f g := fun c j hc => h c j (by omega)
theorem MB_E {f g L z y : am_F} {n m r : Nat} {b : Int} {ρ : Int → List Int} {τ : Int → Bool} (h : MB f n m r L ρ τ z) (hg : fE b f g) (hz : MZ g n y) (ho : OZ n y) : MB g n m r L ρ τ y := MB_mk h (fun c j _ _ => hg c j (by omega)) (fun j hj => hg 270 j (by omega)) hz ho
theorem NM_U {f g z : am_F} (h : NM f z) (hg : fU f g) : NM g z := NM_fr h (fun k _ => hg _ _ (by omega)) (fun _ _ _ => rfl)
theorem m_doMend {d n m r : Nat} {f L z : am_F} {Q : am_V → am_F → Prop} {b : Int} {ρ : Int → List Int} {τ : Int → Bool} {left : Int → Int} (h : MB f n m r L ρ τ z) (hb : f 270 57 = b) (b01 : b = 0 ∨ b = 1) (hN : b = 0 → NM f z) (hH : ∀ k : Int, 0 ≤ k → k < m → f 312 k = left k) (hlf : ∀ q : Int, 0 ≤ q → q < m → 0 ≤ left q ∧ left q ≤ 24) (hQ0 : pick L ρ z left n m = -1 → ∀ g, fU f g → Q (0, 0) g) (hQ1 : ∀ p w, pick L ρ z left n m = p → ¬ p = -1 → who (aH L ρ z p) left m = w → 0 ≤ p → p < n → z 1 p = 1 → 0 ≤ w → w < m → 1 ≤ aH L ρ z p w → aH L ρ z p w ≤ left w → ∀ g, MB g n m r L ρ τ (mnd L ρ z p w) → (b = 0 → NM g (mnd L ρ z p w)) → (∀ k : Int, 0 ≤ k → k < m → g 312 k = lf left w (left w - aH L ρ z p w) k) → g 270 58 = f 270 58 → fE b f g → Q (0, 1) g) : aw_cl (d + 6) 250 [(110, 270)] f Q := by
  have loop : ∀ j t : Nat, ∀ g (bt mo : Int) X5 X6, t + j = n → fU f g → (bt = -1 ∨ (0 ≤ bt ∧ bt < n ∧ aB L ρ z left m bt = true ∧ mo = V L ρ z bt 0 4)) → pkF (aB L ρ z left m) (fun t => V L ρ z t 0 4) j t bt = pick L ρ z left n m → aw_wp (d + 6) 250 7 [(110, 270), (0, bt), (1, mo), (2, 0), (0, (t : Int)), X5, X6] [] g Q := by
    intro j
    induction j with
    | zero =>
      intro t g bt mo X5 X6 ht hg hbt e
      obtain rfl : t = n := by omega
      have hB := MB_fU h hg
      obtain ⟨hl, hz, hT, ho⟩ := MB_fU h hg
      have hm := hl.1
      have hn := hl.2.1.1
      have hm4 := hT.2.1
      have e' : bt = pick L ρ z left t m := e
      rw [r250_7]
      by_cases hb1 : bt = -1
      · have := hQ0 (by rw [← e', hb1]) g hg
        simpa [q250, r250_0, r250_1, r250_2, r250_3, r250_4, r250_5, r250_9, r250_10, r250_13, r250_16, r250_17, r250_19, r250_22, r250_25, r250_26, r250_28, r250_31, r250_32, r250_35, r250_38, r250_39, r250_41, r250_44, r250_46, r250_47, r250_48, r250_51, r250_53, r250_54, r250_55, r250_58, r250_61, r250_63, r250_64, r250_66, r250_67, r250_70, r250_73, r250_74, r250_75, r250_78, r250_79, r250_80, r250_81, r250_82, r250_85, r250_87, r250_88, r250_91, r250_93, r250_94, r250_95, r250_96, r250_97, r250_99, r250_102, r250_103, r250_104, r250_105, r250_106, r250_108, r250_111, r250_112, q209, r209_0, r209_1, r209_4, r209_5, r209_6, cs_nil, cs_cons, lc_lt, lc_ge, lc_gt, lc_le, lc_eq, mfx_u hm, hn, ln_301, hb1] using this
      · obtain ⟨p0, p1, p2, _⟩ : 0 ≤ bt ∧ bt < t ∧ aB L ρ z left m bt = true ∧ mo = V L ρ z bt 0 4 := by
          rcases hbt with q | q
          · exact absurd q hb1
          · exact q
        have p3 : z 1 bt = 1 ∧ ¬ who (aH L ρ z bt) left m = -1 := by unfold aB at p2; simpa using p2
        obtain ⟨w0, w1, w2⟩ : 0 ≤ who (aH L ρ z bt) left m ∧ who (aH L ρ z bt) left m < m ∧ aH L ρ z bt (who (aH L ρ z bt) left m) ≤ left (who (aH L ρ z bt) left m) := by
          rcases who_ok (H := aH L ρ z bt) (left := left) (m := m) with q | q
          · exact absurd q p3.2
          · exact q
        simp [q250, r250_0, r250_1, r250_2, r250_3, r250_4, r250_5, r250_9, r250_10, r250_13, r250_16, r250_17, r250_19, r250_22, r250_25, r250_26, r250_28, r250_31, r250_32, r250_35, r250_38, r250_39, r250_41, r250_44, r250_46, r250_47, r250_48, r250_51, r250_53, r250_54, r250_55, r250_58, r250_61, r250_63, r250_64, r250_66, r250_67, r250_70, r250_73, r250_74, r250_75, r250_78, r250_79, r250_80, r250_81, r250_82, r250_85, r250_87, r250_88, r250_91, r250_93, r250_94, r250_95, r250_96, r250_97, r250_99, r250_102, r250_103, r250_104, r250_105, r250_106, r250_108, r250_111, r250_112, q209, r209_0, r209_1, r209_4, r209_5, r209_6, cs_nil, cs_cons, lc_lt, lc_ge, lc_gt, lc_le, lc_eq, mfx_u hm, hn, ln_301, hb1]
        refine m_menderFor (left := left) hB p0 p1 (fun k a1 a2 => (hg _ _ (by omega)).trans (hH k a1 a2)) ?_
        intro f1 hf
        have hq1 := hQ1 bt _ e'.symm hb1 rfl p0 p1 p3.1 w0 w1
        generalize hwe : who (aH L ρ z bt) left m = w at w0 w1 w2 hq1
        have hb2 : 1 ≤ aH L ρ z bt w ∧ aH L ρ z bt w ≤ 99 := clm_b (lo := 1) (hi := 99) (v := V L ρ z bt (L 6 w) 2) (by omega)
        have hB1 := MB_fU hB hf
        have hm1 := hB1.1.1
        have e1 : f1 312 w = left w := (hf _ _ (by omega)).trans ((hg _ _ (by omega)).trans (hH w w0 w1))
        have c2 : w < 4 := by omega
        have hb3 := hlf w w0 w1
        simp [q250, r250_0, r250_1, r250_2, r250_3, r250_4, r250_5, r250_9, r250_10, r250_13, r250_16, r250_17, r250_19, r250_22, r250_25, r250_26, r250_28, r250_31, r250_32, r250_35, r250_38, r250_39, r250_41, r250_44, r250_46, r250_47, r250_48, r250_51, r250_53, r250_54, r250_55, r250_58, r250_61, r250_63, r250_64, r250_66, r250_67, r250_70, r250_73, r250_74, r250_75, r250_78, r250_79, r250_80, r250_81, r250_82, r250_85, r250_87, r250_88, r250_91, r250_93, r250_94, r250_95, r250_96, r250_97, r250_99, r250_102, r250_103, r250_104, r250_105, r250_106, r250_108, r250_111, r250_112, cs_nil, cs_cons, lc_lt, lc_ge, lc_gt, lc_le, lc_eq, mfx_u hm1, ln_312, e1, c2, w0]
        refine m_hours hB1 p0 p1 w0 w1 ?_
        intro f2 hf2
        have hB2 := MB_fU hB1 hf2
        have fg := fU_tr hg (fU_tr hf hf2)
        have g1 : fE b f2 (am_up f2 312 w (left w - aH L ρ z bt w)) := fun c j hc => am_un (by omega)
        have hB3 : MB (am_up f2 312 w (left w - aH L ρ z bt w)) t m r L ρ τ z := MB_fr hB2 (fun c j _ _ => am_un (by omega)) (fun j _ => am_un (by omega))
        have goal : aw_cl (d + 5) 253 [(110, 270), (0, bt), (0, w)] (am_up f2 312 w (left w - aH L ρ z bt w)) (fun v f' => aw_wp (d + 6) 250 111 [(110, 270), (0, bt), (1, mo), (2, 0), (0, w), X5, X6] (if v.1 = 3 then [] else [v]) f' Q) := by
          refine m_mendT (b := b) hB3 (by rw [am_un (by omega), fg _ _ (by omega)]; exact hb) b01 (fun q => NM_fr (NM_U (hN q) fg) (fun k _ => am_un (by omega)) (fun _ _ _ => rfl)) p0 p1 w0 w1 ?_
          intro g' i1 i2 i3 i4
          have := hq1 hb2.1 w2 g' i1 i2 (fun k a1 a2 => ?_) ?_ ?_
          · simpa [q250, r250_0, r250_1, r250_2, r250_3, r250_4, r250_5, r250_9, r250_10, r250_13, r250_16, r250_17, r250_19, r250_22, r250_25, r250_26, r250_28, r250_31, r250_32, r250_35, r250_38, r250_39, r250_41, r250_44, r250_46, r250_47, r250_48, r250_51, r250_53, r250_54, r250_55, r250_58, r250_61, r250_63, r250_64, r250_66, r250_67, r250_70, r250_73, r250_74, r250_75, r250_78, r250_79, r250_80, r250_81, r250_82, r250_85, r250_87, r250_88, r250_91, r250_93, r250_94, r250_95, r250_96, r250_97, r250_99, r250_102, r250_103, r250_104, r250_105, r250_106, r250_108, r250_111, r250_112, cs_nil, cs_cons, lc_lt, lc_ge, lc_gt, lc_le, lc_eq] using this
          · rw [i4 _ _ (by omega)]
            unfold lf
            by_cases hk : k = w
            · rw [hk, am_ue, if_pos rfl]
            · rw [am_un (by omega), if_neg hk, fg _ _ (by omega)]; exact hH k a1 a2
          · rw [i3, am_un (by omega), fg _ _ (by omega)]
          · exact fE_tr (fU_E fg) (fE_tr g1 (fM_E i4))
        have hm2 := hB2.1.1
        simpa (disch := omega) [q250, r250_0, r250_1, r250_2, r250_3, r250_4, r250_5, r250_9, r250_10, r250_13, r250_16, r250_17, r250_19, r250_22, r250_25, r250_26, r250_28, r250_31, r250_32, r250_35, r250_38, r250_39, r250_41, r250_44, r250_46, r250_47, r250_48, r250_51, r250_53, r250_54, r250_55, r250_58, r250_61, r250_63, r250_64, r250_66, r250_67, r250_70, r250_73, r250_74, r250_75, r250_78, r250_79, r250_80, r250_81, r250_82, r250_85, r250_87, r250_88, r250_91, r250_93, r250_94, r250_95, r250_96, r250_97, r250_99, r250_102, r250_103, r250_104, r250_105, r250_106, r250_108, r250_111, r250_112, cs_nil, cs_cons, lc_lt, lc_ge, lc_gt, lc_le, lc_eq, ln_312, c2, w0, am_wid2] using goal
    | succ j ih =>
      intro t g bt mo X5 X6 ht hg hbt e
      have hB := MB_fU h hg
      obtain ⟨hl, hz, hT, ho⟩ := MB_fU h hg
      have hm := hl.1
      have hn := hl.2.1.1
      have hn8 := hT.1
      have c1 : ¬ n ≤ t := by omega
      have y1 := hz.2.1 1 t (by omega) (by omega) (by omega) (by omega)
      have c2 : (0 : Int) ≤ 1 + 5 * (t : Int) ∧ 1 + 5 * (t : Int) < 192 := by omega
      rw [r250_7]
      unfold pkF at e
      by_cases hp : z 1 (t : Int) = 1
      · simp (disch := omega) [q250, r250_0, r250_1, r250_2, r250_3, r250_4, r250_5, r250_9, r250_10, r250_13, r250_16, r250_17, r250_19, r250_22, r250_25, r250_26, r250_28, r250_31, r250_32, r250_35, r250_38, r250_39, r250_41, r250_44, r250_46, r250_47, r250_48, r250_51, r250_53, r250_54, r250_55, r250_58, r250_61, r250_63, r250_64, r250_66, r250_67, r250_70, r250_73, r250_74, r250_75, r250_78, r250_79, r250_80, r250_81, r250_82, r250_85, r250_87, r250_88, r250_91, r250_93, r250_94, r250_95, r250_96, r250_97, r250_99, r250_102, r250_103, r250_104, r250_105, r250_106, r250_108, r250_111, r250_112, q209, r209_0, r209_1, r209_4, r209_5, r209_6, q247, r247_0, r247_1, r247_2, r247_5, r247_6, r247_9, r247_10, r247_13, r247_14, q210, r210_0, r210_1, r210_4, r210_5, r210_6, r210_7, r210_8, r210_9, r210_10, cs_nil, cs_cons, lc_lt, lc_ge, lc_gt, lc_le, lc_eq, mfx_u hm, hn, ln_301, ln_308, c1, c2, y1, hp, am_wid2]
        refine m_menderFor (left := left) hB (by omega) (by omega) (fun k a1 a2 => (hg _ _ (by omega)).trans (hH k a1 a2)) ?_
        intro f1 hf
        by_cases hq : who (aH L ρ z t) left m = -1
        · have eB : ¬ aB L ρ z left m t = true := by unfold aB; simp [hq]
          rw [if_neg (fun q => eB q.1)] at e
          have ih' := ih (t + 1) f1 bt mo X5 X6 (by omega) (fU_tr hg hf) hbt (by simpa using e)
          simpa (disch := omega) [q250, r250_0, r250_1, r250_2, r250_3, r250_4, r250_5, r250_9, r250_10, r250_13, r250_16, r250_17, r250_19, r250_22, r250_25, r250_26, r250_28, r250_31, r250_32, r250_35, r250_38, r250_39, r250_41, r250_44, r250_46, r250_47, r250_48, r250_51, r250_53, r250_54, r250_55, r250_58, r250_61, r250_63, r250_64, r250_66, r250_67, r250_70, r250_73, r250_74, r250_75, r250_78, r250_79, r250_80, r250_81, r250_82, r250_85, r250_87, r250_88, r250_91, r250_93, r250_94, r250_95, r250_96, r250_97, r250_99, r250_102, r250_103, r250_104, r250_105, r250_106, r250_108, r250_111, r250_112, cs_nil, cs_cons, lc_lt, lc_ge, lc_gt, lc_le, lc_eq, hq, am_wid2] using ih'
        · have eB : aB L ρ z left m t = true := by unfold aB; simp [hq, hp]
          simp (disch := omega) [q250, r250_0, r250_1, r250_2, r250_3, r250_4, r250_5, r250_9, r250_10, r250_13, r250_16, r250_17, r250_19, r250_22, r250_25, r250_26, r250_28, r250_31, r250_32, r250_35, r250_38, r250_39, r250_41, r250_44, r250_46, r250_47, r250_48, r250_51, r250_53, r250_54, r250_55, r250_58, r250_61, r250_63, r250_64, r250_66, r250_67, r250_70, r250_73, r250_74, r250_75, r250_78, r250_79, r250_80, r250_81, r250_82, r250_85, r250_87, r250_88, r250_91, r250_93, r250_94, r250_95, r250_96, r250_97, r250_99, r250_102, r250_103, r250_104, r250_105, r250_106, r250_108, r250_111, r250_112, cs_nil, cs_cons, lc_lt, lc_ge, lc_gt, lc_le, lc_eq, hq]
          refine m_first (MB_fU hB hf) (by omega) (by omega) ?_
          intro f2 hf2
          have fg := fU_tr hg (fU_tr hf hf2)
          by_cases hb1 : bt = -1
          · rw [if_pos ⟨eB, Or.inl hb1⟩] at e
            have ih' := ih (t + 1) f2 t (V L ρ z t 0 4) (1, V L ρ z t 0 4) (2, 0) (by omega) fg (Or.inr ⟨by omega, by omega, eB, rfl⟩) (by simpa using e)
            simpa (disch := omega) [q250, r250_0, r250_1, r250_2, r250_3, r250_4, r250_5, r250_9, r250_10, r250_13, r250_16, r250_17, r250_19, r250_22, r250_25, r250_26, r250_28, r250_31, r250_32, r250_35, r250_38, r250_39, r250_41, r250_44, r250_46, r250_47, r250_48, r250_51, r250_53, r250_54, r250_55, r250_58, r250_61, r250_63, r250_64, r250_66, r250_67, r250_70, r250_73, r250_74, r250_75, r250_78, r250_79, r250_80, r250_81, r250_82, r250_85, r250_87, r250_88, r250_91, r250_93, r250_94, r250_95, r250_96, r250_97, r250_99, r250_102, r250_103, r250_104, r250_105, r250_106, r250_108, r250_111, r250_112, cs_nil, cs_cons, lc_lt, lc_ge, lc_gt, lc_le, lc_eq, hb1, am_wid2] using ih'
          · have hmo : mo = V L ρ z bt 0 4 := by
              rcases hbt with q | q
              · exact absurd q hb1
              · exact q.2.2.2
            by_cases hv : V L ρ z bt 0 4 < V L ρ z t 0 4
            · rw [if_pos ⟨eB, Or.inr hv⟩] at e
              have ih' := ih (t + 1) f2 t (V L ρ z t 0 4) (1, V L ρ z t 0 4) (2, 0) (by omega) fg (Or.inr ⟨by omega, by omega, eB, rfl⟩) (by simpa using e)
              rw [← hmo] at hv
              simpa (disch := omega) [q250, r250_0, r250_1, r250_2, r250_3, r250_4, r250_5, r250_9, r250_10, r250_13, r250_16, r250_17, r250_19, r250_22, r250_25, r250_26, r250_28, r250_31, r250_32, r250_35, r250_38, r250_39, r250_41, r250_44, r250_46, r250_47, r250_48, r250_51, r250_53, r250_54, r250_55, r250_58, r250_61, r250_63, r250_64, r250_66, r250_67, r250_70, r250_73, r250_74, r250_75, r250_78, r250_79, r250_80, r250_81, r250_82, r250_85, r250_87, r250_88, r250_91, r250_93, r250_94, r250_95, r250_96, r250_97, r250_99, r250_102, r250_103, r250_104, r250_105, r250_106, r250_108, r250_111, r250_112, cs_nil, cs_cons, lc_lt, lc_ge, lc_gt, lc_le, lc_eq, hb1, hv, am_wid2] using ih'
            · rw [if_neg (fun q => by rcases q.2 with q | q; exact hb1 q; exact hv q)] at e
              have ih' := ih (t + 1) f2 bt mo (1, V L ρ z t 0 4) (2, 0) (by omega) fg hbt (by simpa using e)
              rw [← hmo] at hv
              simpa (disch := omega) [q250, r250_0, r250_1, r250_2, r250_3, r250_4, r250_5, r250_9, r250_10, r250_13, r250_16, r250_17, r250_19, r250_22, r250_25, r250_26, r250_28, r250_31, r250_32, r250_35, r250_38, r250_39, r250_41, r250_44, r250_46, r250_47, r250_48, r250_51, r250_53, r250_54, r250_55, r250_58, r250_61, r250_63, r250_64, r250_66, r250_67, r250_70, r250_73, r250_74, r250_75, r250_78, r250_79, r250_80, r250_81, r250_82, r250_85, r250_87, r250_88, r250_91, r250_93, r250_94, r250_95, r250_96, r250_97, r250_99, r250_102, r250_103, r250_104, r250_105, r250_106, r250_108, r250_111, r250_112, cs_nil, cs_cons, lc_lt, lc_ge, lc_gt, lc_le, lc_eq, hb1, hv, am_wid2] using ih'
      · have eB : ¬ aB L ρ z left m t = true := by unfold aB; simp [hp]
        rw [if_neg (fun q => eB q.1)] at e
        have ih' := ih (t + 1) g bt mo X5 X6 (by omega) hg hbt (by simpa using e)
        simpa (disch := omega) [q250, r250_0, r250_1, r250_2, r250_3, r250_4, r250_5, r250_9, r250_10, r250_13, r250_16, r250_17, r250_19, r250_22, r250_25, r250_26, r250_28, r250_31, r250_32, r250_35, r250_38, r250_39, r250_41, r250_44, r250_46, r250_47, r250_48, r250_51, r250_53, r250_54, r250_55, r250_58, r250_61, r250_63, r250_64, r250_66, r250_67, r250_70, r250_73, r250_74, r250_75, r250_78, r250_79, r250_80, r250_81, r250_82, r250_85, r250_87, r250_88, r250_91, r250_93, r250_94, r250_95, r250_96, r250_97, r250_99, r250_102, r250_103, r250_104, r250_105, r250_106, r250_108, r250_111, r250_112, q209, r209_0, r209_1, r209_4, r209_5, r209_6, q247, r247_0, r247_1, r247_2, r247_5, r247_6, r247_9, r247_10, r247_13, r247_14, q210, r210_0, r210_1, r210_4, r210_5, r210_6, r210_7, r210_8, r210_9, r210_10, cs_nil, cs_cons, lc_lt, lc_ge, lc_gt, lc_le, lc_eq, mfx_u hm, hn, ln_301, ln_308, c1, c2, y1, hp, am_wid2] using ih'
  have := loop n 0 f (-1) 0 (2, 0) (2, 0) (by omega) fU_refl (Or.inl rfl) rfl
  simpa [q250, r250_0, r250_1, r250_2, r250_3, r250_4, r250_5, r250_9, r250_10, r250_13, r250_16, r250_17, r250_19, r250_22, r250_25, r250_26, r250_28, r250_31, r250_32, r250_35, r250_38, r250_39, r250_41, r250_44, r250_46, r250_47, r250_48, r250_51, r250_53, r250_54, r250_55, r250_58, r250_61, r250_63, r250_64, r250_66, r250_67, r250_70, r250_73, r250_74, r250_75, r250_78, r250_79, r250_80, r250_81, r250_82, r250_85, r250_87, r250_88, r250_91, r250_93, r250_94, r250_95, r250_96, r250_97, r250_99, r250_102, r250_103, r250_104, r250_105, r250_106, r250_108, r250_111, r250_112, cs_nil, cs_cons, lc_lt, lc_ge, lc_gt, lc_le, lc_eq] using this
theorem ct_less {p q : Nat → Bool} {t : Nat} : ∀ n, t < n → p t = true → q t = false → (∀ i, i < n → ¬ i = t → q i = p i) → ct q n + 1 = ct p n
  | 0, h, _, _, _ => by omega
  | n + 1, h, hp, hq, he => by
    rw [ct, ct]
    by_cases ht : t = n
    · subst ht
      rw [ct_ext t (fun i hi => he i (by omega) (by omega)), hp, hq]
      simp
    · have := ct_less n (by omega) hp hq (fun i hi hne => he i (by omega) hne)
      rw [he n (by omega) (by omega)]
      omega
theorem ct_zero {p : Nat → Bool} : ∀ n, ct p n = 0 → ∀ i, i < n → p i = false
  | 0, _, _, hi => by omega
  | n + 1, h, i, hi => by
    rw [ct] at h
    by_cases hin : i = n
    · subst hin
      by_cases hp : p i = true
      · rw [if_pos hp] at h; omega
      · simpa using hp
    · exact ct_zero n (by omega) i (by omega)
def fD (b : Int) (f g : am_F) : Prop := ∀ c j : Int, ¬ (c = 342 ∨ c = 311 ∨ c = 312 ∨ (c = 308 ∧ (b = 0 ∨ j ≤ 40)) ∨ c = 270 ∧ (j = 50 ∨ j = 55 ∨ j = 98 ∨ j = 58)) → g c j = f c j
theorem fD_tr {b : Int} {f g h : am_F} (h1 : fD b f g) (h2 : fD b g h) : fD b f h := fun c j hc => (h2 c j hc).trans (h1 c j hc)
theorem fE_D {b : Int} {f g : am_F} (h : fE b f g) : fD b f g := fun c j hc => h c j (by omega)
theorem fM_D {b : Int} {f g : am_F} (h : fM b f g) : fD b f g := fun c j hc => h c j (by omega)
theorem fU_D {b : Int} {f g : am_F} (h : fU f g) : fD b f g := fun c j hc => h c j (by omega)
theorem MB_D {f g L z y : am_F} {n m r : Nat} {b : Int} {ρ : Int → List Int} {τ : Int → Bool} (h : MB f n m r L ρ τ z) (hg : fD b f g) (hz : MZ g n y) (ho : OZ n y) : MB g n m r L ρ τ y := MB_mk h (fun c j _ _ => hg c j (by omega)) (fun j hj => hg 270 j (by omega)) hz ho
theorem MZ_day {f z : am_F} {v : Int} {n : Nat} (h : MZ f n z) : MZ (am_up f 308 0 v) n (am_up z 0 0 v) := by
  obtain ⟨h1, h2, h3⟩ := h
  refine ⟨by rw [am_ue, am_ue], fun i' t' a1 a2 a3 a4 => ?_, fun t' a b => ?_⟩
  · rw [am_un (by omega), am_un (by omega)]
    exact h2 i' t' a1 a2 a3 a4
  · rw [am_un (by omega), am_un (by omega), am_un (by omega), am_un (by omega)]
    exact h3 t' a b
theorem MB_f0 {f g L z : am_F} {n m r : Nat} {ρ : Int → List Int} {τ : Int → Bool} (h : MB f n m r L ρ τ z) (hg : ∀ c j : Int, ¬ (c = 342 ∨ c = 311 ∨ c = 312 ∨ c = 270 ∧ (j = 50 ∨ j = 55 ∨ j = 98 ∨ j = 58)) → g c j = f c j) : MB g n m r L ρ τ z := MB_fr h (fun c j _ _ => hg c j (by omega)) (fun j hj => hg 270 j (by omega))
theorem m_day {d n m r : Nat} {f L z : am_F} {Q : am_V → am_F → Prop} {b : Int} {ρ : Int → List Int} {τ : Int → Bool} (h : MB f n m r L ρ τ z) (hb : f 270 57 = b) (b01 : b = 0 ∨ b = 1) (hN : b = 0 → NM f z) (hd : z 0 0 ≤ 998) (hQ : ∀ g, MB g n m r L ρ τ (day L ρ n m z) → (b = 0 → NM g (day L ρ n m z)) → (0 ≤ f 270 58 → f 270 58 ≤ 1000000 → g 270 58 = f 270 58 + (ct (fun t => aFl L ρ z (t : Int)) n : Int)) → (∀ t : Int, 0 ≤ t → t < n → g 311 t = if aFl L ρ z t = true then 1 else 0) → fD b f g → Q (3, 0) g) : aw_cl (d + 7) 246 [(110, 270)] f Q := by
  have hTW := h.2.2.1
  have hn8 := hTW.1
  have hm4 := hTW.2.1
  have hd0 := h.2.2.2.1
  have tail : ∀ g y, MB g n m r L ρ τ y → (b = 0 → NM g y) → y 0 0 = z 0 0 → am_up y 0 0 (z 0 0 + 1) = day L ρ n m z → (0 ≤ f 270 58 → f 270 58 ≤ 1000000 → g 270 58 = f 270 58 + (ct (fun t => aFl L ρ z (t : Int)) n : Int)) → (∀ t : Int, 0 ≤ t → t < n → g 311 t = if aFl L ρ z t = true then 1 else 0) → fD b f g → aw_wp (d + 7) 246 119 [(110, 270), (0, 0)] [] g Q := by
    intro g y hB hN hy e h58 h311 hg
    obtain ⟨hl, hz, hT, ho⟩ := id hB
    have hm := hl.1
    have h10 := hz.1
    rw [hy] at h10
    have hz1 : MZ (am_up g 308 0 (z 0 0 + 1)) n (am_up y 0 0 (z 0 0 + 1)) := MZ_day hz
    have hf1 : fD b g (am_up g 308 0 (z 0 0 + 1)) := fun c j hc => am_un (by omega)
    have hN1 : b = 0 → NM (am_up g 308 0 (z 0 0 + 1)) (am_up y 0 0 (z 0 0 + 1)) := fun q => NM_up (hN q) (by omega) (by omega)
    rw [e] at hz1 hN1
    have := hQ _ (MB_D hB hf1 hz1 (day_O h.2.2.2 hd)) hN1 (fun a1 a2 => by rw [am_un (by omega)]; exact h58 a1 a2) (fun t a1 a2 => by rw [am_un (by omega)]; exact h311 t a1 a2) (fD_tr hg hf1)
    rw [r246_119]
    simpa (disch := omega) [q246, r246_0, r246_1, r246_3, r246_4, r246_7, r246_10, r246_11, r246_14, r246_15, r246_16, r246_17, r246_20, r246_23, r246_24, r246_25, r246_28, r246_31, r246_32, r246_33, r246_34, r246_37, r246_38, r246_39, r246_42, r246_43, r246_46, r246_47, r246_48, r246_51, r246_54, r246_55, r246_57, r246_58, r246_61, r246_64, r246_65, r246_68, r246_69, r246_70, r246_73, r246_74, r246_75, r246_78, r246_81, r246_84, r246_85, r246_87, r246_88, r246_91, r246_94, r246_95, r246_98, r246_99, r246_100, r246_103, r246_105, r246_106, r246_107, r246_108, r246_109, r246_110, r246_111, r246_114, r246_117, r246_118, r246_120, r246_123, r246_124, r246_127, r246_128, r246_131, r246_132, r246_135, r246_136, r246_137, r246_138, r246_139, r246_140, r246_141, cs_nil, cs_cons, lc_lt, lc_ge, lc_gt, lc_le, lc_eq, mfx_u hm, ln_308, h10, am_wid2] using this
  have loop4 : ∀ j : Nat, ∀ g y left, ct (fun t => decide (y 1 (t : Int) = 1)) n ≤ j → MB g n m r L ρ τ y → (b = 0 → NM g y) → y 0 0 = z 0 0 → am_up (mdl L ρ n m j y left) 0 0 (z 0 0 + 1) = day L ρ n m z → (0 ≤ f 270 58 → f 270 58 ≤ 1000000 → g 270 58 = f 270 58 + (ct (fun t => aFl L ρ z (t : Int)) n : Int)) → (∀ t : Int, 0 ≤ t → t < n → g 311 t = if aFl L ρ z t = true then 1 else 0) → fD b f g → (∀ k : Int, 0 ≤ k → k < m → g 312 k = left k) → (∀ q : Int, 0 ≤ q → q < m → 0 ≤ left q ∧ left q ≤ 24) → aw_wp (d + 7) 246 119 [(110, 270), (0, 1)] [] g Q := by
    intro j
    induction j with
    | zero =>
      intro g y left hct hB hN hy e h58 h311 hg hH hlf
      have hbg : g 270 57 = b := (hg _ _ (by omega)).trans hb
      have hz0 := ct_zero n (by omega : ct (fun t => decide (y 1 (t : Int) = 1)) n = 0)
      have hpk : pick L ρ y left n m = -1 := by
        refine pkF_no (n := n) (fun t a1 a2 => ?_) n 0 (-1) (by omega) (by omega)
        have := hz0 t.toNat (by omega)
        rw [Int.toNat_of_nonneg a1] at this
        unfold aB
        rw [this]
        rfl
      rw [r246_119]
      simp [q246, r246_0, r246_1, r246_3, r246_4, r246_7, r246_10, r246_11, r246_14, r246_15, r246_16, r246_17, r246_20, r246_23, r246_24, r246_25, r246_28, r246_31, r246_32, r246_33, r246_34, r246_37, r246_38, r246_39, r246_42, r246_43, r246_46, r246_47, r246_48, r246_51, r246_54, r246_55, r246_57, r246_58, r246_61, r246_64, r246_65, r246_68, r246_69, r246_70, r246_73, r246_74, r246_75, r246_78, r246_81, r246_84, r246_85, r246_87, r246_88, r246_91, r246_94, r246_95, r246_98, r246_99, r246_100, r246_103, r246_105, r246_106, r246_107, r246_108, r246_109, r246_110, r246_111, r246_114, r246_117, r246_118, r246_120, r246_123, r246_124, r246_127, r246_128, r246_131, r246_132, r246_135, r246_136, r246_137, r246_138, r246_139, r246_140, r246_141, cs_nil, cs_cons, lc_lt, lc_ge, lc_gt, lc_le, lc_eq]
      refine m_doMend (b := b) hB hbg b01 hN hH hlf (fun _ g' hf => ?_) (fun p w e1 e2 => ?_)
      · have := tail g' y (MB_fU hB hf) (fun q => NM_U (hN q) hf) hy e (fun a1 a2 => by rw [hf _ _ (by omega)]; exact h58 a1 a2) (fun t a1 a2 => by rw [hf _ _ (by omega)]; exact h311 t a1 a2) (fD_tr hg (fU_D hf))
        simpa [q246, r246_0, r246_1, r246_3, r246_4, r246_7, r246_10, r246_11, r246_14, r246_15, r246_16, r246_17, r246_20, r246_23, r246_24, r246_25, r246_28, r246_31, r246_32, r246_33, r246_34, r246_37, r246_38, r246_39, r246_42, r246_43, r246_46, r246_47, r246_48, r246_51, r246_54, r246_55, r246_57, r246_58, r246_61, r246_64, r246_65, r246_68, r246_69, r246_70, r246_73, r246_74, r246_75, r246_78, r246_81, r246_84, r246_85, r246_87, r246_88, r246_91, r246_94, r246_95, r246_98, r246_99, r246_100, r246_103, r246_105, r246_106, r246_107, r246_108, r246_109, r246_110, r246_111, r246_114, r246_117, r246_118, r246_120, r246_123, r246_124, r246_127, r246_128, r246_131, r246_132, r246_135, r246_136, r246_137, r246_138, r246_139, r246_140, r246_141, cs_nil, cs_cons, lc_lt, lc_ge, lc_gt, lc_le, lc_eq] using this
      · exact absurd (e1.symm.trans hpk) e2
    | succ j ih =>
      intro g y left hct hB hN hy e h58 h311 hg hH hlf
      have hbg : g 270 57 = b := (hg _ _ (by omega)).trans hb
      unfold mdl at e
      rw [r246_119]
      simp [q246, r246_0, r246_1, r246_3, r246_4, r246_7, r246_10, r246_11, r246_14, r246_15, r246_16, r246_17, r246_20, r246_23, r246_24, r246_25, r246_28, r246_31, r246_32, r246_33, r246_34, r246_37, r246_38, r246_39, r246_42, r246_43, r246_46, r246_47, r246_48, r246_51, r246_54, r246_55, r246_57, r246_58, r246_61, r246_64, r246_65, r246_68, r246_69, r246_70, r246_73, r246_74, r246_75, r246_78, r246_81, r246_84, r246_85, r246_87, r246_88, r246_91, r246_94, r246_95, r246_98, r246_99, r246_100, r246_103, r246_105, r246_106, r246_107, r246_108, r246_109, r246_110, r246_111, r246_114, r246_117, r246_118, r246_120, r246_123, r246_124, r246_127, r246_128, r246_131, r246_132, r246_135, r246_136, r246_137, r246_138, r246_139, r246_140, r246_141, cs_nil, cs_cons, lc_lt, lc_ge, lc_gt, lc_le, lc_eq]
      refine m_doMend (b := b) hB hbg b01 hN hH hlf (fun hp g' hf => ?_) (fun p w e1 e2 e3 p0 p1 p2 w0 w1 w2 w3 g' i1 i2 i3 i4 i5 => ?_)
      · rw [if_pos hp] at e
        have := tail g' y (MB_fU hB hf) (fun q => NM_U (hN q) hf) hy e (fun a1 a2 => by rw [hf _ _ (by omega)]; exact h58 a1 a2) (fun t a1 a2 => by rw [hf _ _ (by omega)]; exact h311 t a1 a2) (fD_tr hg (fU_D hf))
        simpa [q246, r246_0, r246_1, r246_3, r246_4, r246_7, r246_10, r246_11, r246_14, r246_15, r246_16, r246_17, r246_20, r246_23, r246_24, r246_25, r246_28, r246_31, r246_32, r246_33, r246_34, r246_37, r246_38, r246_39, r246_42, r246_43, r246_46, r246_47, r246_48, r246_51, r246_54, r246_55, r246_57, r246_58, r246_61, r246_64, r246_65, r246_68, r246_69, r246_70, r246_73, r246_74, r246_75, r246_78, r246_81, r246_84, r246_85, r246_87, r246_88, r246_91, r246_94, r246_95, r246_98, r246_99, r246_100, r246_103, r246_105, r246_106, r246_107, r246_108, r246_109, r246_110, r246_111, r246_114, r246_117, r246_118, r246_120, r246_123, r246_124, r246_127, r246_128, r246_131, r246_132, r246_135, r246_136, r246_137, r246_138, r246_139, r246_140, r246_141, cs_nil, cs_cons, lc_lt, lc_ge, lc_gt, lc_le, lc_eq] using this
      · rw [e1, if_neg e2, e3] at e
        have hc := ct_less (p := fun t => decide (y 1 (t : Int) = 1)) (q := fun t => decide (mnd L ρ y p w 1 (t : Int) = 1)) (t := p.toNat) n (by omega) (by simp [Int.toNat_of_nonneg p0, p2]) (by simp [Int.toNat_of_nonneg p0, mnd_1]) (fun i hi hne => by
          have : ¬ (i : Int) = p := by omega
          simp only [mnd_o (show (1 : Int) ≤ 6 by omega) this])
        have := ih g' (mnd L ρ y p w) (lf left w (left w - aH L ρ y p w)) (by omega) i1 i2 (by rw [mnd_d]; exact hy) e (fun a1 a2 => by rw [i4]; exact h58 a1 a2) (fun t a1 a2 => by rw [i5 _ _ (by omega)]; exact h311 t a1 a2) (fD_tr hg (fE_D i5)) i3 (fun q b1 b2 => by
          unfold lf
          have := hlf q b1 b2
          have := hlf w w0 w1
          split <;> omega)
        simpa [q246, r246_0, r246_1, r246_3, r246_4, r246_7, r246_10, r246_11, r246_14, r246_15, r246_16, r246_17, r246_20, r246_23, r246_24, r246_25, r246_28, r246_31, r246_32, r246_33, r246_34, r246_37, r246_38, r246_39, r246_42, r246_43, r246_46, r246_47, r246_48, r246_51, r246_54, r246_55, r246_57, r246_58, r246_61, r246_64, r246_65, r246_68, r246_69, r246_70, r246_73, r246_74, r246_75, r246_78, r246_81, r246_84, r246_85, r246_87, r246_88, r246_91, r246_94, r246_95, r246_98, r246_99, r246_100, r246_103, r246_105, r246_106, r246_107, r246_108, r246_109, r246_110, r246_111, r246_114, r246_117, r246_118, r246_120, r246_123, r246_124, r246_127, r246_128, r246_131, r246_132, r246_135, r246_136, r246_137, r246_138, r246_139, r246_140, r246_141, cs_nil, cs_cons, lc_lt, lc_ge, lc_gt, lc_le, lc_eq] using this
  have loop3 : ∀ j k : Nat, ∀ g, k + j = m → MB g n m r L ρ τ (bks (aFl L ρ z) z n) → (b = 0 → NM g (bks (aFl L ρ z) z n)) → (0 ≤ f 270 58 → f 270 58 ≤ 1000000 → g 270 58 = f 270 58 + (ct (fun t => aFl L ρ z (t : Int)) n : Int)) → (∀ t : Int, 0 ≤ t → t < n → g 311 t = if aFl L ρ z t = true then 1 else 0) → fD b f g → (∀ q : Int, 0 ≤ q → q < k → g 312 q = L 7 q) → aw_wp (d + 7) 246 86 [(110, 270), (0, (k : Int))] [] g Q := by
    intro j
    induction j with
    | zero =>
      intro k g hk hB hN h58 h311 hg hH
      obtain rfl : k = m := by omega
      obtain ⟨hl, hz, hT, ho⟩ := id hB
      have hm := hl.1
      have hn := hl.2.1.2.1
      have := loop4 n g _ (L 7) (ct_le n) hB hN (bks_d _ _) rfl h58 h311 hg hH (fun q b1 b2 => by have := hT.2.2.2.2.2.1 q b1 b2; omega)
      rw [r246_86]
      simpa [q246, r246_0, r246_1, r246_3, r246_4, r246_7, r246_10, r246_11, r246_14, r246_15, r246_16, r246_17, r246_20, r246_23, r246_24, r246_25, r246_28, r246_31, r246_32, r246_33, r246_34, r246_37, r246_38, r246_39, r246_42, r246_43, r246_46, r246_47, r246_48, r246_51, r246_54, r246_55, r246_57, r246_58, r246_61, r246_64, r246_65, r246_68, r246_69, r246_70, r246_73, r246_74, r246_75, r246_78, r246_81, r246_84, r246_85, r246_87, r246_88, r246_91, r246_94, r246_95, r246_98, r246_99, r246_100, r246_103, r246_105, r246_106, r246_107, r246_108, r246_109, r246_110, r246_111, r246_114, r246_117, r246_118, r246_120, r246_123, r246_124, r246_127, r246_128, r246_131, r246_132, r246_135, r246_136, r246_137, r246_138, r246_139, r246_140, r246_141, q233, r233_0, r233_1, r233_4, r233_5, r233_6, cs_nil, cs_cons, lc_lt, lc_ge, lc_gt, lc_le, lc_eq, mfx_u hm, hn, ln_301] using this
    | succ j ih =>
      intro k g hk hB hN h58 h311 hg hH
      obtain ⟨hl, hz, hT, ho⟩ := id hB
      have hm := hl.1
      have hn := hl.2.1.2.1
      have hh := (hl.2.2.2.1 (k : Int) (by omega) (by omega)).2
      have c1 : ¬ m ≤ k := by omega
      have c2 : (k : Int) < 4 := by omega
      have c3 : (0 : Int) ≤ 9 + 2 * (k : Int) ∧ 9 + 2 * (k : Int) < 16 := by omega
      have ih' := ih (k + 1) (am_up g 312 (k : Int) (L 7 k)) (by omega) (MB_f0 hB (fun c j hc => am_un (by omega))) (fun q => NM_fr (hN q) (fun k _ => am_un (by omega)) (fun _ _ _ => rfl)) (fun a1 a2 => by rw [am_un (by omega)]; exact h58 a1 a2) (fun t a1 a2 => by rw [am_un (by omega)]; exact h311 t a1 a2) (fD_tr hg (fun c j hc => am_un (by omega))) (fun q b1 b2 => by
        by_cases hq : q = k
        · subst hq; rw [am_ue]
        · rw [am_un (by omega)]; exact hH q b1 (by omega))
      rw [r246_86]
      simpa (disch := omega) [q246, r246_0, r246_1, r246_3, r246_4, r246_7, r246_10, r246_11, r246_14, r246_15, r246_16, r246_17, r246_20, r246_23, r246_24, r246_25, r246_28, r246_31, r246_32, r246_33, r246_34, r246_37, r246_38, r246_39, r246_42, r246_43, r246_46, r246_47, r246_48, r246_51, r246_54, r246_55, r246_57, r246_58, r246_61, r246_64, r246_65, r246_68, r246_69, r246_70, r246_73, r246_74, r246_75, r246_78, r246_81, r246_84, r246_85, r246_87, r246_88, r246_91, r246_94, r246_95, r246_98, r246_99, r246_100, r246_103, r246_105, r246_106, r246_107, r246_108, r246_109, r246_110, r246_111, r246_114, r246_117, r246_118, r246_120, r246_123, r246_124, r246_127, r246_128, r246_131, r246_132, r246_135, r246_136, r246_137, r246_138, r246_139, r246_140, r246_141, q233, r233_0, r233_1, r233_4, r233_5, r233_6, cs_nil, cs_cons, lc_lt, lc_ge, lc_gt, lc_le, lc_eq, mfx_u hm, hn, ln_301, ln_304, ln_312, c1, c2, c3, hh, am_wid2] using ih'
  have loop2 : ∀ j t : Nat, ∀ g, t + j = n → MB g n m r L ρ τ (bks (aFl L ρ z) z t) → (b = 0 → NM g (bks (aFl L ρ z) z t)) → (0 ≤ f 270 58 → f 270 58 ≤ 1000000 → g 270 58 = f 270 58 + (ct (fun t => aFl L ρ z (t : Int)) t : Int)) → (∀ t : Int, 0 ≤ t → t < n → g 311 t = if aFl L ρ z t = true then 1 else 0) → fD b f g → aw_wp (d + 7) 246 56 [(110, 270), (0, (t : Int))] [] g Q := by
    intro j
    induction j with
    | zero =>
      intro t g ht hB hN h58 h311 hg
      obtain rfl : t = n := by omega
      obtain ⟨hl, hz, hT, ho⟩ := id hB
      have hm := hl.1
      have hn := hl.2.1.1
      have := loop3 m 0 g (by omega) hB hN h58 h311 hg (by omega)
      rw [r246_56]
      simpa [q246, r246_0, r246_1, r246_3, r246_4, r246_7, r246_10, r246_11, r246_14, r246_15, r246_16, r246_17, r246_20, r246_23, r246_24, r246_25, r246_28, r246_31, r246_32, r246_33, r246_34, r246_37, r246_38, r246_39, r246_42, r246_43, r246_46, r246_47, r246_48, r246_51, r246_54, r246_55, r246_57, r246_58, r246_61, r246_64, r246_65, r246_68, r246_69, r246_70, r246_73, r246_74, r246_75, r246_78, r246_81, r246_84, r246_85, r246_87, r246_88, r246_91, r246_94, r246_95, r246_98, r246_99, r246_100, r246_103, r246_105, r246_106, r246_107, r246_108, r246_109, r246_110, r246_111, r246_114, r246_117, r246_118, r246_120, r246_123, r246_124, r246_127, r246_128, r246_131, r246_132, r246_135, r246_136, r246_137, r246_138, r246_139, r246_140, r246_141, q209, r209_0, r209_1, r209_4, r209_5, r209_6, cs_nil, cs_cons, lc_lt, lc_ge, lc_gt, lc_le, lc_eq, mfx_u hm, hn, ln_301] using this
    | succ j ih =>
      intro t g ht hB hN h58 h311 hg
      obtain ⟨hl, hz, hT, ho⟩ := id hB
      have hm := hl.1
      have hn := hl.2.1.1
      have hbg : g 270 57 = b := (hg _ _ (by omega)).trans hb
      have e1 := h311 t (by omega) (by omega)
      have c1 : ¬ n ≤ t := by omega
      have c2 : (t : Int) < 8 := by omega
      rw [r246_56]
      by_cases hF : aFl L ρ z (t : Int) = true
      · rw [if_pos hF] at e1
        simp (disch := omega) [q246, r246_0, r246_1, r246_3, r246_4, r246_7, r246_10, r246_11, r246_14, r246_15, r246_16, r246_17, r246_20, r246_23, r246_24, r246_25, r246_28, r246_31, r246_32, r246_33, r246_34, r246_37, r246_38, r246_39, r246_42, r246_43, r246_46, r246_47, r246_48, r246_51, r246_54, r246_55, r246_57, r246_58, r246_61, r246_64, r246_65, r246_68, r246_69, r246_70, r246_73, r246_74, r246_75, r246_78, r246_81, r246_84, r246_85, r246_87, r246_88, r246_91, r246_94, r246_95, r246_98, r246_99, r246_100, r246_103, r246_105, r246_106, r246_107, r246_108, r246_109, r246_110, r246_111, r246_114, r246_117, r246_118, r246_120, r246_123, r246_124, r246_127, r246_128, r246_131, r246_132, r246_135, r246_136, r246_137, r246_138, r246_139, r246_140, r246_141, q209, r209_0, r209_1, r209_4, r209_5, r209_6, cs_nil, cs_cons, lc_lt, lc_ge, lc_gt, lc_le, lc_eq, mfx_u hm, hn, ln_301, ln_311, c1, c2, e1]
        refine m_break (b := b) hB hbg b01 hN (by omega) (by omega) ?_
        intro g' i1 i2 i3 i4
        have ih' := ih (t + 1) g' (by omega) (by unfold bks; rw [if_pos hF]; exact i1) (by unfold bks; rw [if_pos hF]; exact i2) (fun a1 a2 => by
          have hc := ct_le (p := fun t => aFl L ρ z (t : Int)) t
          rw [i3, h58 a1 a2, ct, if_pos hF, am_wid2 (by omega) (by omega)]
          omega) (fun t a1 a2 => by rw [i4 _ _ (by omega)]; exact h311 t a1 a2) (fD_tr hg (fM_D i4))
        simpa (disch := omega) [q246, r246_0, r246_1, r246_3, r246_4, r246_7, r246_10, r246_11, r246_14, r246_15, r246_16, r246_17, r246_20, r246_23, r246_24, r246_25, r246_28, r246_31, r246_32, r246_33, r246_34, r246_37, r246_38, r246_39, r246_42, r246_43, r246_46, r246_47, r246_48, r246_51, r246_54, r246_55, r246_57, r246_58, r246_61, r246_64, r246_65, r246_68, r246_69, r246_70, r246_73, r246_74, r246_75, r246_78, r246_81, r246_84, r246_85, r246_87, r246_88, r246_91, r246_94, r246_95, r246_98, r246_99, r246_100, r246_103, r246_105, r246_106, r246_107, r246_108, r246_109, r246_110, r246_111, r246_114, r246_117, r246_118, r246_120, r246_123, r246_124, r246_127, r246_128, r246_131, r246_132, r246_135, r246_136, r246_137, r246_138, r246_139, r246_140, r246_141, cs_nil, cs_cons, lc_lt, lc_ge, lc_gt, lc_le, lc_eq, am_wid2] using ih'
      · rw [if_neg hF] at e1
        have ih' := ih (t + 1) g (by omega) (by unfold bks; rw [if_neg hF]; exact hB) (by unfold bks; rw [if_neg hF]; exact hN) (fun a1 a2 => by rw [h58 a1 a2, ct, if_neg hF]; rfl) h311 hg
        simpa (disch := omega) [q246, r246_0, r246_1, r246_3, r246_4, r246_7, r246_10, r246_11, r246_14, r246_15, r246_16, r246_17, r246_20, r246_23, r246_24, r246_25, r246_28, r246_31, r246_32, r246_33, r246_34, r246_37, r246_38, r246_39, r246_42, r246_43, r246_46, r246_47, r246_48, r246_51, r246_54, r246_55, r246_57, r246_58, r246_61, r246_64, r246_65, r246_68, r246_69, r246_70, r246_73, r246_74, r246_75, r246_78, r246_81, r246_84, r246_85, r246_87, r246_88, r246_91, r246_94, r246_95, r246_98, r246_99, r246_100, r246_103, r246_105, r246_106, r246_107, r246_108, r246_109, r246_110, r246_111, r246_114, r246_117, r246_118, r246_120, r246_123, r246_124, r246_127, r246_128, r246_131, r246_132, r246_135, r246_136, r246_137, r246_138, r246_139, r246_140, r246_141, q209, r209_0, r209_1, r209_4, r209_5, r209_6, cs_nil, cs_cons, lc_lt, lc_ge, lc_gt, lc_le, lc_eq, mfx_u hm, hn, ln_301, ln_311, c1, c2, e1, am_wid2] using ih'
  have loop1 : ∀ j t : Nat, ∀ g, t + j = n → MB g n m r L ρ τ z → (b = 0 → NM g z) → g 270 58 = f 270 58 → (∀ q : Int, 0 ≤ q → q < t → g 311 q = if aFl L ρ z q = true then 1 else 0) → fD b f g → aw_wp (d + 7) 246 2 [(110, 270), (0, (t : Int))] [] g Q := by
    intro j
    induction j with
    | zero =>
      intro t g ht hB hN h58 h311 hg
      obtain rfl : t = n := by omega
      obtain ⟨hl, hz, hT, ho⟩ := id hB
      have hm := hl.1
      have hn := hl.2.1.1
      have := loop2 t 0 g (by omega) hB hN (fun _ _ => by rw [h58]; simp [ct]) h311 hg
      rw [r246_2]
      simpa [q246, r246_0, r246_1, r246_3, r246_4, r246_7, r246_10, r246_11, r246_14, r246_15, r246_16, r246_17, r246_20, r246_23, r246_24, r246_25, r246_28, r246_31, r246_32, r246_33, r246_34, r246_37, r246_38, r246_39, r246_42, r246_43, r246_46, r246_47, r246_48, r246_51, r246_54, r246_55, r246_57, r246_58, r246_61, r246_64, r246_65, r246_68, r246_69, r246_70, r246_73, r246_74, r246_75, r246_78, r246_81, r246_84, r246_85, r246_87, r246_88, r246_91, r246_94, r246_95, r246_98, r246_99, r246_100, r246_103, r246_105, r246_106, r246_107, r246_108, r246_109, r246_110, r246_111, r246_114, r246_117, r246_118, r246_120, r246_123, r246_124, r246_127, r246_128, r246_131, r246_132, r246_135, r246_136, r246_137, r246_138, r246_139, r246_140, r246_141, q209, r209_0, r209_1, r209_4, r209_5, r209_6, cs_nil, cs_cons, lc_lt, lc_ge, lc_gt, lc_le, lc_eq, mfx_u hm, hn, ln_301] using this
    | succ j ih =>
      intro t g ht hB hN h58 h311 hg
      obtain ⟨hl, hz, hT, ho⟩ := id hB
      have hm := hl.1
      have hn := hl.2.1.1
      have c1 : ¬ n ≤ t := by omega
      have c2 : (t : Int) < 8 := by omega
      have y1 := hz.2.1 1 t (by omega) (by omega) (by omega) (by omega)
      have c3 : (0 : Int) ≤ 1 + 5 * (t : Int) ∧ 1 + 5 * (t : Int) < 192 := by omega
      have go : ∀ g1 v, fU g g1 → v = (if aFl L ρ z (t : Int) = true then 1 else 0 : Int) → aw_wp (d + 7) 246 2 [(110, 270), (0, ((t + 1 : Nat) : Int))] [] (am_up g1 311 (t : Int) v) Q := by
        intro g1 v hf hv
        refine ih (t + 1) _ (by omega) (MB_f0 (MB_fU hB hf) (fun c j hc => am_un (by omega))) (fun q => NM_fr (NM_U (hN q) hf) (fun k _ => am_un (by omega)) (fun _ _ _ => rfl)) (by rw [am_un (by omega), hf _ _ (by omega)]; exact h58) (fun q b1 b2 => ?_) (fD_tr hg (fD_tr (fU_D hf) (fun c j hc => am_un (by omega))))
        by_cases hq : q = t
        · subst hq; rw [am_ue, hv]
        · rw [am_un (by omega), hf _ _ (by omega)]; exact h311 q b1 (by omega)
      rw [r246_2]
      by_cases hp : z 1 (t : Int) = 1
      · have := go g 0 fU_refl (by simp [aFl, hp])
        simpa (disch := omega) [q246, r246_0, r246_1, r246_3, r246_4, r246_7, r246_10, r246_11, r246_14, r246_15, r246_16, r246_17, r246_20, r246_23, r246_24, r246_25, r246_28, r246_31, r246_32, r246_33, r246_34, r246_37, r246_38, r246_39, r246_42, r246_43, r246_46, r246_47, r246_48, r246_51, r246_54, r246_55, r246_57, r246_58, r246_61, r246_64, r246_65, r246_68, r246_69, r246_70, r246_73, r246_74, r246_75, r246_78, r246_81, r246_84, r246_85, r246_87, r246_88, r246_91, r246_94, r246_95, r246_98, r246_99, r246_100, r246_103, r246_105, r246_106, r246_107, r246_108, r246_109, r246_110, r246_111, r246_114, r246_117, r246_118, r246_120, r246_123, r246_124, r246_127, r246_128, r246_131, r246_132, r246_135, r246_136, r246_137, r246_138, r246_139, r246_140, r246_141, q209, r209_0, r209_1, r209_4, r209_5, r209_6, q247, r247_0, r247_1, r247_2, r247_5, r247_6, r247_9, r247_10, r247_13, r247_14, q210, r210_0, r210_1, r210_4, r210_5, r210_6, r210_7, r210_8, r210_9, r210_10, cs_nil, cs_cons, lc_lt, lc_ge, lc_gt, lc_le, lc_eq, mfx_u hm, hn, ln_301, ln_308, ln_311, am_fitE, c1, c2, c3, y1, hp, am_wid2] using this
      · by_cases ht1 : τ 1 = true
        · simp (disch := omega) [q246, r246_0, r246_1, r246_3, r246_4, r246_7, r246_10, r246_11, r246_14, r246_15, r246_16, r246_17, r246_20, r246_23, r246_24, r246_25, r246_28, r246_31, r246_32, r246_33, r246_34, r246_37, r246_38, r246_39, r246_42, r246_43, r246_46, r246_47, r246_48, r246_51, r246_54, r246_55, r246_57, r246_58, r246_61, r246_64, r246_65, r246_68, r246_69, r246_70, r246_73, r246_74, r246_75, r246_78, r246_81, r246_84, r246_85, r246_87, r246_88, r246_91, r246_94, r246_95, r246_98, r246_99, r246_100, r246_103, r246_105, r246_106, r246_107, r246_108, r246_109, r246_110, r246_111, r246_114, r246_117, r246_118, r246_120, r246_123, r246_124, r246_127, r246_128, r246_131, r246_132, r246_135, r246_136, r246_137, r246_138, r246_139, r246_140, r246_141, q209, r209_0, r209_1, r209_4, r209_5, r209_6, q247, r247_0, r247_1, r247_2, r247_5, r247_6, r247_9, r247_10, r247_13, r247_14, q210, r210_0, r210_1, r210_4, r210_5, r210_6, r210_7, r210_8, r210_9, r210_10, cs_nil, cs_cons, lc_lt, lc_ge, lc_gt, lc_le, lc_eq, mfx_u hm, hn, ln_301, ln_308, ln_311, am_fitE, c1, c3, y1, hp, m_told hl hT (w := 1), ht1, am_wid2]
          refine m_val (w := 1) (z := z) (gv := 0) hT hl hz ho (by omega) (by omega) (by omega) ht1 (by omega) ?_
          intro g1 hf
          have hv := (V_b hT ho (w := 1) (t := (t : Int)) (gv := 0) (by omega) (by omega) (by omega) (by omega)).2.2 rfl
          by_cases hv0 : V L ρ z (t : Int) 0 1 = 0
          · have := go g1 0 (fT_U hf) (by simp [aFl, hv0])
            simpa (disch := omega) [q246, r246_0, r246_1, r246_3, r246_4, r246_7, r246_10, r246_11, r246_14, r246_15, r246_16, r246_17, r246_20, r246_23, r246_24, r246_25, r246_28, r246_31, r246_32, r246_33, r246_34, r246_37, r246_38, r246_39, r246_42, r246_43, r246_46, r246_47, r246_48, r246_51, r246_54, r246_55, r246_57, r246_58, r246_61, r246_64, r246_65, r246_68, r246_69, r246_70, r246_73, r246_74, r246_75, r246_78, r246_81, r246_84, r246_85, r246_87, r246_88, r246_91, r246_94, r246_95, r246_98, r246_99, r246_100, r246_103, r246_105, r246_106, r246_107, r246_108, r246_109, r246_110, r246_111, r246_114, r246_117, r246_118, r246_120, r246_123, r246_124, r246_127, r246_128, r246_131, r246_132, r246_135, r246_136, r246_137, r246_138, r246_139, r246_140, r246_141, cs_nil, cs_cons, lc_lt, lc_ge, lc_gt, lc_le, lc_eq, ln_311, am_fitE, c2, hv0, am_wid2] using this
          · have hv1 : V L ρ z (t : Int) 0 1 = 1 := by omega
            have := go g1 1 (fT_U hf) (by simp [aFl, hv0, hp])
            simpa (disch := omega) [q246, r246_0, r246_1, r246_3, r246_4, r246_7, r246_10, r246_11, r246_14, r246_15, r246_16, r246_17, r246_20, r246_23, r246_24, r246_25, r246_28, r246_31, r246_32, r246_33, r246_34, r246_37, r246_38, r246_39, r246_42, r246_43, r246_46, r246_47, r246_48, r246_51, r246_54, r246_55, r246_57, r246_58, r246_61, r246_64, r246_65, r246_68, r246_69, r246_70, r246_73, r246_74, r246_75, r246_78, r246_81, r246_84, r246_85, r246_87, r246_88, r246_91, r246_94, r246_95, r246_98, r246_99, r246_100, r246_103, r246_105, r246_106, r246_107, r246_108, r246_109, r246_110, r246_111, r246_114, r246_117, r246_118, r246_120, r246_123, r246_124, r246_127, r246_128, r246_131, r246_132, r246_135, r246_136, r246_137, r246_138, r246_139, r246_140, r246_141, cs_nil, cs_cons, lc_lt, lc_ge, lc_gt, lc_le, lc_eq, ln_311, am_fitE, c2, hv1, am_wid2] using this
        · have e : V L ρ z (t : Int) 0 1 = 0 := by
            unfold V
            rw [ml_un hl (by omega) (by omega) ht1]
            simp [dfl, vl, er, e1]
          have := go g 0 fU_refl (by simp [aFl, e])
          simpa (disch := omega) [q246, r246_0, r246_1, r246_3, r246_4, r246_7, r246_10, r246_11, r246_14, r246_15, r246_16, r246_17, r246_20, r246_23, r246_24, r246_25, r246_28, r246_31, r246_32, r246_33, r246_34, r246_37, r246_38, r246_39, r246_42, r246_43, r246_46, r246_47, r246_48, r246_51, r246_54, r246_55, r246_57, r246_58, r246_61, r246_64, r246_65, r246_68, r246_69, r246_70, r246_73, r246_74, r246_75, r246_78, r246_81, r246_84, r246_85, r246_87, r246_88, r246_91, r246_94, r246_95, r246_98, r246_99, r246_100, r246_103, r246_105, r246_106, r246_107, r246_108, r246_109, r246_110, r246_111, r246_114, r246_117, r246_118, r246_120, r246_123, r246_124, r246_127, r246_128, r246_131, r246_132, r246_135, r246_136, r246_137, r246_138, r246_139, r246_140, r246_141, q209, r209_0, r209_1, r209_4, r209_5, r209_6, q247, r247_0, r247_1, r247_2, r247_5, r247_6, r247_9, r247_10, r247_13, r247_14, q210, r210_0, r210_1, r210_4, r210_5, r210_6, r210_7, r210_8, r210_9, r210_10, cs_nil, cs_cons, lc_lt, lc_ge, lc_gt, lc_le, lc_eq, mfx_u hm, hn, ln_301, ln_308, ln_311, am_fitE, c1, c2, c3, y1, hp, m_told hl hT (w := 1), ht1, am_wid2] using this
  have := loop1 n 0 f (by omega) h hN rfl (by omega) (fun _ _ _ => rfl)
  simpa [q246, r246_0, r246_1, r246_3, r246_4, r246_7, r246_10, r246_11, r246_14, r246_15, r246_16, r246_17, r246_20, r246_23, r246_24, r246_25, r246_28, r246_31, r246_32, r246_33, r246_34, r246_37, r246_38, r246_39, r246_42, r246_43, r246_46, r246_47, r246_48, r246_51, r246_54, r246_55, r246_57, r246_58, r246_61, r246_64, r246_65, r246_68, r246_69, r246_70, r246_73, r246_74, r246_75, r246_78, r246_81, r246_84, r246_85, r246_87, r246_88, r246_91, r246_94, r246_95, r246_98, r246_99, r246_100, r246_103, r246_105, r246_106, r246_107, r246_108, r246_109, r246_110, r246_111, r246_114, r246_117, r246_118, r246_120, r246_123, r246_124, r246_127, r246_128, r246_131, r246_132, r246_135, r246_136, r246_137, r246_138, r246_139, r246_140, r246_141, cs_nil, cs_cons, lc_lt, lc_ge, lc_gt, lc_le, lc_eq] using this
