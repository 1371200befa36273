/-! islands: the model reads rules and trials -/
section
variable {d : Nat} {f g : am_F} {B : Int → Int} {N p cd q0 : Int} {Q : am_V → am_F → Prop} {I : IS}
theorem m_kindBy {w : Int} : aw_cl d 181 [(0, w)] f Q = Q (0, wK w) f := by
  apply aw_det
  unfold wK
  by_cases h1 : w = 1
  · simp [q181, r181_0, r181_1, r181_2, r181_5, r181_6, r181_7, r181_10, r181_11, r181_14, r181_15, r181_16, r181_19, r181_20, r181_21, r181_24, r181_25, r181_28, r181_29, cs_nil, cs_cons, lc_lt, lc_ge, lc_gt, lc_le, lc_eq, h1]
  by_cases h4 : w = 4
  · simp [q181, r181_0, r181_1, r181_2, r181_5, r181_6, r181_7, r181_10, r181_11, r181_14, r181_15, r181_16, r181_19, r181_20, r181_21, r181_24, r181_25, r181_28, r181_29, cs_nil, cs_cons, lc_lt, lc_ge, lc_gt, lc_le, lc_eq, h4]
  by_cases h2 : w = 2
  · simp [q181, r181_0, r181_1, r181_2, r181_5, r181_6, r181_7, r181_10, r181_11, r181_14, r181_15, r181_16, r181_19, r181_20, r181_21, r181_24, r181_25, r181_28, r181_29, cs_nil, cs_cons, lc_lt, lc_ge, lc_gt, lc_le, lc_eq, h2]
  by_cases h3 : w = 3
  · simp [q181, r181_0, r181_1, r181_2, r181_5, r181_6, r181_7, r181_10, r181_11, r181_14, r181_15, r181_16, r181_19, r181_20, r181_21, r181_24, r181_25, r181_28, r181_29, cs_nil, cs_cons, lc_lt, lc_ge, lc_gt, lc_le, lc_eq, h3]
  · simp [q181, r181_0, r181_1, r181_2, r181_5, r181_6, r181_7, r181_10, r181_11, r181_14, r181_15, r181_16, r181_19, r181_20, r181_21, r181_24, r181_25, r181_28, r181_29, cs_nil, cs_cons, lc_lt, lc_ge, lc_gt, lc_le, lc_eq, h1, h2, h3, h4]
theorem MI_X {w : Int} {cs : List Int} (h : MI f I cd) (w0 : 0 ≤ w) (w9 : w < 10) (hg : ∀ c j : Int, ¬ ((c = 270 ∧ j = 48) ∨ (c = 307 ∧ cd ≤ j) ∨ ((c = 305 ∨ c = 306) ∧ j = w)) → (c = 270 ∧ (j = 43 ∨ j = 48 ∨ j = 49)) ∨ (301 ≤ c ∧ c ≤ 307) → g c j = f c j) (e1 : g 305 w = cd) (e2 : g 306 w = cd + cs.length) (e3 : g 270 48 = cd + cs.length) (ha : al g 307 id cd cs) : MI g (I.1, I.2.1, u1 I.2.2.1 w cs, u1 I.2.2.2.1 w true, I.2.2.2.2) (cd + cs.length) := by
  obtain ⟨⟨a0, a1, a2, a3, a4⟩, hT, hM, hR, hW, hU, hs, s0⟩ := h
  refine ⟨⟨?_, ?_, ?_, ?_, ?_⟩, ?_, ?_, ?_, ?_, ?_, e3, by omega⟩
  · rw [hg _ _ (by omega) (by omega)]; exact a0
  · rw [hg _ _ (by omega) (by omega)]; exact a1
  · rw [hg _ _ (by omega) (by omega)]; exact a2
  · rw [hg _ _ (by omega) (by omega)]; exact a3
  · rw [hg _ _ (by omega) (by omega)]; exact a4
  · intro t t0 t1
    rw [hg _ _ (by omega) (by omega), hg _ _ (by omega) (by omega), hg _ _ (by omega) (by omega), hg _ _ (by omega) (by omega)]
    exact hT t t0 t1
  · intro t t0 t1
    rw [hg _ _ (by omega) (by omega), hg _ _ (by omega) (by omega), hg _ _ (by omega) (by omega)]
    exact hM t t0 t1
  · intro t t0 t1
    rw [hg _ _ (by omega) (by omega)]
    exact hR t t0 t1
  · intro v v0 v1 hv
    have hv : u1 I.2.2.2.1 w true v = true := hv
    show ∃ k0, g 305 v = k0 ∧ g 306 v = k0 + (u1 I.2.2.1 w cs v).length ∧ 0 ≤ k0 ∧ k0 + (u1 I.2.2.1 w cs v).length ≤ cd + cs.length ∧ al g 307 id k0 (u1 I.2.2.1 w cs v)
    by_cases q : v = w
    · subst q
      rw [u1_e]
      exact ⟨cd, e1, e2, s0, by omega, ha⟩
    · rw [u1_n q] at hv ⊢
      obtain ⟨k0, a, b, c, e, al0⟩ := hW v v0 v1 hv
      refine ⟨k0, ?_, ?_, c, by omega, al_fr _ _ (fun j _ _ => hg _ _ (by omega) (by omega)) al0⟩
      · rw [hg _ _ (by omega) (by omega)]; exact a
      · rw [hg _ _ (by omega) (by omega)]; exact b
  · intro v v0 v1 hv
    have hv : ¬ u1 I.2.2.2.1 w true v = true := hv
    by_cases q : v = w
    · subst q
      rw [u1_e] at hv
      exact absurd rfl hv
    · rw [u1_n q] at hv
      rw [hg _ _ (by omega) (by omega)]
      exact hU v v0 v1 hv
/-- the codes are laid down -/
theorem m_lay {w : Int} {cs : List Int} (w0 : 0 ≤ w) (w9 : w < 10) (hx : aw_fx f) (h48 : f 270 48 = cd) (c0 : 0 ≤ cd) (h92 : f 270 92 = (cs.length : Int)) (hl : cd + cs.length ≤ 1600) (ha : al f 340 id 0 cs) (hQ : ∀ g, g 305 w = cd → g 306 w = cd + cs.length → g 270 48 = cd + cs.length → al g 307 id cd cs → (∀ c j : Int, ¬ ((c = 270 ∧ j = 48) ∨ (c = 307 ∧ cd ≤ j ∧ j < 1600) ∨ ((c = 305 ∨ c = 306) ∧ j = w)) → g c j = f c j) → Q (3, 0) g) : aw_wp (d + 1) 180 68 [(110, 270), (0, w), (2, 0)] [] f Q := by
  have x45 := fx_270_45 hx
  have x46 := fx_270_46 hx
  have x47 := fx_270_47 hx
  have x91 := fx_270_91 hx
  have key : ∀ (rest done : List Int) (h : am_F), done ++ rest = cs → al h 340 id done.length rest → al h 307 id cd done → h 270 48 = cd + done.length → h 305 w = cd → (∀ c j : Int, ¬ ((c = 270 ∧ j = 48) ∨ (c = 307 ∧ cd ≤ j ∧ j < 1600) ∨ (c = 305 ∧ j = w)) → h c j = f c j) → aw_wp (d + 1) 180 80 [(110, 270), (0, w), (0, (done.length : Int))] [] h Q := by
    intro rest
    induction rest with
    | nil =>
      intro done h e h1 h2 h3 h4 fr
      rw [List.append_nil] at e
      subst e
      have y92 : h 270 92 = (done.length : Int) := (fr _ _ (by omega)).trans h92
      have y46 : h 270 46 = 306 := (fr _ _ (by omega)).trans x46
      have := hQ (am_up h 306 w (cd + done.length)) (by rw [am_un (by omega)]; exact h4) am_ue (by rw [am_un (by omega)]; exact h3) (al_fr _ _ (fun j _ _ => am_un (by omega)) h2) (fun c j hc => by rw [am_un (by omega)]; exact fr c j (by omega))
      generalize (done.length : Int) = n at *
      rw [r180_80]
      simpa (disch := omega) [r180_81, r180_82, r180_85, cs_nil, cs_cons, lc_lt, lc_ge, lc_gt, lc_le, lc_eq, r180_119, r180_120, r180_123, r180_124, r180_125, r180_128, r180_129, y92, y46, h3, ln_306, am_fitE, le_T, lt_T] using this
    | cons x rest ih =>
      intro done h e h1 h2 h3 h4 fr
      have ln : (done.length : Int) + 1 + rest.length = cs.length := by rw [← e, List.length_append, List.length_cons]; omega
      have y92 : h 270 92 = (cs.length : Int) := (fr _ _ (by omega)).trans h92
      have y47 : h 270 47 = 307 := (fr _ _ (by omega)).trans x47
      have y91 : h 270 91 = 340 := (fr _ _ (by omega)).trans x91
      have yx : h 340 (done.length : Int) = x := h1.1
      have dl : (((done ++ [x]).length : Nat) : Int) = done.length + 1 := by rw [List.length_append]; simp
      have ih' := ih (done ++ [x]) (am_up (am_up h 307 (cd + done.length) x) 270 48 (cd + done.length + 1)) (by rw [List.append_assoc]; exact e) (by rw [dl]; exact al_fr _ _ (fun j _ _ => by rw [am_un (by omega), am_un (by omega)]) h1.2) (al_app done [x] cd (al_fr _ _ (fun j _ _ => by rw [am_un (by omega), am_un (by omega)]) h2) ⟨by rw [am_un (by omega), am_ue]; rfl, trivial⟩) (by rw [am_ue, dl]; omega) (by rw [am_un (by omega), am_un (by omega)]; exact h4) (fun c j hc => by rw [am_un (by omega), am_un (by omega)]; exact fr c j (by omega))
      rw [dl] at ih'
      have d0 : 0 ≤ (done.length : Int) := by omega
      have r0 : 0 ≤ (rest.length : Int) := by omega
      clear h1 h2 ih dl
      generalize (done.length : Int) = n at *
      rw [r180_80]
      simpa (disch := omega) [r180_81, r180_82, r180_85, r180_88, r180_89, r180_92, r180_93, r180_96, r180_97, r180_100, r180_101, r180_102, r180_103, r180_104, r180_105, r180_108, r180_109, r180_110, r180_113, r180_116, cs_nil, cs_cons, lc_lt, lc_ge, lc_gt, lc_le, lc_eq, y92, y47, y91, yx, h3, ln_307, ln_340, am_un, am_ue, am_wid2, am_fitE, le_T, lt_T, le_F, lt_F] using ih'
  have := key cs [] (am_up f 305 w cd) rfl (al_fr _ _ (fun j _ _ => am_un (by omega)) ha) trivial (by rw [am_un (by omega), h48]; simp) am_ue (fun c j hc => am_un (by omega))
  simpa (disch := omega) [r180_68, r180_69, r180_72, r180_73, r180_74, r180_77, r180_78, r180_79, cs_nil, cs_cons, lc_lt, lc_ge, lc_gt, lc_le, lc_eq, x45, h48, ln_305, am_fitE, le_T, lt_T] using this
theorem m_text {w : Int} (hN : N ≤ 1600) (hM : MM f B N p I cd) (w0 : 0 ≤ w) (w9 : w < 10) (hF : ∀ k q, rK B N (wK w) (wM w) p = .inl (k, q) → ¬ k = 0 → ∀ g, g 270 5 = k → g 270 6 = q → gIw f g → Q (3, 0) g) (hO : ∀ p4 cs, rK B N (wK w) (wM w) p = .inr (p4, cs) → ∀ g, MM g B N p4 (I.1, I.2.1, u1 I.2.2.1 w cs, u1 I.2.2.2.1 w true, I.2.2.2.2) (cd + cs.length) → gI f g → Q (3, 0) g) : aw_cl (d + 10) 180 [(110, 270), (0, w)] f Q := by
  obtain ⟨hX, hP, ⟨b5, b6⟩, hI, p0, pN, hcd⟩ := id hM
  have hr := rK_e (B := B) (κ := wK w) hN p0 pN (wM w)
  have s0 := hI.2.2.2.2.2.2.2
  have h48 := hI.2.2.2.2.2.2.1
  have κ0 : 0 ≤ wK w ∧ wK w ≤ 3 := by unfold wK; split <;> (try split) <;> omega
  have fr0 : ∀ c j : Int, ¬ (c = 270 ∧ (j = 50 ∨ j = 92 ∨ (94 ≤ j ∧ j ≤ 96))) → (am_up (am_up (am_up (am_up (am_up f 270 50 (wK w)) 270 92 0) 270 94 0) 270 95 0) 270 96 0) c j = f c j := fun c j hc => by rw [am_un (by omega), am_un (by omega), am_un (by omega), am_un (by omega), am_un (by omega)]
  have v50 : (am_up (am_up (am_up (am_up (am_up f 270 50 (wK w)) 270 92 0) 270 94 0) 270 95 0) 270 96 0) 270 50 = wK w := by rw [am_un (by omega), am_un (by omega), am_un (by omega), am_un (by omega), am_ue]
  have v92 : (am_up (am_up (am_up (am_up (am_up f 270 50 (wK w)) 270 92 0) 270 94 0) 270 95 0) 270 96 0) 270 92 = 0 := by rw [am_un (by omega), am_un (by omega), am_un (by omega), am_ue]
  have v94 : (am_up (am_up (am_up (am_up (am_up f 270 50 (wK w)) 270 92 0) 270 94 0) 270 95 0) 270 96 0) 270 94 = 0 := by rw [am_un (by omega), am_un (by omega), am_ue]
  have v95 : (am_up (am_up (am_up (am_up (am_up f 270 50 (wK w)) 270 92 0) 270 94 0) 270 95 0) 270 96 0) 270 95 = 0 := by rw [am_un (by omega), am_ue]
  have v96 : (am_up (am_up (am_up (am_up (am_up f 270 50 (wK w)) 270 92 0) 270 94 0) 270 95 0) 270 96 0) 270 96 = 0 := am_ue
  have st : ∀ Q', aw_wp (d + 10) 180 36 [(110, 270), (0, w), (2, 0)] [] (am_up (am_up (am_up (am_up (am_up f 270 50 (wK w)) 270 92 0) 270 94 0) 270 95 0) 270 96 0) Q' → aw_cl (d + 10) 180 [(110, 270), (0, w)] f Q' := by
    intro Q' hq
    simpa [q180, r180_0, r180_1, r180_4, r180_7, r180_8, r180_9, r180_10, r180_13, r180_16, r180_17, r180_18, r180_21, r180_22, r180_23, r180_26, r180_27, r180_28, r180_31, r180_32, r180_33, cs_nil, cs_cons, lc_lt, lc_ge, lc_gt, lc_le, lc_eq, b5, m_kindBy] using hq
  refine st _ ?_
  clear st
  generalize am_up (am_up (am_up (am_up (am_up f 270 50 (wK w)) 270 92 0) 270 94 0) 270 95 0) 270 96 0 = F at fr0 v50 v92 v94 v95 v96
  have hXF : MX F B N := MX_gIw hX (fun c j hc => fr0 c j (by omega))
  have hMS : MS F B N (wK w) p 0 0 [] [] := ⟨hXF, ⟨by rw [fr0 _ _ (by omega)]; exact hP.1, by rw [fr0 _ _ (by omega)]; exact hP.2.1, by rw [fr0 _ _ (by omega)]; exact hP.2.2⟩, ⟨(fr0 _ _ (by omega)).trans b5, ⟨v50, (fr0 _ _ (by omega)).trans b6⟩, v95, v96⟩, ⟨⟨fx_270_91 hXF.1.1, fx_270_93 hXF.1.1⟩, ⟨v94, v92⟩, ⟨trivial, trivial⟩, by simp⟩, ⟨p0, pN, by simp; omega⟩, ⟨by simp; omega, by omega⟩, fun x hx => by cases hx⟩
  have flt : ∀ k q g, rK B N (wK w) (wM w) p = .inl (k, q) → gPw F g → g 270 5 = k → g 270 6 = q → aw_wp (d + 10) 180 60 [(110, 270), (0, w), (2, 0)] [] g Q := by
    intro k q g e gp e5 e6
    rw [e] at hr
    have k0 := rd_fk hr
    have := hF k q e k0 g e5 e6 (fun c j hc => by rw [gp c j (by omega), fr0 c j (by omega)])
    have n5 : ¬ g 270 5 = 0 := by rw [e5]; exact k0
    simpa [r180_60, r180_61, r180_64, r180_67, cs_nil, cs_cons, lc_lt, lc_ge, lc_gt, lc_le, lc_eq, n5] using this
  have good : ∀ p4 cs g, rK B N (wK w) (wM w) p = .inr (p4, cs) → gP F g → MS g B N (wK w) p4 0 0 [] ([] ++ cs) → aw_wp (d + 10) 180 60 [(110, 270), (0, w), (2, 0)] [] g Q := by
    intro p4 cs g e gp hG
    rw [e] at hr
    have ln := (rd_len _ _ _ _ _ _ hr pN).1
    rw [List.nil_append] at hG
    obtain ⟨gX, gPP, ⟨g5, ⟨g50, g6⟩, g95, g96⟩, gR, gp4, _, _⟩ := hG
    have frg : ∀ c j : Int, ¬ ((c = 270 ∧ (j = 2 ∨ j = 4 ∨ j = 50 ∨ j = 92 ∨ (94 ≤ j ∧ j ≤ 96))) ∨ c = 340 ∨ c = 341) → g c j = f c j := fun c j hc => by rw [gp c j (by omega), fr0 c j (by omega)]
    have := m_lay (d := d + 9) (Q := Q) (f := g) (cd := cd) (w := w) (cs := cs) w0 w9 gX.1.1 ((frg _ _ (by omega)).trans h48) s0 gR.2.1.2 (by omega) gR.2.2.1.2 (fun h a1 a2 a3 a4 fr => by
      refine hO p4 cs e h ⟨MX_gIw gX (fun c j hc => fr c j (by omega)), ⟨by rw [fr _ _ (by omega)]; exact gPP.1, by rw [fr _ _ (by omega)]; exact gPP.2.1, by rw [fr _ _ (by omega)]; exact gPP.2.2⟩, ⟨by rw [fr _ _ (by omega)]; exact g5, by rw [fr _ _ (by omega)]; exact g6⟩, MI_X hI w0 w9 (fun c j hc hc2 => by rw [fr c j (by omega), frg c j (by omega)]) a1 a2 a3 a4, gp4.1, gp4.2.1, by omega⟩ (fun c j hc => by rw [fr c j (by omega), frg c j (by omega)]))
    simpa [r180_60, r180_61, r180_64, cs_nil, cs_cons, lc_lt, lc_ge, lc_gt, lc_le, lc_eq, g5] using this
  rcases (wM_n (w := w)) with hm | hm
  · have ht : wK w = 1 ∨ w = 1 := by
      unfold wM at hm
      unfold wK
      split at hm
      · rename_i q
        by_cases q1 : w = 1
        · exact Or.inr q1
        · left
          rw [if_neg (by omega), if_neg (by omega)]
      · cases hm
    have go : aw_cl (d + 9) 182 [(110, 270)] F (fun v f' => aw_wp (d + 10) 180 53 [(110, 270), (0, w), (2, 0)] (if v.fst = 3 then [] else [v]) f' Q) := by
      rw [hm] at hr flt good
      refine m_test (d := d) hN κ0 hr hMS ?_
      match hx : rK B N (wK w) 9 p with
      | .inl (k, q) =>
        intro g a1 a2 a3 a4
        have := flt k q g hx a1 a2 a3
        simpa [r180_53, cs_nil, cs_cons, lc_lt, lc_ge, lc_gt, lc_le, lc_eq] using this
      | .inr (p4, cs) =>
        intro g a1 a2
        have := good p4 cs g hx a1 a2
        simpa [r180_53, cs_nil, cs_cons, lc_lt, lc_ge, lc_gt, lc_le, lc_eq] using this
    by_cases k1 : wK w = 1
    · rw [k1] at v50
      simpa [r180_36, r180_37, r180_40, r180_41, r180_44, r180_45, r180_46, r180_49, r180_50, cs_nil, cs_cons, lc_lt, lc_ge, lc_gt, lc_le, lc_eq, v50] using go
    · have w1 : w = 1 := ht.resolve_left k1
      have v50' : ¬ F 270 50 = 1 := by rw [v50]; exact k1
      subst w1
      simpa [r180_36, r180_37, r180_40, r180_41, r180_44, r180_45, r180_46, r180_49, r180_50, cs_nil, cs_cons, lc_lt, lc_ge, lc_gt, lc_le, lc_eq, v50'] using go
  · have ht : ¬ wK w = 1 ∧ ¬ w = 1 := by
      unfold wM at hm
      unfold wK
      split at hm
      · cases hm
      · rename_i q
        refine ⟨?_, by omega⟩
        split
        · omega
        · rw [if_pos (by omega)]; omega
    have v50' : ¬ F 270 50 = 1 := by rw [v50]; exact ht.1
    have go : aw_cl (d + 9) 186 [(110, 270)] F (fun v f' => aw_wp (d + 10) 180 60 [(110, 270), (0, w), (2, 0)] (if v.fst = 3 then [] else [v]) f' Q) := by
      rw [hm] at hr flt good
      refine m_sums (d := d + 2) (Wb := []) hN κ0 (fun x hx => by cases hx) hr hMS ?_
      match hx : rK B N (wK w) 4 p with
      | .inl (k, q) =>
        intro g a1 a2 a3 a4
        have := flt k q (am_up g 270 96 0) hx (gPw_up a1 (by omega)) (by rw [am_un (by omega)]; exact a2) (by rw [am_un (by omega)]; exact a3)
        simpa using this
      | .inr (p4, cs) =>
        intro g a1 a2
        have := good p4 cs g hx a1 a2
        simpa using this
    simpa [r180_36, r180_37, r180_40, r180_41, r180_44, r180_45, r180_46, r180_49, r180_50, r180_53, r180_56, r180_57, cs_nil, cs_cons, lc_lt, lc_ge, lc_gt, lc_le, lc_eq, v50', ht.2] using go
theorem m_textB {w : Int} (hb : ¬ f 270 5 = 0) : aw_cl (d + 10) 180 [(110, 270), (0, w)] f Q = Q (3, 0) f := by
  apply aw_det
  simp [q180, r180_0, r180_1, r180_4, r180_7, cs_nil, cs_cons, lc_lt, lc_ge, lc_gt, lc_le, lc_eq, hb]
end
