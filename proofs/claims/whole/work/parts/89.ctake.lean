/-! the class's takers: what it sees, takes, writes down -/
section
variable {d : Nat} {f : am_F} {B : Int → Int} {N κ p R sA s : Int} {Q : am_V → am_F → Prop}
/-- the class reads parts of kind κ into the rules at R -/
def CU (f : am_F) (B : Int → Int) (N κ R sA : Int) : Prop := CT f B N ∧ (f 33 2 = R ∧ f 33 3 = κ ∧ f R 0 = sA) ∧ ((R = 10 ∨ R = 29 ∨ R = 16) ∧ sA = R + 1)
theorem CU_len (h : CU f B N κ R sA) : am_len aw_SH sA = 1616 := by
  obtain ⟨_, _, h3, h4⟩ := h
  rcases h3 with rfl | rfl | rfl
  · rw [h4]; exact ln_11
  · rw [h4]; exact ln_30
  · rw [h4]; exact ln_17
/-- what reading leaves as it was -/
def fP (R sA s : Int) (f g : am_F) : Prop := ∀ c j : Int, ¬ ((c = 33 ∧ (4 ≤ j ∧ j ≤ 9)) ∨ (c = R ∧ j = 3) ∨ (c = sA ∧ s ≤ j)) → g c j = f c j
/-- what reading leaves as it was, where it meets a fault -/
def fPw (R sA s : Int) (f g : am_F) : Prop := ∀ c j : Int, ¬ ((c = 33 ∧ ((4 ≤ j ∧ j ≤ 9) ∨ j = 11 ∨ j = 12)) ∨ (c = R ∧ j = 3) ∨ (c = sA ∧ s ≤ j)) → g c j = f c j
theorem fP_tr {g h : am_F} {s' : Int} (hs : s ≤ s') (h1 : fP R sA s f g) (h2 : fP R sA s' g h) : fP R sA s f h := fun c j hc => (h2 c j (by omega)).trans (h1 c j hc)
theorem fPw_tr {g h : am_F} {s' : Int} (hs : s ≤ s') (h1 : fP R sA s f g) (h2 : fPw R sA s' g h) : fPw R sA s f h := fun c j hc => (h2 c j (by omega)).trans (h1 c j (by omega))
theorem CU_fP {g : am_F} (h : CU f B N κ R sA) (hg : fP R sA s f g) (hs : 0 ≤ s) : CU g B N κ R sA := by
  obtain ⟨h1, ⟨h2, h3, h4⟩, h5, h6⟩ := h
  refine ⟨?_, ⟨?_, ?_, ?_⟩, h5, h6⟩
  · obtain ⟨a1, a2, a3, a4⟩ := h1
    refine ⟨?_, ?_, ?_, fun j => ?_⟩
    · rw [hg _ _ (by omega)]; exact a1
    · rw [hg _ _ (by omega)]; exact a2
    · rw [hg _ _ (by omega)]; exact a3
    · rw [hg _ _ (by omega)]; exact a4 j
  · rw [hg _ _ (by omega)]; exact h2
  · rw [hg _ _ (by omega)]; exact h3
  · rw [hg _ _ (by omega)]; exact h4
theorem c_seesW (h : CK f B N p) {k : Int} (hk : 0 ≤ k) : aw_cl d 34 [(104, 33), (0, k)] f Q = Q (0, if tW B N p = k then 1 else 0) f := by
  obtain ⟨a1, a2, a3, a4, a5⟩ := h
  apply aw_det
  by_cases h1 : tW B N p = k
  · have k1 : tK B N p = 1 := tW_k (by omega)
    simp [q34, r34_0, r34_1, r34_4, r34_5, r34_8, r34_9, r34_12, r34_13, r34_16, r34_17, r34_20, r34_21, cs_nil, cs_cons, lc_lt, lc_ge, lc_gt, lc_le, lc_eq, a1, a4, k1, h1]
  · by_cases k1 : tK B N p = 1
    · simp [q34, r34_0, r34_1, r34_4, r34_5, r34_8, r34_9, r34_12, r34_13, r34_16, r34_17, r34_20, r34_21, cs_nil, cs_cons, lc_lt, lc_ge, lc_gt, lc_le, lc_eq, a1, a4, k1, h1]
    · simp [q34, r34_0, r34_1, r34_4, r34_5, r34_8, r34_9, r34_12, r34_13, r34_16, r34_17, r34_20, r34_21, cs_nil, cs_cons, lc_lt, lc_ge, lc_gt, lc_le, lc_eq, a1, k1, h1]
theorem c_seesS (h : CK f B N p) {c : Int} : aw_cl d 44 [(104, 33), (0, c)] f Q = Q (0, if isg B N p c = true then 1 else 0) f := by
  obtain ⟨a1, a2, a3, a4, a5⟩ := h
  apply aw_det
  unfold isg
  by_cases k1 : tK B N p = 3
  · by_cases h1 : tV B N p = c
    · simp [q44, r44_0, r44_1, r44_4, r44_5, r44_8, r44_9, r44_12, r44_13, r44_16, r44_17, r44_20, r44_21, cs_nil, cs_cons, lc_lt, lc_ge, lc_gt, lc_le, lc_eq, a1, a5, k1, h1]
    · simp [q44, r44_0, r44_1, r44_4, r44_5, r44_8, r44_9, r44_12, r44_13, r44_16, r44_17, r44_20, r44_21, cs_nil, cs_cons, lc_lt, lc_ge, lc_gt, lc_le, lc_eq, a1, a5, k1, h1]
  · simp [q44, r44_0, r44_1, r44_4, r44_5, r44_8, r44_9, r44_12, r44_13, r44_16, r44_17, r44_20, r44_21, cs_nil, cs_cons, lc_lt, lc_ge, lc_gt, lc_le, lc_eq, a1, k1]
theorem c_fail {k q : Int} : aw_cl d 28 [(104, 33), (0, k), (0, q)] f Q = Q (0, 0) (am_up (am_up f 33 11 k) 33 12 q) := by
  apply aw_det
  simp [q28, r28_0, r28_1, r28_2, r28_5, r28_6, r28_7, r28_10, r28_11, cs_nil, cs_cons, lc_lt, lc_ge, lc_gt, lc_le, lc_eq]
theorem c_wrong (h : CK f B N p) : aw_cl (d + 1) 27 [(104, 33)] f Q = Q (0, 0) (am_up (am_up f 33 11 1) 33 12 (tS B N p)) := by
  apply aw_det
  simp [q27, r27_0, r27_1, r27_2, r27_3, r27_6, r27_9, cs_nil, cs_cons, lc_lt, lc_ge, lc_gt, lc_le, lc_eq, h.2.1, c_fail]
theorem c_openY {o : Int} (ho : o < 6) : aw_cl (d + 1) 42 [(104, 33), (0, o)] f Q = Q (0, 1) f := by
  apply aw_det
  simp (disch := omega) [q42, r42_0, r42_1, r42_3, r42_6, r42_7, r42_8, r42_9, r42_12, r42_15, r42_18, r42_19, r42_22, r42_23, cs_nil, cs_cons, lc_lt, lc_ge, lc_gt, lc_le, lc_eq, le_T, lt_T, le_F, lt_F]
theorem c_openN {o : Int} (h : CK f B N p) (ho : 6 ≤ o) : aw_cl (d + 1) 42 [(104, 33), (0, o)] f Q = Q (0, 0) (am_up (am_up f 33 11 4) 33 12 (tS B N p)) := by
  apply aw_det
  simp (disch := omega) [q42, r42_0, r42_1, r42_3, r42_6, r42_7, r42_8, r42_9, r42_12, r42_15, r42_18, r42_19, r42_22, r42_23, cs_nil, cs_cons, lc_lt, lc_ge, lc_gt, lc_le, lc_eq, le_T, lt_T, le_F, lt_F, h.2.1, c_fail]
theorem c_add (h : CU f B N κ R sA) (hs : f R 3 = s) (h0 : 0 ≤ s) (h1 : s < 1616) {v : Int} : aw_cl d 43 [(106, R), (0, v)] f Q = Q (0, 1) (am_up (am_up f R 3 (s + 1)) sA s v) := by
  have hl := CU_len h
  obtain ⟨_, ⟨_, _, e4⟩, h5, h6⟩ := h
  have r0 : 0 ≤ R := by omega
  have s0 : 0 ≤ sA := by omega
  apply aw_det
  simp (disch := omega) [q43, r43_0, r43_1, r43_4, r43_5, r43_8, r43_9, r43_12, r43_13, r43_14, r43_15, r43_18, r43_19, r43_20, r43_23, r43_24, r43_25, r43_26, r43_29, r43_30, r43_31, r43_32, cs_nil, cs_cons, lc_lt, lc_ge, lc_gt, lc_le, lc_eq, hs, e4, hl, r0, s0, am_un, am_wid2, am_fitE, le_T, lt_T, le_F, lt_F]
theorem CK_fr {g : am_F} (h : CK f B N p) (hg : ∀ j : Int, 4 ≤ j → j ≤ 8 → g 33 j = f 33 j) : CK g B N p := by
  obtain ⟨a1, a2, a3, a4, a5⟩ := h
  refine ⟨?_, ?_, ?_, ?_, ?_⟩
  · rw [hg _ (by omega) (by omega)]; exact a1
  · rw [hg _ (by omega) (by omega)]; exact a2
  · rw [hg _ (by omega) (by omega)]; exact a3
  · rw [hg _ (by omega) (by omega)]; exact a4
  · rw [hg _ (by omega) (by omega)]; exact a5
theorem c_takeSY {c : Int} (h : CT f B N) (hN : N ≤ 1600) (hB : ∀ j, 0 ≤ B j ∧ B j ≤ 255) (hk : CK f B N p) (h0 : 0 ≤ p) (h1 : p ≤ N) (hg : isg B N p c = true) (hQ : ∀ g, CK g B N (tE B N p) → (∀ c j : Int, ¬ (c = 33 ∧ 4 ≤ j ∧ j ≤ 8) → g c j = f c j) → Q (0, 1) g) : aw_cl (d + 3) 45 [(104, 33), (0, c)] f Q := by
  have g1 := isg_b h1 hg
  simp (disch := omega) [q45, r45_0, r45_1, r45_2, r45_5, r45_8, r45_9, r45_12, r45_15, r45_16, r45_19, cs_nil, cs_cons, lc_lt, lc_ge, lc_gt, lc_le, lc_eq, c_seesS hk, hg]
  refine c_adv h hN hB hk.2.2.1 (by omega) g1.2 ?_
  intro g q1 q2
  have := hQ g q1 q2
  simpa [q45, r45_0, r45_1, r45_2, r45_5, r45_8, r45_9, r45_12, r45_15, r45_16, r45_19, cs_nil, cs_cons, lc_lt, lc_ge, lc_gt, lc_le, lc_eq] using this
theorem c_takeSN {c : Int} (hk : CK f B N p) (hg : ¬ isg B N p c = true) : aw_cl (d + 3) 45 [(104, 33), (0, c)] f Q = Q (0, 0) (am_up (am_up f 33 11 1) 33 12 (tS B N p)) := by
  apply aw_det
  simp (disch := omega) [q45, r45_0, r45_1, r45_2, r45_5, r45_8, r45_9, r45_12, r45_15, r45_16, r45_19, cs_nil, cs_cons, lc_lt, lc_ge, lc_gt, lc_le, lc_eq, c_seesS hk, hg, c_wrong hk]
end
