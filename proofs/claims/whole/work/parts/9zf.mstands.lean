/-! islands: the model takes over what it was told -/
section
variable {d : Nat} {f g : am_F} {B : Int → Int} {N p cd : Int} {Q : am_V → am_F → Prop} {I : IS}
def cpd (f g : am_F) (c o n : Int) : Prop := ∀ i : Int, 0 ≤ i → i < n → g c (o + i) = f c i
theorem st_1 (x39 : f 270 39 = 301) (hQ : ∀ g, cpd f g 301 3 3 → (∀ c j : Int, ¬ (c = 301 ∧ 3 ≤ j) → g c j = f c j) → aw_wp d 205 29 [(110, 270), (0, 0)] [] g Q) : aw_wp d 205 2 [(110, 270), (0, 0)] [] f Q := by
  have key : ∀ (j : Nat) (k : Int) (h : am_F), k + j = 3 → 0 ≤ k → cpd f h 301 3 k → (∀ c j : Int, ¬ (c = 301 ∧ 3 ≤ j) → h c j = f c j) → aw_wp d 205 2 [(110, 270), (0, k)] [] h Q := by
    intro j
    induction j with
    | zero =>
      intro k h hk k0 hc fr
      have : k = 3 := by omega
      subst this
      have := hQ h hc fr
      rw [r205_2]
      simpa (disch := omega) [r205_3, r205_4, r205_7, r205_8, r205_11, r205_12, r205_13, r205_14, r205_15, r205_18, r205_19, r205_20, r205_21, r205_24, r205_27, r205_28, cs_nil, cs_cons, lc_lt, lc_ge, lc_gt, lc_le, lc_eq, le_T, lt_T, le_F, lt_F] using this
    | succ j ih =>
      intro k h hk k0 hc fr
      have y39 : h 270 39 = 301 := (fr _ _ (by omega)).trans x39
      have ih' := ih (k + 1) (am_up h 301 (3 + k) (h 301 k)) (by omega) (by omega) (fun i i0 i1 => by
        by_cases q : i = k
        · rw [q, am_ue]; exact fr _ _ (by omega)
        · rw [am_un (by omega)]; exact hc i i0 (by omega)) (fun c j hj => by rw [am_un (by omega)]; exact fr c j hj)
      clear hc fr ih
      rw [r205_2]
      simpa (disch := omega) [r205_3, r205_4, r205_7, r205_8, r205_11, r205_12, r205_13, r205_14, r205_15, r205_18, r205_19, r205_20, r205_21, r205_24, cs_nil, cs_cons, lc_lt, lc_ge, lc_gt, lc_le, lc_eq, y39, ln_301, am_wid2, am_fitE, le_T, lt_T, le_F, lt_F] using ih'
  exact key 3 0 f (by omega) (by omega) (fun i a b => absurd b (by omega)) (fun _ _ _ => rfl)
theorem st_2 (x40 : f 270 40 = 302) (x41 : f 270 41 = 303) (hQ : ∀ g, cpd f g 302 24 24 → cpd f g 303 24 24 → (∀ c j : Int, ¬ ((c = 302 ∨ c = 303) ∧ 24 ≤ j) → g c j = f c j) → aw_wp d 205 73 [(110, 270), (0, 0)] [] g Q) : aw_wp d 205 29 [(110, 270), (0, 0)] [] f Q := by
  have key : ∀ (j : Nat) (k : Int) (h : am_F), k + j = 24 → 0 ≤ k → cpd f h 302 24 k → cpd f h 303 24 k → (∀ c j : Int, ¬ ((c = 302 ∨ c = 303) ∧ 24 ≤ j) → h c j = f c j) → aw_wp d 205 29 [(110, 270), (0, k)] [] h Q := by
    intro j
    induction j with
    | zero =>
      intro k h hk k0 hc hc2 fr
      have : k = 24 := by omega
      subst this
      have := hQ h hc hc2 fr
      rw [r205_29]
      simpa (disch := omega) [r205_30, r205_32, cs_nil, cs_cons, lc_lt, lc_ge, lc_gt, lc_le, lc_eq, r205_71, r205_72, le_T, lt_T, le_F, lt_F] using this
    | succ j ih =>
      intro k h hk k0 hc hc2 fr
      have y40 : h 270 40 = 302 := (fr _ _ (by omega)).trans x40
      have y41 : h 270 41 = 303 := (fr _ _ (by omega)).trans x41
      have ih' := ih (k + 1) (am_up (am_up h 302 (24 + k) (h 302 k)) 303 (24 + k) (h 303 k)) (by omega) (by omega) (fun i i0 i1 => by
        by_cases q : i = k
        · rw [q, am_un (by omega), am_ue]; exact fr _ _ (by omega)
        · rw [am_un (by omega), am_un (by omega)]; exact hc i i0 (by omega)) (fun i i0 i1 => by
        by_cases q : i = k
        · rw [q, am_ue]; exact fr _ _ (by omega)
        · rw [am_un (by omega), am_un (by omega)]; exact hc2 i i0 (by omega)) (fun c j hj => by rw [am_un (by omega), am_un (by omega)]; exact fr c j hj)
      clear hc hc2 fr ih
      rw [r205_29]
      simpa (disch := omega) [r205_30, r205_32, r205_35, r205_36, r205_39, r205_41, r205_42, r205_43, r205_44, r205_47, r205_48, r205_49, r205_50, r205_51, r205_54, r205_56, r205_57, r205_58, r205_59, r205_62, r205_63, r205_64, r205_65, r205_68, cs_nil, cs_cons, lc_lt, lc_ge, lc_gt, lc_le, lc_eq, y40, y41, ln_302, ln_303, am_un, am_wid2, am_fitE, le_T, lt_T, le_F, lt_F] using ih'
  exact key 24 0 f (by omega) (by omega) (fun i a b => absurd b (by omega)) (fun i a b => absurd b (by omega)) (fun _ _ _ => rfl)
theorem st_3 (x42 : f 270 42 = 304) (hQ : ∀ g, cpd f g 304 8 8 → g 270 44 = f 270 43 → (∀ c j : Int, ¬ ((c = 304 ∧ 8 ≤ j) ∨ (c = 270 ∧ j = 44)) → g c j = f c j) → aw_wp d 205 110 [(110, 270), (0, 0)] [] g Q) : aw_wp d 205 73 [(110, 270), (0, 0)] [] f Q := by
  have key : ∀ (j : Nat) (k : Int) (h : am_F), k + j = 8 → 0 ≤ k → cpd f h 304 8 k → (∀ c j : Int, ¬ (c = 304 ∧ 8 ≤ j) → h c j = f c j) → aw_wp d 205 73 [(110, 270), (0, k)] [] h Q := by
    intro j
    induction j with
    | zero =>
      intro k h hk k0 hc fr
      have : k = 8 := by omega
      subst this
      have := hQ (am_up h 270 44 (h 270 43)) (fun i a b => by rw [am_un (by omega)]; exact hc i a b) (by rw [am_ue]; exact fr _ _ (by omega)) (fun c j hj => by rw [am_un (by omega)]; exact fr c j (by omega))
      rw [r205_73]
      simpa (disch := omega) [r205_74, r205_76, cs_nil, cs_cons, lc_lt, lc_ge, lc_gt, lc_le, lc_eq, r205_100, r205_101, r205_102, r205_105, r205_108, r205_109, le_T, lt_T, le_F, lt_F] using this
    | succ j ih =>
      intro k h hk k0 hc fr
      have y42 : h 270 42 = 304 := (fr _ _ (by omega)).trans x42
      have ih' := ih (k + 1) (am_up h 304 (8 + k) (h 304 k)) (by omega) (by omega) (fun i i0 i1 => by
        by_cases q : i = k
        · rw [q, am_ue]; exact fr _ _ (by omega)
        · rw [am_un (by omega)]; exact hc i i0 (by omega)) (fun c j hj => by rw [am_un (by omega)]; exact fr c j hj)
      clear hc fr ih
      rw [r205_73]
      simpa (disch := omega) [r205_74, r205_76, r205_79, r205_80, r205_83, r205_85, r205_86, r205_87, r205_88, r205_91, r205_92, r205_93, r205_94, r205_97, cs_nil, cs_cons, lc_lt, lc_ge, lc_gt, lc_le, lc_eq, y42, ln_304, am_wid2, am_fitE, le_T, lt_T, le_F, lt_F] using ih'
  exact key 8 0 f (by omega) (by omega) (fun i a b => absurd b (by omega)) (fun _ _ _ => rfl)
theorem st_4 (x45 : f 270 45 = 305) (x46 : f 270 46 = 306) (hQ : ∀ g, cpd f g 305 10 10 → cpd f g 306 10 10 → (∀ c j : Int, ¬ ((c = 305 ∨ c = 306) ∧ 10 ≤ j) → g c j = f c j) → aw_wp d 205 154 [(110, 270), (0, 0)] [] g Q) : aw_wp d 205 110 [(110, 270), (0, 0)] [] f Q := by
  have key : ∀ (j : Nat) (k : Int) (h : am_F), k + j = 10 → 0 ≤ k → cpd f h 305 10 k → cpd f h 306 10 k → (∀ c j : Int, ¬ ((c = 305 ∨ c = 306) ∧ 10 ≤ j) → h c j = f c j) → aw_wp d 205 110 [(110, 270), (0, k)] [] h Q := by
    intro j
    induction j with
    | zero =>
      intro k h hk k0 hc hc2 fr
      have : k = 10 := by omega
      subst this
      have := hQ h hc hc2 fr
      rw [r205_110]
      simpa (disch := omega) [r205_111, r205_113, cs_nil, cs_cons, lc_lt, lc_ge, lc_gt, lc_le, lc_eq, r205_152, r205_153, le_T, lt_T, le_F, lt_F] using this
    | succ j ih =>
      intro k h hk k0 hc hc2 fr
      have y40 : h 270 45 = 305 := (fr _ _ (by omega)).trans x45
      have y41 : h 270 46 = 306 := (fr _ _ (by omega)).trans x46
      have ih' := ih (k + 1) (am_up (am_up h 305 (10 + k) (h 305 k)) 306 (10 + k) (h 306 k)) (by omega) (by omega) (fun i i0 i1 => by
        by_cases q : i = k
        · rw [q, am_un (by omega), am_ue]; exact fr _ _ (by omega)
        · rw [am_un (by omega), am_un (by omega)]; exact hc i i0 (by omega)) (fun i i0 i1 => by
        by_cases q : i = k
        · rw [q, am_ue]; exact fr _ _ (by omega)
        · rw [am_un (by omega), am_un (by omega)]; exact hc2 i i0 (by omega)) (fun c j hj => by rw [am_un (by omega), am_un (by omega)]; exact fr c j hj)
      clear hc hc2 fr ih
      rw [r205_110]
      simpa (disch := omega) [r205_111, r205_113, r205_116, r205_117, r205_120, r205_122, r205_123, r205_124, r205_125, r205_128, r205_129, r205_130, r205_131, r205_132, r205_135, r205_137, r205_138, r205_139, r205_140, r205_143, r205_144, r205_145, r205_146, r205_149, cs_nil, cs_cons, lc_lt, lc_ge, lc_gt, lc_le, lc_eq, y40, y41, ln_305, ln_306, am_un, am_wid2, am_fitE, le_T, lt_T, le_F, lt_F] using ih'
  exact key 10 0 f (by omega) (by omega) (fun i a b => absurd b (by omega)) (fun i a b => absurd b (by omega)) (fun _ _ _ => rfl)
theorem st_5 (x47 : f 270 47 = 307) (h48 : f 270 48 = cd) (c0 : 0 ≤ cd) (c1 : cd ≤ 1600) (hQ : ∀ g, cpd f g 307 1600 cd → (∀ c j : Int, ¬ (c = 307 ∧ 1600 ≤ j) → g c j = f c j) → aw_wp d 205 186 [(110, 270), (0, 0)] [] g Q) : aw_wp d 205 154 [(110, 270), (0, 0)] [] f Q := by
  have key : ∀ (j : Nat) (k : Int) (h : am_F), k + j = cd → 0 ≤ k → cpd f h 307 1600 k → (∀ c j : Int, ¬ (c = 307 ∧ 1600 ≤ j) → h c j = f c j) → aw_wp d 205 154 [(110, 270), (0, k)] [] h Q := by
    intro j
    induction j with
    | zero =>
      intro k h hk k0 hc fr
      have : k = cd := by omega
      subst this
      have y48 : h 270 48 = k := (fr _ _ (by omega)).trans h48
      have := hQ h hc fr
      rw [r205_154]
      simpa (disch := omega) [r205_155, r205_156, r205_159, cs_nil, cs_cons, lc_lt, lc_ge, lc_gt, lc_le, lc_eq, r205_184, r205_185, y48, le_T, lt_T, le_F, lt_F] using this
    | succ j ih =>
      intro k h hk k0 hc fr
      have y47 : h 270 47 = 307 := (fr _ _ (by omega)).trans x47
      have y48 : h 270 48 = cd := (fr _ _ (by omega)).trans h48
      have ih' := ih (k + 1) (am_up h 307 (1600 + k) (h 307 k)) (by omega) (by omega) (fun i i0 i1 => by
        by_cases q : i = k
        · rw [q, am_ue]; exact fr _ _ (by omega)
        · rw [am_un (by omega)]; exact hc i i0 (by omega)) (fun c j hj => by rw [am_un (by omega)]; exact fr c j hj)
      clear hc fr ih
      rw [r205_154]
      simpa (disch := omega) [r205_155, r205_156, r205_159, r205_162, r205_163, r205_166, r205_169, r205_170, r205_171, r205_172, r205_175, r205_176, r205_177, r205_178, r205_181, cs_nil, cs_cons, lc_lt, lc_ge, lc_gt, lc_le, lc_eq, y47, y48, ln_307, am_wid2, am_fitE, le_T, lt_T, le_F, lt_F] using ih'
  exact key cd.toNat 0 f (by omega) (by omega) (fun i a b => absurd b (by omega)) (fun _ _ _ => rfl)
theorem st_6 (x51 : f 270 51 = 308) (hQ : ∀ g, (∀ i : Int, 0 ≤ i → i < 192 → g 308 i = 0) → g 270 65 = 0 → (∀ c j : Int, ¬ ((c = 308 ∧ 0 ≤ j ∧ j < 192) ∨ (c = 270 ∧ j = 65)) → g c j = f c j) → Q (3, 0) g) : aw_wp d 205 186 [(110, 270), (0, 0)] [] f Q := by
  have key : ∀ (j : Nat) (k : Int) (h : am_F), k + j = 192 → 0 ≤ k → (∀ i : Int, 0 ≤ i → i < k → h 308 i = 0) → (∀ c j : Int, ¬ (c = 308 ∧ 0 ≤ j ∧ j < 192) → h c j = f c j) → aw_wp d 205 186 [(110, 270), (0, k)] [] h Q := by
    intro j
    induction j with
    | zero =>
      intro k h hk k0 hc fr
      have : k = 192 := by omega
      subst this
      have := hQ (am_up h 270 65 0) (fun i a b => by rw [am_un (by omega)]; exact hc i a b) am_ue (fun c j hj => by rw [am_un (by omega)]; exact fr c j (by omega))
      rw [r205_186]
      simpa (disch := omega) [r205_187, r205_190, cs_nil, cs_cons, lc_lt, lc_ge, lc_gt, lc_le, lc_eq, r205_206, r205_207, r205_208, r205_211, le_T, lt_T, le_F, lt_F] using this
    | succ j ih =>
      intro k h hk k0 hc fr
      have y51 : h 270 51 = 308 := (fr _ _ (by omega)).trans x51
      have ih' := ih (k + 1) (am_up h 308 k 0) (by omega) (by omega) (fun i i0 i1 => by
        by_cases q : i = k
        · rw [q, am_ue]
        · rw [am_un (by omega)]; exact hc i i0 (by omega)) (fun c j hj => by rw [am_un (by omega)]; exact fr c j hj)
      clear hc fr ih
      rw [r205_186]
      simpa (disch := omega) [r205_187, r205_190, r205_193, r205_194, r205_197, r205_198, r205_199, r205_200, r205_203, cs_nil, cs_cons, lc_lt, lc_ge, lc_gt, lc_le, lc_eq, y51, ln_308, am_wid2, am_fitE, le_T, lt_T, le_F, lt_F] using ih'
  exact key 192 0 f (by omega) (by omega) (fun i a b => absurd b (by omega)) (fun _ _ _ => rfl)
def S0 (f g : am_F) (cd : Int) : Prop := (cpd f g 301 3 3 ∧ cpd f g 302 24 24 ∧ cpd f g 303 24 24 ∧ cpd f g 304 8 8 ∧ cpd f g 305 10 10 ∧ cpd f g 306 10 10 ∧ cpd f g 307 1600 cd) ∧ (∀ i : Int, 0 ≤ i → i < 192 → g 308 i = 0) ∧ g 270 44 = f 270 43 ∧ g 270 65 = 0
def fS0 (f g : am_F) : Prop := ∀ c j : Int, ¬ ((c = 301 ∧ 3 ≤ j) ∨ ((c = 302 ∨ c = 303) ∧ 24 ≤ j) ∨ (c = 304 ∧ 8 ≤ j) ∨ ((c = 305 ∨ c = 306) ∧ 10 ≤ j) ∨ (c = 307 ∧ 1600 ≤ j) ∨ (c = 308 ∧ 0 ≤ j ∧ j < 192) ∨ (c = 270 ∧ (j = 44 ∨ j = 65))) → g c j = f c j
theorem m_stands0 (hx : aw_fx f) (h48 : f 270 48 = cd) (c0 : 0 ≤ cd) (c1 : cd ≤ 1600) (hQ : ∀ g, S0 f g cd → fS0 f g → Q (3, 0) g) : aw_cl d 205 [(110, 270)] f Q := by
  have x39 := fx_270_39 hx
  have x40 := fx_270_40 hx
  have x41 := fx_270_41 hx
  have x42 := fx_270_42 hx
  have x45 := fx_270_45 hx
  have x46 := fx_270_46 hx
  have x47 := fx_270_47 hx
  have x51 := fx_270_51 hx
  have : aw_wp d 205 2 [(110, 270), (0, 0)] [] f Q := by
    refine st_1 x39 (fun g1 a1 r1 => st_2 (by rw [r1 _ _ (by omega)]; exact x40) (by rw [r1 _ _ (by omega)]; exact x41) (fun g2 a2 b2 r2 => st_3 (by rw [r2 _ _ (by omega), r1 _ _ (by omega)]; exact x42) (fun g3 a3 e3 r3 => st_4 (by rw [r3 _ _ (by omega), r2 _ _ (by omega), r1 _ _ (by omega)]; exact x45) (by rw [r3 _ _ (by omega), r2 _ _ (by omega), r1 _ _ (by omega)]; exact x46) (fun g4 a4 b4 r4 => st_5 (cd := cd) (by rw [r4 _ _ (by omega), r3 _ _ (by omega), r2 _ _ (by omega), r1 _ _ (by omega)]; exact x47) (by rw [r4 _ _ (by omega), r3 _ _ (by omega), r2 _ _ (by omega), r1 _ _ (by omega)]; exact h48) c0 c1 (fun g5 a5 r5 => st_6 (by rw [r5 _ _ (by omega), r4 _ _ (by omega), r3 _ _ (by omega), r2 _ _ (by omega), r1 _ _ (by omega)]; exact x51) (fun g6 a6 e6 r6 => hQ g6 ?_ ?_))))))
    · refine ⟨⟨?_, ?_, ?_, ?_, ?_, ?_, ?_⟩, a6, ?_, e6⟩
      · intro i i0 i1
        rw [r6 _ _ (by omega), r5 _ _ (by omega), r4 _ _ (by omega), r3 _ _ (by omega), r2 _ _ (by omega), a1 i i0 i1]
      · intro i i0 i1
        rw [r6 _ _ (by omega), r5 _ _ (by omega), r4 _ _ (by omega), r3 _ _ (by omega), a2 i i0 i1, r1 _ _ (by omega)]
      · intro i i0 i1
        rw [r6 _ _ (by omega), r5 _ _ (by omega), r4 _ _ (by omega), r3 _ _ (by omega), b2 i i0 i1, r1 _ _ (by omega)]
      · intro i i0 i1
        rw [r6 _ _ (by omega), r5 _ _ (by omega), r4 _ _ (by omega), a3 i i0 i1, r2 _ _ (by omega), r1 _ _ (by omega)]
      · intro i i0 i1
        rw [r6 _ _ (by omega), r5 _ _ (by omega), a4 i i0 i1, r3 _ _ (by omega), r2 _ _ (by omega), r1 _ _ (by omega)]
      · intro i i0 i1
        rw [r6 _ _ (by omega), r5 _ _ (by omega), b4 i i0 i1, r3 _ _ (by omega), r2 _ _ (by omega), r1 _ _ (by omega)]
      · intro i i0 i1
        rw [r6 _ _ (by omega), a5 i i0 i1, r4 _ _ (by omega), r3 _ _ (by omega), r2 _ _ (by omega), r1 _ _ (by omega)]
      · rw [r6 _ _ (by omega), r5 _ _ (by omega), r4 _ _ (by omega), e3, r2 _ _ (by omega), r1 _ _ (by omega)]
    · intro c j hc
      rw [r6 _ _ (by omega), r5 _ _ (by omega), r4 _ _ (by omega), r3 _ _ (by omega), r2 _ _ (by omega), r1 _ _ (by omega)]
  simpa [q205, r205_0, r205_1, cs_nil, cs_cons, lc_lt, lc_ge, lc_gt, lc_le, lc_eq] using this
end
