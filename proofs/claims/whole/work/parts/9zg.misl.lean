/-! island, the other side -/
section
variable {d : Nat} {f g : am_F} {B : Int → Int} {N p cd : Int} {Q : am_V → am_F → Prop} {I : IS}
theorem is_1 (x39 : f 270 39 = 301) (hQ : ∀ g, (∀ i : Int, 0 ≤ i → i < 3 → g 301 i = 0) → (∀ c j : Int, ¬ (c = 301 ∧ 0 ≤ j ∧ j < 3) → g c j = f c j) → aw_wp d 161 65 [(110, 270), (0, 0)] [] g Q) : aw_wp d 161 45 [(110, 270), (0, 0)] [] f Q := by
  have key : ∀ (j : Nat) (k : Int) (h : am_F), k + j = 3 → 0 ≤ k → (∀ i : Int, 0 ≤ i → i < k → h 301 i = 0) → (∀ c j : Int, ¬ (c = 301 ∧ 0 ≤ j ∧ j < 3) → h c j = f c j) → aw_wp d 161 45 [(110, 270), (0, k)] [] h Q := by
    intro j
    induction j with
    | zero =>
      intro k h hk k0 hc fr
      have : k = 3 := by omega
      subst this
      have := hQ h hc fr
      rw [r161_45]
      simpa (disch := omega) [r161_46, r161_47, cs_nil, cs_cons, lc_lt, lc_ge, lc_gt, lc_le, lc_eq, r161_63, r161_64, le_T, lt_T, le_F, lt_F] using this
    | succ j ih =>
      intro k h hk k0 hc fr
      have y39 : h 270 39 = 301 := (fr _ _ (by omega)).trans x39
      have ih' := ih (k + 1) (am_up h 301 k 0) (by omega) (by omega) (fun i i0 i1 => by
        by_cases q : i = k
        · rw [q, am_ue]
        · rw [am_un (by omega)]; exact hc i i0 (by omega)) (fun c j hj => by rw [am_un (by omega)]; exact fr c j hj)
      clear hc fr ih
      rw [r161_45]
      simpa (disch := omega) [r161_46, r161_47, r161_50, r161_51, r161_54, r161_55, r161_56, r161_57, r161_60, cs_nil, cs_cons, lc_lt, lc_ge, lc_gt, lc_le, lc_eq, y39, ln_301, am_wid2, am_fitE, le_T, lt_T, le_F, lt_F] using ih'
  exact key 3 0 f (by omega) (by omega) (fun i a b => absurd b (by omega)) (fun _ _ _ => rfl)
theorem is_2 (x45 : f 270 45 = 305) (hQ : ∀ g, (∀ i : Int, 0 ≤ i → i < 10 → g 305 i = -1) → g 270 43 = 0 → (∀ c j : Int, ¬ ((c = 305 ∧ 0 ≤ j ∧ j < 10) ∨ (c = 270 ∧ j = 43)) → g c j = f c j) → aw_wp d 161 89 [(110, 270), (0, 10)] [] g Q) : aw_wp d 161 65 [(110, 270), (0, 0)] [] f Q := by
  have key : ∀ (j : Nat) (k : Int) (h : am_F), k + j = 10 → 0 ≤ k → (∀ i : Int, 0 ≤ i → i < k → h 305 i = -1) → (∀ c j : Int, ¬ (c = 305 ∧ 0 ≤ j ∧ j < 10) → h c j = f c j) → aw_wp d 161 65 [(110, 270), (0, k)] [] h Q := by
    intro j
    induction j with
    | zero =>
      intro k h hk k0 hc fr
      have : k = 10 := by omega
      subst this
      have := hQ (am_up h 270 43 0) (fun i a b => by rw [am_un (by omega)]; exact hc i a b) am_ue (fun c j hj => by rw [am_un (by omega)]; exact fr c j (by omega))
      rw [r161_65]
      simpa (disch := omega) [r161_66, r161_68, cs_nil, cs_cons, lc_lt, lc_ge, lc_gt, lc_le, lc_eq, r161_84, r161_85, r161_86, le_T, lt_T, le_F, lt_F] using this
    | succ j ih =>
      intro k h hk k0 hc fr
      have y39 : h 270 45 = 305 := (fr _ _ (by omega)).trans x45
      have ih' := ih (k + 1) (am_up h 305 k (-1)) (by omega) (by omega) (fun i i0 i1 => by
        by_cases q : i = k
        · rw [q, am_ue]
        · rw [am_un (by omega)]; exact hc i i0 (by omega)) (fun c j hj => by rw [am_un (by omega)]; exact fr c j hj)
      clear hc fr ih
      rw [r161_65]
      simpa (disch := omega) [r161_66, r161_68, r161_71, r161_72, r161_75, r161_76, r161_77, r161_78, r161_81, cs_nil, cs_cons, lc_lt, lc_ge, lc_gt, lc_le, lc_eq, y39, ln_305, am_wid2, am_fitE, le_T, lt_T, le_F, lt_F] using ih'
  exact key 10 0 f (by omega) (by omega) (fun i a b => absurd b (by omega)) (fun _ _ _ => rfl)
theorem al_cp {cd : Int} (h : cpd f g 307 1600 cd) : ∀ (cs : List Int) (k : Int), 0 ≤ k → k + cs.length ≤ cd → al f 307 id k cs → al g 307 id (1600 + k) cs
  | [], _, _, _, _ => trivial
  | x :: cs, k, k0, hl, ha => by
    rw [List.length_cons] at hl
    refine ⟨?_, ?_⟩
    · rw [h k k0 (by omega)]; exact ha.1
    · have := al_cp h cs (k + 1) (by omega) (by omega) ha.2
      rwa [show 1600 + k + 1 = 1600 + (k + 1) by omega]
/-- what the other side's island is, once taken over -/
def MJ (f : am_F) (I : IS) : Prop := (f 301 3 = I.1 0 ∧ f 301 4 = I.1 1 ∧ f 301 5 = I.1 2 ∧ f 270 44 = I.2.1 0 0) ∧ (∀ t, 0 ≤ t → t < I.1 0 → f 302 (24 + t) = nv (I.2.2.2.2 (0 + t)) ∧ f 303 (24 + 3 * t) = I.2.1 2 t ∧ f 303 (25 + 3 * t) = I.2.1 3 t ∧ f 303 (26 + 3 * t) = I.2.1 4 t) ∧ (∀ k, 0 ≤ k → k < I.1 1 → f 302 (32 + k) = nv (I.2.2.2.2 (8 + k)) ∧ f 304 (8 + 2 * k) = I.2.1 6 k ∧ f 304 (9 + 2 * k) = I.2.1 7 k) ∧ (∀ k, 0 ≤ k → k < I.1 2 → f 302 (40 + k) = nv (I.2.2.2.2 (16 + k))) ∧ (∀ w, 0 ≤ w → w < 10 → I.2.2.2.1 w = true → ∃ k0, f 305 (10 + w) = k0 ∧ f 306 (10 + w) = k0 + (I.2.2.1 w).length ∧ 0 ≤ k0 ∧ k0 + (I.2.2.1 w).length ≤ 1600 ∧ al f 307 id (1600 + k0) (I.2.2.1 w)) ∧ (∀ w, 0 ≤ w → w < 10 → ¬ I.2.2.2.1 w = true → f 305 (10 + w) = -1)
theorem MJ_of (h : MI f I cd) (hp : PI I) (hc : cd ≤ 1600) (hs : S0 f g cd) : MJ g I := by
  obtain ⟨⟨a0, a1, a2, a3, a4⟩, hT, hM, hR, hW, hU, h48, s0⟩ := h
  obtain ⟨⟨c1, c2, c3, c4, c5, c6, c7⟩, _, e44, _⟩ := hs
  obtain ⟨⟨p0, p1, p2⟩, _⟩ := hp
  refine ⟨⟨?_, ?_, ?_, ?_⟩, ?_, ?_, ?_, ?_, ?_⟩
  · rw [show (3 : Int) = 3 + 0 by omega, c1 0 (by omega) (by omega)]; exact a0
  · rw [show (4 : Int) = 3 + 1 by omega, c1 1 (by omega) (by omega)]; exact a1
  · rw [show (5 : Int) = 3 + 2 by omega, c1 2 (by omega) (by omega)]; exact a2
  · rw [e44]; exact a3
  · intro t t0 t1
    obtain ⟨x1, x2, x3, x4⟩ := hT t t0 t1
    refine ⟨?_, ?_, ?_, ?_⟩
    · rw [c2 t t0 (by omega), ← x1, show 0 + t = t by omega]
    · rw [c3 (3 * t) (by omega) (by omega)]; exact x2
    · rw [show 25 + 3 * t = 24 + (3 * t + 1) by omega, c3 (3 * t + 1) (by omega) (by omega)]; exact x3
    · rw [show 26 + 3 * t = 24 + (3 * t + 2) by omega, c3 (3 * t + 2) (by omega) (by omega)]; exact x4
  · intro t t0 t1
    obtain ⟨x1, x2, x3⟩ := hM t t0 t1
    refine ⟨?_, ?_, ?_⟩
    · rw [show 32 + t = 24 + (8 + t) by omega, c2 (8 + t) (by omega) (by omega)]; exact x1
    · rw [c4 (2 * t) (by omega) (by omega)]; exact x2
    · rw [show 9 + 2 * t = 8 + (2 * t + 1) by omega, c4 (2 * t + 1) (by omega) (by omega)]; exact x3
  · intro t t0 t1
    rw [show 40 + t = 24 + (16 + t) by omega, c2 (16 + t) (by omega) (by omega)]; exact hR t t0 t1
  · intro w w0 w1 hw
    obtain ⟨k0, a, b, c, e, al0⟩ := hW w w0 w1 hw
    refine ⟨k0, ?_, ?_, c, by omega, al_cp c7 _ _ c e al0⟩
    · rw [c5 w w0 w1]; exact a
    · rw [c6 w w0 w1]; exact b
  · intro w w0 w1 hw
    rw [c5 w w0 w1]; exact hU w w0 w1 hw
def fJw (f g : am_F) : Prop := ∀ c j : Int, ¬ ((c = 270 ∧ ((1 ≤ j ∧ j ≤ 8) ∨ j = 38 ∨ j = 43 ∨ (48 ≤ j ∧ j ≤ 50) ∨ j = 92 ∨ (94 ≤ j ∧ j ≤ 96))) ∨ (c = 272 ∧ j = 1) ∨ (c = 301 ∧ j < 3) ∨ ((c = 302 ∨ c = 303) ∧ j < 24) ∨ (c = 304 ∧ j < 8) ∨ ((c = 305 ∨ c = 306) ∧ j < 10) ∨ (c = 307 ∧ j < 1600) ∨ c = 340 ∨ c = 341) → g c j = f c j
def fJs (f g : am_F) : Prop := ∀ c j : Int, ¬ ((c = 270 ∧ ((1 ≤ j ∧ j ≤ 8) ∨ j = 38 ∨ j = 43 ∨ j = 44 ∨ (48 ≤ j ∧ j ≤ 50) ∨ j = 65 ∨ j = 92 ∨ (94 ≤ j ∧ j ≤ 96))) ∨ (301 ≤ c ∧ c ≤ 307) ∨ (c = 308 ∧ 0 ≤ j ∧ j < 192) ∨ c = 340 ∨ c = 341) → g c j = f c j
theorem MX_1 (h1 : aw_fx f) (h2 : aw_wd f) (hT : ∀ j, f 271 j = B j) (hg : ∀ c j : Int, ¬ ((c = 270 ∧ ((1 ≤ j ∧ j ≤ 6) ∨ j = 43 ∨ (48 ≤ j ∧ j ≤ 49))) ∨ (c = 301 ∧ j < 3) ∨ (c = 305 ∧ j < 10)) → g c j = f c j) (e3 : g 270 3 = N) : MX g B N := by
  have hX : MX (am_up f 270 3 N) B N := by
    refine ⟨⟨fun x hx => ?_, fun x hx => ?_⟩, am_ue, fun j => by rw [am_un (by omega)]; exact hT j⟩
    · have q := (SC_n (fx_n (l := 1) (Or.inl rfl) hx).1).2
      rw [am_un (by omega)]; exact h1 x hx
    · have q := (SC_n (wd_n (l := 1) (Or.inl rfl) hx).1).2
      rw [am_un (by omega)]; exact h2 x hx
  have hX2 : MX (am_up (am_up f 270 3 N) 270 1 (g 270 1)) B N := by
    refine ⟨⟨fun x hx => ?_, fun x hx => ?_⟩, by rw [am_un (by omega), am_ue], fun j => by rw [am_un (by omega)]; exact hX.2.2 j⟩
    · have q : ¬ (x.1 = 270 ∧ x.2.1 = 1) := fun e => (fx_n (l := 1) (Or.inl rfl) hx).2 (by
        right; right; right; right; right; right; right; right; right; right; right; right; right; right
        exact ⟨e.1, Or.inl e.2⟩)
      rw [am_un (by omega)]; exact hX.1.1 x hx
    · have q : ¬ (x.1 = 270 ∧ x.2.1 = 1) := fun e => (wd_n (l := 1) (Or.inl rfl) hx).2 (by
        right; right; right; right; right; right; right; right; right; right; right; right; right; right
        exact ⟨e.1, Or.inl e.2⟩)
      rw [am_un (by omega)]; exact hX.1.2 x hx
  refine MX_gIw hX2 (fun c j hc => ?_)
  by_cases q1 : c = 270 ∧ j = 1
  · rw [q1.1, q1.2, am_ue]
  by_cases q3 : c = 270 ∧ j = 3
  · rw [q3.1, q3.2, am_un (by omega), am_ue]; exact e3
  rw [am_un (by omega), am_un (by omega)]
  exact hg c j (by omega)
theorem m_island (hx : aw_fx f) (hw : aw_wd f) (h1 : f 270 1 = N) (hT : ∀ j, f 271 j = B j) (n0 : 0 ≤ N) (hN : N ≤ 1600) (hB : ∀ j, 0 ≤ B j ∧ B j ≤ 255) (hF : ∀ k q, il B N 80 I0 0 = .inl (k, q) → ∀ g, g 270 7 = k → g 270 8 = q → g 270 1 = 0 → g 272 1 = am_wI (f 272 1 + 1) → fJw f g → Q (0, -1) g) (hO : ∀ I', il B N 80 I0 0 = .inr I' → PI I' → ∀ g, MJ g I' → (∀ i : Int, 0 ≤ i → i < 192 → g 308 i = 0) → g 270 65 = 0 → g 270 7 = 0 → g 270 8 = -1 → g 270 1 = 0 → fJs f g → Q (0, I'.2.1 0 1) g) : aw_cl (d + 13) 161 [(110, 270)] f Q := by
  have x39 := fx_270_39 hx
  have x45 := fx_270_45 hx
  have st : aw_wp (d + 13) 161 45 [(110, 270), (0, 0)] [] (am_up (am_up (am_up (am_up (am_up (am_up (am_up (am_up f 270 3 N) 270 1 0) 270 2 0) 270 4 (-1)) 270 5 0) 270 6 (-1)) 270 49 0) 270 48 0) Q := by
    have fr0 : ∀ c j : Int, ¬ (c = 270 ∧ ((1 ≤ j ∧ j ≤ 6) ∨ (48 ≤ j ∧ j ≤ 49))) → (am_up (am_up (am_up (am_up (am_up (am_up (am_up (am_up f 270 3 N) 270 1 0) 270 2 0) 270 4 (-1)) 270 5 0) 270 6 (-1)) 270 49 0) 270 48 0) c j = f c j := fun c j hc => by rw [am_un (by omega), am_un (by omega), am_un (by omega), am_un (by omega), am_un (by omega), am_un (by omega), am_un (by omega), am_un (by omega)]
    have v3 : (am_up (am_up (am_up (am_up (am_up (am_up (am_up (am_up f 270 3 N) 270 1 0) 270 2 0) 270 4 (-1)) 270 5 0) 270 6 (-1)) 270 49 0) 270 48 0) 270 3 = N := by simp [am_up]
    have v1 : (am_up (am_up (am_up (am_up (am_up (am_up (am_up (am_up f 270 3 N) 270 1 0) 270 2 0) 270 4 (-1)) 270 5 0) 270 6 (-1)) 270 49 0) 270 48 0) 270 1 = 0 := by simp [am_up]
    have v2 : (am_up (am_up (am_up (am_up (am_up (am_up (am_up (am_up f 270 3 N) 270 1 0) 270 2 0) 270 4 (-1)) 270 5 0) 270 6 (-1)) 270 49 0) 270 48 0) 270 2 = 0 := by simp [am_up]
    have v4 : (am_up (am_up (am_up (am_up (am_up (am_up (am_up (am_up f 270 3 N) 270 1 0) 270 2 0) 270 4 (-1)) 270 5 0) 270 6 (-1)) 270 49 0) 270 48 0) 270 4 = -1 := by simp [am_up]
    have v5 : (am_up (am_up (am_up (am_up (am_up (am_up (am_up (am_up f 270 3 N) 270 1 0) 270 2 0) 270 4 (-1)) 270 5 0) 270 6 (-1)) 270 49 0) 270 48 0) 270 5 = 0 := by simp [am_up]
    have v6 : (am_up (am_up (am_up (am_up (am_up (am_up (am_up (am_up f 270 3 N) 270 1 0) 270 2 0) 270 4 (-1)) 270 5 0) 270 6 (-1)) 270 49 0) 270 48 0) 270 6 = -1 := by simp [am_up]
    have v49 : (am_up (am_up (am_up (am_up (am_up (am_up (am_up (am_up f 270 3 N) 270 1 0) 270 2 0) 270 4 (-1)) 270 5 0) 270 6 (-1)) 270 49 0) 270 48 0) 270 49 = 0 := by simp [am_up]
    have v48 : (am_up (am_up (am_up (am_up (am_up (am_up (am_up (am_up f 270 3 N) 270 1 0) 270 2 0) 270 4 (-1)) 270 5 0) 270 6 (-1)) 270 49 0) 270 48 0) 270 48 = 0 := by simp [am_up]
    generalize am_up (am_up (am_up (am_up (am_up (am_up (am_up (am_up f 270 3 N) 270 1 0) 270 2 0) 270 4 (-1)) 270 5 0) 270 6 (-1)) 270 49 0) 270 48 0 = F at *
    refine is_1 (by rw [fr0 _ _ (by omega)]; exact x39) (fun g1 z1 r1 => is_2 (by rw [r1 _ _ (by omega), fr0 _ _ (by omega)]; exact x45) (fun G z2 e43 r2 => ?_))
    have fr : ∀ c j : Int, ¬ ((c = 270 ∧ ((1 ≤ j ∧ j ≤ 6) ∨ j = 43 ∨ (48 ≤ j ∧ j ≤ 49))) ∨ (c = 301 ∧ 0 ≤ j ∧ j < 3) ∨ (c = 305 ∧ 0 ≤ j ∧ j < 10)) → G c j = f c j := fun c j hc => by rw [r2 _ _ (by omega), r1 _ _ (by omega), fr0 _ _ (by omega)]
    have gv : ∀ j : Int, ¬ j = 43 → G 270 j = F 270 j := fun j hj => by rw [r2 _ _ (by omega), r1 _ _ (by omega)]
    have y301 : ∀ i : Int, 0 ≤ i → i < 3 → G 301 i = 0 := fun i a b => by rw [r2 _ _ (by omega)]; exact z1 i a b
    have MX0 : MX G B N := MX_1 hx hw hT (fun c j hc => fr c j (by omega)) (by rw [gv _ (by omega)]; exact v3)
    have ts := tS_b (B := B) (N := N) (p := 0) n0
    have MI0 : MI G I0 0 := by
      refine ⟨⟨y301 0 (by omega) (by omega), y301 1 (by omega) (by omega), y301 2 (by omega) (by omega), e43, by rw [gv _ (by omega)]; exact v49⟩, ?_, ?_, ?_, ?_, ?_, by rw [gv _ (by omega)]; exact v48, by omega⟩
      · intro t a b
        have b : t < 0 := b
        omega
      · intro t a b
        have b : t < 0 := b
        omega
      · intro t a b
        have b : t < 0 := b
        omega
      · intro w _ _ hw
        cases hw
      · intro w w0 w1 _
        exact z2 w w0 w1
    have MM0 : MM G B N 0 I0 0 := ⟨MX0, ⟨by rw [gv 2 (by omega), v2]; exact ⟨Int.le_refl _, ts.1⟩, by rw [gv 4 (by omega), v4]; omega, by rw [gv 4 (by omega), v4]; constructor <;> (intro q; omega)⟩, ⟨by rw [gv 5 (by omega)]; exact v5, by rw [gv 6 (by omega)]; exact v6⟩, MI0, by omega, n0, by omega⟩
    have g1v : G 270 1 = 0 := by rw [gv 1 (by omega)]; exact v1
    clear v1 v2 v3 v4 v5 v6 v48 v49 fr0 r1 r2 z1 z2 gv y301 MI0 e43
    refine m_iloop (d := d) hN hB 80 I0 0 0 G (by show (0 : Int) + 80 = 80; omega) (Int.le_refl _) MM0 PI_0 ?_
    match hil : il B N 80 I0 0 with
    | .inl (k, q) =>
      intro k0 g e5 e6 fw
      have x9 : g 270 9 = 272 := (fw _ _ (by omega)).trans ((fr _ _ (by omega)).trans (fx_270_9 hx))
      have fr2 : ∀ c j : Int, ¬ ((c = 270 ∧ (j = 7 ∨ j = 8)) ∨ (c = 272 ∧ j = 1)) → (am_up (am_up (am_up g 270 7 k) 270 8 q) 272 1 (am_wI (g 272 1 + 1))) c j = g c j := fun c j hc => by rw [am_un (by omega), am_un (by omega), am_un (by omega)]
      have := hF k q hil (am_up (am_up (am_up g 270 7 k) 270 8 q) 272 1 (am_wI (g 272 1 + 1))) (by rw [am_un (by omega), am_un (by omega), am_ue]) (by rw [am_un (by omega), am_ue]) (by rw [fr2 _ _ (by omega), fw _ _ (by omega)]; exact g1v) (by rw [am_ue, fw _ _ (by omega), fr _ _ (by omega)]) (fun c j hc => by rw [fr2 _ _ (by omega), fw _ _ (by omega), fr _ _ (by omega)])
      have n5 : ¬ g 270 5 = 0 := by rw [e5]; exact k0
      rw [← e5, ← e6] at this
      simpa (disch := omega) [r161_111, r161_112, r161_113, r161_116, r161_119, r161_120, r161_121, r161_124, r161_127, r161_128, r161_131, r161_134, r161_135, r161_138, r161_139, r161_140, r161_141, r161_142, r161_143, r161_144, r161_145, cs_nil, cs_cons, lc_lt, lc_ge, lc_gt, lc_le, lc_eq, n5, x9, ln_272, am_un, am_fitE, le_T, lt_T] using this
    | .inr I' =>
      intro g p' cd' M hp fw
      obtain ⟨gX, gP, ⟨g5, g6⟩, gI', q0', qN, qcd⟩ := id M
      have fr2 : ∀ c j : Int, ¬ (c = 270 ∧ (j = 7 ∨ j = 8)) → (am_up (am_up g 270 7 0) 270 8 (-1)) c j = g c j := fun c j hc => by rw [am_un (by omega), am_un (by omega)]
      have hMI : MI (am_up (am_up g 270 7 0) 270 8 (-1)) I' cd' := MI_fr gI' (fun c j hc => fr2 c j (by omega))
      have v7 : (am_up (am_up g 270 7 0) 270 8 (-1)) 270 7 = 0 := by rw [am_un (by omega), am_ue]
      have v8 : (am_up (am_up g 270 7 0) 270 8 (-1)) 270 8 = -1 := am_ue
      have hx2 : aw_fx (am_up (am_up g 270 7 0) 270 8 (-1)) := fun x hx => by
        have q : ¬ (x.1 = 270 ∧ (x.2.1 = 7 ∨ x.2.1 = 8)) := fun e => (fx_n (l := 1) (Or.inl rfl) hx).2 (by
          right; right; right; right; right; right; right; right; right; right; right; right; right; right
          exact ⟨e.1, by omega⟩)
        rw [fr2 _ _ (by omega)]; exact gX.1.1 x hx
      have : ∀ QQ : am_V → am_F → Prop, (∀ h, S0 (am_up (am_up g 270 7 0) 270 8 (-1)) h cd' → fS0 (am_up (am_up g 270 7 0) 270 8 (-1)) h → QQ (3, 0) h) → aw_cl (d + 12) 205 [(110, 270)] (am_up (am_up g 270 7 0) 270 8 (-1)) QQ := fun QQ hq => m_stands0 (cd := cd') hx2 hMI.2.2.2.2.2.2.1 hMI.2.2.2.2.2.2.2 (by omega) hq
      have := this (fun v f' => aw_wp (d + 13) 161 150 [(110, 270), (0, 10)] (if v.fst = 3 then [] else [v]) f' Q) (fun h s0 fs0 => by
        have := hO I' hil hp h (MJ_of hMI hp (by omega) s0) s0.2.1 s0.2.2.2 (by rw [fs0 _ _ (by omega)]; exact v7) (by rw [fs0 _ _ (by omega)]; exact v8) (by rw [fs0 _ _ (by omega), fr2 _ _ (by omega), fw _ _ (by omega)]; exact g1v) (fun c j hc => by rw [fs0 _ _ (by omega), fr2 _ _ (by omega), fw _ _ (by omega), fr _ _ (by omega)])
        have h49 : h 270 49 = I'.2.1 0 1 := by rw [fs0 _ _ (by omega)]; exact hMI.1.2.2.2.2
        simpa [r161_150, r161_151, r161_154, cs_nil, cs_cons, lc_lt, lc_ge, lc_gt, lc_le, lc_eq, h49] using this)
      simpa [r161_111, r161_112, r161_113, r161_116, r161_119, r161_120, r161_121, r161_124, r161_127, r161_128, r161_131, cs_nil, cs_cons, lc_lt, lc_ge, lc_gt, lc_le, lc_eq, r161_146, r161_147, g5, g6, am_un, am_ue] using this
  simpa [q161, r161_0, r161_1, r161_2, r161_5, r161_8, r161_9, r161_10, r161_13, r161_14, r161_15, r161_18, r161_19, r161_20, r161_23, r161_24, r161_25, r161_28, r161_29, r161_30, r161_33, r161_34, r161_35, r161_38, r161_39, r161_40, r161_43, r161_44, cs_nil, cs_cons, lc_lt, lc_ge, lc_gt, lc_le, lc_eq, h1] using st
end
