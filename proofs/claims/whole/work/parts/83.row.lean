/-! row: the best order -/
theorem ct_sur {p : Nat → Bool} : ∀ t i : Nat, i < ct p t → ∃ u : Nat, u < t ∧ p u = true ∧ ct p u = i
  | 0, i, h => by simp [ct] at h
  | t + 1, i, h => by
    rw [ct] at h
    by_cases hp : p t = true
    · rw [if_pos hp] at h
      by_cases hi : i = ct p t
      · exact ⟨t, by omega, hp, hi.symm⟩
      · obtain ⟨u, h1, h2, h3⟩ := ct_sur (p := p) t i (by omega)
        exact ⟨u, by omega, h2, h3⟩
    · rw [if_neg hp] at h
      obtain ⟨u, h1, h2, h3⟩ := ct_sur (p := p) t i (by omega)
      exact ⟨u, by omega, h2, h3⟩
theorem ct_mn {p : Nat → Bool} : ∀ j u : Nat, ct p u ≤ ct p (u + j)
  | 0, u => Nat.le_refl _
  | j + 1, u => by
    have := ct_mn (p := p) j u
    rw [← Nat.add_assoc, ct]
    omega
theorem ct_st {p : Nat → Bool} {u v : Nat} (h : u < v) (hp : p u = true) : ct p u < ct p v := by
  have h1 := ct_mn (p := p) (v - (u + 1)) (u + 1)
  rw [show u + 1 + (v - (u + 1)) = v by omega, ct, if_pos hp] at h1
  omega
def isB (z : am_F) (t : Nat) : Bool := decide (z 1 (t : Int) = 1)
/-- a row of the broken things, by numbers -/
def BRw (f : am_F) (b : Int) (z : am_F) (n : Nat) : Prop := ∀ u : Nat, u < n → isB z u = true → f b (ct (isB z) u : Int) = u
theorem BRw_i {f : am_F} {b : Int} {z : am_F} {n : Nat} (h : BRw f b z n) {i : Int} (h0 : 0 ≤ i) (h1 : i < ct (isB z) n) : ∃ u : Nat, u < n ∧ z 1 (u : Int) = 1 ∧ (ct (isB z) u : Int) = i ∧ f b i = u := by
  obtain ⟨u, a1, a2, a3⟩ := ct_sur (p := isB z) n i.toNat (by omega)
  have e : (ct (isB z) u : Int) = i := by omega
  refine ⟨u, a1, by unfold isB at a2; simpa using a2, e, ?_⟩
  rw [← e]; exact h u a1 a2
theorem BRw_mono {f : am_F} {b : Int} {z : am_F} {n : Nat} (h : BRw f b z n) : ∀ i j : Int, 0 ≤ i → i < ct (isB z) n → 0 ≤ j → j < ct (isB z) n → (f b i < f b j ↔ i < j) := by
  intro i j i0 i1 j0 j1
  obtain ⟨u, a1, a2, a3, a4⟩ := BRw_i h i0 i1
  obtain ⟨v, b1, b2, b3, b4⟩ := BRw_i h j0 j1
  have pu : isB z u = true := by unfold isB; simp [a2]
  have pv : isB z v = true := by unfold isB; simp [b2]
  rw [a4, b4]
  constructor
  · intro q
    have := ct_st (p := isB z) (u := u) (v := v) (by omega) pu
    omega
  · intro q
    by_cases hv : v < u
    · have := ct_st (p := isB z) hv pv; omega
    · by_cases he : u = v
      · subst he; omega
      · omega
theorem nxo_val {o : Int → Int} {c : Nat} (hn : ¬ nat o c < 0) {i : Int} (h0 : 0 ≤ i) (h1 : i < c) : ∃ j : Int, 0 ≤ j ∧ j < c ∧ nxo o c i = o j := by
  obtain ⟨w1, w2, w3, w4, w5⟩ := nwi_b hn
  have sw : ∀ x : Int, 0 ≤ x → x < c → ∃ j : Int, 0 ≤ j ∧ j < c ∧ swp o (nat o c) (nwi o c) x = o j := by
    intro x x0 x1
    unfold swp
    split
    · exact ⟨_, by omega, by omega, rfl⟩
    · split
      · exact ⟨_, by omega, by omega, rfl⟩
      · exact ⟨_, x0, x1, rfl⟩
  unfold nxo rvs
  split
  · exact sw _ (by omega) (by omega)
  · exact sw _ h0 h1
section
variable {d n m r c : Nat} {f L z : am_F} {ρ : Int → List Int} {τ : Int → Bool} {l : Int} {Z : Int → am_F} {Q : am_V → am_F → Prop} {o : Int → Int}
/-- an order of broken things -/
def ordB (z : am_F) (n c : Nat) (o : Int → Int) : Prop := ∀ x : Int, 0 ≤ x → x < c → (0 ≤ o x ∧ o x < n) ∧ z 1 (o x) = 1
theorem ordB_n (h : ordB z n c o) (hn : ¬ nat o c < 0) : ordB z n c (nxo o c) := by
  intro x x0 x1
  obtain ⟨j, j0, j1, e⟩ := nxo_val hn x0 x1
  rw [e]
  exact h j j0 j1
theorem cpl_cg {p : Int → Int} : ∀ k : Nat, (∀ x : Int, 0 ≤ x → x < k → o x = p x) → cpl L ρ z o k = cpl L ρ z p k
  | 0, _ => rfl
  | k + 1, h => by rw [cpl, cpl, cpl_cg k (fun x a b => h x a (by omega)), h k (by omega) (by omega)]
theorem c_keep (h : CB f 46 l n m r L ρ z) (hx : f 40 1 = 41 ∧ f 40 2 = 42 ∧ f 40 5 = 45) (hc : c ≤ 6) (ho : ∀ x : Int, 0 ≤ x → x < c → f 41 x = o x) (hB : ordB z n c o) (hh : ∀ t : Int, 0 ≤ t → t < n → z 1 t = 1 → f 42 t = aH L ρ z t 0) : aw_cl (d + 1) 115 [(103, 40), (107, 46), (0, (c : Int))] f Q = Q (3, 0) (am_cpy (am_up f 40 6 (cpl L ρ z o c).2) 41 0 45 0 (c : Int)) := by
  apply aw_det
  have cc := fun (dd : Nat) (QQ : am_V → am_F → Prop) => c_cost (d := dd) (Q := QQ) h ⟨hx.1, hx.2.1⟩ hc ho (fun x a b => (hB x a b).1) (fun x a b => hh _ (hB x a b).1.1 (hB x a b).1.2 (hB x a b).2)
  simp (disch := omega) [q115, r115_0, r115_1, r115_2, r115_3, r115_4, r115_7, r115_10, r115_11, r115_14, r115_15, r115_16, r115_19, r115_20, r115_21, r115_24, cs_nil, cs_cons, lc_lt, lc_ge, lc_gt, lc_le, lc_eq, cc, hx, am_un, ln_41, ln_45, le_T, lt_T]
theorem c_fill (h : CB f 46 l n m r L ρ z) (hx : f 40 0 = 36 ∧ f 40 1 = 41 ∧ f 40 2 = 42) (hm : 0 < m) (hc : ct (isB z) n ≤ 6) (hQ : ∀ g x, BRw g 41 z n → (∀ t : Int, 0 ≤ t → t < n → z 1 t = 1 → g 42 t = aH L ρ z t 0) → (∀ b j : Int, ¬ (b = 35 ∨ b = 41 ∨ b = 42) → g b j = f b j) → aw_wp (d + 6) 114 63 [(103, 40), (107, 46), (0, (ct (isB z) n : Int)), (0, x)] [] g Q) : aw_cl (d + 6) 114 [(103, 40), (107, 46)] f Q := by
  have hn := h.2.2.2.1.1
  have hl := h.2.1.2.1
  have hl0 : 0 ≤ l := by omega
  have key : ∀ (j t : Nat) (g : am_F), t + j = n → (∀ u : Nat, u < t → isB z u = true → g 41 (ct (isB z) u : Int) = u) → (∀ u : Int, 0 ≤ u → u < t → z 1 u = 1 → g 42 u = aH L ρ z u 0) → (∀ b j : Int, ¬ (b = 35 ∨ b = 41 ∨ b = 42) → g b j = f b j) → aw_wp (d + 6) 114 4 [(103, 40), (107, 46), (0, (ct (isB z) t : Int)), (0, (t : Int))] [] g Q := by
    intro j
    induction j with
    | zero =>
      intro t g h1 h2 h3 h4
      obtain rfl : t = n := by omega
      have := hQ g t h2 h3 h4
      have e9 : g 46 9 = l := (h4 _ _ (by omega)).trans h.2.2.1.2.2.1
      have en : g l 9 = t := (h4 _ _ (by omega)).trans h.2.1.2.2.1.1
      rw [r114_4]
      simpa (disch := omega) [r114_5, r114_6, r114_9, r114_12, e9, en, hl0] using this
    | succ j ih =>
      intro t g h1 h2 h3 h4
      have hCg : CB g 46 l n m r L ρ z := CB_fr h (fun c j hc => h4 _ _ (by omega))
      have e9 : g 46 9 = l := hCg.2.2.1.2.2.1
      have en : g l 9 = n := hCg.2.1.2.2.1.1
      have e0 : g 40 0 = 36 := (h4 _ _ (by omega)).trans hx.1
      have e1 : g 40 1 = 41 := (h4 _ _ (by omega)).trans hx.2.1
      have e2 : g 40 2 = 42 := (h4 _ _ (by omega)).trans hx.2.2
      have es := sS_u hCg.2.2.1.1
      have e46 : g 46 0 = 47 := es.2.1.1
      clear es
      have ev : g 47 t = z 1 t := hCg.2.2.1.2.2.2.2 1 t (by omega) (by omega) (by omega) (by omega)
      have c1 : ¬ n ≤ t := by omega
      have hle := ct_mn (p := isB z) (n - t) t
      rw [show t + (n - t) = n by omega] at hle
      rw [r114_4]
      by_cases h6 : ct (isB z) t = 6
      · have hall : ∀ u : Nat, t ≤ u → u < n → ¬ isB z u = true := by
          intro u q1 q2 q3
          have i1 := ct_mn (p := isB z) (u - t) t
          rw [show t + (u - t) = u by omega] at i1
          have i2 := ct_st (p := isB z) q2 q3
          omega
        have := hQ g t (fun u q1 q2 => h2 u (by
          by_cases q : u < t
          · exact q
          · exact absurd q2 (hall u (by omega) q1)) q2) (fun u q0 q1 q2 => h3 u q0 (by
          by_cases q : u < t
          · exact q
          · have i := hall u.toNat (by omega) (by omega)
            unfold isB at i
            rw [Int.toNat_of_nonneg q0] at i
            simp [q2] at i) q2) h4
        have e6 : ct (isB z) n = 6 := by omega
        rw [e6] at this
        have e6' : (ct (isB z) t : Int) = 6 := by omega
        simpa (disch := omega) [r114_5, r114_6, r114_9, r114_12, r114_15, r114_16, r114_18, e9, en, hl0, c1, e6'] using this
      · have l6 : (ct (isB z) t : Int) < 6 := by omega
        by_cases hb : z 1 (t : Int) = 1
        · have pb : isB z t = true := by unfold isB; simp [hb]
          simp (disch := omega) [q114, r114_0, r114_1, r114_2, r114_3, r114_5, r114_6, r114_9, r114_12, r114_15, r114_16, r114_18, r114_21, r114_22, r114_25, r114_26, r114_27, r114_28, r114_31, r114_32, r114_35, r114_36, r114_39, r114_40, r114_41, r114_42, r114_45, r114_46, r114_47, r114_50, r114_51, r114_52, r114_53, r114_56, r114_57, r114_60, r114_63, r114_64, r114_65, r114_66, r114_69, r114_70, r114_72, r114_75, r114_78, r114_79, r114_80, r114_83, r114_86, r114_87, r114_88, r114_89, r114_92, r114_93, r114_96, r114_99, r114_100, r114_101, r114_102, r114_105, r114_108, r114_111, cs_nil, cs_cons, lc_lt, lc_ge, lc_gt, lc_le, lc_eq, e9, en, hl0, c1, e46, ev, hb, e0, e1, e2, ln_47, ln_41, ln_42, am_un, am_wid2, am_fitE, le_T, lt_T, le_F, lt_F]
          have hC2 : CB (am_up g 41 (ct (isB z) t : Int) t) 46 l n m r L ρ z := CB_fr hCg (fun c j hc => am_un (by omega))
          refine c_hours hC2 (by omega) (by omega) (by omega) (by omega) ?_
          intro g1 hg1
          have ih' := ih (t + 1) (am_up g1 42 t (aH L ρ z t 0)) (by omega) (fun u q1 q2 => by
            rw [am_un (by omega), hg1 _ _ (by omega)]
            by_cases hu : u = t
            · subst hu; exact am_ue
            · have := ct_st (p := isB z) (u := u) (v := t) (by omega) q2
              rw [am_un (by omega)]
              exact h2 u (by omega) q2) (fun u q0 q1 q2 => by
            by_cases hu : u = t
            · subst hu; exact am_ue
            · rw [am_un (by omega), hg1 _ _ (by omega), am_un (by omega)]
              exact h3 u q0 (by omega) q2) (fun b j hc => by rw [am_un (by omega), hg1 _ _ (by omega), am_un (by omega), h4 _ _ hc])
          rw [ct, if_pos pb, Int.natCast_add (ct (isB z) t), Int.natCast_add t] at ih'
          simpa (disch := omega) [q114, r114_0, r114_1, r114_2, r114_3, r114_5, r114_6, r114_9, r114_12, r114_15, r114_16, r114_18, r114_21, r114_22, r114_25, r114_26, r114_27, r114_28, r114_31, r114_32, r114_35, r114_36, r114_39, r114_40, r114_41, r114_42, r114_45, r114_46, r114_47, r114_50, r114_51, r114_52, r114_53, r114_56, r114_57, r114_60, r114_63, r114_64, r114_65, r114_66, r114_69, r114_70, r114_72, r114_75, r114_78, r114_79, r114_80, r114_83, r114_86, r114_87, r114_88, r114_89, r114_92, r114_93, r114_96, r114_99, r114_100, r114_101, r114_102, r114_105, r114_108, r114_111, cs_nil, cs_cons, lc_lt, lc_ge, lc_gt, lc_le, lc_eq, ln_42, am_wid2, am_fitE, le_T, lt_T] using ih'
        · have pb : ¬ isB z t = true := by unfold isB; simp [hb]
          have ih' := ih (t + 1) g (by omega) (fun u q1 q2 => h2 u (by
            by_cases q : u < t
            · exact q
            · have : u = t := by omega
              rw [this] at q2; exact absurd q2 pb) q2) (fun u q0 q1 q2 => h3 u q0 (by
            by_cases q : u < t
            · exact q
            · have : u = t := by omega
              rw [this] at q2; exact absurd q2 hb) q2) h4
          rw [ct, if_neg pb, Nat.add_zero, Int.natCast_add t] at ih'
          simpa (disch := omega) [q114, r114_0, r114_1, r114_2, r114_3, r114_5, r114_6, r114_9, r114_12, r114_15, r114_16, r114_18, r114_21, r114_22, r114_25, r114_26, r114_27, r114_28, r114_31, r114_32, r114_35, r114_36, r114_39, r114_40, r114_41, r114_42, r114_45, r114_46, r114_47, r114_50, r114_51, r114_52, r114_53, r114_56, r114_57, r114_60, r114_63, r114_64, r114_65, r114_66, r114_69, r114_70, r114_72, r114_75, r114_78, r114_79, r114_80, r114_83, r114_86, r114_87, r114_88, r114_89, r114_92, r114_93, r114_96, r114_99, r114_100, r114_101, r114_102, r114_105, r114_108, r114_111, cs_nil, cs_cons, lc_lt, lc_ge, lc_gt, lc_le, lc_eq, e9, en, hl0, c1, e46, ev, hb, ln_47, am_wid2, le_T, lt_T, le_F, lt_F] using ih'
  have := key n 0 f (by omega) (fun u q => by omega) (fun u q0 q1 => by omega) (fun _ _ _ => rfl)
  simpa [q114, r114_0, r114_1, r114_2, r114_3, r114_5, r114_6, r114_9, r114_12, r114_15, r114_16, r114_18, r114_21, r114_22, r114_25, r114_26, r114_27, r114_28, r114_31, r114_32, r114_35, r114_36, r114_39, r114_40, r114_41, r114_42, r114_45, r114_46, r114_47, r114_50, r114_51, r114_52, r114_53, r114_56, r114_57, r114_60, r114_63, r114_64, r114_65, r114_66, r114_69, r114_70, r114_72, r114_75, r114_78, r114_79, r114_80, r114_83, r114_86, r114_87, r114_88, r114_89, r114_92, r114_93, r114_96, r114_99, r114_100, r114_101, r114_102, r114_105, r114_108, r114_111, cs_nil, cs_cons, lc_lt, lc_ge, lc_gt, lc_le, lc_eq, ct] using this
theorem c_bestL (hc : c ≤ 6) (h : CB f 46 l n m r L ρ z) (hx : f 40 1 = 41 ∧ f 40 2 = 42 ∧ f 40 5 = 45) (hh : ∀ t : Int, 0 ≤ t → t < n → z 1 t = 1 → f 42 t = aH L ρ z t 0) (R : (Int → Int) × Int) (hQ : ∀ g, (∀ x : Int, 0 ≤ x → x < c → g 45 x = R.1 x) → g 40 6 = R.2 → (∀ b j : Int, ¬ (b = 41 ∨ b = 45 ∨ (b = 40 ∧ j = 6)) → g b j = f b j) → Q (3, 0) g) : ∀ (j : Nat) (k : Int) (o B : Int → Int) (mn : Int) (g : am_F), k + j = 720 → 1 ≤ k → rnb L ρ z c j o B mn = R → ordB z n c o → (∀ x : Int, 0 ≤ x → x < c → g 41 x = o x) → (∀ x : Int, 0 ≤ x → x < c → g 45 x = B x) → g 40 6 = mn → (∀ b j : Int, ¬ (b = 41 ∨ b = 45 ∨ (b = 40 ∧ j = 6)) → g b j = f b j) → aw_wp (d + 2) 114 71 [(103, 40), (107, 46), (0, (c : Int)), (0, k)] [] g Q := by
  intro j
  induction j with
  | zero =>
    intro k o B mn g h1 h2 h3 h4 h5 h6 h7 h8
    rw [rnb] at h3
    have := hQ g (by rw [← h3]; exact h6) (by rw [← h3]; exact h7) h8
    rw [r114_71]
    simpa (disch := omega) [q114, r114_0, r114_1, r114_2, r114_3, r114_5, r114_6, r114_9, r114_12, r114_15, r114_16, r114_18, r114_21, r114_22, r114_25, r114_26, r114_27, r114_28, r114_31, r114_32, r114_35, r114_36, r114_39, r114_40, r114_41, r114_42, r114_45, r114_46, r114_47, r114_50, r114_51, r114_52, r114_53, r114_56, r114_57, r114_60, r114_63, r114_64, r114_65, r114_66, r114_69, r114_70, r114_72, r114_75, r114_78, r114_79, r114_80, r114_83, r114_86, r114_87, r114_88, r114_89, r114_92, r114_93, r114_96, r114_99, r114_100, r114_101, r114_102, r114_105, r114_108, r114_111, cs_nil, cs_cons, lc_lt, lc_ge, lc_gt, lc_le, lc_eq, le_T, lt_T, le_F, lt_F] using this
  | succ j ih =>
    intro k o B mn g h1 h2 h3 h4 h5 h6 h7 h8
    have hCg : CB g 46 l n m r L ρ z := CB_fr h (fun c j hc => h8 _ _ (by omega))
    have x1 : g 40 1 = 41 := (h8 _ _ (by omega)).trans hx.1
    rw [rnb] at h3
    rw [r114_71]
    simp (disch := omega) [q114, r114_0, r114_1, r114_2, r114_3, r114_5, r114_6, r114_9, r114_12, r114_15, r114_16, r114_18, r114_21, r114_22, r114_25, r114_26, r114_27, r114_28, r114_31, r114_32, r114_35, r114_36, r114_39, r114_40, r114_41, r114_42, r114_45, r114_46, r114_47, r114_50, r114_51, r114_52, r114_53, r114_56, r114_57, r114_60, r114_63, r114_64, r114_65, r114_66, r114_69, r114_70, r114_72, r114_75, r114_78, r114_79, r114_80, r114_83, r114_86, r114_87, r114_88, r114_89, r114_92, r114_93, r114_96, r114_99, r114_100, r114_101, r114_102, r114_105, r114_108, r114_111, cs_nil, cs_cons, lc_lt, lc_ge, lc_gt, lc_le, lc_eq, le_T, lt_T, le_F, lt_F]
    refine c_next2 hc x1 h5 (fun hn => ?_) (fun hn g1 q1 q2 => ?_)
    · rw [if_pos hn] at h3
      have := hQ g (by rw [← h3]; exact h6) (by rw [← h3]; exact h7) h8
      simpa (disch := omega) [q114, r114_0, r114_1, r114_2, r114_3, r114_5, r114_6, r114_9, r114_12, r114_15, r114_16, r114_18, r114_21, r114_22, r114_25, r114_26, r114_27, r114_28, r114_31, r114_32, r114_35, r114_36, r114_39, r114_40, r114_41, r114_42, r114_45, r114_46, r114_47, r114_50, r114_51, r114_52, r114_53, r114_56, r114_57, r114_60, r114_63, r114_64, r114_65, r114_66, r114_69, r114_70, r114_72, r114_75, r114_78, r114_79, r114_80, r114_83, r114_86, r114_87, r114_88, r114_89, r114_92, r114_93, r114_96, r114_99, r114_100, r114_101, r114_102, r114_105, r114_108, r114_111, cs_nil, cs_cons, lc_lt, lc_ge, lc_gt, lc_le, lc_eq] using this
    · rw [if_neg hn] at h3
      have hB := ordB_n h4 hn
      have fr : ∀ b j : Int, ¬ (b = 41 ∨ b = 45 ∨ (b = 40 ∧ j = 6)) → g1 b j = f b j := fun b j hb => (q2 b j (by omega)).trans (h8 b j hb)
      have hC1 : CB g1 46 l n m r L ρ z := CB_fr h (fun c j hc => fr _ _ (by omega))
      have y : g1 40 1 = 41 ∧ g1 40 2 = 42 ∧ g1 40 5 = 45 := ⟨(fr _ _ (by omega)).trans hx.1, (fr _ _ (by omega)).trans hx.2.1, (fr _ _ (by omega)).trans hx.2.2⟩
      have hh1 : ∀ t : Int, 0 ≤ t → t < n → z 1 t = 1 → g1 42 t = aH L ρ z t 0 := fun t a b e => (fr _ _ (by omega)).trans (hh t a b e)
      have y6 : g1 40 6 = mn := (q2 _ _ (by omega)).trans h7
      have cc := fun (dd : Nat) (QQ : am_V → am_F → Prop) => c_cost (d := dd) (Q := QQ) hC1 ⟨y.1, y.2.1⟩ hc q1 (fun x a b => (hB x a b).1) (fun x a b => hh1 _ (hB x a b).1.1 (hB x a b).1.2 (hB x a b).2)
      have ck := fun (dd : Nat) (QQ : am_V → am_F → Prop) => c_keep (d := dd) (Q := QQ) hC1 y hc q1 hB hh1
      by_cases hlt : (cpl L ρ z (nxo o c) c).2 < mn
      · rw [if_pos hlt] at h3
        have := ih (k + 1) (nxo o c) (nxo o c) _ (am_cpy (am_up g1 40 6 (cpl L ρ z (nxo o c) c).2) 41 0 45 0 (c : Int)) (by omega) (by omega) h3 hB (fun x a b => by rw [cpy_n (by omega), am_un (by omega)]; exact q1 x a b) (fun x a b => by rw [cpy_i (by omega), am_un (by omega), show (0 : Int) + (x - 0) = x by omega]; exact q1 x a b) (by rw [cpy_n (by omega), am_ue]) (fun b j hb => by rw [cpy_n (by omega), am_un (by omega), fr _ _ hb])
        simpa (disch := omega) [q114, r114_0, r114_1, r114_2, r114_3, r114_5, r114_6, r114_9, r114_12, r114_15, r114_16, r114_18, r114_21, r114_22, r114_25, r114_26, r114_27, r114_28, r114_31, r114_32, r114_35, r114_36, r114_39, r114_40, r114_41, r114_42, r114_45, r114_46, r114_47, r114_50, r114_51, r114_52, r114_53, r114_56, r114_57, r114_60, r114_63, r114_64, r114_65, r114_66, r114_69, r114_70, r114_72, r114_75, r114_78, r114_79, r114_80, r114_83, r114_86, r114_87, r114_88, r114_89, r114_92, r114_93, r114_96, r114_99, r114_100, r114_101, r114_102, r114_105, r114_108, r114_111, cs_nil, cs_cons, lc_lt, lc_ge, lc_gt, lc_le, lc_eq, cc, ck, y6, am_wid2, le_T, lt_T, le_F, lt_F] using this
      · rw [if_neg hlt] at h3
        have := ih (k + 1) (nxo o c) B mn g1 (by omega) (by omega) h3 hB q1 (fun x a b => (q2 _ _ (by omega)).trans (h6 x a b)) y6 fr
        simpa (disch := omega) [q114, r114_0, r114_1, r114_2, r114_3, r114_5, r114_6, r114_9, r114_12, r114_15, r114_16, r114_18, r114_21, r114_22, r114_25, r114_26, r114_27, r114_28, r114_31, r114_32, r114_35, r114_36, r114_39, r114_40, r114_41, r114_42, r114_45, r114_46, r114_47, r114_50, r114_51, r114_52, r114_53, r114_56, r114_57, r114_60, r114_63, r114_64, r114_65, r114_66, r114_69, r114_70, r114_72, r114_75, r114_78, r114_79, r114_80, r114_83, r114_86, r114_87, r114_88, r114_89, r114_92, r114_93, r114_96, r114_99, r114_100, r114_101, r114_102, r114_105, r114_108, r114_111, cs_nil, cs_cons, lc_lt, lc_ge, lc_gt, lc_le, lc_eq, cc, y6, am_wid2, le_T, lt_T, le_F, lt_F] using this
end
