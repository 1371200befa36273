/-! questions: what both sides read; how it is read by descent -/
def am_fi (f : am_F) (a v n : Int) : am_F := fun b j => if b = a ∧ 0 ≤ j ∧ j < n then v else f b j
theorem fl_n {f : am_F} {a v n b j : Int} (h : ¬ b = a) : am_fi f a v n b j = f b j := if_neg (fun q => h q.1)
theorem fl_i {f : am_F} {a v n j : Int} (h : 0 ≤ j ∧ j < n) : am_fi f a v n a j = v := if_pos ⟨rfl, h⟩
theorem fl_s {f : am_F} {a v i : Int} (h : 0 ≤ i) : am_up (am_fi f a v i) a i v = am_fi f a v (i + 1) := by
  funext b j
  unfold am_up am_fi
  by_cases h1 : b = a
  · subst h1
    by_cases h2 : j = i
    · subst h2
      rw [if_pos ⟨rfl, rfl⟩, if_pos ⟨rfl, h, by omega⟩]
    · rw [if_neg (fun q => h2 q.2)]
      by_cases h3 : 0 ≤ j ∧ j < i
      · rw [if_pos ⟨rfl, h3⟩, if_pos ⟨rfl, h3.1, by omega⟩]
      · rw [if_neg (fun q => h3 q.2), if_neg (fun q => h3 ⟨q.2.1, by omega⟩)]
  · rw [if_neg (fun q => h1 q.1), if_neg (fun q => h1 q.1), if_neg (fun q => h1 q.1)]
theorem fl_0 {f : am_F} {a v : Int} : am_fi f a v 0 = f := by
  funext b j
  unfold am_fi
  rw [if_neg (by omega)]
section
variable {d : Nat} {f : am_F} {B : Int → Int} {N κ p R : Int} {Q : am_V → am_F → Prop}
theorem c_afill {a v n : Int} (ha : 0 ≤ a) (hn : am_len aw_SH a = n) (n0 : 0 ≤ n) (n1 : n ≤ 1700) : aw_cl d 18 [(20, a), (0, v)] f Q = Q (3, 0) (am_fi f a v n) := by
  have key : ∀ (j : Nat) (i : Int), i + j = n → 0 ≤ i → aw_wp d 18 5 [(20, a), (0, v), (0, i), (0, n)] [] (am_fi f a v i) (fun w g => w = (3, 0) ∧ g = am_fi f a v n) := by
    intro j
    induction j with
    | zero =>
      intro i hi i0
      have : i = n := by omega
      subst this
      rw [r18_5]
      simp (disch := omega) [r18_6, r18_7, r18_10, r18_11, r18_12, r18_13, r18_14, r18_17, r18_20, cs_nil, cs_cons, lc_lt, lc_ge, lc_gt, lc_le, lc_eq, le_T, lt_T, le_F, lt_F]
    | succ j ih =>
      intro i hi i0
      have ih' := ih (i + 1) (by omega) (by omega)
      rw [r18_5]
      simpa (disch := omega) [r18_6, r18_7, r18_10, r18_11, r18_12, r18_13, r18_14, r18_17, r18_20, cs_nil, cs_cons, lc_lt, lc_ge, lc_gt, lc_le, lc_eq, ha, hn, fl_s, am_wid2, am_fitE, le_T, lt_T, le_F, lt_F] using ih'
  apply aw_det
  have := key n.toNat 0 (by omega) (by omega)
  rw [fl_0] at this
  simpa [q18, r18_0, r18_1, r18_2, r18_3, r18_4, cs_nil, cs_cons, lc_lt, lc_ge, lc_gt, lc_le, lc_eq, ha, hn] using this
theorem c_clr (hR : R = 10 ∨ R = 29 ∨ R = 16) (h1 : f R 1 = R + 2) (h2 : f R 2 = R + 3) : aw_cl (d + 1) 17 [(106, R)] f Q = Q (3, 0) (am_fi (am_fi (am_up f R 3 0) (R + 2) 0 10) (R + 3) 0 10) := by
  have r0 : 0 ≤ R := by omega
  have l1 : am_len aw_SH (R + 2) = 10 := by
    rcases hR with rfl | rfl | rfl
    · exact ln_12
    · exact ln_31
    · exact ln_18
  have l2 : am_len aw_SH (R + 3) = 10 := by
    rcases hR with rfl | rfl | rfl
    · exact ln_13
    · exact ln_32
    · exact ln_19
  have e2 : am_fi (am_up f R 3 0) (R + 2) 0 10 R 2 = R + 3 := by rw [fl_n (by omega), am_un (by omega), h2]
  have f1 := fun (dd : Nat) (g : am_F) (QQ : am_V → am_F → Prop) => c_afill (d := dd) (f := g) (Q := QQ) (v := 0) (show 0 ≤ R + 2 by omega) l1 (by omega) (by omega)
  have f2 := fun (dd : Nat) (g : am_F) (QQ : am_V → am_F → Prop) => c_afill (d := dd) (f := g) (Q := QQ) (v := 0) (show 0 ≤ R + 3 by omega) l2 (by omega) (by omega)
  apply aw_det
  simp (disch := omega) [q17, r17_0, r17_1, r17_2, r17_5, r17_6, r17_9, r17_10, r17_13, r17_14, r17_17, r17_18, r17_21, cs_nil, cs_cons, lc_lt, lc_ge, lc_gt, lc_le, lc_eq, r0, h1, e2, f1, f2, am_un]
/-- the reading begins -/
theorem c_beg0 (h : CT f B N) (hN : N ≤ 1600) (n0 : 0 ≤ N) (hB : ∀ j, 0 ≤ B j ∧ B j ≤ 255) (hQ : ∀ g, CK g B N 0 → g 33 11 = 0 → g 33 12 = -1 → (∀ c j : Int, ¬ (c = 33 ∧ ((4 ≤ j ∧ j ≤ 8) ∨ j = 11 ∨ j = 12)) → g c j = f c j) → Q (3, 0) g) : aw_cl (d + 3) 19 [(104, 33)] f Q := by
  simp [q19, r19_0, r19_1, r19_2, r19_5, r19_6, r19_7, r19_10, r19_11, r19_12, r19_15, r19_16, r19_19, r19_20, cs_nil, cs_cons, lc_lt, lc_ge, lc_gt, lc_le, lc_eq]
  refine c_adv (CT_up (CT_up (CT_up h (by omega)) (by omega)) (by omega)) hN hB am_ue (by omega) n0 ?_
  intro g b1 b2
  have := hQ g b1 (by rw [b2 _ _ (by omega), am_un (by omega), am_un (by omega), am_ue]) (by rw [b2 _ _ (by omega), am_un (by omega), am_ue]) (fun c j hc => by rw [b2 _ _ (by omega), am_un (by omega), am_un (by omega), am_un (by omega)])
  simpa [q19, r19_0, r19_1, r19_2, r19_5, r19_6, r19_7, r19_10, r19_11, r19_12, r19_15, r19_16, r19_19, r19_20, cs_nil, cs_cons, lc_lt, lc_ge, lc_gt, lc_le, lc_eq] using this
theorem c_aT {w : Int} (h : f 33 10 = w) : aw_cl d 145 [(104, 33)] f Q = Q (0, if w = 13 ∨ w = 21 ∨ w = 28 then 1 else 0) f := by
  apply aw_det
  by_cases h1 : w = 13
  · simp [q145, r145_0, r145_1, r145_4, r145_6, r145_9, r145_10, r145_13, r145_15, r145_18, r145_19, r145_22, r145_24, r145_27, r145_28, r145_31, r145_32, cs_nil, cs_cons, lc_lt, lc_ge, lc_gt, lc_le, lc_eq, h, h1]
  by_cases h2 : w = 21
  · simp [q145, r145_0, r145_1, r145_4, r145_6, r145_9, r145_10, r145_13, r145_15, r145_18, r145_19, r145_22, r145_24, r145_27, r145_28, r145_31, r145_32, cs_nil, cs_cons, lc_lt, lc_ge, lc_gt, lc_le, lc_eq, h, h2]
  by_cases h3 : w = 28
  · simp [q145, r145_0, r145_1, r145_4, r145_6, r145_9, r145_10, r145_13, r145_15, r145_18, r145_19, r145_22, r145_24, r145_27, r145_28, r145_31, r145_32, cs_nil, cs_cons, lc_lt, lc_ge, lc_gt, lc_le, lc_eq, h, h3]
  · simp [q145, r145_0, r145_1, r145_4, r145_6, r145_9, r145_10, r145_13, r145_15, r145_18, r145_19, r145_22, r145_24, r145_27, r145_28, r145_31, r145_32, cs_nil, cs_cons, lc_lt, lc_ge, lc_gt, lc_le, lc_eq, h, h1, h2, h3]
theorem c_aS {w : Int} (h : f 33 10 = w) : aw_cl d 146 [(104, 33)] f Q = Q (0, if w = 29 ∨ w = 30 ∨ w = 31 then 1 else 0) f := by
  apply aw_det
  by_cases h1 : w = 29
  · simp [q146, r146_0, r146_1, r146_4, r146_6, r146_9, r146_10, r146_13, r146_15, r146_18, r146_19, r146_22, r146_24, r146_27, r146_28, r146_31, r146_32, cs_nil, cs_cons, lc_lt, lc_ge, lc_gt, lc_le, lc_eq, h, h1]
  by_cases h2 : w = 30
  · simp [q146, r146_0, r146_1, r146_4, r146_6, r146_9, r146_10, r146_13, r146_15, r146_18, r146_19, r146_22, r146_24, r146_27, r146_28, r146_31, r146_32, cs_nil, cs_cons, lc_lt, lc_ge, lc_gt, lc_le, lc_eq, h, h2]
  by_cases h3 : w = 31
  · simp [q146, r146_0, r146_1, r146_4, r146_6, r146_9, r146_10, r146_13, r146_15, r146_18, r146_19, r146_22, r146_24, r146_27, r146_28, r146_31, r146_32, cs_nil, cs_cons, lc_lt, lc_ge, lc_gt, lc_le, lc_eq, h, h3]
  · simp [q146, r146_0, r146_1, r146_4, r146_6, r146_9, r146_10, r146_13, r146_15, r146_18, r146_19, r146_22, r146_24, r146_27, r146_28, r146_31, r146_32, cs_nil, cs_cons, lc_lt, lc_ge, lc_gt, lc_le, lc_eq, h, h1, h2, h3]
end
/-- what is asked for a test, a sum -/
def qt (w : Int) : Bool := decide (w = 13 ∨ w = 21 ∨ w = 28)
def qs (w : Int) : Bool := decide (w = 29 ∨ w = 30 ∨ w = 31)
theorem qt_i {w : Int} : qt w = true ↔ (w = 13 ∨ w = 21 ∨ w = 28) := by unfold qt; exact decide_eq_true_iff
theorem qs_i {w : Int} : qs w = true ↔ (w = 29 ∨ w = 30 ∨ w = 31) := by unfold qs; exact decide_eq_true_iff
theorem rd_K {B : Int → Int} {N κ p o : Int} (hN : N ≤ 1600) (p0 : 0 ≤ p) (pN : p ≤ N) (mode : Nat) : ∃ r, rd B N κ 20000 mode p o = some r := by
  have := rd_tot (B := B) (N := N) (κ := κ) 20000 mode p o pN (by
    have : lvn mode ≤ 6 := by unfold lvn; repeat' split
                              all_goals omega
    omega)
  exact Option.isSome_iff_exists.mp this
def qC (f g : am_F) : Prop := ∀ c j : Int, ¬ ((c = 33 ∧ 2 ≤ j) ∨ (c = 16 ∧ j = 3) ∨ (17 ≤ c ∧ c ≤ 19)) → g c j = f c j
section
variable {d : Nat} {f : am_F} {B : Int → Int} {N : Int} {Q : am_V → am_F → Prop}
/-- the question as read: a fault, or its codes -/
def qR (B : Int → Int) (N : Int) (r : RR) : (Int × Int) ⊕ List Int := match r with
  | .inl e => .inl e
  | .inr (p, cs) => if tK B N p = 0 then .inr cs else .inl (1, tS B N p)
theorem qR_0 {p : Int} {cs : List Int} (h : tK B N p = 0) : qR B N (.inr (p, cs)) = .inr cs := if_pos h
theorem qR_1 {p : Int} {cs : List Int} (h : ¬ tK B N p = 0) : qR B N (.inr (p, cs)) = .inl (1, tS B N p) := if_neg h
theorem c_readQ (h : CT f B N) (hN : N ≤ 1600) (n0 : 0 ≤ N) (hB : ∀ j, 0 ≤ B j ∧ B j ≤ 255) (h16 : f 16 0 = 17 ∧ f 16 1 = 18 ∧ f 16 2 = 19) (hF : ∀ k q g, (if ¬ qt (tW B N 0) = true ∧ ¬ qs (tW B N 0) = true then k = 1 ∧ q = tS B N 0 else ∃ r, rd B N 3 20000 (if qt (tW B N 0) = true then 9 else 4) (tE B N 0) 0 = some r ∧ qR B N r = .inl (k, q)) → g 33 11 = k → g 33 12 = q → qC f g → Q (0, 0) g) (hO : ∀ cs g, (qt (tW B N 0) = true ∨ qs (tW B N 0) = true) → (∃ r, rd B N 3 20000 (if qt (tW B N 0) = true then 9 else 4) (tE B N 0) 0 = some r ∧ qR B N r = .inr cs) → (cs.length : Int) ≤ 1600 → g 33 10 = tW B N 0 → g 33 11 = 0 → g 33 12 = -1 → g 18 0 = 0 → g 19 0 = (cs.length : Int) → al g 17 cst 0 cs → qC f g → Q (0, 1) g) : aw_cl (d + 99) 144 [(104, 33), (106, 16)] f Q := by
  obtain ⟨a1, a2, a3, a4⟩ := id h
  have cl := fun (dd : Nat) (g : am_F) (QQ : am_V → am_F → Prop) (e1 : g 16 1 = 18) (e2 : g 16 2 = 19) => c_clr (d := dd) (f := g) (Q := QQ) (R := 16) (by omega) e1 e2
  have c1 : ∀ (dd : Nat) (QQ : am_V → am_F → Prop), aw_cl (dd + 1) 17 [(106, 16)] (am_up f 33 2 16) QQ = QQ (3, 0) (am_fi (am_fi (am_up (am_up f 33 2 16) 16 3 0) 18 0 10) 19 0 10) := fun (dd : Nat) (QQ : am_V → am_F → Prop) => cl dd (am_up f 33 2 16) QQ (by rw [am_un (by omega)]; exact h16.2.1) (by rw [am_un (by omega)]; exact h16.2.2)
  have fA : ∀ c j : Int, ¬ ((c = 33 ∧ j = 2) ∨ (c = 16 ∧ j = 3) ∨ (18 ≤ c ∧ c ≤ 19)) → am_fi (am_fi (am_up (am_up f 33 2 16) 16 3 0) 18 0 10) 19 0 10 c j = f c j := fun c j hc => by
    rw [fl_n (by omega), fl_n (by omega), am_un (by omega), am_un (by omega)]
  have e3 : am_fi (am_fi (am_up (am_up f 33 2 16) 16 3 0) 18 0 10) 19 0 10 16 3 = 0 := by
    rw [fl_n (by omega), fl_n (by omega), am_ue]
  have e2 : am_fi (am_fi (am_up (am_up f 33 2 16) 16 3 0) 18 0 10) 19 0 10 33 2 = 16 := by
    rw [fl_n (by omega), fl_n (by omega), am_un (by omega), am_ue]
  simp [r144_0, r144_1, r144_2, r144_5, r144_6, r144_9, r144_12, r144_13, r144_14, cs_nil, cs_cons, lc_lt, lc_ge, lc_gt, lc_le, lc_eq, q144, c1, am_ue]
  generalize am_fi (am_fi (am_up (am_up f 33 2 16) 16 3 0) 18 0 10) 19 0 10 = h1 at fA e3 e2
  simp [r144_17, r144_18, cs_nil, cs_cons, lc_lt, lc_ge, lc_gt, lc_le, lc_eq]
  have hT : CT (am_up h1 33 3 3) B N := CT_fr h (fun c j _ hc => by
    by_cases q : c = 33 ∧ j = 3
    · omega
    · rw [am_un q, fA _ _ (by omega)])
  refine c_beg0 hT hN n0 hB ?_
  intro g1 k1 f11 f12 fr1
  have q1 : ∀ c j : Int, ¬ ((c = 33 ∧ 2 ≤ j) ∨ (c = 16 ∧ j = 3) ∨ (18 ≤ c ∧ c ≤ 19)) → g1 c j = f c j := fun c j hc => by rw [fr1 _ _ (by omega), am_un (by omega), fA _ _ (by omega)]
  have kw : (if g1 33 4 = 1 then g1 33 7 else -1) = tW B N 0 := by
    rw [k1.1, k1.2.2.2.1]
    by_cases q : tK B N 0 = 1
    · rw [if_pos q]
    · rw [if_neg q]; unfold tW; rw [if_neg q]
  have at41 : ∀ Q', aw_wp (d + 99) 144 41 [(104, 33), (106, 16)] [] (am_up g1 33 10 (tW B N 0)) Q' → aw_wp (d + 99) 144 21 [(104, 33), (106, 16)] [] g1 Q' := by
    intro Q' hq
    by_cases q : g1 33 4 = 1
    · rw [if_pos q] at kw
      simpa [r144_21, r144_22, r144_23, r144_26, r144_27, r144_30, r144_31, r144_34, r144_37, r144_38, cs_nil, cs_cons, lc_lt, lc_ge, lc_gt, lc_le, lc_eq, q, kw] using hq
    · rw [if_neg q] at kw
      rw [← kw] at hq
      simpa [r144_21, r144_22, r144_23, r144_26, r144_27, r144_30, r144_31, r144_34, r144_37, r144_38, cs_nil, cs_cons, lc_lt, lc_ge, lc_gt, lc_le, lc_eq, q] using hq
  refine at41 _ ?_
  have k2 : CK (am_up g1 33 10 (tW B N 0)) B N 0 := CK_fr k1 (fun j _ _ => am_un (by omega))
  have w10 : (am_up g1 33 10 (tW B N 0)) 33 10 = tW B N 0 := am_ue
  have T2 : CT (am_up g1 33 10 (tW B N 0)) B N := CT_up (CT_fr hT (fun c j hc _ => fr1 c j (by omega))) (by omega)
  have s2 : (am_up g1 33 10 (tW B N 0)) 16 3 = 0 := by rw [am_un (by omega), fr1 _ _ (by omega), am_un (by omega)]; exact e3
  have o2 : (am_up g1 33 10 (tW B N 0)) 33 2 = 16 := by rw [am_un (by omega), fr1 _ _ (by omega), am_un (by omega)]; exact e2
  have p2 : (am_up g1 33 10 (tW B N 0)) 33 3 = 3 := by rw [am_un (by omega), fr1 _ _ (by omega), am_ue]
  have g11 : (am_up g1 33 10 (tW B N 0)) 33 11 = 0 := by rw [am_un (by omega)]; exact f11
  have g12 : (am_up g1 33 10 (tW B N 0)) 33 12 = -1 := by rw [am_un (by omega)]; exact f12
  have q2 : ∀ c j : Int, ¬ ((c = 33 ∧ 2 ≤ j) ∨ (c = 16 ∧ j = 3) ∨ (18 ≤ c ∧ c ≤ 19)) → (am_up g1 33 10 (tW B N 0)) c j = f c j := fun c j hc => by rw [am_un (by omega)]; exact q1 c j hc
  generalize am_up g1 33 10 (tW B N 0) = g2 at k2 w10 T2 s2 o2 p2 q2 g11 g12
  by_cases hn : ¬ qt (tW B N 0) = true ∧ ¬ qs (tW B N 0) = true
  · have := hF 1 (tS B N 0) (am_up (am_up g2 33 11 1) 33 12 (tS B N 0)) (by rw [if_pos hn]; exact ⟨rfl, rfl⟩) (by rw [am_un (by omega), am_ue]) am_ue (fun c j hc => by rw [am_un (by omega), am_un (by omega)]; exact q2 c j (by omega))
    have n1 : ¬ (tW B N 0 = 13 ∨ tW B N 0 = 21 ∨ tW B N 0 = 28) := fun q => hn.1 (qt_i.mpr q)
    have n2 : ¬ (tW B N 0 = 29 ∨ tW B N 0 = 30 ∨ tW B N 0 = 31) := fun q => hn.2 (qs_i.mpr q)
    simpa [r144_41, r144_42, r144_45, r144_48, r144_49, r144_52, r144_55, r144_56, r144_59, cs_nil, cs_cons, lc_lt, lc_ge, lc_gt, lc_le, lc_eq, c_aT w10, c_aS w10, n1, n2, c_wrong k2] using this
  · have hw : qt (tW B N 0) = true ∨ qs (tW B N 0) = true := by
      by_cases q : qt (tW B N 0) = true
      · exact Or.inl q
      · by_cases q' : qs (tW B N 0) = true
        · exact Or.inr q'
        · exact absurd ⟨q, q'⟩ hn
    have wn : ¬ tW B N 0 = -1 := by rw [qt_i, qs_i] at hw; omega
    have gb := tW_b (B := B) (N := N) n0 wn
    have at60 : aw_wp (d + 99) 144 60 [(104, 33), (106, 16)] [] g2 Q := by
      simp [r144_60, r144_61, cs_nil, cs_cons, lc_lt, lc_ge, lc_gt, lc_le, lc_eq]
      refine c_adv T2 hN hB k2.2.2.1 (by omega) gb.2 ?_
      intro g3 k3 fr3
      have o3 : g3 33 2 = 16 := (fr3 _ _ (by omega)).trans o2
      have w3 : g3 33 10 = tW B N 0 := (fr3 _ _ (by omega)).trans w10
      have m3 : g3 16 1 = 18 := (fr3 _ _ (by omega)).trans ((q2 _ _ (by omega)).trans h16.2.1)
      have s3 : g3 16 3 = 0 := (fr3 _ _ (by omega)).trans s2
      have op := fun (dd : Nat) (QQ : am_V → am_F → Prop) => (show aw_cl dd 38 [(106, 16), (0, 0)] g3 QQ = QQ (3, 0) (am_up g3 18 0 0) by
        apply aw_det
        simp (disch := omega) [q38, r38_0, r38_1, r38_4, r38_5, r38_6, r38_9, r38_10, cs_nil, cs_cons, lc_lt, lc_ge, lc_gt, lc_le, lc_eq, m3, s3, ln_18, am_fitE])
      simp [r144_64, r144_65, r144_66, r144_69, r144_70, r144_73, r144_74, cs_nil, cs_cons, lc_lt, lc_ge, lc_gt, lc_le, lc_eq, o3, op]
      have w4 : (am_up g3 18 0 0) 33 10 = tW B N 0 := by rw [am_un (by omega)]; exact w3
      have k4 : CK (am_up g3 18 0 0) B N (tE B N 0) := CK_fr k3 (fun j _ _ => am_un (by omega))
      have U4 : CU (am_up g3 18 0 0) B N 3 16 17 := ⟨CT_fr T2 (fun c j hc _ => by rw [am_un (by omega), fr3 _ _ (by omega)]), ⟨by rw [am_un (by omega)]; exact o3, by rw [am_un (by omega), fr3 _ _ (by omega)]; exact p2, by rw [am_un (by omega), fr3 _ _ (by omega), q2 _ _ (by omega)]; exact h16.1⟩, by omega, by omega⟩
      have s4 : (am_up g3 18 0 0) 16 3 = 0 := by rw [am_un (by omega)]; exact s3
      have z4 : (am_up g3 18 0 0) 18 0 = 0 := am_ue
      have x11 : (am_up g3 18 0 0) 33 11 = 0 := by rw [am_un (by omega), fr3 _ _ (by omega)]; exact g11
      have x12 : (am_up g3 18 0 0) 33 12 = -1 := by rw [am_un (by omega), fr3 _ _ (by omega)]; exact g12
      have q4 : ∀ c j : Int, ¬ ((c = 33 ∧ 2 ≤ j) ∨ (c = 16 ∧ j = 3) ∨ (18 ≤ c ∧ c ≤ 19)) → (am_up g3 18 0 0) c j = f c j := fun c j hc => by rw [am_un (by omega), fr3 _ _ (by omega)]; exact q2 c j hc
      generalize am_up g3 18 0 0 = g4 at w4 k4 U4 s4 z4 q4 x11 x12
      have fin : ∀ (mode : Nat), mode = (if qt (tW B N 0) = true then 9 else 4) → ∀ r, rd B N 3 20000 mode (tE B N 0) 0 = some r → ∀ Q1 : am_V → am_F → Prop, (∀ g, Q (0, 0) g → Q1 (0, 0) g) → (∀ g, aw_wp (d + 99) 144 101 [(104, 33), (106, 16)] [] g Q → Q1 (0, 1) g) → PQ B N 16 17 g4 0 Q1 r := by
        intro mode hm r hr Q1 y0 y1
        subst hm
        match r, hr with
        | .inl (k, q), hr =>
          intro g' a b c
          exact y0 g' (hF k q g' (by rw [if_neg hn]; exact ⟨_, hr, rfl⟩) a b (fun c' j' hc' => by rw [c c' j' (by omega)]; exact q4 c' j' (by omega)))
        | .inr (p', cs), hr =>
          intro g' ka sa ala fa
          have ln := (rd_len _ _ _ _ _ _ hr gb.2).1
          apply y1
          have o5 : g' 33 2 = 16 := (fa _ _ (by omega)).trans (by exact U4.2.1.1)
          have t5 : g' 16 2 = 19 := (fa _ _ (by omega)).trans ((q4 _ _ (by omega)).trans h16.2.2)
          have s5 : g' 16 3 = cs.length := by rw [sa]; omega
          have cl := fun (dd : Nat) (QQ : am_V → am_F → Prop) => (show aw_cl dd 52 [(106, 16), (0, 0)] g' QQ = QQ (0, 1) (am_up g' 19 0 cs.length) by
            apply aw_det
            simp (disch := omega) [q52, r52_0, r52_1, r52_4, r52_5, r52_6, r52_9, r52_10, r52_11, cs_nil, cs_cons, lc_lt, lc_ge, lc_gt, lc_le, lc_eq, t5, s5, ln_19, am_fitE])
          have k5 : CK (am_up g' 19 0 cs.length) B N p' := CK_fr ka (fun j _ _ => am_un (by omega))
          by_cases hz : tK B N p' = 0
          · have kz := k5.1
            rw [hz] at kz
            have := hO cs (am_up g' 19 0 cs.length) hw ⟨_, hr, qR_0 hz⟩ (by omega) (by rw [am_un (by omega), fa _ _ (by omega)]; exact w4) (by rw [am_un (by omega), fa _ _ (by omega)]; exact x11) (by rw [am_un (by omega), fa _ _ (by omega)]; exact x12) (by rw [am_un (by omega), fa _ _ (by omega)]; exact z4) am_ue (al_fr cs 0 (fun j _ _ => am_un (by omega)) ala) (fun c' j' hc' => by rw [am_un (by omega), fa c' j' (by omega)]; exact q4 c' j' (by omega))
            simpa [r144_101, r144_102, r144_105, r144_106, r144_109, r144_110, r144_111, r144_114, r144_117, r144_118, r144_121, r144_124, r144_125, r144_128, r144_129, cs_nil, cs_cons, lc_lt, lc_ge, lc_gt, lc_le, lc_eq, o5, cl, kz] using this
          · have kz := k5.1
            have kz' : ¬ (am_up g' 19 0 cs.length) 33 4 = 0 := by rw [kz]; exact hz
            have := hF 1 (tS B N p') (am_up (am_up (am_up g' 19 0 cs.length) 33 11 1) 33 12 (tS B N p')) (by rw [if_neg hn]; exact ⟨_, hr, qR_1 hz⟩) (by rw [am_un (by omega), am_ue]) am_ue (fun c' j' hc' => by rw [am_un (by omega), am_un (by omega), am_un (by omega), fa c' j' (by omega)]; exact q4 c' j' (by omega))
            simpa [r144_101, r144_102, r144_105, r144_106, r144_109, r144_110, r144_111, r144_114, r144_117, r144_118, r144_121, r144_124, r144_125, r144_128, r144_129, cs_nil, cs_cons, lc_lt, lc_ge, lc_gt, lc_le, lc_eq, o5, cl, kz', c_wrong k5] using this
      by_cases ht : qt (tW B N 0) = true
      · obtain ⟨r, hr⟩ := rd_K (B := B) (κ := 3) (o := 0) hN (show 0 ≤ tE B N 0 by omega) gb.2 9
        have ht' : tW B N 0 = 13 ∨ tW B N 0 = 21 ∨ tW B N 0 = 28 := qt_i.mp ht
        simp [r144_77, r144_80, r144_81, r144_82, cs_nil, cs_cons, lc_lt, lc_ge, lc_gt, lc_le, lc_eq, c_aT w4, ht']
        refine c_rd hN hB 20000 9 (tE B N 0) 0 r g4 0 _ (d + 98) hr U4 k4 s4 (by omega) (by omega) (by omega) gb.2 (by omega) (by omega) (show 14 * (6 - (0 : Int)).toNat + 12 ≤ d + 98 by omega) (fin 9 (by rw [if_pos ht]) r hr _ ?_ ?_)
        · intro g hg
          simpa [r144_85, r144_88, r144_91, r144_92, r144_93, r144_96, r144_99, r144_100, cs_nil, cs_cons, lc_lt, lc_ge, lc_gt, lc_le, lc_eq] using hg
        · intro g hg
          simpa [r144_85, r144_88, r144_91, r144_92, r144_93, r144_96, r144_99, r144_100, cs_nil, cs_cons, lc_lt, lc_ge, lc_gt, lc_le, lc_eq] using hg
      · obtain ⟨r, hr⟩ := rd_K (B := B) (κ := 3) (o := 0) hN (show 0 ≤ tE B N 0 by omega) gb.2 4
        have ht' : ¬ (tW B N 0 = 13 ∨ tW B N 0 = 21 ∨ tW B N 0 = 28) := fun q => ht (qt_i.mpr q)
        simp [r144_77, cs_nil, cs_cons, lc_lt, lc_ge, lc_gt, lc_le, lc_eq, r144_91, r144_92, r144_93, c_aT w4, ht']
        refine c_rd hN hB 20000 4 (tE B N 0) 0 r g4 0 _ (d + 98) hr U4 k4 s4 (by omega) (by omega) (by omega) gb.2 (by omega) (by omega) (show 14 * (6 - (0 : Int)).toNat + 8 ≤ d + 98 by omega) (fin 4 (by rw [if_neg ht]) r hr _ ?_ ?_)
        · intro g hg
          simpa [r144_96, r144_99, r144_100, cs_nil, cs_cons, lc_lt, lc_ge, lc_gt, lc_le, lc_eq] using hg
        · intro g hg
          simpa [r144_96, r144_99, r144_100, cs_nil, cs_cons, lc_lt, lc_ge, lc_gt, lc_le, lc_eq] using hg
    by_cases ht : tW B N 0 = 13 ∨ tW B N 0 = 21 ∨ tW B N 0 = 28
    · simpa [r144_41, r144_42, r144_45, r144_48, r144_49, r144_52, cs_nil, cs_cons, lc_lt, lc_ge, lc_gt, lc_le, lc_eq, c_aT w10, ht] using at60
    · have hs : tW B N 0 = 29 ∨ tW B N 0 = 30 ∨ tW B N 0 = 31 := qs_i.mp (hw.resolve_left (fun q => ht (qt_i.mp q)))
      simpa [r144_41, r144_42, r144_45, r144_48, r144_49, r144_52, cs_nil, cs_cons, lc_lt, lc_ge, lc_gt, lc_le, lc_eq, c_aT w10, c_aS w10, ht, hs] using at60
end
