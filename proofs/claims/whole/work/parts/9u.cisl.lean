/-! islands: the one side reads a whole text -/
section
variable {d : Nat} {f g : am_F} {B : Int → Int} {N p l sz : Int} {Q : am_V → am_F → Prop} {I : IS}
theorem CI_S (h : CI f l I sz) (hg : ∀ c j : Int, ¬ (c = 33 ∨ (c = l ∧ j = 13)) → g c j = f c j) {v : Int} (e : g l 13 = v) : CI g l (I.1, am_up I.2.1 0 1 v, I.2.2) sz := by
  obtain ⟨hL, hl, ⟨f9, f10, f11, f12, f13⟩, hT, hM, hR, hW, hU, hs, s0⟩ := h
  refine ⟨sL_fr hL (fun j _ _ => hg _ _ (by omega)) (fun j _ _ => hg _ _ (by omega)), hl, ⟨?_, ?_, ?_, ?_, ?_⟩, ?_, ?_, ?_, ?_, ?_, ?_, s0⟩
  · rw [hg _ _ (by omega)]; exact f9
  · rw [hg _ _ (by omega)]; exact f10
  · rw [hg _ _ (by omega)]; exact f11
  · show _ = am_up I.2.1 0 1 v 0 0
    rw [hg _ _ (by omega), am_un (by omega)]; exact f12
  · show _ = am_up I.2.1 0 1 v 0 1
    rw [am_ue, e]
  · intro k k0 k1
    show _ ∧ _ = am_up I.2.1 0 1 v 2 k ∧ _ = am_up I.2.1 0 1 v 3 k ∧ _ = am_up I.2.1 0 1 v 4 k
    rw [hg _ _ (by omega), hg _ _ (by omega), hg _ _ (by omega), hg _ _ (by omega), am_un (by omega), am_un (by omega), am_un (by omega)]
    exact hT k k0 k1
  · intro k k0 k1
    show _ ∧ _ = am_up I.2.1 0 1 v 6 k ∧ _ = am_up I.2.1 0 1 v 7 k
    rw [hg _ _ (by omega), hg _ _ (by omega), hg _ _ (by omega), am_un (by omega), am_un (by omega)]
    exact hM k k0 k1
  · intro k k0 k1
    rw [hg _ _ (by omega)]
    exact hR k k0 k1
  · intro v v0 v1 hv
    obtain ⟨k0, a, b, c, e, al0⟩ := hW v v0 v1 hv
    refine ⟨k0, ?_, ?_, c, e, al_fr _ _ (fun j _ _ => hg _ _ (by omega)) al0⟩
    · rw [hg _ _ (by omega)]; exact a
    · rw [hg _ _ (by omega)]; exact b
  · intro v v0 v1 hv
    rw [hg _ _ (by omega), hg _ _ (by omega)]
    exact hU v v0 v1 hv
  · rw [hg _ _ (by omega)]; exact hs
/-- what the loop comes to -/
def LQ (N l : Int) (f : am_F) (Q : am_V → am_F → Prop) (H : IS → am_F → Prop) : (Int × Int) ⊕ IS → Prop
  | .inl (k, q) => ∀ g, g 33 11 = k → g 33 12 = q → fIw l f g → Q (0, 0) g
  | .inr I' => ∀ g sz', CI g l I' sz' → PI I' → sz' ≤ N → fIs l f g → H I' g
theorem sdX_c {w p' : Int} {I' : IS} (h : sdX B N w I p = .inr (p', I')) : I'.2.1 0 1 = I.2.1 0 1 := by
  unfold sdX at h
  split at h
  · cases h
  · match hx : rK B N (wK w) (wM w) (tE B N p) with
    | .inl e => rw [hx] at h; cases h
    | .inr (q, cs) => rw [hx] at h; cases h; rfl
theorem sdd_c {p' : Int} {I' : IS} (h : sdd B N I p = .inr (p', I')) : I'.2.1 0 1 = I.2.1 0 1 := by
  unfold sdd at h
  split at h
  · unfold sdT at h
    split at h
    · cases h
    obtain ⟨_, _, h⟩ := b1_o h
    obtain ⟨_, _, h⟩ := b1_o h
    obtain ⟨_, _, h⟩ := b1_o h
    obtain ⟨_, _, h⟩ := b1_o h
    obtain ⟨_, _, h⟩ := b1_o h
    obtain ⟨_, _, h⟩ := b1_o h
    obtain ⟨_, _, h⟩ := b1_o h
    cases h
    simp [am_up]
  split at h
  · unfold sdM at h
    split at h
    · cases h
    obtain ⟨_, _, h⟩ := b1_o h
    obtain ⟨_, _, h⟩ := b1_o h
    obtain ⟨_, _, h⟩ := b1_o h
    obtain ⟨_, _, h⟩ := b1_o h
    obtain ⟨_, _, h⟩ := b1_o h
    cases h
    simp [am_up]
  split at h
  · unfold sdR at h
    split at h
    · cases h
    obtain ⟨_, _, h⟩ := b1_o h
    obtain ⟨p3, _, h⟩ := b1_o h
    match hx : rK B N 1 9 p3 with
    | .inl e => rw [hx] at h; cases h
    | .inr (q, cs) => rw [hx] at h; cases h; rfl
  split at h
  · exact sdX_c h
  split at h
  · exact sdX_c h
  split at h
  · exact sdX_c h
  split at h
  · exact sdX_c h
  split at h
  · exact sdX_c h
  split at h
  · unfold sdC at h
    obtain ⟨_, _, h⟩ := b1_o h
    cases h
    simp [am_up]
  · cases h
theorem c_loop (hN : N ≤ 1600) (hB : ∀ j, 0 ≤ B j ∧ B j ≤ 255) : ∀ (j : Nat) (k : Int) (I : IS) (p sz : Int) (f : am_F), k + j = 80 → 0 ≤ k → I.2.1 0 1 = k → CT f B N → CK f B N p → 0 ≤ p → p ≤ N → CI f l I sz → PI I → sz ≤ p → f 33 1 = l → f 33 2 = l + 9 → LQ N l f Q (fun _ g => ∀ k : Int, aw_wp (d + 99) 15 96 [(104, 33), (100, l), (0, k)] [] g Q) (il B N j I p) → aw_wp (d + 99) 15 29 [(104, 33), (100, l), (0, k)] [] f Q := by
  intro j
  induction j with
  | zero =>
    intro k I p sz f hk k0 hc T K p0 pN hI hp hz h33 h332 hQ
    have k80 : k = 80 := by omega
    subst k80
    unfold il at hQ
    have a1 := K.1
    by_cases ht : tK B N p = 0
    · rw [if_pos ht] at hQ
      rw [ht] at a1
      have := hQ f sz hI hp (by omega) (fun _ _ _ => rfl) 80
      rw [r15_29]
      simpa [r15_30, r15_32, cs_nil, cs_cons, lc_lt, lc_ge, lc_gt, lc_le, lc_eq, r15_79, r15_80, r15_83, a1] using this
    · rw [if_neg ht] at hQ
      have a1' : ¬ f 33 4 = 0 := by rw [a1]; exact ht
      have := hQ _ (by rw [am_un (by omega), am_ue]) am_ue (fIw_fl (k := 5) (q := tS B N p) (fun _ _ _ => rfl))
      rw [r15_29]
      simpa [r15_30, r15_32, cs_nil, cs_cons, lc_lt, lc_ge, lc_gt, lc_le, lc_eq, r15_79, r15_80, r15_83, r15_86, r15_87, r15_88, r15_89, r15_92, r15_95, a1', K.2.1, c_fail] using this
  | succ j ih =>
    intro k I p sz f hk k0 hc T K p0 pN hI hp hz h33 h332 hQ
    have lc := hI.2.1
    have l0 : 0 ≤ l := by omega
    unfold il at hQ
    have a1 := K.1
    have k8 : k < 80 := by omega
    by_cases ht : tK B N p = 0
    · rw [if_pos ht] at hQ
      rw [ht] at a1
      have := hQ f sz hI hp (by omega) (fun _ _ _ => rfl) k
      rw [r15_29]
      simpa (disch := omega) [r15_30, r15_32, r15_35, r15_36, r15_39, cs_nil, cs_cons, lc_lt, lc_ge, lc_gt, lc_le, lc_eq, r15_79, r15_80, r15_83, a1, le_T, lt_T, le_F, lt_F] using this
    · rw [if_neg ht] at hQ
      have a1' : ¬ f 33 4 = 0 := by rw [a1]; exact ht
      rw [r15_29]
      simp (disch := omega) [r15_30, r15_32, r15_35, r15_36, r15_39, r15_42, r15_43, cs_nil, cs_cons, lc_lt, lc_ge, lc_gt, lc_le, lc_eq, a1', le_T, lt_T, le_F, lt_F]
      refine c_stmt T hN hB K p0 pN hI hp hz h33 h332 ?_
      match hx : sdd B N I p with
      | .inl (k', q) =>
        rw [hx] at hQ
        intro g a b c
        have := hQ g a b c
        simpa [r15_46, r15_49, r15_50, r15_52, r15_55, r15_58, r15_59, cs_nil, cs_cons, lc_lt, lc_ge, lc_gt, lc_le, lc_eq] using this
      | .inr (p1, I1) =>
        have pi := sdd_PI hN hp p0 pN hx
        have cc := sdd_c hx
        intro g sz' K1 CI1 le1 fr1
        have T1 : CT g B N := CT_33 T (fun c j hc => fr1 c j (by omega))
        simp [r15_46, r15_49, r15_50, r15_52, cs_nil, cs_cons, lc_lt, lc_ge, lc_gt, lc_le, lc_eq]
        have hs : sS1 B N (sdd B N I p) = if isg B N p1 59 = true then .inr (tE B N p1, (I1.1, am_up I1.2.1 0 1 (I1.2.1 0 1 + 1), I1.2.2)) else .inl (1, tS B N p1) := by rw [hx]; rfl
        by_cases hg : isg B N p1 59 = true
        · rw [if_pos hg] at hs
          rw [hs] at hQ
          have gb := isg_b pi.2.2 hg
          refine c_takeSY T1 hN hB K1 (by omega) pi.2.2 hg ?_
          intro g2 K2 fr2
          have e13 : g2 l 13 = k := by rw [fr2 _ _ (by omega), CI1.2.2.1.2.2.2.2, cc, hc]
          have q33 : g2 33 1 = l := by rw [fr2 _ _ (by omega), fr1 _ _ (by omega)]; exact h33
          have fa : ∀ c j : Int, ¬ ((c = 33 ∧ 3 ≤ j ∧ j ≤ 9) ∨ (c = l ∧ 9 ≤ j) ∨ (l + 1 ≤ c ∧ c ≤ l + 8) ∨ (c = l + 9 ∧ j = 3) ∨ (l + 10 ≤ c ∧ c ≤ l + 12)) → (am_up g2 l 13 (k + 1)) c j = f c j := fun c j hc => by rw [am_un (by omega), fr2 _ _ (by omega), fr1 _ _ hc]
          have CI2 : CI (am_up g2 l 13 (k + 1)) l (I1.1, am_up I1.2.1 0 1 (k + 1), I1.2.2) sz' := CI_S CI1 (fun c j hc => by rw [am_un (by omega), fr2 _ _ (by omega)]) am_ue
          rw [cc, hc] at hQ
          have := ih (k + 1) (I1.1, am_up I1.2.1 0 1 (k + 1), I1.2.2) (tE B N p1) sz' (am_up g2 l 13 (k + 1)) (by omega) (by omega) (show am_up I1.2.1 0 1 (k + 1) 0 1 = k + 1 from am_ue) (CT_33 T (fun c j hc => fa c j (by omega))) (CK_fr K2 (fun j _ _ => am_un (by omega))) (by omega) gb.2 CI2 (PI_cnt pi.1) (by omega) (by rw [am_un (by omega)]; exact q33) (by rw [fa _ _ (by omega)]; exact h332) (by
            have hQ : LQ N l f Q (fun _ g => ∀ k : Int, aw_wp (d + 99) 15 96 [(104, 33), (100, l), (0, k)] [] g Q) (il B N j (I1.1, am_up I1.2.1 0 1 (k + 1), I1.2.2) (tE B N p1)) := hQ
            match il B N j (I1.1, am_up I1.2.1 0 1 (k + 1), I1.2.2) (tE B N p1), hQ with
            | .inl (k', q), hQ => exact fun h a b c => hQ h a b (fun c' j' hc' => by rw [c c' j' hc', fa c' j' (by omega)])
            | .inr I', hQ => exact fun h s a b c e => hQ h s a b c (fun c' j' hc' => by rw [e c' j' hc', fa c' j' hc']))
          simpa (disch := omega) [r15_55, r15_58, r15_59, r15_60, r15_61, r15_64, r15_65, r15_68, r15_69, r15_70, r15_73, r15_76, cs_nil, cs_cons, lc_lt, lc_ge, lc_gt, lc_le, lc_eq, q33, l0, e13, am_wid2] using this
        · rw [if_neg hg] at hs
          rw [hs] at hQ
          rw [c_takeSN K1 hg]
          have := hQ _ (by rw [am_un (by omega), am_ue]) am_ue (fIw_fl (k := 1) (q := tS B N p1) fr1)
          simpa [r15_55, r15_58, r15_59, cs_nil, cs_cons, lc_lt, lc_ge, lc_gt, lc_le, lc_eq] using this
def I0 : IS := (fun _ => 0, fun _ _ => 0, fun _ => [], fun _ => false, fun _ => [])
theorem PI_0 : PI I0 := ⟨⟨⟨Int.le_refl _, by decide⟩, ⟨Int.le_refl _, by decide⟩, ⟨Int.le_refl _, by decide⟩⟩, ⟨fun t a b => absurd b (by show ¬ t < 0; omega), fun t a b => absurd b (by show ¬ t < 0; omega), fun t a b => absurd b (by show ¬ t < 0; omega)⟩, ⟨fun t a b => absurd b (by show ¬ t < 0; omega), fun t a b => absurd b (by show ¬ t < 0; omega), ⟨Int.le_refl _, by decide⟩⟩, fun w _ _ h => (by cases h), fun k a b => ⟨fun h => (by cases h), fun h => absurd h (by show ¬ k < 0; omega)⟩⟩
def fIr (l : Int) (f g : am_F) : Prop := ∀ c j : Int, ¬ ((c = 33 ∧ 1 ≤ j) ∨ (c = l ∧ 9 ≤ j) ∨ (l + 1 ≤ c ∧ c ≤ l + 8) ∨ (c = l + 9 ∧ j = 3) ∨ (l + 10 ≤ c ∧ c ≤ l + 12)) → g c j = f c j
/-- a text is read into the island at l -/
theorem c_readI (h : CT f B N) (hN : N ≤ 1600) (n0 : 0 ≤ N) (hB : ∀ j, 0 ≤ B j ∧ B j ≤ 255) (lc : l = 1 ∨ l = 20) (hL : sL f l) (hF : ∀ k q, il B N 80 I0 0 = .inl (k, q) → ∀ g, g 33 11 = k → g 33 12 = q → fIr l f g → Q (0, 0) g) (hO : ∀ I', il B N 80 I0 0 = .inr I' → ∀ g sz, CI g l I' sz → PI I' → sz ≤ N → g 33 1 = l → g 33 11 = 0 → g 33 12 = -1 → fIr l f g → ∀ k : Int, aw_wp (d + 99) 15 96 [(104, 33), (100, l), (0, k)] [] g Q) : aw_cl (d + 99) 15 [(104, 33), (100, l)] f Q := by
  have l0 : 0 ≤ l := by omega
  have l9 : 0 ≤ l + 9 := by omega
  have s1 : sL (am_up f 33 1 l) l := sL_fr hL (fun j _ _ => am_un (by omega)) (fun j _ _ => am_un (by omega))
  have e1 : (am_up f 33 1 l) (l + 9) 1 = l + 9 + 2 := by rw [(sl_f s1).2.2.2.2.2.2.2.2.2.2.1]; omega
  have e2 : (am_up f 33 1 l) (l + 9) 2 = l + 9 + 3 := by rw [(sl_f s1).2.2.2.2.2.2.2.2.2.2.2]; omega
  have cl := fun (dd : Nat) (QQ : am_V → am_F → Prop) => c_clr (d := dd) (Q := QQ) (R := l + 9) (f := am_up f 33 1 l) (by omega) e1 e2
  have e8 : (am_up f 33 1 l) l 8 = l + 9 := (sl_f s1).2.2.2.2.2.2.2.2.1
  have hA : ∀ c j : Int, ¬ ((c = 33 ∧ j = 1) ∨ (c = l + 9 ∧ j = 3) ∨ c = l + 11 ∨ c = l + 12) → am_fi (am_fi (am_up (am_up f 33 1 l) (l + 9) 3 0) (l + 9 + 2) 0 10) (l + 9 + 3) 0 10 c j = f c j := fun c j hc => by rw [fl_n (by omega), fl_n (by omega), am_un (by omega), am_un (by omega)]
  have z3 : am_fi (am_fi (am_up (am_up f 33 1 l) (l + 9) 3 0) (l + 9 + 2) 0 10) (l + 9 + 3) 0 10 (l + 9) 3 = 0 := by rw [fl_n (by omega), fl_n (by omega), am_ue]
  have z11 : ∀ j, 0 ≤ j → j < 10 → am_fi (am_fi (am_up (am_up f 33 1 l) (l + 9) 3 0) (l + 9 + 2) 0 10) (l + 9 + 3) 0 10 (l + 11) j = 0 := fun j a b => by rw [fl_n (by omega), show l + 11 = l + 9 + 2 by omega, fl_i ⟨a, b⟩]
  have z12 : ∀ j, 0 ≤ j → j < 10 → am_fi (am_fi (am_up (am_up f 33 1 l) (l + 9) 3 0) (l + 9 + 2) 0 10) (l + 9 + 3) 0 10 (l + 12) j = 0 := fun j a b => by rw [show l + 12 = l + 9 + 3 by omega, fl_i ⟨a, b⟩]
  have x33 : am_fi (am_fi (am_up (am_up f 33 1 l) (l + 9) 3 0) (l + 9 + 2) 0 10) (l + 9 + 3) 0 10 33 1 = l := by rw [fl_n (by omega), fl_n (by omega), am_un (by omega), am_ue]
  simp (disch := omega) [q15, r15_0, r15_1, r15_2, r15_5, r15_6, r15_9, cs_nil, cs_cons, lc_lt, lc_ge, lc_gt, lc_le, lc_eq, l0, am_ue]
  simp (disch := omega) [r16_0, r16_1, r16_4, cs_nil, cs_cons, lc_lt, lc_ge, lc_gt, lc_le, lc_eq, q16, e8, l9, cl]
  generalize am_fi (am_fi (am_up (am_up f 33 1 l) (l + 9) 3 0) (l + 9 + 2) 0 10) (l + 9 + 3) 0 10 = g0 at hA z3 z11 z12 x33
  have hB1 : ∀ c j : Int, ¬ ((c = 33 ∧ j = 1) ∨ (c = l + 9 ∧ j = 3) ∨ c = l + 11 ∨ c = l + 12 ∨ (c = l ∧ 9 ≤ j ∧ j ≤ 13)) → (am_up (am_up (am_up (am_up (am_up g0 l 9 0) l 10 0) l 11 0) l 12 0) l 13 0) c j = f c j := fun c j hc => by rw [am_un (by omega), am_un (by omega), am_un (by omega), am_un (by omega), am_un (by omega), hA _ _ (by omega)]
  have y9 : ∀ j, 9 ≤ j → j ≤ 13 → (am_up (am_up (am_up (am_up (am_up g0 l 9 0) l 10 0) l 11 0) l 12 0) l 13 0) l j = 0 := fun j a b => by
    rcases (show j = 9 ∨ j = 10 ∨ j = 11 ∨ j = 12 ∨ j = 13 by omega) with e | e | e | e | e <;> subst e <;> simp [am_up]
  have y3 : (am_up (am_up (am_up (am_up (am_up g0 l 9 0) l 10 0) l 11 0) l 12 0) l 13 0) (l + 9) 3 = 0 := by rw [am_un (by omega), am_un (by omega), am_un (by omega), am_un (by omega), am_un (by omega)]; exact z3
  have y11 : ∀ j, 0 ≤ j → j < 10 → (am_up (am_up (am_up (am_up (am_up g0 l 9 0) l 10 0) l 11 0) l 12 0) l 13 0) (l + 11) j = 0 := fun j a b => by rw [am_un (by omega), am_un (by omega), am_un (by omega), am_un (by omega), am_un (by omega)]; exact z11 j a b
  have y12 : ∀ j, 0 ≤ j → j < 10 → (am_up (am_up (am_up (am_up (am_up g0 l 9 0) l 10 0) l 11 0) l 12 0) l 13 0) (l + 12) j = 0 := fun j a b => by rw [am_un (by omega), am_un (by omega), am_un (by omega), am_un (by omega), am_un (by omega)]; exact z12 j a b
  have y33 : (am_up (am_up (am_up (am_up (am_up g0 l 9 0) l 10 0) l 11 0) l 12 0) l 13 0) 33 1 = l := by rw [am_un (by omega), am_un (by omega), am_un (by omega), am_un (by omega), am_un (by omega)]; exact x33
  simp (disch := omega) [r16_7, r16_8, r16_9, r16_12, r16_13, r16_14, r16_17, r16_18, r16_19, r16_22, r16_23, r16_24, r16_27, r16_28, r16_29, r16_32, cs_nil, cs_cons, lc_lt, lc_ge, lc_gt, lc_le, lc_eq, l0]
  generalize am_up (am_up (am_up (am_up (am_up g0 l 9 0) l 10 0) l 11 0) l 12 0) l 13 0 = g1 at hB1 y9 y3 y11 y12 y33
  have s8 : g1 l 8 = l + 9 := by rw [hB1 _ _ (by omega)]; exact (sl_f hL).2.2.2.2.2.2.2.2.1
  simp (disch := omega) [r15_12, r15_13, r15_14, r15_17, r15_20, r15_23, r15_24, cs_nil, cs_cons, lc_lt, lc_ge, lc_gt, lc_le, lc_eq, y33, l0, l9, s8]
  have T1 : CT (am_up g1 33 2 (l + 9)) B N := CT_33 h (fun c j hc => by rw [am_un (by omega), hB1 _ _ (by omega)])
  refine c_beg0 T1 hN n0 hB ?_
  intro g2 K2 e11 e12 fr2
  have fa : ∀ c j : Int, ¬ ((c = 33 ∧ 1 ≤ j) ∨ (c = l + 9 ∧ j = 3) ∨ c = l + 11 ∨ c = l + 12 ∨ (c = l ∧ 9 ≤ j ∧ j ≤ 13)) → g2 c j = f c j := fun c j hc => by rw [fr2 _ _ (by omega), am_un (by omega), hB1 _ _ (by omega)]
  have q1 : g2 33 1 = l := by rw [fr2 _ _ (by omega), am_un (by omega)]; exact y33
  have q2 : g2 33 2 = l + 9 := by rw [fr2 _ _ (by omega), am_ue]
  have q9 : ∀ j, 9 ≤ j → j ≤ 13 → g2 l j = 0 := fun j a b => by rw [fr2 _ _ (by omega), am_un (by omega)]; exact y9 j a b
  have CI0 : CI g2 l I0 0 := by
    refine ⟨sL_fr hL (fun j _ _ => fa _ _ (by omega)) (fun j _ _ => fa _ _ (by omega)), lc, ⟨q9 9 (by omega) (by omega), q9 10 (by omega) (by omega), q9 11 (by omega) (by omega), q9 12 (by omega) (by omega), q9 13 (by omega) (by omega)⟩, ?_, ?_, ?_, ?_, ?_, ?_, by omega⟩
    · intro t a b
      have b : t < 0 := b
      omega
    · intro t a b
      have b : t < 0 := b
      omega
    · intro t a b
      have b : t < 0 := b
      omega
    · intro w _ _ hw
      cases hw
    · intro w w0 w1 _
      have crb := cr_b w0 (show w < 10 by omega)
      rw [fr2 _ _ (by omega), am_un (by omega), y11 _ crb.1 crb.2, fr2 _ _ (by omega), am_un (by omega), y12 _ crb.1 crb.2]
      exact ⟨rfl, rfl⟩
    · rw [fr2 _ _ (by omega), am_un (by omega)]; exact y3
  have := c_loop (d := d) (Q := Q) (l := l) hN hB 80 0 I0 0 0 g2 (by omega) (by omega) rfl (CT_33 h (fun c j hc => by
    by_cases e : c = 33
    · have : j = 0 := by omega
      rw [e, this, fr2 _ _ (by omega), am_un (by omega), hB1 _ _ (by omega)]
    · exact fa c j (by omega))) K2 (by omega) n0 CI0 PI_0 (by omega) q1 q2 (by
    match hx : il B N 80 I0 0 with
    | .inl (k, q) => exact fun g a b c => hF k q hx g a b (fun c' j' hc' => by rw [c c' j' (by omega), fa c' j' (by omega)])
    | .inr I' => exact fun g sz a b c e => hO I' hx g sz a b c (by rw [e _ _ (by omega)]; exact q1) (by rw [e _ _ (by omega)]; exact e11) (by rw [e _ _ (by omega)]; exact e12) (fun c' j' hc' => by rw [e c' j' (by omega), fa c' j' (by omega)]))
  simpa [r15_27, r15_28, cs_nil, cs_cons, lc_lt, lc_ge, lc_gt, lc_le, lc_eq] using this
end
