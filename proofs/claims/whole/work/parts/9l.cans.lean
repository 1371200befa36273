/-! questions: what they come to, on the one side -/
def gvT (L : am_F) (ρ : Int → List Int) (z : am_F) (r : Nat) (t : Int) : Int := (bm (fun k => aP L ρ z t (k : Int)) r : Int)
/-- what a question's codes give for thing t -/
def UU (L : am_F) (ρ : Int → List Int) (z : am_F) (r : Nat) (cs : List Int) (t : Int) : Int := vl (ptZ L z t (gvT L ρ z r t)) (ogC (gvT L ρ z r t)) cs
def aFst (U : Int → Int) : Nat → Int
  | 0 => -1
  | j + 1 => if aFst U j = -1 ∧ ¬ U j = 0 then (j : Int) else aFst U j
def aLst (U : Int → Int) : Nat → Int
  | 0 => -1
  | j + 1 => if ¬ U j = 0 then (j : Int) else aLst U j
def aOft (U : Int → Int) : Nat → Int
  | 0 => 0
  | j + 1 => if ¬ U j = 0 then aOft U j + 1 else aOft U j
def aTot (U : Int → Int) : Nat → Int
  | 0 => 0
  | j + 1 => aTot U j + U j
def aMst (U : Int → Int) : Nat → Int
  | 0 => 0
  | j + 1 => if j = 0 then U 0 else if aMst U j < U j then U j else aMst U j
def aLea (U : Int → Int) : Nat → Int
  | 0 => 0
  | j + 1 => if j = 0 then U 0 else if U j < aLea U j then U j else aLea U j
def ans (w : Int) (U : Int → Int) (n : Nat) : Int := if w = 13 then aFst U n else if w = 21 then aLst U n else if w = 28 then aOft U n else if w = 29 then aTot U n else if w = 30 then aMst U n else aLea U n
theorem aFst_b {U : Int → Int} : ∀ j : Nat, -1 ≤ aFst U j ∧ aFst U j < j
  | 0 => by simp [aFst]
  | j + 1 => by
    have := aFst_b (U := U) j
    unfold aFst
    split <;> omega
theorem aLst_b {U : Int → Int} : ∀ j : Nat, -1 ≤ aLst U j ∧ aLst U j < j
  | 0 => by simp [aLst]
  | j + 1 => by
    have := aLst_b (U := U) j
    unfold aLst
    split <;> omega
theorem aOft_b {U : Int → Int} : ∀ j : Nat, 0 ≤ aOft U j ∧ aOft U j ≤ j
  | 0 => by simp [aOft]
  | j + 1 => by
    have := aOft_b (U := U) j
    unfold aOft
    split <;> omega
theorem aTot_b {U : Int → Int} : ∀ j : Nat, (∀ i : Nat, i < j → -1000000 ≤ U i ∧ U i ≤ 1000000) → -1000000 * j ≤ aTot U j ∧ aTot U j ≤ 1000000 * j
  | 0, _ => by simp [aTot]
  | j + 1, h => by
    have := aTot_b (U := U) j (fun i hi => h i (by omega))
    have hj := h j (by omega)
    unfold aTot
    omega
theorem aMst_b {U : Int → Int} : ∀ j : Nat, (∀ i : Nat, i < j → -1000000 ≤ U i ∧ U i ≤ 1000000) → -1000000 ≤ aMst U j ∧ aMst U j ≤ 1000000
  | 0, _ => by simp [aMst]
  | j + 1, h => by
    have := aMst_b (U := U) j (fun i hi => h i (by omega))
    have hj := h j (by omega)
    have h0 := h 0 (by omega)
    simp only [Int.natCast_zero] at h0
    unfold aMst
    split
    · exact h0
    · split <;> omega
theorem aLea_b {U : Int → Int} : ∀ j : Nat, (∀ i : Nat, i < j → -1000000 ≤ U i ∧ U i ≤ 1000000) → -1000000 ≤ aLea U j ∧ aLea U j ≤ 1000000
  | 0, _ => by simp [aLea]
  | j + 1, h => by
    have := aLea_b (U := U) j (fun i hi => h i (by omega))
    have hj := h j (by omega)
    have h0 := h 0 (by omega)
    simp only [Int.natCast_zero] at h0
    unfold aLea
    split
    · exact h0
    · split <;> omega
section
variable {d n m r : Nat} {f L z : am_F} {ρ : Int → List Int} {l : Int} {Q : am_V → am_F → Prop} {cs : List Int} {b : Bool}
theorem UU_b (hT : TW n m r L ρ) (ho : OZ n z) {t : Int} (h0 : 0 ≤ t) (h1 : t < n) (hty : tr false true cs [] = some [b]) : -1000000 ≤ UU L ρ z r cs t ∧ UU L ρ z r cs t ≤ 1000000 ∧ (b = true → UU L ρ z r cs t = 0 ∨ UU L ρ z r cs t = 1) := by
  have hok := er_ok (og := ogC (gvT L ρ z r t)) (pt := ptZ L z t (gvT L ρ z r t)) (fun k _ _ k7 => pt_b hT ho h0 h1 (fun hk => by have := k7 hk; cases this)) og_b cs [] [b] [] hty trivial
  unfold UU vl
  match hs : er (ptZ L z t (gvT L ρ z r t)) (ogC (gvT L ρ z r t)) cs [], hok with
  | [v], hok =>
    have i := okv_b hok.1
    refine ⟨i.1, i.2, fun hy => ?_⟩
    subst hy
    have := hok.1
    simpa [okv] using this
def AS (f : am_F) (l : Int) (n m r : Nat) (L : am_F) (ρ : Int → List Int) (z : am_F) (cs : List Int) : Prop := aw_fx f ∧ CB f 46 l n m r L ρ z ∧ f 18 0 = 0 ∧ f 19 0 = (cs.length : Int) ∧ al f 17 cst 0 cs
theorem AS_fK {g : am_F} (h : AS f l n m r L ρ z cs) (hg : fK f g) : AS g l n m r L ρ z cs := by
  obtain ⟨a1, a2, a3, a4, a5⟩ := h
  refine ⟨fun x hx => ?_, CB_fK a2 hg, ?_, ?_, al_fr cs 0 (fun j _ _ => hg _ _ (by omega)) a5⟩
  · rw [hg _ _ (by have q := SC_n (fx_n (Or.inl rfl) hx).1; omega)]; exact a1 x hx
  · rw [hg _ _ (by omega)]; exact a3
  · rw [hg _ _ (by omega)]; exact a4
theorem c_ask1 (h : AS f l n m r L ρ z cs) (hty : tr false true cs [] = some [b]) (hl : (cs.length : Int) ≤ 1600) {t : Int} (h0 : 0 ≤ t) (h1 : t < n) (hQ : ∀ f1, fK f f1 → Q (0, UU L ρ z r cs t) f1) : aw_cl (d + 5) 148 [(109, 0), (0, t)] f Q := by
  have hx := h.1
  simp [r148_0, r148_1, r148_4, r148_5, r148_8, r148_9, r148_10, r148_13, r148_14, r148_15, r148_18, r148_19, r148_22, r148_23, cs_nil, cs_cons, lc_lt, lc_ge, lc_gt, lc_le, lc_eq, q148, c_fx hx]
  refine c_passed h.2.1 h0 h1 ?_
  intro f1 hk
  obtain ⟨x1, ⟨hx5, hl1, hz, hT, ho⟩, a3, a4, a5⟩ := AS_fK h hk
  have cf := c_fx x1
  have hn8 := hT.1
  simp [r148_26, cs_nil, cs_cons, lc_lt, lc_ge, lc_gt, lc_le, lc_eq]
  refine c_reckon (sk := false) (q := true) (b := b) (k0 := 0) (sA := 17) (l := l) (cs0 := cs) hx5.1 ?_ hz.1 (by omega) hl1.1 hl1.2.1.2 hz.2.2.1 (by omega) (by omega) a3 (by rw [show (17 : Int) + 2 = 19 by decide, a4]; omega) (by omega) (by omega) a5 hty ?_ og_b ?_
  · refine ⟨by omega, by omega, ?_, ?_, ?_, by omega, by omega, ln_17, ln_18, ln_19⟩
    · simp [cf]
    · simp [cf]
    · simp [cf]
  · intro k k0 k9 k7
    rw [ptC_Z hl1 hz h0 h1]
    exact pt_b hT ho h0 h1 (fun hk => by have := k7 hk; cases this)
  · intro f2 hk2
    have := hQ f2 (fK_tr hk hk2)
    have e : ptC f1 46 l t (gvT L ρ z r t) = ptZ L z t (gvT L ρ z r t) := by funext k; exact ptC_Z hl1 hz h0 h1
    have e2 : vl (ptC f1 46 l t (gvT L ρ z r t)) (ogC (gvT L ρ z r t)) cs = UU L ρ z r cs t := by rw [e]; rfl
    have e3 : (bm (fun k => aP L ρ z t (k : Int)) r : Int) = gvT L ρ z r t := rfl
    rw [e3, e2]
    simpa [r148_29, cs_nil, cs_cons, lc_lt, lc_ge, lc_gt, lc_le, lc_eq] using this
theorem c_ansT (h : AS f l n m r L ρ z cs) (hty : tr false true cs [] = some [b]) (hl : (cs.length : Int) ≤ 1600) {w : Int} (hw : w = 13 ∨ w = 21 ∨ w = 28) (hQ : ∀ f1, fK f f1 → Q (1, ans w (UU L ρ z r cs) n) f1) : aw_cl (d + 6) 147 [(109, 0), (0, w)] f Q := by
  have hn8 := h.2.1.2.2.2.1.1
  have key : ∀ (j t : Nat) (g : am_F), t + j = n → fK f g → aw_wp (d + 6) 147 10 [(109, 0), (0, w), (0, aFst (UU L ρ z r cs) t), (0, aLst (UU L ρ z r cs) t), (0, aOft (UU L ρ z r cs) t), (0, (t : Int))] [] g Q := by
    intro j
    induction j with
    | zero =>
      intro t g ht hg
      obtain rfl : t = n := by omega
      obtain ⟨x1, ⟨hx5, hl1, hz, hT, ho⟩, a3, a4, a5⟩ := AS_fK h hg
      have hL := hl1.1
      have hla := hz.2.2.1
      have hn := hl1.2.2.1.1
      have l0 : 0 ≤ l := by have := hl1.2.1; omega
      have := hQ g hg
      unfold ans at this
      rw [r147_10]
      rcases hw with e | e | e
      · rw [e] at this ⊢
        simpa [r147_12, r147_13, r147_16, r147_19, r147_22, r147_25, r147_26, r147_28, r147_31, r147_34, r147_35, r147_36, r147_39, r147_41, r147_44, r147_45, r147_46, r147_48, r147_49, r147_52, r147_55, r147_58, r147_59, r147_61, r147_64, r147_66, r147_67, r147_68, r147_69, r147_71, r147_74, r147_75, r147_76, r147_79, r147_80, r147_81, cs_nil, cs_cons, lc_lt, lc_ge, lc_gt, lc_le, lc_eq, c_fx x1, hla, hn, l0] using this
      · rw [e] at this ⊢
        simpa [r147_12, r147_13, r147_16, r147_19, r147_22, r147_25, r147_26, r147_28, r147_31, r147_34, r147_35, r147_36, r147_39, r147_41, r147_44, r147_45, r147_46, r147_48, r147_49, r147_52, r147_55, r147_58, r147_59, r147_61, r147_64, r147_66, r147_67, r147_68, r147_69, r147_71, r147_74, r147_75, r147_76, r147_79, r147_80, r147_81, cs_nil, cs_cons, lc_lt, lc_ge, lc_gt, lc_le, lc_eq, c_fx x1, hla, hn, l0] using this
      · rw [e] at this ⊢
        simpa [r147_12, r147_13, r147_16, r147_19, r147_22, r147_25, r147_26, r147_28, r147_31, r147_34, r147_35, r147_36, r147_39, r147_41, r147_44, r147_45, r147_46, r147_48, r147_49, r147_52, r147_55, r147_58, r147_59, r147_61, r147_64, r147_66, r147_67, r147_68, r147_69, r147_71, r147_74, r147_75, r147_76, r147_79, r147_80, r147_81, cs_nil, cs_cons, lc_lt, lc_ge, lc_gt, lc_le, lc_eq, c_fx x1, hla, hn, l0] using this
    | succ j ih =>
      intro t g ht hg
      have hA := AS_fK h hg
      obtain ⟨x1, ⟨hx5, hl1, hz, hT, ho⟩, a3, a4, a5⟩ := id hA
      have hla := hz.2.2.1
      have hn := hl1.2.2.1.1
      have l0 : 0 ≤ l := by have := hl1.2.1; omega
      have c1 : ¬ n ≤ t := by omega
      rw [r147_10]
      simp [r147_12, r147_13, r147_16, r147_19, r147_22, r147_25, r147_26, r147_28, cs_nil, cs_cons, lc_lt, lc_ge, lc_gt, lc_le, lc_eq, c_fx x1, hla, hn, l0, c1]
      refine c_ask1 hA hty hl (t := (t : Int)) (by omega) (by omega) ?_
      intro f1 hf
      have ih' := ih (t + 1) f1 (by omega) (fK_tr hg hf)
      rw [Int.natCast_add t] at ih'
      have b1 := aFst_b (U := UU L ρ z r cs) t
      have b2 := aLst_b (U := UU L ρ z r cs) t
      have b3 := aOft_b (U := UU L ρ z r cs) t
      unfold aFst aLst aOft at ih'
      by_cases hu : UU L ρ z r cs t = 0
      · rw [if_neg (fun q => q.2 hu), if_neg (fun q => q hu), if_neg (fun q => q hu)] at ih'
        simpa (disch := omega) [r147_31, r147_34, r147_35, r147_36, r147_39, r147_41, r147_44, r147_45, r147_46, r147_48, r147_49, r147_52, r147_55, cs_nil, cs_cons, lc_lt, lc_ge, lc_gt, lc_le, lc_eq, hu, am_wid2] using ih'
      · rw [if_pos hu, if_pos hu] at ih'
        by_cases h1 : aFst (UU L ρ z r cs) t = -1
        · rw [if_pos ⟨h1, hu⟩] at ih'
          simpa (disch := omega) [r147_31, r147_34, r147_35, r147_36, r147_39, r147_41, r147_44, r147_45, r147_46, r147_48, r147_49, r147_52, r147_55, cs_nil, cs_cons, lc_lt, lc_ge, lc_gt, lc_le, lc_eq, hu, h1, am_wid2] using ih'
        · rw [if_neg (fun q => h1 q.1)] at ih'
          simpa (disch := omega) [r147_31, r147_34, r147_35, r147_36, r147_39, r147_41, r147_44, r147_45, r147_46, r147_48, r147_49, r147_52, r147_55, cs_nil, cs_cons, lc_lt, lc_ge, lc_gt, lc_le, lc_eq, hu, h1, am_wid2] using ih'
  have := key n 0 f (by omega) fK_refl
  simpa [q147, r147_0, r147_1, r147_2, r147_3, r147_4, r147_5, r147_7, r147_8, cs_nil, cs_cons, lc_lt, lc_ge, lc_gt, lc_le, lc_eq, aFst, aLst, aOft] using this
theorem c_ansS (h : AS f l n m r L ρ z cs) (hty : tr false true cs [] = some [b]) (hl : (cs.length : Int) ≤ 1600) {w : Int} (hw : w = 29 ∨ w = 30 ∨ w = 31) (hQ : ∀ f1, fK f f1 → Q (1, ans w (UU L ρ z r cs) n) f1) : aw_cl (d + 6) 149 [(109, 0), (0, w)] f Q := by
  have hn8 := h.2.1.2.2.2.1.1
  have ub : ∀ i : Nat, i < n → -1000000 ≤ UU L ρ z r cs i ∧ UU L ρ z r cs i ≤ 1000000 := fun i hi => by
    have := UU_b h.2.1.2.2.2.1 h.2.1.2.2.2.2 (t := (i : Int)) (by omega) (by omega) hty
    exact ⟨this.1, this.2.1⟩
  have key : ∀ (j t : Nat) (g : am_F) (x : am_V), t + j = n → fK f g → aw_wp (d + 6) 149 11 [(109, 0), (0, w), (1, aTot (UU L ρ z r cs) t), (2, 0), (0, aMst (UU L ρ z r cs) t), (0, aLea (UU L ρ z r cs) t), (0, (t : Int)), x] [] g Q := by
    intro j
    induction j with
    | zero =>
      intro t g x ht hg
      obtain ⟨tx, vx⟩ := x
      obtain rfl : t = n := by omega
      obtain ⟨x1, ⟨hx5, hl1, hz, hT, ho⟩, a3, a4, a5⟩ := AS_fK h hg
      have hla := hz.2.2.1
      have hn := hl1.2.2.1.1
      have l0 : 0 ≤ l := by have := hl1.2.1; omega
      have := hQ g hg
      unfold ans at this
      rw [r149_11]
      rcases hw with e | e | e
      · rw [e] at this ⊢
        simpa [r149_13, r149_14, r149_17, r149_20, r149_23, r149_26, r149_27, r149_29, r149_32, r149_34, r149_35, r149_37, r149_38, r149_39, r149_40, r149_42, r149_45, r149_47, r149_50, r149_52, r149_54, r149_57, r149_59, r149_61, r149_64, r149_66, r149_69, r149_71, r149_73, r149_76, r149_78, r149_81, r149_84, r149_85, r149_87, r149_90, r149_91, r149_92, r149_93, r149_95, r149_98, r149_100, r149_101, r149_104, r149_106, r149_107, cs_nil, cs_cons, lc_lt, lc_ge, lc_gt, lc_le, lc_eq, c_fx x1, hla, hn, l0] using this
      · rw [e] at this ⊢
        simpa [r149_13, r149_14, r149_17, r149_20, r149_23, r149_26, r149_27, r149_29, r149_32, r149_34, r149_35, r149_37, r149_38, r149_39, r149_40, r149_42, r149_45, r149_47, r149_50, r149_52, r149_54, r149_57, r149_59, r149_61, r149_64, r149_66, r149_69, r149_71, r149_73, r149_76, r149_78, r149_81, r149_84, r149_85, r149_87, r149_90, r149_91, r149_92, r149_93, r149_95, r149_98, r149_100, r149_101, r149_104, r149_106, r149_107, cs_nil, cs_cons, lc_lt, lc_ge, lc_gt, lc_le, lc_eq, c_fx x1, hla, hn, l0] using this
      · rw [e] at this ⊢
        simpa [r149_13, r149_14, r149_17, r149_20, r149_23, r149_26, r149_27, r149_29, r149_32, r149_34, r149_35, r149_37, r149_38, r149_39, r149_40, r149_42, r149_45, r149_47, r149_50, r149_52, r149_54, r149_57, r149_59, r149_61, r149_64, r149_66, r149_69, r149_71, r149_73, r149_76, r149_78, r149_81, r149_84, r149_85, r149_87, r149_90, r149_91, r149_92, r149_93, r149_95, r149_98, r149_100, r149_101, r149_104, r149_106, r149_107, cs_nil, cs_cons, lc_lt, lc_ge, lc_gt, lc_le, lc_eq, c_fx x1, hla, hn, l0] using this
    | succ j ih =>
      intro t g x ht hg
      obtain ⟨tx, vx⟩ := x
      have hA := AS_fK h hg
      obtain ⟨x1, ⟨hx5, hl1, hz, hT, ho⟩, a3, a4, a5⟩ := id hA
      have hla := hz.2.2.1
      have hn := hl1.2.2.1.1
      have l0 : 0 ≤ l := by have := hl1.2.1; omega
      have c1 : ¬ n ≤ t := by omega
      rw [r149_11]
      simp [r149_13, r149_14, r149_17, r149_20, r149_23, r149_26, r149_27, r149_29, cs_nil, cs_cons, lc_lt, lc_ge, lc_gt, lc_le, lc_eq, c_fx x1, hla, hn, l0, c1]
      refine c_ask1 hA hty hl (t := (t : Int)) (by omega) (by omega) ?_
      intro f1 hf
      have ih' := ih (t + 1) f1 (0, UU L ρ z r cs t) (by omega) (fK_tr hg hf)
      rw [Int.natCast_add t] at ih'
      have b1 := aTot_b (U := UU L ρ z r cs) t (fun i hi => ub i (by omega))
      have b2 := ub t (by omega)
      have b3 := aMst_b (U := UU L ρ z r cs) t (fun i hi => ub i (by omega))
      have b4 := aLea_b (U := UU L ρ z r cs) t (fun i hi => ub i (by omega))
      have t8 : (t : Int) ≤ 8 := by omega
      unfold aTot aMst aLea at ih'
      generalize aTot (UU L ρ z r cs) t = T at b1 ih'
      generalize aMst (UU L ρ z r cs) t = A at b3 ih'
      generalize aLea (UU L ρ z r cs) t = E at b4 ih'
      have bt : -9000000 ≤ T ∧ T ≤ 9000000 := by omega
      by_cases t0 : t = 0
      · subst t0
        simp only [if_true] at ih'
        have b2' : -1000000 ≤ UU L ρ z r cs 0 ∧ UU L ρ z r cs 0 ≤ 1000000 := by simpa using b2
        simpa (disch := omega) [r149_32, r149_34, r149_35, r149_37, r149_38, r149_39, r149_40, r149_42, r149_45, r149_47, r149_50, r149_52, r149_54, r149_57, r149_59, r149_61, r149_64, r149_66, r149_69, r149_71, r149_73, r149_76, r149_78, r149_81, cs_nil, cs_cons, lc_lt, lc_ge, lc_gt, lc_le, lc_eq, am_wid2, am_wLd2] using ih'
      · have t0' : ¬ (t : Int) = 0 := by omega
        rw [if_neg t0, if_neg t0] at ih'
        by_cases h1 : A < UU L ρ z r cs t
        · rw [if_pos h1] at ih'
          have h1' : ¬ UU L ρ z r cs t ≤ A := by omega
          by_cases h2 : UU L ρ z r cs t < E
          · rw [if_pos h2] at ih'
            have h2' : ¬ E ≤ UU L ρ z r cs t := by omega
            simpa (disch := omega) [r149_32, r149_34, r149_35, r149_37, r149_38, r149_39, r149_40, r149_42, r149_45, r149_47, r149_50, r149_52, r149_54, r149_57, r149_59, r149_61, r149_64, r149_66, r149_69, r149_71, r149_73, r149_76, r149_78, r149_81, cs_nil, cs_cons, lc_lt, lc_ge, lc_gt, lc_le, lc_eq, q73, r73_0, r73_1, r73_2, r73_5, r73_6, r73_9, r73_10, q74, r74_0, r74_1, r74_2, r74_5, r74_6, r74_9, r74_10, cs_nil, cs_cons, lc_lt, lc_ge, lc_gt, lc_le, lc_eq, t0, t0', h1, h1', h2, h2', am_wid2, am_wLd2] using ih'
          · rw [if_neg h2] at ih'
            have h2' : E ≤ UU L ρ z r cs t := by omega
            simpa (disch := omega) [r149_32, r149_34, r149_35, r149_37, r149_38, r149_39, r149_40, r149_42, r149_45, r149_47, r149_50, r149_52, r149_54, r149_57, r149_59, r149_61, r149_64, r149_66, r149_69, r149_71, r149_73, r149_76, r149_78, r149_81, cs_nil, cs_cons, lc_lt, lc_ge, lc_gt, lc_le, lc_eq, q73, r73_0, r73_1, r73_2, r73_5, r73_6, r73_9, r73_10, q74, r74_0, r74_1, r74_2, r74_5, r74_6, r74_9, r74_10, cs_nil, cs_cons, lc_lt, lc_ge, lc_gt, lc_le, lc_eq, t0, t0', h1, h1', h2, h2', am_wid2, am_wLd2] using ih'
        · rw [if_neg h1] at ih'
          have h1' : UU L ρ z r cs t ≤ A := by omega
          by_cases h2 : UU L ρ z r cs t < E
          · rw [if_pos h2] at ih'
            have h2' : ¬ E ≤ UU L ρ z r cs t := by omega
            simpa (disch := omega) [r149_32, r149_34, r149_35, r149_37, r149_38, r149_39, r149_40, r149_42, r149_45, r149_47, r149_50, r149_52, r149_54, r149_57, r149_59, r149_61, r149_64, r149_66, r149_69, r149_71, r149_73, r149_76, r149_78, r149_81, cs_nil, cs_cons, lc_lt, lc_ge, lc_gt, lc_le, lc_eq, q73, r73_0, r73_1, r73_2, r73_5, r73_6, r73_9, r73_10, q74, r74_0, r74_1, r74_2, r74_5, r74_6, r74_9, r74_10, cs_nil, cs_cons, lc_lt, lc_ge, lc_gt, lc_le, lc_eq, t0, t0', h1, h1', h2, h2', am_wid2, am_wLd2] using ih'
          · rw [if_neg h2] at ih'
            have h2' : E ≤ UU L ρ z r cs t := by omega
            simpa (disch := omega) [r149_32, r149_34, r149_35, r149_37, r149_38, r149_39, r149_40, r149_42, r149_45, r149_47, r149_50, r149_52, r149_54, r149_57, r149_59, r149_61, r149_64, r149_66, r149_69, r149_71, r149_73, r149_76, r149_78, r149_81, cs_nil, cs_cons, lc_lt, lc_ge, lc_gt, lc_le, lc_eq, q73, r73_0, r73_1, r73_2, r73_5, r73_6, r73_9, r73_10, q74, r74_0, r74_1, r74_2, r74_5, r74_6, r74_9, r74_10, cs_nil, cs_cons, lc_lt, lc_ge, lc_gt, lc_le, lc_eq, t0, t0', h1, h1', h2, h2', am_wid2, am_wLd2] using ih'
  have := key n 0 f (2, 0) (by omega) fK_refl
  simpa [q149, r149_0, r149_1, r149_2, r149_3, r149_5, r149_6, r149_8, r149_9, cs_nil, cs_cons, lc_lt, lc_ge, lc_gt, lc_le, lc_eq, aTot, aMst, aLea] using this
end
