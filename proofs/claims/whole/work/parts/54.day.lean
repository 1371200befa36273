/-! a day, and the class's side of it -/
def whoF (H left : Int → Int) : Nat → Int → Int
  | 0, _ => -1
  | j + 1, k => if H k ≤ left k then k else whoF H left j (k + 1)
def who (H left : Int → Int) (m : Nat) : Int := whoF H left m 0
theorem whoF_ok {H left : Int → Int} : ∀ (j : Nat) (k : Int), whoF H left j k = -1 ∨ (k ≤ whoF H left j k ∧ whoF H left j k < k + j ∧ H (whoF H left j k) ≤ left (whoF H left j k))
  | 0, _ => Or.inl rfl
  | j + 1, k => by
    unfold whoF
    split
    · rename_i h
      exact Or.inr ⟨by omega, by omega, h⟩
    · rcases whoF_ok (H := H) (left := left) j (k + 1) with h | h
      · exact Or.inl h
      · exact Or.inr ⟨by omega, by omega, h.2.2⟩
theorem who_ok {H left : Int → Int} {m : Nat} : who H left m = -1 ∨ (0 ≤ who H left m ∧ who H left m < m ∧ H (who H left m) ≤ left (who H left m)) := by
  have := whoF_ok (H := H) (left := left) m 0
  unfold who
  omega
def pkF (B : Int → Bool) (R : Int → Int) : Nat → Int → Int → Int
  | 0, _, b => b
  | j + 1, t, b => pkF B R j (t + 1) (if B t = true ∧ (b = -1 ∨ R b < R t) then t else b)
theorem pkF_ok {B : Int → Bool} {R : Int → Int} {n : Nat} : ∀ (j : Nat) (t b : Int), t + j = n → 0 ≤ t → (b = -1 ∨ (0 ≤ b ∧ b < n ∧ B b = true)) → (pkF B R j t b = -1 ∨ (0 ≤ pkF B R j t b ∧ pkF B R j t b < n ∧ B (pkF B R j t b) = true))
  | 0, _, _, _, _, h => h
  | j + 1, t, b, h1, h2, h3 => by
    unfold pkF
    refine pkF_ok j (t + 1) _ (by omega) (by omega) ?_
    split
    · rename_i h
      exact Or.inr ⟨h2, by omega, h.1⟩
    · exact h3
theorem pkF_no {B : Int → Bool} {R : Int → Int} {n : Nat} (hB : ∀ t : Int, 0 ≤ t → t < n → B t = false) : ∀ (j : Nat) (t b : Int), t + j = n → 0 ≤ t → pkF B R j t b = b
  | 0, _, _, _, _ => rfl
  | j + 1, t, b, h1, h2 => by
    unfold pkF
    rw [if_neg (by rw [hB t h2 (by omega)]; simp)]
    exact pkF_no hB j (t + 1) b (by omega) (by omega)
def aB (L : am_F) (ρ : Int → List Int) (z : am_F) (left : Int → Int) (m : Nat) (t : Int) : Bool := decide (z 1 t = 1) && decide (¬ who (aH L ρ z t) left m = -1)
def pick (L : am_F) (ρ : Int → List Int) (z : am_F) (left : Int → Int) (n m : Nat) : Int := pkF (aB L ρ z left m) (fun t => V L ρ z t 0 4) n 0 (-1)
theorem pick_ok {L z : am_F} {ρ : Int → List Int} {left : Int → Int} {n m : Nat} : pick L ρ z left n m = -1 ∨ (0 ≤ pick L ρ z left n m ∧ pick L ρ z left n m < n ∧ aB L ρ z left m (pick L ρ z left n m) = true) := pkF_ok n 0 (-1) (by omega) (by omega) (Or.inl rfl)
def lf (left : Int → Int) (k v : Int) : Int → Int := fun x => if x = k then v else left x
def mdl (L : am_F) (ρ : Int → List Int) (n m : Nat) : Nat → am_F → (Int → Int) → am_F
  | 0, z, _ => z
  | j + 1, z, left => if pick L ρ z left n m = -1 then z else mdl L ρ n m j (mnd L ρ z (pick L ρ z left n m) (who (aH L ρ z (pick L ρ z left n m)) left m)) (lf left (who (aH L ρ z (pick L ρ z left n m)) left m) (left (who (aH L ρ z (pick L ρ z left n m)) left m) - aH L ρ z (pick L ρ z left n m) (who (aH L ρ z (pick L ρ z left n m)) left m)))
def aFl (L : am_F) (ρ : Int → List Int) (z : am_F) (t : Int) : Bool := decide (¬ z 1 t = 1) && decide (¬ V L ρ z t 0 1 = 0)
def bks (F : Int → Bool) (z : am_F) : Nat → am_F
  | 0 => z
  | n + 1 => if F n = true then brk (bks F z n) n else bks F z n
def day (L : am_F) (ρ : Int → List Int) (n m : Nat) (z : am_F) : am_F := am_up (mdl L ρ n m n (bks (aFl L ρ z) z n) (L 7)) 0 0 (z 0 0 + 1)
theorem brk_o {z : am_F} {t i s : Int} (h : i ≤ 6) (hs : ¬ s = t) : brk z t i s = z i s := by
  unfold brk
  rw [nte_0 h]
  unfold br0
  rw [am_un (by omega), am_un (by omega), am_un (by omega)]
theorem mnd_o {L z : am_F} {ρ : Int → List Int} {t k i s : Int} (h : i ≤ 6) (hs : ¬ s = t) : mnd L ρ z t k i s = z i s := by
  unfold mnd
  rw [nte_0 h]
  unfold mn0
  rw [am_un (by omega), am_un (by omega), am_un (by omega)]
theorem brk_d {z : am_F} {t s : Int} : brk z t 0 s = z 0 s := by
  unfold brk
  rw [nte_0 (by omega)]
  unfold br0
  rw [am_un (by omega), am_un (by omega), am_un (by omega)]
theorem mnd_d {L z : am_F} {ρ : Int → List Int} {t k s : Int} : mnd L ρ z t k 0 s = z 0 s := by
  unfold mnd
  rw [nte_0 (by omega)]
  unfold mn0
  rw [am_un (by omega), am_un (by omega), am_un (by omega)]
theorem mnd_1 {L z : am_F} {ρ : Int → List Int} {t k : Int} : mnd L ρ z t k 1 t = 2 := by
  unfold mnd
  rw [nte_0 (by omega)]
  unfold mn0
  rw [am_ue]
theorem brk_1 {z : am_F} {t : Int} : brk z t 1 t = 1 := by
  unfold brk
  rw [nte_0 (by omega)]
  unfold br0
  rw [am_un (by omega), am_ue]
theorem bks_d {F : Int → Bool} {z : am_F} : ∀ n s, bks F z n 0 s = z 0 s
  | 0, _ => rfl
  | n + 1, s => by
    unfold bks
    split
    · rw [brk_d, bks_d n]
    · exact bks_d n s
theorem bks_O {F : Int → Bool} {z : am_F} {m : Nat} (h : OZ m z) : ∀ n, n ≤ m → OZ m (bks F z n)
  | 0, _ => h
  | n + 1, hn => by
    unfold bks
    split
    · exact OZ_brk (bks_O h n (by omega)) (by omega) (by omega)
    · exact bks_O h n (by omega)
theorem mdl_d {L : am_F} {ρ : Int → List Int} {n m : Nat} : ∀ (j : Nat) (z : am_F) (left : Int → Int) (s : Int), mdl L ρ n m j z left 0 s = z 0 s
  | 0, _, _, _ => rfl
  | j + 1, z, left, s => by
    unfold mdl
    split
    · rfl
    · rw [mdl_d j, mnd_d]
theorem mdl_O {L : am_F} {ρ : Int → List Int} {n m : Nat} : ∀ (j : Nat) (z : am_F) (left : Int → Int), OZ n z → OZ n (mdl L ρ n m j z left)
  | 0, _, _, h => h
  | j + 1, z, left, h => by
    unfold mdl
    split
    · exact h
    · rename_i hp
      rcases pick_ok (L := L) (ρ := ρ) (z := z) (left := left) (n := n) (m := m) with q | q
      · exact absurd q hp
      · exact mdl_O j _ _ (OZ_mnd h q.1 q.2.1)
theorem day_O {L z : am_F} {ρ : Int → List Int} {n m : Nat} (h : OZ n z) (hd : z 0 0 ≤ 998) : OZ n (day L ρ n m z) := by
  have := mdl_O (L := L) (ρ := ρ) (n := n) (m := m) n _ (L 7) (bks_O (F := aFl L ρ z) h n (Nat.le_refl n))
  unfold day
  have hd0 := h.1
  refine ⟨by rw [am_ue]; omega, fun t a b => ?_⟩
  rw [am_un (by omega), am_un (by omega), am_un (by omega), am_un (by omega), am_un (by omega), am_un (by omega)]
  exact this.2 t a b
theorem day_d {L z : am_F} {ρ : Int → List Int} {n m : Nat} : day L ρ n m z 0 0 = z 0 0 + 1 := am_ue
theorem CB_z {f L z y : am_F} {a l : Int} {n m r : Nat} {ρ : Int → List Int} (h : CB f a l n m r L ρ z) (he : ∀ i t : Int, i ≤ 6 → y i t = z i t) : CB f a l n m r L ρ y := ⟨h.1, h.2.1, CZ_z h.2.2.1 he, h.2.2.2.1, OZ_z h.2.2.2.2 he⟩
theorem c_falling {d n m r : Nat} {f L z : am_F} {Q : am_V → am_F → Prop} {a l : Int} {ρ : Int → List Int} (h : CB f a l n m r L ρ z) (hQ : ∀ f1, fK f f1 → Q (0, (bm (fun t => aFl L ρ z (t : Int)) n : Int)) f1) : aw_cl (d + 4) 98 [(101, 36), (107, a)] f Q := by
  have key : ∀ j t : Nat, ∀ g, t + j = n → fK f g → aw_wp (d + 4) 98 4 [(101, 36), (107, a), (0, (bm (fun t => aFl L ρ z (t : Int)) t : Int)), (0, (t : Int))] [] g Q := by
    intro j
    induction j with
    | zero =>
      intro t g ht hg
      obtain rfl : t = n := by omega
      obtain ⟨hx, hl, hz, hT, ho⟩ := CB_fK h hg
      have hS := hz.1
      have hL := hl.1
      have hla := hz.2.2.1
      have hn := hl.2.2.1.1
      have := hQ g hg
      rw [r98_4]
      simpa [q98, r98_0, r98_1, r98_2, r98_3, r98_5, r98_6, r98_9, r98_12, r98_15, r98_16, r98_19, r98_20, r98_21, r98_22, r98_25, r98_26, r98_29, r98_30, r98_33, r98_36, r98_38, r98_39, r98_40, r98_41, r98_44, r98_47, r98_48, r98_49, r98_50, r98_51, r98_52, r98_53, r98_56, r98_59, r98_60, cs_nil, cs_cons, lc_lt, lc_ge, lc_gt, lc_le, lc_eq, sS_u hS, sL_u hL, hla, hn] using this
    | succ j ih =>
      intro t g ht hg
      have hB := CB_fK h hg
      obtain ⟨hx, hl, hz, hT, ho⟩ := CB_fK h hg
      have hS := hz.1
      have hL := hl.1
      have hla := hz.2.2.1
      have hn := hl.2.2.1.1
      have hn8 := hT.1
      have hw : g (a + 1) (t : Int) = z 1 t := hz.2.2.2.2 1 t (by omega) (by omega) (by omega) (by omega)
      have c1 : ¬ n ≤ t := by omega
      have c2 : (t : Int) < 8 := by omega
      rw [r98_4]
      by_cases hp : z 1 (t : Int) = 1
      · have ih' := ih (t + 1) g (by omega) hg
        simpa (disch := omega) [q98, r98_0, r98_1, r98_2, r98_3, r98_5, r98_6, r98_9, r98_12, r98_15, r98_16, r98_19, r98_20, r98_21, r98_22, r98_25, r98_26, r98_29, r98_30, r98_33, r98_36, r98_38, r98_39, r98_40, r98_41, r98_44, r98_47, r98_48, r98_49, r98_50, r98_51, r98_52, r98_53, r98_56, r98_59, r98_60, cs_nil, cs_cons, lc_lt, lc_ge, lc_gt, lc_le, lc_eq, sS_u hS, sL_u hL, hla, hn, c1, c2, hw, hp, bm, aFl, am_wid2] using ih'
      · simp [q98, r98_0, r98_1, r98_2, r98_3, r98_5, r98_6, r98_9, r98_12, r98_15, r98_16, r98_19, r98_20, r98_21, r98_22, r98_25, r98_26, r98_29, r98_30, r98_33, r98_36, r98_38, r98_39, r98_40, r98_41, r98_44, r98_47, r98_48, r98_49, r98_50, r98_51, r98_52, r98_53, r98_56, r98_59, r98_60, cs_nil, cs_cons, lc_lt, lc_ge, lc_gt, lc_le, lc_eq, hx, sS_u hS, sL_u hL, hla, hn, c1, c2, hw, hp]
        refine c_val (w := 1) (z := z) hx.1 hT hl hz ho (by omega) (by omega) (by omega) rfl rfl (by omega) ?_
        intro f1 hf
        have ih' := ih (t + 1) f1 (by omega) (fK_tr hg hf)
        by_cases hv : V L ρ z (t : Int) 0 1 = 0
        · simpa (disch := omega) [q98, r98_0, r98_1, r98_2, r98_3, r98_5, r98_6, r98_9, r98_12, r98_15, r98_16, r98_19, r98_20, r98_21, r98_22, r98_25, r98_26, r98_29, r98_30, r98_33, r98_36, r98_38, r98_39, r98_40, r98_41, r98_44, r98_47, r98_48, r98_49, r98_50, r98_51, r98_52, r98_53, r98_56, r98_59, r98_60, cs_nil, cs_cons, lc_lt, lc_ge, lc_gt, lc_le, lc_eq, hp, hv, bm, aFl, am_wid2] using ih'
        · simpa (disch := omega) [q98, r98_0, r98_1, r98_2, r98_3, r98_5, r98_6, r98_9, r98_12, r98_15, r98_16, r98_19, r98_20, r98_21, r98_22, r98_25, r98_26, r98_29, r98_30, r98_33, r98_36, r98_38, r98_39, r98_40, r98_41, r98_44, r98_47, r98_48, r98_49, r98_50, r98_51, r98_52, r98_53, r98_56, r98_59, r98_60, cs_nil, cs_cons, lc_lt, lc_ge, lc_gt, lc_le, lc_eq, hp, hv, bm, bm_set, aFl, am_wid2] using ih'
  have := key n 0 f (by omega) fK_refl
  simpa [q98, r98_0, r98_1, r98_2, r98_3, r98_5, r98_6, r98_9, r98_12, r98_15, r98_16, r98_19, r98_20, r98_21, r98_22, r98_25, r98_26, r98_29, r98_30, r98_33, r98_36, r98_38, r98_39, r98_40, r98_41, r98_44, r98_47, r98_48, r98_49, r98_50, r98_51, r98_52, r98_53, r98_56, r98_59, r98_60, cs_nil, cs_cons, lc_lt, lc_ge, lc_gt, lc_le, lc_eq, bm] using this
/-- what the beginning of work leaves as it was -/
def fW (f g : am_F) : Prop := ∀ c j : Int, ¬ (c = 35 ∨ c = 37 ∨ c = 38 ∨ c = 39) → g c j = f c j
theorem fW_tr {f g h : am_F} (h1 : fW f g) (h2 : fW g h) : fW f h := fun c j hc => (h2 c j hc).trans (h1 c j hc)
theorem fK_W {f g : am_F} (h : fK f g) : fW f g := fun c j hc => h c j (by omega)
theorem CB_fW {f g L z : am_F} {a l : Int} {n m r : Nat} {ρ : Int → List Int} (h : CB f a l n m r L ρ z) (hg : fW f g) : CB g a l n m r L ρ z := CB_fr h (fun c j hc => hg c j (by omega))
/-- what is reckoned ahead of the mending -/
def CR (f : am_F) (L : am_F) (ρ : Int → List Int) (z : am_F) (m : Nat) (left : Int → Int) (n : Int) : Prop := (∀ t : Int, 0 ≤ t → t < n → z 1 t = 1 → f 37 t = V L ρ z t 0 4 ∧ ∀ k : Int, 0 ≤ k → k < m → f 38 (t * 4 + k) = aH L ρ z t k) ∧ ∀ k : Int, 0 ≤ k → k < m → f 39 k = left k
theorem c_begin {d n m r : Nat} {f L z : am_F} {Q : am_V → am_F → Prop} {a l : Int} {ρ : Int → List Int} (h : CB f a l n m r L ρ z) (hQ : ∀ g, fW f g → CR g L ρ z m (L 7) n → Q (3, 0) g) : aw_cl (d + 5) 102 [(101, 36), (107, a)] f Q := by
  have inner : ∀ j k : Nat, ∀ t : Nat, ∀ g, k + j = m → t < n → fW f g → CR g L ρ z m (L 7) (t : Int) → g 37 (t : Int) = V L ρ z t 0 4 → (∀ q : Int, 0 ≤ q → q < k → g 38 ((t : Int) * 4 + q) = aH L ρ z t q) → (∀ g', fW f g' → CR g' L ρ z m (L 7) ((t : Int) + 1) → aw_wp (d + 5) 102 118 [(101, 36), (107, a), (0, (t : Int)), (0, (m : Int))] [] g' Q) → aw_wp (d + 5) 102 84 [(101, 36), (107, a), (0, (t : Int)), (0, (k : Int))] [] g Q := by
    intro j
    induction j with
    | zero =>
      intro k t g hk ht hg hR h37 h38 cont
      obtain rfl : k = m := by omega
      obtain ⟨hx, hl, hz, hT, ho⟩ := CB_fW h hg
      have hS := hz.1
      have hL := hl.1
      have hla := hz.2.2.1
      have hm := hl.2.2.1.2.1
      have := cont g hg ⟨fun s a1 a2 a3 => by
        by_cases hs : s = t
        · subst hs; exact ⟨h37, h38⟩
        · exact hR.1 s a1 (by omega) a3, hR.2⟩
      rw [r102_84]
      simpa [q102, r102_0, r102_1, r102_3, r102_4, r102_7, r102_10, r102_13, r102_14, r102_17, r102_18, r102_19, r102_22, r102_25, r102_26, r102_27, r102_28, r102_31, r102_34, r102_35, r102_37, r102_38, r102_41, r102_44, r102_47, r102_48, r102_51, r102_52, r102_53, r102_54, r102_57, r102_58, r102_61, r102_62, r102_63, r102_66, r102_67, r102_70, r102_73, r102_75, r102_76, r102_77, r102_78, r102_81, r102_82, r102_83, r102_85, r102_86, r102_89, r102_92, r102_95, r102_96, r102_99, r102_100, r102_101, r102_102, r102_103, r102_104, r102_105, r102_106, r102_107, r102_108, r102_111, r102_112, r102_115, r102_118, r102_121, r102_124, cs_nil, cs_cons, lc_lt, lc_ge, lc_gt, lc_le, lc_eq, sS_u hS, sL_u hL, hla, hm] using this
    | succ j ih =>
      intro k t g hk ht hg hR h37 h38 cont
      have hB := CB_fW h hg
      obtain ⟨hx, hl, hz, hT, ho⟩ := CB_fW h hg
      have hS := hz.1
      have hL := hl.1
      have hla := hz.2.2.1
      have hm := hl.2.2.1.2.1
      have hn8 := hT.1
      have hm4 := hT.2.1
      have c1 : ¬ m ≤ k := by omega
      have c2 : (0 : Int) ≤ (t : Int) * 4 + k ∧ (t : Int) * 4 + k < 32 := by omega
      rw [r102_84]
      simp (disch := omega) [q102, r102_0, r102_1, r102_3, r102_4, r102_7, r102_10, r102_13, r102_14, r102_17, r102_18, r102_19, r102_22, r102_25, r102_26, r102_27, r102_28, r102_31, r102_34, r102_35, r102_37, r102_38, r102_41, r102_44, r102_47, r102_48, r102_51, r102_52, r102_53, r102_54, r102_57, r102_58, r102_61, r102_62, r102_63, r102_66, r102_67, r102_70, r102_73, r102_75, r102_76, r102_77, r102_78, r102_81, r102_82, r102_83, r102_85, r102_86, r102_89, r102_92, r102_95, r102_96, r102_99, r102_100, r102_101, r102_102, r102_103, r102_104, r102_105, r102_106, r102_107, r102_108, r102_111, r102_112, r102_115, r102_118, r102_121, r102_124, cs_nil, cs_cons, lc_lt, lc_ge, lc_gt, lc_le, lc_eq, hx, sS_u hS, sL_u hL, hla, hm, c1, am_wid2]
      refine c_hours hB (by omega) (by omega) (by omega) (by omega) ?_
      intro f1 hf
      have e38 : f1 36 2 = 38 := (hf _ _ (by omega)).trans hx.2.2.2.1
      have go := ih (k + 1) t (am_up f1 38 ((t : Int) * 4 + k) (aH L ρ z t k)) (by omega) ht (fW_tr hg (fW_tr (fK_W hf) (fun c j hc => am_un (by omega)))) ?_ ?_ ?_ cont
      · simpa (disch := omega) [q102, r102_0, r102_1, r102_3, r102_4, r102_7, r102_10, r102_13, r102_14, r102_17, r102_18, r102_19, r102_22, r102_25, r102_26, r102_27, r102_28, r102_31, r102_34, r102_35, r102_37, r102_38, r102_41, r102_44, r102_47, r102_48, r102_51, r102_52, r102_53, r102_54, r102_57, r102_58, r102_61, r102_62, r102_63, r102_66, r102_67, r102_70, r102_73, r102_75, r102_76, r102_77, r102_78, r102_81, r102_82, r102_83, r102_85, r102_86, r102_89, r102_92, r102_95, r102_96, r102_99, r102_100, r102_101, r102_102, r102_103, r102_104, r102_105, r102_106, r102_107, r102_108, r102_111, r102_112, r102_115, r102_118, r102_121, r102_124, cs_nil, cs_cons, lc_lt, lc_ge, lc_gt, lc_le, lc_eq, ln_38, c2, am_wid2] using go
      · refine ⟨fun s a1 a2 a3 => ?_, fun q a1 a2 => ?_⟩
        · have := hR.1 s a1 a2 a3
          refine ⟨?_, fun q b1 b2 => ?_⟩
          · rw [am_un (by omega), hf _ _ (by omega)]; exact this.1
          · rw [am_un (by omega), hf _ _ (by omega)]; exact this.2 q b1 b2
        · rw [am_un (by omega), hf _ _ (by omega)]; exact hR.2 q a1 a2
      · rw [am_un (by omega), hf _ _ (by omega)]; exact h37
      · intro q b1 b2
        by_cases hq : q = k
        · subst hq; rw [am_ue]
        · rw [am_un (by omega), hf _ _ (by omega)]; exact h38 q b1 (by omega)
  have outer : ∀ j t : Nat, ∀ g x, t + j = n → fW f g → CR g L ρ z m (L 7) (t : Int) → aw_wp (d + 5) 102 36 [(101, 36), (107, a), (0, (t : Int)), x] [] g Q := by
    intro j
    induction j with
    | zero =>
      intro t g x ht hg hR
      obtain rfl : t = n := by omega
      obtain ⟨hx, hl, hz, hT, ho⟩ := CB_fW h hg
      have hS := hz.1
      have hL := hl.1
      have hla := hz.2.2.1
      have hn := hl.2.2.1.1
      have := hQ g hg hR
      rw [r102_36]
      simpa [q102, r102_0, r102_1, r102_3, r102_4, r102_7, r102_10, r102_13, r102_14, r102_17, r102_18, r102_19, r102_22, r102_25, r102_26, r102_27, r102_28, r102_31, r102_34, r102_35, r102_37, r102_38, r102_41, r102_44, r102_47, r102_48, r102_51, r102_52, r102_53, r102_54, r102_57, r102_58, r102_61, r102_62, r102_63, r102_66, r102_67, r102_70, r102_73, r102_75, r102_76, r102_77, r102_78, r102_81, r102_82, r102_83, r102_85, r102_86, r102_89, r102_92, r102_95, r102_96, r102_99, r102_100, r102_101, r102_102, r102_103, r102_104, r102_105, r102_106, r102_107, r102_108, r102_111, r102_112, r102_115, r102_118, r102_121, r102_124, cs_nil, cs_cons, lc_lt, lc_ge, lc_gt, lc_le, lc_eq, sS_u hS, sL_u hL, hla, hn] using this
    | succ j ih =>
      intro t g x ht hg hR
      obtain ⟨x1, x2⟩ := x
      have hB := CB_fW h hg
      obtain ⟨hx, hl, hz, hT, ho⟩ := CB_fW h hg
      have hS := hz.1
      have hL := hl.1
      have hla := hz.2.2.1
      have hn := hl.2.2.1.1
      have hn8 := hT.1
      have hw : g (a + 1) (t : Int) = z 1 t := hz.2.2.2.2 1 t (by omega) (by omega) (by omega) (by omega)
      have c1 : ¬ n ≤ t := by omega
      have c2 : (t : Int) < 8 := by omega
      rw [r102_36]
      by_cases hp : z 1 (t : Int) = 1
      · simp [q102, r102_0, r102_1, r102_3, r102_4, r102_7, r102_10, r102_13, r102_14, r102_17, r102_18, r102_19, r102_22, r102_25, r102_26, r102_27, r102_28, r102_31, r102_34, r102_35, r102_37, r102_38, r102_41, r102_44, r102_47, r102_48, r102_51, r102_52, r102_53, r102_54, r102_57, r102_58, r102_61, r102_62, r102_63, r102_66, r102_67, r102_70, r102_73, r102_75, r102_76, r102_77, r102_78, r102_81, r102_82, r102_83, r102_85, r102_86, r102_89, r102_92, r102_95, r102_96, r102_99, r102_100, r102_101, r102_102, r102_103, r102_104, r102_105, r102_106, r102_107, r102_108, r102_111, r102_112, r102_115, r102_118, r102_121, r102_124, cs_nil, cs_cons, lc_lt, lc_ge, lc_gt, lc_le, lc_eq, hx, sS_u hS, sL_u hL, hla, hn, c1, c2, hw, hp]
        refine c_val (w := 4) (z := z) hx.1 hT hl hz ho (by omega) (by omega) (by omega) rfl rfl (by omega) ?_
        intro f1 hf
        have e37 : f1 36 1 = 37 := (hf _ _ (by omega)).trans hx.2.2.1
        have go := inner m 0 t (am_up f1 37 (t : Int) (V L ρ z t 0 4)) (by omega) (by omega) (fW_tr hg (fW_tr (fK_W hf) (fun c j hc => am_un (by omega)))) ?_ am_ue (by omega) ?_
        · simpa (disch := omega) [q102, r102_0, r102_1, r102_3, r102_4, r102_7, r102_10, r102_13, r102_14, r102_17, r102_18, r102_19, r102_22, r102_25, r102_26, r102_27, r102_28, r102_31, r102_34, r102_35, r102_37, r102_38, r102_41, r102_44, r102_47, r102_48, r102_51, r102_52, r102_53, r102_54, r102_57, r102_58, r102_61, r102_62, r102_63, r102_66, r102_67, r102_70, r102_73, r102_75, r102_76, r102_77, r102_78, r102_81, r102_82, r102_83, r102_85, r102_86, r102_89, r102_92, r102_95, r102_96, r102_99, r102_100, r102_101, r102_102, r102_103, r102_104, r102_105, r102_106, r102_107, r102_108, r102_111, r102_112, r102_115, r102_118, r102_121, r102_124, cs_nil, cs_cons, lc_lt, lc_ge, lc_gt, lc_le, lc_eq, ln_37, c2] using go
        · refine ⟨fun s a1 a2 a3 => ?_, fun q a1 a2 => ?_⟩
          · have := hR.1 s a1 a2 a3
            refine ⟨?_, fun q b1 b2 => ?_⟩
            · rw [am_un (by omega), hf _ _ (by omega)]; exact this.1
            · rw [am_un (by omega), hf _ _ (by omega)]; exact this.2 q b1 b2
          · rw [am_un (by omega), hf _ _ (by omega)]; exact hR.2 q a1 a2
        · intro g' hg' hR'
          have ih' := ih (t + 1) g' (0, (m : Int)) (by omega) hg' (by simpa using hR')
          simpa (disch := omega) [q102, r102_0, r102_1, r102_3, r102_4, r102_7, r102_10, r102_13, r102_14, r102_17, r102_18, r102_19, r102_22, r102_25, r102_26, r102_27, r102_28, r102_31, r102_34, r102_35, r102_37, r102_38, r102_41, r102_44, r102_47, r102_48, r102_51, r102_52, r102_53, r102_54, r102_57, r102_58, r102_61, r102_62, r102_63, r102_66, r102_67, r102_70, r102_73, r102_75, r102_76, r102_77, r102_78, r102_81, r102_82, r102_83, r102_85, r102_86, r102_89, r102_92, r102_95, r102_96, r102_99, r102_100, r102_101, r102_102, r102_103, r102_104, r102_105, r102_106, r102_107, r102_108, r102_111, r102_112, r102_115, r102_118, r102_121, r102_124, cs_nil, cs_cons, lc_lt, lc_ge, lc_gt, lc_le, lc_eq, am_wid2] using ih'
      · have ih' := ih (t + 1) g (x1, x2) (by omega) hg ⟨fun s a1 a2 a3 => hR.1 s a1 (by
            have : ¬ s = t := fun q => hp (q ▸ a3)
            omega) a3, hR.2⟩
        simpa (disch := omega) [q102, r102_0, r102_1, r102_3, r102_4, r102_7, r102_10, r102_13, r102_14, r102_17, r102_18, r102_19, r102_22, r102_25, r102_26, r102_27, r102_28, r102_31, r102_34, r102_35, r102_37, r102_38, r102_41, r102_44, r102_47, r102_48, r102_51, r102_52, r102_53, r102_54, r102_57, r102_58, r102_61, r102_62, r102_63, r102_66, r102_67, r102_70, r102_73, r102_75, r102_76, r102_77, r102_78, r102_81, r102_82, r102_83, r102_85, r102_86, r102_89, r102_92, r102_95, r102_96, r102_99, r102_100, r102_101, r102_102, r102_103, r102_104, r102_105, r102_106, r102_107, r102_108, r102_111, r102_112, r102_115, r102_118, r102_121, r102_124, cs_nil, cs_cons, lc_lt, lc_ge, lc_gt, lc_le, lc_eq, sS_u hS, sL_u hL, hla, hn, c1, c2, hw, hp, am_wid2] using ih'
  have first : ∀ j k : Nat, ∀ g, k + j = m → fW f g → (∀ q : Int, 0 ≤ q → q < k → g 39 q = L 7 q) → aw_wp (d + 5) 102 2 [(101, 36), (107, a), (0, (k : Int)), (2, 0)] [] g Q := by
    intro j
    induction j with
    | zero =>
      intro k g hk hg h39
      obtain rfl : k = m := by omega
      obtain ⟨hx, hl, hz, hT, ho⟩ := CB_fW h hg
      have hS := hz.1
      have hL := hl.1
      have hla := hz.2.2.1
      have hm := hl.2.2.1.2.1
      have := outer n 0 g (2, 0) (by omega) hg ⟨fun s a1 a2 _ => by omega, h39⟩
      rw [r102_2]
      simpa [q102, r102_0, r102_1, r102_3, r102_4, r102_7, r102_10, r102_13, r102_14, r102_17, r102_18, r102_19, r102_22, r102_25, r102_26, r102_27, r102_28, r102_31, r102_34, r102_35, r102_37, r102_38, r102_41, r102_44, r102_47, r102_48, r102_51, r102_52, r102_53, r102_54, r102_57, r102_58, r102_61, r102_62, r102_63, r102_66, r102_67, r102_70, r102_73, r102_75, r102_76, r102_77, r102_78, r102_81, r102_82, r102_83, r102_85, r102_86, r102_89, r102_92, r102_95, r102_96, r102_99, r102_100, r102_101, r102_102, r102_103, r102_104, r102_105, r102_106, r102_107, r102_108, r102_111, r102_112, r102_115, r102_118, r102_121, r102_124, cs_nil, cs_cons, lc_lt, lc_ge, lc_gt, lc_le, lc_eq, sS_u hS, sL_u hL, hla, hm] using this
    | succ j ih =>
      intro k g hk hg h39
      obtain ⟨hx, hl, hz, hT, ho⟩ := CB_fW h hg
      have hS := hz.1
      have hL := hl.1
      have hla := hz.2.2.1
      have hm := hl.2.2.1.2.1
      have hm4 := hT.2.1
      have hh := (hl.2.2.2.2.1 (k : Int) (by omega) (by omega)).2
      have c1 : ¬ m ≤ k := by omega
      have c2 : (k : Int) < 4 := by omega
      have ih' := ih (k + 1) (am_up g 39 (k : Int) (L 7 k)) (by omega) (fW_tr hg (fun c j hc => am_un (by omega))) (fun q b1 b2 => by
        by_cases hq : q = k
        · subst hq; rw [am_ue]
        · rw [am_un (by omega)]; exact h39 q b1 (by omega))
      rw [r102_2]
      simpa (disch := omega) [q102, r102_0, r102_1, r102_3, r102_4, r102_7, r102_10, r102_13, r102_14, r102_17, r102_18, r102_19, r102_22, r102_25, r102_26, r102_27, r102_28, r102_31, r102_34, r102_35, r102_37, r102_38, r102_41, r102_44, r102_47, r102_48, r102_51, r102_52, r102_53, r102_54, r102_57, r102_58, r102_61, r102_62, r102_63, r102_66, r102_67, r102_70, r102_73, r102_75, r102_76, r102_77, r102_78, r102_81, r102_82, r102_83, r102_85, r102_86, r102_89, r102_92, r102_95, r102_96, r102_99, r102_100, r102_101, r102_102, r102_103, r102_104, r102_105, r102_106, r102_107, r102_108, r102_111, r102_112, r102_115, r102_118, r102_121, r102_124, cs_nil, cs_cons, lc_lt, lc_ge, lc_gt, lc_le, lc_eq, hx, sS_u hS, sL_u hL, hla, hm, ln_39, c1, c2, hh, am_wid2] using ih'
  have := first m 0 f (by omega) (fun _ _ _ => rfl) (by omega)
  simpa [q102, r102_0, r102_1, r102_3, r102_4, r102_7, r102_10, r102_13, r102_14, r102_17, r102_18, r102_19, r102_22, r102_25, r102_26, r102_27, r102_28, r102_31, r102_34, r102_35, r102_37, r102_38, r102_41, r102_44, r102_47, r102_48, r102_51, r102_52, r102_53, r102_54, r102_57, r102_58, r102_61, r102_62, r102_63, r102_66, r102_67, r102_70, r102_73, r102_75, r102_76, r102_77, r102_78, r102_81, r102_82, r102_83, r102_85, r102_86, r102_89, r102_92, r102_95, r102_96, r102_99, r102_100, r102_101, r102_102, r102_103, r102_104, r102_105, r102_106, r102_107, r102_108, r102_111, r102_112, r102_115, r102_118, r102_121, r102_124, cs_nil, cs_cons, lc_lt, lc_ge, lc_gt, lc_le, lc_eq] using this
