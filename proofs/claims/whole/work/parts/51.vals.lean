/-! values of things, on both sides -/
theorem CL_fr {f g L : am_F} {l : Int} {n m r : Nat} {ρ : Int → List Int} (h : CL f l n m r L ρ) (hT : TW n m r L ρ) (hg : ∀ c j : Int, l ≤ c → c ≤ l + 12 → g c j = f c j) : CL g l n m r L ρ := by
  obtain ⟨h1, h2, h3, h4, h5, h6⟩ := h
  refine ⟨sL_fr h1 (fun j _ _ => hg _ _ (by omega) (by omega)) (fun j _ _ => hg _ _ (by omega) (by omega)), h2, ?_, ?_, ?_, ?_⟩
  · rw [hg _ _ (by omega) (by omega), hg _ _ (by omega) (by omega), hg _ _ (by omega) (by omega), hg _ _ (by omega) (by omega)]
    exact h3
  · intro t a b
    rw [hg _ _ (by omega) (by omega), hg _ _ (by omega) (by omega)]
    exact h4 t a b
  · intro t a b
    rw [hg _ _ (by omega) (by omega), hg _ _ (by omega) (by omega)]
    exact h5 t a b
  · intro w a b hn0
    obtain ⟨k0, e1, e2, e3, e4, e5⟩ := h6 w a b hn0
    refine ⟨k0, ?_, ?_, e3, e4, al_fr _ _ (fun j _ _ => hg _ _ (by omega) (by omega)) e5⟩
    · rw [hg _ _ (by omega) (by omega)]; exact e1
    · rw [hg _ _ (by omega) (by omega)]; exact e2
theorem CZ_fr {f g z : am_F} {a l : Int} {n : Nat} (h : CZ f a l n z) (hg : ∀ c j : Int, a ≤ c → c ≤ a + 6 → ¬ (c = a ∧ j = 11) → g c j = f c j) : CZ g a l n z := by
  obtain ⟨h1, h2, h3, h4, h5⟩ := h
  refine ⟨sS_fr h1 (fun j _ _ => hg _ _ (by omega) (by omega) (by omega)), h2, ?_, ?_, ?_⟩
  · rw [hg _ _ (by omega) (by omega) (by omega)]; exact h3
  · rw [hg _ _ (by omega) (by omega) (by omega)]; exact h4
  · intro i t a1 a2 a3 a4
    rw [hg _ _ (by omega) (by omega) (by omega)]
    exact h5 i t a1 a2 a3 a4
theorem ML_fr {f g L : am_F} {n m r : Nat} {ρ : Int → List Int} {τ : Int → Bool} (h : ML f n m r L ρ τ) (hg : ∀ c j : Int, 301 ≤ c → c ≤ 307 → g c j = f c j) (h2 : ∀ j : Int, (j = 0 ∨ j = 9 ∨ (39 ≤ j ∧ j ≤ 42) ∨ (45 ≤ j ∧ j ≤ 47) ∨ j = 51 ∨ j = 52 ∨ j = 56 ∨ (59 ≤ j ∧ j ≤ 64) ∨ j = 91 ∨ j = 93 ∨ j = 97 ∨ j = 101 ∨ j = 44) → g 270 j = f 270 j) : ML g n m r L ρ τ := by
  obtain ⟨h1, h3, h4, h5, h6⟩ := h
  refine ⟨mfx_fr h1 (fun j hj => h2 j (by omega)), ?_, ?_, ?_, ?_⟩
  · rw [hg _ _ (by omega) (by omega), hg _ _ (by omega) (by omega), hg _ _ (by omega) (by omega), h2 44 (by omega)]
    exact h3
  · intro t a b
    rw [hg _ _ (by omega) (by omega), hg _ _ (by omega) (by omega)]
    exact h4 t a b
  · intro t a b
    rw [hg _ _ (by omega) (by omega), hg _ _ (by omega) (by omega)]
    exact h5 t a b
  · intro w a b
    rw [hg _ _ (by omega) (by omega), hg _ _ (by omega) (by omega)]
    rcases h6 w a b with ⟨e0, k0, e1, e2, e3, e4, e5⟩ | e
    · exact Or.inl ⟨e0, k0, e1, e2, e3, e4, al_fr _ _ (fun j _ _ => hg _ _ (by omega) (by omega)) e5⟩
    · exact Or.inr e
theorem MZ_fr {f g z : am_F} {n : Nat} (h : MZ f n z) (hn : n ≤ 8) (hg : ∀ j : Int, 0 ≤ j → j ≤ 40 → g 308 j = f 308 j) (h3 : ∀ j : Int, g 303 j = f 303 j) (h4 : g 270 53 = f 270 53) (h5 : g 270 54 = f 270 54) : MZ g n z := by
  obtain ⟨e1, e2, e3⟩ := h
  refine ⟨?_, ?_, ?_⟩
  · rw [hg _ (by omega) (by omega)]; exact e1
  · intro i t a1 a2 a3 a4
    rw [hg _ (by omega) (by omega)]
    exact e2 i t a1 a2 a3 a4
  · intro t a b
    rw [h4, h5, h3]
    exact e3 t a b
/-- the class's side of an island and a state, with its helpers -/
def CB (f : am_F) (a l : Int) (n m r : Nat) (L : am_F) (ρ : Int → List Int) (z : am_F) : Prop := (f 34 0 = 35 ∧ f 36 0 = 34 ∧ f 36 1 = 37 ∧ f 36 2 = 38 ∧ f 36 3 = 39) ∧ CL f l n m r L ρ ∧ CZ f a l n z ∧ TW n m r L ρ ∧ OZ n z
def MB (f : am_F) (n m r : Nat) (L : am_F) (ρ : Int → List Int) (τ : Int → Bool) (z : am_F) : Prop := ML f n m r L ρ τ ∧ MZ f n z ∧ TW n m r L ρ ∧ OZ n z
theorem CB_fr {f g L z : am_F} {a l : Int} {n m r : Nat} {ρ : Int → List Int} (h : CB f a l n m r L ρ z) (hg : ∀ c j : Int, (c = 34 ∨ c = 36 ∨ (c ≤ 32) ∨ (46 ≤ c ∧ c ≤ 267)) → g c j = f c j) : CB g a l n m r L ρ z := by
  obtain ⟨h1, h2, h3, h4, h5⟩ := h
  have hl := h2.2.1
  have ha := h3.2.1
  refine ⟨?_, CL_fr h2 h4 (fun c j _ _ => hg _ _ (by omega)), CZ_fr h3 (fun c j _ _ _ => hg _ _ (by omega)), h4, h5⟩
  rw [hg _ _ (by omega), hg _ _ (by omega), hg _ _ (by omega), hg _ _ (by omega), hg _ _ (by omega)]
  exact h1
theorem MB_fr {f g L z : am_F} {n m r : Nat} {ρ : Int → List Int} {τ : Int → Bool} (h : MB f n m r L ρ τ z) (hg : ∀ c j : Int, 301 ≤ c → c ≤ 308 → g c j = f c j) (h2 : ∀ j : Int, (j = 0 ∨ j = 9 ∨ (39 ≤ j ∧ j ≤ 42) ∨ (45 ≤ j ∧ j ≤ 47) ∨ j = 51 ∨ j = 52 ∨ j = 56 ∨ (59 ≤ j ∧ j ≤ 64) ∨ j = 91 ∨ j = 93 ∨ j = 97 ∨ j = 101 ∨ j = 44 ∨ j = 53 ∨ j = 54) → g 270 j = f 270 j) : MB g n m r L ρ τ z := by
  obtain ⟨h1, h3, h4, h5⟩ := h
  exact ⟨ML_fr h1 (fun c j _ _ => hg _ _ (by omega) (by omega)) (fun j hj => h2 j (by omega)), MZ_fr h3 h4.1 (fun j _ _ => hg _ _ (by omega) (by omega)) (fun j => hg _ _ (by omega) (by omega)) (h2 53 (by omega)) (h2 54 (by omega)), h4, h5⟩
theorem CB_fK {f g L z : am_F} {a l : Int} {n m r : Nat} {ρ : Int → List Int} (h : CB f a l n m r L ρ z) (hg : fK f g) : CB g a l n m r L ρ z := CB_fr h (fun c j hc => hg c j (by omega))
theorem fK_refl {f : am_F} : fK f f := fun _ _ _ => rfl
theorem fK_tr {f g h : am_F} (h1 : fK f g) (h2 : fK g h) : fK f h := fun c j hc => (h2 c j hc).trans (h1 c j hc)
/-- what the model's telling of values leaves as it was -/
def fU (f g : am_F) : Prop := ∀ c j : Int, ¬ (c = 342 ∨ c = 270 ∧ (j = 50 ∨ j = 55 ∨ j = 98)) → g c j = f c j
theorem fU_refl {f : am_F} : fU f f := fun _ _ _ => rfl
theorem fU_tr {f g h : am_F} (h1 : fU f g) (h2 : fU g h) : fU f h := fun c j hc => (h2 c j hc).trans (h1 c j hc)
theorem fT_U {f g : am_F} (h : fT f g) : fU f g := fun c j hc => h c j (by omega)
theorem MB_fU {f g L z : am_F} {n m r : Nat} {ρ : Int → List Int} {τ : Int → Bool} (h : MB f n m r L ρ τ z) (hg : fU f g) : MB g n m r L ρ τ z := MB_fr h (fun c j _ _ => hg c j (by omega)) (fun j hj => hg 270 j (by omega))
theorem V_b {n m r : Nat} {L z : am_F} {ρ : Int → List Int} {t gv w : Int} (hT : TW n m r L ρ) (ho : OZ n z) (hw : 0 ≤ w ∧ w < 5 + (r : Int)) (h0 : 0 ≤ t) (h1 : t < n) (hg : w = 2 ∨ w = 3 → -1000000 ≤ gv ∧ gv ≤ 1000000) : -1000000 ≤ V L ρ z t gv w ∧ V L ρ z t gv w ≤ 1000000 ∧ (tyw w = true → V L ρ z t gv w = 0 ∨ V L ρ z t gv w = 1) := by
  obtain ⟨b, hb, hb2⟩ := hT.2.2.2.1 w hw.1 hw.2
  have hok := er_ok (og := ogC gv) (pt := ptZ L z t gv) (fun k _ _ k7 => pt_b hT ho h0 h1 (fun hk => hg (by simpa [skw] using k7 hk))) og_b (ρ w) [] [b] [] hb trivial
  unfold V vl
  match hs : er (ptZ L z t gv) (ogC gv) (ρ w) [], hok with
  | [v], hok =>
    have i := okv_b hok.1
    refine ⟨i.1, i.2, fun hy => ?_⟩
    rcases hb2 hy with rfl | h
    · have := hok.1; simpa [okv] using this
    · rw [h] at hs
      left
      simp [er, e1] at hs
      simp [hs]
def aSt (L : am_F) (ρ : Int → List Int) (z : am_F) (t : Int) : Bool := decide (z 1 t = 2) && decide (¬ V L ρ z t 0 0 = 0)
def clm (lo hi v : Int) : Int := if v < lo then lo else if hi < v then hi else v
def aH (L : am_F) (ρ : Int → List Int) (z : am_F) (t k : Int) : Int := clm 1 99 (V L ρ z t (L 6 k) 2)
def aF (L : am_F) (ρ : Int → List Int) (z : am_F) (t k : Int) : Int := clm 0 99 (V L ρ z t (L 6 k) 3)
theorem c_clm {d : Nat} {f : am_F} {Q : am_V → am_F → Prop} {lo hi v : Int} (h1 : lo ≤ hi) (h2 : -2147483648 ≤ lo) (h3 : hi < 2147483648) : aw_cl d 76 [(0, lo), (1, v), (0, hi)] f Q = Q (0, clm lo hi v) f := by
  apply aw_det
  unfold clm
  by_cases i1 : v < lo
  · have i2 : ¬ lo ≤ v := by omega
    simp [q76, r76_0, r76_1, r76_2, r76_3, r76_4, r76_7, r76_8, r76_9, r76_10, r76_11, r76_12, r76_13, r76_16, r76_17, r76_20, r76_21, r76_22, cs_nil, cs_cons, lc_lt, lc_ge, lc_gt, lc_le, lc_eq, i1, i2]
  · have i2 : lo ≤ v := by omega
    by_cases i3 : hi < v
    · have i4 : ¬ v ≤ hi := by omega
      simp [q76, r76_0, r76_1, r76_2, r76_3, r76_4, r76_7, r76_8, r76_9, r76_10, r76_11, r76_12, r76_13, r76_16, r76_17, r76_20, r76_21, r76_22, cs_nil, cs_cons, lc_lt, lc_ge, lc_gt, lc_le, lc_eq, i1, i2, i3, i4]
    · have i4 : v ≤ hi := by omega
      simp (disch := omega) [q76, r76_0, r76_1, r76_2, r76_3, r76_4, r76_7, r76_8, r76_9, r76_10, r76_11, r76_12, r76_13, r76_16, r76_17, r76_20, r76_21, r76_22, cs_nil, cs_cons, lc_lt, lc_ge, lc_gt, lc_le, lc_eq, i1, i2, i3, i4, am_wid2]
theorem c_stands {d n m r : Nat} {f L z : am_F} {Q : am_V → am_F → Prop} {a l t : Int} {ρ : Int → List Int} (h : CB f a l n m r L ρ z) (h0 : 0 ≤ t) (h1 : t < n) (hQ : ∀ f1, fK f f1 → Q (0, if aSt L ρ z t = true then 1 else 0) f1) : aw_cl (d + 4) 67 [(101, 36), (107, a), (0, t)] f Q := by
  obtain ⟨hx, hl, hz, hT, ho⟩ := h
  have hS := hz.1
  have hL := hl.1
  have hla := hz.2.2.1
  have hn8 := hT.1
  have hl20 := hl.2.1
  unfold sS at hS
  unfold sL at hL
  have hw : f (a + 1) t = z 1 t := hz.2.2.2.2 1 t (by omega) (by omega) h0 h1
  have h8 : t < 8 := by omega
  unfold aSt at hQ
  by_cases hp : z 1 t = 2
  · simp [q67, r67_0, r67_1, r67_4, r67_5, r67_6, r67_7, r67_10, r67_11, r67_14, r67_15, r67_18, r67_21, r67_22, r67_23, r67_24, r67_25, r67_28, r67_31, r67_32, r67_35, r67_36, cs_nil, cs_cons, lc_lt, lc_ge, lc_gt, lc_le, lc_eq, hx, hS, hL, hla, hw, h0, h8, hp]
    refine c_val (w := 0) (z := z) hx.1 hT hl hz ho (by omega) h0 h1 rfl rfl (by omega) ?_
    intro f1 hf
    have := hQ f1 hf
    by_cases hv : V L ρ z t 0 0 = 0
    · simpa [q67, r67_0, r67_1, r67_4, r67_5, r67_6, r67_7, r67_10, r67_11, r67_14, r67_15, r67_18, r67_21, r67_22, r67_23, r67_24, r67_25, r67_28, r67_31, r67_32, r67_35, r67_36, cs_nil, cs_cons, lc_lt, lc_ge, lc_gt, lc_le, lc_eq, hp, hv] using this
    · simpa [q67, r67_0, r67_1, r67_4, r67_5, r67_6, r67_7, r67_10, r67_11, r67_14, r67_15, r67_18, r67_21, r67_22, r67_23, r67_24, r67_25, r67_28, r67_31, r67_32, r67_35, r67_36, cs_nil, cs_cons, lc_lt, lc_ge, lc_gt, lc_le, lc_eq, hp, hv] using this
  · simp [q67, r67_0, r67_1, r67_4, r67_5, r67_6, r67_7, r67_10, r67_11, r67_14, r67_15, r67_18, r67_21, r67_22, r67_23, r67_24, r67_25, r67_28, r67_31, r67_32, r67_35, r67_36, cs_nil, cs_cons, lc_lt, lc_ge, lc_gt, lc_le, lc_eq, hx, hS, hL, hla, hw, h0, h8, hp]
    have := hQ f fK_refl
    simpa [hp] using this
theorem c_standing {d n m r : Nat} {f L z : am_F} {Q : am_V → am_F → Prop} {a l : Int} {ρ : Int → List Int} (h : CB f a l n m r L ρ z) (hQ : ∀ f1, fK f f1 → Q (0, (bm (fun t => aSt L ρ z (t : Int)) n : Int)) f1) : aw_cl (d + 5) 66 [(101, 36), (107, a)] f Q := by
  have key : ∀ j t : Nat, ∀ g, t + j = n → fK f g → aw_wp (d + 5) 66 4 [(101, 36), (107, a), (0, (bm (fun t => aSt L ρ z (t : Int)) t : Int)), (0, (t : Int))] [] g Q := by
    intro j
    induction j with
    | zero =>
      intro t g ht hg
      obtain rfl : t = n := by omega
      obtain ⟨hx, hl, hz, hT, ho⟩ := CB_fK h hg
      have hS := hz.1
      have hL := hl.1
      have hla := hz.2.2.1
      have hn := hl.2.2.1.1
      unfold sS at hS
      unfold sL at hL
      have := hQ g hg
      rw [r66_4]
      simpa [q66, r66_0, r66_1, r66_2, r66_3, r66_5, r66_6, r66_9, r66_12, r66_15, r66_16, r66_17, r66_18, r66_19, r66_22, r66_25, r66_26, r66_27, r66_28, r66_31, r66_32, r66_33, r66_34, r66_37, r66_40, r66_41, cs_nil, cs_cons, lc_lt, lc_ge, lc_gt, lc_le, lc_eq, hS, hL, hla, hn] using this
    | succ j ih =>
      intro t g ht hg
      have hB := CB_fK h hg
      obtain ⟨hx, hl, hz, hT, ho⟩ := CB_fK h hg
      have hS := hz.1
      have hL := hl.1
      have hla := hz.2.2.1
      have hn := hl.2.2.1.1
      have hn8 := hT.1
      unfold sS at hS
      unfold sL at hL
      have c1 : ¬ n ≤ t := by omega
      rw [r66_4]
      simp [q66, r66_0, r66_1, r66_2, r66_3, r66_5, r66_6, r66_9, r66_12, r66_15, r66_16, r66_17, r66_18, r66_19, r66_22, r66_25, r66_26, r66_27, r66_28, r66_31, r66_32, r66_33, r66_34, r66_37, r66_40, r66_41, cs_nil, cs_cons, lc_lt, lc_ge, lc_gt, lc_le, lc_eq, hS, hL, hla, hn, c1]
      refine c_stands hB (by omega) (by omega) ?_
      intro f1 hf
      have ih' := ih (t + 1) f1 (by omega) (fK_tr hg hf)
      by_cases hp : aSt L ρ z (t : Int) = true
      · simpa (disch := omega) [q66, r66_0, r66_1, r66_2, r66_3, r66_5, r66_6, r66_9, r66_12, r66_15, r66_16, r66_17, r66_18, r66_19, r66_22, r66_25, r66_26, r66_27, r66_28, r66_31, r66_32, r66_33, r66_34, r66_37, r66_40, r66_41, cs_nil, cs_cons, lc_lt, lc_ge, lc_gt, lc_le, lc_eq, hp, bm, bm_set, am_wid2] using ih'
      · simpa (disch := omega) [q66, r66_0, r66_1, r66_2, r66_3, r66_5, r66_6, r66_9, r66_12, r66_15, r66_16, r66_17, r66_18, r66_19, r66_22, r66_25, r66_26, r66_27, r66_28, r66_31, r66_32, r66_33, r66_34, r66_37, r66_40, r66_41, cs_nil, cs_cons, lc_lt, lc_ge, lc_gt, lc_le, lc_eq, hp, bm, bm_or0, am_wid2] using ih'
  have := key n 0 f (by omega) fK_refl
  simpa [q66, r66_0, r66_1, r66_2, r66_3, r66_5, r66_6, r66_9, r66_12, r66_15, r66_16, r66_17, r66_18, r66_19, r66_22, r66_25, r66_26, r66_27, r66_28, r66_31, r66_32, r66_33, r66_34, r66_37, r66_40, r66_41, cs_nil, cs_cons, lc_lt, lc_ge, lc_gt, lc_le, lc_eq, bm] using this
theorem c_hours {d n m r : Nat} {f L z : am_F} {Q : am_V → am_F → Prop} {a l t k : Int} {ρ : Int → List Int} (h : CB f a l n m r L ρ z) (h0 : 0 ≤ t) (h1 : t < n) (h2 : 0 ≤ k) (h3 : k < m) (hQ : ∀ f1, fK f f1 → Q (0, aH L ρ z t k) f1) : aw_cl (d + 4) 88 [(101, 36), (107, a), (0, t), (0, k)] f Q := by
  obtain ⟨hx, hl, hz, hT, ho⟩ := h
  have hS := hz.1
  have hL := hl.1
  have hla := hz.2.2.1
  have hm4 := hT.2.1
  have hsk := (hl.2.2.2.2.1 k h2 h3).1
  have hb := hT.2.2.2.2.2.1 k h2 h3
  unfold sS at hS
  unfold sL at hL
  have h8 : k < 4 := by omega
  simp [q88, r88_0, r88_1, r88_4, r88_5, r88_8, r88_11, r88_13, r88_14, r88_15, r88_16, r88_19, r88_22, r88_23, r88_24, r88_27, r88_29, r88_30, r88_32, r88_33, r88_35, r88_38, cs_nil, cs_cons, lc_lt, lc_ge, lc_gt, lc_le, lc_eq, hx, hS, hL, hla, hsk, h2, h8]
  refine c_val (w := 2) (z := z) hx.1 hT hl hz ho (by omega) h0 h1 rfl rfl (by omega) ?_
  intro f1 hf
  have := hQ f1 hf
  unfold aH at this
  simpa (disch := omega) [q88, r88_0, r88_1, r88_4, r88_5, r88_8, r88_11, r88_13, r88_14, r88_15, r88_16, r88_19, r88_22, r88_23, r88_24, r88_27, r88_29, r88_30, r88_32, r88_33, r88_35, r88_38, cs_nil, cs_cons, lc_lt, lc_ge, lc_gt, lc_le, lc_eq, c_clm] using this
theorem c_fine {d n m r : Nat} {f L z : am_F} {Q : am_V → am_F → Prop} {a l t k : Int} {ρ : Int → List Int} (h : CB f a l n m r L ρ z) (h0 : 0 ≤ t) (h1 : t < n) (h2 : 0 ≤ k) (h3 : k < m) (hQ : ∀ f1, fK f f1 → Q (0, aF L ρ z t k) f1) : aw_cl (d + 4) 90 [(101, 36), (107, a), (0, t), (0, k)] f Q := by
  obtain ⟨hx, hl, hz, hT, ho⟩ := h
  have hS := hz.1
  have hL := hl.1
  have hla := hz.2.2.1
  have hm4 := hT.2.1
  have hsk := (hl.2.2.2.2.1 k h2 h3).1
  have hb := hT.2.2.2.2.2.1 k h2 h3
  unfold sS at hS
  unfold sL at hL
  have h8 : k < 4 := by omega
  simp [q90, r90_0, r90_1, r90_4, r90_5, r90_8, r90_11, r90_13, r90_14, r90_15, r90_16, r90_19, r90_22, r90_23, r90_24, r90_27, r90_29, r90_30, r90_32, r90_33, r90_35, r90_38, cs_nil, cs_cons, lc_lt, lc_ge, lc_gt, lc_le, lc_eq, hx, hS, hL, hla, hsk, h2, h8]
  refine c_val (w := 3) (z := z) hx.1 hT hl hz ho (by omega) h0 h1 rfl rfl (by omega) ?_
  intro f1 hf
  have := hQ f1 hf
  unfold aF at this
  simpa (disch := omega) [q90, r90_0, r90_1, r90_4, r90_5, r90_8, r90_11, r90_13, r90_14, r90_15, r90_16, r90_19, r90_22, r90_23, r90_24, r90_27, r90_29, r90_30, r90_32, r90_33, r90_35, r90_38, cs_nil, cs_cons, lc_lt, lc_ge, lc_gt, lc_le, lc_eq, c_clm] using this
