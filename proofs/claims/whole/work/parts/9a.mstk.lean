/-! the model's stack of what waits, and its codes -/
def RW (f : am_F) (W C : List Int) : Prop := (f 270 91 = 340 ∧ f 270 93 = 341) ∧ (f 270 94 = W.length ∧ f 270 92 = C.length) ∧ (pl f 341 W ∧ al f 340 id 0 C) ∧ (W.length : Int) + C.length ≤ 1600
def gD (f g : am_F) : Prop := ∀ c j : Int, ¬ ((c = 270 ∧ (j = 92 ∨ j = 94)) ∨ c = 340) → g c j = f c j
theorem gD_tr {f g h : am_F} (h1 : gD f g) (h2 : gD g h) : gD f h := fun c j hc => (h2 c j hc).trans (h1 c j hc)
theorem gD_gP {f g : am_F} (h : gD f g) : gP f g := fun c j hc => h c j (by omega)
/-- memory behind a drop of x -/
def aD (f : am_F) (x n w : Int) : am_F := am_up (am_up (am_up f 270 94 w) 340 n x) 270 92 (n + 1)
theorem gD_aD {f : am_F} {x n w : Int} : gD f (aD f x n w) := fun c j hc => by
  unfold aD
  rw [am_un (by omega), am_un (by omega), am_un (by omega)]
theorem al_snoc {f g : am_F} {C : List Int} {x : Int} (h : al f 340 id 0 C) (hg : ∀ j : Int, ¬ j = C.length → g 340 j = f 340 j) (hx : g 340 C.length = x) : al g 340 id 0 (C ++ [x]) := by
  refine al_app C [x] 0 (al_fr C 0 (fun j _ hj => hg j (by omega)) h) ⟨?_, trivial⟩
  rw [show (0 : Int) + C.length = C.length by omega]
  exact hx
theorem RW_D {f : am_F} {x : Int} {V C : List Int} (h : RW f (x :: V) C) : RW (aD f x C.length V.length) V (C ++ [x]) := by
  obtain ⟨⟨a1, a2⟩, ⟨b1, b2⟩, ⟨c1, c2⟩, e⟩ := h
  unfold aD
  rw [List.length_cons] at e
  refine ⟨⟨?_, ?_⟩, ⟨?_, ?_⟩, ⟨?_, ?_⟩, ?_⟩
  · rw [am_un (by omega), am_un (by omega), am_un (by omega)]; exact a1
  · rw [am_un (by omega), am_un (by omega), am_un (by omega)]; exact a2
  · rw [am_un (by omega), am_un (by omega), am_ue]
  · rw [am_ue, List.length_append]; simp
  · exact pl_fr V (fun j _ _ => by rw [am_un (by omega), am_un (by omega), am_un (by omega)]) c1.2
  · refine al_snoc c2 (fun j hj => ?_) ?_
    · rw [am_un (by omega), am_un (by omega), am_un (by omega)]
    · rw [am_un (by omega), am_ue]
  · rw [List.length_append]; simp; omega
section
variable {d : Nat} {f : am_F} {Q : am_V → am_F → Prop} {W C : List Int}
theorem m_code {n v : Int} (h91 : f 270 91 = 340) (hn : f 270 92 = n) (n0 : 0 ≤ n) (n1 : n < 1700) : aw_cl d 185 [(110, 270), (0, v)] f Q = Q (3, 0) (am_up (am_up f 340 n v) 270 92 (n + 1)) := by
  apply aw_det
  simp (disch := omega) [q185, r185_0, r185_1, r185_4, r185_5, r185_8, r185_9, r185_10, r185_11, r185_12, r185_15, r185_16, r185_17, r185_20, cs_nil, cs_cons, lc_lt, lc_ge, lc_gt, lc_le, lc_eq, h91, hn, ln_340, n0, n1, am_un, am_ue, am_wid2, am_fitE, le_T, lt_T]
theorem m_drops {x : Int} {V : List Int} (h : RW f (x :: V) C) : aw_cl (d + 1) 195 [(110, 270)] f Q = Q (3, 0) (aD f x C.length V.length) := by
  obtain ⟨⟨a1, a2⟩, ⟨b1, b2⟩, ⟨c1, c2⟩, e⟩ := h
  have cx : f 341 (V.length : Int) = x := c1.1
  have b1' : f 270 94 = (V.length : Int) + 1 := by rw [b1]; simp
  have e' : (V.length : Int) + 1 + C.length ≤ 1600 := by simp at e; omega
  have v0 : 0 ≤ (V.length : Int) := by omega
  clear b1 c1 e
  generalize (V.length : Int) = w at b1' e' cx v0 ⊢
  have ew : w + 1 - 1 = w := by omega
  have h91 : (am_up f 270 94 w) 270 91 = 340 := by rw [am_un (by omega)]; exact a1
  have h92 : (am_up f 270 94 w) 270 92 = C.length := by rw [am_un (by omega)]; exact b2
  have mc := fun (dd : Nat) (QQ : am_V → am_F → Prop) (v : Int) => m_code (d := dd) (Q := QQ) (v := v) h91 h92 (by omega) (by omega)
  apply aw_det
  unfold aD
  simp (disch := omega) [q195, r195_0, r195_1, r195_2, r195_5, r195_6, r195_7, r195_10, r195_11, r195_12, r195_15, r195_16, r195_19, r195_20, r195_23, cs_nil, cs_cons, lc_lt, lc_ge, lc_gt, lc_le, lc_eq, a2, b1', ew, ln_341, cx, mc, am_un, am_ue, am_wid2, le_T, lt_T]
theorem m_isOn {x : Int} (h : RW f W C) (hx : ¬ x = 0) : aw_cl d 200 [(110, 270), (0, x)] f Q = Q (0, if W.headD 0 = x then 1 else 0) f := by
  obtain ⟨⟨a1, a2⟩, ⟨b1, b2⟩, ⟨c1, c2⟩, e⟩ := h
  apply aw_det
  cases W with
  | nil =>
    have b1 : f 270 94 = 0 := b1
    have hx' : ¬ (0 : Int) = x := fun q => hx q.symm
    simp [q200, r200_0, r200_1, r200_4, r200_7, r200_8, r200_11, r200_12, r200_15, r200_16, r200_17, r200_18, r200_19, r200_22, r200_23, r200_26, r200_27, cs_nil, cs_cons, lc_lt, lc_ge, lc_gt, lc_le, lc_eq, b1, hx']
  | cons y V =>
    have cx : f 341 (V.length : Int) = y := c1.1
    have b1' : f 270 94 = (V.length : Int) + 1 := by rw [b1]; simp
    have e' : (V.length : Int) + 1 + C.length ≤ 1600 := by simp at e; omega
    have v0 : 0 ≤ (V.length : Int) := by omega
    clear b1 c1 e
    rw [List.headD_cons]
    generalize (V.length : Int) = w at b1' e' cx v0
    have ew : w + 1 - 1 = w := by omega
    by_cases q : y = x
    · simp (disch := omega) [q200, r200_0, r200_1, r200_4, r200_7, r200_8, r200_11, r200_12, r200_15, r200_16, r200_17, r200_18, r200_19, r200_22, r200_23, r200_26, r200_27, cs_nil, cs_cons, lc_lt, lc_ge, lc_gt, lc_le, lc_eq, a2, b1', ew, ln_341, cx, q, am_wid2, le_T, lt_T, le_F, lt_F]
    · simp (disch := omega) [q200, r200_0, r200_1, r200_4, r200_7, r200_8, r200_11, r200_12, r200_15, r200_16, r200_17, r200_18, r200_19, r200_22, r200_23, r200_26, r200_27, cs_nil, cs_cons, lc_lt, lc_ge, lc_gt, lc_le, lc_eq, a2, b1', ew, ln_341, cx, q, am_wid2, le_T, lt_T, le_F, lt_F]
theorem m_isBk {v : Int} : aw_cl d 198 [(0, v)] f Q = Q (0, if 20 ≤ v ∧ v ≤ 24 then 1 else 0) f := by
  apply aw_det
  by_cases h : 20 ≤ v ∧ v ≤ 24
  · simp (disch := omega) [q198, r198_0, r198_1, r198_3, r198_6, r198_7, r198_9, r198_12, r198_13, r198_16, r198_17, cs_nil, cs_cons, lc_lt, lc_ge, lc_gt, lc_le, lc_eq, h, le_T, lt_T, le_F, lt_F]
  · rcases (show v < 20 ∨ (20 ≤ v ∧ 24 < v) by omega) with q | q
    · simp (disch := omega) [q198, r198_0, r198_1, r198_3, r198_6, r198_7, r198_9, r198_12, r198_13, r198_16, r198_17, cs_nil, cs_cons, lc_lt, lc_ge, lc_gt, lc_le, lc_eq, h, le_T, lt_T, le_F, lt_F]
    · simp (disch := omega) [q198, r198_0, r198_1, r198_3, r198_6, r198_7, r198_9, r198_12, r198_13, r198_16, r198_17, cs_nil, cs_cons, lc_lt, lc_ge, lc_gt, lc_le, lc_eq, h, le_T, lt_T, le_F, lt_F]
theorem pl_at : ∀ (S : List Int) (x : Int) (V : List Int), pl f 341 (S ++ x :: V) → f 341 (V.length : Int) = x
  | [], _, _, h => h.1
  | _ :: S, x, V, h => pl_at S x V h.2
/-- the innermost bracket above the base -/
theorem m_brk {S V : List Int} {b x : Int} (h : RW f (S ++ x :: V) C) (hS : ops S) (hx : 20 ≤ x ∧ x ≤ 24) (hb : f 270 96 = b) (hb1 : b ≤ V.length) (hb0 : 0 ≤ b) : aw_cl (d + 1) 197 [(110, 270)] f Q = Q (0, x) f := by
  obtain ⟨⟨a1, a2⟩, ⟨b1, b2⟩, ⟨c1, c2⟩, e⟩ := h
  have key : ∀ (S : List Int) (w : Int), ops S → pl f 341 (S ++ x :: V) → w = S.length + V.length → w ≤ 1600 → aw_wp (d + 1) 197 7 [(110, 270), (0, w)] [] f (fun v g => v = (0, x) ∧ g = f) := by
    intro S
    induction S with
    | nil =>
      intro w _ hp hw hl
      have c := pl_at [] x V hp
      have e1 : (V.length : Int) = w := by rw [hw]; simp
      rw [e1] at c hb1
      have w0 : 0 ≤ w := by omega
      clear hw e1
      rw [r197_7]
      simp (disch := omega) [r197_8, r197_9, r197_12, r197_15, r197_16, r197_19, r197_20, r197_21, r197_24, r197_27, r197_30, r197_33, r197_34, r197_35, r197_38, r197_41, r197_42, r197_45, r197_46, r197_47, r197_50, r197_51, cs_nil, cs_cons, lc_lt, lc_ge, lc_gt, lc_le, lc_eq, a2, hb, ln_341, c, m_isBk, hx.1, hx.2, le_T, lt_T, le_F, lt_F]
    | cons y S ih =>
      intro w hS hp hw hl
      have hy := hS y List.mem_cons_self
      have c : f 341 (((S ++ x :: V).length : Nat) : Int) = y := hp.1
      have e1 : (((S ++ x :: V).length : Nat) : Int) = w := by rw [hw]; simp; omega
      have w1 : w - 1 = S.length + V.length := by rw [hw]; simp; omega
      have ih' := ih (w - 1) (fun z hz => hS z (List.mem_cons_of_mem _ hz)) hp.2 w1 (by omega)
      rw [e1] at c
      have wb : b ≤ w := by omega
      clear e1 hw w1
      have k1 : ¬ (20 ≤ y ∧ y ≤ 24) := by omega
      have e2 : w + -1 = w - 1 := by omega
      rw [r197_7]
      simpa (disch := omega) [r197_8, r197_9, r197_12, r197_15, r197_16, r197_19, r197_20, r197_21, r197_24, r197_27, r197_30, r197_33, r197_34, r197_35, r197_38, r197_41, r197_42, r197_45, r197_46, r197_47, r197_50, r197_51, cs_nil, cs_cons, lc_lt, lc_ge, lc_gt, lc_le, lc_eq, a2, hb, ln_341, c, m_isBk, k1, e2, am_wid2, le_T, lt_T, le_F, lt_F] using ih'
  have l : ((S ++ x :: V).length : Int) = (S.length : Int) + V.length + 1 := by simp; omega
  have := key S ((S.length : Int) + V.length) hS c1 rfl (by omega)
  have e3 : am_wI (f 270 94 - 1) = (S.length : Int) + V.length := by rw [b1, am_wid2 (by omega) (by omega)]; omega
  apply aw_det
  simpa [r197_0, r197_1, r197_4, r197_5, r197_6, cs_nil, cs_cons, lc_lt, lc_ge, lc_gt, lc_le, lc_eq, q197, e3] using this
theorem m_brk0 {S V : List Int} (h : RW f (S ++ V) C) (hS : ops S) (hb : f 270 96 = V.length) : aw_cl (d + 1) 197 [(110, 270)] f Q = Q (0, -1) f := by
  obtain ⟨⟨a1, a2⟩, ⟨b1, b2⟩, ⟨c1, c2⟩, e⟩ := h
  have key : ∀ (S : List Int) (w : Int), ops S → pl f 341 (S ++ V) → w = (S.length : Int) + V.length - 1 → w ≤ 1600 → aw_wp (d + 1) 197 7 [(110, 270), (0, w)] [] f (fun v g => v = (0, -1) ∧ g = f) := by
    intro S
    induction S with
    | nil =>
      intro w _ hp hw hl
      have e1 : w < (V.length : Int) := by rw [hw]; simp; omega
      rw [← hb] at e1
      clear hw
      rw [r197_7]
      simp (disch := omega) [r197_8, r197_9, r197_12, r197_15, r197_16, r197_19, r197_20, r197_21, r197_24, r197_27, r197_30, r197_33, r197_34, r197_35, r197_38, r197_41, r197_42, r197_45, r197_46, r197_47, r197_50, r197_51, cs_nil, cs_cons, lc_lt, lc_ge, lc_gt, lc_le, lc_eq, le_T, lt_T, le_F, lt_F]
    | cons y S ih =>
      intro w hS hp hw hl
      have hy := hS y List.mem_cons_self
      have c : f 341 (((S ++ V).length : Nat) : Int) = y := hp.1
      have e1 : (((S ++ V).length : Nat) : Int) = w := by rw [hw]; simp; omega
      have w1 : w - 1 = (S.length : Int) + V.length - 1 := by rw [hw]; simp; omega
      have ih' := ih (w - 1) (fun z hz => hS z (List.mem_cons_of_mem _ hz)) hp.2 w1 (by omega)
      rw [e1] at c
      have wb : f 270 96 ≤ w := by omega
      have w0 : 0 ≤ w := by omega
      clear e1 hw w1
      have k1 : ¬ (20 ≤ y ∧ y ≤ 24) := by omega
      have e2 : w + -1 = w - 1 := by omega
      rw [r197_7]
      simpa (disch := omega) [r197_8, r197_9, r197_12, r197_15, r197_16, r197_19, r197_20, r197_21, r197_24, r197_27, r197_30, r197_33, r197_34, r197_35, r197_38, r197_41, r197_42, r197_45, r197_46, r197_47, r197_50, r197_51, cs_nil, cs_cons, lc_lt, lc_ge, lc_gt, lc_le, lc_eq, a2, ln_341, c, m_isBk, k1, e2, am_wid2, le_T, lt_T, le_F, lt_F] using ih'
  have l : ((S ++ V).length : Int) = (S.length : Int) + V.length := by simp
  have := key S ((S.length : Int) + V.length - 1) hS c1 rfl (by omega)
  have e3 : am_wI (f 270 94 - 1) = (S.length : Int) + V.length - 1 := by rw [b1, am_wid2 (by omega) (by omega)]; omega
  apply aw_det
  simpa [r197_0, r197_1, r197_4, r197_5, r197_6, cs_nil, cs_cons, lc_lt, lc_ge, lc_gt, lc_le, lc_eq, q197, e3] using this
/-- a loop that drops what stands on top -/
theorem d_drop {mi pc : Nat} {ls : List am_V} {ok : Int → Prop} {V : List Int} {f0 : am_F} (step : ∀ (x : Int) (S C : List Int) (g : am_F), ok x → RW g (x :: (S ++ V)) C → gD f0 g → aw_wp d mi pc ls [] (aD g x C.length ((S ++ V).length : Nat)) Q → aw_wp d mi pc ls [] g Q) : ∀ (S C : List Int) (f : am_F), (∀ x ∈ S, ok x) → RW f (S ++ V) C → gD f0 f → (∀ g, RW g V (C ++ S) → gD f0 g → aw_wp d mi pc ls [] g Q) → aw_wp d mi pc ls [] f Q
  | [], C, f, _, h, h0, hq => hq f (by rw [List.append_nil]; exact h) h0
  | x :: S, C, f, hS, h, h0, hq => by
    refine step x S C f (hS x List.mem_cons_self) h h0 ?_
    refine d_drop step S (C ++ [x]) _ (fun y hy => hS y (List.mem_cons_of_mem _ hy)) (RW_D h) (gD_tr h0 gD_aD) (fun g h1 h2 => hq g ?_ h2)
    rw [List.append_assoc] at h1
    exact h1
/-- all above a bracket is dropped -/
theorem m_dtb {S V : List Int} {b x : Int} (h : RW f (S ++ x :: V) C) (hS : ops S) (hx : 20 ≤ x ∧ x ≤ 24) (hb : f 270 96 = b) (hb1 : b ≤ V.length) (hb0 : 0 ≤ b) (hQ : ∀ g, RW g (x :: V) (C ++ S) → gD f g → Q (3, 0) g) : aw_cl (d + 2) 199 [(110, 270)] f Q := by
  have st : aw_wp (d + 2) 199 0 [(110, 270)] [] f Q := by
    refine d_drop (ok := fun x => 1 ≤ x ∧ x ≤ 4) (V := x :: V) (f0 := f) ?_ S C f hS h (fun _ _ _ => rfl) ?_
    · intro y S C g hy hg h0 hn
      have hb' : g 270 96 = b := (h0 _ _ (by omega)).trans hb
      have md := fun (dd : Nat) (QQ : am_V → am_F → Prop) => m_drops (d := dd) (Q := QQ) hg
      obtain ⟨⟨a1, a2⟩, ⟨b1, b2⟩, ⟨c1, c2⟩, e⟩ := hg
      have c : g 341 ((S ++ x :: V).length : Int) = y := c1.1
      have b1' : g 270 94 = ((S ++ x :: V).length : Int) + 1 := by rw [b1]; simp
      have e' : ((S ++ x :: V).length : Int) + 1 + C.length ≤ 1600 := by simp at e ⊢; omega
      have wb : b < ((S ++ x :: V).length : Int) := by simp; omega
      clear b1 c1 e
      generalize ((S ++ x :: V).length : Int) = w at c b1' e' wb md hn
      have k1 : ¬ (20 ≤ y ∧ y ≤ 24) := by omega
      have ew : w + 1 - 1 = w := by omega
      rw [r199_0]
      simpa (disch := omega) [r199_1, r199_4, r199_5, r199_8, r199_11, r199_12, r199_15, r199_16, r199_19, r199_20, r199_21, r199_22, r199_25, r199_28, r199_29, r199_32, r199_35, cs_nil, cs_cons, lc_lt, lc_ge, lc_gt, lc_le, lc_eq, a2, b1', hb', k1, ew, ln_341, c, m_isBk, md, am_wid2, le_T, lt_T, le_F, lt_F] using hn
    · intro g hg h0
      have hb' : g 270 96 = b := (h0 _ _ (by omega)).trans hb
      have hq := hQ g hg h0
      obtain ⟨⟨a1, a2⟩, ⟨b1, b2⟩, ⟨c1, c2⟩, e⟩ := hg
      have c : g 341 (V.length : Int) = x := c1.1
      have b1' : g 270 94 = (V.length : Int) + 1 := by rw [b1]; simp
      have e' : (V.length : Int) + 1 ≤ 1600 := by simp at e; omega
      clear b1 c1 e
      generalize (V.length : Int) = w at c b1' e' hb1
      have ew : w + 1 - 1 = w := by omega
      rw [r199_0]
      simpa (disch := omega) [r199_1, r199_4, r199_5, r199_8, r199_11, r199_12, r199_15, r199_16, r199_19, r199_20, r199_21, r199_22, r199_25, r199_28, r199_29, r199_32, r199_35, cs_nil, cs_cons, lc_lt, lc_ge, lc_gt, lc_le, lc_eq, a2, b1', hb', hx.1, hx.2, ew, ln_341, c, m_isBk, am_wid2, le_T, lt_T, le_F, lt_F] using hq
  simpa [q199] using st
end
