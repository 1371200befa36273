/-! the model reads parts -/
/-- the model reads at p, with o open, the stack W above b, the codes C -/
def MS (f : am_F) (B : Int → Int) (N κ p o b : Int) (W C : List Int) : Prop := MX f B N ∧ PP f B N p ∧ (f 270 5 = 0 ∧ (f 270 50 = κ ∧ f 270 6 = -1) ∧ f 270 95 = o ∧ f 270 96 = b) ∧ RW f W C ∧ (0 ≤ p ∧ p ≤ N ∧ (W.length : Int) + C.length ≤ p) ∧ (-(p + C.length) ≤ o ∧ o ≤ 6) ∧ ∀ x ∈ W, 1 ≤ x ∧ x ≤ 60
theorem RW_fr {f g : am_F} {W C : List Int} (h : RW f W C) (hg : ∀ c j : Int, (c = 270 ∧ 91 ≤ j ∧ j ≤ 94) ∨ c = 340 ∨ c = 341 → g c j = f c j) : RW g W C := by
  obtain ⟨⟨a1, a2⟩, ⟨b1, b2⟩, ⟨c1, c2⟩, e⟩ := h
  refine ⟨⟨?_, ?_⟩, ⟨?_, ?_⟩, ⟨pl_fr W (fun j _ _ => hg _ _ (by omega)) c1, al_fr C 0 (fun j _ _ => hg _ _ (by omega)) c2⟩, e⟩
  · rw [hg _ _ (by omega)]; exact a1
  · rw [hg _ _ (by omega)]; exact a2
  · rw [hg _ _ (by omega)]; exact b1
  · rw [hg _ _ (by omega)]; exact b2
theorem RW_P {f : am_F} {W C : List Int} {x : Int} (h : RW f W C) (hl : (W.length : Int) + 1 + C.length ≤ 1600) : RW (am_up (am_up f 341 W.length x) 270 94 (W.length + 1)) (x :: W) C := by
  obtain ⟨⟨a1, a2⟩, ⟨b1, b2⟩, ⟨c1, c2⟩, e⟩ := h
  refine ⟨⟨?_, ?_⟩, ⟨?_, ?_⟩, ⟨?_, ?_⟩, ?_⟩
  · rw [am_un (by omega), am_un (by omega)]; exact a1
  · rw [am_un (by omega), am_un (by omega)]; exact a2
  · rw [am_ue, List.length_cons]; omega
  · rw [am_un (by omega), am_un (by omega)]; exact b2
  · refine ⟨by rw [am_un (by omega), am_ue], pl_fr W (fun j _ _ => by rw [am_un (by omega), am_un (by omega)]) c1⟩
  · exact al_fr C 0 (fun j _ _ => by rw [am_un (by omega), am_un (by omega)]) c2
  · rw [List.length_cons]; omega
theorem RW_C {f : am_F} {W C : List Int} {v : Int} (h : RW f W C) (hl : (W.length : Int) + C.length + 1 ≤ 1600) : RW (am_up (am_up f 340 C.length v) 270 92 (C.length + 1)) W (C ++ [v]) := by
  obtain ⟨⟨a1, a2⟩, ⟨b1, b2⟩, ⟨c1, c2⟩, e⟩ := h
  refine ⟨⟨?_, ?_⟩, ⟨?_, ?_⟩, ⟨?_, ?_⟩, ?_⟩
  · rw [am_un (by omega), am_un (by omega)]; exact a1
  · rw [am_un (by omega), am_un (by omega)]; exact a2
  · rw [am_un (by omega), am_un (by omega)]; exact b1
  · rw [am_ue, List.length_append]; simp
  · exact pl_fr W (fun j _ _ => by rw [am_un (by omega), am_un (by omega)]) c1
  · refine al_snoc c2 (fun j hj => ?_) ?_
    · rw [am_un (by omega), am_un (by omega)]
    · rw [am_un (by omega), am_ue]
  · rw [List.length_append]; simp; omega
section
variable {d : Nat} {f g : am_F} {B : Int → Int} {N κ p o b p' o' b' : Int} {Q : am_V → am_F → Prop} {W C W' C' : List Int}
theorem MS_mk (h : MS f B N κ p o b W C) (hg : gP f g) (hP : PP g B N p') (h5 : g 270 5 = 0) (h95 : g 270 95 = o') (h96 : g 270 96 = b') (hR : RW g W' C') (hp : 0 ≤ p' ∧ p' ≤ N ∧ (W'.length : Int) + C'.length ≤ p') (ho : -(p' + C'.length) ≤ o' ∧ o' ≤ 6) (hW : ∀ x ∈ W', 1 ≤ x ∧ x ≤ 60) : MS g B N κ p' o' b' W' C' := ⟨MX_gP h.1 hg, hP, ⟨h5, ⟨(hg _ _ (by omega)).trans h.2.2.1.2.1.1, (hg _ _ (by omega)).trans h.2.2.1.2.1.2⟩, h95, h96⟩, hR, hp, ho, hW⟩
theorem MS_at (h : MS f B N κ p o b W C) : MS (am_up f 270 2 (tS B N p)) B N κ p o b W C ∧ (am_up f 270 2 (tS B N p)) 270 2 = tS B N p := by
  obtain ⟨hX, hP, ⟨h5, h50, h95, h96⟩, hR, hp, ho, hW⟩ := id h
  refine ⟨MS_mk h (gP_up gP_rf (by omega)) (PP_look hP hp.2.1) ?_ ?_ ?_ (RW_fr hR (fun c j hc => am_un (by omega))) hp ho hW, am_ue⟩
  · rw [am_un (by omega)]; exact h5
  · rw [am_un (by omega)]; exact h95
  · rw [am_un (by omega)]; exact h96
def aO (f : am_F) (o w x : Int) : am_F := am_up (am_up (am_up f 270 95 (o + 1)) 341 w x) 270 94 (w + 1)
theorem aO_n {o w x c j : Int} (h : ¬ ((c = 270 ∧ (j = 95 ∨ j = 94)) ∨ c = 341)) : aO f o w x c j = f c j := by
  unfold aO
  rw [am_un (by omega), am_un (by omega), am_un (by omega)]
theorem aO_95 {o w x : Int} : aO f o w x 270 95 = o + 1 := by
  unfold aO
  rw [am_un (by omega), am_un (by omega), am_ue]
theorem aO_R {o x : Int} (h : RW f W C) (hl : (W.length : Int) + 1 + C.length ≤ 1600) : RW (aO f o W.length x) (x :: W) C := RW_P (RW_fr h (fun c j hc => am_un (by omega))) hl
theorem m_opensY {x q : Int} (hR : RW f W C) (hb : f 270 5 = 0) (h95 : f 270 95 = o) (ho : ¬ o = 6) (o0 : -3200 ≤ o ∧ o ≤ 6) : aw_cl (d + 1) 183 [(110, 270), (0, x), (0, q)] f Q = Q (3, 0) (aO f o W.length x) := by
  obtain ⟨⟨a1, a2⟩, ⟨b1, b2⟩, ⟨c1, c2⟩, e⟩ := hR
  unfold aO
  apply aw_det
  simp (disch := omega) [q183, r183_0, r183_1, r183_4, r183_7, r183_8, r183_9, r183_12, r183_14, r183_17, r183_18, r183_19, r183_20, r183_23, r183_24, r183_25, r183_26, r183_29, r183_30, r183_31, r183_34, r183_35, r183_38, r183_39, r183_42, r183_43, r183_44, r183_45, r183_46, r183_49, r183_50, r183_51, r183_54, cs_nil, cs_cons, lc_lt, lc_ge, lc_gt, lc_le, lc_eq, hb, h95, ho, a2, b1, ln_341, am_un, am_ue, am_wid2, am_fitE, le_T, lt_T]
theorem m_opensN {x q : Int} (hb : f 270 5 = 0) (h95 : f 270 95 = 6) : aw_cl (d + 1) 183 [(110, 270), (0, x), (0, q)] f Q = Q (3, 0) (am_up (am_up f 270 5 4) 270 6 q) := by
  apply aw_det
  simp (disch := omega) [q183, r183_0, r183_1, r183_4, r183_7, r183_8, r183_9, r183_12, r183_14, r183_17, r183_18, r183_19, r183_20, r183_23, r183_24, r183_25, r183_26, r183_29, r183_30, r183_31, r183_34, r183_35, r183_38, r183_39, r183_42, r183_43, r183_44, r183_45, r183_46, r183_49, r183_50, r183_51, r183_54, cs_nil, cs_cons, lc_lt, lc_ge, lc_gt, lc_le, lc_eq, hb, h95, m_fail hb]
/-- opened, and on -/
theorem MS_open {x : Int} (h : MS f B N κ p o b W C) (ho : o < 6) (hx : 1 ≤ x ∧ x ≤ 60) (hg : gP f g) (hP : PP g B N p') (pp : p < p') (pN : p' ≤ N) (hO : ∀ c j : Int, ¬ (c = 270 ∧ (j = 2 ∨ j = 4)) → g c j = aO f o W.length x c j) (hN : N ≤ 1600) : MS g B N κ p' (o + 1) b (x :: W) C := by
  obtain ⟨hX, _, ⟨h5, h50, h95, h96⟩, hR, hp, hoo, hW⟩ := id h
  refine MS_mk h hg hP ?_ ?_ ?_ (RW_fr (aO_R hR (by omega)) (fun c j hc => hO c j (by omega))) ⟨by omega, pN, by rw [List.length_cons]; omega⟩ (by omega) (fun y hy => ?_)
  · rw [hO _ _ (by omega), aO_n (by omega)]; exact h5
  · rw [hO _ _ (by omega), aO_95]
  · rw [hO _ _ (by omega), aO_n (by omega)]; exact h96
  · rcases List.mem_cons.mp hy with e | e
    · rw [e]; exact hx
    · exact hW y e
/-- a code is written, and on -/
theorem MS_code {v : Int} (h : MS f B N κ p o b W C) (hg : gP f g) (hP : PP g B N p') (pp : p < p') (pN : p' ≤ N) (hO : ∀ c j : Int, ¬ (c = 270 ∧ (j = 2 ∨ j = 4)) → g c j = am_up (am_up f 340 C.length v) 270 92 (C.length + 1) c j) (hN : N ≤ 1600) : MS g B N κ p' o b W (C ++ [v]) := by
  obtain ⟨hX, _, ⟨h5, h50, h95, h96⟩, hR, hp, hoo, hW⟩ := id h
  refine MS_mk h hg hP ?_ ?_ ?_ (RW_fr (RW_C hR (by omega)) (fun c j hc => hO c j (by omega))) ⟨by omega, pN, by rw [List.length_append]; simp; omega⟩ ⟨by rw [List.length_append]; simp; omega, hoo.2⟩ hW
  · rw [hO _ _ (by omega), am_un (by omega), am_un (by omega)]; exact h5
  · rw [hO _ _ (by omega), am_un (by omega), am_un (by omega)]; exact h95
  · rw [hO _ _ (by omega), am_un (by omega), am_un (by omega)]; exact h96
/-- parts' ends -/
theorem m_endsB (hb : ¬ f 270 5 = 0) : aw_cl (d + 2) 194 [(110, 270)] f Q = Q (3, 0) f := by
  apply aw_det
  have : aw_wp (d + 2) 194 0 [(110, 270)] [] f (fun v f1 => v = (3, 0) ∧ f1 = f) := by
    rw [r194_0]
    simp [r194_1, r194_4, r194_7, r194_8, r194_11, r194_12, r194_15, r194_18, r194_19, r194_22, r194_23, r194_26, r194_27, r194_28, r194_29, r194_31, r194_34, r194_35, r194_36, r194_39, r194_40, r194_41, r194_44, r194_45, r194_48, r194_51, cs_nil, cs_cons, lc_lt, lc_ge, lc_gt, lc_le, lc_eq, hb]
  simpa [q194] using this
theorem m_ends {G : Int → Int → List Int → List Int → Prop} {Wb : List Int} (hN : N ≤ 1600) : ∀ (W C : List Int) (o : Int) (f : am_F), pend 60 G p W o C → MS f B N κ p o Wb.length (W ++ Wb) C → (∀ g o' W' C', G p o' W' C' → MS g B N κ p o' Wb.length (W' ++ Wb) C' → gP f g → Q (3, 0) g) → aw_wp (d + 2) 194 0 [(110, 270)] [] f Q
  | [], C, o, f, hp, hM, hq => by
    have := hq f o [] C hp hM gP_rf
    obtain ⟨hX, _, ⟨h5, h50, h95, h96⟩, ⟨⟨a1, a2⟩, ⟨b1, b2⟩, _, e⟩, _⟩ := hM
    rw [List.nil_append] at b1
    rw [r194_0]
    simpa (disch := omega) [r194_1, r194_4, r194_7, r194_8, r194_11, r194_12, r194_15, r194_18, r194_19, r194_22, r194_23, r194_26, r194_27, r194_28, r194_29, r194_31, r194_34, r194_35, r194_36, r194_39, r194_40, r194_41, r194_44, r194_45, r194_48, r194_51, cs_nil, cs_cons, lc_lt, lc_ge, lc_gt, lc_le, lc_eq, h5, h96, b1, le_T, lt_T, le_F, lt_F] using this
  | x :: W, C, o, f, hp, hM, hq => by
    obtain ⟨hX, hP, ⟨h5, h50, h95, h96⟩, hR, hpp, ho, hW⟩ := id hM
    obtain ⟨⟨a1, a2⟩, ⟨b1, b2⟩, ⟨c1, c2⟩, e⟩ := id hR
    have cx : f 341 ((W ++ Wb).length : Int) = x := c1.1
    have b1' : f 270 94 = ((W ++ Wb).length : Int) + 1 := by rw [b1]; simp
    have e' : ((W ++ Wb).length : Int) + 1 + C.length ≤ 1600 := by simp at e ⊢; omega
    have hw2 : (Wb.length : Int) ≤ ((W ++ Wb).length : Int) := by simp; omega
    have hp3 : ((W ++ Wb).length : Int) + 1 + C.length ≤ p := by have := hpp.2.2; simp at this ⊢; omega
    clear b1 c1 e
    unfold pend at hp
    by_cases hx : x = 60
    · rw [if_pos hx] at hp
      subst hx
      have hR1 : RW (am_up f 270 95 (o - 1)) (60 :: (W ++ Wb)) C := RW_fr hR (fun c j hc => am_un (by omega))
      have md := fun (dd : Nat) (QQ : am_V → am_F → Prop) => m_drops (d := dd) (Q := QQ) hR1
      have gp : gP f (aD (am_up f 270 95 (o - 1)) 60 C.length ((W ++ Wb).length : Nat)) := gP_tr (gP_up gP_rf (by omega)) (gD_gP gD_aD)
      have fa : ∀ c j : Int, ¬ ((c = 270 ∧ (j = 92 ∨ j = 94 ∨ j = 95)) ∨ c = 340) → aD (am_up f 270 95 (o - 1)) 60 C.length ((W ++ Wb).length : Nat) c j = f c j := fun c j hc => by rw [gD_aD c j (by omega), am_un (by omega)]
      have hM2 : MS (aD (am_up f 270 95 (o - 1)) 60 C.length ((W ++ Wb).length : Nat)) B N κ p (o - 1) Wb.length (W ++ Wb) (C ++ [60]) := by
        refine MS_mk hM gp ?_ ?_ ?_ ?_ (RW_D hR1) ⟨hpp.1, hpp.2.1, by rw [List.length_append (as := C)]; simp only [List.length_cons, List.length_nil]; omega⟩ ⟨by rw [List.length_append (as := C)]; simp only [List.length_cons, List.length_nil]; omega, by omega⟩ (fun y hy => hW y (List.mem_cons_of_mem _ hy))
        · obtain ⟨p1, p2, p3⟩ := hP
          exact ⟨by rw [fa _ _ (by omega)]; exact p1, by rw [fa _ _ (by omega)]; exact p2, by rw [fa _ _ (by omega)]; exact p3⟩
        · rw [fa _ _ (by omega)]; exact h5
        · rw [gD_aD _ _ (by omega), am_ue]
        · rw [fa _ _ (by omega)]; exact h96
      have ih := m_ends hN W (C ++ [60]) (o - 1) _ hp hM2 (fun g o' W' C' a b c => hq g o' W' C' a b (gP_tr gp c))
      have eo : am_wI (o - 1) = o - 1 := am_wid2 (by omega) (by omega)
      generalize ((W ++ Wb).length : Int) = w at cx b1' e' hw2 md ih
      have ew : w + 1 - 1 = w := by omega
      rw [r194_0]
      simpa (disch := omega) [r194_1, r194_4, r194_7, r194_8, r194_11, r194_12, r194_15, r194_18, r194_19, r194_22, r194_23, r194_26, r194_27, r194_28, r194_29, r194_31, r194_34, r194_35, r194_36, r194_39, r194_40, r194_41, r194_44, r194_45, r194_48, r194_51, cs_nil, cs_cons, lc_lt, lc_ge, lc_gt, lc_le, lc_eq, h5, h96, b1', a2, ew, ln_341, cx, h95, eo, md, am_un, am_ue, am_wid2, le_T, lt_T, le_F, lt_F] using ih
    · rw [if_neg hx] at hp
      have x60 := hW x List.mem_cons_self
      have xl : x < 60 := by omega
      have := hq f o (x :: W) C hp hM gP_rf
      generalize ((W ++ Wb).length : Int) = w at cx b1' e' hw2
      have ew : w + 1 - 1 = w := by omega
      rw [r194_0]
      simpa (disch := omega) [r194_1, r194_4, r194_7, r194_8, r194_11, r194_12, r194_15, r194_18, r194_19, r194_22, r194_23, r194_26, r194_27, r194_28, r194_29, r194_31, r194_34, r194_35, r194_36, r194_39, r194_40, r194_41, r194_44, r194_45, r194_48, r194_51, cs_nil, cs_cons, lc_lt, lc_ge, lc_gt, lc_le, lc_eq, h5, h96, b1', a2, ew, ln_341, cx, xl, am_wid2, le_T, lt_T, le_F, lt_F] using this
end
