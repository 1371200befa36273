/-! a fault has a kind -/
theorem bd_fl {x : Option RR} {h : Int → List Int → Option RR} {e : Int × Int} (he : bd x h = some (.inl e)) : x = some (.inl e) ∨ ∃ p cs, x = some (.inr (p, cs)) ∧ h p cs = some (.inl e) := by
  match x, he with
  | some (.inr (p, cs)), he => exact Or.inr ⟨p, cs, rfl, he⟩
  | some (.inl e'), he => exact Or.inl he
  | none, he => cases he
section
variable {B : Int → Int} {N κ : Int}
theorem rd_fk : ∀ {k mode : Nat} {p o q w : Int}, rd B N κ k mode p o = some (.inl (q, w)) → ¬ q = 0
  | 0, _, _, _, _, _, h => by cases h
  | k + 1, mode, p, o, q, w, h => by
    have ih := fun {mode : Nat} {p o : Int} => rd_fk (k := k) (mode := mode) (p := p) (o := o) (q := q) (w := w)
    have two : ∀ {m1 m2 : Nat} {p o : Int} {g : List Int → Int → List Int → RR}, (∀ c1 p2 c2, ∃ z, g c1 p2 c2 = .inr z) → bd (rd B N κ k m1 p o) (fun p1 c1 => bd (rd B N κ k m2 p1 o) (fun p2 c2 => some (g c1 p2 c2))) = some (.inl (q, w)) → ¬ q = 0 := by
      intro m1 m2 p o g hg h
      rcases bd_fl h with e | ⟨p1, c1, _, e2⟩
      · exact ih e
      · rcases bd_fl e2 with e | ⟨p2, c2, _, e3⟩
        · exact ih e
        · obtain ⟨z, hz⟩ := hg c1 p2 c2
          rw [hz] at e3
          cases e3
    match mode, h with
    | 0, h =>
      rw [rd] at h
      split at h
      · split at h
        · cases h; decide
        · cases h
      · split at h
        · split at h
          · cases h; decide
          · rcases bd_fl h with e | ⟨p1, c1, _, e2⟩
            · exact ih e
            · split at e2
              · cases e2
              · cases e2; decide
        · split at h
          · split at h
            · split at h
              · cases h; decide
              · rcases bd_fl h with e | ⟨p1, c1, _, e2⟩
                · exact ih e
                · split at e2
                  · rcases bd_fl e2 with e | ⟨p2, c2, _, e3⟩
                    · exact ih e
                    · split at e3
                      · cases e3
                      · cases e3; decide
                  · cases e2; decide
            · cases h; decide
          · split at h
            · split at h
              · cases h; decide
              · rcases bd_fl h with e | ⟨p1, c1, _, e2⟩
                · exact ih e
                · cases e2
            · split at h
              · cases h
              · cases h; decide
    | 1, h =>
      rw [rd] at h
      split at h
      · exact two (fun _ _ _ => ⟨_, rfl⟩) h
      · cases h
    | 2, h =>
      rw [rd] at h
      split at h
      · exact two (fun _ _ _ => ⟨_, rfl⟩) h
      · cases h
    | 3, h => exact two (fun _ _ _ => ⟨_, rfl⟩) h
    | 4, h => exact two (fun _ _ _ => ⟨_, rfl⟩) h
    | 5, h =>
      rw [rd] at h
      split at h
      · split at h
        · cases h; decide
        · rcases bd_fl h with e | ⟨p1, c1, _, e2⟩
          · exact ih e
          · cases e2
      · split at h
        · split at h
          · cases h; decide
          · rcases bd_fl h with e | ⟨p1, c1, _, e2⟩
            · exact ih e
            · split at e2
              · cases e2
              · cases e2; decide
        · split at h
          · cases h
          · rcases bd_fl h with e | ⟨p1, c1, _, e2⟩
            · exact ih e
            · split at e2
              · rcases bd_fl e2 with e | ⟨p2, c2, _, e3⟩
                · exact ih e
                · cases e3
              · cases e2; decide
    | 6, h =>
      rw [rd] at h
      split at h
      · exact two (fun _ _ _ => ⟨_, rfl⟩) h
      · cases h
    | 7, h => exact two (fun _ _ _ => ⟨_, rfl⟩) h
    | 8, h =>
      rw [rd] at h
      split at h
      · exact two (fun _ _ _ => ⟨_, rfl⟩) h
      · cases h
    | j + 9, h => exact two (fun _ _ _ => ⟨_, rfl⟩) h
end
/-! the model reads tests: facts -/
section
variable {d : Nat} {f f0 g : am_F} {B : Int → Int} {N κ p o b : Int} {Q : am_V → am_F → Prop} {W C S V : List Int}
def k98 (d : Nat) (x : am_V) (Q : am_V → am_F → Prop) : am_V → am_F → Prop := fun v g1 => aw_wp (d + 9) 182 98 [(110, 270), (0, 1), x] (if v.1 = 3 then [] else [v]) g1 Q
def k87 (d : Nat) (x : am_V) (Q : am_V → am_F → Prop) : am_V → am_F → Prop := fun v g1 => aw_wp (d + 9) 182 87 [(110, 270), (0, 1), x] (if v.1 = 3 then [] else [v]) g1 Q
def tT (d : Nat) (f0 : am_F) (B : Int → Int) (N κ : Int) (Q : am_V → am_F → Prop) (p o : Int) (W C : List Int) : Prop := ∀ (g : am_F) (x : am_V), gP f0 g → MS g B N κ p o 0 W C → wbl W → aw_wp (d + 9) 182 2 [(110, 270), (0, 1), x] [] g Q
def tH (d : Nat) (f0 : am_F) (B : Int → Int) (N κ : Int) (Q : am_V → am_F → Prop) (p o : Int) (W C : List Int) : Prop := ∀ (g : am_F) (x : am_V), gP f0 g → MS g B N κ p o 0 W C → wbl W → aw_wp (d + 8) 202 0 [(110, 270)] [] g (k98 d x Q)
def tF (f0 : am_F) (Q : am_V → am_F → Prop) (k q : Int) : Prop := ∀ g, gPw f0 g → g 270 5 = k → g 270 6 = q → (0 ≤ g 270 92 ∧ g 270 92 ≤ 1650) → Q (3, 0) g
def tX (f0 : am_F) (B : Int → Int) (N κ : Int) (Q : am_V → am_F → Prop) (p o : Int) (C : List Int) : Prop := ∀ g, gP f0 g → MS g B N κ p o 0 [] C → Q (3, 0) g
theorem t_bad {x : am_V} {m : Int} (hb : ¬ g 270 5 = 0) (hq : Q (3, 0) g) : aw_wp (d + 9) 182 2 [(110, 270), (0, m), x] [] g Q := by
  obtain ⟨t, v⟩ := x
  have h110 : aw_wp (d + 9) 182 110 [(110, 270), (0, m), (t, v)] [] g Q := by
    rw [r182_110]
    simpa [r182_111, r182_114, r182_117, r182_118, r182_121, r182_124, r182_125, r182_128, r182_131, cs_nil, cs_cons, lc_lt, lc_ge, lc_gt, lc_le, lc_eq, hb] using hq
  rw [r182_2]
  by_cases hm : m = 0
  · rw [hm] at h110 ⊢
    simpa [r182_3, r182_6, r182_7, r182_10, cs_nil, cs_cons, lc_lt, lc_ge, lc_gt, lc_le, lc_eq, hb] using h110
  · simpa [r182_3, r182_6, r182_7, r182_10, cs_nil, cs_cons, lc_lt, lc_ge, lc_gt, lc_le, lc_eq, hb, hm] using h110
theorem t_on {x : am_V} (hq : aw_wp (d + 9) 182 2 [(110, 270), (0, 1), x] [] g Q) : k98 d x Q (0, 1) g := by
  obtain ⟨t, v⟩ := x
  simpa [k98, r182_98, r182_101, r182_102, r182_105, r182_106, r182_107, cs_nil, cs_cons, lc_lt, lc_ge, lc_gt, lc_le, lc_eq] using hq
theorem t_off {x : am_V} (hq : aw_wp (d + 9) 182 2 [(110, 270), (0, 0), x] [] g Q) : k98 d x Q (0, 0) g := by
  obtain ⟨t, v⟩ := x
  simpa [k98, r182_98, r182_101, r182_102, r182_105, r182_106, r182_107, cs_nil, cs_cons, lc_lt, lc_ge, lc_gt, lc_le, lc_eq] using hq
theorem t_fact {x : am_V} (hb : g 270 5 = 0) (hq : aw_cl (d + 8) 202 [(110, 270)] g (k98 d x Q)) : k87 d x Q (3, 0) g := by
  obtain ⟨t, v⟩ := x
  unfold k98 at hq
  simpa [k87, r182_87, r182_88, r182_91, r182_94, r182_95, cs_nil, cs_cons, lc_lt, lc_ge, lc_gt, lc_le, lc_eq, hb] using hq
theorem t_factF {x : am_V} (hb : ¬ g 270 5 = 0) (hq : Q (3, 0) g) : k87 d x Q (3, 0) g := by
  obtain ⟨t, v⟩ := x
  have := t_bad (d := d) (m := 0) (x := (t, v)) hb hq
  simpa [k87, r182_87, r182_88, r182_91, r182_94, r182_95, r182_98, r182_101, r182_102, r182_105, r182_106, r182_107, cs_nil, cs_cons, lc_lt, lc_ge, lc_gt, lc_le, lc_eq, hb] using this
theorem tt_head (hN : N ≤ 1600) (hM : MS f B N κ p o b W C) {x : am_V} (hn : aw_wp (d + 9) 182 18 [(110, 270), (0, 1), (0, lk B N p)] [] (am_up f 270 2 (tS B N p)) Q) : aw_wp (d + 9) 182 2 [(110, 270), (0, 1), x] [] f Q := by
  obtain ⟨t, v⟩ := x
  have hb := hM.2.2.1.1
  have lo := fun (dd : Nat) (QQ : am_V → am_F → Prop) => m_look (d := dd) (Q := QQ) hM.1 hN hM.2.2.2.2.1.1 hM.2.2.2.2.1.2.1 hM.2.1.1
  rw [r182_2]
  simpa [r182_3, r182_6, r182_7, r182_10, r182_13, r182_14, r182_17, cs_nil, cs_cons, lc_lt, lc_ge, lc_gt, lc_le, lc_eq, hb, lo] using hn
/-- nots that wait go into the codes -/
theorem m_notsB (hb : ¬ f 270 5 = 0) : aw_cl (d + 2) 201 [(110, 270)] f Q = Q (3, 0) f := by
  apply aw_det
  have : aw_wp (d + 2) 201 0 [(110, 270)] [] f (fun v f1 => v = (3, 0) ∧ f1 = f) := by
    rw [r201_0]
    simp [r201_1, r201_4, r201_7, r201_8, r201_10, r201_13, r201_16, r201_17, r201_18, r201_21, r201_22, r201_23, r201_26, r201_27, r201_30, r201_33, cs_nil, cs_cons, lc_lt, lc_ge, lc_gt, lc_le, lc_eq, hb]
  simpa [q201] using this
theorem m_nots {H : Int → Int → List Int → List Int → Prop} (hN : N ≤ 1600) : ∀ (W C : List Int) (o : Int) (f : am_F), pend 12 H p W o C → MS f B N κ p o b W C → wbl W → (∀ g o' W' C', H p o' W' C' → MS g B N κ p o' b W' C' → wbl W' → gP f g → Q (3, 0) g) → aw_wp (d + 2) 201 0 [(110, 270)] [] f Q
  | [], C, o, f, hp, hM, hw, hq => by
    have := hq f o [] C hp hM hw gP_rf
    have on := fun (dd : Nat) (QQ : am_V → am_F → Prop) => m_isOn (d := dd) (Q := QQ) (x := 12) hM.2.2.2.1 (by omega)
    have hb := hM.2.2.1.1
    rw [List.headD_nil] at on
    rw [r201_0]
    simpa [r201_1, r201_4, r201_7, r201_8, r201_10, r201_13, r201_16, r201_17, r201_18, r201_21, r201_22, r201_23, r201_26, r201_27, r201_30, r201_33, cs_nil, cs_cons, lc_lt, lc_ge, lc_gt, lc_le, lc_eq, hb, on] using this
  | x :: W, C, o, f, hp, hM, hw, hq => by
    obtain ⟨hX, hP, ⟨h5, h50, h95, h96⟩, hR, hpp, ho, hW⟩ := id hM
    have on := fun (dd : Nat) (QQ : am_V → am_F → Prop) => m_isOn (d := dd) (Q := QQ) (x := 12) hR (by omega)
    rw [List.headD_cons] at on
    unfold pend at hp
    by_cases hx : x = 12
    · rw [if_pos hx] at hp
      subst hx
      have hp3 : (W.length : Int) + 1 + C.length ≤ p := by have := hpp.2.2; simp at this; omega
      have hR1 : RW (am_up f 270 95 (o - 1)) (12 :: W) C := RW_fr hR (fun c j hc => am_un (by omega))
      have md := fun (dd : Nat) (QQ : am_V → am_F → Prop) => m_drops (d := dd) (Q := QQ) hR1
      have gp : gP f (aD (am_up f 270 95 (o - 1)) 12 C.length W.length) := gP_tr (gP_up gP_rf (by omega)) (gD_gP gD_aD)
      have fa : ∀ c j : Int, ¬ ((c = 270 ∧ (j = 92 ∨ j = 94 ∨ j = 95)) ∨ c = 340) → aD (am_up f 270 95 (o - 1)) 12 C.length W.length c j = f c j := fun c j hc => by rw [gD_aD c j (by omega), am_un (by omega)]
      have hM2 : MS (aD (am_up f 270 95 (o - 1)) 12 C.length W.length) B N κ p (o - 1) b W (C ++ [12]) := by
        refine MS_mk hM gp ?_ ?_ ?_ ?_ (RW_D hR1) ⟨hpp.1, hpp.2.1, by rw [List.length_append (as := C)]; simp only [List.length_cons, List.length_nil]; omega⟩ ⟨by rw [List.length_append (as := C)]; simp only [List.length_cons, List.length_nil]; omega, by omega⟩ (fun y hy => hW y (List.mem_cons_of_mem _ hy))
        · obtain ⟨p1, p2, p3⟩ := hP
          exact ⟨by rw [fa _ _ (by omega)]; exact p1, by rw [fa _ _ (by omega)]; exact p2, by rw [fa _ _ (by omega)]; exact p3⟩
        · rw [fa _ _ (by omega)]; exact h5
        · rw [gD_aD _ _ (by omega), am_ue]
        · rw [fa _ _ (by omega)]; exact h96
      have ih := m_nots hN W (C ++ [12]) (o - 1) _ hp hM2 (fun y hy => hw y (List.mem_cons_of_mem _ hy)) (fun g o' W' C' a b c e => hq g o' W' C' a b c (gP_tr gp e))
      have eo : am_wI (o - 1) = o - 1 := am_wid2 (by omega) (by omega)
      rw [r201_0]
      simpa [r201_1, r201_4, r201_7, r201_8, r201_10, r201_13, r201_16, r201_17, r201_18, r201_21, r201_22, r201_23, r201_26, r201_27, r201_30, r201_33, cs_nil, cs_cons, lc_lt, lc_ge, lc_gt, lc_le, lc_eq, h5, on, h95, eo, md] using ih
    · rw [if_neg hx] at hp
      have := hq f o (x :: W) C hp hM hw gP_rf
      rw [r201_0]
      simpa [r201_1, r201_4, r201_7, r201_8, r201_10, r201_13, r201_16, r201_17, r201_18, r201_21, r201_22, r201_23, r201_26, r201_27, r201_30, r201_33, cs_nil, cs_cons, lc_lt, lc_ge, lc_gt, lc_le, lc_eq, h5, on, hx] using this
theorem t_sq (hN : N ≤ 1600) (hg : isg B N p 91 = true) (ho : o < 6) (hn : tT d f0 B N κ Q (tE B N p) (o + 1) (25 :: W) C) : tT d f0 B N κ Q p o W C := by
  intro g x h0 hM hw
  refine tt_head hN hM ?_
  obtain ⟨hM1, hA⟩ := MS_at hM
  obtain ⟨hX, hP, ⟨h5, h50, h95, h96⟩, hR, hp, hoo, hW⟩ := id hM1
  have e91 : lk B N p = 91 := (lk_s (by decide) (by omega)).mpr hg
  have ie := isg_E hg
  have gb := isg_b hp.2.1 hg
  have mo := fun (dd : Nat) (QQ : am_V → am_F → Prop) (q : Int) => m_opensY (d := dd) (Q := QQ) (x := 25) (q := q) hR h5 h95 (by omega) (by omega)
  have gp : gP (am_up g 270 2 (tS B N p)) (am_up (aO (am_up g 270 2 (tS B N p)) o W.length 25) 270 2 (tE B N p)) := fun c j hc => by rw [am_un (by omega), aO_n (by omega)]
  have hA2 : aO (am_up g 270 2 (tS B N p)) o W.length 25 270 2 = tS B N p := by rw [aO_n (by omega)]; exact hA
  have ew : am_wI (tS B N p + 1) = tE B N p := by rw [am_wid2 (by omega) (by omega)]; omega
  have := hn (am_up (aO (am_up g 270 2 (tS B N p)) o W.length 25) 270 2 (tE B N p)) (0, 91) (gP_tr h0 (gP_tr (gP_up gP_rf (by omega)) gp)) (MS_open hM1 ho (by omega) gp (PP_sign hP hg hp.1 hp.2.1 am_ue (by rw [am_un (by omega), aO_n (by omega)])) gb.1 gb.2 (fun c j hc => am_un (by omega)) hN) (fun y hy => by
    rcases List.mem_cons.mp hy with e | e
    · omega
    · exact hw y e)
  rw [e91]
  simpa [r182_18, r182_19, r182_21, r182_24, r182_25, r182_27, r182_28, r182_31, r182_34, r182_35, r182_36, r182_39, r182_40, r182_41, r182_44, cs_nil, cs_cons, lc_lt, lc_ge, lc_gt, lc_le, lc_eq, mo, hA, hA2, ew] using this
theorem t_sqF (hN : N ≤ 1600) (hg : isg B N p 91 = true) (ho : 6 ≤ o) (hf : tF f0 Q 4 (tS B N p)) : tT d f0 B N κ Q p o W C := by
  intro g x h0 hM hw
  refine tt_head hN hM ?_
  obtain ⟨hM1, hA⟩ := MS_at hM
  obtain ⟨hX, hP, ⟨h5, h50, h95, h96⟩, hR, hp, hoo, hW⟩ := id hM1
  have e91 : lk B N p = 91 := (lk_s (by decide) (by omega)).mpr hg
  have o6 : o = 6 := by omega
  rw [o6] at h95
  have mo := fun (dd : Nat) (QQ : am_V → am_F → Prop) (q : Int) => m_opensN (d := dd) (Q := QQ) (x := 25) (q := q) h5 h95
  have b2 := hR.2.1.2
  have hs := tS_b (B := B) hp.2.1
  have hA2 : (am_up (am_up (am_up g 270 2 (tS B N p)) 270 5 4) 270 6 (tS B N p)) 270 2 = tS B N p := by rw [am_un (by omega), am_un (by omega)]; exact hA
  have bd : ¬ (am_up (am_up (am_up (am_up g 270 2 (tS B N p)) 270 5 4) 270 6 (tS B N p)) 270 2 (tS B N p + 1)) 270 5 = 0 := by rw [am_un (by omega), am_un (by omega), am_ue]; decide
  have fin := t_bad (d := d) (m := 1) (x := (0, 91)) bd (hf _ (gPw_tr h0 (gPw_up (gPw_up (gPw_up (gPw_up gPw_rf (by omega)) (by omega)) (by omega)) (by omega))) (by rw [am_un (by omega), am_un (by omega), am_ue]) (by rw [am_un (by omega), am_ue]) (by rw [am_un (by omega), am_un (by omega), am_un (by omega), b2]; omega))
  have ew : am_wI (tS B N p + 1) = tS B N p + 1 := by rw [am_wid2 (by omega) (by omega)]
  rw [e91]
  simpa [r182_18, r182_19, r182_21, r182_24, r182_25, r182_27, r182_28, r182_31, r182_34, r182_35, r182_36, r182_39, r182_40, r182_41, r182_44, cs_nil, cs_cons, lc_lt, lc_ge, lc_gt, lc_le, lc_eq, mo, hA, hA2, ew] using fin
theorem t_not (hN : N ≤ 1600) (hw : tW B N p = 24) (ho : o < 6) (hn : tT d f0 B N κ Q (tE B N p) (o + 1) (12 :: W) C) : tT d f0 B N κ Q p o W C := by
  intro g x h0 hM hwb
  refine tt_head hN hM ?_
  obtain ⟨hM1, hA⟩ := MS_at hM
  obtain ⟨hX, hP, ⟨h5, h50, h95, h96⟩, hR, hp, hoo, hW⟩ := id hM1
  have k1 := tW_k (B := B) (N := N) (p := p) (by omega)
  have h1 : ¬ isg B N p 91 = true := fun q => by have := (isg_k q).1; omega
  have e91 : ¬ lk B N p = 91 := fun q => h1 ((lk_s (by decide) (by omega)).mp q)
  have x1 := hM1.1.1.1
  have x2' := hM1.1.1.2
  have w1 := fun (dd : Nat) (QQ : am_V → am_F → Prop) => m_hereA (d := dd) (Q := QQ) hX hN hp.1 hp.2.1 hP h5 hA (hw_of x2' (q := (323, 24)) (by decide))
  simp only at w1
  have gb := tW_b hp.2.1 (show ¬ tW B N p = -1 by omega)
  have mo := fun (dd : Nat) (QQ : am_V → am_F → Prop) (q : Int) => m_opensY (d := dd) (Q := QQ) (x := 12) (q := q) hR h5 h95 (by omega) (by omega)
  have gp1 : gP (am_up g 270 2 (tS B N p)) (aO (am_up g 270 2 (tS B N p)) o W.length 12) := fun c j hc => aO_n (by omega)
  have hP1 : PP (aO (am_up g 270 2 (tS B N p)) o W.length 12) B N p := by
    obtain ⟨p1, p2, p3⟩ := hP
    exact ⟨by rw [aO_n (by omega)]; exact p1, by rw [aO_n (by omega)]; exact p2, by rw [aO_n (by omega)]; exact p3⟩
  have hX1 := MX_gP hX gp1
  have as := fun (dd : Nat) (QQ : am_V → am_F → Prop) => m_asksY (d := dd) (Q := QQ) hX1 hN hp.1 hp.2.1 hP1 (by rw [aO_n (by omega)]; exact h5) (hw_of hX1.1.2 (q := (323, 24)) (by decide)) hw
  simp only at as
  have fx2 := fx_270_74 hX1.1.1
  have gp : gP (am_up g 270 2 (tS B N p)) (am_up (am_up (aO (am_up g 270 2 (tS B N p)) o W.length 12) 270 2 (tE B N p)) 270 4 (tE B N p)) := gP_up (gP_up gp1 (by omega)) (by omega)
  have := hn (am_up (am_up (aO (am_up g 270 2 (tS B N p)) o W.length 12) 270 2 (tE B N p)) 270 4 (tE B N p)) (0, lk B N p) (gP_tr h0 (gP_tr (gP_up gP_rf (by omega)) gp)) (MS_open hM1 ho (by omega) gp (PP_word (Or.inl rfl) k1 hp.1 hp.2.1 (by rw [am_un (by omega), am_ue]) am_ue) gb.1 gb.2 (fun c j hc => (am_un (by omega)).trans (am_un (by omega))) hN) (fun y hy => by
    rcases List.mem_cons.mp hy with e | e
    · omega
    · exact hwb y e)
  simpa [r182_18, r182_19, r182_21, cs_nil, cs_cons, lc_lt, lc_ge, lc_gt, lc_le, lc_eq, r182_47, r182_48, r182_49, r182_52, r182_55, r182_58, r182_59, r182_61, r182_62, r182_65, r182_68, r182_69, r182_70, r182_73, r182_76, e91, fx_270_74 x1, w1, hw, mo, hA, fx2, as] using this
theorem t_notF (hN : N ≤ 1600) (hw : tW B N p = 24) (ho : 6 ≤ o) (hf : tF f0 Q 4 (tS B N p)) : tT d f0 B N κ Q p o W C := by
  intro g x h0 hM hwb
  refine tt_head hN hM ?_
  obtain ⟨hM1, hA⟩ := MS_at hM
  obtain ⟨hX, hP, ⟨h5, h50, h95, h96⟩, hR, hp, hoo, hW⟩ := id hM1
  have k1 := tW_k (B := B) (N := N) (p := p) (by omega)
  have h1 : ¬ isg B N p 91 = true := fun q => by have := (isg_k q).1; omega
  have e91 : ¬ lk B N p = 91 := fun q => h1 ((lk_s (by decide) (by omega)).mp q)
  have x1 := hM1.1.1.1
  have x2' := hM1.1.1.2
  have w1 := fun (dd : Nat) (QQ : am_V → am_F → Prop) => m_hereA (d := dd) (Q := QQ) hX hN hp.1 hp.2.1 hP h5 hA (hw_of x2' (q := (323, 24)) (by decide))
  simp only at w1
  have o6 : o = 6 := by omega
  rw [o6] at h95
  have mo := fun (dd : Nat) (QQ : am_V → am_F → Prop) (q : Int) => m_opensN (d := dd) (Q := QQ) (x := 12) (q := q) h5 h95
  have b2 := hR.2.1.2
  have bd : ¬ (am_up (am_up (am_up g 270 2 (tS B N p)) 270 5 4) 270 6 (tS B N p)) 270 5 = 0 := by rw [am_un (by omega), am_ue]; decide
  have gp1 : gPw (am_up g 270 2 (tS B N p)) (am_up (am_up (am_up g 270 2 (tS B N p)) 270 5 4) 270 6 (tS B N p)) := gPw_up (gPw_up gPw_rf (by omega)) (by omega)
  have as := fun (dd : Nat) (QQ : am_V → am_F → Prop) => m_asksB (d := dd) (Q := QQ) (wa := 323) bd
  have fx2 := fx_270_74 (MX_gPw hX gp1).1.1
  have fin := t_bad (d := d) (m := 1) (x := (0, lk B N p)) bd (hf _ (gPw_tr h0 (gPw_tr (gP_up gP_rf (by omega)) gp1)) (by rw [am_un (by omega), am_ue]) am_ue (by rw [am_un (by omega), am_un (by omega), b2]; omega))
  simpa [r182_18, r182_19, r182_21, cs_nil, cs_cons, lc_lt, lc_ge, lc_gt, lc_le, lc_eq, r182_47, r182_48, r182_49, r182_52, r182_55, r182_58, r182_59, r182_61, r182_62, r182_65, r182_68, r182_69, r182_70, r182_73, r182_76, e91, fx_270_74 x1, w1, hw, mo, hA, fx2, as] using fin
/-- a fact of sums or all: not a bracket, not a not -/
theorem t_go (hN : N ≤ 1600) (hM : MS g B N κ p o 0 W C) {x : am_V} (h1 : ¬ tW B N p = 24) (h2 : ¬ isg B N p 91 = true) (hn : aw_cl (d + 8) 184 [(110, 270)] (am_up g 270 2 (tS B N p)) (fun v f' => aw_wp (d + 9) 182 83 [(110, 270), (0, 1), (0, lk B N p)] (if v.fst = 3 then [] else [v]) f' Q)) : aw_wp (d + 9) 182 2 [(110, 270), (0, 1), x] [] g Q := by
  refine tt_head hN hM ?_
  obtain ⟨hM1, hA⟩ := MS_at hM
  obtain ⟨hX, hP, ⟨h5, h50, h95, h96⟩, hR, hp, hoo, hW⟩ := id hM1
  have e91 : ¬ lk B N p = 91 := fun q => h2 ((lk_s (by decide) (by omega)).mp q)
  have x1 := hM1.1.1.1
  have x2' := hM1.1.1.2
  have w1 := fun (dd : Nat) (QQ : am_V → am_F → Prop) => m_hereA (d := dd) (Q := QQ) hX hN hp.1 hp.2.1 hP h5 hA (hw_of x2' (q := (323, 24)) (by decide))
  simp only at w1
  simpa [r182_18, r182_19, r182_21, cs_nil, cs_cons, lc_lt, lc_ge, lc_gt, lc_le, lc_eq, r182_47, r182_48, r182_49, r182_52, r182_55, r182_79, r182_80, e91, fx_270_74 x1, w1, h1] using hn
/-- behind a fact that was read -/
theorem t_ends (hN : N ≤ 1600) {x : am_V} {h : am_F} (h0 : gP f0 h) (hM : MS h B N κ p o 0 W C) (hw : wbl W) (hn : pend 12 (tH d f0 B N κ Q) p W o C) : aw_wp (d + 9) 182 83 [(110, 270), (0, 1), x] [] h Q := by
  obtain ⟨t, v⟩ := x
  have := m_nots (d := d + 6) (Q := k87 d (t, v) Q) hN W C o h hn hM hw (fun g2 o' W' C' hH hM3 hw3 gp3 => by
    refine t_fact hM3.2.2.1.1 ?_
    have := hH g2 (t, v) (gP_tr h0 gp3) hM3 hw3
    simpa [q202] using this)
  unfold k87 at this
  simpa [r182_83, r182_84, cs_nil, cs_cons, lc_lt, lc_ge, lc_gt, lc_le, lc_eq, q201] using this
theorem t_endsF (hN : N ≤ 1600) {x : am_V} {h : am_F} (hb : ¬ h 270 5 = 0) (hq : Q (3, 0) h) : aw_wp (d + 9) 182 83 [(110, 270), (0, 1), x] [] h Q := by
  obtain ⟨t, v⟩ := x
  have mb := fun (dd : Nat) (QQ : am_V → am_F → Prop) => m_notsB (d := dd) (Q := QQ) hb
  have := t_factF (d := d) (x := (t, v)) hb hq
  unfold k87 at this
  simpa [r182_83, r182_84, cs_nil, cs_cons, lc_lt, lc_ge, lc_gt, lc_le, lc_eq, mb] using this
theorem t_all (hN : N ≤ 1600) (ha : tW B N p = 25) (hn : pend 12 (tH d f0 B N κ Q) (tE B N p) W o (C ++ [13])) : tT d f0 B N κ Q p o W C := by
  intro g x h0 hM hw
  have k1 := tW_k (B := B) (N := N) (p := p) (by omega)
  refine t_go hN hM (by omega) (fun q => by have := (isg_k q).1; omega) ?_
  obtain ⟨hM1, hA⟩ := MS_at hM
  obtain ⟨hX, hP, ⟨h5, h50, h95, h96⟩, hR, hp, hoo, hW⟩ := id hM1
  have gb := tW_b hp.2.1 (show ¬ tW B N p = -1 by omega)
  have x1 := hM1.1.1.1
  have ea := fun (dd : Nat) (QQ : am_V → am_F → Prop) => m_eatsY (d := dd) (Q := QQ) hX hN hp.1 hp.2.1 hP h5 (hw_of hX.1.2 (q := (326, 25)) (by decide)) ha
  simp only [am_uu] at ea
  have r1 := hM.2.2.2.1.1.1
  have r2 := hM.2.2.2.1.2.1.2
  have mc := fun (dd : Nat) (QQ : am_V → am_F → Prop) (v : Int) => m_code (d := dd) (f := am_up (am_up g 270 2 (tE B N p)) 270 4 (tE B N p)) (n := C.length) (Q := QQ) (v := v) (by rw [am_un (by omega), am_un (by omega)]; exact r1) (by rw [am_un (by omega), am_un (by omega)]; exact r2) (by omega) (by omega)
  have hO : ∀ c j : Int, ¬ (c = 270 ∧ (j = 2 ∨ j = 4)) → am_up (am_up (am_up (am_up g 270 2 (tE B N p)) 270 4 (tE B N p)) 340 C.length 13) 270 92 (C.length + 1) c j = am_up (am_up g 340 C.length 13) 270 92 (C.length + 1) c j := fun c j hc => by
    by_cases q1 : c = 270 ∧ j = 92
    · rw [q1.1, q1.2, am_ue, am_ue]
    · rw [am_un q1, am_un q1]
      by_cases q2 : c = 340 ∧ j = C.length
      · rw [q2.1, q2.2, am_ue, am_ue]
      · rw [am_un q2, am_un q2, am_un (by omega), am_un (by omega)]
  have gp : gP g (am_up (am_up (am_up (am_up g 270 2 (tE B N p)) 270 4 (tE B N p)) 340 C.length 13) 270 92 (C.length + 1)) := fun c j hc => by rw [hO c j (by omega), am_un (by omega), am_un (by omega)]
  have hM2 := MS_code hM gp (PP_word (Or.inl rfl) k1 hp.1 hp.2.1 (by rw [am_un (by omega), am_un (by omega), am_un (by omega), am_ue]) (by rw [am_un (by omega), am_un (by omega), am_ue])) gb.1 gb.2 hO hN
  have := t_ends hN (x := (0, lk B N p)) (gP_tr h0 gp) hM2 hw hn
  simpa [q184, r184_0, r184_1, r184_2, r184_5, r184_8, r184_11, r184_12, r184_14, r184_17, cs_nil, cs_cons, lc_lt, lc_ge, lc_gt, lc_le, lc_eq, fx_270_77 x1, ea, mc] using this
theorem t_cmp (hN : N ≤ 1600) (κ0 : 0 ≤ κ ∧ κ ≤ 3) {k : Nat} {r : RR} (h1 : ¬ tW B N p = 24) (h2 : ¬ isg B N p 91 = true) (h3 : ¬ tW B N p = 25) (hr : rc B N κ k p o = some r) (hn : PR (tF f0 Q) r (fun p' cs => pend 12 (tH d f0 B N κ Q) p' W o (C ++ cs))) : tT d f0 B N κ Q p o W C := by
  intro g x h0 hM hw
  refine t_go hN hM h1 h2 ?_
  obtain ⟨hM1, hA⟩ := MS_at hM
  obtain ⟨hX, hP, ⟨h5, h50, h95, h96⟩, hR, hp, hoo, hW⟩ := id hM1
  have x1 := hM1.1.1.1
  have ea := fun (dd : Nat) (QQ : am_V → am_F → Prop) => m_eatsN (d := dd) (Q := QQ) hX hN hp.1 hp.2.1 hP h5 (hw_of hX.1.2 (q := (326, 25)) (by decide)) h3
  simp only [am_uu] at ea
  have gp1 : gP f0 (am_up g 270 2 (tS B N p)) := gP_tr h0 (gP_up gP_rf (by omega))
  simp only [q184, r184_0, r184_1, r184_2, r184_5, r184_8, fx_270_77 x1, ea]
  simp [r184_0, r184_1, r184_2, r184_5, r184_8, r184_11, r184_12, r184_14, r184_17, r184_18, r184_19, cs_nil, cs_cons, lc_lt, lc_ge, lc_gt, lc_le, lc_eq, fx_270_77 x1, ea]
  unfold rc at hr
  refine bd_PR hr hn _ (fun r1 e1 q1 => ?_)
  refine m_sums hN κ0 hw e1 hM1 ?_
  match r1, q1 with
  | .inl (k1, w1), q1 =>
    intro g1 a1 a2 a3 a4
    have k0 : ¬ k1 = 0 := rd_fk e1
    have bd : ¬ (am_up g1 270 96 0) 270 5 = 0 := by rw [am_un (by omega), a2]; exact k0
    have := t_endsF hN (d := d) (x := (0, lk B N p)) bd (q1 _ (gPw_tr gp1 (gPw_up a1 (by omega))) (by rw [am_un (by omega)]; exact a2) (by rw [am_un (by omega)]; exact a3) (by rw [am_un (by omega)]; omega))
    simpa [r184_22, r184_23, r184_26, r184_29, cs_nil, cs_cons, lc_lt, lc_ge, lc_gt, lc_le, lc_eq, bd] using this
  | .inr (p1, c1), q1 =>
    intro g1 a1 hm1
    have q1 : (if isg B N p1 60 = true ∨ isg B N p1 62 = true ∨ isg B N p1 61 = true then bd (rd B N κ k 4 (tE B N p1) o) (fun p2 c2 => okR p2 (c1 ++ (c2 ++ [if tV B N p1 = 60 then 7 else if tV B N p1 = 62 then 8 else 9]))) else ft 1 (tS B N p1)) = some r := q1
    obtain ⟨hM2, hA2⟩ := MS_at hm1
    have b5 := hm1.2.2.1.1
    have lo := fun (dd : Nat) (QQ : am_V → am_F → Prop) => m_look (d := dd) (Q := QQ) hm1.1 hN hm1.2.2.2.2.1.1 hm1.2.2.2.2.1.2.1 hm1.2.1.1
    have hs1 := tS_b (B := B) hm1.2.2.2.2.1.2.1
    have p10 := hm1.2.2.2.2.1.1
    by_cases hg : isg B N p1 60 = true ∨ isg B N p1 62 = true ∨ isg B N p1 61 = true
    · rw [if_pos hg] at q1
      have on : ∀ v op : Int, isg B N p1 v = true → (v = 60 ∧ op = 7) ∨ (v = 62 ∧ op = 8) ∨ (v = 61 ∧ op = 9) → bd (rd B N κ k 4 (tE B N p1) o) (fun p2 c2 => okR p2 (c1 ++ (c2 ++ [op]))) = some r → aw_wp (d + 8) 184 22 [(110, 270), (2, 0)] [] g1 (fun v f' => aw_wp (d + 9) 182 83 [(110, 270), (0, 1), (0, lk B N p)] (if v.fst = 3 then [] else [v]) f' Q) := by
        intro v op hv hop q1
        have gb := isg_b hm1.2.2.2.2.1.2.1 hv
        have ie := isg_E hv
        have ev : lk B N p1 = v := by unfold lk; rw [if_neg (by omega)]; exact ie.2.2.1
        have ew : am_wI (tS B N p1 + 1) = tE B N p1 := by rw [am_wid2 (by omega) (by omega)]; omega
        have gp2 : gP g1 (am_up g1 270 2 (tE B N p1)) := gP_up gP_rf (by omega)
        have hM3 : MS (am_up g1 270 2 (tE B N p1)) B N κ (tE B N p1) o 0 W (C ++ c1) := by
          obtain ⟨_, hP1, ⟨i5, i50, i95, i96⟩, hR1, hp1, hoo1, hW1⟩ := id hm1
          refine MS_mk hm1 gp2 (PP_sign hP1 hv hp1.1 hp1.2.1 am_ue (am_un (by omega))) ?_ ?_ ?_ (RW_fr hR1 (fun c j hc => am_un (by omega))) ⟨by omega, gb.2, by omega⟩ ⟨by omega, hoo1.2⟩ hW1
          · rw [am_un (by omega)]; exact i5
          · rw [am_un (by omega)]; exact i95
          · rw [am_un (by omega)]; exact i96
        have two : aw_wp (d + 8) 184 73 [(110, 270), (0, v)] [] (am_up g1 270 2 (tE B N p1)) (fun v f' => aw_wp (d + 9) 182 83 [(110, 270), (0, 1), (0, lk B N p)] (if v.fst = 3 then [] else [v]) f' Q) := by
          simp [r184_73, r184_74, cs_nil, cs_cons, lc_lt, lc_ge, lc_gt, lc_le, lc_eq]
          refine bd_PR q1 hn _ (fun r2 e2 q2 => ?_)
          refine m_sums hN κ0 hw e2 hM3 ?_
          match r2, q2 with
          | .inl (k2, w2), q2 =>
            intro g2 c1' c2' c3' c4'
            have k0 : ¬ k2 = 0 := rd_fk e2
            have x91 : (am_up g2 270 96 0) 270 91 = 340 := by rw [am_un (by omega), c1' _ _ (by omega), am_un (by omega)]; exact hm1.2.2.2.1.1.1
            have mc := fun (dd : Nat) (QQ : am_V → am_F → Prop) (v : Int) => m_code (d := dd) (f := am_up g2 270 96 0) (n := g2 270 92) (Q := QQ) (v := v) x91 (by rw [am_un (by omega)]) c4'.1 (by omega)
            have bd : ¬ (am_up (am_up (am_up g2 270 96 0) 340 (g2 270 92) op) 270 92 (g2 270 92 + 1)) 270 5 = 0 := by rw [am_un (by omega), am_un (by omega), am_un (by omega), c2']; exact k0
            have := t_endsF hN (d := d) (x := (0, lk B N p)) bd (q2 _ (gPw_tr gp1 (gPw_tr a1 (gPw_tr gp2 (gPw_up (gPw_up (gPw_up c1' (by omega)) (by omega)) (by omega))))) (by rw [am_un (by omega), am_un (by omega), am_un (by omega)]; exact c2') (by rw [am_un (by omega), am_un (by omega), am_un (by omega)]; exact c3') (by rw [am_ue]; omega))
            rcases hop with ⟨e, e'⟩ | ⟨e, e'⟩ | ⟨e, e'⟩
            · rw [e'] at this
              simpa [r184_77, r184_78, r184_79, r184_81, r184_84, r184_86, r184_89, r184_90, r184_92, r184_95, r184_97, r184_100, r184_102, r184_105, cs_nil, cs_cons, lc_lt, lc_ge, lc_gt, lc_le, lc_eq, e, mc] using this
            · rw [e'] at this
              simpa [r184_77, r184_78, r184_79, r184_81, r184_84, r184_86, r184_89, r184_90, r184_92, r184_95, r184_97, r184_100, r184_102, r184_105, cs_nil, cs_cons, lc_lt, lc_ge, lc_gt, lc_le, lc_eq, e, mc] using this
            · rw [e'] at this
              simpa [r184_77, r184_78, r184_79, r184_81, r184_84, r184_86, r184_89, r184_90, r184_92, r184_95, r184_97, r184_100, r184_102, r184_105, cs_nil, cs_cons, lc_lt, lc_ge, lc_gt, lc_le, lc_eq, e, mc] using this
          | .inr (p2, c2), q2 =>
            intro g2 c1' hm2
            cases q2
            have ln := (rd_len k 4 _ _ _ _ e2 gb.2).1
            obtain ⟨_, hP2, ⟨i5, i50, i95, i96⟩, hR2, hp2, hoo2, hW2⟩ := id hm2
            have lp : (W.length : Int) + (C ++ c1 ++ c2).length + 1 ≤ p2 := by
              have := hm1.2.2.2.2.1.2.2
              rw [List.length_append (as := C ++ c1)]
              omega
            have mc := fun (dd : Nat) (QQ : am_V → am_F → Prop) (v : Int) => m_code (d := dd) (f := g2) (n := (C ++ c1 ++ c2).length) (Q := QQ) (v := v) hR2.1.1 hR2.2.1.2 (by omega) (by omega)
            have gp4 : gP g2 (am_up (am_up g2 340 (C ++ c1 ++ c2).length op) 270 92 ((C ++ c1 ++ c2).length + 1)) := gP_up (gP_up gP_rf (by omega)) (by omega)
            have hM5 : MS (am_up (am_up g2 340 (C ++ c1 ++ c2).length op) 270 92 ((C ++ c1 ++ c2).length + 1)) B N κ p2 o 0 W (C ++ c1 ++ c2 ++ [op]) := by
              refine MS_mk hm2 gp4 ?_ ?_ ?_ ?_ (RW_C hR2 (by omega)) ⟨hp2.1, hp2.2.1, by rw [List.length_append (as := C ++ c1 ++ c2)]; simp only [List.length_cons, List.length_nil]; omega⟩ ⟨by rw [List.length_append (as := C ++ c1 ++ c2)]; simp only [List.length_cons, List.length_nil]; omega, hoo2.2⟩ hW2
              · obtain ⟨p1, p2, p3⟩ := hP2
                exact ⟨by rw [am_un (by omega), am_un (by omega)]; exact p1, by rw [am_un (by omega), am_un (by omega)]; exact p2, by rw [am_un (by omega), am_un (by omega)]; exact p3⟩
              · rw [am_un (by omega), am_un (by omega)]; exact i5
              · rw [am_un (by omega), am_un (by omega)]; exact i95
              · rw [am_un (by omega), am_un (by omega)]; exact i96
            have := t_ends hN (d := d) (x := (0, lk B N p)) (gP_tr gp1 (gP_tr a1 (gP_tr gp2 (gP_tr c1' gp4)))) hM5 hw (by simp only [List.append_assoc]; exact hn)
            generalize ((C ++ c1 ++ c2).length : Int) = n at mc this
            rcases hop with ⟨e, e'⟩ | ⟨e, e'⟩ | ⟨e, e'⟩
            · rw [e'] at this
              simpa [r184_77, r184_78, r184_79, r184_81, r184_84, r184_86, r184_89, r184_90, r184_92, r184_95, r184_97, r184_100, r184_102, r184_105, cs_nil, cs_cons, lc_lt, lc_ge, lc_gt, lc_le, lc_eq, e, mc] using this
            · rw [e'] at this
              simpa [r184_77, r184_78, r184_79, r184_81, r184_84, r184_86, r184_89, r184_90, r184_92, r184_95, r184_97, r184_100, r184_102, r184_105, cs_nil, cs_cons, lc_lt, lc_ge, lc_gt, lc_le, lc_eq, e, mc] using this
            · rw [e'] at this
              simpa [r184_77, r184_78, r184_79, r184_81, r184_84, r184_86, r184_89, r184_90, r184_92, r184_95, r184_97, r184_100, r184_102, r184_105, cs_nil, cs_cons, lc_lt, lc_ge, lc_gt, lc_le, lc_eq, e, mc] using this
        rcases hop with ⟨e, _⟩ | ⟨e, _⟩ | ⟨e, _⟩
        · rw [e] at two ev
          simpa [r184_22, r184_23, r184_26, r184_29, r184_30, r184_31, r184_34, r184_35, r184_36, r184_38, r184_41, r184_42, r184_44, r184_47, r184_48, r184_50, r184_53, r184_54, r184_55, r184_56, r184_59, r184_62, r184_63, r184_64, r184_65, r184_68, r184_69, r184_70, cs_nil, cs_cons, lc_lt, lc_ge, lc_gt, lc_le, lc_eq, b5, lo, ev, ew, am_ue, am_uu] using two
        · rw [e] at two ev
          simpa [r184_22, r184_23, r184_26, r184_29, r184_30, r184_31, r184_34, r184_35, r184_36, r184_38, r184_41, r184_42, r184_44, r184_47, r184_48, r184_50, r184_53, r184_54, r184_55, r184_56, r184_59, r184_62, r184_63, r184_64, r184_65, r184_68, r184_69, r184_70, cs_nil, cs_cons, lc_lt, lc_ge, lc_gt, lc_le, lc_eq, b5, lo, ev, ew, am_ue, am_uu] using two
        · rw [e] at two ev
          simpa [r184_22, r184_23, r184_26, r184_29, r184_30, r184_31, r184_34, r184_35, r184_36, r184_38, r184_41, r184_42, r184_44, r184_47, r184_48, r184_50, r184_53, r184_54, r184_55, r184_56, r184_59, r184_62, r184_63, r184_64, r184_65, r184_68, r184_69, r184_70, cs_nil, cs_cons, lc_lt, lc_ge, lc_gt, lc_le, lc_eq, b5, lo, ev, ew, am_ue, am_uu] using two
      by_cases ha : isg B N p1 60 = true
      · rw [if_pos (isg_k ha).2] at q1
        exact on 60 7 ha (by omega) q1
      · by_cases hb : isg B N p1 62 = true
        · rw [if_neg (by rw [(isg_k hb).2]; decide), if_pos (isg_k hb).2] at q1
          exact on 62 8 hb (by omega) q1
        · have hc : isg B N p1 61 = true := (hg.resolve_left ha).resolve_left hb
          rw [if_neg (by rw [(isg_k hc).2]; decide), if_neg (by rw [(isg_k hc).2]; decide)] at q1
          exact on 61 9 hc (by omega) q1
    · rw [if_neg hg] at q1
      cases q1
      have nl : ∀ c, srt c = 3 → 0 ≤ c → ¬ isg B N p1 c = true → ¬ lk B N p1 = c := fun c a b e q => e ((lk_s a b).mp q)
      have n1 := nl 60 (by decide) (by omega) (fun q => hg (Or.inl q))
      have n2 := nl 62 (by decide) (by omega) (fun q => hg (Or.inr (Or.inl q)))
      have n3 := nl 61 (by decide) (by omega) (fun q => hg (Or.inr (Or.inr q)))
      have mf := fun (dd : Nat) (QQ : am_V → am_F → Prop) (k q : Int) => m_fail (d := dd) (Q := QQ) (k := k) (q := q) hM2.2.2.1.1
      have b2 := hm1.2.2.2.1.2.1.2
      have b3 := hm1.2.2.2.2.1
      have bd : ¬ (am_up (am_up (am_up g1 270 2 (tS B N p1)) 270 5 1) 270 6 (tS B N p1)) 270 5 = 0 := by rw [am_un (by omega), am_ue]; decide
      have fin := t_endsF hN (d := d) (x := (0, lk B N p)) bd (hn _ (gPw_tr gp1 (gPw_tr a1 (gPw_up (gPw_up (gPw_up gPw_rf (by omega)) (by omega)) (by omega)))) (by rw [am_un (by omega), am_ue]) am_ue (by rw [am_un (by omega), am_un (by omega), am_un (by omega), b2]; omega))
      simpa [r184_22, r184_23, r184_26, r184_29, r184_30, r184_31, r184_34, r184_35, r184_36, r184_38, r184_41, r184_42, r184_44, r184_47, r184_48, r184_50, r184_53, r184_54, r184_55, r184_56, r184_59, r184_62, cs_nil, cs_cons, lc_lt, lc_ge, lc_gt, lc_le, lc_eq, b5, lo, n1, n2, n3, hA2, mf] using fin
end
