/-! ask, both sides -/
section
variable {d n m r : Nat} {f L z : am_F} {ρ : Int → List Int} {τ : Int → Bool} {l : Int} {Z : Int → am_F} {B : Int → Int} {N : Int} {Q : am_V → am_F → Prop}
theorem qO_r {cs : List Int} (h : qO B N cs) : ∃ p', rd B N 3 20000 (if qt (tW B N 0) = true then 9 else 4) (tE B N 0) 0 = some (.inr (p', cs)) := by
  obtain ⟨_, r0, e1, e2⟩ := h
  match r0, e1, e2 with
  | .inl _, _, e2 => cases e2
  | .inr (p', cs'), e1, e2 =>
    unfold qR at e2
    by_cases q : tK B N p' = 0
    · simp only [if_pos q] at e2
      cases e2
      exact ⟨p', e1⟩
    · simp only [if_neg q] at e2
      cases e2
theorem qF_u {k q k' q' : Int} (h : qF B N k q) (h' : qF B N k' q') : k = k' ∧ q = q' := by
  unfold qF at h h'
  split at h
  · rename_i c
    rw [if_pos c] at h'
    omega
  · rename_i c
    rw [if_neg c] at h'
    obtain ⟨r1, a1, a2⟩ := h
    obtain ⟨r2, b1, b2⟩ := h'
    rw [a1] at b1
    cases b1
    rw [a2] at b2
    cases b2
    exact ⟨rfl, rfl⟩
theorem qF_O {k q : Int} {cs : List Int} (h : qF B N k q) (h' : qO B N cs) : False := by
  unfold qF at h
  split at h
  · rename_i c
    exact h'.1.elim c.1 c.2
  · obtain ⟨r1, a1, a2⟩ := h
    obtain ⟨_, r2, b1, b2⟩ := h'
    rw [a1] at b1
    cases b1
    rw [a2] at b2
    cases b2
theorem qO_u {cs cs' : List Int} (h : qO B N cs) (h' : qO B N cs') : cs = cs' := by
  obtain ⟨_, r1, a1, a2⟩ := h
  obtain ⟨_, r2, b1, b2⟩ := h'
  rw [a1] at b1
  cases b1
  rw [a2] at b2
  cases b2
  rfl
theorem qO_ty {cs : List Int} (h : qO B N cs) (n0 : 0 ≤ N) : ∃ b, tr false true cs [] = some [b] := by
  obtain ⟨p', hr⟩ := qO_r h
  have gb := tW_b (B := B) (N := N) n0 (show ¬ tW B N 0 = -1 by have := h.1; rw [qt_i, qs_i] at this; omega)
  have ty := rd_ty (sk := false) (q := true) (B := B) (N := N) (κ := 3) (fun q => by omega) (fun _ => rfl) 20000 (if qt (tW B N 0) = true then 9 else 4) (tE B N 0) 0 p' cs hr gb.2 (by omega) [] (by split <;> (simp [lvt]))
  by_cases q : qt (tW B N 0) = true
  · rw [if_pos q] at ty
    exact ⟨true, by simpa [tyi, tyo] using ty⟩
  · rw [if_neg q] at ty
    exact ⟨false, by simpa [tyi, tyo] using ty⟩
/-- what the one side's ask leaves as it was -/
def aC (f g : am_F) : Prop := ∀ c j : Int, ¬ ((c = 33 ∧ 2 ≤ j) ∨ (c = 16 ∧ j = 3) ∨ (17 ≤ c ∧ c ≤ 19) ∨ c = 35 ∨ (c = 0 ∧ (j = 14 ∨ j = 15)) ∨ (c = 14 ∧ j = 1)) → g c j = f c j
theorem fx_aC {g : am_F} (h : aw_fx f) (hg : aC f g) : aw_fx g := fun x hx => by
  have q := SC_n (fx_n (l := 1) (Or.inl rfl) hx).1
  have q2 := (fx_n (l := 1) (Or.inl rfl) hx).2
  have q3 : ¬ (x.1 = 0 ∧ 12 ≤ x.2.1) := fun e => q2 (Or.inl e)
  have q4 : ¬ (x.1 = 14 ∧ x.2.1 = 1) := fun e => q2 (Or.inr (Or.inl e))
  rw [hg _ _ (by omega)]
  exact h x hx
theorem wd_aC {g : am_F} (h : aw_wd f) (hg : aC f g) : aw_wd g := fun x hx => by
  have q := SC_n (wd_n (l := 1) (Or.inl rfl) hx).1
  have q2 := (wd_n (l := 1) (Or.inl rfl) hx).2
  have q3 : ¬ (x.1 = 0 ∧ 12 ≤ x.2.1) := fun e => q2 (Or.inl e)
  have q4 : ¬ (x.1 = 14 ∧ x.2.1 = 1) := fun e => q2 (Or.inr (Or.inl e))
  rw [hg _ _ (by omega)]
  exact h x hx
theorem IW_ask {g k : am_F} (h : IW f n m r L ρ τ z l Z) (h1 : aC f g) (h2 : aQ g k) (e14 : g 14 1 = 0) (e1 : k 270 1 = 0) (e7 : k 270 7 = g 0 14) (e8 : k 270 8 = g 0 15) : IV k := by
  obtain ⟨a, _, _, tp, rf, pc, fs, _⟩ := id h
  have fr : ∀ c j : Int, ¬ ((c = 33 ∧ 2 ≤ j) ∨ (c = 16 ∧ j = 3) ∨ (17 ≤ c ∧ c ≤ 19) ∨ c = 35 ∨ (c = 0 ∧ (j = 14 ∨ j = 15)) ∨ (c = 14 ∧ j = 1) ∨ (c = 270 ∧ ((1 ≤ j ∧ j ≤ 8) ∨ j = 50 ∨ j = 55 ∨ j = 92 ∨ (94 ≤ j ∧ j ≤ 96) ∨ (98 ≤ j ∧ j ≤ 100))) ∨ c = 310 ∨ (340 ≤ c ∧ c ≤ 342)) → k c j = f c j := fun c j hc => by rw [h2 _ _ (by omega), h1 _ _ (by omega)]
  refine (IW_o h (fun c j q1 q2 => ?_) ⟨?_, ?_, fun j => ?_⟩ (fun j => ?_) (PC_fr pc ?_ ?_ (fun j => ?_) (fun j => ?_)) ⟨⟨?_, ?_⟩, ?_, ?_⟩).iv
  · have q := SC_n q1
    exact fr c j (by omega)
  · rw [e1, h2 _ _ (by omega), e14]
  · rw [h2 _ _ (by omega), e14]; omega
  · rw [fr 271 j (by omega), fr 15 j (by omega)]; exact tp.2.2 j
  · rw [fr 272 j (by omega), fr 269 j (by omega)]; exact rf j
  · exact fr _ _ (by omega)
  · exact fr _ _ (by omega)
  · exact fr _ _ (by omega)
  · exact fr _ _ (by omega)
  · rw [e7, h2 _ _ (by omega)]
  · rw [e8, h2 _ _ (by omega)]
  · rw [fr _ _ (by omega), fr _ _ (by omega)]; exact fs.2.1
  · rw [fr _ _ (by omega)]; exact fs.2.2
theorem H_ask (h : IW f n m r L ρ τ z l Z) : HC (d + 60) 143 283 [] 1 f := by
  obtain ⟨⟨hx, hwd, hl, h011, h57, h53⟩, ⟨cb, cn⟩, ⟨mb, nm'⟩, tp, rf, pc, fs, nr, ps⟩ := id h
  obtain ⟨t1, t2, t3⟩ := tp
  have cf := c_fx hx
  have hB : ∀ j, 0 ≤ (fun j => f 15 j) j ∧ (fun j => f 15 j) j ≤ 255 := fun j => ⟨(t3 j).2.1, (t3 j).2.2⟩
  have hT : CT f (fun j => f 15 j) (f 14 1) := ⟨by simp [cf], by simp [cf], rfl, fun _ => rfl⟩
  show aw_cl (d + 100) 143 [(109, 0)] f _
  have w0 : aw_cl (d + 99) 144 [(104, 33), (106, 16)] f (fun v f' => aw_wp (d + 100) 143 11 [(109, 0), (2, 0)] (if v.fst = 3 then [] else [v]) f' (fun v f1 => aw_cl (d + 100) 283 [(110, 270)] f1 (fun w f2 => w = v ∧ v.1 = 1 ∧ IV f2))) := by
    refine c_readQ hT t2.2 t2.1 hB (by simp [cf]) ?_ ?_
    · intro k q g hq e11 e12 hg
      have hg33 : g 0 1 = 33 ∧ g 0 0 = 14 := ⟨(hg _ _ (by omega)).trans (by simp [cf]), (hg _ _ (by omega)).trans (by simp [cf])⟩
      have ac : aC f (am_up (am_up (am_up g 0 14 k) 0 15 q) 14 1 0) := fun c j hc => by rw [am_un (by omega), am_un (by omega), am_un (by omega), hg _ _ (by omega)]
      have mbg : MB (am_up (am_up (am_up g 0 14 k) 0 15 q) 14 1 0) n m r L ρ τ z := MB_fr mb (fun c j _ _ => ac c j (by omega)) (fun j _ => ac 270 j (by omega))
      have e014 : (am_up (am_up (am_up g 0 14 k) 0 15 q) 14 1 0) 0 14 = k := by rw [am_un (by omega), am_un (by omega), am_ue]
      have e015 : (am_up (am_up (am_up g 0 14 k) 0 15 q) 14 1 0) 0 15 = q := by rw [am_un (by omega), am_ue]
      have := m_ask (d := d + 80) (Q := fun w f2 => w = (1, -1000000000000000) ∧ ((1, -1000000000000000) : am_V).1 = 1 ∧ IV f2) (B := fun j => f 15 j) (N := f 14 1) (fx_aC hx ac) (wd_aC hwd ac) mbg (by rw [ac _ _ (by omega)]; exact t1) (fun j => by rw [ac _ _ (by omega)]; exact (t3 j).1) t2.1 t2.2 hB
        (fun k' q' hq' g' e7 e8 e1 aq => by
          obtain ⟨rfl, rfl⟩ := qF_u hq hq'
          exact ⟨rfl, rfl, IW_ask h ac aq am_ue e1 (by rw [e7, e014]) (by rw [e8, e015])⟩)
        (fun cs hcs g' _ _ _ _ => (qF_O hq hcs).elim)
      simpa [r143_11, r143_12, r143_13, r143_16, r143_17, r143_20, r143_21, r143_24, r143_25, r143_28, r143_31, cs_nil, cs_cons, lc_lt, lc_ge, lc_gt, lc_le, lc_eq, q59, r59_0, r59_1, r59_2, r59_5, r59_8, r59_11, r59_12, r59_13, r59_16, r59_19, r59_22, cs_nil, cs_cons, lc_lt, lc_ge, lc_gt, lc_le, lc_eq, hg33, e11, e12, am_un, am_ue, am_up] using this
    · intro cs g hw hcs lc e10 e11 e12 e18 e19 ala hg
      have hO : qO (fun j => f 15 j) (f 14 1) cs := ⟨hw, hcs⟩
      have hg33 : g 0 1 = 33 ∧ g 0 0 = 14 := ⟨(hg _ _ (by omega)).trans (by simp [cf]), (hg _ _ (by omega)).trans (by simp [cf])⟩
      have ac : aC f (am_up (am_up (am_up g 0 14 0) 0 15 (-1)) 14 1 0) := fun c j hc => by rw [am_un (by omega), am_un (by omega), am_un (by omega), hg _ _ (by omega)]
      have w10 : (am_up (am_up (am_up g 0 14 0) 0 15 (-1)) 14 1 0) 33 10 = tW (fun j => f 15 j) (f 14 1) 0 := by rw [am_un (by omega), am_un (by omega), am_un (by omega)]; exact e10
      have h33 : (am_up (am_up (am_up g 0 14 0) 0 15 (-1)) 14 1 0) 0 1 = 33 := by rw [am_un (by omega), am_un (by omega), am_un (by omega)]; exact hg33.1
      have e014 : (am_up (am_up (am_up g 0 14 0) 0 15 (-1)) 14 1 0) 0 14 = 0 := by rw [am_un (by omega), am_un (by omega), am_ue]
      have e015 : (am_up (am_up (am_up g 0 14 0) 0 15 (-1)) 14 1 0) 0 15 = -1 := by rw [am_un (by omega), am_ue]
      have e141 : (am_up (am_up (am_up g 0 14 0) 0 15 (-1)) 14 1 0) 14 1 = 0 := am_ue
      have hA : AS (am_up (am_up (am_up g 0 14 0) 0 15 (-1)) 14 1 0) l n m r L ρ z cs := by
        obtain ⟨cx, cl, cz, cT, co⟩ := cb
        refine ⟨fx_aC hx ac, ⟨⟨?_, ?_, ?_, ?_, ?_⟩, CL_fr cl cT (fun c j _ _ => ac c j (by omega)), CZ_fr cz (fun c j _ _ _ => ac c j (by omega)), cT, co⟩, ?_, ?_, al_fr cs 0 (fun j _ _ => by rw [am_un (by omega), am_un (by omega), am_un (by omega)]) ala⟩
        · rw [ac _ _ (by omega)]; exact cx.1
        · rw [ac _ _ (by omega)]; exact cx.2.1
        · rw [ac _ _ (by omega)]; exact cx.2.2.1
        · rw [ac _ _ (by omega)]; exact cx.2.2.2.1
        · rw [ac _ _ (by omega)]; exact cx.2.2.2.2
        · rw [am_un (by omega), am_un (by omega), am_un (by omega)]; exact e18
        · rw [am_un (by omega), am_un (by omega), am_un (by omega)]; exact e19
      obtain ⟨b, hty⟩ := qO_ty hO t2.1
      have fin : ∀ g2, fK (am_up (am_up (am_up g 0 14 0) 0 15 (-1)) 14 1 0) g2 → aw_cl (d + 100) 283 [(110, 270)] g2 (fun w f2 => w = (1, ans (tW (fun j => f 15 j) (f 14 1) 0) (UU L ρ z r cs) n) ∧ ((1, ans (tW (fun j => f 15 j) (f 14 1) 0) (UU L ρ z r cs) n) : am_V).1 = 1 ∧ IV f2) := by
        intro g2 hk
        have ac2 : aC f g2 := fun c j hc => by rw [hk _ _ (by omega)]; exact ac c j hc
        have mbg : MB g2 n m r L ρ τ z := MB_fr mb (fun c j _ _ => ac2 c j (by omega)) (fun j _ => ac2 270 j (by omega))
        refine m_ask (d := d + 80) (B := fun j => f 15 j) (N := f 14 1) (fx_aC hx ac2) (wd_aC hwd ac2) mbg (by rw [ac2 _ _ (by omega)]; exact t1) (fun j => by rw [ac2 _ _ (by omega)]; exact (t3 j).1) t2.1 t2.2 hB (fun k q hq => (qF_O hq hO).elim) ?_
        intro cs' hcs' g' e7 e8 e1 aq
        obtain rfl := qO_u hO hcs'
        exact ⟨rfl, rfl, IW_ask h ac2 aq (by rw [hk _ _ (by omega)]; exact e141) e1 (by rw [e7, hk _ _ (by omega), e014]) (by rw [e8, hk _ _ (by omega), e015])⟩
      have go : aw_wp (d + 100) 143 32 [(109, 0), (0, 1)] [] (am_up (am_up (am_up g 0 14 0) 0 15 (-1)) 14 1 0) (fun v f1 => aw_cl (d + 100) 283 [(110, 270)] f1 (fun w f2 => w = v ∧ v.1 = 1 ∧ IV f2)) := by
        generalize am_up (am_up (am_up g 0 14 0) 0 15 (-1)) 14 1 0 = g1 at ac w10 h33 e014 e015 e141 hA fin
        by_cases ht : qt (tW (fun j => f 15 j) (f 14 1) 0) = true
        · have ht' := qt_i.mp ht
          simp [r143_32, r143_33, r143_36, r143_39, r143_42, r143_43, r143_44, r143_47, r143_50, cs_nil, cs_cons, lc_lt, lc_ge, lc_gt, lc_le, lc_eq, h33, c_aT w10, ht', w10]
          refine c_ansT (d := d + 93) hA hty lc ht' ?_
          intro g2 hk
          have := fin g2 hk
          simpa [r143_53, r143_56, r143_57, r143_58, r143_61, r143_64, r143_67, cs_nil, cs_cons, lc_lt, lc_ge, lc_gt, lc_le, lc_eq] using this
        · have hs' := qs_i.mp (hw.resolve_left ht)
          have ht' : ¬ (tW (fun j => f 15 j) (f 14 1) 0 = 13 ∨ tW (fun j => f 15 j) (f 14 1) 0 = 21 ∨ tW (fun j => f 15 j) (f 14 1) 0 = 28) := fun q => ht (qt_i.mpr q)
          simp [r143_32, r143_33, r143_36, r143_39, cs_nil, cs_cons, lc_lt, lc_ge, lc_gt, lc_le, lc_eq, r143_56, r143_57, r143_58, r143_61, r143_64, h33, c_aT w10, ht', w10]
          refine c_ansS (d := d + 93) hA hty lc hs' ?_
          intro g2 hk
          have := fin g2 hk
          simpa [r143_67, cs_nil, cs_cons, lc_lt, lc_ge, lc_gt, lc_le, lc_eq] using this
      simpa [r143_11, r143_12, r143_13, r143_16, r143_17, r143_20, r143_21, r143_24, r143_25, cs_nil, cs_cons, lc_lt, lc_ge, lc_gt, lc_le, lc_eq, q59, r59_0, r59_1, r59_2, r59_5, r59_8, r59_11, r59_12, r59_13, r59_16, r59_19, r59_22, cs_nil, cs_cons, lc_lt, lc_ge, lc_gt, lc_le, lc_eq, hg33, e11, e12, am_un, am_ue, am_up] using go
  simpa [q143, r143_0, r143_1, r143_4, r143_5, r143_8, cs_nil, cs_cons, lc_lt, lc_ge, lc_gt, lc_le, lc_eq, cf] using w0
end
