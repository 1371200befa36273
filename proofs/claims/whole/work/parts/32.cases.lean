section
variable {p : Program} {l : Launch} {e : Env} {s : State} {m : MethodId} {below : List Frame} {meth : Method} {c : Code} {b L : Nat} {xs : Nat → Int32} {H : Heap} {locs : List Loc} {cells slots : Nat} {Q : State → Prop} {D : va_G} {dA : Nat → ClassId} {sa sv : Nat} {ad : List Nat} {ls : Array Slot} {f : am_F} {i : Nat} {Inv : am_F → Prop}

theorem al_case0 (C : al_C p s m meth c b L xs D dA sa sv) (hR : al_R s D dA sa ad f H locs) (hl : lv_has ls 4 [(0, .ref b), (1, .ref (ad.getD 0 0)), (2, .ref (ad.getD 270 0)), (3, .int (nI i))]) (hi : i + 6 ≤ L) (hcs : cells ≤ 600000 ∧ slots ≤ 7302250) (hH : al_H Inv) (hI : Inv f) (kk : ∀ (f2 : am_F) (H2 : Heap) (locs2 : List Loc), Inv f2 → al_R s D dA sa ad f2 H2 locs2 → W p l e room_1 s m #[Value.ref b] below meth c H2 locs2 cells slots Q (F0 m 1061 ls [])) : W p l e room_1 s m #[Value.ref b] below meth c H locs cells slots Q (F0 m 180 ls []) := by
  obtain ⟨⟨hx, hb, hr, hml, hown, hts0, hX, hbl, hlk, hgv⟩, hK, hFo, hL⟩ := id C
  have hcl := hH (0, 10, 159, 5, 0) (al_mem 0 rfl) f [(xs (i + 1)).toInt, (xs (i + 2)).toInt, (xs (i + 3)).toInt, (xs (i + 4)).toInt, (xs (i + 5)).toInt] rfl (by intro x hx; simp at hx; rcases hx with rfl | rfl | rfl | rfl | rfl <;> exact am_inT _) hI
  refine lv_aload_n hx hb al_d180 rfl (lv_at hl 1 rfl) ?_
  refine al_arg C hR hl hi (k := 1) (by decide) al_d181 al_d182 al_d183 al_d184 al_d185 ?_
  refine al_arg C hR hl hi (k := 2) (by decide) al_d186 al_d187 al_d188 al_d189 al_d190 ?_
  refine al_arg C hR hl hi (k := 3) (by decide) al_d191 al_d192 al_d193 al_d194 al_d195 ?_
  refine al_arg C hR hl hi (k := 4) (by decide) al_d196 al_d197 al_d198 al_d199 al_d200 ?_
  refine al_arg C hR hl hi (k := 5) (by decide) al_d201 al_d202 al_d203 al_d204 al_d205 ?_
  have ev : [(0, (xs (i + 1)).toInt), (0, (xs (i + 2)).toInt), (0, (xs (i + 3)).toInt), (0, (xs (i + 4)).toInt), (0, (xs (i + 5)).toInt)].map (am_rv sa ad) = [.int (xs (i + 1)), .int (xs (i + 2)), .int (xs (i + 3)), .int (xs (i + 4)), .int (xs (i + 5))] := by simp [am_rv0, al_xs]
  have es : ([.int (xs (i + 5)), .int (xs (i + 4)), .int (xs (i + 3)), .int (xs (i + 2)), .int (xs (i + 1)), .ref (ad.getD 0 0)] : List Value) = ([(0, (xs (i + 1)).toInt), (0, (xs (i + 2)).toInt), (0, (xs (i + 3)).toInt), (0, (xs (i + 4)).toInt), (0, (xs (i + 5)).toInt)].map (am_rv sa ad)).reverse ++ am_rv sa ad (109, 0) :: [] := by rw [ev]; rfl
  rw [es]
  refine al_call (pc := 206) (idx := 13) (mi := 10) (q := am_m10) (t0 := 109) (a0 := 0) (as := [(0, (xs (i + 1)).toInt), (0, (xs (i + 2)).toInt), (0, (xs (i + 3)).toInt), (0, (xs (i + 4)).toInt), (0, (xs (i + 5)).toInt)]) (rest := []) (l := l) (e := e) (below := below) (Q := Q) C hR hl.1 rfl rfl al_l13 al_d206 (show [109, 0, 0, 0, 0, 0] = am_pt 10 by decide +kernel) (by decide) (List.forall_mem_cons.mpr ⟨al_ok109, al_ints (as := [(xs (i + 1)).toInt, (xs (i + 2)).toInt, (xs (i + 3)).toInt, (xs (i + 4)).toInt, (xs (i + 5)).toInt]) (by intro x hx; simp at hx; rcases hx with rfl | rfl | rfl | rfl | rfl <;> exact am_inT _)⟩) (Nat.zero_le _) hcs hcl ?_
  intro v f1 H1 locs1 hcl2 hv hR1
  have hv3 : ¬ v.1 = 3 := by
    obtain ⟨_, w9, f9, _, h9, h8, _⟩ := hcl2
    rw [h8]; decide
  rw [if_neg hv3]
  refine lv_aload_n hx hb al_d209 rfl (lv_at hl 2 rfl) ?_
  refine al_arg C hR1 hl hi (k := 1) (by decide) al_d210 al_d211 al_d212 al_d213 al_d214 ?_
  refine al_arg C hR1 hl hi (k := 2) (by decide) al_d215 al_d216 al_d217 al_d218 al_d219 ?_
  refine al_arg C hR1 hl hi (k := 3) (by decide) al_d220 al_d221 al_d222 al_d223 al_d224 ?_
  refine al_arg C hR1 hl hi (k := 4) (by decide) al_d225 al_d226 al_d227 al_d228 al_d229 ?_
  refine al_arg C hR1 hl hi (k := 5) (by decide) al_d230 al_d231 al_d232 al_d233 al_d234 ?_
  have hcat : ([am_rv sa ad v].map fun v => v.category).sum ≤ 8 := by
    show (am_rv sa ad v).category + 0 ≤ 8
    rw [am_cat2]; split <;> omega
  have es2 : ([.int (xs (i + 5)), .int (xs (i + 4)), .int (xs (i + 3)), .int (xs (i + 2)), .int (xs (i + 1)), .ref (ad.getD 270 0), am_rv sa ad v] : List Value) = ([(0, (xs (i + 1)).toInt), (0, (xs (i + 2)).toInt), (0, (xs (i + 3)).toInt), (0, (xs (i + 4)).toInt), (0, (xs (i + 5)).toInt)].map (am_rv sa ad)).reverse ++ am_rv sa ad (110, 270) :: [am_rv sa ad v] := by rw [ev]; rfl
  rw [show ((some (am_rv sa ad v)).toList ++ []) = [am_rv sa ad v] from rfl, es2]
  refine al_call (pc := 235) (idx := 17) (mi := 159) (q := am_m159) (t0 := 110) (a0 := 270) (as := [(0, (xs (i + 1)).toInt), (0, (xs (i + 2)).toInt), (0, (xs (i + 3)).toInt), (0, (xs (i + 4)).toInt), (0, (xs (i + 5)).toInt)]) (rest := [am_rv sa ad v]) (l := l) (e := e) (below := below) (Q := Q) C hR1 hl.1 rfl rfl al_l17 al_d235 (show [110, 0, 0, 0, 0, 0] = am_pt 159 by decide +kernel) (by decide) (List.forall_mem_cons.mpr ⟨al_ok110, al_ints (as := [(xs (i + 1)).toInt, (xs (i + 2)).toInt, (xs (i + 3)).toInt, (xs (i + 4)).toInt, (xs (i + 5)).toInt]) (by intro x hx; simp at hx; rcases hx with rfl | rfl | rfl | rfl | rfl <;> exact am_inT _)⟩) hcat hcs hcl2 ?_
  intro w f2 H2 locs2 hw hw2 hR2
  obtain ⟨rfl, hv01, hI2⟩ := hw
  rw [if_neg hv3]
  rw [show ((some (am_rv sa ad w)).toList ++ [am_rv sa ad w]) = [am_rv sa ad w, am_rv sa ad w] from rfl]
  have key : ∀ z : Int32, am_rv sa ad w = .int z → W p l e room_1 s m #[Value.ref b] below meth c H2 locs2 cells slots Q (F0 m 238 ls [am_rv sa ad w, am_rv sa ad w]) := by
    intro z hz
    rw [hz]
    refine lv_icmp_eq (tgt := 1061) hx hb al_d238 (by decide) (fun _ => ?_) (fun h => absurd rfl h)
    exact kk f2 H2 locs2 hI2 hR2
  have ht : w.1 = 0 := hv01
  obtain ⟨t, x⟩ := w
  have ht : t = 0 := ht
  subst ht
  exact key _ rfl

theorem al_case1 (C : al_C p s m meth c b L xs D dA sa sv) (hR : al_R s D dA sa ad f H locs) (hl : lv_has ls 4 [(0, .ref b), (1, .ref (ad.getD 0 0)), (2, .ref (ad.getD 270 0)), (3, .int (nI i))]) (hi : i + 6 ≤ L) (hcs : cells ≤ 600000 ∧ slots ≤ 7302250) (hH : al_H Inv) (hI : Inv f) (kk : ∀ (f2 : am_F) (H2 : Heap) (locs2 : List Loc), Inv f2 → al_R s D dA sa ad f2 H2 locs2 → W p l e room_1 s m #[Value.ref b] below meth c H2 locs2 cells slots Q (F0 m 1061 ls [])) : W p l e room_1 s m #[Value.ref b] below meth c H locs cells slots Q (F0 m 243 ls []) := by
  obtain ⟨⟨hx, hb, hr, hml, hown, hts0, hX, hbl, hlk, hgv⟩, hK, hFo, hL⟩ := id C
  have hcl := hH (1, 13, 160, 1, 0) (al_mem 1 rfl) f [(xs (i + 1)).toInt] rfl (by intro x hx; simp at hx; subst hx; exact am_inT _) hI
  refine lv_aload_n hx hb al_d243 rfl (lv_at hl 1 rfl) ?_
  refine al_arg C hR hl hi (k := 1) (by decide) al_d244 al_d245 al_d246 al_d247 al_d248 ?_
  have ev : [(0, (xs (i + 1)).toInt)].map (am_rv sa ad) = [.int (xs (i + 1))] := by simp [am_rv0, al_xs]
  have es : ([.int (xs (i + 1)), .ref (ad.getD 0 0)] : List Value) = ([(0, (xs (i + 1)).toInt)].map (am_rv sa ad)).reverse ++ am_rv sa ad (109, 0) :: [] := by rw [ev]; rfl
  rw [es]
  refine al_call (pc := 249) (idx := 18) (mi := 13) (q := am_m13) (t0 := 109) (a0 := 0) (as := [(0, (xs (i + 1)).toInt)]) (rest := []) (l := l) (e := e) (below := below) (Q := Q) C hR hl.1 rfl rfl al_l18 al_d249 (show [109, 0] = am_pt 13 by decide +kernel) (by decide) (List.forall_mem_cons.mpr ⟨al_ok109, al_ints (as := [(xs (i + 1)).toInt]) (by intro x hx; simp at hx; subst hx; exact am_inT _)⟩) (Nat.zero_le _) hcs hcl ?_
  intro v f1 H1 locs1 hcl2 hv hR1
  have hv3 : ¬ v.1 = 3 := by
    obtain ⟨_, w9, f9, _, h9, h8, _⟩ := hcl2
    rw [h8]; decide
  rw [if_neg hv3]
  refine lv_aload_n hx hb al_d252 rfl (lv_at hl 2 rfl) ?_
  refine al_arg C hR1 hl hi (k := 1) (by decide) al_d253 al_d254 al_d255 al_d256 al_d257 ?_
  have hcat : ([am_rv sa ad v].map fun v => v.category).sum ≤ 8 := by
    show (am_rv sa ad v).category + 0 ≤ 8
    rw [am_cat2]; split <;> omega
  have es2 : ([.int (xs (i + 1)), .ref (ad.getD 270 0), am_rv sa ad v] : List Value) = ([(0, (xs (i + 1)).toInt)].map (am_rv sa ad)).reverse ++ am_rv sa ad (110, 270) :: [am_rv sa ad v] := by rw [ev]; rfl
  rw [show ((some (am_rv sa ad v)).toList ++ []) = [am_rv sa ad v] from rfl, es2]
  refine al_call (pc := 258) (idx := 22) (mi := 160) (q := am_m160) (t0 := 110) (a0 := 270) (as := [(0, (xs (i + 1)).toInt)]) (rest := [am_rv sa ad v]) (l := l) (e := e) (below := below) (Q := Q) C hR1 hl.1 rfl rfl al_l22 al_d258 (show [110, 0] = am_pt 160 by decide +kernel) (by decide) (List.forall_mem_cons.mpr ⟨al_ok110, al_ints (as := [(xs (i + 1)).toInt]) (by intro x hx; simp at hx; subst hx; exact am_inT _)⟩) hcat hcs hcl2 ?_
  intro w f2 H2 locs2 hw hw2 hR2
  obtain ⟨rfl, hv01, hI2⟩ := hw
  rw [if_neg hv3]
  rw [show ((some (am_rv sa ad w)).toList ++ [am_rv sa ad w]) = [am_rv sa ad w, am_rv sa ad w] from rfl]
  have key : ∀ z : Int32, am_rv sa ad w = .int z → W p l e room_1 s m #[Value.ref b] below meth c H2 locs2 cells slots Q (F0 m 261 ls [am_rv sa ad w, am_rv sa ad w]) := by
    intro z hz
    rw [hz]
    refine lv_icmp_eq (tgt := 1061) hx hb al_d261 (by decide) (fun _ => ?_) (fun h => absurd rfl h)
    exact kk f2 H2 locs2 hI2 hR2
  have ht : w.1 = 0 := hv01
  obtain ⟨t, x⟩ := w
  have ht : t = 0 := ht
  subst ht
  exact key _ rfl

theorem al_case2 (C : al_C p s m meth c b L xs D dA sa sv) (hR : al_R s D dA sa ad f H locs) (hl : lv_has ls 4 [(0, .ref b), (1, .ref (ad.getD 0 0)), (2, .ref (ad.getD 270 0)), (3, .int (nI i))]) (hi : i + 6 ≤ L) (hcs : cells ≤ 600000 ∧ slots ≤ 7302250) (hH : al_H Inv) (hI : Inv f) (kk : ∀ (f2 : am_F) (H2 : Heap) (locs2 : List Loc), Inv f2 → al_R s D dA sa ad f2 H2 locs2 → W p l e room_1 s m #[Value.ref b] below meth c H2 locs2 cells slots Q (F0 m 1061 ls [])) : W p l e room_1 s m #[Value.ref b] below meth c H locs cells slots Q (F0 m 266 ls []) := by
  obtain ⟨⟨hx, hb, hr, hml, hown, hts0, hX, hbl, hlk, hgv⟩, hK, hFo, hL⟩ := id C
  have hcl := hH (2, 14, 161, 0, 0) (al_mem 2 rfl) f [] rfl (by intro x hx; cases hx) hI
  refine lv_aload_n hx hb al_d266 rfl (lv_at hl 1 rfl) ?_
  have ev : ([] : List am_V).map (am_rv sa ad) = [] := by simp [am_rv0, al_xs]
  have es : ([.ref (ad.getD 0 0)] : List Value) = (([] : List am_V).map (am_rv sa ad)).reverse ++ am_rv sa ad (109, 0) :: [] := by rw [ev]; rfl
  rw [es]
  refine al_call (pc := 267) (idx := 23) (mi := 14) (q := am_m14) (t0 := 109) (a0 := 0) (as := []) (rest := []) (l := l) (e := e) (below := below) (Q := Q) C hR hl.1 rfl rfl al_l23 al_d267 (show [109] = am_pt 14 by decide +kernel) (by decide) (List.forall_mem_cons.mpr ⟨al_ok109, fun v hv => by cases hv⟩) (Nat.zero_le _) hcs hcl ?_
  intro v f1 H1 locs1 hcl2 hv hR1
  have hv3 : ¬ v.1 = 3 := by
    obtain ⟨_, w9, f9, _, h9, h8, _⟩ := hcl2
    rw [h8]; decide
  rw [if_neg hv3]
  refine lv_aload_n hx hb al_d270 rfl (lv_at hl 2 rfl) ?_
  have hcat : ([am_rv sa ad v].map fun v => v.category).sum ≤ 8 := by
    show (am_rv sa ad v).category + 0 ≤ 8
    rw [am_cat2]; split <;> omega
  have es2 : ([.ref (ad.getD 270 0), am_rv sa ad v] : List Value) = (([] : List am_V).map (am_rv sa ad)).reverse ++ am_rv sa ad (110, 270) :: [am_rv sa ad v] := by rw [ev]; rfl
  rw [show ((some (am_rv sa ad v)).toList ++ []) = [am_rv sa ad v] from rfl, es2]
  refine al_call (pc := 271) (idx := 27) (mi := 161) (q := am_m161) (t0 := 110) (a0 := 270) (as := []) (rest := [am_rv sa ad v]) (l := l) (e := e) (below := below) (Q := Q) C hR1 hl.1 rfl rfl al_l27 al_d271 (show [110] = am_pt 161 by decide +kernel) (by decide) (List.forall_mem_cons.mpr ⟨al_ok110, fun v hv => by cases hv⟩) hcat hcs hcl2 ?_
  intro w f2 H2 locs2 hw hw2 hR2
  obtain ⟨rfl, hv01, hI2⟩ := hw
  rw [if_neg hv3]
  rw [show ((some (am_rv sa ad w)).toList ++ [am_rv sa ad w]) = [am_rv sa ad w, am_rv sa ad w] from rfl]
  have key : ∀ z : Int32, am_rv sa ad w = .int z → W p l e room_1 s m #[Value.ref b] below meth c H2 locs2 cells slots Q (F0 m 274 ls [am_rv sa ad w, am_rv sa ad w]) := by
    intro z hz
    rw [hz]
    refine lv_icmp_eq (tgt := 1061) hx hb al_d274 (by decide) (fun _ => ?_) (fun h => absurd rfl h)
    exact kk f2 H2 locs2 hI2 hR2
  have ht : w.1 = 0 := hv01
  obtain ⟨t, x⟩ := w
  have ht : t = 0 := ht
  subst ht
  exact key _ rfl

theorem al_case3 (C : al_C p s m meth c b L xs D dA sa sv) (hR : al_R s D dA sa ad f H locs) (hl : lv_has ls 4 [(0, .ref b), (1, .ref (ad.getD 0 0)), (2, .ref (ad.getD 270 0)), (3, .int (nI i))]) (hi : i + 6 ≤ L) (hcs : cells ≤ 600000 ∧ slots ≤ 7302250) (hH : al_H Inv) (hI : Inv f) (kk : ∀ (f2 : am_F) (H2 : Heap) (locs2 : List Loc), Inv f2 → al_R s D dA sa ad f2 H2 locs2 → W p l e room_1 s m #[Value.ref b] below meth c H2 locs2 cells slots Q (F0 m 1061 ls [])) : W p l e room_1 s m #[Value.ref b] below meth c H locs cells slots Q (F0 m 279 ls []) := by
  obtain ⟨⟨hx, hb, hr, hml, hown, hts0, hX, hbl, hlk, hgv⟩, hK, hFo, hL⟩ := id C
  have hcl := hH (3, 62, 206, 1, 0) (al_mem 3 rfl) f [(xs (i + 1)).toInt] rfl (by intro x hx; simp at hx; subst hx; exact am_inT _) hI
  refine lv_aload_n hx hb al_d279 rfl (lv_at hl 1 rfl) ?_
  refine al_arg C hR hl hi (k := 1) (by decide) al_d280 al_d281 al_d282 al_d283 al_d284 ?_
  have ev : [(0, (xs (i + 1)).toInt)].map (am_rv sa ad) = [.int (xs (i + 1))] := by simp [am_rv0, al_xs]
  have es : ([.int (xs (i + 1)), .ref (ad.getD 0 0)] : List Value) = ([(0, (xs (i + 1)).toInt)].map (am_rv sa ad)).reverse ++ am_rv sa ad (109, 0) :: [] := by rw [ev]; rfl
  rw [es]
  refine al_call (pc := 285) (idx := 28) (mi := 62) (q := am_m62) (t0 := 109) (a0 := 0) (as := [(0, (xs (i + 1)).toInt)]) (rest := []) (l := l) (e := e) (below := below) (Q := Q) C hR hl.1 rfl rfl al_l28 al_d285 (show [109, 0] = am_pt 62 by decide +kernel) (by decide) (List.forall_mem_cons.mpr ⟨al_ok109, al_ints (as := [(xs (i + 1)).toInt]) (by intro x hx; simp at hx; subst hx; exact am_inT _)⟩) (Nat.zero_le _) hcs hcl ?_
  intro v f1 H1 locs1 hcl2 hv hR1
  have hv3 : ¬ v.1 = 3 := by
    obtain ⟨_, w9, f9, _, h9, h8, _⟩ := hcl2
    rw [h8]; decide
  rw [if_neg hv3]
  refine lv_aload_n hx hb al_d288 rfl (lv_at hl 2 rfl) ?_
  refine al_arg C hR1 hl hi (k := 1) (by decide) al_d289 al_d290 al_d291 al_d292 al_d293 ?_
  have hcat : ([am_rv sa ad v].map fun v => v.category).sum ≤ 8 := by
    show (am_rv sa ad v).category + 0 ≤ 8
    rw [am_cat2]; split <;> omega
  have es2 : ([.int (xs (i + 1)), .ref (ad.getD 270 0), am_rv sa ad v] : List Value) = ([(0, (xs (i + 1)).toInt)].map (am_rv sa ad)).reverse ++ am_rv sa ad (110, 270) :: [am_rv sa ad v] := by rw [ev]; rfl
  rw [show ((some (am_rv sa ad v)).toList ++ []) = [am_rv sa ad v] from rfl, es2]
  refine al_call (pc := 294) (idx := 32) (mi := 206) (q := am_m206) (t0 := 110) (a0 := 270) (as := [(0, (xs (i + 1)).toInt)]) (rest := [am_rv sa ad v]) (l := l) (e := e) (below := below) (Q := Q) C hR1 hl.1 rfl rfl al_l32 al_d294 (show [110, 0] = am_pt 206 by decide +kernel) (by decide) (List.forall_mem_cons.mpr ⟨al_ok110, al_ints (as := [(xs (i + 1)).toInt]) (by intro x hx; simp at hx; subst hx; exact am_inT _)⟩) hcat hcs hcl2 ?_
  intro w f2 H2 locs2 hw hw2 hR2
  obtain ⟨rfl, hv01, hI2⟩ := hw
  rw [if_neg hv3]
  rw [show ((some (am_rv sa ad w)).toList ++ [am_rv sa ad w]) = [am_rv sa ad w, am_rv sa ad w] from rfl]
  have key : ∀ z : Int32, am_rv sa ad w = .int z → W p l e room_1 s m #[Value.ref b] below meth c H2 locs2 cells slots Q (F0 m 297 ls [am_rv sa ad w, am_rv sa ad w]) := by
    intro z hz
    rw [hz]
    refine lv_icmp_eq (tgt := 1061) hx hb al_d297 (by decide) (fun _ => ?_) (fun h => absurd rfl h)
    exact kk f2 H2 locs2 hI2 hR2
  have ht : w.1 = 0 := hv01
  obtain ⟨t, x⟩ := w
  have ht : t = 0 := ht
  subst ht
  exact key _ rfl

theorem al_case4 (C : al_C p s m meth c b L xs D dA sa sv) (hR : al_R s D dA sa ad f H locs) (hl : lv_has ls 4 [(0, .ref b), (1, .ref (ad.getD 0 0)), (2, .ref (ad.getD 270 0)), (3, .int (nI i))]) (hi : i + 6 ≤ L) (hcs : cells ≤ 600000 ∧ slots ≤ 7302250) (hH : al_H Inv) (hI : Inv f) (kk : ∀ (f2 : am_F) (H2 : Heap) (locs2 : List Loc), Inv f2 → al_R s D dA sa ad f2 H2 locs2 → W p l e room_1 s m #[Value.ref b] below meth c H2 locs2 cells slots Q (F0 m 1061 ls [])) : W p l e room_1 s m #[Value.ref b] below meth c H locs cells slots Q (F0 m 302 ls []) := by
  obtain ⟨⟨hx, hb, hr, hml, hown, hts0, hX, hbl, hlk, hgv⟩, hK, hFo, hL⟩ := id C
  have hcl := hH (4, 63, 207, 1, 0) (al_mem 4 rfl) f [(xs (i + 1)).toInt] rfl (by intro x hx; simp at hx; subst hx; exact am_inT _) hI
  refine lv_aload_n hx hb al_d302 rfl (lv_at hl 1 rfl) ?_
  refine al_arg C hR hl hi (k := 1) (by decide) al_d303 al_d304 al_d305 al_d306 al_d307 ?_
  have ev : [(0, (xs (i + 1)).toInt)].map (am_rv sa ad) = [.int (xs (i + 1))] := by simp [am_rv0, al_xs]
  have es : ([.int (xs (i + 1)), .ref (ad.getD 0 0)] : List Value) = ([(0, (xs (i + 1)).toInt)].map (am_rv sa ad)).reverse ++ am_rv sa ad (109, 0) :: [] := by rw [ev]; rfl
  rw [es]
  refine al_call (pc := 308) (idx := 33) (mi := 63) (q := am_m63) (t0 := 109) (a0 := 0) (as := [(0, (xs (i + 1)).toInt)]) (rest := []) (l := l) (e := e) (below := below) (Q := Q) C hR hl.1 rfl rfl al_l33 al_d308 (show [109, 0] = am_pt 63 by decide +kernel) (by decide) (List.forall_mem_cons.mpr ⟨al_ok109, al_ints (as := [(xs (i + 1)).toInt]) (by intro x hx; simp at hx; subst hx; exact am_inT _)⟩) (Nat.zero_le _) hcs hcl ?_
  intro v f1 H1 locs1 hcl2 hv hR1
  have hv3 : ¬ v.1 = 3 := by
    obtain ⟨_, w9, f9, _, h9, h8, _⟩ := hcl2
    rw [h8]; decide
  rw [if_neg hv3]
  refine lv_aload_n hx hb al_d311 rfl (lv_at hl 2 rfl) ?_
  refine al_arg C hR1 hl hi (k := 1) (by decide) al_d312 al_d313 al_d314 al_d315 al_d316 ?_
  have hcat : ([am_rv sa ad v].map fun v => v.category).sum ≤ 8 := by
    show (am_rv sa ad v).category + 0 ≤ 8
    rw [am_cat2]; split <;> omega
  have es2 : ([.int (xs (i + 1)), .ref (ad.getD 270 0), am_rv sa ad v] : List Value) = ([(0, (xs (i + 1)).toInt)].map (am_rv sa ad)).reverse ++ am_rv sa ad (110, 270) :: [am_rv sa ad v] := by rw [ev]; rfl
  rw [show ((some (am_rv sa ad v)).toList ++ []) = [am_rv sa ad v] from rfl, es2]
  refine al_call (pc := 317) (idx := 36) (mi := 207) (q := am_m207) (t0 := 110) (a0 := 270) (as := [(0, (xs (i + 1)).toInt)]) (rest := [am_rv sa ad v]) (l := l) (e := e) (below := below) (Q := Q) C hR1 hl.1 rfl rfl al_l36 al_d317 (show [110, 0] = am_pt 207 by decide +kernel) (by decide) (List.forall_mem_cons.mpr ⟨al_ok110, al_ints (as := [(xs (i + 1)).toInt]) (by intro x hx; simp at hx; subst hx; exact am_inT _)⟩) hcat hcs hcl2 ?_
  intro w f2 H2 locs2 hw hw2 hR2
  obtain ⟨rfl, hv01, hI2⟩ := hw
  rw [if_neg hv3]
  rw [show ((some (am_rv sa ad w)).toList ++ [am_rv sa ad w]) = [am_rv sa ad w, am_rv sa ad w] from rfl]
  have key : ∀ z : Int32, am_rv sa ad w = .int z → W p l e room_1 s m #[Value.ref b] below meth c H2 locs2 cells slots Q (F0 m 320 ls [am_rv sa ad w, am_rv sa ad w]) := by
    intro z hz
    rw [hz]
    refine lv_icmp_eq (tgt := 1061) hx hb al_d320 (by decide) (fun _ => ?_) (fun h => absurd rfl h)
    exact kk f2 H2 locs2 hI2 hR2
  have ht : w.1 = 0 := hv01
  obtain ⟨t, x⟩ := w
  have ht : t = 0 := ht
  subst ht
  exact key _ rfl

theorem al_case5 (C : al_C p s m meth c b L xs D dA sa sv) (hR : al_R s D dA sa ad f H locs) (hl : lv_has ls 4 [(0, .ref b), (1, .ref (ad.getD 0 0)), (2, .ref (ad.getD 270 0)), (3, .int (nI i))]) (hi : i + 6 ≤ L) (hcs : cells ≤ 600000 ∧ slots ≤ 7302250) (hH : al_H Inv) (hI : Inv f) (kk : ∀ (f2 : am_F) (H2 : Heap) (locs2 : List Loc), Inv f2 → al_R s D dA sa ad f2 H2 locs2 → W p l e room_1 s m #[Value.ref b] below meth c H2 locs2 cells slots Q (F0 m 1061 ls [])) : W p l e room_1 s m #[Value.ref b] below meth c H locs cells slots Q (F0 m 325 ls []) := by
  obtain ⟨⟨hx, hb, hr, hml, hown, hts0, hX, hbl, hlk, hgv⟩, hK, hFo, hL⟩ := id C
  have hcl := hH (5, 80, 228, 3, 0) (al_mem 5 rfl) f [(xs (i + 1)).toInt, (xs (i + 2)).toInt, (xs (i + 3)).toInt] rfl (by intro x hx; simp at hx; rcases hx with rfl | rfl | rfl <;> exact am_inT _) hI
  refine lv_aload_n hx hb al_d325 rfl (lv_at hl 1 rfl) ?_
  refine al_arg C hR hl hi (k := 1) (by decide) al_d326 al_d327 al_d328 al_d329 al_d330 ?_
  refine al_arg C hR hl hi (k := 2) (by decide) al_d331 al_d332 al_d333 al_d334 al_d335 ?_
  refine al_arg C hR hl hi (k := 3) (by decide) al_d336 al_d337 al_d338 al_d339 al_d340 ?_
  have ev : [(0, (xs (i + 1)).toInt), (0, (xs (i + 2)).toInt), (0, (xs (i + 3)).toInt)].map (am_rv sa ad) = [.int (xs (i + 1)), .int (xs (i + 2)), .int (xs (i + 3))] := by simp [am_rv0, al_xs]
  have es : ([.int (xs (i + 3)), .int (xs (i + 2)), .int (xs (i + 1)), .ref (ad.getD 0 0)] : List Value) = ([(0, (xs (i + 1)).toInt), (0, (xs (i + 2)).toInt), (0, (xs (i + 3)).toInt)].map (am_rv sa ad)).reverse ++ am_rv sa ad (109, 0) :: [] := by rw [ev]; rfl
  rw [es]
  refine al_call (pc := 341) (idx := 37) (mi := 80) (q := am_m80) (t0 := 109) (a0 := 0) (as := [(0, (xs (i + 1)).toInt), (0, (xs (i + 2)).toInt), (0, (xs (i + 3)).toInt)]) (rest := []) (l := l) (e := e) (below := below) (Q := Q) C hR hl.1 rfl rfl al_l37 al_d341 (show [109, 0, 0, 0] = am_pt 80 by decide +kernel) (by decide) (List.forall_mem_cons.mpr ⟨al_ok109, al_ints (as := [(xs (i + 1)).toInt, (xs (i + 2)).toInt, (xs (i + 3)).toInt]) (by intro x hx; simp at hx; rcases hx with rfl | rfl | rfl <;> exact am_inT _)⟩) (Nat.zero_le _) hcs hcl ?_
  intro v f1 H1 locs1 hcl2 hv hR1
  have hv3 : ¬ v.1 = 3 := by
    obtain ⟨_, w9, f9, _, h9, h8, _⟩ := hcl2
    rw [h8]; decide
  rw [if_neg hv3]
  refine lv_aload_n hx hb al_d344 rfl (lv_at hl 2 rfl) ?_
  refine al_arg C hR1 hl hi (k := 1) (by decide) al_d345 al_d346 al_d347 al_d348 al_d349 ?_
  refine al_arg C hR1 hl hi (k := 2) (by decide) al_d350 al_d351 al_d352 al_d353 al_d354 ?_
  refine al_arg C hR1 hl hi (k := 3) (by decide) al_d355 al_d356 al_d357 al_d358 al_d359 ?_
  have hcat : ([am_rv sa ad v].map fun v => v.category).sum ≤ 8 := by
    show (am_rv sa ad v).category + 0 ≤ 8
    rw [am_cat2]; split <;> omega
  have es2 : ([.int (xs (i + 3)), .int (xs (i + 2)), .int (xs (i + 1)), .ref (ad.getD 270 0), am_rv sa ad v] : List Value) = ([(0, (xs (i + 1)).toInt), (0, (xs (i + 2)).toInt), (0, (xs (i + 3)).toInt)].map (am_rv sa ad)).reverse ++ am_rv sa ad (110, 270) :: [am_rv sa ad v] := by rw [ev]; rfl
  rw [show ((some (am_rv sa ad v)).toList ++ []) = [am_rv sa ad v] from rfl, es2]
  refine al_call (pc := 360) (idx := 41) (mi := 228) (q := am_m228) (t0 := 110) (a0 := 270) (as := [(0, (xs (i + 1)).toInt), (0, (xs (i + 2)).toInt), (0, (xs (i + 3)).toInt)]) (rest := [am_rv sa ad v]) (l := l) (e := e) (below := below) (Q := Q) C hR1 hl.1 rfl rfl al_l41 al_d360 (show [110, 0, 0, 0] = am_pt 228 by decide +kernel) (by decide) (List.forall_mem_cons.mpr ⟨al_ok110, al_ints (as := [(xs (i + 1)).toInt, (xs (i + 2)).toInt, (xs (i + 3)).toInt]) (by intro x hx; simp at hx; rcases hx with rfl | rfl | rfl <;> exact am_inT _)⟩) hcat hcs hcl2 ?_
  intro w f2 H2 locs2 hw hw2 hR2
  obtain ⟨rfl, hv01, hI2⟩ := hw
  rw [if_neg hv3]
  rw [show ((some (am_rv sa ad w)).toList ++ [am_rv sa ad w]) = [am_rv sa ad w, am_rv sa ad w] from rfl]
  have key : ∀ z : Int32, am_rv sa ad w = .int z → W p l e room_1 s m #[Value.ref b] below meth c H2 locs2 cells slots Q (F0 m 363 ls [am_rv sa ad w, am_rv sa ad w]) := by
    intro z hz
    rw [hz]
    refine lv_icmp_eq (tgt := 1061) hx hb al_d363 (by decide) (fun _ => ?_) (fun h => absurd rfl h)
    exact kk f2 H2 locs2 hI2 hR2
  have ht : w.1 = 0 := hv01
  obtain ⟨t, x⟩ := w
  have ht : t = 0 := ht
  subst ht
  exact key _ rfl

theorem al_case6 (C : al_C p s m meth c b L xs D dA sa sv) (hR : al_R s D dA sa ad f H locs) (hl : lv_has ls 4 [(0, .ref b), (1, .ref (ad.getD 0 0)), (2, .ref (ad.getD 270 0)), (3, .int (nI i))]) (hi : i + 6 ≤ L) (hcs : cells ≤ 600000 ∧ slots ≤ 7302250) (hH : al_H Inv) (hI : Inv f) (kk : ∀ (f2 : am_F) (H2 : Heap) (locs2 : List Loc), Inv f2 → al_R s D dA sa ad f2 H2 locs2 → W p l e room_1 s m #[Value.ref b] below meth c H2 locs2 cells slots Q (F0 m 1061 ls [])) : W p l e room_1 s m #[Value.ref b] below meth c H locs cells slots Q (F0 m 368 ls []) := by
  obtain ⟨⟨hx, hb, hr, hml, hown, hts0, hX, hbl, hlk, hgv⟩, hK, hFo, hL⟩ := id C
  have hcl := hH (6, 85, 229, 2, 0) (al_mem 6 rfl) f [(xs (i + 1)).toInt, (xs (i + 2)).toInt] rfl (by intro x hx; simp at hx; rcases hx with rfl | rfl <;> exact am_inT _) hI
  refine lv_aload_n hx hb al_d368 rfl (lv_at hl 1 rfl) ?_
  refine al_arg C hR hl hi (k := 1) (by decide) al_d369 al_d370 al_d371 al_d372 al_d373 ?_
  refine al_arg C hR hl hi (k := 2) (by decide) al_d374 al_d375 al_d376 al_d377 al_d378 ?_
  have ev : [(0, (xs (i + 1)).toInt), (0, (xs (i + 2)).toInt)].map (am_rv sa ad) = [.int (xs (i + 1)), .int (xs (i + 2))] := by simp [am_rv0, al_xs]
  have es : ([.int (xs (i + 2)), .int (xs (i + 1)), .ref (ad.getD 0 0)] : List Value) = ([(0, (xs (i + 1)).toInt), (0, (xs (i + 2)).toInt)].map (am_rv sa ad)).reverse ++ am_rv sa ad (109, 0) :: [] := by rw [ev]; rfl
  rw [es]
  refine al_call (pc := 379) (idx := 42) (mi := 85) (q := am_m85) (t0 := 109) (a0 := 0) (as := [(0, (xs (i + 1)).toInt), (0, (xs (i + 2)).toInt)]) (rest := []) (l := l) (e := e) (below := below) (Q := Q) C hR hl.1 rfl rfl al_l42 al_d379 (show [109, 0, 0] = am_pt 85 by decide +kernel) (by decide) (List.forall_mem_cons.mpr ⟨al_ok109, al_ints (as := [(xs (i + 1)).toInt, (xs (i + 2)).toInt]) (by intro x hx; simp at hx; rcases hx with rfl | rfl <;> exact am_inT _)⟩) (Nat.zero_le _) hcs hcl ?_
  intro v f1 H1 locs1 hcl2 hv hR1
  have hv3 : ¬ v.1 = 3 := by
    obtain ⟨_, w9, f9, _, h9, h8, _⟩ := hcl2
    rw [h8]; decide
  rw [if_neg hv3]
  refine lv_aload_n hx hb al_d382 rfl (lv_at hl 2 rfl) ?_
  refine al_arg C hR1 hl hi (k := 1) (by decide) al_d383 al_d384 al_d385 al_d386 al_d387 ?_
  refine al_arg C hR1 hl hi (k := 2) (by decide) al_d388 al_d389 al_d390 al_d391 al_d392 ?_
  have hcat : ([am_rv sa ad v].map fun v => v.category).sum ≤ 8 := by
    show (am_rv sa ad v).category + 0 ≤ 8
    rw [am_cat2]; split <;> omega
  have es2 : ([.int (xs (i + 2)), .int (xs (i + 1)), .ref (ad.getD 270 0), am_rv sa ad v] : List Value) = ([(0, (xs (i + 1)).toInt), (0, (xs (i + 2)).toInt)].map (am_rv sa ad)).reverse ++ am_rv sa ad (110, 270) :: [am_rv sa ad v] := by rw [ev]; rfl
  rw [show ((some (am_rv sa ad v)).toList ++ []) = [am_rv sa ad v] from rfl, es2]
  refine al_call (pc := 393) (idx := 46) (mi := 229) (q := am_m229) (t0 := 110) (a0 := 270) (as := [(0, (xs (i + 1)).toInt), (0, (xs (i + 2)).toInt)]) (rest := [am_rv sa ad v]) (l := l) (e := e) (below := below) (Q := Q) C hR1 hl.1 rfl rfl al_l46 al_d393 (show [110, 0, 0] = am_pt 229 by decide +kernel) (by decide) (List.forall_mem_cons.mpr ⟨al_ok110, al_ints (as := [(xs (i + 1)).toInt, (xs (i + 2)).toInt]) (by intro x hx; simp at hx; rcases hx with rfl | rfl <;> exact am_inT _)⟩) hcat hcs hcl2 ?_
  intro w f2 H2 locs2 hw hw2 hR2
  obtain ⟨rfl, hv01, hI2⟩ := hw
  rw [if_neg hv3]
  rw [show ((some (am_rv sa ad w)).toList ++ [am_rv sa ad w]) = [am_rv sa ad w, am_rv sa ad w] from rfl]
  have key : ∀ z : Int32, am_rv sa ad w = .int z → W p l e room_1 s m #[Value.ref b] below meth c H2 locs2 cells slots Q (F0 m 396 ls [am_rv sa ad w, am_rv sa ad w]) := by
    intro z hz
    rw [hz]
    refine lv_icmp_eq (tgt := 1061) hx hb al_d396 (by decide) (fun _ => ?_) (fun h => absurd rfl h)
    exact kk f2 H2 locs2 hI2 hR2
  have ht : w.1 = 0 := hv01
  obtain ⟨t, x⟩ := w
  have ht : t = 0 := ht
  subst ht
  exact key _ rfl

theorem al_case7 (C : al_C p s m meth c b L xs D dA sa sv) (hR : al_R s D dA sa ad f H locs) (hl : lv_has ls 4 [(0, .ref b), (1, .ref (ad.getD 0 0)), (2, .ref (ad.getD 270 0)), (3, .int (nI i))]) (hi : i + 6 ≤ L) (hcs : cells ≤ 600000 ∧ slots ≤ 7302250) (hH : al_H Inv) (hI : Inv f) (kk : ∀ (f2 : am_F) (H2 : Heap) (locs2 : List Loc), Inv f2 → al_R s D dA sa ad f2 H2 locs2 → W p l e room_1 s m #[Value.ref b] below meth c H2 locs2 cells slots Q (F0 m 1061 ls [])) : W p l e room_1 s m #[Value.ref b] below meth c H locs cells slots Q (F0 m 401 ls []) := by
  obtain ⟨⟨hx, hb, hr, hml, hown, hts0, hX, hbl, hlk, hgv⟩, hK, hFo, hL⟩ := id C
  have hcl := hH (7, 86, 231, 2, 0) (al_mem 7 rfl) f [(xs (i + 1)).toInt, (xs (i + 2)).toInt] rfl (by intro x hx; simp at hx; rcases hx with rfl | rfl <;> exact am_inT _) hI
  refine lv_aload_n hx hb al_d401 rfl (lv_at hl 1 rfl) ?_
  refine al_arg C hR hl hi (k := 1) (by decide) al_d402 al_d403 al_d404 al_d405 al_d406 ?_
  refine al_arg C hR hl hi (k := 2) (by decide) al_d407 al_d408 al_d409 al_d410 al_d411 ?_
  have ev : [(0, (xs (i + 1)).toInt), (0, (xs (i + 2)).toInt)].map (am_rv sa ad) = [.int (xs (i + 1)), .int (xs (i + 2))] := by simp [am_rv0, al_xs]
  have es : ([.int (xs (i + 2)), .int (xs (i + 1)), .ref (ad.getD 0 0)] : List Value) = ([(0, (xs (i + 1)).toInt), (0, (xs (i + 2)).toInt)].map (am_rv sa ad)).reverse ++ am_rv sa ad (109, 0) :: [] := by rw [ev]; rfl
  rw [es]
  refine al_call (pc := 412) (idx := 47) (mi := 86) (q := am_m86) (t0 := 109) (a0 := 0) (as := [(0, (xs (i + 1)).toInt), (0, (xs (i + 2)).toInt)]) (rest := []) (l := l) (e := e) (below := below) (Q := Q) C hR hl.1 rfl rfl al_l47 al_d412 (show [109, 0, 0] = am_pt 86 by decide +kernel) (by decide) (List.forall_mem_cons.mpr ⟨al_ok109, al_ints (as := [(xs (i + 1)).toInt, (xs (i + 2)).toInt]) (by intro x hx; simp at hx; rcases hx with rfl | rfl <;> exact am_inT _)⟩) (Nat.zero_le _) hcs hcl ?_
  intro v f1 H1 locs1 hcl2 hv hR1
  have hv3 : ¬ v.1 = 3 := by
    obtain ⟨_, w9, f9, _, h9, h8, _⟩ := hcl2
    rw [h8]; decide
  rw [if_neg hv3]
  refine lv_aload_n hx hb al_d415 rfl (lv_at hl 2 rfl) ?_
  refine al_arg C hR1 hl hi (k := 1) (by decide) al_d416 al_d417 al_d418 al_d419 al_d420 ?_
  refine al_arg C hR1 hl hi (k := 2) (by decide) al_d421 al_d422 al_d423 al_d424 al_d425 ?_
  have hcat : ([am_rv sa ad v].map fun v => v.category).sum ≤ 8 := by
    show (am_rv sa ad v).category + 0 ≤ 8
    rw [am_cat2]; split <;> omega
  have es2 : ([.int (xs (i + 2)), .int (xs (i + 1)), .ref (ad.getD 270 0), am_rv sa ad v] : List Value) = ([(0, (xs (i + 1)).toInt), (0, (xs (i + 2)).toInt)].map (am_rv sa ad)).reverse ++ am_rv sa ad (110, 270) :: [am_rv sa ad v] := by rw [ev]; rfl
  rw [show ((some (am_rv sa ad v)).toList ++ []) = [am_rv sa ad v] from rfl, es2]
  refine al_call (pc := 426) (idx := 50) (mi := 231) (q := am_m231) (t0 := 110) (a0 := 270) (as := [(0, (xs (i + 1)).toInt), (0, (xs (i + 2)).toInt)]) (rest := [am_rv sa ad v]) (l := l) (e := e) (below := below) (Q := Q) C hR1 hl.1 rfl rfl al_l50 al_d426 (show [110, 0, 0] = am_pt 231 by decide +kernel) (by decide) (List.forall_mem_cons.mpr ⟨al_ok110, al_ints (as := [(xs (i + 1)).toInt, (xs (i + 2)).toInt]) (by intro x hx; simp at hx; rcases hx with rfl | rfl <;> exact am_inT _)⟩) hcat hcs hcl2 ?_
  intro w f2 H2 locs2 hw hw2 hR2
  obtain ⟨rfl, hv01, hI2⟩ := hw
  rw [if_neg hv3]
  rw [show ((some (am_rv sa ad w)).toList ++ [am_rv sa ad w]) = [am_rv sa ad w, am_rv sa ad w] from rfl]
  have key : ∀ z : Int32, am_rv sa ad w = .int z → W p l e room_1 s m #[Value.ref b] below meth c H2 locs2 cells slots Q (F0 m 429 ls [am_rv sa ad w, am_rv sa ad w]) := by
    intro z hz
    rw [hz]
    refine lv_icmp_eq (tgt := 1061) hx hb al_d429 (by decide) (fun _ => ?_) (fun h => absurd rfl h)
    exact kk f2 H2 locs2 hI2 hR2
  have ht : w.1 = 0 := hv01
  obtain ⟨t, x⟩ := w
  have ht : t = 0 := ht
  subst ht
  exact key _ rfl

theorem al_case8 (C : al_C p s m meth c b L xs D dA sa sv) (hR : al_R s D dA sa ad f H locs) (hl : lv_has ls 4 [(0, .ref b), (1, .ref (ad.getD 0 0)), (2, .ref (ad.getD 270 0)), (3, .int (nI i))]) (hi : i + 6 ≤ L) (hcs : cells ≤ 600000 ∧ slots ≤ 7302250) (hH : al_H Inv) (hI : Inv f) (kk : ∀ (f2 : am_F) (H2 : Heap) (locs2 : List Loc), Inv f2 → al_R s D dA sa ad f2 H2 locs2 → W p l e room_1 s m #[Value.ref b] below meth c H2 locs2 cells slots Q (F0 m 1061 ls [])) : W p l e room_1 s m #[Value.ref b] below meth c H locs cells slots Q (F0 m 434 ls []) := by
  obtain ⟨⟨hx, hb, hr, hml, hown, hts0, hX, hbl, hlk, hgv⟩, hK, hFo, hL⟩ := id C
  have hcl := hH (8, 87, 234, 2, 0) (al_mem 8 rfl) f [(xs (i + 1)).toInt, (xs (i + 2)).toInt] rfl (by intro x hx; simp at hx; rcases hx with rfl | rfl <;> exact am_inT _) hI
  refine lv_aload_n hx hb al_d434 rfl (lv_at hl 1 rfl) ?_
  refine al_arg C hR hl hi (k := 1) (by decide) al_d435 al_d436 al_d437 al_d438 al_d439 ?_
  refine al_arg C hR hl hi (k := 2) (by decide) al_d440 al_d441 al_d442 al_d443 al_d444 ?_
  have ev : [(0, (xs (i + 1)).toInt), (0, (xs (i + 2)).toInt)].map (am_rv sa ad) = [.int (xs (i + 1)), .int (xs (i + 2))] := by simp [am_rv0, al_xs]
  have es : ([.int (xs (i + 2)), .int (xs (i + 1)), .ref (ad.getD 0 0)] : List Value) = ([(0, (xs (i + 1)).toInt), (0, (xs (i + 2)).toInt)].map (am_rv sa ad)).reverse ++ am_rv sa ad (109, 0) :: [] := by rw [ev]; rfl
  rw [es]
  refine al_call (pc := 445) (idx := 51) (mi := 87) (q := am_m87) (t0 := 109) (a0 := 0) (as := [(0, (xs (i + 1)).toInt), (0, (xs (i + 2)).toInt)]) (rest := []) (l := l) (e := e) (below := below) (Q := Q) C hR hl.1 rfl rfl al_l51 al_d445 (show [109, 0, 0] = am_pt 87 by decide +kernel) (by decide) (List.forall_mem_cons.mpr ⟨al_ok109, al_ints (as := [(xs (i + 1)).toInt, (xs (i + 2)).toInt]) (by intro x hx; simp at hx; rcases hx with rfl | rfl <;> exact am_inT _)⟩) (Nat.zero_le _) hcs hcl ?_
  intro v f1 H1 locs1 hcl2 hv hR1
  have hv3 : ¬ v.1 = 3 := by
    obtain ⟨_, w9, f9, _, h9, h8, _⟩ := hcl2
    rw [h8]; decide
  rw [if_neg hv3]
  refine lv_aload_n hx hb al_d448 rfl (lv_at hl 2 rfl) ?_
  refine al_arg C hR1 hl hi (k := 1) (by decide) al_d449 al_d450 al_d451 al_d452 al_d453 ?_
  refine al_arg C hR1 hl hi (k := 2) (by decide) al_d454 al_d455 al_d456 al_d457 al_d458 ?_
  have hcat : ([am_rv sa ad v].map fun v => v.category).sum ≤ 8 := by
    show (am_rv sa ad v).category + 0 ≤ 8
    rw [am_cat2]; split <;> omega
  have es2 : ([.int (xs (i + 2)), .int (xs (i + 1)), .ref (ad.getD 270 0), am_rv sa ad v] : List Value) = ([(0, (xs (i + 1)).toInt), (0, (xs (i + 2)).toInt)].map (am_rv sa ad)).reverse ++ am_rv sa ad (110, 270) :: [am_rv sa ad v] := by rw [ev]; rfl
  rw [show ((some (am_rv sa ad v)).toList ++ []) = [am_rv sa ad v] from rfl, es2]
  refine al_call (pc := 459) (idx := 54) (mi := 234) (q := am_m234) (t0 := 110) (a0 := 270) (as := [(0, (xs (i + 1)).toInt), (0, (xs (i + 2)).toInt)]) (rest := [am_rv sa ad v]) (l := l) (e := e) (below := below) (Q := Q) C hR1 hl.1 rfl rfl al_l54 al_d459 (show [110, 0, 0] = am_pt 234 by decide +kernel) (by decide) (List.forall_mem_cons.mpr ⟨al_ok110, al_ints (as := [(xs (i + 1)).toInt, (xs (i + 2)).toInt]) (by intro x hx; simp at hx; rcases hx with rfl | rfl <;> exact am_inT _)⟩) hcat hcs hcl2 ?_
  intro w f2 H2 locs2 hw hw2 hR2
  obtain ⟨rfl, hv01, hI2⟩ := hw
  rw [if_neg hv3]
  rw [show ((some (am_rv sa ad w)).toList ++ [am_rv sa ad w]) = [am_rv sa ad w, am_rv sa ad w] from rfl]
  have key : ∀ z : Int32, am_rv sa ad w = .int z → W p l e room_1 s m #[Value.ref b] below meth c H2 locs2 cells slots Q (F0 m 462 ls [am_rv sa ad w, am_rv sa ad w]) := by
    intro z hz
    rw [hz]
    refine lv_icmp_eq (tgt := 1061) hx hb al_d462 (by decide) (fun _ => ?_) (fun h => absurd rfl h)
    exact kk f2 H2 locs2 hI2 hR2
  have ht : w.1 = 0 := hv01
  obtain ⟨t, x⟩ := w
  have ht : t = 0 := ht
  subst ht
  exact key _ rfl

theorem al_case9 (C : al_C p s m meth c b L xs D dA sa sv) (hR : al_R s D dA sa ad f H locs) (hl : lv_has ls 4 [(0, .ref b), (1, .ref (ad.getD 0 0)), (2, .ref (ad.getD 270 0)), (3, .int (nI i))]) (hi : i + 6 ≤ L) (hcs : cells ≤ 600000 ∧ slots ≤ 7302250) (hH : al_H Inv) (hI : Inv f) (kk : ∀ (f2 : am_F) (H2 : Heap) (locs2 : List Loc), Inv f2 → al_R s D dA sa ad f2 H2 locs2 → W p l e room_1 s m #[Value.ref b] below meth c H2 locs2 cells slots Q (F0 m 1061 ls [])) : W p l e room_1 s m #[Value.ref b] below meth c H locs cells slots Q (F0 m 467 ls []) := by
  obtain ⟨⟨hx, hb, hr, hml, hown, hts0, hX, hbl, hlk, hgv⟩, hK, hFo, hL⟩ := id C
  have hcl := hH (9, 89, 236, 2, 0) (al_mem 9 rfl) f [(xs (i + 1)).toInt, (xs (i + 2)).toInt] rfl (by intro x hx; simp at hx; rcases hx with rfl | rfl <;> exact am_inT _) hI
  refine lv_aload_n hx hb al_d467 rfl (lv_at hl 1 rfl) ?_
  refine al_arg C hR hl hi (k := 1) (by decide) al_d468 al_d469 al_d470 al_d471 al_d472 ?_
  refine al_arg C hR hl hi (k := 2) (by decide) al_d473 al_d474 al_d475 al_d476 al_d477 ?_
  have ev : [(0, (xs (i + 1)).toInt), (0, (xs (i + 2)).toInt)].map (am_rv sa ad) = [.int (xs (i + 1)), .int (xs (i + 2))] := by simp [am_rv0, al_xs]
  have es : ([.int (xs (i + 2)), .int (xs (i + 1)), .ref (ad.getD 0 0)] : List Value) = ([(0, (xs (i + 1)).toInt), (0, (xs (i + 2)).toInt)].map (am_rv sa ad)).reverse ++ am_rv sa ad (109, 0) :: [] := by rw [ev]; rfl
  rw [es]
  refine al_call (pc := 478) (idx := 55) (mi := 89) (q := am_m89) (t0 := 109) (a0 := 0) (as := [(0, (xs (i + 1)).toInt), (0, (xs (i + 2)).toInt)]) (rest := []) (l := l) (e := e) (below := below) (Q := Q) C hR hl.1 rfl rfl al_l55 al_d478 (show [109, 0, 0] = am_pt 89 by decide +kernel) (by decide) (List.forall_mem_cons.mpr ⟨al_ok109, al_ints (as := [(xs (i + 1)).toInt, (xs (i + 2)).toInt]) (by intro x hx; simp at hx; rcases hx with rfl | rfl <;> exact am_inT _)⟩) (Nat.zero_le _) hcs hcl ?_
  intro v f1 H1 locs1 hcl2 hv hR1
  have hv3 : ¬ v.1 = 3 := by
    obtain ⟨_, w9, f9, _, h9, h8, _⟩ := hcl2
    rw [h8]; decide
  rw [if_neg hv3]
  refine lv_aload_n hx hb al_d481 rfl (lv_at hl 2 rfl) ?_
  refine al_arg C hR1 hl hi (k := 1) (by decide) al_d482 al_d483 al_d484 al_d485 al_d486 ?_
  refine al_arg C hR1 hl hi (k := 2) (by decide) al_d487 al_d488 al_d489 al_d490 al_d491 ?_
  have hcat : ([am_rv sa ad v].map fun v => v.category).sum ≤ 8 := by
    show (am_rv sa ad v).category + 0 ≤ 8
    rw [am_cat2]; split <;> omega
  have es2 : ([.int (xs (i + 2)), .int (xs (i + 1)), .ref (ad.getD 270 0), am_rv sa ad v] : List Value) = ([(0, (xs (i + 1)).toInt), (0, (xs (i + 2)).toInt)].map (am_rv sa ad)).reverse ++ am_rv sa ad (110, 270) :: [am_rv sa ad v] := by rw [ev]; rfl
  rw [show ((some (am_rv sa ad v)).toList ++ []) = [am_rv sa ad v] from rfl, es2]
  refine al_call (pc := 492) (idx := 58) (mi := 236) (q := am_m236) (t0 := 110) (a0 := 270) (as := [(0, (xs (i + 1)).toInt), (0, (xs (i + 2)).toInt)]) (rest := [am_rv sa ad v]) (l := l) (e := e) (below := below) (Q := Q) C hR1 hl.1 rfl rfl al_l58 al_d492 (show [110, 0, 0] = am_pt 236 by decide +kernel) (by decide) (List.forall_mem_cons.mpr ⟨al_ok110, al_ints (as := [(xs (i + 1)).toInt, (xs (i + 2)).toInt]) (by intro x hx; simp at hx; rcases hx with rfl | rfl <;> exact am_inT _)⟩) hcat hcs hcl2 ?_
  intro w f2 H2 locs2 hw hw2 hR2
  obtain ⟨rfl, hv01, hI2⟩ := hw
  rw [if_neg hv3]
  rw [show ((some (am_rv sa ad w)).toList ++ [am_rv sa ad w]) = [am_rv sa ad w, am_rv sa ad w] from rfl]
  have key : ∀ z : Int32, am_rv sa ad w = .int z → W p l e room_1 s m #[Value.ref b] below meth c H2 locs2 cells slots Q (F0 m 495 ls [am_rv sa ad w, am_rv sa ad w]) := by
    intro z hz
    rw [hz]
    refine lv_icmp_eq (tgt := 1061) hx hb al_d495 (by decide) (fun _ => ?_) (fun h => absurd rfl h)
    exact kk f2 H2 locs2 hI2 hR2
  have ht : w.1 = 0 := hv01
  obtain ⟨t, x⟩ := w
  have ht : t = 0 := ht
  subst ht
  exact key _ rfl

theorem al_case10 (C : al_C p s m meth c b L xs D dA sa sv) (hR : al_R s D dA sa ad f H locs) (hl : lv_has ls 4 [(0, .ref b), (1, .ref (ad.getD 0 0)), (2, .ref (ad.getD 270 0)), (3, .int (nI i))]) (hi : i + 6 ≤ L) (hcs : cells ≤ 600000 ∧ slots ≤ 7302250) (hH : al_H Inv) (hI : Inv f) (kk : ∀ (f2 : am_F) (H2 : Heap) (locs2 : List Loc), Inv f2 → al_R s D dA sa ad f2 H2 locs2 → W p l e room_1 s m #[Value.ref b] below meth c H2 locs2 cells slots Q (F0 m 1061 ls [])) : W p l e room_1 s m #[Value.ref b] below meth c H locs cells slots Q (F0 m 500 ls []) := by
  obtain ⟨⟨hx, hb, hr, hml, hown, hts0, hX, hbl, hlk, hgv⟩, hK, hFo, hL⟩ := id C
  have hcl := hH (10, 91, 238, 2, 0) (al_mem 10 rfl) f [(xs (i + 1)).toInt, (xs (i + 2)).toInt] rfl (by intro x hx; simp at hx; rcases hx with rfl | rfl <;> exact am_inT _) hI
  refine lv_aload_n hx hb al_d500 rfl (lv_at hl 1 rfl) ?_
  refine al_arg C hR hl hi (k := 1) (by decide) al_d501 al_d502 al_d503 al_d504 al_d505 ?_
  refine al_arg C hR hl hi (k := 2) (by decide) al_d506 al_d507 al_d508 al_d509 al_d510 ?_
  have ev : [(0, (xs (i + 1)).toInt), (0, (xs (i + 2)).toInt)].map (am_rv sa ad) = [.int (xs (i + 1)), .int (xs (i + 2))] := by simp [am_rv0, al_xs]
  have es : ([.int (xs (i + 2)), .int (xs (i + 1)), .ref (ad.getD 0 0)] : List Value) = ([(0, (xs (i + 1)).toInt), (0, (xs (i + 2)).toInt)].map (am_rv sa ad)).reverse ++ am_rv sa ad (109, 0) :: [] := by rw [ev]; rfl
  rw [es]
  refine al_call (pc := 511) (idx := 59) (mi := 91) (q := am_m91) (t0 := 109) (a0 := 0) (as := [(0, (xs (i + 1)).toInt), (0, (xs (i + 2)).toInt)]) (rest := []) (l := l) (e := e) (below := below) (Q := Q) C hR hl.1 rfl rfl al_l59 al_d511 (show [109, 0, 0] = am_pt 91 by decide +kernel) (by decide) (List.forall_mem_cons.mpr ⟨al_ok109, al_ints (as := [(xs (i + 1)).toInt, (xs (i + 2)).toInt]) (by intro x hx; simp at hx; rcases hx with rfl | rfl <;> exact am_inT _)⟩) (Nat.zero_le _) hcs hcl ?_
  intro v f1 H1 locs1 hcl2 hv hR1
  have hv3 : ¬ v.1 = 3 := by
    obtain ⟨_, w9, f9, _, h9, h8, _⟩ := hcl2
    rw [h8]; decide
  rw [if_neg hv3]
  refine lv_aload_n hx hb al_d514 rfl (lv_at hl 2 rfl) ?_
  refine al_arg C hR1 hl hi (k := 1) (by decide) al_d515 al_d516 al_d517 al_d518 al_d519 ?_
  refine al_arg C hR1 hl hi (k := 2) (by decide) al_d520 al_d521 al_d522 al_d523 al_d524 ?_
  have hcat : ([am_rv sa ad v].map fun v => v.category).sum ≤ 8 := by
    show (am_rv sa ad v).category + 0 ≤ 8
    rw [am_cat2]; split <;> omega
  have es2 : ([.int (xs (i + 2)), .int (xs (i + 1)), .ref (ad.getD 270 0), am_rv sa ad v] : List Value) = ([(0, (xs (i + 1)).toInt), (0, (xs (i + 2)).toInt)].map (am_rv sa ad)).reverse ++ am_rv sa ad (110, 270) :: [am_rv sa ad v] := by rw [ev]; rfl
  rw [show ((some (am_rv sa ad v)).toList ++ []) = [am_rv sa ad v] from rfl, es2]
  refine al_call (pc := 525) (idx := 62) (mi := 238) (q := am_m238) (t0 := 110) (a0 := 270) (as := [(0, (xs (i + 1)).toInt), (0, (xs (i + 2)).toInt)]) (rest := [am_rv sa ad v]) (l := l) (e := e) (below := below) (Q := Q) C hR1 hl.1 rfl rfl al_l62 al_d525 (show [110, 0, 0] = am_pt 238 by decide +kernel) (by decide) (List.forall_mem_cons.mpr ⟨al_ok110, al_ints (as := [(xs (i + 1)).toInt, (xs (i + 2)).toInt]) (by intro x hx; simp at hx; rcases hx with rfl | rfl <;> exact am_inT _)⟩) hcat hcs hcl2 ?_
  intro w f2 H2 locs2 hw hw2 hR2
  obtain ⟨rfl, hv01, hI2⟩ := hw
  rw [if_neg hv3]
  rw [show ((some (am_rv sa ad w)).toList ++ [am_rv sa ad w]) = [am_rv sa ad w, am_rv sa ad w] from rfl]
  have key : ∀ z : Int32, am_rv sa ad w = .int z → W p l e room_1 s m #[Value.ref b] below meth c H2 locs2 cells slots Q (F0 m 528 ls [am_rv sa ad w, am_rv sa ad w]) := by
    intro z hz
    rw [hz]
    refine lv_icmp_eq (tgt := 1061) hx hb al_d528 (by decide) (fun _ => ?_) (fun h => absurd rfl h)
    exact kk f2 H2 locs2 hI2 hR2
  have ht : w.1 = 0 := hv01
  obtain ⟨t, x⟩ := w
  have ht : t = 0 := ht
  subst ht
  exact key _ rfl

theorem al_case11 (C : al_C p s m meth c b L xs D dA sa sv) (hR : al_R s D dA sa ad f H locs) (hl : lv_has ls 4 [(0, .ref b), (1, .ref (ad.getD 0 0)), (2, .ref (ad.getD 270 0)), (3, .int (nI i))]) (hi : i + 6 ≤ L) (hcs : cells ≤ 600000 ∧ slots ≤ 7302250) (hH : al_H Inv) (hI : Inv f) (kk : ∀ (f2 : am_F) (H2 : Heap) (locs2 : List Loc), Inv f2 → al_R s D dA sa ad f2 H2 locs2 → W p l e room_1 s m #[Value.ref b] below meth c H2 locs2 cells slots Q (F0 m 1061 ls [])) : W p l e room_1 s m #[Value.ref b] below meth c H locs cells slots Q (F0 m 533 ls []) := by
  obtain ⟨⟨hx, hb, hr, hml, hown, hts0, hX, hbl, hlk, hgv⟩, hK, hFo, hL⟩ := id C
  have hcl := hH (11, 93, 241, 2, 0) (al_mem 11 rfl) f [(xs (i + 1)).toInt, (xs (i + 2)).toInt] rfl (by intro x hx; simp at hx; rcases hx with rfl | rfl <;> exact am_inT _) hI
  refine lv_aload_n hx hb al_d533 rfl (lv_at hl 1 rfl) ?_
  refine al_arg C hR hl hi (k := 1) (by decide) al_d534 al_d535 al_d536 al_d537 al_d538 ?_
  refine al_arg C hR hl hi (k := 2) (by decide) al_d539 al_d540 al_d541 al_d542 al_d543 ?_
  have ev : [(0, (xs (i + 1)).toInt), (0, (xs (i + 2)).toInt)].map (am_rv sa ad) = [.int (xs (i + 1)), .int (xs (i + 2))] := by simp [am_rv0, al_xs]
  have es : ([.int (xs (i + 2)), .int (xs (i + 1)), .ref (ad.getD 0 0)] : List Value) = ([(0, (xs (i + 1)).toInt), (0, (xs (i + 2)).toInt)].map (am_rv sa ad)).reverse ++ am_rv sa ad (109, 0) :: [] := by rw [ev]; rfl
  rw [es]
  refine al_call (pc := 544) (idx := 63) (mi := 93) (q := am_m93) (t0 := 109) (a0 := 0) (as := [(0, (xs (i + 1)).toInt), (0, (xs (i + 2)).toInt)]) (rest := []) (l := l) (e := e) (below := below) (Q := Q) C hR hl.1 rfl rfl al_l63 al_d544 (show [109, 0, 0] = am_pt 93 by decide +kernel) (by decide) (List.forall_mem_cons.mpr ⟨al_ok109, al_ints (as := [(xs (i + 1)).toInt, (xs (i + 2)).toInt]) (by intro x hx; simp at hx; rcases hx with rfl | rfl <;> exact am_inT _)⟩) (Nat.zero_le _) hcs hcl ?_
  intro v f1 H1 locs1 hcl2 hv hR1
  have hv3 : ¬ v.1 = 3 := by
    obtain ⟨_, w9, f9, _, h9, h8, _⟩ := hcl2
    rw [h8]; decide
  rw [if_neg hv3]
  refine lv_aload_n hx hb al_d547 rfl (lv_at hl 2 rfl) ?_
  refine al_arg C hR1 hl hi (k := 1) (by decide) al_d548 al_d549 al_d550 al_d551 al_d552 ?_
  refine al_arg C hR1 hl hi (k := 2) (by decide) al_d553 al_d554 al_d555 al_d556 al_d557 ?_
  have hcat : ([am_rv sa ad v].map fun v => v.category).sum ≤ 8 := by
    show (am_rv sa ad v).category + 0 ≤ 8
    rw [am_cat2]; split <;> omega
  have es2 : ([.int (xs (i + 2)), .int (xs (i + 1)), .ref (ad.getD 270 0), am_rv sa ad v] : List Value) = ([(0, (xs (i + 1)).toInt), (0, (xs (i + 2)).toInt)].map (am_rv sa ad)).reverse ++ am_rv sa ad (110, 270) :: [am_rv sa ad v] := by rw [ev]; rfl
  rw [show ((some (am_rv sa ad v)).toList ++ []) = [am_rv sa ad v] from rfl, es2]
  refine al_call (pc := 558) (idx := 66) (mi := 241) (q := am_m241) (t0 := 110) (a0 := 270) (as := [(0, (xs (i + 1)).toInt), (0, (xs (i + 2)).toInt)]) (rest := [am_rv sa ad v]) (l := l) (e := e) (below := below) (Q := Q) C hR1 hl.1 rfl rfl al_l66 al_d558 (show [110, 0, 0] = am_pt 241 by decide +kernel) (by decide) (List.forall_mem_cons.mpr ⟨al_ok110, al_ints (as := [(xs (i + 1)).toInt, (xs (i + 2)).toInt]) (by intro x hx; simp at hx; rcases hx with rfl | rfl <;> exact am_inT _)⟩) hcat hcs hcl2 ?_
  intro w f2 H2 locs2 hw hw2 hR2
  obtain ⟨rfl, hv01, hI2⟩ := hw
  rw [if_neg hv3]
  rw [show ((some (am_rv sa ad w)).toList ++ [am_rv sa ad w]) = [am_rv sa ad w, am_rv sa ad w] from rfl]
  have key : ∀ z : Int32, am_rv sa ad w = .int z → W p l e room_1 s m #[Value.ref b] below meth c H2 locs2 cells slots Q (F0 m 561 ls [am_rv sa ad w, am_rv sa ad w]) := by
    intro z hz
    rw [hz]
    refine lv_icmp_eq (tgt := 1061) hx hb al_d561 (by decide) (fun _ => ?_) (fun h => absurd rfl h)
    exact kk f2 H2 locs2 hI2 hR2
  have ht : w.1 = 0 := hv01
  obtain ⟨t, x⟩ := w
  have ht : t = 0 := ht
  subst ht
  exact key _ rfl

theorem al_case12 (C : al_C p s m meth c b L xs D dA sa sv) (hR : al_R s D dA sa ad f H locs) (hl : lv_has ls 4 [(0, .ref b), (1, .ref (ad.getD 0 0)), (2, .ref (ad.getD 270 0)), (3, .int (nI i))]) (hi : i + 6 ≤ L) (hcs : cells ≤ 600000 ∧ slots ≤ 7302250) (hH : al_H Inv) (hI : Inv f) (kk : ∀ (f2 : am_F) (H2 : Heap) (locs2 : List Loc), Inv f2 → al_R s D dA sa ad f2 H2 locs2 → W p l e room_1 s m #[Value.ref b] below meth c H2 locs2 cells slots Q (F0 m 1061 ls [])) : W p l e room_1 s m #[Value.ref b] below meth c H locs cells slots Q (F0 m 566 ls []) := by
  obtain ⟨⟨hx, hb, hr, hml, hown, hts0, hX, hbl, hlk, hgv⟩, hK, hFo, hL⟩ := id C
  have hcl := hH (12, 94, 242, 2, 0) (al_mem 12 rfl) f [(xs (i + 1)).toInt, (xs (i + 2)).toInt] rfl (by intro x hx; simp at hx; rcases hx with rfl | rfl <;> exact am_inT _) hI
  refine lv_aload_n hx hb al_d566 rfl (lv_at hl 1 rfl) ?_
  refine al_arg C hR hl hi (k := 1) (by decide) al_d567 al_d568 al_d569 al_d570 al_d571 ?_
  refine al_arg C hR hl hi (k := 2) (by decide) al_d572 al_d573 al_d574 al_d575 al_d576 ?_
  have ev : [(0, (xs (i + 1)).toInt), (0, (xs (i + 2)).toInt)].map (am_rv sa ad) = [.int (xs (i + 1)), .int (xs (i + 2))] := by simp [am_rv0, al_xs]
  have es : ([.int (xs (i + 2)), .int (xs (i + 1)), .ref (ad.getD 0 0)] : List Value) = ([(0, (xs (i + 1)).toInt), (0, (xs (i + 2)).toInt)].map (am_rv sa ad)).reverse ++ am_rv sa ad (109, 0) :: [] := by rw [ev]; rfl
  rw [es]
  refine al_call (pc := 577) (idx := 67) (mi := 94) (q := am_m94) (t0 := 109) (a0 := 0) (as := [(0, (xs (i + 1)).toInt), (0, (xs (i + 2)).toInt)]) (rest := []) (l := l) (e := e) (below := below) (Q := Q) C hR hl.1 rfl rfl al_l67 al_d577 (show [109, 0, 0] = am_pt 94 by decide +kernel) (by decide) (List.forall_mem_cons.mpr ⟨al_ok109, al_ints (as := [(xs (i + 1)).toInt, (xs (i + 2)).toInt]) (by intro x hx; simp at hx; rcases hx with rfl | rfl <;> exact am_inT _)⟩) (Nat.zero_le _) hcs hcl ?_
  intro v f1 H1 locs1 hcl2 hv hR1
  have hv3 : ¬ v.1 = 3 := by
    obtain ⟨_, w9, f9, _, h9, h8, _⟩ := hcl2
    rw [h8]; decide
  rw [if_neg hv3]
  refine lv_aload_n hx hb al_d580 rfl (lv_at hl 2 rfl) ?_
  refine al_arg C hR1 hl hi (k := 1) (by decide) al_d581 al_d582 al_d583 al_d584 al_d585 ?_
  refine al_arg C hR1 hl hi (k := 2) (by decide) al_d586 al_d587 al_d588 al_d589 al_d590 ?_
  have hcat : ([am_rv sa ad v].map fun v => v.category).sum ≤ 8 := by
    show (am_rv sa ad v).category + 0 ≤ 8
    rw [am_cat2]; split <;> omega
  have es2 : ([.int (xs (i + 2)), .int (xs (i + 1)), .ref (ad.getD 270 0), am_rv sa ad v] : List Value) = ([(0, (xs (i + 1)).toInt), (0, (xs (i + 2)).toInt)].map (am_rv sa ad)).reverse ++ am_rv sa ad (110, 270) :: [am_rv sa ad v] := by rw [ev]; rfl
  rw [show ((some (am_rv sa ad v)).toList ++ []) = [am_rv sa ad v] from rfl, es2]
  refine al_call (pc := 591) (idx := 70) (mi := 242) (q := am_m242) (t0 := 110) (a0 := 270) (as := [(0, (xs (i + 1)).toInt), (0, (xs (i + 2)).toInt)]) (rest := [am_rv sa ad v]) (l := l) (e := e) (below := below) (Q := Q) C hR1 hl.1 rfl rfl al_l70 al_d591 (show [110, 0, 0] = am_pt 242 by decide +kernel) (by decide) (List.forall_mem_cons.mpr ⟨al_ok110, al_ints (as := [(xs (i + 1)).toInt, (xs (i + 2)).toInt]) (by intro x hx; simp at hx; rcases hx with rfl | rfl <;> exact am_inT _)⟩) hcat hcs hcl2 ?_
  intro w f2 H2 locs2 hw hw2 hR2
  obtain ⟨rfl, hv01, hI2⟩ := hw
  rw [if_neg hv3]
  rw [show ((some (am_rv sa ad w)).toList ++ [am_rv sa ad w]) = [am_rv sa ad w, am_rv sa ad w] from rfl]
  have key : ∀ z : Int32, am_rv sa ad w = .int z → W p l e room_1 s m #[Value.ref b] below meth c H2 locs2 cells slots Q (F0 m 594 ls [am_rv sa ad w, am_rv sa ad w]) := by
    intro z hz
    rw [hz]
    refine lv_icmp_eq (tgt := 1061) hx hb al_d594 (by decide) (fun _ => ?_) (fun h => absurd rfl h)
    exact kk f2 H2 locs2 hI2 hR2
  have ht : w.1 = 0 := hv01
  obtain ⟨t, x⟩ := w
  have ht : t = 0 := ht
  subst ht
  exact key _ rfl

theorem al_case13 (C : al_C p s m meth c b L xs D dA sa sv) (hR : al_R s D dA sa ad f H locs) (hl : lv_has ls 4 [(0, .ref b), (1, .ref (ad.getD 0 0)), (2, .ref (ad.getD 270 0)), (3, .int (nI i))]) (hi : i + 6 ≤ L) (hcs : cells ≤ 600000 ∧ slots ≤ 7302250) (hH : al_H Inv) (hI : Inv f) (kk : ∀ (f2 : am_F) (H2 : Heap) (locs2 : List Loc), Inv f2 → al_R s D dA sa ad f2 H2 locs2 → W p l e room_1 s m #[Value.ref b] below meth c H2 locs2 cells slots Q (F0 m 1061 ls [])) : W p l e room_1 s m #[Value.ref b] below meth c H locs cells slots Q (F0 m 599 ls []) := by
  obtain ⟨⟨hx, hb, hr, hml, hown, hts0, hX, hbl, hlk, hgv⟩, hK, hFo, hL⟩ := id C
  have hcl := hH (13, 106, 255, 1, 0) (al_mem 13 rfl) f [(xs (i + 1)).toInt] rfl (by intro x hx; simp at hx; subst hx; exact am_inT _) hI
  refine lv_aload_n hx hb al_d599 rfl (lv_at hl 1 rfl) ?_
  refine al_arg C hR hl hi (k := 1) (by decide) al_d600 al_d601 al_d602 al_d603 al_d604 ?_
  have ev : [(0, (xs (i + 1)).toInt)].map (am_rv sa ad) = [.int (xs (i + 1))] := by simp [am_rv0, al_xs]
  have es : ([.int (xs (i + 1)), .ref (ad.getD 0 0)] : List Value) = ([(0, (xs (i + 1)).toInt)].map (am_rv sa ad)).reverse ++ am_rv sa ad (109, 0) :: [] := by rw [ev]; rfl
  rw [es]
  refine al_call (pc := 605) (idx := 71) (mi := 106) (q := am_m106) (t0 := 109) (a0 := 0) (as := [(0, (xs (i + 1)).toInt)]) (rest := []) (l := l) (e := e) (below := below) (Q := Q) C hR hl.1 rfl rfl al_l71 al_d605 (show [109, 0] = am_pt 106 by decide +kernel) (by decide) (List.forall_mem_cons.mpr ⟨al_ok109, al_ints (as := [(xs (i + 1)).toInt]) (by intro x hx; simp at hx; subst hx; exact am_inT _)⟩) (Nat.zero_le _) hcs hcl ?_
  intro v f1 H1 locs1 hcl2 hv hR1
  have hv3 : ¬ v.1 = 3 := by
    obtain ⟨_, w9, f9, _, h9, h8, _⟩ := hcl2
    rw [h8]; decide
  rw [if_neg hv3]
  refine lv_aload_n hx hb al_d608 rfl (lv_at hl 2 rfl) ?_
  refine al_arg C hR1 hl hi (k := 1) (by decide) al_d609 al_d610 al_d611 al_d612 al_d613 ?_
  have hcat : ([am_rv sa ad v].map fun v => v.category).sum ≤ 8 := by
    show (am_rv sa ad v).category + 0 ≤ 8
    rw [am_cat2]; split <;> omega
  have es2 : ([.int (xs (i + 1)), .ref (ad.getD 270 0), am_rv sa ad v] : List Value) = ([(0, (xs (i + 1)).toInt)].map (am_rv sa ad)).reverse ++ am_rv sa ad (110, 270) :: [am_rv sa ad v] := by rw [ev]; rfl
  rw [show ((some (am_rv sa ad v)).toList ++ []) = [am_rv sa ad v] from rfl, es2]
  refine al_call (pc := 614) (idx := 74) (mi := 255) (q := am_m255) (t0 := 110) (a0 := 270) (as := [(0, (xs (i + 1)).toInt)]) (rest := [am_rv sa ad v]) (l := l) (e := e) (below := below) (Q := Q) C hR1 hl.1 rfl rfl al_l74 al_d614 (show [110, 0] = am_pt 255 by decide +kernel) (by decide) (List.forall_mem_cons.mpr ⟨al_ok110, al_ints (as := [(xs (i + 1)).toInt]) (by intro x hx; simp at hx; subst hx; exact am_inT _)⟩) hcat hcs hcl2 ?_
  intro w f2 H2 locs2 hw hw2 hR2
  obtain ⟨rfl, hv01, hI2⟩ := hw
  rw [if_neg hv3]
  rw [show ((some (am_rv sa ad w)).toList ++ [am_rv sa ad w]) = [am_rv sa ad w, am_rv sa ad w] from rfl]
  have key : ∀ z : Int32, am_rv sa ad w = .int z → W p l e room_1 s m #[Value.ref b] below meth c H2 locs2 cells slots Q (F0 m 617 ls [am_rv sa ad w, am_rv sa ad w]) := by
    intro z hz
    rw [hz]
    refine lv_icmp_eq (tgt := 1061) hx hb al_d617 (by decide) (fun _ => ?_) (fun h => absurd rfl h)
    exact kk f2 H2 locs2 hI2 hR2
  have ht : w.1 = 0 := hv01
  obtain ⟨t, x⟩ := w
  have ht : t = 0 := ht
  subst ht
  exact key _ rfl

theorem al_case14 (C : al_C p s m meth c b L xs D dA sa sv) (hR : al_R s D dA sa ad f H locs) (hl : lv_has ls 4 [(0, .ref b), (1, .ref (ad.getD 0 0)), (2, .ref (ad.getD 270 0)), (3, .int (nI i))]) (hi : i + 6 ≤ L) (hcs : cells ≤ 600000 ∧ slots ≤ 7302250) (hH : al_H Inv) (hI : Inv f) (kk : ∀ (f2 : am_F) (H2 : Heap) (locs2 : List Loc), Inv f2 → al_R s D dA sa ad f2 H2 locs2 → W p l e room_1 s m #[Value.ref b] below meth c H2 locs2 cells slots Q (F0 m 1061 ls [])) : W p l e room_1 s m #[Value.ref b] below meth c H locs cells slots Q (F0 m 622 ls []) := by
  obtain ⟨⟨hx, hb, hr, hml, hown, hts0, hX, hbl, hlk, hgv⟩, hK, hFo, hL⟩ := id C
  have hcl := hH (14, 107, 256, 2, 0) (al_mem 14 rfl) f [(xs (i + 1)).toInt, (xs (i + 2)).toInt] rfl (by intro x hx; simp at hx; rcases hx with rfl | rfl <;> exact am_inT _) hI
  refine lv_aload_n hx hb al_d622 rfl (lv_at hl 1 rfl) ?_
  refine al_arg C hR hl hi (k := 1) (by decide) al_d623 al_d624 al_d625 al_d626 al_d627 ?_
  refine al_arg C hR hl hi (k := 2) (by decide) al_d628 al_d629 al_d630 al_d631 al_d632 ?_
  have ev : [(0, (xs (i + 1)).toInt), (0, (xs (i + 2)).toInt)].map (am_rv sa ad) = [.int (xs (i + 1)), .int (xs (i + 2))] := by simp [am_rv0, al_xs]
  have es : ([.int (xs (i + 2)), .int (xs (i + 1)), .ref (ad.getD 0 0)] : List Value) = ([(0, (xs (i + 1)).toInt), (0, (xs (i + 2)).toInt)].map (am_rv sa ad)).reverse ++ am_rv sa ad (109, 0) :: [] := by rw [ev]; rfl
  rw [es]
  refine al_call (pc := 633) (idx := 75) (mi := 107) (q := am_m107) (t0 := 109) (a0 := 0) (as := [(0, (xs (i + 1)).toInt), (0, (xs (i + 2)).toInt)]) (rest := []) (l := l) (e := e) (below := below) (Q := Q) C hR hl.1 rfl rfl al_l75 al_d633 (show [109, 0, 0] = am_pt 107 by decide +kernel) (by decide) (List.forall_mem_cons.mpr ⟨al_ok109, al_ints (as := [(xs (i + 1)).toInt, (xs (i + 2)).toInt]) (by intro x hx; simp at hx; rcases hx with rfl | rfl <;> exact am_inT _)⟩) (Nat.zero_le _) hcs hcl ?_
  intro v f1 H1 locs1 hcl2 hv hR1
  have hv3 : ¬ v.1 = 3 := by
    obtain ⟨_, w9, f9, _, h9, h8, _⟩ := hcl2
    rw [h8]; decide
  rw [if_neg hv3]
  refine lv_aload_n hx hb al_d636 rfl (lv_at hl 2 rfl) ?_
  refine al_arg C hR1 hl hi (k := 1) (by decide) al_d637 al_d638 al_d639 al_d640 al_d641 ?_
  refine al_arg C hR1 hl hi (k := 2) (by decide) al_d642 al_d643 al_d644 al_d645 al_d646 ?_
  have hcat : ([am_rv sa ad v].map fun v => v.category).sum ≤ 8 := by
    show (am_rv sa ad v).category + 0 ≤ 8
    rw [am_cat2]; split <;> omega
  have es2 : ([.int (xs (i + 2)), .int (xs (i + 1)), .ref (ad.getD 270 0), am_rv sa ad v] : List Value) = ([(0, (xs (i + 1)).toInt), (0, (xs (i + 2)).toInt)].map (am_rv sa ad)).reverse ++ am_rv sa ad (110, 270) :: [am_rv sa ad v] := by rw [ev]; rfl
  rw [show ((some (am_rv sa ad v)).toList ++ []) = [am_rv sa ad v] from rfl, es2]
  refine al_call (pc := 647) (idx := 78) (mi := 256) (q := am_m256) (t0 := 110) (a0 := 270) (as := [(0, (xs (i + 1)).toInt), (0, (xs (i + 2)).toInt)]) (rest := [am_rv sa ad v]) (l := l) (e := e) (below := below) (Q := Q) C hR1 hl.1 rfl rfl al_l78 al_d647 (show [110, 0, 0] = am_pt 256 by decide +kernel) (by decide) (List.forall_mem_cons.mpr ⟨al_ok110, al_ints (as := [(xs (i + 1)).toInt, (xs (i + 2)).toInt]) (by intro x hx; simp at hx; rcases hx with rfl | rfl <;> exact am_inT _)⟩) hcat hcs hcl2 ?_
  intro w f2 H2 locs2 hw hw2 hR2
  obtain ⟨rfl, hv01, hI2⟩ := hw
  rw [if_neg hv3]
  rw [show ((some (am_rv sa ad w)).toList ++ [am_rv sa ad w]) = [am_rv sa ad w, am_rv sa ad w] from rfl]
  have key : ∀ z : Int32, am_rv sa ad w = .int z → W p l e room_1 s m #[Value.ref b] below meth c H2 locs2 cells slots Q (F0 m 650 ls [am_rv sa ad w, am_rv sa ad w]) := by
    intro z hz
    rw [hz]
    refine lv_icmp_eq (tgt := 1061) hx hb al_d650 (by decide) (fun _ => ?_) (fun h => absurd rfl h)
    exact kk f2 H2 locs2 hI2 hR2
  have ht : w.1 = 0 := hv01
  obtain ⟨t, x⟩ := w
  have ht : t = 0 := ht
  subst ht
  exact key _ rfl

theorem al_case15 (C : al_C p s m meth c b L xs D dA sa sv) (hR : al_R s D dA sa ad f H locs) (hl : lv_has ls 4 [(0, .ref b), (1, .ref (ad.getD 0 0)), (2, .ref (ad.getD 270 0)), (3, .int (nI i))]) (hi : i + 6 ≤ L) (hcs : cells ≤ 600000 ∧ slots ≤ 7302250) (hH : al_H Inv) (hI : Inv f) (kk : ∀ (f2 : am_F) (H2 : Heap) (locs2 : List Loc), Inv f2 → al_R s D dA sa ad f2 H2 locs2 → W p l e room_1 s m #[Value.ref b] below meth c H2 locs2 cells slots Q (F0 m 1061 ls [])) : W p l e room_1 s m #[Value.ref b] below meth c H locs cells slots Q (F0 m 655 ls []) := by
  obtain ⟨⟨hx, hb, hr, hml, hown, hts0, hX, hbl, hlk, hgv⟩, hK, hFo, hL⟩ := id C
  have hcl := hH (15, 112, 261, 2, 1) (al_mem 15 rfl) f [(xs (i + 1)).toInt, (xs (i + 2)).toInt] rfl (by intro x hx; simp at hx; rcases hx with rfl | rfl <;> exact am_inT _) hI
  refine lv_aload_n hx hb al_d655 rfl (lv_at hl 1 rfl) ?_
  refine al_arg C hR hl hi (k := 1) (by decide) al_d656 al_d657 al_d658 al_d659 al_d660 ?_
  refine al_arg C hR hl hi (k := 2) (by decide) al_d661 al_d662 al_d663 al_d664 al_d665 ?_
  have ev : [(0, (xs (i + 1)).toInt), (0, (xs (i + 2)).toInt)].map (am_rv sa ad) = [.int (xs (i + 1)), .int (xs (i + 2))] := by simp [am_rv0, al_xs]
  have es : ([.int (xs (i + 2)), .int (xs (i + 1)), .ref (ad.getD 0 0)] : List Value) = ([(0, (xs (i + 1)).toInt), (0, (xs (i + 2)).toInt)].map (am_rv sa ad)).reverse ++ am_rv sa ad (109, 0) :: [] := by rw [ev]; rfl
  rw [es]
  refine al_call (pc := 666) (idx := 79) (mi := 112) (q := am_m112) (t0 := 109) (a0 := 0) (as := [(0, (xs (i + 1)).toInt), (0, (xs (i + 2)).toInt)]) (rest := []) (l := l) (e := e) (below := below) (Q := Q) C hR hl.1 rfl rfl al_l79 al_d666 (show [109, 0, 0] = am_pt 112 by decide +kernel) (by decide) (List.forall_mem_cons.mpr ⟨al_ok109, al_ints (as := [(xs (i + 1)).toInt, (xs (i + 2)).toInt]) (by intro x hx; simp at hx; rcases hx with rfl | rfl <;> exact am_inT _)⟩) (Nat.zero_le _) hcs hcl ?_
  intro v f1 H1 locs1 hcl2 hv hR1
  have hv3 : ¬ v.1 = 3 := by
    obtain ⟨_, w9, f9, _, h9, h8, _⟩ := hcl2
    rw [h8]; decide
  rw [if_neg hv3]
  refine lv_aload_n hx hb al_d669 rfl (lv_at hl 2 rfl) ?_
  refine al_arg C hR1 hl hi (k := 1) (by decide) al_d670 al_d671 al_d672 al_d673 al_d674 ?_
  refine al_arg C hR1 hl hi (k := 2) (by decide) al_d675 al_d676 al_d677 al_d678 al_d679 ?_
  have hcat : ([am_rv sa ad v].map fun v => v.category).sum ≤ 8 := by
    show (am_rv sa ad v).category + 0 ≤ 8
    rw [am_cat2]; split <;> omega
  have es2 : ([.int (xs (i + 2)), .int (xs (i + 1)), .ref (ad.getD 270 0), am_rv sa ad v] : List Value) = ([(0, (xs (i + 1)).toInt), (0, (xs (i + 2)).toInt)].map (am_rv sa ad)).reverse ++ am_rv sa ad (110, 270) :: [am_rv sa ad v] := by rw [ev]; rfl
  rw [show ((some (am_rv sa ad v)).toList ++ []) = [am_rv sa ad v] from rfl, es2]
  refine al_call (pc := 680) (idx := 83) (mi := 261) (q := am_m261) (t0 := 110) (a0 := 270) (as := [(0, (xs (i + 1)).toInt), (0, (xs (i + 2)).toInt)]) (rest := [am_rv sa ad v]) (l := l) (e := e) (below := below) (Q := Q) C hR1 hl.1 rfl rfl al_l83 al_d680 (show [110, 0, 0] = am_pt 261 by decide +kernel) (by decide) (List.forall_mem_cons.mpr ⟨al_ok110, al_ints (as := [(xs (i + 1)).toInt, (xs (i + 2)).toInt]) (by intro x hx; simp at hx; rcases hx with rfl | rfl <;> exact am_inT _)⟩) hcat hcs hcl2 ?_
  intro w f2 H2 locs2 hw hw2 hR2
  obtain ⟨rfl, hv01, hI2⟩ := hw
  rw [if_neg hv3]
  rw [show ((some (am_rv sa ad w)).toList ++ [am_rv sa ad w]) = [am_rv sa ad w, am_rv sa ad w] from rfl]
  have key : ∀ z : Int64, am_rv sa ad w = .long z → W p l e room_1 s m #[Value.ref b] below meth c H2 locs2 cells slots Q (F0 m 683 ls [am_rv sa ad w, am_rv sa ad w]) := by
    intro z hz
    rw [hz]
    refine W.lcmp hx hb al_d683 ?_
    rw [show lg_cmp z z = 0 by unfold lg_cmp; rw [if_neg (fun h => by have := Int64.lt_iff_toInt_lt.mp h; omega), if_pos rfl]]
    refine lv_if_eq (tgt := 1061) hx hb al_d684 (by decide) (fun _ => ?_) (fun h => absurd rfl h)
    exact kk f2 H2 locs2 hI2 hR2
  have ht : w.1 = 1 := hv01
  obtain ⟨t, x⟩ := w
  have ht : t = 1 := ht
  subst ht
  exact key _ rfl

theorem al_case16 (C : al_C p s m meth c b L xs D dA sa sv) (hR : al_R s D dA sa ad f H locs) (hl : lv_has ls 4 [(0, .ref b), (1, .ref (ad.getD 0 0)), (2, .ref (ad.getD 270 0)), (3, .int (nI i))]) (hi : i + 6 ≤ L) (hcs : cells ≤ 600000 ∧ slots ≤ 7302250) (hH : al_H Inv) (hI : Inv f) (kk : ∀ (f2 : am_F) (H2 : Heap) (locs2 : List Loc), Inv f2 → al_R s D dA sa ad f2 H2 locs2 → W p l e room_1 s m #[Value.ref b] below meth c H2 locs2 cells slots Q (F0 m 1061 ls [])) : W p l e room_1 s m #[Value.ref b] below meth c H locs cells slots Q (F0 m 689 ls []) := by
  obtain ⟨⟨hx, hb, hr, hml, hown, hts0, hX, hbl, hlk, hgv⟩, hK, hFo, hL⟩ := id C
  have hcl := hH (16, 113, 262, 1, 0) (al_mem 16 rfl) f [(xs (i + 1)).toInt] rfl (by intro x hx; simp at hx; subst hx; exact am_inT _) hI
  refine lv_aload_n hx hb al_d689 rfl (lv_at hl 1 rfl) ?_
  refine al_arg C hR hl hi (k := 1) (by decide) al_d690 al_d691 al_d692 al_d693 al_d694 ?_
  have ev : [(0, (xs (i + 1)).toInt)].map (am_rv sa ad) = [.int (xs (i + 1))] := by simp [am_rv0, al_xs]
  have es : ([.int (xs (i + 1)), .ref (ad.getD 0 0)] : List Value) = ([(0, (xs (i + 1)).toInt)].map (am_rv sa ad)).reverse ++ am_rv sa ad (109, 0) :: [] := by rw [ev]; rfl
  rw [es]
  refine al_call (pc := 695) (idx := 84) (mi := 113) (q := am_m113) (t0 := 109) (a0 := 0) (as := [(0, (xs (i + 1)).toInt)]) (rest := []) (l := l) (e := e) (below := below) (Q := Q) C hR hl.1 rfl rfl al_l84 al_d695 (show [109, 0] = am_pt 113 by decide +kernel) (by decide) (List.forall_mem_cons.mpr ⟨al_ok109, al_ints (as := [(xs (i + 1)).toInt]) (by intro x hx; simp at hx; subst hx; exact am_inT _)⟩) (Nat.zero_le _) hcs hcl ?_
  intro v f1 H1 locs1 hcl2 hv hR1
  have hv3 : ¬ v.1 = 3 := by
    obtain ⟨_, w9, f9, _, h9, h8, _⟩ := hcl2
    rw [h8]; decide
  rw [if_neg hv3]
  refine lv_aload_n hx hb al_d698 rfl (lv_at hl 2 rfl) ?_
  refine al_arg C hR1 hl hi (k := 1) (by decide) al_d699 al_d700 al_d701 al_d702 al_d703 ?_
  have hcat : ([am_rv sa ad v].map fun v => v.category).sum ≤ 8 := by
    show (am_rv sa ad v).category + 0 ≤ 8
    rw [am_cat2]; split <;> omega
  have es2 : ([.int (xs (i + 1)), .ref (ad.getD 270 0), am_rv sa ad v] : List Value) = ([(0, (xs (i + 1)).toInt)].map (am_rv sa ad)).reverse ++ am_rv sa ad (110, 270) :: [am_rv sa ad v] := by rw [ev]; rfl
  rw [show ((some (am_rv sa ad v)).toList ++ []) = [am_rv sa ad v] from rfl, es2]
  refine al_call (pc := 704) (idx := 87) (mi := 262) (q := am_m262) (t0 := 110) (a0 := 270) (as := [(0, (xs (i + 1)).toInt)]) (rest := [am_rv sa ad v]) (l := l) (e := e) (below := below) (Q := Q) C hR1 hl.1 rfl rfl al_l87 al_d704 (show [110, 0] = am_pt 262 by decide +kernel) (by decide) (List.forall_mem_cons.mpr ⟨al_ok110, al_ints (as := [(xs (i + 1)).toInt]) (by intro x hx; simp at hx; subst hx; exact am_inT _)⟩) hcat hcs hcl2 ?_
  intro w f2 H2 locs2 hw hw2 hR2
  obtain ⟨rfl, hv01, hI2⟩ := hw
  rw [if_neg hv3]
  rw [show ((some (am_rv sa ad w)).toList ++ [am_rv sa ad w]) = [am_rv sa ad w, am_rv sa ad w] from rfl]
  have key : ∀ z : Int32, am_rv sa ad w = .int z → W p l e room_1 s m #[Value.ref b] below meth c H2 locs2 cells slots Q (F0 m 707 ls [am_rv sa ad w, am_rv sa ad w]) := by
    intro z hz
    rw [hz]
    refine lv_icmp_eq (tgt := 1061) hx hb al_d707 (by decide) (fun _ => ?_) (fun h => absurd rfl h)
    exact kk f2 H2 locs2 hI2 hR2
  have ht : w.1 = 0 := hv01
  obtain ⟨t, x⟩ := w
  have ht : t = 0 := ht
  subst ht
  exact key _ rfl

theorem al_case17 (C : al_C p s m meth c b L xs D dA sa sv) (hR : al_R s D dA sa ad f H locs) (hl : lv_has ls 4 [(0, .ref b), (1, .ref (ad.getD 0 0)), (2, .ref (ad.getD 270 0)), (3, .int (nI i))]) (hi : i + 6 ≤ L) (hcs : cells ≤ 600000 ∧ slots ≤ 7302250) (hH : al_H Inv) (hI : Inv f) (kk : ∀ (f2 : am_F) (H2 : Heap) (locs2 : List Loc), Inv f2 → al_R s D dA sa ad f2 H2 locs2 → W p l e room_1 s m #[Value.ref b] below meth c H2 locs2 cells slots Q (F0 m 1061 ls [])) : W p l e room_1 s m #[Value.ref b] below meth c H locs cells slots Q (F0 m 712 ls []) := by
  obtain ⟨⟨hx, hb, hr, hml, hown, hts0, hX, hbl, hlk, hgv⟩, hK, hFo, hL⟩ := id C
  have hcl := hH (17, 119, 265, 0, 0) (al_mem 17 rfl) f [] rfl (by intro x hx; cases hx) hI
  refine lv_aload_n hx hb al_d712 rfl (lv_at hl 1 rfl) ?_
  have ev : ([] : List am_V).map (am_rv sa ad) = [] := by simp [am_rv0, al_xs]
  have es : ([.ref (ad.getD 0 0)] : List Value) = (([] : List am_V).map (am_rv sa ad)).reverse ++ am_rv sa ad (109, 0) :: [] := by rw [ev]; rfl
  rw [es]
  refine al_call (pc := 713) (idx := 88) (mi := 119) (q := am_m119) (t0 := 109) (a0 := 0) (as := []) (rest := []) (l := l) (e := e) (below := below) (Q := Q) C hR hl.1 rfl rfl al_l88 al_d713 (show [109] = am_pt 119 by decide +kernel) (by decide) (List.forall_mem_cons.mpr ⟨al_ok109, fun v hv => by cases hv⟩) (Nat.zero_le _) hcs hcl ?_
  intro v f1 H1 locs1 hcl2 hv hR1
  have hv3 : ¬ v.1 = 3 := by
    obtain ⟨_, w9, f9, _, h9, h8, _⟩ := hcl2
    rw [h8]; decide
  rw [if_neg hv3]
  refine lv_aload_n hx hb al_d716 rfl (lv_at hl 2 rfl) ?_
  have hcat : ([am_rv sa ad v].map fun v => v.category).sum ≤ 8 := by
    show (am_rv sa ad v).category + 0 ≤ 8
    rw [am_cat2]; split <;> omega
  have es2 : ([.ref (ad.getD 270 0), am_rv sa ad v] : List Value) = (([] : List am_V).map (am_rv sa ad)).reverse ++ am_rv sa ad (110, 270) :: [am_rv sa ad v] := by rw [ev]; rfl
  rw [show ((some (am_rv sa ad v)).toList ++ []) = [am_rv sa ad v] from rfl, es2]
  refine al_call (pc := 717) (idx := 91) (mi := 265) (q := am_m265) (t0 := 110) (a0 := 270) (as := []) (rest := [am_rv sa ad v]) (l := l) (e := e) (below := below) (Q := Q) C hR1 hl.1 rfl rfl al_l91 al_d717 (show [110] = am_pt 265 by decide +kernel) (by decide) (List.forall_mem_cons.mpr ⟨al_ok110, fun v hv => by cases hv⟩) hcat hcs hcl2 ?_
  intro w f2 H2 locs2 hw hw2 hR2
  obtain ⟨rfl, hv01, hI2⟩ := hw
  rw [if_neg hv3]
  rw [show ((some (am_rv sa ad w)).toList ++ [am_rv sa ad w]) = [am_rv sa ad w, am_rv sa ad w] from rfl]
  have key : ∀ z : Int32, am_rv sa ad w = .int z → W p l e room_1 s m #[Value.ref b] below meth c H2 locs2 cells slots Q (F0 m 720 ls [am_rv sa ad w, am_rv sa ad w]) := by
    intro z hz
    rw [hz]
    refine lv_icmp_eq (tgt := 1061) hx hb al_d720 (by decide) (fun _ => ?_) (fun h => absurd rfl h)
    exact kk f2 H2 locs2 hI2 hR2
  have ht : w.1 = 0 := hv01
  obtain ⟨t, x⟩ := w
  have ht : t = 0 := ht
  subst ht
  exact key _ rfl

theorem al_case18 (C : al_C p s m meth c b L xs D dA sa sv) (hR : al_R s D dA sa ad f H locs) (hl : lv_has ls 4 [(0, .ref b), (1, .ref (ad.getD 0 0)), (2, .ref (ad.getD 270 0)), (3, .int (nI i))]) (hi : i + 6 ≤ L) (hcs : cells ≤ 600000 ∧ slots ≤ 7302250) (hH : al_H Inv) (hI : Inv f) (kk : ∀ (f2 : am_F) (H2 : Heap) (locs2 : List Loc), Inv f2 → al_R s D dA sa ad f2 H2 locs2 → W p l e room_1 s m #[Value.ref b] below meth c H2 locs2 cells slots Q (F0 m 1061 ls [])) : W p l e room_1 s m #[Value.ref b] below meth c H locs cells slots Q (F0 m 725 ls []) := by
  obtain ⟨⟨hx, hb, hr, hml, hown, hts0, hX, hbl, hlk, hgv⟩, hK, hFo, hL⟩ := id C
  have hcl := hH (18, 122, 267, 2, 0) (al_mem 18 rfl) f [(xs (i + 1)).toInt, (xs (i + 2)).toInt] rfl (by intro x hx; simp at hx; rcases hx with rfl | rfl <;> exact am_inT _) hI
  refine lv_aload_n hx hb al_d725 rfl (lv_at hl 1 rfl) ?_
  refine al_arg C hR hl hi (k := 1) (by decide) al_d726 al_d727 al_d728 al_d729 al_d730 ?_
  refine al_arg C hR hl hi (k := 2) (by decide) al_d731 al_d732 al_d733 al_d734 al_d735 ?_
  have ev : [(0, (xs (i + 1)).toInt), (0, (xs (i + 2)).toInt)].map (am_rv sa ad) = [.int (xs (i + 1)), .int (xs (i + 2))] := by simp [am_rv0, al_xs]
  have es : ([.int (xs (i + 2)), .int (xs (i + 1)), .ref (ad.getD 0 0)] : List Value) = ([(0, (xs (i + 1)).toInt), (0, (xs (i + 2)).toInt)].map (am_rv sa ad)).reverse ++ am_rv sa ad (109, 0) :: [] := by rw [ev]; rfl
  rw [es]
  refine al_call (pc := 736) (idx := 92) (mi := 122) (q := am_m122) (t0 := 109) (a0 := 0) (as := [(0, (xs (i + 1)).toInt), (0, (xs (i + 2)).toInt)]) (rest := []) (l := l) (e := e) (below := below) (Q := Q) C hR hl.1 rfl rfl al_l92 al_d736 (show [109, 0, 0] = am_pt 122 by decide +kernel) (by decide) (List.forall_mem_cons.mpr ⟨al_ok109, al_ints (as := [(xs (i + 1)).toInt, (xs (i + 2)).toInt]) (by intro x hx; simp at hx; rcases hx with rfl | rfl <;> exact am_inT _)⟩) (Nat.zero_le _) hcs hcl ?_
  intro v f1 H1 locs1 hcl2 hv hR1
  have hv3 : ¬ v.1 = 3 := by
    obtain ⟨_, w9, f9, _, h9, h8, _⟩ := hcl2
    rw [h8]; decide
  rw [if_neg hv3]
  refine lv_aload_n hx hb al_d739 rfl (lv_at hl 2 rfl) ?_
  refine al_arg C hR1 hl hi (k := 1) (by decide) al_d740 al_d741 al_d742 al_d743 al_d744 ?_
  refine al_arg C hR1 hl hi (k := 2) (by decide) al_d745 al_d746 al_d747 al_d748 al_d749 ?_
  have hcat : ([am_rv sa ad v].map fun v => v.category).sum ≤ 8 := by
    show (am_rv sa ad v).category + 0 ≤ 8
    rw [am_cat2]; split <;> omega
  have es2 : ([.int (xs (i + 2)), .int (xs (i + 1)), .ref (ad.getD 270 0), am_rv sa ad v] : List Value) = ([(0, (xs (i + 1)).toInt), (0, (xs (i + 2)).toInt)].map (am_rv sa ad)).reverse ++ am_rv sa ad (110, 270) :: [am_rv sa ad v] := by rw [ev]; rfl
  rw [show ((some (am_rv sa ad v)).toList ++ []) = [am_rv sa ad v] from rfl, es2]
  refine al_call (pc := 750) (idx := 95) (mi := 267) (q := am_m267) (t0 := 110) (a0 := 270) (as := [(0, (xs (i + 1)).toInt), (0, (xs (i + 2)).toInt)]) (rest := [am_rv sa ad v]) (l := l) (e := e) (below := below) (Q := Q) C hR1 hl.1 rfl rfl al_l95 al_d750 (show [110, 0, 0] = am_pt 267 by decide +kernel) (by decide) (List.forall_mem_cons.mpr ⟨al_ok110, al_ints (as := [(xs (i + 1)).toInt, (xs (i + 2)).toInt]) (by intro x hx; simp at hx; rcases hx with rfl | rfl <;> exact am_inT _)⟩) hcat hcs hcl2 ?_
  intro w f2 H2 locs2 hw hw2 hR2
  obtain ⟨rfl, hv01, hI2⟩ := hw
  rw [if_neg hv3]
  rw [show ((some (am_rv sa ad w)).toList ++ [am_rv sa ad w]) = [am_rv sa ad w, am_rv sa ad w] from rfl]
  have key : ∀ z : Int32, am_rv sa ad w = .int z → W p l e room_1 s m #[Value.ref b] below meth c H2 locs2 cells slots Q (F0 m 753 ls [am_rv sa ad w, am_rv sa ad w]) := by
    intro z hz
    rw [hz]
    refine lv_icmp_eq (tgt := 1061) hx hb al_d753 (by decide) (fun _ => ?_) (fun h => absurd rfl h)
    exact kk f2 H2 locs2 hI2 hR2
  have ht : w.1 = 0 := hv01
  obtain ⟨t, x⟩ := w
  have ht : t = 0 := ht
  subst ht
  exact key _ rfl

theorem al_case19 (C : al_C p s m meth c b L xs D dA sa sv) (hR : al_R s D dA sa ad f H locs) (hl : lv_has ls 4 [(0, .ref b), (1, .ref (ad.getD 0 0)), (2, .ref (ad.getD 270 0)), (3, .int (nI i))]) (hi : i + 6 ≤ L) (hcs : cells ≤ 600000 ∧ slots ≤ 7302250) (hH : al_H Inv) (hI : Inv f) (kk : ∀ (f2 : am_F) (H2 : Heap) (locs2 : List Loc), Inv f2 → al_R s D dA sa ad f2 H2 locs2 → W p l e room_1 s m #[Value.ref b] below meth c H2 locs2 cells slots Q (F0 m 1061 ls [])) : W p l e room_1 s m #[Value.ref b] below meth c H locs cells slots Q (F0 m 758 ls []) := by
  obtain ⟨⟨hx, hb, hr, hml, hown, hts0, hX, hbl, hlk, hgv⟩, hK, hFo, hL⟩ := id C
  have hcl := hH (19, 124, 268, 1, 0) (al_mem 19 rfl) f [(xs (i + 1)).toInt] rfl (by intro x hx; simp at hx; subst hx; exact am_inT _) hI
  refine lv_aload_n hx hb al_d758 rfl (lv_at hl 1 rfl) ?_
  refine al_arg C hR hl hi (k := 1) (by decide) al_d759 al_d760 al_d761 al_d762 al_d763 ?_
  have ev : [(0, (xs (i + 1)).toInt)].map (am_rv sa ad) = [.int (xs (i + 1))] := by simp [am_rv0, al_xs]
  have es : ([.int (xs (i + 1)), .ref (ad.getD 0 0)] : List Value) = ([(0, (xs (i + 1)).toInt)].map (am_rv sa ad)).reverse ++ am_rv sa ad (109, 0) :: [] := by rw [ev]; rfl
  rw [es]
  refine al_call (pc := 764) (idx := 96) (mi := 124) (q := am_m124) (t0 := 109) (a0 := 0) (as := [(0, (xs (i + 1)).toInt)]) (rest := []) (l := l) (e := e) (below := below) (Q := Q) C hR hl.1 rfl rfl al_l96 al_d764 (show [109, 0] = am_pt 124 by decide +kernel) (by decide) (List.forall_mem_cons.mpr ⟨al_ok109, al_ints (as := [(xs (i + 1)).toInt]) (by intro x hx; simp at hx; subst hx; exact am_inT _)⟩) (Nat.zero_le _) hcs hcl ?_
  intro v f1 H1 locs1 hcl2 hv hR1
  have hv3 : ¬ v.1 = 3 := by
    obtain ⟨_, w9, f9, _, h9, h8, _⟩ := hcl2
    rw [h8]; decide
  rw [if_neg hv3]
  refine lv_aload_n hx hb al_d767 rfl (lv_at hl 2 rfl) ?_
  refine al_arg C hR1 hl hi (k := 1) (by decide) al_d768 al_d769 al_d770 al_d771 al_d772 ?_
  have hcat : ([am_rv sa ad v].map fun v => v.category).sum ≤ 8 := by
    show (am_rv sa ad v).category + 0 ≤ 8
    rw [am_cat2]; split <;> omega
  have es2 : ([.int (xs (i + 1)), .ref (ad.getD 270 0), am_rv sa ad v] : List Value) = ([(0, (xs (i + 1)).toInt)].map (am_rv sa ad)).reverse ++ am_rv sa ad (110, 270) :: [am_rv sa ad v] := by rw [ev]; rfl
  rw [show ((some (am_rv sa ad v)).toList ++ []) = [am_rv sa ad v] from rfl, es2]
  refine al_call (pc := 773) (idx := 99) (mi := 268) (q := am_m268) (t0 := 110) (a0 := 270) (as := [(0, (xs (i + 1)).toInt)]) (rest := [am_rv sa ad v]) (l := l) (e := e) (below := below) (Q := Q) C hR1 hl.1 rfl rfl al_l99 al_d773 (show [110, 0] = am_pt 268 by decide +kernel) (by decide) (List.forall_mem_cons.mpr ⟨al_ok110, al_ints (as := [(xs (i + 1)).toInt]) (by intro x hx; simp at hx; subst hx; exact am_inT _)⟩) hcat hcs hcl2 ?_
  intro w f2 H2 locs2 hw hw2 hR2
  obtain ⟨rfl, hv01, hI2⟩ := hw
  rw [if_neg hv3]
  rw [show ((some (am_rv sa ad w)).toList ++ [am_rv sa ad w]) = [am_rv sa ad w, am_rv sa ad w] from rfl]
  have key : ∀ z : Int32, am_rv sa ad w = .int z → W p l e room_1 s m #[Value.ref b] below meth c H2 locs2 cells slots Q (F0 m 776 ls [am_rv sa ad w, am_rv sa ad w]) := by
    intro z hz
    rw [hz]
    refine lv_icmp_eq (tgt := 1061) hx hb al_d776 (by decide) (fun _ => ?_) (fun h => absurd rfl h)
    exact kk f2 H2 locs2 hI2 hR2
  have ht : w.1 = 0 := hv01
  obtain ⟨t, x⟩ := w
  have ht : t = 0 := ht
  subst ht
  exact key _ rfl

theorem al_case20 (C : al_C p s m meth c b L xs D dA sa sv) (hR : al_R s D dA sa ad f H locs) (hl : lv_has ls 4 [(0, .ref b), (1, .ref (ad.getD 0 0)), (2, .ref (ad.getD 270 0)), (3, .int (nI i))]) (hi : i + 6 ≤ L) (hcs : cells ≤ 600000 ∧ slots ≤ 7302250) (hH : al_H Inv) (hI : Inv f) (kk : ∀ (f2 : am_F) (H2 : Heap) (locs2 : List Loc), Inv f2 → al_R s D dA sa ad f2 H2 locs2 → W p l e room_1 s m #[Value.ref b] below meth c H2 locs2 cells slots Q (F0 m 1061 ls [])) : W p l e room_1 s m #[Value.ref b] below meth c H locs cells slots Q (F0 m 781 ls []) := by
  obtain ⟨⟨hx, hb, hr, hml, hown, hts0, hX, hbl, hlk, hgv⟩, hK, hFo, hL⟩ := id C
  have hcl := hH (20, 129, 272, 2, 0) (al_mem 20 rfl) f [(xs (i + 1)).toInt, (xs (i + 2)).toInt] rfl (by intro x hx; simp at hx; rcases hx with rfl | rfl <;> exact am_inT _) hI
  refine lv_aload_n hx hb al_d781 rfl (lv_at hl 1 rfl) ?_
  refine al_arg C hR hl hi (k := 1) (by decide) al_d782 al_d783 al_d784 al_d785 al_d786 ?_
  refine al_arg C hR hl hi (k := 2) (by decide) al_d787 al_d788 al_d789 al_d790 al_d791 ?_
  have ev : [(0, (xs (i + 1)).toInt), (0, (xs (i + 2)).toInt)].map (am_rv sa ad) = [.int (xs (i + 1)), .int (xs (i + 2))] := by simp [am_rv0, al_xs]
  have es : ([.int (xs (i + 2)), .int (xs (i + 1)), .ref (ad.getD 0 0)] : List Value) = ([(0, (xs (i + 1)).toInt), (0, (xs (i + 2)).toInt)].map (am_rv sa ad)).reverse ++ am_rv sa ad (109, 0) :: [] := by rw [ev]; rfl
  rw [es]
  refine al_call (pc := 792) (idx := 100) (mi := 129) (q := am_m129) (t0 := 109) (a0 := 0) (as := [(0, (xs (i + 1)).toInt), (0, (xs (i + 2)).toInt)]) (rest := []) (l := l) (e := e) (below := below) (Q := Q) C hR hl.1 rfl rfl al_l100 al_d792 (show [109, 0, 0] = am_pt 129 by decide +kernel) (by decide) (List.forall_mem_cons.mpr ⟨al_ok109, al_ints (as := [(xs (i + 1)).toInt, (xs (i + 2)).toInt]) (by intro x hx; simp at hx; rcases hx with rfl | rfl <;> exact am_inT _)⟩) (Nat.zero_le _) hcs hcl ?_
  intro v f1 H1 locs1 hcl2 hv hR1
  have hv3 : ¬ v.1 = 3 := by
    obtain ⟨_, w9, f9, _, h9, h8, _⟩ := hcl2
    rw [h8]; decide
  rw [if_neg hv3]
  refine lv_aload_n hx hb al_d795 rfl (lv_at hl 2 rfl) ?_
  refine al_arg C hR1 hl hi (k := 1) (by decide) al_d796 al_d797 al_d798 al_d799 al_d800 ?_
  refine al_arg C hR1 hl hi (k := 2) (by decide) al_d801 al_d802 al_d803 al_d804 al_d805 ?_
  have hcat : ([am_rv sa ad v].map fun v => v.category).sum ≤ 8 := by
    show (am_rv sa ad v).category + 0 ≤ 8
    rw [am_cat2]; split <;> omega
  have es2 : ([.int (xs (i + 2)), .int (xs (i + 1)), .ref (ad.getD 270 0), am_rv sa ad v] : List Value) = ([(0, (xs (i + 1)).toInt), (0, (xs (i + 2)).toInt)].map (am_rv sa ad)).reverse ++ am_rv sa ad (110, 270) :: [am_rv sa ad v] := by rw [ev]; rfl
  rw [show ((some (am_rv sa ad v)).toList ++ []) = [am_rv sa ad v] from rfl, es2]
  refine al_call (pc := 806) (idx := 103) (mi := 272) (q := am_m272) (t0 := 110) (a0 := 270) (as := [(0, (xs (i + 1)).toInt), (0, (xs (i + 2)).toInt)]) (rest := [am_rv sa ad v]) (l := l) (e := e) (below := below) (Q := Q) C hR1 hl.1 rfl rfl al_l103 al_d806 (show [110, 0, 0] = am_pt 272 by decide +kernel) (by decide) (List.forall_mem_cons.mpr ⟨al_ok110, al_ints (as := [(xs (i + 1)).toInt, (xs (i + 2)).toInt]) (by intro x hx; simp at hx; rcases hx with rfl | rfl <;> exact am_inT _)⟩) hcat hcs hcl2 ?_
  intro w f2 H2 locs2 hw hw2 hR2
  obtain ⟨rfl, hv01, hI2⟩ := hw
  rw [if_neg hv3]
  rw [show ((some (am_rv sa ad w)).toList ++ [am_rv sa ad w]) = [am_rv sa ad w, am_rv sa ad w] from rfl]
  have key : ∀ z : Int32, am_rv sa ad w = .int z → W p l e room_1 s m #[Value.ref b] below meth c H2 locs2 cells slots Q (F0 m 809 ls [am_rv sa ad w, am_rv sa ad w]) := by
    intro z hz
    rw [hz]
    refine lv_icmp_eq (tgt := 1061) hx hb al_d809 (by decide) (fun _ => ?_) (fun h => absurd rfl h)
    exact kk f2 H2 locs2 hI2 hR2
  have ht : w.1 = 0 := hv01
  obtain ⟨t, x⟩ := w
  have ht : t = 0 := ht
  subst ht
  exact key _ rfl

theorem al_case21 (C : al_C p s m meth c b L xs D dA sa sv) (hR : al_R s D dA sa ad f H locs) (hl : lv_has ls 4 [(0, .ref b), (1, .ref (ad.getD 0 0)), (2, .ref (ad.getD 270 0)), (3, .int (nI i))]) (hi : i + 6 ≤ L) (hcs : cells ≤ 600000 ∧ slots ≤ 7302250) (hH : al_H Inv) (hI : Inv f) (kk : ∀ (f2 : am_F) (H2 : Heap) (locs2 : List Loc), Inv f2 → al_R s D dA sa ad f2 H2 locs2 → W p l e room_1 s m #[Value.ref b] below meth c H2 locs2 cells slots Q (F0 m 1061 ls [])) : W p l e room_1 s m #[Value.ref b] below meth c H locs cells slots Q (F0 m 814 ls []) := by
  obtain ⟨⟨hx, hb, hr, hml, hown, hts0, hX, hbl, hlk, hgv⟩, hK, hFo, hL⟩ := id C
  have hcl := hH (21, 131, 274, 1, 0) (al_mem 21 rfl) f [(xs (i + 1)).toInt] rfl (by intro x hx; simp at hx; subst hx; exact am_inT _) hI
  refine lv_aload_n hx hb al_d814 rfl (lv_at hl 1 rfl) ?_
  refine al_arg C hR hl hi (k := 1) (by decide) al_d815 al_d816 al_d817 al_d818 al_d819 ?_
  have ev : [(0, (xs (i + 1)).toInt)].map (am_rv sa ad) = [.int (xs (i + 1))] := by simp [am_rv0, al_xs]
  have es : ([.int (xs (i + 1)), .ref (ad.getD 0 0)] : List Value) = ([(0, (xs (i + 1)).toInt)].map (am_rv sa ad)).reverse ++ am_rv sa ad (109, 0) :: [] := by rw [ev]; rfl
  rw [es]
  refine al_call (pc := 820) (idx := 104) (mi := 131) (q := am_m131) (t0 := 109) (a0 := 0) (as := [(0, (xs (i + 1)).toInt)]) (rest := []) (l := l) (e := e) (below := below) (Q := Q) C hR hl.1 rfl rfl al_l104 al_d820 (show [109, 0] = am_pt 131 by decide +kernel) (by decide) (List.forall_mem_cons.mpr ⟨al_ok109, al_ints (as := [(xs (i + 1)).toInt]) (by intro x hx; simp at hx; subst hx; exact am_inT _)⟩) (Nat.zero_le _) hcs hcl ?_
  intro v f1 H1 locs1 hcl2 hv hR1
  have hv3 : ¬ v.1 = 3 := by
    obtain ⟨_, w9, f9, _, h9, h8, _⟩ := hcl2
    rw [h8]; decide
  rw [if_neg hv3]
  refine lv_aload_n hx hb al_d823 rfl (lv_at hl 2 rfl) ?_
  refine al_arg C hR1 hl hi (k := 1) (by decide) al_d824 al_d825 al_d826 al_d827 al_d828 ?_
  have hcat : ([am_rv sa ad v].map fun v => v.category).sum ≤ 8 := by
    show (am_rv sa ad v).category + 0 ≤ 8
    rw [am_cat2]; split <;> omega
  have es2 : ([.int (xs (i + 1)), .ref (ad.getD 270 0), am_rv sa ad v] : List Value) = ([(0, (xs (i + 1)).toInt)].map (am_rv sa ad)).reverse ++ am_rv sa ad (110, 270) :: [am_rv sa ad v] := by rw [ev]; rfl
  rw [show ((some (am_rv sa ad v)).toList ++ []) = [am_rv sa ad v] from rfl, es2]
  refine al_call (pc := 829) (idx := 107) (mi := 274) (q := am_m274) (t0 := 110) (a0 := 270) (as := [(0, (xs (i + 1)).toInt)]) (rest := [am_rv sa ad v]) (l := l) (e := e) (below := below) (Q := Q) C hR1 hl.1 rfl rfl al_l107 al_d829 (show [110, 0] = am_pt 274 by decide +kernel) (by decide) (List.forall_mem_cons.mpr ⟨al_ok110, al_ints (as := [(xs (i + 1)).toInt]) (by intro x hx; simp at hx; subst hx; exact am_inT _)⟩) hcat hcs hcl2 ?_
  intro w f2 H2 locs2 hw hw2 hR2
  obtain ⟨rfl, hv01, hI2⟩ := hw
  rw [if_neg hv3]
  rw [show ((some (am_rv sa ad w)).toList ++ [am_rv sa ad w]) = [am_rv sa ad w, am_rv sa ad w] from rfl]
  have key : ∀ z : Int32, am_rv sa ad w = .int z → W p l e room_1 s m #[Value.ref b] below meth c H2 locs2 cells slots Q (F0 m 832 ls [am_rv sa ad w, am_rv sa ad w]) := by
    intro z hz
    rw [hz]
    refine lv_icmp_eq (tgt := 1061) hx hb al_d832 (by decide) (fun _ => ?_) (fun h => absurd rfl h)
    exact kk f2 H2 locs2 hI2 hR2
  have ht : w.1 = 0 := hv01
  obtain ⟨t, x⟩ := w
  have ht : t = 0 := ht
  subst ht
  exact key _ rfl

theorem al_case22 (C : al_C p s m meth c b L xs D dA sa sv) (hR : al_R s D dA sa ad f H locs) (hl : lv_has ls 4 [(0, .ref b), (1, .ref (ad.getD 0 0)), (2, .ref (ad.getD 270 0)), (3, .int (nI i))]) (hi : i + 6 ≤ L) (hcs : cells ≤ 600000 ∧ slots ≤ 7302250) (hH : al_H Inv) (hI : Inv f) (kk : ∀ (f2 : am_F) (H2 : Heap) (locs2 : List Loc), Inv f2 → al_R s D dA sa ad f2 H2 locs2 → W p l e room_1 s m #[Value.ref b] below meth c H2 locs2 cells slots Q (F0 m 1061 ls [])) : W p l e room_1 s m #[Value.ref b] below meth c H locs cells slots Q (F0 m 837 ls []) := by
  obtain ⟨⟨hx, hb, hr, hml, hown, hts0, hX, hbl, hlk, hgv⟩, hK, hFo, hL⟩ := id C
  have hcl := hH (22, 133, 277, 2, 0) (al_mem 22 rfl) f [(xs (i + 1)).toInt, (xs (i + 2)).toInt] rfl (by intro x hx; simp at hx; rcases hx with rfl | rfl <;> exact am_inT _) hI
  refine lv_aload_n hx hb al_d837 rfl (lv_at hl 1 rfl) ?_
  refine al_arg C hR hl hi (k := 1) (by decide) al_d838 al_d839 al_d840 al_d841 al_d842 ?_
  refine al_arg C hR hl hi (k := 2) (by decide) al_d843 al_d844 al_d845 al_d846 al_d847 ?_
  have ev : [(0, (xs (i + 1)).toInt), (0, (xs (i + 2)).toInt)].map (am_rv sa ad) = [.int (xs (i + 1)), .int (xs (i + 2))] := by simp [am_rv0, al_xs]
  have es : ([.int (xs (i + 2)), .int (xs (i + 1)), .ref (ad.getD 0 0)] : List Value) = ([(0, (xs (i + 1)).toInt), (0, (xs (i + 2)).toInt)].map (am_rv sa ad)).reverse ++ am_rv sa ad (109, 0) :: [] := by rw [ev]; rfl
  rw [es]
  refine al_call (pc := 848) (idx := 108) (mi := 133) (q := am_m133) (t0 := 109) (a0 := 0) (as := [(0, (xs (i + 1)).toInt), (0, (xs (i + 2)).toInt)]) (rest := []) (l := l) (e := e) (below := below) (Q := Q) C hR hl.1 rfl rfl al_l108 al_d848 (show [109, 0, 0] = am_pt 133 by decide +kernel) (by decide) (List.forall_mem_cons.mpr ⟨al_ok109, al_ints (as := [(xs (i + 1)).toInt, (xs (i + 2)).toInt]) (by intro x hx; simp at hx; rcases hx with rfl | rfl <;> exact am_inT _)⟩) (Nat.zero_le _) hcs hcl ?_
  intro v f1 H1 locs1 hcl2 hv hR1
  have hv3 : ¬ v.1 = 3 := by
    obtain ⟨_, w9, f9, _, h9, h8, _⟩ := hcl2
    rw [h8]; decide
  rw [if_neg hv3]
  refine lv_aload_n hx hb al_d851 rfl (lv_at hl 2 rfl) ?_
  refine al_arg C hR1 hl hi (k := 1) (by decide) al_d852 al_d853 al_d854 al_d855 al_d856 ?_
  refine al_arg C hR1 hl hi (k := 2) (by decide) al_d857 al_d858 al_d859 al_d860 al_d861 ?_
  have hcat : ([am_rv sa ad v].map fun v => v.category).sum ≤ 8 := by
    show (am_rv sa ad v).category + 0 ≤ 8
    rw [am_cat2]; split <;> omega
  have es2 : ([.int (xs (i + 2)), .int (xs (i + 1)), .ref (ad.getD 270 0), am_rv sa ad v] : List Value) = ([(0, (xs (i + 1)).toInt), (0, (xs (i + 2)).toInt)].map (am_rv sa ad)).reverse ++ am_rv sa ad (110, 270) :: [am_rv sa ad v] := by rw [ev]; rfl
  rw [show ((some (am_rv sa ad v)).toList ++ []) = [am_rv sa ad v] from rfl, es2]
  refine al_call (pc := 862) (idx := 111) (mi := 277) (q := am_m277) (t0 := 110) (a0 := 270) (as := [(0, (xs (i + 1)).toInt), (0, (xs (i + 2)).toInt)]) (rest := [am_rv sa ad v]) (l := l) (e := e) (below := below) (Q := Q) C hR1 hl.1 rfl rfl al_l111 al_d862 (show [110, 0, 0] = am_pt 277 by decide +kernel) (by decide) (List.forall_mem_cons.mpr ⟨al_ok110, al_ints (as := [(xs (i + 1)).toInt, (xs (i + 2)).toInt]) (by intro x hx; simp at hx; rcases hx with rfl | rfl <;> exact am_inT _)⟩) hcat hcs hcl2 ?_
  intro w f2 H2 locs2 hw hw2 hR2
  obtain ⟨rfl, hv01, hI2⟩ := hw
  rw [if_neg hv3]
  rw [show ((some (am_rv sa ad w)).toList ++ [am_rv sa ad w]) = [am_rv sa ad w, am_rv sa ad w] from rfl]
  have key : ∀ z : Int32, am_rv sa ad w = .int z → W p l e room_1 s m #[Value.ref b] below meth c H2 locs2 cells slots Q (F0 m 865 ls [am_rv sa ad w, am_rv sa ad w]) := by
    intro z hz
    rw [hz]
    refine lv_icmp_eq (tgt := 1061) hx hb al_d865 (by decide) (fun _ => ?_) (fun h => absurd rfl h)
    exact kk f2 H2 locs2 hI2 hR2
  have ht : w.1 = 0 := hv01
  obtain ⟨t, x⟩ := w
  have ht : t = 0 := ht
  subst ht
  exact key _ rfl

theorem al_case23 (C : al_C p s m meth c b L xs D dA sa sv) (hR : al_R s D dA sa ad f H locs) (hl : lv_has ls 4 [(0, .ref b), (1, .ref (ad.getD 0 0)), (2, .ref (ad.getD 270 0)), (3, .int (nI i))]) (hi : i + 6 ≤ L) (hcs : cells ≤ 600000 ∧ slots ≤ 7302250) (hH : al_H Inv) (hI : Inv f) (kk : ∀ (f2 : am_F) (H2 : Heap) (locs2 : List Loc), Inv f2 → al_R s D dA sa ad f2 H2 locs2 → W p l e room_1 s m #[Value.ref b] below meth c H2 locs2 cells slots Q (F0 m 1061 ls [])) : W p l e room_1 s m #[Value.ref b] below meth c H locs cells slots Q (F0 m 870 ls []) := by
  obtain ⟨⟨hx, hb, hr, hml, hown, hts0, hX, hbl, hlk, hgv⟩, hK, hFo, hL⟩ := id C
  have hcl := hH (23, 134, 278, 1, 0) (al_mem 23 rfl) f [(xs (i + 1)).toInt] rfl (by intro x hx; simp at hx; subst hx; exact am_inT _) hI
  refine lv_aload_n hx hb al_d870 rfl (lv_at hl 1 rfl) ?_
  refine al_arg C hR hl hi (k := 1) (by decide) al_d871 al_d872 al_d873 al_d874 al_d875 ?_
  have ev : [(0, (xs (i + 1)).toInt)].map (am_rv sa ad) = [.int (xs (i + 1))] := by simp [am_rv0, al_xs]
  have es : ([.int (xs (i + 1)), .ref (ad.getD 0 0)] : List Value) = ([(0, (xs (i + 1)).toInt)].map (am_rv sa ad)).reverse ++ am_rv sa ad (109, 0) :: [] := by rw [ev]; rfl
  rw [es]
  refine al_call (pc := 876) (idx := 112) (mi := 134) (q := am_m134) (t0 := 109) (a0 := 0) (as := [(0, (xs (i + 1)).toInt)]) (rest := []) (l := l) (e := e) (below := below) (Q := Q) C hR hl.1 rfl rfl al_l112 al_d876 (show [109, 0] = am_pt 134 by decide +kernel) (by decide) (List.forall_mem_cons.mpr ⟨al_ok109, al_ints (as := [(xs (i + 1)).toInt]) (by intro x hx; simp at hx; subst hx; exact am_inT _)⟩) (Nat.zero_le _) hcs hcl ?_
  intro v f1 H1 locs1 hcl2 hv hR1
  have hv3 : ¬ v.1 = 3 := by
    obtain ⟨_, w9, f9, _, h9, h8, _⟩ := hcl2
    rw [h8]; decide
  rw [if_neg hv3]
  refine lv_aload_n hx hb al_d879 rfl (lv_at hl 2 rfl) ?_
  refine al_arg C hR1 hl hi (k := 1) (by decide) al_d880 al_d881 al_d882 al_d883 al_d884 ?_
  have hcat : ([am_rv sa ad v].map fun v => v.category).sum ≤ 8 := by
    show (am_rv sa ad v).category + 0 ≤ 8
    rw [am_cat2]; split <;> omega
  have es2 : ([.int (xs (i + 1)), .ref (ad.getD 270 0), am_rv sa ad v] : List Value) = ([(0, (xs (i + 1)).toInt)].map (am_rv sa ad)).reverse ++ am_rv sa ad (110, 270) :: [am_rv sa ad v] := by rw [ev]; rfl
  rw [show ((some (am_rv sa ad v)).toList ++ []) = [am_rv sa ad v] from rfl, es2]
  refine al_call (pc := 885) (idx := 115) (mi := 278) (q := am_m278) (t0 := 110) (a0 := 270) (as := [(0, (xs (i + 1)).toInt)]) (rest := [am_rv sa ad v]) (l := l) (e := e) (below := below) (Q := Q) C hR1 hl.1 rfl rfl al_l115 al_d885 (show [110, 0] = am_pt 278 by decide +kernel) (by decide) (List.forall_mem_cons.mpr ⟨al_ok110, al_ints (as := [(xs (i + 1)).toInt]) (by intro x hx; simp at hx; subst hx; exact am_inT _)⟩) hcat hcs hcl2 ?_
  intro w f2 H2 locs2 hw hw2 hR2
  obtain ⟨rfl, hv01, hI2⟩ := hw
  rw [if_neg hv3]
  rw [show ((some (am_rv sa ad w)).toList ++ [am_rv sa ad w]) = [am_rv sa ad w, am_rv sa ad w] from rfl]
  have key : ∀ z : Int32, am_rv sa ad w = .int z → W p l e room_1 s m #[Value.ref b] below meth c H2 locs2 cells slots Q (F0 m 888 ls [am_rv sa ad w, am_rv sa ad w]) := by
    intro z hz
    rw [hz]
    refine lv_icmp_eq (tgt := 1061) hx hb al_d888 (by decide) (fun _ => ?_) (fun h => absurd rfl h)
    exact kk f2 H2 locs2 hI2 hR2
  have ht : w.1 = 0 := hv01
  obtain ⟨t, x⟩ := w
  have ht : t = 0 := ht
  subst ht
  exact key _ rfl

theorem al_case24 (C : al_C p s m meth c b L xs D dA sa sv) (hR : al_R s D dA sa ad f H locs) (hl : lv_has ls 4 [(0, .ref b), (1, .ref (ad.getD 0 0)), (2, .ref (ad.getD 270 0)), (3, .int (nI i))]) (hi : i + 6 ≤ L) (hcs : cells ≤ 600000 ∧ slots ≤ 7302250) (hH : al_H Inv) (hI : Inv f) (kk : ∀ (f2 : am_F) (H2 : Heap) (locs2 : List Loc), Inv f2 → al_R s D dA sa ad f2 H2 locs2 → W p l e room_1 s m #[Value.ref b] below meth c H2 locs2 cells slots Q (F0 m 1061 ls [])) : W p l e room_1 s m #[Value.ref b] below meth c H locs cells slots Q (F0 m 893 ls []) := by
  obtain ⟨⟨hx, hb, hr, hml, hown, hts0, hX, hbl, hlk, hgv⟩, hK, hFo, hL⟩ := id C
  have hcl := hH (24, 135, 279, 1, 0) (al_mem 24 rfl) f [(xs (i + 1)).toInt] rfl (by intro x hx; simp at hx; subst hx; exact am_inT _) hI
  refine lv_aload_n hx hb al_d893 rfl (lv_at hl 1 rfl) ?_
  refine al_arg C hR hl hi (k := 1) (by decide) al_d894 al_d895 al_d896 al_d897 al_d898 ?_
  have ev : [(0, (xs (i + 1)).toInt)].map (am_rv sa ad) = [.int (xs (i + 1))] := by simp [am_rv0, al_xs]
  have es : ([.int (xs (i + 1)), .ref (ad.getD 0 0)] : List Value) = ([(0, (xs (i + 1)).toInt)].map (am_rv sa ad)).reverse ++ am_rv sa ad (109, 0) :: [] := by rw [ev]; rfl
  rw [es]
  refine al_call (pc := 899) (idx := 116) (mi := 135) (q := am_m135) (t0 := 109) (a0 := 0) (as := [(0, (xs (i + 1)).toInt)]) (rest := []) (l := l) (e := e) (below := below) (Q := Q) C hR hl.1 rfl rfl al_l116 al_d899 (show [109, 0] = am_pt 135 by decide +kernel) (by decide) (List.forall_mem_cons.mpr ⟨al_ok109, al_ints (as := [(xs (i + 1)).toInt]) (by intro x hx; simp at hx; subst hx; exact am_inT _)⟩) (Nat.zero_le _) hcs hcl ?_
  intro v f1 H1 locs1 hcl2 hv hR1
  have hv3 : ¬ v.1 = 3 := by
    obtain ⟨_, w9, f9, _, h9, h8, _⟩ := hcl2
    rw [h8]; decide
  rw [if_neg hv3]
  refine lv_aload_n hx hb al_d902 rfl (lv_at hl 2 rfl) ?_
  refine al_arg C hR1 hl hi (k := 1) (by decide) al_d903 al_d904 al_d905 al_d906 al_d907 ?_
  have hcat : ([am_rv sa ad v].map fun v => v.category).sum ≤ 8 := by
    show (am_rv sa ad v).category + 0 ≤ 8
    rw [am_cat2]; split <;> omega
  have es2 : ([.int (xs (i + 1)), .ref (ad.getD 270 0), am_rv sa ad v] : List Value) = ([(0, (xs (i + 1)).toInt)].map (am_rv sa ad)).reverse ++ am_rv sa ad (110, 270) :: [am_rv sa ad v] := by rw [ev]; rfl
  rw [show ((some (am_rv sa ad v)).toList ++ []) = [am_rv sa ad v] from rfl, es2]
  refine al_call (pc := 908) (idx := 119) (mi := 279) (q := am_m279) (t0 := 110) (a0 := 270) (as := [(0, (xs (i + 1)).toInt)]) (rest := [am_rv sa ad v]) (l := l) (e := e) (below := below) (Q := Q) C hR1 hl.1 rfl rfl al_l119 al_d908 (show [110, 0] = am_pt 279 by decide +kernel) (by decide) (List.forall_mem_cons.mpr ⟨al_ok110, al_ints (as := [(xs (i + 1)).toInt]) (by intro x hx; simp at hx; subst hx; exact am_inT _)⟩) hcat hcs hcl2 ?_
  intro w f2 H2 locs2 hw hw2 hR2
  obtain ⟨rfl, hv01, hI2⟩ := hw
  rw [if_neg hv3]
  rw [show ((some (am_rv sa ad w)).toList ++ [am_rv sa ad w]) = [am_rv sa ad w, am_rv sa ad w] from rfl]
  have key : ∀ z : Int32, am_rv sa ad w = .int z → W p l e room_1 s m #[Value.ref b] below meth c H2 locs2 cells slots Q (F0 m 911 ls [am_rv sa ad w, am_rv sa ad w]) := by
    intro z hz
    rw [hz]
    refine lv_icmp_eq (tgt := 1061) hx hb al_d911 (by decide) (fun _ => ?_) (fun h => absurd rfl h)
    exact kk f2 H2 locs2 hI2 hR2
  have ht : w.1 = 0 := hv01
  obtain ⟨t, x⟩ := w
  have ht : t = 0 := ht
  subst ht
  exact key _ rfl

theorem al_case25 (C : al_C p s m meth c b L xs D dA sa sv) (hR : al_R s D dA sa ad f H locs) (hl : lv_has ls 4 [(0, .ref b), (1, .ref (ad.getD 0 0)), (2, .ref (ad.getD 270 0)), (3, .int (nI i))]) (hi : i + 6 ≤ L) (hcs : cells ≤ 600000 ∧ slots ≤ 7302250) (hH : al_H Inv) (hI : Inv f) (kk : ∀ (f2 : am_F) (H2 : Heap) (locs2 : List Loc), Inv f2 → al_R s D dA sa ad f2 H2 locs2 → W p l e room_1 s m #[Value.ref b] below meth c H2 locs2 cells slots Q (F0 m 1061 ls [])) : W p l e room_1 s m #[Value.ref b] below meth c H locs cells slots Q (F0 m 916 ls []) := by
  obtain ⟨⟨hx, hb, hr, hml, hown, hts0, hX, hbl, hlk, hgv⟩, hK, hFo, hL⟩ := id C
  have hcl := hH (25, 137, 281, 1, 0) (al_mem 25 rfl) f [(xs (i + 1)).toInt] rfl (by intro x hx; simp at hx; subst hx; exact am_inT _) hI
  refine lv_aload_n hx hb al_d916 rfl (lv_at hl 1 rfl) ?_
  refine al_arg C hR hl hi (k := 1) (by decide) al_d917 al_d918 al_d919 al_d920 al_d921 ?_
  have ev : [(0, (xs (i + 1)).toInt)].map (am_rv sa ad) = [.int (xs (i + 1))] := by simp [am_rv0, al_xs]
  have es : ([.int (xs (i + 1)), .ref (ad.getD 0 0)] : List Value) = ([(0, (xs (i + 1)).toInt)].map (am_rv sa ad)).reverse ++ am_rv sa ad (109, 0) :: [] := by rw [ev]; rfl
  rw [es]
  refine al_call (pc := 922) (idx := 120) (mi := 137) (q := am_m137) (t0 := 109) (a0 := 0) (as := [(0, (xs (i + 1)).toInt)]) (rest := []) (l := l) (e := e) (below := below) (Q := Q) C hR hl.1 rfl rfl al_l120 al_d922 (show [109, 0] = am_pt 137 by decide +kernel) (by decide) (List.forall_mem_cons.mpr ⟨al_ok109, al_ints (as := [(xs (i + 1)).toInt]) (by intro x hx; simp at hx; subst hx; exact am_inT _)⟩) (Nat.zero_le _) hcs hcl ?_
  intro v f1 H1 locs1 hcl2 hv hR1
  have hv3 : ¬ v.1 = 3 := by
    obtain ⟨_, w9, f9, _, h9, h8, _⟩ := hcl2
    rw [h8]; decide
  rw [if_neg hv3]
  refine lv_aload_n hx hb al_d925 rfl (lv_at hl 2 rfl) ?_
  refine al_arg C hR1 hl hi (k := 1) (by decide) al_d926 al_d927 al_d928 al_d929 al_d930 ?_
  have hcat : ([am_rv sa ad v].map fun v => v.category).sum ≤ 8 := by
    show (am_rv sa ad v).category + 0 ≤ 8
    rw [am_cat2]; split <;> omega
  have es2 : ([.int (xs (i + 1)), .ref (ad.getD 270 0), am_rv sa ad v] : List Value) = ([(0, (xs (i + 1)).toInt)].map (am_rv sa ad)).reverse ++ am_rv sa ad (110, 270) :: [am_rv sa ad v] := by rw [ev]; rfl
  rw [show ((some (am_rv sa ad v)).toList ++ []) = [am_rv sa ad v] from rfl, es2]
  refine al_call (pc := 931) (idx := 123) (mi := 281) (q := am_m281) (t0 := 110) (a0 := 270) (as := [(0, (xs (i + 1)).toInt)]) (rest := [am_rv sa ad v]) (l := l) (e := e) (below := below) (Q := Q) C hR1 hl.1 rfl rfl al_l123 al_d931 (show [110, 0] = am_pt 281 by decide +kernel) (by decide) (List.forall_mem_cons.mpr ⟨al_ok110, al_ints (as := [(xs (i + 1)).toInt]) (by intro x hx; simp at hx; subst hx; exact am_inT _)⟩) hcat hcs hcl2 ?_
  intro w f2 H2 locs2 hw hw2 hR2
  obtain ⟨rfl, hv01, hI2⟩ := hw
  rw [if_neg hv3]
  rw [show ((some (am_rv sa ad w)).toList ++ [am_rv sa ad w]) = [am_rv sa ad w, am_rv sa ad w] from rfl]
  have key : ∀ z : Int32, am_rv sa ad w = .int z → W p l e room_1 s m #[Value.ref b] below meth c H2 locs2 cells slots Q (F0 m 934 ls [am_rv sa ad w, am_rv sa ad w]) := by
    intro z hz
    rw [hz]
    refine lv_icmp_eq (tgt := 1061) hx hb al_d934 (by decide) (fun _ => ?_) (fun h => absurd rfl h)
    exact kk f2 H2 locs2 hI2 hR2
  have ht : w.1 = 0 := hv01
  obtain ⟨t, x⟩ := w
  have ht : t = 0 := ht
  subst ht
  exact key _ rfl

theorem al_case26 (C : al_C p s m meth c b L xs D dA sa sv) (hR : al_R s D dA sa ad f H locs) (hl : lv_has ls 4 [(0, .ref b), (1, .ref (ad.getD 0 0)), (2, .ref (ad.getD 270 0)), (3, .int (nI i))]) (hi : i + 6 ≤ L) (hcs : cells ≤ 600000 ∧ slots ≤ 7302250) (hH : al_H Inv) (hI : Inv f) (kk : ∀ (f2 : am_F) (H2 : Heap) (locs2 : List Loc), Inv f2 → al_R s D dA sa ad f2 H2 locs2 → W p l e room_1 s m #[Value.ref b] below meth c H2 locs2 cells slots Q (F0 m 1061 ls [])) : W p l e room_1 s m #[Value.ref b] below meth c H locs cells slots Q (F0 m 939 ls []) := by
  obtain ⟨⟨hx, hb, hr, hml, hown, hts0, hX, hbl, hlk, hgv⟩, hK, hFo, hL⟩ := id C
  have hcl := hH (26, 140, 273, 0, 0) (al_mem 26 rfl) f [] rfl (by intro x hx; cases hx) hI
  refine lv_aload_n hx hb al_d939 rfl (lv_at hl 1 rfl) ?_
  have ev : ([] : List am_V).map (am_rv sa ad) = [] := by simp [am_rv0, al_xs]
  have es : ([.ref (ad.getD 0 0)] : List Value) = (([] : List am_V).map (am_rv sa ad)).reverse ++ am_rv sa ad (109, 0) :: [] := by rw [ev]; rfl
  rw [es]
  refine al_call (pc := 940) (idx := 124) (mi := 140) (q := am_m140) (t0 := 109) (a0 := 0) (as := []) (rest := []) (l := l) (e := e) (below := below) (Q := Q) C hR hl.1 rfl rfl al_l124 al_d940 (show [109] = am_pt 140 by decide +kernel) (by decide) (List.forall_mem_cons.mpr ⟨al_ok109, fun v hv => by cases hv⟩) (Nat.zero_le _) hcs hcl ?_
  intro v f1 H1 locs1 hcl2 hv hR1
  have hv3 : ¬ v.1 = 3 := by
    obtain ⟨_, w9, f9, _, h9, h8, _⟩ := hcl2
    rw [h8]; decide
  rw [if_neg hv3]
  refine lv_aload_n hx hb al_d943 rfl (lv_at hl 2 rfl) ?_
  have hcat : ([am_rv sa ad v].map fun v => v.category).sum ≤ 8 := by
    show (am_rv sa ad v).category + 0 ≤ 8
    rw [am_cat2]; split <;> omega
  have es2 : ([.ref (ad.getD 270 0), am_rv sa ad v] : List Value) = (([] : List am_V).map (am_rv sa ad)).reverse ++ am_rv sa ad (110, 270) :: [am_rv sa ad v] := by rw [ev]; rfl
  rw [show ((some (am_rv sa ad v)).toList ++ []) = [am_rv sa ad v] from rfl, es2]
  refine al_call (pc := 944) (idx := 128) (mi := 273) (q := am_m273) (t0 := 110) (a0 := 270) (as := []) (rest := [am_rv sa ad v]) (l := l) (e := e) (below := below) (Q := Q) C hR1 hl.1 rfl rfl al_l128 al_d944 (show [110] = am_pt 273 by decide +kernel) (by decide) (List.forall_mem_cons.mpr ⟨al_ok110, fun v hv => by cases hv⟩) hcat hcs hcl2 ?_
  intro w f2 H2 locs2 hw hw2 hR2
  obtain ⟨rfl, hv01, hI2⟩ := hw
  rw [if_neg hv3]
  rw [show ((some (am_rv sa ad w)).toList ++ [am_rv sa ad w]) = [am_rv sa ad w, am_rv sa ad w] from rfl]
  have key : ∀ z : Int32, am_rv sa ad w = .int z → W p l e room_1 s m #[Value.ref b] below meth c H2 locs2 cells slots Q (F0 m 947 ls [am_rv sa ad w, am_rv sa ad w]) := by
    intro z hz
    rw [hz]
    refine lv_icmp_eq (tgt := 1061) hx hb al_d947 (by decide) (fun _ => ?_) (fun h => absurd rfl h)
    exact kk f2 H2 locs2 hI2 hR2
  have ht : w.1 = 0 := hv01
  obtain ⟨t, x⟩ := w
  have ht : t = 0 := ht
  subst ht
  exact key _ rfl

theorem al_case27 (C : al_C p s m meth c b L xs D dA sa sv) (hR : al_R s D dA sa ad f H locs) (hl : lv_has ls 4 [(0, .ref b), (1, .ref (ad.getD 0 0)), (2, .ref (ad.getD 270 0)), (3, .int (nI i))]) (hi : i + 6 ≤ L) (hcs : cells ≤ 600000 ∧ slots ≤ 7302250) (hH : al_H Inv) (hI : Inv f) (kk : ∀ (f2 : am_F) (H2 : Heap) (locs2 : List Loc), Inv f2 → al_R s D dA sa ad f2 H2 locs2 → W p l e room_1 s m #[Value.ref b] below meth c H2 locs2 cells slots Q (F0 m 1061 ls [])) : W p l e room_1 s m #[Value.ref b] below meth c H locs cells slots Q (F0 m 952 ls []) := by
  obtain ⟨⟨hx, hb, hr, hml, hown, hts0, hX, hbl, hlk, hgv⟩, hK, hFo, hL⟩ := id C
  have hcl := hH (27, 142, 280, 1, 0) (al_mem 27 rfl) f [(xs (i + 1)).toInt] rfl (by intro x hx; simp at hx; subst hx; exact am_inT _) hI
  refine lv_aload_n hx hb al_d952 rfl (lv_at hl 1 rfl) ?_
  refine al_arg C hR hl hi (k := 1) (by decide) al_d953 al_d954 al_d955 al_d956 al_d957 ?_
  have ev : [(0, (xs (i + 1)).toInt)].map (am_rv sa ad) = [.int (xs (i + 1))] := by simp [am_rv0, al_xs]
  have es : ([.int (xs (i + 1)), .ref (ad.getD 0 0)] : List Value) = ([(0, (xs (i + 1)).toInt)].map (am_rv sa ad)).reverse ++ am_rv sa ad (109, 0) :: [] := by rw [ev]; rfl
  rw [es]
  refine al_call (pc := 958) (idx := 129) (mi := 142) (q := am_m142) (t0 := 109) (a0 := 0) (as := [(0, (xs (i + 1)).toInt)]) (rest := []) (l := l) (e := e) (below := below) (Q := Q) C hR hl.1 rfl rfl al_l129 al_d958 (show [109, 0] = am_pt 142 by decide +kernel) (by decide) (List.forall_mem_cons.mpr ⟨al_ok109, al_ints (as := [(xs (i + 1)).toInt]) (by intro x hx; simp at hx; subst hx; exact am_inT _)⟩) (Nat.zero_le _) hcs hcl ?_
  intro v f1 H1 locs1 hcl2 hv hR1
  have hv3 : ¬ v.1 = 3 := by
    obtain ⟨_, w9, f9, _, h9, h8, _⟩ := hcl2
    rw [h8]; decide
  rw [if_neg hv3]
  refine lv_aload_n hx hb al_d961 rfl (lv_at hl 2 rfl) ?_
  refine al_arg C hR1 hl hi (k := 1) (by decide) al_d962 al_d963 al_d964 al_d965 al_d966 ?_
  have hcat : ([am_rv sa ad v].map fun v => v.category).sum ≤ 8 := by
    show (am_rv sa ad v).category + 0 ≤ 8
    rw [am_cat2]; split <;> omega
  have es2 : ([.int (xs (i + 1)), .ref (ad.getD 270 0), am_rv sa ad v] : List Value) = ([(0, (xs (i + 1)).toInt)].map (am_rv sa ad)).reverse ++ am_rv sa ad (110, 270) :: [am_rv sa ad v] := by rw [ev]; rfl
  rw [show ((some (am_rv sa ad v)).toList ++ []) = [am_rv sa ad v] from rfl, es2]
  refine al_call (pc := 967) (idx := 132) (mi := 280) (q := am_m280) (t0 := 110) (a0 := 270) (as := [(0, (xs (i + 1)).toInt)]) (rest := [am_rv sa ad v]) (l := l) (e := e) (below := below) (Q := Q) C hR1 hl.1 rfl rfl al_l132 al_d967 (show [110, 0] = am_pt 280 by decide +kernel) (by decide) (List.forall_mem_cons.mpr ⟨al_ok110, al_ints (as := [(xs (i + 1)).toInt]) (by intro x hx; simp at hx; subst hx; exact am_inT _)⟩) hcat hcs hcl2 ?_
  intro w f2 H2 locs2 hw hw2 hR2
  obtain ⟨rfl, hv01, hI2⟩ := hw
  rw [if_neg hv3]
  rw [show ((some (am_rv sa ad w)).toList ++ [am_rv sa ad w]) = [am_rv sa ad w, am_rv sa ad w] from rfl]
  have key : ∀ z : Int32, am_rv sa ad w = .int z → W p l e room_1 s m #[Value.ref b] below meth c H2 locs2 cells slots Q (F0 m 970 ls [am_rv sa ad w, am_rv sa ad w]) := by
    intro z hz
    rw [hz]
    refine lv_icmp_eq (tgt := 1061) hx hb al_d970 (by decide) (fun _ => ?_) (fun h => absurd rfl h)
    exact kk f2 H2 locs2 hI2 hR2
  have ht : w.1 = 0 := hv01
  obtain ⟨t, x⟩ := w
  have ht : t = 0 := ht
  subst ht
  exact key _ rfl

theorem al_case28 (C : al_C p s m meth c b L xs D dA sa sv) (hR : al_R s D dA sa ad f H locs) (hl : lv_has ls 4 [(0, .ref b), (1, .ref (ad.getD 0 0)), (2, .ref (ad.getD 270 0)), (3, .int (nI i))]) (hi : i + 6 ≤ L) (hcs : cells ≤ 600000 ∧ slots ≤ 7302250) (hH : al_H Inv) (hI : Inv f) (kk : ∀ (f2 : am_F) (H2 : Heap) (locs2 : List Loc), Inv f2 → al_R s D dA sa ad f2 H2 locs2 → W p l e room_1 s m #[Value.ref b] below meth c H2 locs2 cells slots Q (F0 m 1061 ls [])) : W p l e room_1 s m #[Value.ref b] below meth c H locs cells slots Q (F0 m 975 ls []) := by
  obtain ⟨⟨hx, hb, hr, hml, hown, hts0, hX, hbl, hlk, hgv⟩, hK, hFo, hL⟩ := id C
  have hcl := hH (28, 143, 283, 0, 1) (al_mem 28 rfl) f [] rfl (by intro x hx; cases hx) hI
  refine lv_aload_n hx hb al_d975 rfl (lv_at hl 1 rfl) ?_
  have ev : ([] : List am_V).map (am_rv sa ad) = [] := by simp [am_rv0, al_xs]
  have es : ([.ref (ad.getD 0 0)] : List Value) = (([] : List am_V).map (am_rv sa ad)).reverse ++ am_rv sa ad (109, 0) :: [] := by rw [ev]; rfl
  rw [es]
  refine al_call (pc := 976) (idx := 133) (mi := 143) (q := am_m143) (t0 := 109) (a0 := 0) (as := []) (rest := []) (l := l) (e := e) (below := below) (Q := Q) C hR hl.1 rfl rfl al_l133 al_d976 (show [109] = am_pt 143 by decide +kernel) (by decide) (List.forall_mem_cons.mpr ⟨al_ok109, fun v hv => by cases hv⟩) (Nat.zero_le _) hcs hcl ?_
  intro v f1 H1 locs1 hcl2 hv hR1
  have hv3 : ¬ v.1 = 3 := by
    obtain ⟨_, w9, f9, _, h9, h8, _⟩ := hcl2
    rw [h8]; decide
  rw [if_neg hv3]
  refine lv_aload_n hx hb al_d979 rfl (lv_at hl 2 rfl) ?_
  have hcat : ([am_rv sa ad v].map fun v => v.category).sum ≤ 8 := by
    show (am_rv sa ad v).category + 0 ≤ 8
    rw [am_cat2]; split <;> omega
  have es2 : ([.ref (ad.getD 270 0), am_rv sa ad v] : List Value) = (([] : List am_V).map (am_rv sa ad)).reverse ++ am_rv sa ad (110, 270) :: [am_rv sa ad v] := by rw [ev]; rfl
  rw [show ((some (am_rv sa ad v)).toList ++ []) = [am_rv sa ad v] from rfl, es2]
  refine al_call (pc := 980) (idx := 137) (mi := 283) (q := am_m283) (t0 := 110) (a0 := 270) (as := []) (rest := [am_rv sa ad v]) (l := l) (e := e) (below := below) (Q := Q) C hR1 hl.1 rfl rfl al_l137 al_d980 (show [110] = am_pt 283 by decide +kernel) (by decide) (List.forall_mem_cons.mpr ⟨al_ok110, fun v hv => by cases hv⟩) hcat hcs hcl2 ?_
  intro w f2 H2 locs2 hw hw2 hR2
  obtain ⟨rfl, hv01, hI2⟩ := hw
  rw [if_neg hv3]
  rw [show ((some (am_rv sa ad w)).toList ++ [am_rv sa ad w]) = [am_rv sa ad w, am_rv sa ad w] from rfl]
  have key : ∀ z : Int64, am_rv sa ad w = .long z → W p l e room_1 s m #[Value.ref b] below meth c H2 locs2 cells slots Q (F0 m 983 ls [am_rv sa ad w, am_rv sa ad w]) := by
    intro z hz
    rw [hz]
    refine W.lcmp hx hb al_d983 ?_
    rw [show lg_cmp z z = 0 by unfold lg_cmp; rw [if_neg (fun h => by have := Int64.lt_iff_toInt_lt.mp h; omega), if_pos rfl]]
    refine lv_if_eq (tgt := 1061) hx hb al_d984 (by decide) (fun _ => ?_) (fun h => absurd rfl h)
    exact kk f2 H2 locs2 hI2 hR2
  have ht : w.1 = 1 := hv01
  obtain ⟨t, x⟩ := w
  have ht : t = 1 := ht
  subst ht
  exact key _ rfl

theorem al_case29 (C : al_C p s m meth c b L xs D dA sa sv) (hR : al_R s D dA sa ad f H locs) (hl : lv_has ls 4 [(0, .ref b), (1, .ref (ad.getD 0 0)), (2, .ref (ad.getD 270 0)), (3, .int (nI i))]) (hi : i + 6 ≤ L) (hcs : cells ≤ 600000 ∧ slots ≤ 7302250) (hH : al_H Inv) (hI : Inv f) (kk : ∀ (f2 : am_F) (H2 : Heap) (locs2 : List Loc), Inv f2 → al_R s D dA sa ad f2 H2 locs2 → W p l e room_1 s m #[Value.ref b] below meth c H2 locs2 cells slots Q (F0 m 1061 ls [])) : W p l e room_1 s m #[Value.ref b] below meth c H locs cells slots Q (F0 m 989 ls []) := by
  obtain ⟨⟨hx, hb, hr, hml, hown, hts0, hX, hbl, hlk, hgv⟩, hK, hFo, hL⟩ := id C
  have hcl := hH (29, 150, 288, 0, 0) (al_mem 29 rfl) f [] rfl (by intro x hx; cases hx) hI
  refine lv_aload_n hx hb al_d989 rfl (lv_at hl 1 rfl) ?_
  have ev : ([] : List am_V).map (am_rv sa ad) = [] := by simp [am_rv0, al_xs]
  have es : ([.ref (ad.getD 0 0)] : List Value) = (([] : List am_V).map (am_rv sa ad)).reverse ++ am_rv sa ad (109, 0) :: [] := by rw [ev]; rfl
  rw [es]
  refine al_call (pc := 990) (idx := 138) (mi := 150) (q := am_m150) (t0 := 109) (a0 := 0) (as := []) (rest := []) (l := l) (e := e) (below := below) (Q := Q) C hR hl.1 rfl rfl al_l138 al_d990 (show [109] = am_pt 150 by decide +kernel) (by decide) (List.forall_mem_cons.mpr ⟨al_ok109, fun v hv => by cases hv⟩) (Nat.zero_le _) hcs hcl ?_
  intro v f1 H1 locs1 hcl2 hv hR1
  have hv3 : ¬ v.1 = 3 := by
    obtain ⟨_, w9, f9, _, h9, h8, _⟩ := hcl2
    rw [h8]; decide
  rw [if_neg hv3]
  refine lv_aload_n hx hb al_d993 rfl (lv_at hl 2 rfl) ?_
  have hcat : ([am_rv sa ad v].map fun v => v.category).sum ≤ 8 := by
    show (am_rv sa ad v).category + 0 ≤ 8
    rw [am_cat2]; split <;> omega
  have es2 : ([.ref (ad.getD 270 0), am_rv sa ad v] : List Value) = (([] : List am_V).map (am_rv sa ad)).reverse ++ am_rv sa ad (110, 270) :: [am_rv sa ad v] := by rw [ev]; rfl
  rw [show ((some (am_rv sa ad v)).toList ++ []) = [am_rv sa ad v] from rfl, es2]
  refine al_call (pc := 994) (idx := 141) (mi := 288) (q := am_m288) (t0 := 110) (a0 := 270) (as := []) (rest := [am_rv sa ad v]) (l := l) (e := e) (below := below) (Q := Q) C hR1 hl.1 rfl rfl al_l141 al_d994 (show [110] = am_pt 288 by decide +kernel) (by decide) (List.forall_mem_cons.mpr ⟨al_ok110, fun v hv => by cases hv⟩) hcat hcs hcl2 ?_
  intro w f2 H2 locs2 hw hw2 hR2
  obtain ⟨rfl, hv01, hI2⟩ := hw
  rw [if_neg hv3]
  rw [show ((some (am_rv sa ad w)).toList ++ [am_rv sa ad w]) = [am_rv sa ad w, am_rv sa ad w] from rfl]
  have key : ∀ z : Int32, am_rv sa ad w = .int z → W p l e room_1 s m #[Value.ref b] below meth c H2 locs2 cells slots Q (F0 m 997 ls [am_rv sa ad w, am_rv sa ad w]) := by
    intro z hz
    rw [hz]
    refine lv_icmp_eq (tgt := 1061) hx hb al_d997 (by decide) (fun _ => ?_) (fun h => absurd rfl h)
    exact kk f2 H2 locs2 hI2 hR2
  have ht : w.1 = 0 := hv01
  obtain ⟨t, x⟩ := w
  have ht : t = 0 := ht
  subst ht
  exact key _ rfl

theorem al_case30 (C : al_C p s m meth c b L xs D dA sa sv) (hR : al_R s D dA sa ad f H locs) (hl : lv_has ls 4 [(0, .ref b), (1, .ref (ad.getD 0 0)), (2, .ref (ad.getD 270 0)), (3, .int (nI i))]) (hi : i + 6 ≤ L) (hcs : cells ≤ 600000 ∧ slots ≤ 7302250) (hH : al_H Inv) (hI : Inv f) (kk : ∀ (f2 : am_F) (H2 : Heap) (locs2 : List Loc), Inv f2 → al_R s D dA sa ad f2 H2 locs2 → W p l e room_1 s m #[Value.ref b] below meth c H2 locs2 cells slots Q (F0 m 1061 ls [])) : W p l e room_1 s m #[Value.ref b] below meth c H locs cells slots Q (F0 m 1002 ls []) := by
  obtain ⟨⟨hx, hb, hr, hml, hown, hts0, hX, hbl, hlk, hgv⟩, hK, hFo, hL⟩ := id C
  have hcl := hH (30, 152, 291, 1, 0) (al_mem 30 rfl) f [(xs (i + 1)).toInt] rfl (by intro x hx; simp at hx; subst hx; exact am_inT _) hI
  refine lv_aload_n hx hb al_d1002 rfl (lv_at hl 1 rfl) ?_
  refine al_arg C hR hl hi (k := 1) (by decide) al_d1003 al_d1004 al_d1005 al_d1006 al_d1007 ?_
  have ev : [(0, (xs (i + 1)).toInt)].map (am_rv sa ad) = [.int (xs (i + 1))] := by simp [am_rv0, al_xs]
  have es : ([.int (xs (i + 1)), .ref (ad.getD 0 0)] : List Value) = ([(0, (xs (i + 1)).toInt)].map (am_rv sa ad)).reverse ++ am_rv sa ad (109, 0) :: [] := by rw [ev]; rfl
  rw [es]
  refine al_call (pc := 1008) (idx := 142) (mi := 152) (q := am_m152) (t0 := 109) (a0 := 0) (as := [(0, (xs (i + 1)).toInt)]) (rest := []) (l := l) (e := e) (below := below) (Q := Q) C hR hl.1 rfl rfl al_l142 al_d1008 (show [109, 0] = am_pt 152 by decide +kernel) (by decide) (List.forall_mem_cons.mpr ⟨al_ok109, al_ints (as := [(xs (i + 1)).toInt]) (by intro x hx; simp at hx; subst hx; exact am_inT _)⟩) (Nat.zero_le _) hcs hcl ?_
  intro v f1 H1 locs1 hcl2 hv hR1
  have hv3 : ¬ v.1 = 3 := by
    obtain ⟨_, w9, f9, _, h9, h8, _⟩ := hcl2
    rw [h8]; decide
  rw [if_neg hv3]
  refine lv_aload_n hx hb al_d1011 rfl (lv_at hl 2 rfl) ?_
  refine al_arg C hR1 hl hi (k := 1) (by decide) al_d1012 al_d1013 al_d1014 al_d1015 al_d1016 ?_
  have hcat : ([am_rv sa ad v].map fun v => v.category).sum ≤ 8 := by
    show (am_rv sa ad v).category + 0 ≤ 8
    rw [am_cat2]; split <;> omega
  have es2 : ([.int (xs (i + 1)), .ref (ad.getD 270 0), am_rv sa ad v] : List Value) = ([(0, (xs (i + 1)).toInt)].map (am_rv sa ad)).reverse ++ am_rv sa ad (110, 270) :: [am_rv sa ad v] := by rw [ev]; rfl
  rw [show ((some (am_rv sa ad v)).toList ++ []) = [am_rv sa ad v] from rfl, es2]
  refine al_call (pc := 1017) (idx := 145) (mi := 291) (q := am_m291) (t0 := 110) (a0 := 270) (as := [(0, (xs (i + 1)).toInt)]) (rest := [am_rv sa ad v]) (l := l) (e := e) (below := below) (Q := Q) C hR1 hl.1 rfl rfl al_l145 al_d1017 (show [110, 0] = am_pt 291 by decide +kernel) (by decide) (List.forall_mem_cons.mpr ⟨al_ok110, al_ints (as := [(xs (i + 1)).toInt]) (by intro x hx; simp at hx; subst hx; exact am_inT _)⟩) hcat hcs hcl2 ?_
  intro w f2 H2 locs2 hw hw2 hR2
  obtain ⟨rfl, hv01, hI2⟩ := hw
  rw [if_neg hv3]
  rw [show ((some (am_rv sa ad w)).toList ++ [am_rv sa ad w]) = [am_rv sa ad w, am_rv sa ad w] from rfl]
  have key : ∀ z : Int32, am_rv sa ad w = .int z → W p l e room_1 s m #[Value.ref b] below meth c H2 locs2 cells slots Q (F0 m 1020 ls [am_rv sa ad w, am_rv sa ad w]) := by
    intro z hz
    rw [hz]
    refine lv_icmp_eq (tgt := 1061) hx hb al_d1020 (by decide) (fun _ => ?_) (fun h => absurd rfl h)
    exact kk f2 H2 locs2 hI2 hR2
  have ht : w.1 = 0 := hv01
  obtain ⟨t, x⟩ := w
  have ht : t = 0 := ht
  subst ht
  exact key _ rfl

theorem al_case31 (C : al_C p s m meth c b L xs D dA sa sv) (hR : al_R s D dA sa ad f H locs) (hl : lv_has ls 4 [(0, .ref b), (1, .ref (ad.getD 0 0)), (2, .ref (ad.getD 270 0)), (3, .int (nI i))]) (hi : i + 6 ≤ L) (hcs : cells ≤ 600000 ∧ slots ≤ 7302250) (hH : al_H Inv) (hI : Inv f) (kk : ∀ (f2 : am_F) (H2 : Heap) (locs2 : List Loc), Inv f2 → al_R s D dA sa ad f2 H2 locs2 → W p l e room_1 s m #[Value.ref b] below meth c H2 locs2 cells slots Q (F0 m 1061 ls [])) : W p l e room_1 s m #[Value.ref b] below meth c H locs cells slots Q (F0 m 1025 ls []) := by
  obtain ⟨⟨hx, hb, hr, hml, hown, hts0, hX, hbl, hlk, hgv⟩, hK, hFo, hL⟩ := id C
  have hcl := hH (31, 153, 292, 0, 0) (al_mem 31 rfl) f [] rfl (by intro x hx; cases hx) hI
  refine lv_aload_n hx hb al_d1025 rfl (lv_at hl 1 rfl) ?_
  have ev : ([] : List am_V).map (am_rv sa ad) = [] := by simp [am_rv0, al_xs]
  have es : ([.ref (ad.getD 0 0)] : List Value) = (([] : List am_V).map (am_rv sa ad)).reverse ++ am_rv sa ad (109, 0) :: [] := by rw [ev]; rfl
  rw [es]
  refine al_call (pc := 1026) (idx := 146) (mi := 153) (q := am_m153) (t0 := 109) (a0 := 0) (as := []) (rest := []) (l := l) (e := e) (below := below) (Q := Q) C hR hl.1 rfl rfl al_l146 al_d1026 (show [109] = am_pt 153 by decide +kernel) (by decide) (List.forall_mem_cons.mpr ⟨al_ok109, fun v hv => by cases hv⟩) (Nat.zero_le _) hcs hcl ?_
  intro v f1 H1 locs1 hcl2 hv hR1
  have hv3 : ¬ v.1 = 3 := by
    obtain ⟨_, w9, f9, _, h9, h8, _⟩ := hcl2
    rw [h8]; decide
  rw [if_neg hv3]
  refine lv_aload_n hx hb al_d1029 rfl (lv_at hl 2 rfl) ?_
  have hcat : ([am_rv sa ad v].map fun v => v.category).sum ≤ 8 := by
    show (am_rv sa ad v).category + 0 ≤ 8
    rw [am_cat2]; split <;> omega
  have es2 : ([.ref (ad.getD 270 0), am_rv sa ad v] : List Value) = (([] : List am_V).map (am_rv sa ad)).reverse ++ am_rv sa ad (110, 270) :: [am_rv sa ad v] := by rw [ev]; rfl
  rw [show ((some (am_rv sa ad v)).toList ++ []) = [am_rv sa ad v] from rfl, es2]
  refine al_call (pc := 1030) (idx := 149) (mi := 292) (q := am_m292) (t0 := 110) (a0 := 270) (as := []) (rest := [am_rv sa ad v]) (l := l) (e := e) (below := below) (Q := Q) C hR1 hl.1 rfl rfl al_l149 al_d1030 (show [110] = am_pt 292 by decide +kernel) (by decide) (List.forall_mem_cons.mpr ⟨al_ok110, fun v hv => by cases hv⟩) hcat hcs hcl2 ?_
  intro w f2 H2 locs2 hw hw2 hR2
  obtain ⟨rfl, hv01, hI2⟩ := hw
  rw [if_neg hv3]
  rw [show ((some (am_rv sa ad w)).toList ++ [am_rv sa ad w]) = [am_rv sa ad w, am_rv sa ad w] from rfl]
  have key : ∀ z : Int32, am_rv sa ad w = .int z → W p l e room_1 s m #[Value.ref b] below meth c H2 locs2 cells slots Q (F0 m 1033 ls [am_rv sa ad w, am_rv sa ad w]) := by
    intro z hz
    rw [hz]
    refine lv_icmp_eq (tgt := 1061) hx hb al_d1033 (by decide) (fun _ => ?_) (fun h => absurd rfl h)
    exact kk f2 H2 locs2 hI2 hR2
  have ht : w.1 = 0 := hv01
  obtain ⟨t, x⟩ := w
  have ht : t = 0 := ht
  subst ht
  exact key _ rfl

theorem al_case32 (C : al_C p s m meth c b L xs D dA sa sv) (hR : al_R s D dA sa ad f H locs) (hl : lv_has ls 4 [(0, .ref b), (1, .ref (ad.getD 0 0)), (2, .ref (ad.getD 270 0)), (3, .int (nI i))]) (hi : i + 6 ≤ L) (hcs : cells ≤ 600000 ∧ slots ≤ 7302250) (hH : al_H Inv) (hI : Inv f) (kk : ∀ (f2 : am_F) (H2 : Heap) (locs2 : List Loc), Inv f2 → al_R s D dA sa ad f2 H2 locs2 → W p l e room_1 s m #[Value.ref b] below meth c H2 locs2 cells slots Q (F0 m 1061 ls [])) : W p l e room_1 s m #[Value.ref b] below meth c H locs cells slots Q (F0 m 1038 ls []) := by
  obtain ⟨⟨hx, hb, hr, hml, hown, hts0, hX, hbl, hlk, hgv⟩, hK, hFo, hL⟩ := id C
  have hcl := hH (32, 157, 295, 1, 0) (al_mem 32 rfl) f [(xs (i + 1)).toInt] rfl (by intro x hx; simp at hx; subst hx; exact am_inT _) hI
  refine lv_aload_n hx hb al_d1038 rfl (lv_at hl 1 rfl) ?_
  refine al_arg C hR hl hi (k := 1) (by decide) al_d1039 al_d1040 al_d1041 al_d1042 al_d1043 ?_
  have ev : [(0, (xs (i + 1)).toInt)].map (am_rv sa ad) = [.int (xs (i + 1))] := by simp [am_rv0, al_xs]
  have es : ([.int (xs (i + 1)), .ref (ad.getD 0 0)] : List Value) = ([(0, (xs (i + 1)).toInt)].map (am_rv sa ad)).reverse ++ am_rv sa ad (109, 0) :: [] := by rw [ev]; rfl
  rw [es]
  refine al_call (pc := 1044) (idx := 150) (mi := 157) (q := am_m157) (t0 := 109) (a0 := 0) (as := [(0, (xs (i + 1)).toInt)]) (rest := []) (l := l) (e := e) (below := below) (Q := Q) C hR hl.1 rfl rfl al_l150 al_d1044 (show [109, 0] = am_pt 157 by decide +kernel) (by decide) (List.forall_mem_cons.mpr ⟨al_ok109, al_ints (as := [(xs (i + 1)).toInt]) (by intro x hx; simp at hx; subst hx; exact am_inT _)⟩) (Nat.zero_le _) hcs hcl ?_
  intro v f1 H1 locs1 hcl2 hv hR1
  have hv3 : ¬ v.1 = 3 := by
    obtain ⟨_, w9, f9, _, h9, h8, _⟩ := hcl2
    rw [h8]; decide
  rw [if_neg hv3]
  refine lv_aload_n hx hb al_d1047 rfl (lv_at hl 2 rfl) ?_
  refine al_arg C hR1 hl hi (k := 1) (by decide) al_d1048 al_d1049 al_d1050 al_d1051 al_d1052 ?_
  have hcat : ([am_rv sa ad v].map fun v => v.category).sum ≤ 8 := by
    show (am_rv sa ad v).category + 0 ≤ 8
    rw [am_cat2]; split <;> omega
  have es2 : ([.int (xs (i + 1)), .ref (ad.getD 270 0), am_rv sa ad v] : List Value) = ([(0, (xs (i + 1)).toInt)].map (am_rv sa ad)).reverse ++ am_rv sa ad (110, 270) :: [am_rv sa ad v] := by rw [ev]; rfl
  rw [show ((some (am_rv sa ad v)).toList ++ []) = [am_rv sa ad v] from rfl, es2]
  refine al_call (pc := 1053) (idx := 153) (mi := 295) (q := am_m295) (t0 := 110) (a0 := 270) (as := [(0, (xs (i + 1)).toInt)]) (rest := [am_rv sa ad v]) (l := l) (e := e) (below := below) (Q := Q) C hR1 hl.1 rfl rfl al_l153 al_d1053 (show [110, 0] = am_pt 295 by decide +kernel) (by decide) (List.forall_mem_cons.mpr ⟨al_ok110, al_ints (as := [(xs (i + 1)).toInt]) (by intro x hx; simp at hx; subst hx; exact am_inT _)⟩) hcat hcs hcl2 ?_
  intro w f2 H2 locs2 hw hw2 hR2
  obtain ⟨rfl, hv01, hI2⟩ := hw
  rw [if_neg hv3]
  rw [show ((some (am_rv sa ad w)).toList ++ [am_rv sa ad w]) = [am_rv sa ad w, am_rv sa ad w] from rfl]
  have key : ∀ z : Int32, am_rv sa ad w = .int z → W p l e room_1 s m #[Value.ref b] below meth c H2 locs2 cells slots Q (F0 m 1056 ls [am_rv sa ad w, am_rv sa ad w]) := by
    intro z hz
    rw [hz]
    refine lv_icmp_eq (tgt := 1061) hx hb al_d1056 (by decide) (fun _ => ?_) (fun h => absurd rfl h)
    exact kk f2 H2 locs2 hI2 hR2
  have ht : w.1 = 0 := hv01
  obtain ⟨t, x⟩ := w
  have ht : t = 0 := ht
  subst ht
  exact key _ rfl

end
