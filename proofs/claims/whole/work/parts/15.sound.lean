theorem am_callk {p : Program} {l : Launch} {e : Env} {R : Room} {s : State} {m : MethodId} {args : Array Value} {below : List Frame} {meth : Method} {c : Code} {H : Heap} {locs : List Loc} {cells slots : Nat} {Q : State → Prop} {pc : Nat} {ls : Array Slot} {rest st0 : List Value} {A0 A1 : Nat → Prop} {H0 : Heap} {mc ms : Nat} {free : Addr → Prop} {Qa : State → Outcome → State → Prop} (hr : va_Run p l e R s m args below meth c H locs cells slots mc ms (F0 m pc ls st0) rest Qa free) (hS : va_S A0 H0 H locs) (hA : ∀ q, q < H.size → A1 q → A0 q) (hf : ∀ q, free q → A0 q) (hQ : ∀ st o t, Qa st o t → va_F A1 st t)
    (kk : ∀ (v : Option Value) (st t : State) (H1 : Heap) (locs1 : List Loc), Qa st (.returned v) t → t.heap = H1 → va_S A0 H0 H1 locs1 → W p l e R s m args below meth c H1 locs1 (cells + mc) (slots + ms) Q (F0 m (pc + 3) ls (v.toList ++ rest))) : W p l e R s m args below meth c H locs cells slots Q (F0 m pc ls st0) := by
  intro T hT X
  obtain ⟨v, st₀, t, T', L, h0, X', hL, e1, e2, hq, st⟩ := hr T hT X
  obtain ⟨hz, hk⟩ := hQ _ _ _ hq
  rw [h0] at hz hk
  obtain ⟨t2, a1, b1⟩ := kk v st₀ t T'.heap (locs ++ L) hq e1.symm
    ⟨Nat.le_trans hS.1 (by rw [e1]; exact hz), fun q h1 h2 => by rw [e1, hk q (Nat.lt_of_lt_of_le h1 hS.1) (fun z => h2 (hA q (Nat.lt_of_lt_of_le h1 hS.1) z))]; exact hS.2.1 q h1 h2, fun q hq => by
      rcases List.mem_append.mp hq with h | h
      · exact hS.2.2 q h
      · exact hf _ (hL q h)⟩ T' rfl X'
  exact ⟨t2, st t2 a1, b1⟩
theorem am_rm {a d' x : Nat} (h : a ≤ 20) (h2 : 60 * (d' + 1 + 4) ≤ x) : 8 + (a + 11) + 60 * (d' + 4) ≤ x := by omega
set_option maxRecDepth 100000 in
theorem am_sound (hok : ∀ (mi : Nat) (q : am_Q), am_M[mi]? = some q → am_okM mi = true) : ∀ n, am_Snd n
  | 0 => fun d mi q pc L S sh f v sh' f' _ h => by cases h
  | n + 1 => by
    have ih := am_sound hok n
    intro d mi q pc L S sh f v sh' f' hq hrun p l e R s m args below meth c D dA sa sv A ls ad0 ad H locs cells slots C hr hz hJ hfr hlo hce hsl
    have hokm := hok mi q hq
    unfold am_okM at hokm
    rw [hq] at hokm
    have hmc := am_mok hq
    unfold am_mc at hmc
    simp only [Bool.and_eq_true, decide_eq_true_eq] at hmc
    obtain ⟨⟨⟨⟨⟨⟨⟨⟨g1, g2⟩, g3⟩, g4⟩, g5⟩, g6⟩, g7⟩, g8⟩, g9⟩ := hmc
    -- the instruction here
    unfold am_run at hrun
    cases hs : am_stp mi (pc, L, S, sh, f) with
    | none => rw [hs] at hrun; cases hrun
    | some o =>
      rw [hs] at hrun
      unfold am_stp at hs
      cases hi : am_ins mi pc with
      | none =>
        dsimp only at hs
        rw [hi] at hs; cases hs
      | some i =>
        dsimp only at hs
        rw [hi] at hs
        dsimp only at hs
        cases hcode : am_C[mi]? with
        | none =>
          unfold am_ins at hi
          rw [hcode] at hi; cases hi
        | some cl =>
          rw [hcode] at hokm
          have hmem : (pc, i) ∈ cl := by
            unfold am_ins at hi
            rw [hcode] at hi
            exact am_look hi
          have hrow := List.all_eq_true.mp hokm _ hmem
          have hnn := List.all_eq_true.mp (List.all_eq_true.mp am_nnok _ (List.mem_of_getElem? hcode)) _ hmem
          unfold am_okR at hrow
          dsimp only at hrow hnn
          cases hdec : decode q.2.1 pc with
          | error x => rw [hdec] at hrow; cases hrow
          | ok y =>
            obtain ⟨ins, len⟩ := y
            rw [hdec] at hrow
            simp only [Bool.and_eq_true, Bool.or_eq_true, beq_iff_eq, decide_eq_true_eq] at hrow
            obtain ⟨hlen, henc⟩ := hrow
            subst henc
            match o, hs, hrun with
            | .inl c', hs, hrun =>
              obtain ⟨pc', L', S', sh1, f1⟩ := c'
              have hrun : am_run n d mi (pc', L', S', sh1, f1) = some (v, sh', f') := hrun
              have hm2 : ∃ z, sh' = sh1 ++ z := am_mono n d mi (pc', L', S', sh1, f1) v (sh', f') hrun
              have hm1 : ∃ z, sh1 = sh ++ z := by
                generalize am_enc q.2.2.2.2.1 (q.2.2.2.2.2.2.2.1 == 2) q.2.2.2.2.2.2.1 pc ins (pc + len) = ii at hs
                obtain ⟨op, nn, xs⟩ := ii
                by_cases h9 : op = 29
                · subst h9
                  obtain ⟨w, hw⟩ := am_29 hs
                  cases hw
                · by_cases h8 : op = 28
                  · subst h8
                    obtain ⟨w, hw⟩ := am_28 hs
                    cases hw
                  · rcases am_st_isI op nn xs L S (sh, f) h8 h9 with h1 | ⟨w, h1, z2, hz2⟩
                    · rw [h1] at hs; cases hs
                    · rw [h1] at hs
                      cases hs
                      exact ⟨z2, hz2⟩
              obtain ⟨z2, hz2⟩ := hm2
              obtain ⟨z1, hz1⟩ := hm1
              have ln1 : sh1.length = sh.length + z1.length := by rw [hz1, List.length_append]
              have ln2 : sh'.length = sh1.length + z2.length := by rw [hz2, List.length_append]
              have to1 : am_tot sh1 = am_tot sh + am_tot z1 := by rw [hz1, am_tot_app]
              have to2 : am_tot sh' = am_tot sh1 + am_tot z2 := by rw [hz2, am_tot_app]
              refine am_next C hdec hlen hnn hJ hs ⟨by omega, by omega⟩ ⟨by omega, by omega⟩ ?_
              intro ad' ls' H' locs' hx hJ'
              obtain ⟨x1, hx1⟩ := hx
              obtain ⟨x0, hx0⟩ := hz
              have w := ih d mi q pc' L' S' sh1 f1 v sh' f' hq hrun p l e R s m args below meth c D dA sa sv A ls' ad0 ad' H' locs' (cells + (sh1.length - sh.length)) (slots + (am_tot sh1 - am_tot sh)) C hr ⟨x0 ++ x1, by rw [hx1, hx0, List.append_assoc]⟩ hJ' hfr hlo (by omega) (by omega)
              rw [show cells + (sh1.length - sh.length) + (sh'.length - sh1.length) = cells + (sh'.length - sh.length) by omega, show slots + (am_tot sh1 - am_tot sh) + (am_tot sh' - am_tot sh1) = slots + (am_tot sh' - am_tot sh) by omega] at w
              exact w
            | .inr (.inl r), hs, hrun =>
              have hrun : some r = some (v, sh', f') := hrun
              cases hrun
              exact am_retn C hdec hlen hr g2 hz hJ hs
            | .inr (.inr (m', as, pc1, L1, S1, s1)), hs, hrun =>
              obtain ⟨kd, k, ti, hins, hll, c1, c2, c3, c4, c5, rfl, rfl, rfl, rfl⟩ := am_callx hs
              match d, hrun, hfr, hlo with
              | 0, hrun, hfr, hlo => cases hrun
              | d' + 1, hrun, hfr, hlo =>
                have hrun : (match am_run n d' m' (0, am_en (am_ml m') as, [], (sh, f)) with | none => none | some (v1, s1) => am_run n (d' + 1) mi (pc + len, L1, if v1.1 = 3 then S.drop (am_pt m').length else v1 :: S.drop (am_pt m').length, s1)) = some (v, sh', f') := hrun
                cases hcr : am_run n d' m' (0, am_en (am_ml m') as, [], (sh, f)) with
                | none => rw [hcr] at hrun; cases hrun
                | some w1 =>
                  obtain ⟨v1, sh1, f1⟩ := w1
                  rw [hcr] at hrun
                  have hrun : am_run n (d' + 1) mi (pc + len, L1, if v1.1 = 3 then S.drop (am_pt m').length else v1 :: S.drop (am_pt m').length, (sh1, f1)) = some (v, sh', f') := hrun
                  obtain ⟨z1, hz1⟩ := am_mono n d' m' _ v1 (sh1, f1) hcr
                  obtain ⟨z2, hz2⟩ := am_mono n (d' + 1) mi _ v (sh', f') hrun
                  have hz1 : sh1 = sh ++ z1 := hz1
                  have hz2 : sh' = sh1 ++ z2 := hz2
                  have ln1 : sh1.length = sh.length + z1.length := by rw [hz1, List.length_append]
                  have ln2 : sh'.length = sh1.length + z2.length := by rw [hz2, List.length_append]
                  have to1 : am_tot sh1 = am_tot sh + am_tot z1 := by rw [hz1, am_tot_app]
                  have to2 : am_tot sh' = am_tot sh1 + am_tot z2 := by rw [hz2, am_tot_app]
                  obtain ⟨hx, hb, hml, hon, hown, hts, hK, hA, hin, hFo, hlk⟩ := id C
                  -- the callee
                  have hmok : ∃ q', am_M[m']? = some q' ∧ (kd ≤ 2 → Cond.methodLink q.1.cls k q'.1 ∈ am_tbl ∧ q'.2.2.2.2.2.2.2.1 = kd) ∧ (kd = 3 → Cond.methodLinkNest q.1.cls k q'.1 "MendedThings" ∈ am_tbl ∧ q'.2.2.2.2.2.2.2.1 = 2) := by
                    have hl := am_llok hon hll
                    have hkd : kd = 0 ∨ kd = 1 ∨ kd = 2 ∨ kd = 3 := by
                      rcases hins with ⟨-, h⟩ | ⟨-, h⟩ | ⟨-, h | h⟩ <;> omega
                    unfold am_llc at hl
                    cases hq' : am_M[m']? with
                    | none =>
                      exfalso
                      rcases hkd with rfl | rfl | rfl | rfl
                      all_goals
                        dsimp only at hl
                        rw [hq'] at hl
                        cases hl
                    | some q' =>
                      rcases hkd with rfl | rfl | rfl | rfl
                      all_goals
                        dsimp only at hl
                        rw [hq'] at hl
                        simp only [Bool.and_eq_true, decide_eq_true_eq] at hl
                        refine ⟨q', rfl, fun h2 => ?_, fun h3 => ?_⟩
                        all_goals first
                          | exact ⟨am_in (List.mem_of_getElem? hl.1) rfl, hl.2⟩
                          | omega
                  obtain ⟨q', hq', hk1, hk3⟩ := hmok
                  have hmc' := am_mok hq'
                  unfold am_mc at hmc'
                  simp only [Bool.and_eq_true, decide_eq_true_eq] at hmc'
                  obtain ⟨⟨⟨⟨⟨⟨⟨⟨i1, i2⟩, i3⟩, i4⟩, i5⟩, i6⟩, i7⟩, i8⟩, i9⟩ := hmc'
                  have ept : am_pt m' = q'.2.2.2.2.2.1 := by unfold am_pt; rw [hq']
                  have hsplit : S = as.reverse ++ S.drop (am_pt m').length := by
                    rw [c2, List.reverse_reverse, List.take_append_drop]
                  have hokS := hJ.2.1.2
                  have hoka : ∀ w ∈ as, am_okv sh w := fun w hw => hokS w (by rw [hsplit]; exact List.mem_append_left _ (List.mem_reverse.mpr hw))
                  have hokr : ∀ w ∈ S.drop (am_pt m').length, am_okv sh w := fun w hw => hokS w (List.mem_of_mem_drop hw)
                  have hM := am_met ih hq' hcr c3 hoka l D dA sa sv ad H.size hJ.2.2.1 hJ.2.2.2.1
                  have hFc : ∀ x, va_A (am_ws dA sa ad sh f) H.size x → A x := by
                    intro x hx
                    rcases hx with ⟨kx, ex, hx⟩ | hx
                    · exact hJ.2.2.2.2.2.1.2 kx _ hx
                    · exact hA x (Nat.le_trans hJ.2.2.2.2.2.2.1 hx)
                  have hPre : ∀ U : State, U.heap = H → s.WarmedH U.vm → va_Pc (as.map (am_rv sa ad)) (am_pr0 D dA sa sv ad sh f H.size) (as.map (am_rv sa ad)).toArray U := by
                    intro U hU hW
                    exact ⟨rfl, by rw [hU], by rw [hU]; exact hJ.2.2.2.2.1, va_K.moved hW.alike hK, hJ.2.2.2.2.2.1.weaken (fun _ _ _ _ => trivial), by rw [hU]; exact am_Fo.pass hFo hJ.2.2.2.2.2.2 hW hFc⟩
                  have hcw : Cond.code q'.1 q'.2.1 q'.2.2.1 q'.2.2.2.1 ∈ am_tbl := am_cwok hq'
                  have hwords : ∀ w ∈ (Cond.code q'.1 q'.2.1 q'.2.2.1 q'.2.2.2.1 :: am_tbl), ∀ (a' : Array Value) (U : State), s.WarmedH U.vm → w.before a' U = true := by
                    intro w hw a' U hW
                    rcases List.mem_cons.mp hw with rfl | hw
                    · exact am_warm hts hW _ hcw a'
                    · exact am_warm hts hW w hw a'
                  have hini : Cond.initialized q'.1.cls ∈ am_tbl := am_in (List.mem_of_getElem? i3) rfl
                  have hroom : 8 + (q'.2.2.1 + 11) + 60 * (d' + 4) ≤ R.locals := am_rm i7 hlo
                  have hlen3 : len = 3 := by
                    rcases hins with ⟨rfl, -⟩ | ⟨rfl, -⟩ | ⟨rfl, -⟩ <;> exact am_ln hlen rfl (by decide)
                  subst hlen3
                  have hcat : 2 * (F0 m pc ls (S.map (am_rv sa ad))).monitorRoom + (((S.drop (am_pt m').length).map (am_rv sa ad)).map fun v => v.category).sum ≤ 8 := lv_room (by rw [am_cats]; exact c5)
                  have hstk : (S.map (am_rv sa ad)) = (as.map (am_rv sa ad)).reverse ++ (S.drop (am_pt m').length).map (am_rv sa ad) := by
                    conv => lhs; rw [hsplit]
                    rw [List.map_append, List.map_reverse]
                  -- what comes behind the call
                  have behind : ∀ (v9 : Option Value) (st t : State) (H1 : Heap) (locs1 : List Loc), am_po D dA sa (va_A (am_ws dA sa ad sh f) H.size) ad v1 sh1 f1 (as.map (am_rv sa ad)).toArray st (.returned v9) t → t.heap = H1 → va_S A s.heap H1 locs1 → W p l e R s m args below meth c H1 locs1 (cells + (sh1.length - sh.length)) (slots + (am_tot sh1 - am_tot sh)) (MQ below (am_po D dA sa A ad0 v sh' f') args s (cells + (sh'.length - sh.length)) (slots + (am_tot sh' - am_tot sh)) A) (F0 m (pc + 3) ls (v9.toList ++ (S.drop (am_pt m').length).map (am_rv sa ad))) := by
                    intro v9 st t H1 locs1 hpo ht hS1
                    obtain ⟨⟨ad', ⟨x1, hx1⟩, ho, p1, p2, p3, p4, p5⟩, -⟩ := hpo
                    obtain ⟨x0, hx0⟩ := hz
                    rw [ht] at p4
                    have hokr1 : ∀ w ∈ (if v1.1 = 3 then S.drop (am_pt m').length else v1 :: S.drop (am_pt m').length), am_okv sh1 w := by
                      rw [hz1]
                      split
                      · exact fun w hw => am_okv_ext (hokr w hw)
                      · exact List.forall_mem_cons.mpr ⟨by rw [← hz1]; exact p3, fun w hw => am_okv_ext (hokr w hw)⟩
                    have hJ1 : am_J D dA sa ad' A s.heap q.2.2.1 ls L1 (if v1.1 = 3 then S.drop (am_pt m').length else v1 :: S.drop (am_pt m').length) sh1 f1 H1 locs1 := by
                      refine ⟨⟨?_, hJ.1.2⟩, ⟨fun w hw => ?_, hokr1⟩, p1, p2, p4, p5.weaken (fun _ _ _ hx => hFc _ hx), hS1⟩
                      · rw [hx1, am_lv_ext hJ.2.2.1 hJ.2.1.1]; exact hJ.1.1
                      · rw [hz1]; exact am_okv_ext (hJ.2.1.1 w hw)
                    have w := ih (d' + 1) mi q (pc + 3) L1 _ sh1 f1 v sh' f' hq hrun p l e R s m args below meth c D dA sa sv A ls ad0 ad' H1 locs1 (cells + (sh1.length - sh.length)) (slots + (am_tot sh1 - am_tot sh)) C hr ⟨x0 ++ x1, by rw [hx1, hx0, List.append_assoc]⟩ hJ1 hfr hlo (by omega) (by omega)
                    rw [show cells + (sh1.length - sh.length) + (sh'.length - sh1.length) = cells + (sh'.length - sh.length) by omega, show slots + (am_tot sh1 - am_tot sh) + (am_tot sh' - am_tot sh1) = slots + (am_tot sh' - am_tot sh) by omega] at w
                    have hst9 : v9.toList ++ (S.drop (am_pt m').length).map (am_rv sa ad) = (if v1.1 = 3 then S.drop (am_pt m').length else v1 :: S.drop (am_pt m').length).map (am_rv sa ad') := by
                      have ho : v9 = if v1.1 = 3 then none else some (am_rv sa ad' v1) := by
                        injection ho
                      rw [ho]
                      split
                      · rw [hx1, am_map_ext hJ.2.2.1 hokr]; rfl
                      · rw [List.map_cons]
                        conv => rhs; rw [hx1, am_map_ext hJ.2.2.1 hokr]
                        rw [hx1]; rfl
                    rw [hst9]
                    exact w
                  have hasl : as.length = q'.2.2.2.2.2.1.length := by rw [← ept, ← c3, List.length_map]
                  have hQF : ∀ st o t, am_po D dA sa (va_A (am_ws dA sa ad sh f) H.size) ad v1 sh1 f1 (as.map (am_rv sa ad)).toArray st o t → va_F (va_A (am_ws dA sa ad sh f) H.size) st t := fun st o t h => h.2
                  have hcs : cells + (sh1.length - sh.length) ≤ R.cells ∧ slots + (am_tot sh1 - am_tot sh) ≤ R.slots := ⟨by omega, by omega⟩
                  rcases hins with ⟨rfl, rfl⟩ | ⟨rfl, rfl⟩ | ⟨rfl, hkd⟩
                  · obtain ⟨hlink, hkk⟩ := hk1 (by omega)
                    rw [hkk] at i4
                    simp only [Bool.and_eq_true, decide_eq_true_eq] at i4
                    refine am_callk (va_runS (As := as.map (am_rv sa ad)) (rest := (S.drop (am_pt m').length).map (am_rv sa ad)) (n := as.length) ⟨hx, hb, hml, hown, hts⟩ hM ⟨⟨rfl, rfl, by show d' + 6 + 1 ≤ R.frames; omega, hroom, hwords, List.mem_cons_self, hts _ hcw, hts _ hini, i6, fun sig hsig => ?_, hts _ hlink⟩, hts _ (am_in (List.mem_of_getElem? i4.1) rfl)⟩ ⟨am_pr0_blind, hPre⟩ rfl (List.length_map _) hJ.1.1.1 hstk hcat hdec hcs) hJ.2.2.2.2.2.2 (fun x _ hx => hFc x hx) hFc hQF behind
                    have h9 := i4.2
                    rw [hsig] at h9
                    rw [hasl]; exact (Option.some.inj h9).symm
                  · obtain ⟨hlink, hkk⟩ := hk1 (by omega)
                    rw [hkk] at i4
                    simp only [Bool.and_eq_true, decide_eq_true_eq] at i4
                    obtain ⟨⟨⟨⟨j1, j2⟩, j3⟩, j4⟩, j5⟩ := i4
                    rcases as with _ | ⟨⟨t0, a0⟩, as1⟩
                    · rw [← ept, ← c3] at j4; cases j4
                    · have ht0 : t0 = 100 + q'.2.2.2.2.1 := by
                        rw [← ept, ← c3] at j4
                        exact Option.some.inj j4
                      have ha0 : 0 ≤ a0 := by
                        rcases c4 with h | h
                        · cases h
                        · exact h
                      have e0 : am_rv sa ad (t0, a0) = .ref (ad.getD a0.toNat 0) := am_rvr (by omega) (by omega) ha0
                      have hrcv : ∃ cell : Cell, H[ad.getD a0.toNat 0]? = some cell ∧ cell.vm.isStatics = false ∧ s.vm.findClass q'.1.cls = some cell.cls := by
                        obtain ⟨nn, z1, z2, z3, z4⟩ := am_at hJ.2.2.2.1 (hoka _ List.mem_cons_self) (by omega) (by omega) ha0
                        have he := am_ws_at (dA := dA) (sa := sa) (ad := ad) (f := f) z1
                        rw [am_cellO (by omega)] at he
                        rcases z2 with z2 | ⟨-, r2, z5, z6⟩
                        · omega
                        · have hci : t0 - 100 = q'.2.2.2.2.1 := by omega
                          rw [hci] at z5 he
                          have := va_recv hK hJ.2.2.2.2.1 z5 he
                          rw [am_own z5 i1] at this
                          exact this
                      rw [List.map_cons, e0] at hM hPre hstk hQF behind
                      rw [List.reverse_cons, List.append_assoc] at hstk
                      refine am_callk (va_runV (As := as1.map (am_rv sa ad)) (rest := (S.drop (am_pt m').length).map (am_rv sa ad)) (n := as1.length) (C := q'.1.cls) (b := ad.getD a0.toNat 0) ⟨hx, hb, hml, hown, hts⟩ hM ⟨⟨rfl, rfl, by show d' + 6 + 1 ≤ R.frames; omega, hroom, hwords, List.mem_cons_self, hts _ hcw, hts _ hini, i6, fun sig hsig => ?_, hts _ hlink⟩, hts _ (am_in (List.mem_of_getElem? j1) rfl), hts _ (am_in (List.mem_of_getElem? j2) rfl)⟩ ⟨am_pr0_blind, hrcv, hPre⟩ rfl (List.length_map _) hJ.1.1.1 hstk hcat hdec hcs) hJ.2.2.2.2.2.2 (fun x _ hx => hFc x hx) hFc hQF behind
                      rw [hsig] at j3
                      have h9 : sig.parameters.length + 1 = _ := Option.some.inj j3
                      have h8 : as1.length + 1 = _ := hasl
                      omega
                  · have hk2 : q'.2.2.2.2.2.2.2.1 = 2 := by
                      rcases hkd with rfl | rfl
                      · exact (hk1 (by omega)).2
                      · exact (hk3 rfl).2
                    rw [hk2] at i4
                    simp only [Bool.and_eq_true, decide_eq_true_eq] at i4
                    obtain ⟨⟨⟨⟨⟨j1, j2⟩, j3⟩, j4⟩, j6⟩, j5⟩ := i4
                    rcases as with _ | ⟨⟨t0, a0⟩, as1⟩
                    · rw [← ept, ← c3] at j4; cases j4
                    · have ht0 : t0 = 100 + q'.2.2.2.2.1 := by
                        rw [← ept, ← c3] at j4
                        exact Option.some.inj j4
                      have ha0 : 0 ≤ a0 := by
                        rcases c4 with h | h
                        · subst h; rcases hkd with h | h <;> cases h
                        · exact h
                      have e0 : am_rv sa ad (t0, a0) = .ref (ad.getD a0.toNat 0) := am_rvr (by omega) (by omega) ha0
                      rw [List.map_cons, e0] at hM hPre hstk hQF behind
                      rw [List.reverse_cons, List.append_assoc] at hstk
                      rw [j6] at hM hwords hcw
                      have hpar : ∀ sig, parseMethodDescriptor q'.1.desc = some sig → as1.length = sig.parameters.length := by
                        intro sig hsig
                        rw [hsig] at j3
                        have h9 : sig.parameters.length + 1 = _ := Option.some.inj j3
                        have h8 : as1.length + 1 = _ := hasl
                        omega
                      rcases hkd with rfl | rfl
                      · have hlink := (hk1 (by omega)).1
                        exact am_callk (va_runI (As := as1.map (am_rv sa ad)) (rest := (S.drop (am_pt m').length).map (am_rv sa ad)) (n := as1.length) (b := ad.getD a0.toNat 0) ⟨hx, hb, hml, hown, hts⟩ hM ⟨⟨rfl, rfl, by show d' + 6 + 1 ≤ R.frames; omega, hroom, hwords, List.mem_cons_self, hts _ hcw, hts _ hini, i6, hpar, hts _ hlink⟩, j2, hts _ (am_in (List.mem_of_getElem? j1) rfl)⟩ ⟨am_pr0_blind, hPre⟩ rfl (List.length_map _) hJ.1.1.1 hstk hcat hdec hcs) hJ.2.2.2.2.2.2 (fun x _ hx => hFc x hx) hFc hQF behind
                      · have hlink := (hk3 rfl).1
                        exact am_callk (va_runIN (As := as1.map (am_rv sa ad)) (rest := (S.drop (am_pt m').length).map (am_rv sa ad)) (n := as1.length) (b := ad.getD a0.toNat 0) (host := "MendedThings") ⟨hx, hb, hml, hown, hts⟩ hM ⟨⟨⟨rfl, rfl, by show d' + 6 + 1 ≤ R.frames; omega, hroom, hwords, List.mem_cons_self⟩, hts _ hcw, hts _ hini, i6, hpar, hts _ hlink⟩, j2, hts _ (am_in (List.mem_of_getElem? j1) rfl)⟩ ⟨am_pr0_blind, hPre⟩ rfl (List.length_map _) hJ.1.1.1 hstk hcat hdec hcs) hJ.2.2.2.2.2.2 (fun x _ hx => hFc x hx) hFc hQF behind
