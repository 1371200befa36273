/-! THE LAW FROM ITS ENTRY, over a pure relation that the constructors set up (al_I) and the calls keep (al_H) -/
def al_G (s : State) (D : va_G) (dA : Nat → ClassId) (sa : Nat) (ad : List Nat) (sh : am_H) (f : am_F) (H : Heap) (locs : List Loc) : Prop := ad.length = sh.length ∧ am_WT sh f ∧ va_P D am_cl (am_ws dA sa ad sh f) H ∧ va_D (fun q => s.heap.size ≤ q) (am_ws dA sa ad sh f) ∧ va_S (fun q => s.heap.size ≤ q) s.heap H locs
def al_I (Inv : am_F → Prop) : Prop := ∃ (n1 n2 : Nat) (f1 f2 : am_F), am_run n1 100 0 (0, am_en (am_ml 0) [(109, 0)], [], am_new ([], fun _ _ => 0) 109 16) = some ((3, 0), aw_SH.take 270, f1) ∧ am_run n2 100 158 (0, am_en (am_ml 158) [(110, 270)], [], am_new (aw_SH.take 270, f1) 110 103) = some ((3, 0), aw_SH, f2) ∧ Inv f2
section
variable {p : Program} {l : Launch} {e : Env} {s : State} {m : MethodId} {below : List Frame} {meth : Method} {c : Code} {b L : Nat} {xs : Nat → Int32} {H : Heap} {locs : List Loc} {cells slots : Nat} {Q : State → Prop} {D : va_G} {dA : Nat → ClassId} {sa sv : Nat} {ad : List Nat} {ls : Array Slot} {f : am_F} {sh : am_H}
theorem al_new {pc idx t : Nat} {cr : vw_C} {rest : List Value} (C : al_C p s m meth c b L xs D dA sa sv) (hG : al_G s D dA sa ad sh f H locs) (c1 : am_cl[t - 100]? = some cr) (c2 : 100 ≤ t) (c4 : Cond.classLink "MendedThingsLaw" idx cr.1 ∈ am_tbl) (c5 : Cond.instantiable cr.1 cr.2.2 ∈ am_tbl) (c6 : Cond.initialized cr.1 ∈ am_tbl) (hd : decode code pc = .ok (.new idx, 3)) (hcs : cells + 1 ≤ 600000 ∧ slots + cr.2.2 ≤ 7302250)
    (kk : ∀ (q : Nat) (H1 : Heap), al_G s D dA sa (ad ++ [q]) (sh ++ [(t, cr.2.2)]) (am_new (sh, f) t cr.2.2).2 H1 locs → W p l e room_1 s m #[Value.ref b] below meth c H1 locs (cells + 1) (slots + cr.2.2) Q (F0 m (pc + 3) ls (.ref q :: rest))) : W p l e room_1 s m #[Value.ref b] below meth c H locs cells slots Q (F0 m pc ls rest) := by
  obtain ⟨⟨hx, hb, hr, hml, hown, hts0, hX, hbl, hlk, hgv⟩, hK, hFo, hL⟩ := C
  have hts : ∀ w ∈ am_tbl, w.before #[Value.ref b] s = true := fun w hw => hts0 w (List.mem_filter.mp hw).1
  obtain ⟨hla, hWT, hP, hD, hS⟩ := hG
  have hA : ∀ q : Nat, s.heap.size ≤ q → (fun q : Nat => s.heap.size ≤ q) q := fun _ h => h
  have hci : t - 100 < 11 := (List.getElem?_eq_some_iff.mp c1).1
  have het : ∀ j, j < cr.2.2 → am_dfc (am_ty (t - 100) j) (am_et t j) = true := by
    intro j hj
    have h1 := am_ftn (t - 100) hci
    rw [c1] at h1
    have h9 : cr.2.2 = (am_ftl.getD (t - 100) []).length := Option.some.inj h1
    have h2 := am_dfok (t - 100) hci j (by omega)
    rwa [show 100 + (t - 100) = t by omega] at h2
  have hok : am_okt t cr.2.2 := Or.inr ⟨c2, cr, c1, rfl⟩
  refine va_new (C := cr.1) (T := cr.2.1) (N := cr.2.2) (fs := (List.range cr.2.2).map fun j => am_rv sa ad (am_et t j, am_dfl (am_et t j))) hx hb hts (am_clok c1).1 (am_ty (t - 100)) (am_clok c1).2.1 hown (hts _ c4) (hts _ c5) (hts _ c6) hK hP hD hS hA c1 (fun j hj => ?_) hcs.1 hcs.2 hd (fun q H1 hP1 hD1 hS1 => ?_)
  · unfold vp_V
    rw [List.getD_eq_getElem?_getD, List.getElem?_map, List.getElem?_range hj]
    show defaultValue _ = am_rv sa ad (am_et t j, am_dfl (am_et t j))
    have h3 := het j hj
    generalize am_ty (t - 100) j = ty at h3 ⊢
    generalize am_et t j = et at h3 ⊢
    have hz : ∀ et : Nat, 20 ≤ et → ¬ et = 30 → Value.null = am_rv sa ad (et, am_dfl et) := by
      intro et g1 g2
      unfold am_rv am_dfl
      dsimp only
      rw [if_pos g1, if_neg (by omega), if_neg (by omega), if_neg g2, if_pos (Or.inl (by omega))]
    cases ty with
    | int => rw [show et = 0 from by simpa [am_dfc] using h3]; rfl
    | boolean => rw [show et = 0 from by simpa [am_dfc] using h3]; rfl
    | long => rw [show et = 1 from by simpa [am_dfc] using h3]; rfl
    | object n =>
      have h3 : (decide (20 ≤ et) && !(et == 30)) = true := h3
      simp only [Bool.and_eq_true, decide_eq_true_eq, Bool.not_eq_true', beq_eq_false_iff_ne] at h3
      exact hz et h3.1 h3.2
    | array n =>
      have h3 : (decide (20 ≤ et) && !(et == 30)) = true := h3
      simp only [Bool.and_eq_true, decide_eq_true_eq, Bool.not_eq_true', beq_eq_false_iff_ne] at h3
      exact hz et h3.1 h3.2
    | byte => cases h3
    | char => cases h3
    | short => cases h3
    | float => cases h3
    | double => cases h3
  · have hc : am_cell dA sa (ad ++ [q]) (am_new (sh, f) t cr.2.2).2 sh.length t cr.2.2 = .inr (t - 100, (List.range cr.2.2).map fun j => am_rv sa ad (am_et t j, am_dfl (am_et t j))) := by
      rw [am_cellO c2]
      refine congrArg (fun x => (Sum.inr (t - 100, x) : va_E)) (List.map_congr_left (fun j hj => ?_))
      show am_rv sa (ad ++ [q]) (am_et t j, if ((sh.length : Nat) : Int) = (sh.length : Int) then am_dfl (am_et t ((j : Int)).toNat) else _) = _
      rw [if_pos rfl, Int.toNat_natCast]
      exact am_rv_ext hla (am_okd _)
    have hw : am_ws dA sa (ad ++ [q]) (sh ++ [(t, cr.2.2)]) (am_new (sh, f) t cr.2.2).2 = am_ws dA sa ad sh f ++ [(q, .inr (t - 100, (List.range cr.2.2).map fun j => am_rv sa ad (am_et t j, am_dfl (am_et t j))))] := by
      rw [← hc]
      refine am_ws_app hla hWT (fun i hi k => ?_)
      have hne : ¬ (i : Int) = (sh.length : Int) := by omega
      show (if (i : Int) = (sh.length : Int) then _ else f i k) = f i k
      rw [if_neg hne]
    exact kk q H1 ⟨by simp [hla], am_WT_new hWT hok, by rw [hw]; exact hP1, by rw [hw]; exact hD1, hS1⟩
theorem al_init {pc idx mi n aq : Nat} {q : am_Q} {t0 : Nat} {a0 : Int} {rest : List Value} {sh1 : am_H} {f1 : am_F} (C : al_C p s m meth c b L xs D dA sa sv) (hG : al_G s D dA sa ad sh f H locs) (hl : ls.size = 4) (hq : am_M[mi]? = some q) (hkk : q.2.2.2.2.2.2.2.1 = 2) (hlink : Cond.methodLink "MendedThingsLaw" idx q.1 ∈ am_tbl) (hd : decode code pc = .ok (.invokespecial idx, 3)) (htags : ([(t0, a0)] : List am_V).map Prod.fst = am_pt mi) (h20 : 20 ≤ t0 ∧ ¬ t0 = 30) (ha0 : 0 ≤ a0) (haq : ad.getD a0.toNat 0 = aq) (hoka : am_okv sh (t0, a0)) (hrest : (rest.map fun v => v.category).sum ≤ 8) (hrun : am_run n 100 mi (0, am_en (am_ml mi) [(t0, a0)], [], sh, f) = some ((3, 0), sh1, f1)) (hcs : cells + (sh1.length - sh.length) ≤ 600000 ∧ slots + (am_tot sh1 - am_tot sh) ≤ 7302250)
    (kk : ∀ (z : List Nat) (H1 : Heap) (locs1 : List Loc), al_G s D dA sa (ad ++ z) sh1 f1 H1 locs1 → W p l e room_1 s m #[Value.ref b] below meth c H1 locs1 (cells + (sh1.length - sh.length)) (slots + (am_tot sh1 - am_tot sh)) Q (F0 m (pc + 3) ls rest)) : W p l e room_1 s m #[Value.ref b] below meth c H locs cells slots Q (F0 m pc ls (.ref aq :: rest)) := by
  subst haq
  obtain ⟨⟨hx, hb, hr, hml, hown, hts0, hX, hbl, hlk, hgv⟩, hK, hFo, hL⟩ := C
  have hts : ∀ w ∈ am_tbl, w.before #[Value.ref b] s = true := fun w hw => hts0 w (List.mem_filter.mp hw).1
  obtain ⟨hla, hWT, hP, hD, hS⟩ := hG
  have hmc' := am_mok hq
  unfold am_mc at hmc'
  simp only [Bool.and_eq_true, decide_eq_true_eq] at hmc'
  obtain ⟨⟨⟨⟨⟨⟨⟨⟨i1, i2⟩, i3⟩, i4⟩, i5⟩, i6⟩, i7⟩, i8⟩, i9⟩ := hmc'
  have ept : am_pt mi = q.2.2.2.2.2.1 := by unfold am_pt; rw [hq]
  rw [hkk] at i4
  simp only [Bool.and_eq_true, decide_eq_true_eq] at i4
  obtain ⟨⟨⟨⟨⟨j1, j2⟩, j3⟩, j4⟩, j6⟩, j5⟩ := i4
  have e0 : am_rv sa ad (t0, a0) = .ref (ad.getD a0.toNat 0) := am_rvr h20.1 h20.2 ha0
  have hM := am_met (am_snd n) hq hrun htags (List.forall_mem_cons.mpr ⟨hoka, fun v hv => by cases hv⟩) l D dA sa sv ad H.size hla hWT
  have hFc : ∀ x, va_A (am_ws dA sa ad sh f) H.size x → (fun q : Nat => s.heap.size ≤ q) x := by
    intro x hx
    rcases hx with ⟨kx, ex, hx⟩ | hx
    · exact hD.2 kx _ hx
    · exact Nat.le_trans hS.1 hx
  have hPre : ∀ U : State, U.heap = H → s.WarmedH U.vm → va_Pc (([(t0, a0)] : List am_V).map (am_rv sa ad)) (am_pr0 D dA sa sv ad sh f H.size) (([(t0, a0)] : List am_V).map (am_rv sa ad)).toArray U := by
    intro U hU hW
    exact ⟨rfl, by rw [hU], by rw [hU]; exact hP, va_K.moved hW.alike hK, hD.weaken (fun _ _ _ _ => trivial), by rw [hU]; exact am_Fo.pass hFo hS hW hFc⟩
  have hcw : Cond.code q.1 q.2.1 q.2.2.1 q.2.2.2.1 ∈ am_tbl := am_cwok hq
  have hwords : ∀ w ∈ (Cond.code q.1 q.2.1 q.2.2.1 q.2.2.2.1 :: am_tbl), ∀ (a' : Array Value) (U : State), s.WarmedH U.vm → w.before a' U = true := by
    intro w hw a' U hW
    rcases List.mem_cons.mp hw with rfl | hw
    · exact am_warm hts hW _ hcw a'
    · exact am_warm hts hW w hw a'
  have hini : Cond.initialized q.1.cls ∈ am_tbl := am_in (List.mem_of_getElem? i3) rfl
  rw [List.map_cons, e0] at hM hPre
  rw [j6] at hM hwords hcw
  refine am_callk (va_runI (As := []) (rest := rest) (n := 0) (b := ad.getD a0.toNat 0) ⟨hx, hb, hml, hown, hts⟩ hM ⟨⟨rfl, rfl, Nat.le_of_ble_eq_true rfl, al_rm i7, hwords, List.mem_cons_self, hts _ hcw, hts _ hini, i6, fun sig hsig => ?_, hts _ hlink⟩, j2, hts _ (am_in (List.mem_of_getElem? j1) rfl)⟩ ⟨am_pr0_blind, hPre⟩ rfl rfl hl rfl (lv_room hrest) hd ⟨hcs.1, hcs.2⟩) hS (fun x _ hx => hFc x hx) hFc (fun st o t h => h.2) ?_
  · rw [hsig] at j3
    have h9 : sig.parameters.length + 1 = _ := Option.some.inj j3
    have h8 : 1 = q.2.2.2.2.2.1.length := by rw [← ept, ← htags]; rfl
    omega
  · intro v9 st t H1 locs1 hpo ht hS1
    obtain ⟨⟨ad', ⟨x1, hx1⟩, ho, p1, p2, p3, p4, p5⟩, -⟩ := hpo
    rw [ht] at p4
    have ho : v9 = none := by injection ho
    rw [ho]
    rw [hx1] at p1 p4 p5
    exact kk x1 H1 locs1 ⟨p1, p2, p4, p5.weaken (fun _ _ _ hx => hFc _ hx), hS1⟩
end
set_option maxRecDepth 100000 in
theorem al_n7 : Cond.classLink "MendedThingsLaw" 7 RX9 ∈ am_tbl := am_in (List.mem_of_getElem? (i := 173) (by decide +kernel)) rfl
set_option maxRecDepth 100000 in
theorem al_n10 : Cond.classLink "MendedThingsLaw" 10 RX10 ∈ am_tbl := am_in (List.mem_of_getElem? (i := 1238) (by decide +kernel)) rfl
set_option maxRecDepth 100000 in
theorem al_i9 : Cond.instantiable RX9 16 ∈ am_tbl := am_in (List.mem_of_getElem? (i := 174) (by decide +kernel)) rfl
set_option maxRecDepth 100000 in
theorem al_i10 : Cond.instantiable RX10 103 ∈ am_tbl := am_in (List.mem_of_getElem? (i := 1239) (by decide +kernel)) rfl
set_option maxRecDepth 100000 in
theorem al_t9 : Cond.initialized RX9 ∈ am_tbl := am_in (List.mem_of_getElem? (i := 154) (by decide +kernel)) rfl
set_option maxRecDepth 100000 in
theorem al_t10 : Cond.initialized RX10 ∈ am_tbl := am_in (List.mem_of_getElem? (i := 164) (by decide +kernel)) rfl
set_option maxRecDepth 100000 in
theorem al_l9 : Cond.methodLink "MendedThingsLaw" 9 am_m0.1 ∈ am_tbl := am_in (List.mem_of_getElem? (i := 175) (by decide +kernel)) rfl
set_option maxRecDepth 100000 in
theorem al_l12 : Cond.methodLink "MendedThingsLaw" 12 am_m158.1 ∈ am_tbl := am_in (List.mem_of_getElem? (i := 1240) (by decide +kernel)) rfl
theorem al_t270 : aw_SH.take 270 ++ [(110, 103)] = aw_SH.take 271 := by decide +kernel
theorem al_ln : (aw_SH.take 270).length = 270 ∧ aw_SH.length = 344 ∧ am_tot (aw_SH.take 270) ≤ 30000 ∧ am_tot aw_SH ≤ 30000 := by decide +kernel
set_option maxRecDepth 100000 in
/-- from the entry, if the pure side keeps its word -/
theorem al_start {Inv : am_F → Prop} (hH : al_H Inv) (hI : al_I Inv) {p : Program} {e : Env} {s : State} {m : MethodId} {below : List Frame} {meth : Method} {c : Code} (l : Launch) {b L : Nat} {xs : Nat → Int32} (hL : L ≤ 3072) (C0 : lw_At p s m meth c b L xs) : W p l e room_1 s m #[Value.ref b] below meth c s.heap [] 0 0 (lw_Z below #[Value.ref b] s) (entryFrame m ([Value.ref b] : List Value).toArray 4) := by
  obtain ⟨D, dA, sa, sv, hK, hFo⟩ := al_world C0
  have C : al_C p s m meth c b L xs D dA sa sv := ⟨C0, hK, hFo, hL⟩
  obtain ⟨hx, hb, hr, hml, hown, hts, hX, hbl, hlk, hgv⟩ := id C0
  obtain ⟨n1, n2, f1, f2, hr1, hr2, hI2⟩ := hI
  obtain ⟨ln1, ln2, to1, to2⟩ := al_ln
  have hl := lv_entry ([.ref b]) (n := 4) (Nat.le_of_ble_eq_true rfl)
  rw [lg_entry_eq]
  generalize (lg_sl ([.ref b]) ++ List.replicate (4 - (lg_sl ([.ref b])).length) Slot.unset).toArray = ls at hl ⊢
  have hl : lv_has ls 4 [(0, .ref b)] := hl
  have hG0 : al_G s D dA sa [] [] (fun _ _ => 0) s.heap [] := ⟨rfl, fun i c n h => by simp at h, fun k q h => by simp [am_ws] at h, ⟨fun i j p q h => by simp [am_ws] at h, fun k q h => by simp [am_ws] at h⟩, va_S.rf⟩
  refine al_new (t := 109) (cr := (RX9, TX9, 16)) C hG0 rfl (by decide) al_n7 al_i9 al_t9 al_d0 ⟨by decide, by show 0 + 16 ≤ 7302250; decide⟩ (fun q0 H1 hG1 => ?_)
  refine lv_dup hx hb al_d3 rfl ?_
  have hG1 : al_G s D dA sa [q0] [(109, 16)] (am_new ([], fun _ _ => 0) 109 16).2 H1 [] := hG1
  have hok1 : am_okv [(109, 16)] (109, 0) := ⟨fun h => (by cases h), fun h => (by cases h), fun _ _ _ => ⟨16, rfl⟩⟩
  have tot1 : am_tot [(109, 16)] = 16 := rfl
  refine al_init (pc := 4) (idx := 9) (mi := 0) (q := am_m0) (t0 := 109) (a0 := 0) (rest := [.ref q0]) C hG1 hl.1 rfl rfl al_l9 al_d4 (show [109] = am_pt 0 by decide +kernel) ⟨by decide, by decide⟩ (by decide) rfl hok1 (show 1 + 0 ≤ 8 by decide) hr1 ⟨by simp only [ln1, List.length_cons, List.length_nil]; omega, by rw [tot1]; show 0 + 16 + _ ≤ _; omega⟩ (fun z1 H2 locs2 hG2 => ?_)
  refine lv_astore_n (lv' := [(1, .ref q0), (0, .ref b)]) hx hb al_d7 rfl hl (by decide) rfl (fun ls hl => ?_)
  have hz1 : z1.length = 269 := by
    have := hG2.1
    rw [ln1, List.length_append] at this
    simp at this; omega
  refine al_new (t := 110) (cr := (RX10, TX10, 103)) C hG2 rfl (by decide) al_n10 al_i10 al_t10 al_d8 ⟨by simp only [ln1, List.length_cons, List.length_nil]; omega, by rw [tot1]; show 0 + 16 + _ + 103 ≤ _; omega⟩ (fun q1 H3 hG3 => ?_)
  refine lv_dup hx hb al_d11 rfl ?_
  have e270 : ([q0] ++ z1 ++ [q1]).getD 270 0 = q1 := by
    rw [List.getD_eq_getElem?_getD, List.getElem?_append_right (by simp; omega)]
    simp [hz1]
  have e0 : ∀ z : List Nat, ([q0] ++ z1 ++ [q1] ++ z).getD 0 0 = q0 := fun z => by simp [List.getD_eq_getElem?_getD]
  have e270z : ∀ z : List Nat, ([q0] ++ z1 ++ [q1] ++ z).getD 270 0 = q1 := fun z => by
    rw [List.getD_eq_getElem?_getD, List.getElem?_append_left (by simp; omega), ← List.getD_eq_getElem?_getD]
    exact e270
  have hok2 : am_okv (aw_SH.take 270 ++ [(110, 103)]) (110, 270) := ⟨fun h => (by cases h), fun h => (by cases h), fun _ _ _ => ⟨103, by
    show (aw_SH.take 270 ++ [(110, 103)])[270]? = some (110, 103)
    rw [List.getElem?_append_right (by omega), ln1]; rfl⟩⟩
  have hlen3 : (aw_SH.take 270 ++ [(110, 103)]).length = 271 := by rw [List.length_append, ln1]; rfl
  have htot3 : am_tot (aw_SH.take 270 ++ [(110, 103)]) = am_tot (aw_SH.take 270) + 103 := by rw [am_tot_app]; rfl
  refine al_init (pc := 12) (idx := 12) (mi := 158) (q := am_m158) (t0 := 110) (a0 := 270) (rest := [.ref q1]) C hG3 hl.1 rfl rfl al_l12 al_d12 (show [110] = am_pt 158 by decide +kernel) ⟨by decide, by decide⟩ (by decide) e270 hok2 (show 1 + 0 ≤ 8 by decide) hr2 ⟨by rw [hlen3, ln2, ln1]; show 0 + 1 + _ + 1 + _ ≤ _; simp only [List.length_cons, List.length_nil]; omega, by rw [htot3, tot1]; show 0 + 16 + _ + 103 + _ ≤ _; omega⟩ (fun z2 H4 locs4 hG4 => ?_)
  refine lv_astore_n (lv' := [(2, .ref q1), (1, .ref q0), (0, .ref b)]) hx hb al_d15 rfl hl (by decide) rfl (fun ls hl => ?_)
  refine lv_iconst (v := nI 0) hx hb al_d16 (by decide) ?_
  refine lv_istore_n (lv' := [(3, .int (nI 0)), (2, .ref q1), (1, .ref q0), (0, .ref b)]) hx hb al_d17 rfl hl (by decide) rfl (fun ls hl => ?_)
  refine W.widen (k := 600000) (n := 7302250) (by rw [hlen3, ln2, ln1]; show 0 + 1 + _ + 1 + _ ≤ _; simp only [List.length_cons, List.length_nil]; omega) (by rw [htot3, tot1]; show 0 + 16 + _ + 103 + _ ≤ _; omega) ?_
  refine al_loop (ad := [q0] ++ z1 ++ [q1] ++ z2) C hH (L + 1) 0 f2 H4 locs4 ls (by omega) (by omega) hI2 hG4 ?_
  rw [e0, e270z]
  exact lv_sub hl [3, 2, 1, 0] rfl

