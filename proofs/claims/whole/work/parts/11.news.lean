set_option maxRecDepth 100000 in
theorem am_ac20 : Cond.arrayClass (newarray.typeOf .int) ∈ am_tbl := am_in (List.mem_of_getElem? (i := 209) (by decide +kernel)) rfl
set_option maxRecDepth 100000 in
theorem am_ac21 : Cond.arrayClass (newarray.typeOf .long) ∈ am_tbl := am_in (List.mem_of_getElem? (i := 1555) (by decide +kernel)) rfl
set_option maxRecDepth 100000 in
theorem am_ac22 : Cond.arrayClass (newarray.typeOf .char) ∈ am_tbl := am_in (List.mem_of_getElem? (i := 1554) (by decide +kernel)) rfl
set_option maxRecDepth 100000 in
theorem am_ac23 : Cond.arrayClass (newarray.typeOf .boolean) ∈ am_tbl := am_in (List.mem_of_getElem? (i := 1556) (by decide +kernel)) rfl
set_option maxRecDepth 100000 in
theorem am_ao : Cond.arrayOver (.object "MendedThings$State") ∈ am_tbl := am_in (List.mem_of_getElem? (i := 504) (by decide +kernel)) rfl
set_option maxRecDepth 100000 in
theorem am_oi1 : Cond.instanceMethod objectInit ∈ am_tbl := am_in (List.mem_of_getElem? (i := 179) (by decide +kernel)) rfl
theorem am_oi2 : Cond.code objectInit ⟨#[0xb1]⟩ 1 none ∈ am_tbl := am_in (am_tb1 _ (List.mem_of_getElem? (i := 27) rfl)) rfl
set_option maxRecDepth 100000 in
theorem am_ay1 : Cond.native arraycopyName ∈ am_tbl := am_in (List.mem_of_getElem? (i := 825) (by decide +kernel)) rfl
set_option maxRecDepth 100000 in
theorem am_ay2 : Cond.static arraycopyName ∈ am_tbl := am_in (List.mem_of_getElem? (i := 824) (by decide +kernel)) rfl
set_option maxRecDepth 100000 in
theorem am_ay3 : Cond.initialized "java/lang/System" ∈ am_tbl := am_in (List.mem_of_getElem? (i := 170) (by decide +kernel)) rfl
/-! new cells -/
theorem am_okv_ext {sh z : am_H} {v : am_V} (h : am_okv sh v) : am_okv (sh ++ z) v := ⟨h.1, h.2.1, fun a b c => by
  obtain ⟨n, hn⟩ := h.2.2 a b c
  exact ⟨n, by rw [List.getElem?_append_left (List.getElem?_eq_some_iff.mp hn).1]; exact hn⟩⟩
theorem am_okd {sh : am_H} (t : Nat) : am_okv sh (t, am_dfl t) := by
  refine ⟨fun h => ?_, fun h => ?_, fun h h2 h3 => ?_⟩
  · have h : t = 0 := h
    subst h; exact am_in0
  · have h : t = 1 := h
    subst h; constructor <;> decide
  · have h3 : 0 ≤ am_dfl t := h3
    have h : 20 ≤ t := h
    unfold am_dfl at h3
    rw [if_pos h] at h3
    omega
theorem am_lv_ext {sa : Nat} {ad z : List Nat} {sh : am_H} {L : List am_V} (hl : ad.length = sh.length) (h : ∀ v ∈ L, am_okv sh v) : am_lv sa (ad ++ z) L = am_lv sa ad L := by
  unfold am_lv
  congr 1
  funext i
  cases hL : L[i]? with
  | none => rfl
  | some v =>
    dsimp only
    rw [am_rv_ext hl (h v (List.mem_of_getElem? hL))]
theorem am_map_ext {sa : Nat} {ad z : List Nat} {sh : am_H} {S : List am_V} (hl : ad.length = sh.length) (h : ∀ v ∈ S, am_okv sh v) : S.map (am_rv sa (ad ++ z)) = S.map (am_rv sa ad) := List.map_congr_left fun v hv => am_rv_ext hl (h v hv)
theorem am_cell_ext {dA : Nat → ClassId} {sa : Nat} {ad z : List Nat} {sh : am_H} {f g : am_F} {i c n : Nat} (hl : ad.length = sh.length) (hW : am_WT sh f) (hs : sh[i]? = some (c, n)) (hg : ∀ k : Int, g i k = f i k) : am_cell dA sa (ad ++ z) g i c n = am_cell dA sa ad f i c n := by
  obtain ⟨-, h2⟩ := hW i c n hs
  unfold am_cell
  simp only [hg]
  split
  · congr 2
    apply List.map_congr_left
    intro k hk
    exact am_rv_ext hl (h2 k (Or.inl (List.mem_range.mp hk)))
  · split
    · rfl
    · split
      · rename_i hc
        have hfun : (fun j : Nat => if f i j < 0 then none else some ((ad ++ z).getD (f i j).toNat 0)) = (fun j : Nat => if f i j < 0 then none else some (ad.getD (f i j).toNat 0)) := by
          funext j
          by_cases hn : f i j < 0
          · rw [if_pos hn, if_pos hn]
          · rw [if_neg hn, if_neg hn]
            have h3 := h2 j (Or.inr hc)
            rw [hc] at h3
            obtain ⟨n2, h4⟩ := h3.2.2 (show 20 ≤ am_et 24 j by show 20 ≤ 107; decide) (show ¬ am_et 24 j = 30 by show ¬ 107 = 30; decide) (show 0 ≤ f i j by omega)
            have hlt : (f i j).toNat < ad.length := by rw [hl]; exact (List.getElem?_eq_some_iff.mp h4).1
            simp [List.getD_eq_getElem?_getD, List.getElem?_append_left hlt]
        rw [hfun]
      · rfl
theorem am_ws_app {dA : Nat → ClassId} {sa q : Nat} {ad : List Nat} {sh : am_H} {f g : am_F} {c n : Nat} (hl : ad.length = sh.length) (hW : am_WT sh f) (hg : ∀ i : Nat, i < sh.length → ∀ k : Int, g i k = f i k) : am_ws dA sa (ad ++ [q]) (sh ++ [(c, n)]) g = am_ws dA sa ad sh f ++ [(q, am_cell dA sa (ad ++ [q]) g sh.length c n)] := by
  apply List.ext_getElem?
  intro j
  by_cases hj : j < sh.length
  · have hs : sh[j]? = some (sh[j]) := List.getElem?_eq_getElem hj
    obtain ⟨c1, n1⟩ : Nat × Nat := sh[j]
    generalize hq : sh[j] = qq at hs
    obtain ⟨c1, n1⟩ := qq
    rw [am_ws_at (c := c1) (n := n1) (by rw [List.getElem?_append_left hj]; exact hs), List.getElem?_append_left (by rw [am_ws_len]; exact hj), am_ws_at hs, am_cell_ext hl hW hs (hg j hj)]
    simp [List.getD_eq_getElem?_getD, List.getElem?_append_left (show j < ad.length by omega)]
  · by_cases hj2 : j = sh.length
    · subst hj2
      rw [am_ws_at (c := c) (n := n) (by simp), List.getElem?_append_right (by rw [am_ws_len]; exact Nat.le_refl _), am_ws_len]
      simp [List.getD_eq_getElem?_getD, ← hl]
    · rw [List.getElem?_eq_none (by rw [am_ws_len]; simp; omega), List.getElem?_eq_none (by simp [am_ws_len]; omega)]
theorem am_WT_new {sh : am_H} {f : am_F} {c n : Nat} (hW : am_WT sh f) (hok : am_okt c n) : am_WT (am_new (sh, f) c n).1 (am_new (sh, f) c n).2 := by
  intro i c1 n1 h1
  have h1 : (sh ++ [(c, n)])[i]? = some (c1, n1) := h1
  by_cases hj : i < sh.length
  · rw [List.getElem?_append_left hj] at h1
    obtain ⟨h2, h3⟩ := hW i c1 n1 h1
    refine ⟨h2, fun k hk => ?_⟩
    show am_okv (sh ++ [(c, n)]) (am_et c1 k, if (i : Int) = (sh.length : Int) then _ else f i k)
    rw [if_neg (by omega)]
    exact am_okv_ext (h3 k hk)
  · have hi : i = sh.length := by
      have := (List.getElem?_eq_some_iff.mp h1).1
      simp at this; omega
    subst hi
    simp at h1
    obtain ⟨rfl, rfl⟩ := h1
    refine ⟨hok, fun k hk => ?_⟩
    show am_okv (sh ++ [(c, n)]) (am_et c k, if ((sh.length : Nat) : Int) = (sh.length : Int) then am_dfl (am_et c ((k : Int)).toNat) else _)
    rw [if_pos rfl, Int.toNat_natCast]
    exact am_okd _
theorem am_J_new {D : va_G} {dA : Nat → ClassId} {sa q : Nat} {ad : List Nat} {A : Nat → Prop} {H0 : Heap} {ml : Nat} {ls : Array Slot} {L S r : List am_V} {sh : am_H} {f : am_F} {H H1 : Heap} {locs : List Loc} {c n : Nat} {en : va_E} (hJ : am_J D dA sa ad A H0 ml ls L S sh f H locs) (hok : am_okt c n) (h20 : 20 ≤ c) (hr : ∀ v ∈ r, am_okv sh v) (hc : am_cell dA sa (ad ++ [q]) (am_new (sh, f) c n).2 sh.length c n = en) (hP : va_P D am_cl (am_ws dA sa ad sh f ++ [(q, en)]) H1) (hD : va_D A (am_ws dA sa ad sh f ++ [(q, en)])) (hS : va_S A H0 H1 locs) : am_J D dA sa (ad ++ [q]) A H0 ml ls L ((c, (sh.length : Int)) :: r) (am_new (sh, f) c n).1 (am_new (sh, f) c n).2 H1 locs := by
  have hw : am_ws dA sa (ad ++ [q]) (am_new (sh, f) c n).1 (am_new (sh, f) c n).2 = am_ws dA sa ad sh f ++ [(q, en)] := by
    rw [← hc]
    refine am_ws_app hJ.2.2.1 hJ.2.2.2.1 (fun i hi k => ?_)
    have hi : i < sh.length := hi
    have hne : ¬ (i : Int) = (sh.length : Int) := by omega
    show (if (i : Int) = (sh.length : Int) then _ else f i k) = f i k
    rw [if_neg hne]
  refine ⟨⟨by rw [am_lv_ext hJ.2.2.1 hJ.2.1.1]; exact hJ.1.1, hJ.1.2⟩, ⟨fun v hv => am_okv_ext (hJ.2.1.1 v hv), List.forall_mem_cons.mpr ⟨?_, fun v hv => am_okv_ext (hr v hv)⟩⟩, ?_, am_WT_new hJ.2.2.2.1 hok, by rw [hw]; exact hP, by rw [hw]; exact hD, hS⟩
  · refine ⟨fun h => ?_, fun h => ?_, fun _ _ _ => ⟨n, ?_⟩⟩
    · have h : c = 0 := h
      omega
    · have h : c = 1 := h
      omega
    · show (sh ++ [(c, n)])[((sh.length : Int)).toNat]? = some (c, n)
      rw [Int.toNat_natCast]; simp
  · show (ad ++ [q]).length = (sh ++ [(c, n)]).length
    simp [hJ.2.2.1]
theorem am_new_tot (sh : am_H) (f : am_F) (c n : Nat) : (am_new (sh, f) c n).1.length - sh.length = 1 ∧ am_tot (am_new (sh, f) c n).1 - am_tot sh = n := by
  constructor
  · show (sh ++ [(c, n)]).length - sh.length = 1
    simp
  · show am_tot (sh ++ [(c, n)]) - am_tot sh = n
    unfold am_tot
    simp
section
variable {p : Program} {l : Launch} {e : Env} {R : Room} {s : State} {m : MethodId} {args : Array Value} {below : List Frame} {meth : Method} {c : Code} {H : Heap} {locs : List Loc} {cells slots : Nat} {Q : State → Prop} {D : va_G} {dA : Nat → ClassId} {sa sv : Nat} {A : Nat → Prop} {cc : ByteArray} {ml oc rt : Nat} {ini : Bool} {own : String} {pc : Nat} {ls : Array Slot} {ad : List Nat} {sh sh' : am_H} {f f' : am_F} {L S L' S' : List am_V} {pc' : Nat}
theorem am_s_new {k : Nat} (C : am_Cx p s m args meth c D dA sa sv A cc ml oc ini own) (hd : decode cc pc = .ok (.new k, 3)) (hJ : am_J D dA sa ad A s.heap ml ls L S sh f H locs) (hst : am_st (am_enc oc ini rt pc (.new k) (pc + 3)) L S (sh, f) = some (.inl (pc', L', S', sh', f'))) (hR : cells + (sh'.length - sh.length) ≤ R.cells ∧ slots + (am_tot sh' - am_tot sh) ≤ R.slots) (kk : am_KK p l e R s m args below meth c D dA sa A ml cells slots Q ad sh pc' L' S' sh' f') : W p l e R s m args below meth c H locs cells slots Q (F0 m pc ls (S.map (am_rv sa ad))) := by
  obtain ⟨hx, hb, hml, hon, hown, hts, hK, hA, hin, hFo, hlk⟩ := C
  cases hq : am_ck oc k with
  | none => unfold am_enc at hst; dsimp only at hst; rw [hq] at hst; cases hst
  | some q =>
    obtain ⟨t, n, t1, t2, t3⟩ := q
    obtain ⟨cr, c1, c2, c3, c4, c5, c6⟩ := am_ckok hon hq
    dsimp only at c1 c2 c3
    subst c3
    have hst : am_nx (pc + 3) L ((((t : Int)).toNat, (sh.length : Int)) :: S) (am_new (sh, f) ((t : Int)).toNat ((cr.2.2 : Int)).toNat) = some (.inl (pc', L', S', sh', f')) := by
      rw [← hst]; unfold am_enc; dsimp only; rw [hq]; dsimp only; rw [if_pos c2]; rfl
    rw [Int.toNat_natCast, Int.toNat_natCast] at hst
    cases am_nx_some hst
    obtain ⟨z1, z2⟩ := am_new_tot sh f t cr.2.2
    have z1' : (sh ++ [(t, cr.2.2)]).length - sh.length = 1 := z1
    have z2' : am_tot (sh ++ [(t, cr.2.2)]) - am_tot sh = cr.2.2 := z2
    have hci : t - 100 < 11 := by
      have := (List.getElem?_eq_some_iff.mp c1).1
      exact this
    have het : ∀ j, j < cr.2.2 → am_dfc (am_ty (t - 100) j) (am_et t j) = true := by
      intro j hj
      have h1 := am_ftn (t - 100) hci
      rw [c1] at h1
      have h9 : cr.2.2 = (am_ftl.getD (t - 100) []).length := Option.some.inj h1
      have h2 := am_dfok (t - 100) hci j (by omega)
      rwa [show 100 + (t - 100) = t by omega] at h2
    have hok : am_okt t cr.2.2 := Or.inr ⟨c2, cr, c1, rfl⟩
    refine va_new (C := cr.1) (T := cr.2.1) (N := cr.2.2) (fs := (List.range cr.2.2).map fun j => am_rv sa ad (am_et t j, am_dfl (am_et t j))) hx hb hts (am_clok c1).1 (am_ty (t - 100)) (am_clok c1).2.1 hown (hts _ c4) (hts _ c5) (hts _ c6) hK hJ.2.2.2.2.1 hJ.2.2.2.2.2.1 hJ.2.2.2.2.2.2 hA c1 (fun j hj => ?_) (by rw [← z1']; exact hR.1) (by have h := hR.2; rwa [z2'] at h) hd (fun q H1 hP1 hD1 hS1 => ?_)
    · unfold vp_V
      rw [List.getD_eq_getElem?_getD, List.getElem?_map, List.getElem?_range hj]
      show defaultValue _ = am_rv sa ad (am_et t j, am_dfl (am_et t j))
      have h3 := het j hj
      generalize am_ty (t - 100) j = ty at h3 ⊢
      generalize am_et t j = et at h3 ⊢
      have hz : ∀ et : Nat, 20 ≤ et → ¬ et = 30 → Value.null = am_rv sa ad (et, am_dfl et) := by
        intro et g1 g2
        unfold am_rv am_dfl
        dsimp only
        rw [if_pos g1, if_neg (by omega), if_neg (by omega), if_neg g2, if_pos (Or.inl (by omega))]
      cases ty with
      | int => rw [show et = 0 from by simpa [am_dfc] using h3]; rfl
      | boolean => rw [show et = 0 from by simpa [am_dfc] using h3]; rfl
      | long => rw [show et = 1 from by simpa [am_dfc] using h3]; rfl
      | object n =>
        have h3 : (decide (20 ≤ et) && !(et == 30)) = true := h3
        simp only [Bool.and_eq_true, decide_eq_true_eq, Bool.not_eq_true', beq_eq_false_iff_ne] at h3
        exact hz et h3.1 h3.2
      | array n =>
        have h3 : (decide (20 ≤ et) && !(et == 30)) = true := h3
        simp only [Bool.and_eq_true, decide_eq_true_eq, Bool.not_eq_true', beq_eq_false_iff_ne] at h3
        exact hz et h3.1 h3.2
      | byte => cases h3
      | char => cases h3
      | short => cases h3
      | float => cases h3
      | double => cases h3
    · have hc : am_cell dA sa (ad ++ [q]) (am_new (sh, f) t cr.2.2).2 sh.length t cr.2.2 = .inr (t - 100, (List.range cr.2.2).map fun j => am_rv sa ad (am_et t j, am_dfl (am_et t j))) := by
        rw [am_cellO c2]
        congr 2
        apply List.map_congr_left
        intro j hj
        show am_rv sa (ad ++ [q]) (am_et t j, if ((sh.length : Nat) : Int) = (sh.length : Int) then am_dfl (am_et t ((j : Int)).toNat) else _) = _
        rw [if_pos rfl, Int.toNat_natCast]
        exact am_rv_ext hJ.2.2.1 (am_okd _)
      have k0 := kk (ad ++ [q]) ls H1 locs ⟨[q], rfl⟩ (am_J_new hJ hok (by omega) hJ.2.1.2 hc hP1 hD1 hS1)
      change W p l e R s m args below meth c H1 locs (cells + ((sh ++ [(t, cr.2.2)]).length - sh.length)) (slots + (am_tot (sh ++ [(t, cr.2.2)]) - am_tot sh)) Q _ at k0
      rw [z1', z2', List.map_cons, am_rvr (by omega) (by omega) (by omega), Int.toNat_natCast, am_map_ext hJ.2.2.1 hJ.2.1.2] at k0
      have e1 : (ad ++ [q]).getD sh.length 0 = q := by
        rw [← hJ.2.2.1]; simp [List.getD_eq_getElem?_getD]
      rw [e1] at k0
      exact k0
theorem am_s_newint (C : am_Cx p s m args meth c D dA sa sv A cc ml oc ini own) (hd : decode cc pc = .ok (.newarray .int, 2)) (hJ : am_J D dA sa ad A s.heap ml ls L S sh f H locs) (hst : am_st (am_enc oc ini rt pc (.newarray .int) (pc + 2)) L S (sh, f) = some (.inl (pc', L', S', sh', f'))) (hR : cells + (sh'.length - sh.length) ≤ R.cells ∧ slots + (am_tot sh' - am_tot sh) ≤ R.slots) (kk : am_KK p l e R s m args below meth c D dA sa A ml cells slots Q ad sh pc' L' S' sh' f') : W p l e R s m args below meth c H locs cells slots Q (F0 m pc ls (S.map (am_rv sa ad))) := by
  obtain ⟨hx, hb, hml, hon, hown, hts, hK, hA, hin, hFo, hlk⟩ := C
  obtain ⟨k, r, rfl, h⟩ := am_p0_some (show am_p0 S (fun k r => if 0 ≤ k ∧ k ≤ 10000 then am_nx (pc + 2) L ((20, (sh.length : Int)) :: r) (am_new (sh, f) 20 k.toNat) else none) = _ from hst)
  by_cases hc : 0 ≤ k ∧ k ≤ 10000
  · have h : am_nx (pc + 2) L ((20, (sh.length : Int)) :: r) (am_new (sh, f) 20 k.toNat) = some (.inl (pc', L', S', sh', f')) := by rw [← h]; exact (if_pos hc).symm
    cases am_nx_some h
    obtain ⟨z1, z2⟩ := am_new_tot sh f 20 k.toNat
    have z1' : (sh ++ [(20, k.toNat)]).length - sh.length = 1 := z1
    have z2' : am_tot (sh ++ [(20, k.toNat)]) - am_tot sh = k.toNat := z2
    obtain ⟨ok, hr⟩ := List.forall_mem_cons.mp hJ.2.1.2
    have hok : am_okt 20 k.toNat := Or.inl ⟨by decide, by decide, by omega⟩
    rw [List.map_cons, am_rv0]
    refine va_newa (atype := .int) (ty := .int) (a0 := (k.toNat, .inl fun _ => (0 : Int32))) hx hb (hts _ am_ac20) rfl hK hJ.2.2.2.2.1 hJ.2.2.2.2.2.1 hJ.2.2.2.2.2.2 hA (fun cA => rfl) (fun q => by have := (am_neg (ok.1 rfl)).mp q; omega) (am_cl0 (ok.1 rfl)) (by show k.toNat * 4 ≤ 536870912; omega) (by rw [← z1']; exact hR.1) (by have h := hR.2; rwa [z2'] at h) hd (fun q cA H1 hK1 hP1 hD1 hS1 => ?_)
    have eA : cA = dA 0 := by
      have h1 := (hK1.2 5 (cA, .int) rfl).2
      have h2 := (hK.2 0 (dA 0, .int) rfl).2
      exact Option.some.inj (h1.symm.trans h2)
    subst eA
    have hc2 : am_cell dA sa (ad ++ [q]) (am_new (sh, f) 20 k.toNat).2 sh.length 20 k.toNat = .inl (dA 0, (k.toNat, .inl fun _ => (0 : Int32))) := by
      rw [am_cell20]
      congr 2
      congr 1
      congr 1
      funext j
      show Int32.ofInt (if ((sh.length : Nat) : Int) = (sh.length : Int) then am_dfl (am_et 20 ((j : Int)).toNat) else _) = _
      rw [if_pos rfl]
      rfl
    have k0 := kk (ad ++ [q]) ls H1 locs ⟨[q], rfl⟩ (am_J_new hJ hok (by decide) hr hc2 hP1 hD1 hS1)
    change W p l e R s m args below meth c H1 locs (cells + ((sh ++ [(20, k.toNat)]).length - sh.length)) (slots + (am_tot (sh ++ [(20, k.toNat)]) - am_tot sh)) Q _ at k0
    rw [z1', z2', List.map_cons, am_rvr (by decide) (by decide) (by omega), Int.toNat_natCast, am_map_ext hJ.2.2.1 hr] at k0
    have e1 : (ad ++ [q]).getD sh.length 0 = q := by
      rw [← hJ.2.2.1]; simp [List.getD_eq_getElem?_getD]
    rw [e1] at k0
    exact k0
  · exfalso
    have h6 : (none : Option am_O) = some (.inl (pc', L', S', sh', f')) := by rw [← h]; exact (if_neg hc).symm
    cases h6
theorem am_s_newlong (C : am_Cx p s m args meth c D dA sa sv A cc ml oc ini own) (hd : decode cc pc = .ok (.newarray .long, 2)) (hJ : am_J D dA sa ad A s.heap ml ls L S sh f H locs) (hst : am_st (am_enc oc ini rt pc (.newarray .long) (pc + 2)) L S (sh, f) = some (.inl (pc', L', S', sh', f'))) (hR : cells + (sh'.length - sh.length) ≤ R.cells ∧ slots + (am_tot sh' - am_tot sh) ≤ R.slots) (kk : am_KK p l e R s m args below meth c D dA sa A ml cells slots Q ad sh pc' L' S' sh' f') : W p l e R s m args below meth c H locs cells slots Q (F0 m pc ls (S.map (am_rv sa ad))) := by
  obtain ⟨hx, hb, hml, hon, hown, hts, hK, hA, hin, hFo, hlk⟩ := C
  obtain ⟨k, r, rfl, h⟩ := am_p0_some (show am_p0 S (fun k r => if 0 ≤ k ∧ k ≤ 10000 then am_nx (pc + 2) L ((21, (sh.length : Int)) :: r) (am_new (sh, f) 21 k.toNat) else none) = _ from hst)
  by_cases hc : 0 ≤ k ∧ k ≤ 10000
  · have h : am_nx (pc + 2) L ((21, (sh.length : Int)) :: r) (am_new (sh, f) 21 k.toNat) = some (.inl (pc', L', S', sh', f')) := by rw [← h]; exact (if_pos hc).symm
    cases am_nx_some h
    obtain ⟨z1, z2⟩ := am_new_tot sh f 21 k.toNat
    have z1' : (sh ++ [(21, k.toNat)]).length - sh.length = 1 := z1
    have z2' : am_tot (sh ++ [(21, k.toNat)]) - am_tot sh = k.toNat := z2
    obtain ⟨ok, hr⟩ := List.forall_mem_cons.mp hJ.2.1.2
    have hok : am_okt 21 k.toNat := Or.inl ⟨by decide, by decide, by omega⟩
    rw [List.map_cons, am_rv0]
    refine va_newa (atype := .long) (ty := .long) (a0 := (k.toNat, .inr (.inl fun _ => (0 : Int64)))) hx hb (hts _ am_ac21) rfl hK hJ.2.2.2.2.1 hJ.2.2.2.2.2.1 hJ.2.2.2.2.2.2 hA (fun cA => rfl) (fun q => by have := (am_neg (ok.1 rfl)).mp q; omega) (am_cl0 (ok.1 rfl)) (by show k.toNat * 8 ≤ 536870912; omega) (by rw [← z1']; exact hR.1) (by have h := hR.2; rwa [z2'] at h) hd (fun q cA H1 hK1 hP1 hD1 hS1 => ?_)
    have eA : cA = dA 1 := by
      have h1 := (hK1.2 5 (cA, .long) rfl).2
      have h2 := (hK.2 1 (dA 1, .long) rfl).2
      exact Option.some.inj (h1.symm.trans h2)
    subst eA
    have hc2 : am_cell dA sa (ad ++ [q]) (am_new (sh, f) 21 k.toNat).2 sh.length 21 k.toNat = .inl (dA 1, (k.toNat, .inr (.inl fun _ => (0 : Int64)))) := by
      rw [am_cell21]
      congr 2
      congr 1
      congr 1
      congr 1
      funext j
      show Int64.ofInt (if ((sh.length : Nat) : Int) = (sh.length : Int) then am_dfl (am_et 21 ((j : Int)).toNat) else _) = _
      rw [if_pos rfl]
      rfl
    have k0 := kk (ad ++ [q]) ls H1 locs ⟨[q], rfl⟩ (am_J_new hJ hok (by decide) hr hc2 hP1 hD1 hS1)
    change W p l e R s m args below meth c H1 locs (cells + ((sh ++ [(21, k.toNat)]).length - sh.length)) (slots + (am_tot (sh ++ [(21, k.toNat)]) - am_tot sh)) Q _ at k0
    rw [z1', z2', List.map_cons, am_rvr (by decide) (by decide) (by omega), Int.toNat_natCast, am_map_ext hJ.2.2.1 hr] at k0
    have e1 : (ad ++ [q]).getD sh.length 0 = q := by
      rw [← hJ.2.2.1]; simp [List.getD_eq_getElem?_getD]
    rw [e1] at k0
    exact k0
  · exfalso
    have h6 : (none : Option am_O) = some (.inl (pc', L', S', sh', f')) := by rw [← h]; exact (if_neg hc).symm
    cases h6
theorem am_s_newchar (C : am_Cx p s m args meth c D dA sa sv A cc ml oc ini own) (hd : decode cc pc = .ok (.newarray .char, 2)) (hJ : am_J D dA sa ad A s.heap ml ls L S sh f H locs) (hst : am_st (am_enc oc ini rt pc (.newarray .char) (pc + 2)) L S (sh, f) = some (.inl (pc', L', S', sh', f'))) (hR : cells + (sh'.length - sh.length) ≤ R.cells ∧ slots + (am_tot sh' - am_tot sh) ≤ R.slots) (kk : am_KK p l e R s m args below meth c D dA sa A ml cells slots Q ad sh pc' L' S' sh' f') : W p l e R s m args below meth c H locs cells slots Q (F0 m pc ls (S.map (am_rv sa ad))) := by
  obtain ⟨hx, hb, hml, hon, hown, hts, hK, hA, hin, hFo, hlk⟩ := C
  obtain ⟨k, r, rfl, h⟩ := am_p0_some (show am_p0 S (fun k r => if 0 ≤ k ∧ k ≤ 10000 then am_nx (pc + 2) L ((22, (sh.length : Int)) :: r) (am_new (sh, f) 22 k.toNat) else none) = _ from hst)
  by_cases hc : 0 ≤ k ∧ k ≤ 10000
  · have h : am_nx (pc + 2) L ((22, (sh.length : Int)) :: r) (am_new (sh, f) 22 k.toNat) = some (.inl (pc', L', S', sh', f')) := by rw [← h]; exact (if_pos hc).symm
    cases am_nx_some h
    obtain ⟨z1, z2⟩ := am_new_tot sh f 22 k.toNat
    have z1' : (sh ++ [(22, k.toNat)]).length - sh.length = 1 := z1
    have z2' : am_tot (sh ++ [(22, k.toNat)]) - am_tot sh = k.toNat := z2
    obtain ⟨ok, hr⟩ := List.forall_mem_cons.mp hJ.2.1.2
    have hok : am_okt 22 k.toNat := Or.inl ⟨by decide, by decide, by omega⟩
    rw [List.map_cons, am_rv0]
    refine va_newa (atype := .char) (ty := .char) (a0 := (k.toNat, .inl fun _ => (0 : Int32))) hx hb (hts _ am_ac22) rfl hK hJ.2.2.2.2.1 hJ.2.2.2.2.2.1 hJ.2.2.2.2.2.2 hA (fun cA => rfl) (fun q => by have := (am_neg (ok.1 rfl)).mp q; omega) (am_cl0 (ok.1 rfl)) (by show k.toNat * 2 ≤ 536870912; omega) (by rw [← z1']; exact hR.1) (by have h := hR.2; rwa [z2'] at h) hd (fun q cA H1 hK1 hP1 hD1 hS1 => ?_)
    have eA : cA = dA 2 := by
      have h1 := (hK1.2 5 (cA, .char) rfl).2
      have h2 := (hK.2 2 (dA 2, .char) rfl).2
      exact Option.some.inj (h1.symm.trans h2)
    subst eA
    have hc2 : am_cell dA sa (ad ++ [q]) (am_new (sh, f) 22 k.toNat).2 sh.length 22 k.toNat = .inl (dA 2, (k.toNat, .inl fun _ => (0 : Int32))) := by
      rw [am_cell22]
      congr 2
      congr 1
      congr 1
      funext j
      show Int32.ofInt (if ((sh.length : Nat) : Int) = (sh.length : Int) then am_dfl (am_et 22 ((j : Int)).toNat) else _) = _
      rw [if_pos rfl]
      rfl
    have k0 := kk (ad ++ [q]) ls H1 locs ⟨[q], rfl⟩ (am_J_new hJ hok (by decide) hr hc2 hP1 hD1 hS1)
    change W p l e R s m args below meth c H1 locs (cells + ((sh ++ [(22, k.toNat)]).length - sh.length)) (slots + (am_tot (sh ++ [(22, k.toNat)]) - am_tot sh)) Q _ at k0
    rw [z1', z2', List.map_cons, am_rvr (by decide) (by decide) (by omega), Int.toNat_natCast, am_map_ext hJ.2.2.1 hr] at k0
    have e1 : (ad ++ [q]).getD sh.length 0 = q := by
      rw [← hJ.2.2.1]; simp [List.getD_eq_getElem?_getD]
    rw [e1] at k0
    exact k0
  · exfalso
    have h6 : (none : Option am_O) = some (.inl (pc', L', S', sh', f')) := by rw [← h]; exact (if_neg hc).symm
    cases h6
theorem am_s_newbool (C : am_Cx p s m args meth c D dA sa sv A cc ml oc ini own) (hd : decode cc pc = .ok (.newarray .boolean, 2)) (hJ : am_J D dA sa ad A s.heap ml ls L S sh f H locs) (hst : am_st (am_enc oc ini rt pc (.newarray .boolean) (pc + 2)) L S (sh, f) = some (.inl (pc', L', S', sh', f'))) (hR : cells + (sh'.length - sh.length) ≤ R.cells ∧ slots + (am_tot sh' - am_tot sh) ≤ R.slots) (kk : am_KK p l e R s m args below meth c D dA sa A ml cells slots Q ad sh pc' L' S' sh' f') : W p l e R s m args below meth c H locs cells slots Q (F0 m pc ls (S.map (am_rv sa ad))) := by
  obtain ⟨hx, hb, hml, hon, hown, hts, hK, hA, hin, hFo, hlk⟩ := C
  obtain ⟨k, r, rfl, h⟩ := am_p0_some (show am_p0 S (fun k r => if 0 ≤ k ∧ k ≤ 10000 then am_nx (pc + 2) L ((23, (sh.length : Int)) :: r) (am_new (sh, f) 23 k.toNat) else none) = _ from hst)
  by_cases hc : 0 ≤ k ∧ k ≤ 10000
  · have h : am_nx (pc + 2) L ((23, (sh.length : Int)) :: r) (am_new (sh, f) 23 k.toNat) = some (.inl (pc', L', S', sh', f')) := by rw [← h]; exact (if_pos hc).symm
    cases am_nx_some h
    obtain ⟨z1, z2⟩ := am_new_tot sh f 23 k.toNat
    have z1' : (sh ++ [(23, k.toNat)]).length - sh.length = 1 := z1
    have z2' : am_tot (sh ++ [(23, k.toNat)]) - am_tot sh = k.toNat := z2
    obtain ⟨ok, hr⟩ := List.forall_mem_cons.mp hJ.2.1.2
    have hok : am_okt 23 k.toNat := Or.inl ⟨by decide, by decide, by omega⟩
    rw [List.map_cons, am_rv0]
    refine va_newa (atype := .boolean) (ty := .boolean) (a0 := (k.toNat, .inl fun _ => (0 : Int32))) hx hb (hts _ am_ac23) rfl hK hJ.2.2.2.2.1 hJ.2.2.2.2.2.1 hJ.2.2.2.2.2.2 hA (fun cA => rfl) (fun q => by have := (am_neg (ok.1 rfl)).mp q; omega) (am_cl0 (ok.1 rfl)) (by show k.toNat * 1 ≤ 536870912; omega) (by rw [← z1']; exact hR.1) (by have h := hR.2; rwa [z2'] at h) hd (fun q cA H1 hK1 hP1 hD1 hS1 => ?_)
    have eA : cA = dA 3 := by
      have h1 := (hK1.2 5 (cA, .boolean) rfl).2
      have h2 := (hK.2 3 (dA 3, .boolean) rfl).2
      exact Option.some.inj (h1.symm.trans h2)
    subst eA
    have hc2 : am_cell dA sa (ad ++ [q]) (am_new (sh, f) 23 k.toNat).2 sh.length 23 k.toNat = .inl (dA 3, (k.toNat, .inl fun _ => (0 : Int32))) := by
      rw [am_cell23]
      congr 2
      congr 1
      congr 1
      funext j
      show Int32.ofInt (if ((sh.length : Nat) : Int) = (sh.length : Int) then am_dfl (am_et 23 ((j : Int)).toNat) else _) = _
      rw [if_pos rfl]
      rfl
    have k0 := kk (ad ++ [q]) ls H1 locs ⟨[q], rfl⟩ (am_J_new hJ hok (by decide) hr hc2 hP1 hD1 hS1)
    change W p l e R s m args below meth c H1 locs (cells + ((sh ++ [(23, k.toNat)]).length - sh.length)) (slots + (am_tot (sh ++ [(23, k.toNat)]) - am_tot sh)) Q _ at k0
    rw [z1', z2', List.map_cons, am_rvr (by decide) (by decide) (by omega), Int.toNat_natCast, am_map_ext hJ.2.2.1 hr] at k0
    have e1 : (ad ++ [q]).getD sh.length 0 = q := by
      rw [← hJ.2.2.1]; simp [List.getD_eq_getElem?_getD]
    rw [e1] at k0
    exact k0
  · exfalso
    have h6 : (none : Option am_O) = some (.inl (pc', L', S', sh', f')) := by rw [← h]; exact (if_neg hc).symm
    cases h6
theorem am_s_anewarray {j : Nat} (C : am_Cx p s m args meth c D dA sa sv A cc ml oc ini own) (hd : decode cc pc = .ok (.anewarray j, 3)) (hJ : am_J D dA sa ad A s.heap ml ls L S sh f H locs) (hst : am_st (am_enc oc ini rt pc (.anewarray j) (pc + 3)) L S (sh, f) = some (.inl (pc', L', S', sh', f'))) (hR : cells + (sh'.length - sh.length) ≤ R.cells ∧ slots + (am_tot sh' - am_tot sh) ≤ R.slots) (kk : am_KK p l e R s m args below meth c D dA sa A ml cells slots Q ad sh pc' L' S' sh' f') : W p l e R s m args below meth c H locs cells slots Q (F0 m pc ls (S.map (am_rv sa ad))) := by
  obtain ⟨hx, hb, hml, hon, hown, hts, hK, hA, hin, hFo, hlk⟩ := C
  cases hq : am_ck oc j with
  | none => unfold am_enc at hst; dsimp only at hst; rw [hq] at hst; cases hst
  | some q =>
    obtain ⟨t, n, t1, t2, t3⟩ := q
    obtain ⟨cr, c1, c2, c3, c4, c5, c6⟩ := am_ckok hon hq
    dsimp only at c1 c2 c3
    by_cases ht : t = 107
    · subst ht
      have ecr : cr = (RX7, TX7, 12) := (Option.some.inj c1).symm
      subst ecr
      have hst : am_p0 S (fun k r => if 0 ≤ k ∧ k ≤ 10000 then am_nx (pc + 3) L ((24, (sh.length : Int)) :: r) (am_new (sh, f) 24 k.toNat) else none) = some (.inl (pc', L', S', sh', f')) := by
        rw [← hst]; unfold am_enc; dsimp only; rw [hq]; dsimp only; rw [if_pos rfl]; rfl
      obtain ⟨k, r, rfl, h⟩ := am_p0_some hst
      by_cases hc : 0 ≤ k ∧ k ≤ 10000
      · have h : am_nx (pc + 3) L ((24, (sh.length : Int)) :: r) (am_new (sh, f) 24 k.toNat) = some (.inl (pc', L', S', sh', f')) := by rw [← h]; exact (if_pos hc).symm
        cases am_nx_some h
        obtain ⟨z1, z2⟩ := am_new_tot sh f 24 k.toNat
        have z1' : (sh ++ [(24, k.toNat)]).length - sh.length = 1 := z1
        have z2' : am_tot (sh ++ [(24, k.toNat)]) - am_tot sh = k.toNat := z2
        obtain ⟨ok, hr⟩ := List.forall_mem_cons.mp hJ.2.1.2
        have hok : am_okt 24 k.toNat := Or.inl ⟨by decide, by decide, by omega⟩
        rw [List.map_cons, am_rv0]
        refine va_newq (C := "MendedThings$State") hx hb hown (hts _ c4) (va_AO.of (hts _ am_ao)) hK hJ.2.2.2.2.1 hJ.2.2.2.2.2.1 hJ.2.2.2.2.2.2 hA (N' := k.toNat) (fun q => by have := (am_neg (ok.1 rfl)).mp q; omega) (am_cl0 (ok.1 rfl)) (by omega) (by rw [← z1']; exact hR.1) (by have h := hR.2; rwa [z2'] at h) hd (fun q cA H1 hK1 hP1 hD1 hS1 => ?_)
        have eA : cA = dA 4 := by
          obtain ⟨_, _, -, -, -, h1⟩ := (hK1.2 5 (cA, .object "MendedThings$State") rfl).2
          obtain ⟨_, _, -, -, -, h2⟩ := (hK.2 4 (dA 4, .object "MendedThings$State") rfl).2
          exact Option.some.inj (h1.symm.trans h2)
        subst eA
        have hc2 : am_cell dA sa (ad ++ [q]) (am_new (sh, f) 24 k.toNat).2 sh.length 24 k.toNat = .inl (dA 4, k.toNat, .inr (.inr (.inr (.inr (fun _ => none))))) := by
          rw [am_cell24]
          congr 2
          congr 1
          congr 1
          congr 1
          congr 1
          congr 1
          funext j
          have e2 : (am_new (sh, f) 24 k.toNat).2 sh.length j = -1 := by
            show (if ((sh.length : Nat) : Int) = (sh.length : Int) then am_dfl (am_et 24 ((j : Int)).toNat) else _) = _
            rw [if_pos rfl]; rfl
          rw [e2]
          rfl
        have k0 := kk (ad ++ [q]) ls H1 locs ⟨[q], rfl⟩ (am_J_new hJ hok (by decide) hr hc2 hP1 hD1 hS1)
        change W p l e R s m args below meth c H1 locs (cells + ((sh ++ [(24, k.toNat)]).length - sh.length)) (slots + (am_tot (sh ++ [(24, k.toNat)]) - am_tot sh)) Q _ at k0
        rw [z1', z2', List.map_cons, am_rvr (by decide) (by decide) (by omega), Int.toNat_natCast, am_map_ext hJ.2.2.1 hr] at k0
        have e1 : (ad ++ [q]).getD sh.length 0 = q := by
          rw [← hJ.2.2.1]; simp [List.getD_eq_getElem?_getD]
        rw [e1] at k0
        exact k0
      · exfalso
        have h6 : (none : Option am_O) = some (.inl (pc', L', S', sh', f')) := by rw [← h]; exact (if_neg hc).symm
        cases h6
    · exfalso
      unfold am_enc at hst; dsimp only at hst; rw [hq] at hst; dsimp only at hst; rw [if_neg ht] at hst; cases hst
theorem am_s_oinit {j : Nat} {ti : Nat} {mi : Nat} (C : am_Cx p s m args meth c D dA sa sv A cc ml oc ini own) (hd : decode cc pc = .ok (.invokespecial j, 3)) (hJ : am_J D dA sa ad A s.heap ml ls L S sh f H locs) (hst : am_st (am_enc oc ini rt pc (.invokespecial j) (pc + 3)) L S (sh, f) = some (.inl (pc', L', S', sh', f'))) (hq : am_ll oc j = some (4, mi, ti)) (hR : 1 ≤ R.frames ∧ 60 ≤ R.locals) (kk : am_KK p l e R s m args below meth c D dA sa A ml cells slots Q ad sh pc' L' S' sh' f') : W p l e R s m args below meth c H locs cells slots Q (F0 m pc ls (S.map (am_rv sa ad))) := by
  obtain ⟨hx, hb, hml, hon, hown, hts, hK, hA, hin, hFo, hlk⟩ := C
  have hst : am_pv S (fun v r => if 20 ≤ v.1 ∧ ¬ v.1 = 30 ∧ 0 ≤ v.2 ∧ am_cs r ≤ 8 then am_nx (pc + 3) L r (sh, f) else none) = some (.inl (pc', L', S', sh', f')) := by
    rw [← hst]; unfold am_enc; dsimp only; rw [hq]; rfl
  obtain ⟨v, r, rfl, h⟩ := am_pv_some hst
  obtain ⟨t, a⟩ := v
  by_cases hc : 20 ≤ t ∧ ¬ t = 30 ∧ 0 ≤ a ∧ am_cs r ≤ 8
  · have h : am_nx (pc + 3) L r (sh, f) = some (.inl (pc', L', S', sh', f')) := by rw [← h]; exact (if_pos hc).symm
    cases am_nx_some h
    obtain ⟨g1, g2, g3, g4⟩ := hc
    obtain ⟨ov, hr⟩ := List.forall_mem_cons.mp hJ.2.1.2
    have hl := am_llok hon hq
    have hl : decide (lw_tbl[ti]? = some (Cond.methodLink own j objectInit)) = true := hl
    have k0 := kk ad ls H locs ⟨[], (List.append_nil _).symm⟩ (hJ.st hr)
    rw [Nat.sub_self, Nat.sub_self, Nat.add_zero, Nat.add_zero] at k0
    rw [List.map_cons, am_rvr g1 g2 g3]
    refine W.objInit hx hb hown (hts _ (am_in (List.mem_of_getElem? (of_decide_eq_true hl)) rfl)) (hts _ am_oi1) (hts _ am_oi2) rfl (by rw [hml]; exact hJ.1.1.1) rfl hd hR.1 ?_ k0
    have h8 : 2 * (F0 m pc ls (Value.ref (ad.getD a.toNat 0) :: List.map (am_rv sa ad) S')).monitorRoom + ((List.map (am_rv sa ad) S').map fun v => v.category).sum ≤ 8 := lv_room (by rw [am_cats]; exact g4)
    have := hR.2
    omega
  · exfalso
    have h6 : (none : Option am_O) = some (.inl (pc', L', S', sh', f')) := by rw [← h]; exact (if_neg hc).symm
    cases h6
theorem am_s_acopy {j : Nat} {ti : Nat} {mi : Nat} (C : am_Cx p s m args meth c D dA sa sv A cc ml oc ini own) (hd : decode cc pc = .ok (.invokestatic j, 3)) (hJ : am_J D dA sa ad A s.heap ml ls L S sh f H locs) (hst : am_st (am_enc oc ini rt pc (.invokestatic j) (pc + 3)) L S (sh, f) = some (.inl (pc', L', S', sh', f'))) (hq : am_ll oc j = some (5, mi, ti)) (hR : 1 ≤ R.frames ∧ 60 ≤ R.locals) (kk : am_KK p l e R s m args below meth c D dA sa A ml cells slots Q ad sh pc' L' S' sh' f') : W p l e R s m args below meth c H locs cells slots Q (F0 m pc ls (S.map (am_rv sa ad))) := by
  obtain ⟨hx, hb, hml, hon, hown, hts, hK, hA, hin, hFo, hlk⟩ := C
  have hst : am_p0 S (fun k r => am_p0 r fun dp r => am_pr 20 r fun a r => am_p0 r fun sp r => am_pr 20 r fun a0 r => if 0 ≤ k ∧ 0 ≤ dp ∧ 0 ≤ sp ∧ sp + k ≤ am_len sh a0 ∧ dp + k ≤ am_len sh a ∧ am_cs r ≤ 8 then am_nx (pc + 3) L r (sh, am_cpy f a0 sp a dp k) else none) = some (.inl (pc', L', S', sh', f')) := by
    rw [← hst]; unfold am_enc; dsimp only; rw [hq]; rfl
  obtain ⟨k, r, rfl, h⟩ := am_p0_some hst
  obtain ⟨dp, r, rfl, h2⟩ := am_p0_some h
  obtain ⟨a, r, rfl, ha, h3⟩ := am_pr_some h2
  obtain ⟨sp, r, rfl, h4⟩ := am_p0_some h3
  obtain ⟨a0, r, rfl, ha0, h5⟩ := am_pr_some h4
  clear hst h h2 h3 h4
  by_cases hc : 0 ≤ k ∧ 0 ≤ dp ∧ 0 ≤ sp ∧ sp + k ≤ am_len sh a0 ∧ dp + k ≤ am_len sh a ∧ am_cs r ≤ 8
  · rw [if_pos hc] at h5
    cases am_nx_some h5
    obtain ⟨g1, g2, g3, g4, g5, g6⟩ := hc
    obtain ⟨ok, hr⟩ := List.forall_mem_cons.mp hJ.2.1.2
    obtain ⟨od, hr⟩ := List.forall_mem_cons.mp hr
    obtain ⟨oa, hr⟩ := List.forall_mem_cons.mp hr
    obtain ⟨os, hr⟩ := List.forall_mem_cons.mp hr
    obtain ⟨oa0, hr⟩ := List.forall_mem_cons.mp hr
    obtain ⟨n, e1, e2, e3, e4⟩ := am_at hJ.2.2.2.1 oa (by decide) (by decide) ha
    obtain ⟨n0, d1, d2, d3, d4⟩ := am_at hJ.2.2.2.1 oa0 (by decide) (by decide) ha0
    rw [e3] at g5
    rw [d3] at g4
    have hea : ((a.toNat : Nat) : Int) = a := Int.toNat_of_nonneg ha
    have hea0 : ((a0.toNat : Nat) : Int) = a0 := Int.toNat_of_nonneg ha0
    have he := am_ws_at (dA := dA) (sa := sa) (ad := ad) (f := f) e1
    rw [am_cell20] at he
    have he0 := am_ws_at (dA := dA) (sa := sa) (ad := ad) (f := f) d1
    rw [am_cell20] at he0
    have hl := am_llok hon hq
    have hl : decide (lw_tbl[ti]? = some (Cond.methodLink own j arraycopyName)) = true := hl
    have hWT : am_WT sh (am_cpy f a0 sp a dp k) := by
      intro i1 c1 n1 h1
      obtain ⟨h2, h3⟩ := hJ.2.2.2.1 i1 c1 n1 h1
      refine ⟨h2, fun j hj => ?_⟩
      unfold am_cpy
      by_cases hq2 : ((i1 : Int) = a ∧ dp ≤ (j : Int) ∧ (j : Int) < dp + k)
      · rw [if_pos hq2]
        have ei : i1 = a.toNat := by omega
        subst ei
        rw [e1] at h1
        cases h1
        have h7 := d4 (sp + ((j : Int) - dp)).toNat (by omega)
        rw [Int.toNat_of_nonneg (by omega)] at h7
        exact h7
      · rw [if_neg hq2]; exact h3 j hj
    have hset : (am_ws dA sa ad sh f).set a.toNat (ad.getD a.toNat 0, .inl (dA 0, n, .inl (va_cpy (fun j : Nat => Int32.ofInt (f (a0.toNat : Int) j)) (fun j : Nat => Int32.ofInt (f (a.toNat : Int) j)) (Int32.ofInt sp).toNatClampNeg (Int32.ofInt dp).toNatClampNeg (Int32.ofInt k).toNatClampNeg))) = am_ws dA sa ad sh (am_cpy f a0 sp a dp k) := by
      refine am_ws_set e1 (fun i hi q => ?_) ?_
      · unfold am_cpy; rw [if_neg (fun q => hi (by omega))]
      · rw [am_cell20, am_cl0 (os.1 rfl), am_cl0 (od.1 rfl), am_cl0 (ok.1 rfl)]
        congr 2
        congr 1
        congr 1
        funext q
        unfold am_cpy va_cpy
        by_cases hq2 : dp ≤ (q : Int) ∧ (q : Int) < dp + k
        · rw [if_pos ⟨hea, hq2⟩, if_pos (by omega), hea0]
          congr 2
          omega
        · rw [if_neg (fun z => hq2 z.2), if_neg (by omega)]
    rw [List.map_cons, List.map_cons, List.map_cons, List.map_cons, List.map_cons, am_rv0, am_rv0, am_rv0, am_rvr (t := 20) (by decide) (by decide) ha, am_rvr (t := 20) (by decide) (by decide) ha0]
    refine va_copyi (ty := .int) hx hb (by rw [hml]; exact hJ.1.1.1.symm) hown (hts _ (am_in (List.mem_of_getElem? (of_decide_eq_true hl)) rfl)) (hts _ am_ay1) (hts _ am_ay2) (hts _ am_ay3) hK hJ.2.2.2.2.1 hJ.2.2.2.2.2.1 hJ.2.2.2.2.2.2 a0.toNat a.toNat 0 0 he0 he rfl rfl rfl (fun q => by have := (am_neg (os.1 rfl)).mp q; omega) (fun q => by have := (am_neg (od.1 rfl)).mp q; omega) (fun q => by have := (am_neg (ok.1 rfl)).mp q; omega) (by rw [am_cl0 (os.1 rfl), am_cl0 (ok.1 rfl)]; omega) (by rw [am_cl0 (od.1 rfl), am_cl0 (ok.1 rfl)]; omega) (fun _ _ => rfl) hR.1 ?_ hd (fun H1 locs1 hP1 hD1 hS1 => ?_)
    · rw [am_cats]
      have h9 : nativeFrameWords "java/lang/System" "arraycopy" 5 + 11 ≤ 50 := by decide
      have := hR.2
      omega
    · rw [hset] at hP1 hD1
      have k0 := kk ad ls H1 locs1 ⟨[], (List.append_nil _).symm⟩ ⟨hJ.1, ⟨hJ.2.1.1, hr⟩, hJ.2.2.1, hWT, hP1, hD1, hS1⟩
      rw [Nat.sub_self, Nat.sub_self, Nat.add_zero, Nat.add_zero] at k0
      exact k0
  · rw [if_neg hc] at h5; cases h5
end
