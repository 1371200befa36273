theorem am_sw_lk (v d pc : Int) : ∀ (ps : List (Int × Int)), am_sw v (pc + d) (am_lk pc ps) = pc + Op.lookupswitch.offset ps d v
  | [] => rfl
  | q :: r => by
    obtain ⟨a, o⟩ := q
    show (if v = a then pc + o else am_sw v (pc + d) (am_lk pc r)) = _
    rw [Op.lookupswitch.offset_cons, am_sw_lk v d pc r]
    by_cases h : v = a
    · rw [if_pos h, if_pos h.symm]
    · rw [if_neg h, if_neg (fun q => h q.symm)]
theorem am_lk_pos (v d pc : Int) (hd : 0 ≤ pc + d) : ∀ (ps : List (Int × Int)), (ps.all fun f => decide (0 ≤ pc + f.2)) = true → 0 ≤ pc + Op.lookupswitch.offset ps d v
  | [], _ => hd
  | q :: r, h => by
    obtain ⟨a, o⟩ := q
    rw [Op.lookupswitch.offset_cons]
    simp only [List.all_cons, Bool.and_eq_true, decide_eq_true_eq] at h
    by_cases h2 : a = v
    · rw [if_pos h2]; exact h.1
    · rw [if_neg h2]; exact am_lk_pos v d pc hd r h.2
theorem am_cell20 {dA : Nat → ClassId} {sa : Nat} {ad : List Nat} {f : am_F} {i n : Nat} : am_cell dA sa ad f i 20 n = .inl (dA 0, n, .inl fun j => Int32.ofInt (f i j)) := rfl
theorem am_cell21 {dA : Nat → ClassId} {sa : Nat} {ad : List Nat} {f : am_F} {i n : Nat} : am_cell dA sa ad f i 21 n = .inl (dA 1, n, .inr (.inl fun j => Int64.ofInt (f i j))) := rfl
theorem am_cell22 {dA : Nat → ClassId} {sa : Nat} {ad : List Nat} {f : am_F} {i n : Nat} : am_cell dA sa ad f i 22 n = .inl (dA 2, n, .inl fun j => Int32.ofInt (f i j)) := rfl
theorem am_cell23 {dA : Nat → ClassId} {sa : Nat} {ad : List Nat} {f : am_F} {i n : Nat} : am_cell dA sa ad f i 23 n = .inl (dA 3, n, .inl fun j => Int32.ofInt (f i j)) := rfl
theorem am_cell24 {dA : Nat → ClassId} {sa : Nat} {ad : List Nat} {f : am_F} {i n : Nat} : am_cell dA sa ad f i 24 n = .inl (dA 4, n, .inr (.inr (.inr (.inr fun j => if f i j < 0 then none else some (ad.getD (f i j).toNat 0))))) := rfl
theorem am_upd {g : am_F} {i : Nat} {j v : Int} (h0 : 0 ≤ j) : (fun k : Nat => Int32.ofInt (am_up g i j v i k)) = upd (fun k : Nat => Int32.ofInt (g i k)) j.toNat (Int32.ofInt v) := by
  funext k
  unfold am_up upd
  by_cases h : (k : Int) = j
  · rw [if_pos ⟨rfl, h⟩, if_pos (by omega)]
  · rw [if_neg (fun q => h q.2), if_neg (by omega)]
theorem am_updL {g : am_F} {i : Nat} {j v : Int} (h0 : 0 ≤ j) : (fun k : Nat => Int64.ofInt (am_up g i j v i k)) = vp_updL (fun k : Nat => Int64.ofInt (g i k)) j.toNat (Int64.ofInt v) := by
  funext k
  unfold am_up vp_updL
  by_cases h : (k : Int) = j
  · rw [if_pos ⟨rfl, h⟩, if_pos (by omega)]
  · rw [if_neg (fun q => h q.2), if_neg (by omega)]
theorem am_updQ {ad : List Nat} {g : am_F} {i : Nat} {j v : Int} (h0 : 0 ≤ j) (hv : 0 ≤ v) : (fun k : Nat => if am_up g i j v i k < 0 then none else some (ad.getD (am_up g i j v i k).toNat 0)) = va_up (fun k : Nat => if g i k < 0 then none else some (ad.getD (g i k).toNat 0)) j.toNat (some (ad.getD v.toNat 0)) := by
  funext k
  by_cases h : (k : Int) = j
  · have e1 : am_up g i j v i k = v := by unfold am_up; rw [if_pos ⟨rfl, h⟩]
    have e2 : k = j.toNat := by omega
    rw [e1]
    unfold va_up
    rw [if_neg (show ¬ v < 0 by omega), if_pos e2]
  · have e1 : am_up g i j v i k = g i k := by unfold am_up; rw [if_neg (fun q => h q.2)]
    have e2 : ¬ k = j.toNat := by omega
    rw [e1]
    unfold va_up
    rw [if_neg e2]
theorem am_nc {v : Int} (h0 : 0 ≤ v) (h1 : v < 65536) : vp_nar .char (Int32.ofInt v) = Int32.ofInt v := by
  rw [vp_nar_char]
  apply Int32.toInt_inj.mp
  apply congrArg BitVec.toInt
  apply BitVec.eq_of_toNat_eq
  show (((BitVec.ofInt 32 v).setWidth 16).setWidth 32).toNat = (BitVec.ofInt 32 v).toNat
  rw [BitVec.toNat_setWidth, BitVec.toNat_setWidth, BitVec.toNat_ofInt]
  simp
  omega
theorem am_nz {v : Int} (h : v = 0 ∨ v = 1) : vp_nar .boolean (Int32.ofInt v) = Int32.ofInt v := by
  rcases h with rfl | rfl
  · show (0 : Int32) &&& 1 = 0; decide
  · show (1 : Int32) &&& 1 = 1; decide

section
variable {p : Program} {l : Launch} {e : Env} {R : Room} {s : State} {m : MethodId} {args : Array Value} {below : List Frame} {meth : Method} {c : Code} {H : Heap} {locs : List Loc} {cells slots : Nat} {Q : State → Prop} {D : va_G} {dA : Nat → ClassId} {sa sv : Nat} {A : Nat → Prop} {cc : ByteArray} {ml oc rt : Nat} {ini : Bool} {own : String} {pc : Nat} {ls : Array Slot} {ad : List Nat} {sh sh' : am_H} {f f' : am_F} {L S L' S' : List am_V} {pc' : Nat}

theorem am_s_lookupswitch {d : Int} {ps : Array (Int × Int)} {len : Nat} (C : am_Cx p s m args meth c D dA sa sv A cc ml oc ini own) (hd : decode cc pc = .ok (.lookupswitch d ps, len)) (hJ : am_J D dA sa ad A s.heap ml ls L S sh f H locs) (hst : am_st (am_enc oc ini rt pc (.lookupswitch d ps) (pc + len)) L S (sh, f) = some (.inl (pc', L', S', sh', f'))) (kk : am_KK p l e R s m args below meth c D dA sa A ml cells slots Q ad sh pc' L' S' sh' f') : W p l e R s m args below meth c H locs cells slots Q (F0 m pc ls (S.map (am_rv sa ad))) := by
  obtain ⟨hx, hb, hml, hon, hown, hts, hK, hA, hin, hFo, hlk⟩ := C
  by_cases hc : (ps.toList.zip (ps.toList.drop 1)).all (fun (a, next) => a.1 < next.1) = true ∧ (ps.toList.all fun f => decide (0 ≤ (pc : Int) + f.2)) = true ∧ 0 ≤ (pc : Int) + d
  · have hst : am_p0 S (fun a r => am_nx (am_sw a ((pc : Int) + d) (am_lk pc ps.toList)).toNat L r (sh, f)) = some (.inl (pc', L', S', sh', f')) := by
      rw [← hst]; unfold am_enc; dsimp only; rw [if_pos hc]; rfl
    obtain ⟨a, r, rfl, h⟩ := am_p0_some hst
    obtain ⟨oa, hr⟩ := List.forall_mem_cons.mp hJ.2.1.2
    have hi2 : (Int32.ofInt a).toInt = a := am_toI (oa.1 rfl)
    rw [am_sw_lk] at h
    have hpos := am_lk_pos a d pc hc.2.2 ps.toList hc.2.1
    cases am_nx_some h
    have k0 := kk ad ls H locs ⟨[], (List.append_nil _).symm⟩ (hJ.st hr)
    rw [Nat.sub_self, Nat.sub_self, Nat.add_zero, Nat.add_zero] at k0
    exact lv_lookup hx hb hd hc.1 rfl (tgt := ((pc : Int) + Op.lookupswitch.offset ps.toList d a).toNat) (by rw [hi2]; omega) k0
  · exfalso
    unfold am_enc at hst; dsimp only at hst; rw [if_neg hc] at hst; cases hst

theorem am_s_iaload (C : am_Cx p s m args meth c D dA sa sv A cc ml oc ini own) (hd : decode cc pc = .ok (.iaload, 1)) (hJ : am_J D dA sa ad A s.heap ml ls L S sh f H locs) (hst : am_st (am_enc oc ini rt pc (.iaload) (pc + 1)) L S (sh, f) = some (.inl (pc', L', S', sh', f'))) (kk : am_KK p l e R s m args below meth c D dA sa A ml cells slots Q ad sh pc' L' S' sh' f') : W p l e R s m args below meth c H locs cells slots Q (F0 m pc ls (S.map (am_rv sa ad))) := by
  obtain ⟨hx, hb, hml, hon, hown, hts, hK, hA, hin, hFo, hlk⟩ := C
  obtain ⟨j, r, rfl, h⟩ := am_p0_some (show am_p0 S (fun j r => am_pr 20 r fun a r => if 0 ≤ j ∧ j < am_len sh a then am_nx (pc + 1) L ((0, f a j) :: r) (sh, f) else none) = _ from hst)
  obtain ⟨a, r, rfl, h0, h6⟩ := am_pr_some h
  clear h hst
  by_cases hc : 0 ≤ j ∧ j < am_len sh a
  · rw [if_pos hc] at h6
    cases am_nx_some h6
    obtain ⟨oj, hr⟩ := List.forall_mem_cons.mp hJ.2.1.2
    obtain ⟨oa, hr⟩ := List.forall_mem_cons.mp hr
    obtain ⟨n, e1, e2, e3, e4⟩ := am_at hJ.2.2.2.1 oa (by decide) (by decide) h0
    rw [e3] at hc
    have hea : ((a.toNat : Nat) : Int) = a := Int.toNat_of_nonneg h0
    have hej : ((j.toNat : Nat) : Int) = j := Int.toNat_of_nonneg hc.1
    have he := am_ws_at (dA := dA) (sa := sa) (ad := ad) (f := f) e1
    rw [am_cell20] at he
    have ov := e4 j.toNat (by omega)
    rw [hej] at ov
    have k0 := kk ad ls H locs ⟨[], (List.append_nil _).symm⟩ (hJ.st (List.forall_mem_cons.mpr ⟨ov, hr⟩))
    rw [Nat.sub_self, Nat.sub_self, Nat.add_zero, Nat.add_zero] at k0
    rw [List.map_cons, List.map_cons, am_rv0, am_rvr (by decide) (by decide) h0]
    refine va_iald hx hb hK hJ.2.2.2.2.1 a.toNat 0 he rfl (am_vin (oj.1 rfl) hc.1 hc.2) hd ?_
    rw [am_cl0 (oj.1 rfl)]
    dsimp only
    rw [hea, hej]
    exact k0
  · rw [if_neg hc] at h6; cases h6

theorem am_s_laload (C : am_Cx p s m args meth c D dA sa sv A cc ml oc ini own) (hd : decode cc pc = .ok (.laload, 1)) (hJ : am_J D dA sa ad A s.heap ml ls L S sh f H locs) (hst : am_st (am_enc oc ini rt pc (.laload) (pc + 1)) L S (sh, f) = some (.inl (pc', L', S', sh', f'))) (kk : am_KK p l e R s m args below meth c D dA sa A ml cells slots Q ad sh pc' L' S' sh' f') : W p l e R s m args below meth c H locs cells slots Q (F0 m pc ls (S.map (am_rv sa ad))) := by
  obtain ⟨hx, hb, hml, hon, hown, hts, hK, hA, hin, hFo, hlk⟩ := C
  obtain ⟨j, r, rfl, h⟩ := am_p0_some (show am_p0 S (fun j r => am_pr 21 r fun a r => if 0 ≤ j ∧ j < am_len sh a then am_nx (pc + 1) L ((1, f a j) :: r) (sh, f) else none) = _ from hst)
  obtain ⟨a, r, rfl, h0, h6⟩ := am_pr_some h
  clear h hst
  by_cases hc : 0 ≤ j ∧ j < am_len sh a
  · rw [if_pos hc] at h6
    cases am_nx_some h6
    obtain ⟨oj, hr⟩ := List.forall_mem_cons.mp hJ.2.1.2
    obtain ⟨oa, hr⟩ := List.forall_mem_cons.mp hr
    obtain ⟨n, e1, e2, e3, e4⟩ := am_at hJ.2.2.2.1 oa (by decide) (by decide) h0
    rw [e3] at hc
    have hea : ((a.toNat : Nat) : Int) = a := Int.toNat_of_nonneg h0
    have hej : ((j.toNat : Nat) : Int) = j := Int.toNat_of_nonneg hc.1
    have he := am_ws_at (dA := dA) (sa := sa) (ad := ad) (f := f) e1
    rw [am_cell21] at he
    have ov := e4 j.toNat (by omega)
    rw [hej] at ov
    have k0 := kk ad ls H locs ⟨[], (List.append_nil _).symm⟩ (hJ.st (List.forall_mem_cons.mpr ⟨ov, hr⟩))
    rw [Nat.sub_self, Nat.sub_self, Nat.add_zero, Nat.add_zero] at k0
    rw [List.map_cons, List.map_cons, am_rv0, am_rvr (by decide) (by decide) h0]
    refine va_lald hx hb hK hJ.2.2.2.2.1 a.toNat 1 he rfl (am_vin (oj.1 rfl) hc.1 hc.2) hd ?_
    rw [am_cl0 (oj.1 rfl)]
    dsimp only
    rw [hea, hej]
    exact k0
  · rw [if_neg hc] at h6; cases h6

theorem am_s_caload (C : am_Cx p s m args meth c D dA sa sv A cc ml oc ini own) (hd : decode cc pc = .ok (.caload, 1)) (hJ : am_J D dA sa ad A s.heap ml ls L S sh f H locs) (hst : am_st (am_enc oc ini rt pc (.caload) (pc + 1)) L S (sh, f) = some (.inl (pc', L', S', sh', f'))) (kk : am_KK p l e R s m args below meth c D dA sa A ml cells slots Q ad sh pc' L' S' sh' f') : W p l e R s m args below meth c H locs cells slots Q (F0 m pc ls (S.map (am_rv sa ad))) := by
  obtain ⟨hx, hb, hml, hon, hown, hts, hK, hA, hin, hFo, hlk⟩ := C
  obtain ⟨j, r, rfl, h⟩ := am_p0_some (show am_p0 S (fun j r => am_pr 22 r fun a r => if 0 ≤ j ∧ j < am_len sh a then am_nx (pc + 1) L ((0, f a j) :: r) (sh, f) else none) = _ from hst)
  obtain ⟨a, r, rfl, h0, h6⟩ := am_pr_some h
  clear h hst
  by_cases hc : 0 ≤ j ∧ j < am_len sh a
  · rw [if_pos hc] at h6
    cases am_nx_some h6
    obtain ⟨oj, hr⟩ := List.forall_mem_cons.mp hJ.2.1.2
    obtain ⟨oa, hr⟩ := List.forall_mem_cons.mp hr
    obtain ⟨n, e1, e2, e3, e4⟩ := am_at hJ.2.2.2.1 oa (by decide) (by decide) h0
    rw [e3] at hc
    have hea : ((a.toNat : Nat) : Int) = a := Int.toNat_of_nonneg h0
    have hej : ((j.toNat : Nat) : Int) = j := Int.toNat_of_nonneg hc.1
    have he := am_ws_at (dA := dA) (sa := sa) (ad := ad) (f := f) e1
    rw [am_cell22] at he
    have ov := e4 j.toNat (by omega)
    rw [hej] at ov
    have k0 := kk ad ls H locs ⟨[], (List.append_nil _).symm⟩ (hJ.st (List.forall_mem_cons.mpr ⟨ov, hr⟩))
    rw [Nat.sub_self, Nat.sub_self, Nat.add_zero, Nat.add_zero] at k0
    rw [List.map_cons, List.map_cons, am_rv0, am_rvr (by decide) (by decide) h0]
    refine va_cald hx hb hK hJ.2.2.2.2.1 a.toNat 2 he rfl (am_vin (oj.1 rfl) hc.1 hc.2) hd ?_
    rw [am_cl0 (oj.1 rfl)]
    dsimp only
    rw [hea, hej]
    exact k0
  · rw [if_neg hc] at h6; cases h6

theorem am_s_baload (C : am_Cx p s m args meth c D dA sa sv A cc ml oc ini own) (hd : decode cc pc = .ok (.baload, 1)) (hJ : am_J D dA sa ad A s.heap ml ls L S sh f H locs) (hst : am_st (am_enc oc ini rt pc (.baload) (pc + 1)) L S (sh, f) = some (.inl (pc', L', S', sh', f'))) (kk : am_KK p l e R s m args below meth c D dA sa A ml cells slots Q ad sh pc' L' S' sh' f') : W p l e R s m args below meth c H locs cells slots Q (F0 m pc ls (S.map (am_rv sa ad))) := by
  obtain ⟨hx, hb, hml, hon, hown, hts, hK, hA, hin, hFo, hlk⟩ := C
  obtain ⟨j, r, rfl, h⟩ := am_p0_some (show am_p0 S (fun j r => am_pr 23 r fun a r => if 0 ≤ j ∧ j < am_len sh a then am_nx (pc + 1) L ((0, f a j) :: r) (sh, f) else none) = _ from hst)
  obtain ⟨a, r, rfl, h0, h6⟩ := am_pr_some h
  clear h hst
  by_cases hc : 0 ≤ j ∧ j < am_len sh a
  · rw [if_pos hc] at h6
    cases am_nx_some h6
    obtain ⟨oj, hr⟩ := List.forall_mem_cons.mp hJ.2.1.2
    obtain ⟨oa, hr⟩ := List.forall_mem_cons.mp hr
    obtain ⟨n, e1, e2, e3, e4⟩ := am_at hJ.2.2.2.1 oa (by decide) (by decide) h0
    rw [e3] at hc
    have hea : ((a.toNat : Nat) : Int) = a := Int.toNat_of_nonneg h0
    have hej : ((j.toNat : Nat) : Int) = j := Int.toNat_of_nonneg hc.1
    have he := am_ws_at (dA := dA) (sa := sa) (ad := ad) (f := f) e1
    rw [am_cell23] at he
    have ov := e4 j.toNat (by omega)
    rw [hej] at ov
    have k0 := kk ad ls H locs ⟨[], (List.append_nil _).symm⟩ (hJ.st (List.forall_mem_cons.mpr ⟨ov, hr⟩))
    rw [Nat.sub_self, Nat.sub_self, Nat.add_zero, Nat.add_zero] at k0
    rw [List.map_cons, List.map_cons, am_rv0, am_rvr (by decide) (by decide) h0]
    refine va_zald hx hb hK hJ.2.2.2.2.1 a.toNat 3 he rfl (am_vin (oj.1 rfl) hc.1 hc.2) hd ?_
    rw [am_cl0 (oj.1 rfl)]
    dsimp only
    rw [hea, hej]
    exact k0
  · rw [if_neg hc] at h6; cases h6

theorem am_s_aaload (C : am_Cx p s m args meth c D dA sa sv A cc ml oc ini own) (hd : decode cc pc = .ok (.aaload, 1)) (hJ : am_J D dA sa ad A s.heap ml ls L S sh f H locs) (hst : am_st (am_enc oc ini rt pc (.aaload) (pc + 1)) L S (sh, f) = some (.inl (pc', L', S', sh', f'))) (kk : am_KK p l e R s m args below meth c D dA sa A ml cells slots Q ad sh pc' L' S' sh' f') : W p l e R s m args below meth c H locs cells slots Q (F0 m pc ls (S.map (am_rv sa ad))) := by
  obtain ⟨hx, hb, hml, hon, hown, hts, hK, hA, hin, hFo, hlk⟩ := C
  obtain ⟨j, r, rfl, h⟩ := am_p0_some (show am_p0 S (fun j r => am_pr 24 r fun a r => if 0 ≤ j ∧ j < am_len sh a then am_nx (pc + 1) L ((107, f a j) :: r) (sh, f) else none) = _ from hst)
  obtain ⟨a, r, rfl, h0, h6⟩ := am_pr_some h
  clear h hst
  by_cases hc : 0 ≤ j ∧ j < am_len sh a
  · rw [if_pos hc] at h6
    cases am_nx_some h6
    obtain ⟨oj, hr⟩ := List.forall_mem_cons.mp hJ.2.1.2
    obtain ⟨oa, hr⟩ := List.forall_mem_cons.mp hr
    obtain ⟨n, e1, e2, e3, e4⟩ := am_at hJ.2.2.2.1 oa (by decide) (by decide) h0
    rw [e3] at hc
    have hea : ((a.toNat : Nat) : Int) = a := Int.toNat_of_nonneg h0
    have hej : ((j.toNat : Nat) : Int) = j := Int.toNat_of_nonneg hc.1
    have he := am_ws_at (dA := dA) (sa := sa) (ad := ad) (f := f) e1
    rw [am_cell24] at he
    have ov := e4 j.toNat (by omega)
    rw [hej] at ov
    have k0 := kk ad ls H locs ⟨[], (List.append_nil _).symm⟩ (hJ.st (List.forall_mem_cons.mpr ⟨ov, hr⟩))
    rw [Nat.sub_self, Nat.sub_self, Nat.add_zero, Nat.add_zero] at k0
    rw [List.map_cons, List.map_cons, am_rv0, am_rvr (by decide) (by decide) h0]
    refine va_aldq hx hb hK hJ.2.2.2.2.1 a.toNat 4 he rfl (am_vin (oj.1 rfl) hc.1 hc.2) hd ?_
    rw [am_cl0 (oj.1 rfl)]
    dsimp only
    rw [hea, hej]
    have e5 : am_rv sa ad (107, f a j) = va_rf (if f a j < 0 then none else some (ad.getD (f a j).toNat 0)) := by
      by_cases hn : f a j < 0
      · rw [if_pos hn]
        unfold am_rv
        rw [if_neg (show ¬ (107 : Nat) = 0 by decide), if_neg (show ¬ (107 : Nat) = 1 by decide), if_neg (show ¬ (107 : Nat) = 30 by decide), if_pos (Or.inl hn)]; rfl
      · rw [if_neg hn, am_rvr (by decide) (by decide) (by omega)]; rfl
    rw [List.map_cons, e5] at k0
    exact k0
  · rw [if_neg hc] at h6; cases h6

theorem am_s_iastore (C : am_Cx p s m args meth c D dA sa sv A cc ml oc ini own) (hd : decode cc pc = .ok (.iastore, 1)) (hJ : am_J D dA sa ad A s.heap ml ls L S sh f H locs) (hst : am_st (am_enc oc ini rt pc (.iastore) (pc + 1)) L S (sh, f) = some (.inl (pc', L', S', sh', f'))) (kk : am_KK p l e R s m args below meth c D dA sa A ml cells slots Q ad sh pc' L' S' sh' f') : W p l e R s m args below meth c H locs cells slots Q (F0 m pc ls (S.map (am_rv sa ad))) := by
  obtain ⟨hx, hb, hml, hon, hown, hts, hK, hA, hin, hFo, hlk⟩ := C
  obtain ⟨v, r, rfl, h⟩ := am_pv_some (show am_pv S (fun v r => am_p0 r fun j r => am_pr 20 r fun a r => if v.1 = 0 ∧ am_fitE 20 v.2 = true ∧ (20 ≤ v.1 → 0 ≤ v.2) ∧ 0 ≤ j ∧ j < am_len sh a then am_nx (pc + 1) L r (sh, am_up f a j v.2) else none) = _ from hst)
  obtain ⟨j, r, rfl, h7⟩ := am_p0_some h
  obtain ⟨a, r, rfl, h0, h6⟩ := am_pr_some h7
  clear h hst h7
  obtain ⟨tv, v⟩ := v
  by_cases hc : tv = 0 ∧ am_fitE 20 v = true ∧ (20 ≤ tv → 0 ≤ v) ∧ 0 ≤ j ∧ j < am_len sh a
  · have h6 : am_nx (pc + 1) L r (sh, am_up f a j v) = some (.inl (pc', L', S', sh', f')) := by rw [← h6]; exact (if_pos hc).symm
    cases am_nx_some h6
    obtain ⟨rfl, g2, g3, g4, g5⟩ := hc
    obtain ⟨ov, hr⟩ := List.forall_mem_cons.mp hJ.2.1.2
    obtain ⟨oj, hr⟩ := List.forall_mem_cons.mp hr
    obtain ⟨oa, hr⟩ := List.forall_mem_cons.mp hr
    obtain ⟨n, e1, e2, e3, e4⟩ := am_at hJ.2.2.2.1 oa (by decide) (by decide) h0
    rw [e3] at g5
    have hea : ((a.toNat : Nat) : Int) = a := Int.toNat_of_nonneg h0
    have hej : ((j.toNat : Nat) : Int) = j := Int.toNat_of_nonneg g4
    have he := am_ws_at (dA := dA) (sa := sa) (ad := ad) (f := f) e1
    rw [am_cell20] at he
    have hWT : am_WT sh (am_up f a j v) := by
      rw [← hea, ← hej]; exact am_WT_up hJ.2.2.2.1 e1 ov
    have hset : (am_ws dA sa ad sh f).set a.toNat (ad.getD a.toNat 0, .inl (dA 0, n, .inl (upd (fun k : Nat => Int32.ofInt (f (a.toNat : Int) k)) (Int32.ofInt j).toNatClampNeg (Int32.ofInt v)))) = am_ws dA sa ad sh (am_up f a j v) := by
      refine am_ws_set e1 (fun i hi k => ?_) ?_
      · unfold am_up; rw [if_neg (fun q => hi (by omega))]
      · rw [am_cl0 (oj.1 rfl), ← am_upd g4, am_cell20, hea]
    rw [List.map_cons, List.map_cons, List.map_cons, am_rv0, am_rv0, am_rvr (t := 20) (by decide) (by decide) h0]
    refine va_iast hx hb hK hJ.2.2.2.2.1 hJ.2.2.2.2.2.1 hJ.2.2.2.2.2.2 a.toNat 0 he rfl (am_vin (oj.1 rfl) g4 g5) hd (fun H1 locs1 hP1 hD1 hS1 => ?_)
    rw [hset] at hP1 hD1
    have k0 := kk ad ls H1 locs1 ⟨[], (List.append_nil _).symm⟩ ⟨hJ.1, ⟨hJ.2.1.1, hr⟩, hJ.2.2.1, hWT, hP1, hD1, hS1⟩
    rw [Nat.sub_self, Nat.sub_self, Nat.add_zero, Nat.add_zero] at k0
    exact k0
  · exfalso
    have h6 : (none : Option am_O) = some (.inl (pc', L', S', sh', f')) := by rw [← h6]; exact (if_neg hc).symm
    cases h6

theorem am_s_lastore (C : am_Cx p s m args meth c D dA sa sv A cc ml oc ini own) (hd : decode cc pc = .ok (.lastore, 1)) (hJ : am_J D dA sa ad A s.heap ml ls L S sh f H locs) (hst : am_st (am_enc oc ini rt pc (.lastore) (pc + 1)) L S (sh, f) = some (.inl (pc', L', S', sh', f'))) (kk : am_KK p l e R s m args below meth c D dA sa A ml cells slots Q ad sh pc' L' S' sh' f') : W p l e R s m args below meth c H locs cells slots Q (F0 m pc ls (S.map (am_rv sa ad))) := by
  obtain ⟨hx, hb, hml, hon, hown, hts, hK, hA, hin, hFo, hlk⟩ := C
  obtain ⟨v, r, rfl, h⟩ := am_pv_some (show am_pv S (fun v r => am_p0 r fun j r => am_pr 21 r fun a r => if v.1 = 1 ∧ am_fitE 21 v.2 = true ∧ (20 ≤ v.1 → 0 ≤ v.2) ∧ 0 ≤ j ∧ j < am_len sh a then am_nx (pc + 1) L r (sh, am_up f a j v.2) else none) = _ from hst)
  obtain ⟨j, r, rfl, h7⟩ := am_p0_some h
  obtain ⟨a, r, rfl, h0, h6⟩ := am_pr_some h7
  clear h hst h7
  obtain ⟨tv, v⟩ := v
  by_cases hc : tv = 1 ∧ am_fitE 21 v = true ∧ (20 ≤ tv → 0 ≤ v) ∧ 0 ≤ j ∧ j < am_len sh a
  · have h6 : am_nx (pc + 1) L r (sh, am_up f a j v) = some (.inl (pc', L', S', sh', f')) := by rw [← h6]; exact (if_pos hc).symm
    cases am_nx_some h6
    obtain ⟨rfl, g2, g3, g4, g5⟩ := hc
    obtain ⟨ov, hr⟩ := List.forall_mem_cons.mp hJ.2.1.2
    obtain ⟨oj, hr⟩ := List.forall_mem_cons.mp hr
    obtain ⟨oa, hr⟩ := List.forall_mem_cons.mp hr
    obtain ⟨n, e1, e2, e3, e4⟩ := am_at hJ.2.2.2.1 oa (by decide) (by decide) h0
    rw [e3] at g5
    have hea : ((a.toNat : Nat) : Int) = a := Int.toNat_of_nonneg h0
    have hej : ((j.toNat : Nat) : Int) = j := Int.toNat_of_nonneg g4
    have he := am_ws_at (dA := dA) (sa := sa) (ad := ad) (f := f) e1
    rw [am_cell21] at he
    have hWT : am_WT sh (am_up f a j v) := by
      rw [← hea, ← hej]; exact am_WT_up hJ.2.2.2.1 e1 ov
    have hset : (am_ws dA sa ad sh f).set a.toNat (ad.getD a.toNat 0, .inl (dA 1, n, .inr (.inl (vp_updL (fun k : Nat => Int64.ofInt (f (a.toNat : Int) k)) (Int32.ofInt j).toNatClampNeg (Int64.ofInt v))))) = am_ws dA sa ad sh (am_up f a j v) := by
      refine am_ws_set e1 (fun i hi k => ?_) ?_
      · unfold am_up; rw [if_neg (fun q => hi (by omega))]
      · rw [am_cl0 (oj.1 rfl), ← am_updL g4, am_cell21, hea]
    rw [List.map_cons, List.map_cons, List.map_cons, am_rv0, am_rv1, am_rvr (t := 21) (by decide) (by decide) h0]
    refine va_last hx hb hK hJ.2.2.2.2.1 hJ.2.2.2.2.2.1 hJ.2.2.2.2.2.2 a.toNat 1 he rfl (am_vin (oj.1 rfl) g4 g5) hd (fun H1 locs1 hP1 hD1 hS1 => ?_)
    rw [hset] at hP1 hD1
    have k0 := kk ad ls H1 locs1 ⟨[], (List.append_nil _).symm⟩ ⟨hJ.1, ⟨hJ.2.1.1, hr⟩, hJ.2.2.1, hWT, hP1, hD1, hS1⟩
    rw [Nat.sub_self, Nat.sub_self, Nat.add_zero, Nat.add_zero] at k0
    exact k0
  · exfalso
    have h6 : (none : Option am_O) = some (.inl (pc', L', S', sh', f')) := by rw [← h6]; exact (if_neg hc).symm
    cases h6

theorem am_s_castore (C : am_Cx p s m args meth c D dA sa sv A cc ml oc ini own) (hd : decode cc pc = .ok (.castore, 1)) (hJ : am_J D dA sa ad A s.heap ml ls L S sh f H locs) (hst : am_st (am_enc oc ini rt pc (.castore) (pc + 1)) L S (sh, f) = some (.inl (pc', L', S', sh', f'))) (kk : am_KK p l e R s m args below meth c D dA sa A ml cells slots Q ad sh pc' L' S' sh' f') : W p l e R s m args below meth c H locs cells slots Q (F0 m pc ls (S.map (am_rv sa ad))) := by
  obtain ⟨hx, hb, hml, hon, hown, hts, hK, hA, hin, hFo, hlk⟩ := C
  obtain ⟨v, r, rfl, h⟩ := am_pv_some (show am_pv S (fun v r => am_p0 r fun j r => am_pr 22 r fun a r => if v.1 = 0 ∧ am_fitE 22 v.2 = true ∧ (20 ≤ v.1 → 0 ≤ v.2) ∧ 0 ≤ j ∧ j < am_len sh a then am_nx (pc + 1) L r (sh, am_up f a j v.2) else none) = _ from hst)
  obtain ⟨j, r, rfl, h7⟩ := am_p0_some h
  obtain ⟨a, r, rfl, h0, h6⟩ := am_pr_some h7
  clear h hst h7
  obtain ⟨tv, v⟩ := v
  by_cases hc : tv = 0 ∧ am_fitE 22 v = true ∧ (20 ≤ tv → 0 ≤ v) ∧ 0 ≤ j ∧ j < am_len sh a
  · have h6 : am_nx (pc + 1) L r (sh, am_up f a j v) = some (.inl (pc', L', S', sh', f')) := by rw [← h6]; exact (if_pos hc).symm
    cases am_nx_some h6
    obtain ⟨rfl, g2, g3, g4, g5⟩ := hc
    obtain ⟨ov, hr⟩ := List.forall_mem_cons.mp hJ.2.1.2
    obtain ⟨oj, hr⟩ := List.forall_mem_cons.mp hr
    obtain ⟨oa, hr⟩ := List.forall_mem_cons.mp hr
    obtain ⟨n, e1, e2, e3, e4⟩ := am_at hJ.2.2.2.1 oa (by decide) (by decide) h0
    rw [e3] at g5
    have hea : ((a.toNat : Nat) : Int) = a := Int.toNat_of_nonneg h0
    have hej : ((j.toNat : Nat) : Int) = j := Int.toNat_of_nonneg g4
    have he := am_ws_at (dA := dA) (sa := sa) (ad := ad) (f := f) e1
    rw [am_cell22] at he
    have hWT : am_WT sh (am_up f a j v) := by
      rw [← hea, ← hej]; exact am_WT_up hJ.2.2.2.1 e1 ov
    have g6 : 0 ≤ v ∧ v < 65536 := by
      have g2 : (decide (0 ≤ v) && decide (v < 65536)) = true := g2
      simpa using g2
    have hset : (am_ws dA sa ad sh f).set a.toNat (ad.getD a.toNat 0, .inl (dA 2, n, .inl (upd (fun k : Nat => Int32.ofInt (f (a.toNat : Int) k)) (Int32.ofInt j).toNatClampNeg (vp_nar .char (Int32.ofInt v))))) = am_ws dA sa ad sh (am_up f a j v) := by
      refine am_ws_set e1 (fun i hi k => ?_) ?_
      · unfold am_up; rw [if_neg (fun q => hi (by omega))]
      · rw [am_nc g6.1 g6.2, am_cl0 (oj.1 rfl), ← am_upd g4, am_cell22, hea]
    rw [List.map_cons, List.map_cons, List.map_cons, am_rv0, am_rv0, am_rvr (t := 22) (by decide) (by decide) h0]
    refine va_cast hx hb hK hJ.2.2.2.2.1 hJ.2.2.2.2.2.1 hJ.2.2.2.2.2.2 a.toNat 2 he rfl (am_vin (oj.1 rfl) g4 g5) hd (fun H1 locs1 hP1 hD1 hS1 => ?_)
    rw [hset] at hP1 hD1
    have k0 := kk ad ls H1 locs1 ⟨[], (List.append_nil _).symm⟩ ⟨hJ.1, ⟨hJ.2.1.1, hr⟩, hJ.2.2.1, hWT, hP1, hD1, hS1⟩
    rw [Nat.sub_self, Nat.sub_self, Nat.add_zero, Nat.add_zero] at k0
    exact k0
  · exfalso
    have h6 : (none : Option am_O) = some (.inl (pc', L', S', sh', f')) := by rw [← h6]; exact (if_neg hc).symm
    cases h6

theorem am_s_bastore (C : am_Cx p s m args meth c D dA sa sv A cc ml oc ini own) (hd : decode cc pc = .ok (.bastore, 1)) (hJ : am_J D dA sa ad A s.heap ml ls L S sh f H locs) (hst : am_st (am_enc oc ini rt pc (.bastore) (pc + 1)) L S (sh, f) = some (.inl (pc', L', S', sh', f'))) (kk : am_KK p l e R s m args below meth c D dA sa A ml cells slots Q ad sh pc' L' S' sh' f') : W p l e R s m args below meth c H locs cells slots Q (F0 m pc ls (S.map (am_rv sa ad))) := by
  obtain ⟨hx, hb, hml, hon, hown, hts, hK, hA, hin, hFo, hlk⟩ := C
  obtain ⟨v, r, rfl, h⟩ := am_pv_some (show am_pv S (fun v r => am_p0 r fun j r => am_pr 23 r fun a r => if v.1 = 0 ∧ am_fitE 23 v.2 = true ∧ (20 ≤ v.1 → 0 ≤ v.2) ∧ 0 ≤ j ∧ j < am_len sh a then am_nx (pc + 1) L r (sh, am_up f a j v.2) else none) = _ from hst)
  obtain ⟨j, r, rfl, h7⟩ := am_p0_some h
  obtain ⟨a, r, rfl, h0, h6⟩ := am_pr_some h7
  clear h hst h7
  obtain ⟨tv, v⟩ := v
  by_cases hc : tv = 0 ∧ am_fitE 23 v = true ∧ (20 ≤ tv → 0 ≤ v) ∧ 0 ≤ j ∧ j < am_len sh a
  · have h6 : am_nx (pc + 1) L r (sh, am_up f a j v) = some (.inl (pc', L', S', sh', f')) := by rw [← h6]; exact (if_pos hc).symm
    cases am_nx_some h6
    obtain ⟨rfl, g2, g3, g4, g5⟩ := hc
    obtain ⟨ov, hr⟩ := List.forall_mem_cons.mp hJ.2.1.2
    obtain ⟨oj, hr⟩ := List.forall_mem_cons.mp hr
    obtain ⟨oa, hr⟩ := List.forall_mem_cons.mp hr
    obtain ⟨n, e1, e2, e3, e4⟩ := am_at hJ.2.2.2.1 oa (by decide) (by decide) h0
    rw [e3] at g5
    have hea : ((a.toNat : Nat) : Int) = a := Int.toNat_of_nonneg h0
    have hej : ((j.toNat : Nat) : Int) = j := Int.toNat_of_nonneg g4
    have he := am_ws_at (dA := dA) (sa := sa) (ad := ad) (f := f) e1
    rw [am_cell23] at he
    have hWT : am_WT sh (am_up f a j v) := by
      rw [← hea, ← hej]; exact am_WT_up hJ.2.2.2.1 e1 ov
    have g6 : v = 0 ∨ v = 1 := by
      have g2 : (decide (v = 0) || decide (v = 1)) = true := g2
      simpa using g2
    have hset : (am_ws dA sa ad sh f).set a.toNat (ad.getD a.toNat 0, .inl (dA 3, n, .inl (upd (fun k : Nat => Int32.ofInt (f (a.toNat : Int) k)) (Int32.ofInt j).toNatClampNeg (vp_nar .boolean (Int32.ofInt v))))) = am_ws dA sa ad sh (am_up f a j v) := by
      refine am_ws_set e1 (fun i hi k => ?_) ?_
      · unfold am_up; rw [if_neg (fun q => hi (by omega))]
      · rw [am_nz g6, am_cl0 (oj.1 rfl), ← am_upd g4, am_cell23, hea]
    rw [List.map_cons, List.map_cons, List.map_cons, am_rv0, am_rv0, am_rvr (t := 23) (by decide) (by decide) h0]
    refine va_zast hx hb hK hJ.2.2.2.2.1 hJ.2.2.2.2.2.1 hJ.2.2.2.2.2.2 a.toNat 3 he rfl (am_vin (oj.1 rfl) g4 g5) hd (fun H1 locs1 hP1 hD1 hS1 => ?_)
    rw [hset] at hP1 hD1
    have k0 := kk ad ls H1 locs1 ⟨[], (List.append_nil _).symm⟩ ⟨hJ.1, ⟨hJ.2.1.1, hr⟩, hJ.2.2.1, hWT, hP1, hD1, hS1⟩
    rw [Nat.sub_self, Nat.sub_self, Nat.add_zero, Nat.add_zero] at k0
    exact k0
  · exfalso
    have h6 : (none : Option am_O) = some (.inl (pc', L', S', sh', f')) := by rw [← h6]; exact (if_neg hc).symm
    cases h6

theorem am_s_aastore (C : am_Cx p s m args meth c D dA sa sv A cc ml oc ini own) (hd : decode cc pc = .ok (.aastore, 1)) (hJ : am_J D dA sa ad A s.heap ml ls L S sh f H locs) (hst : am_st (am_enc oc ini rt pc (.aastore) (pc + 1)) L S (sh, f) = some (.inl (pc', L', S', sh', f'))) (kk : am_KK p l e R s m args below meth c D dA sa A ml cells slots Q ad sh pc' L' S' sh' f') : W p l e R s m args below meth c H locs cells slots Q (F0 m pc ls (S.map (am_rv sa ad))) := by
  obtain ⟨hx, hb, hml, hon, hown, hts, hK, hA, hin, hFo, hlk⟩ := C
  obtain ⟨v, r, rfl, h⟩ := am_pv_some (show am_pv S (fun v r => am_p0 r fun j r => am_pr 24 r fun a r => if v.1 = 107 ∧ am_fitE 24 v.2 = true ∧ (20 ≤ v.1 → 0 ≤ v.2) ∧ 0 ≤ j ∧ j < am_len sh a then am_nx (pc + 1) L r (sh, am_up f a j v.2) else none) = _ from hst)
  obtain ⟨j, r, rfl, h7⟩ := am_p0_some h
  obtain ⟨a, r, rfl, h0, h6⟩ := am_pr_some h7
  clear h hst h7
  obtain ⟨tv, v⟩ := v
  by_cases hc : tv = 107 ∧ am_fitE 24 v = true ∧ (20 ≤ tv → 0 ≤ v) ∧ 0 ≤ j ∧ j < am_len sh a
  · have h6 : am_nx (pc + 1) L r (sh, am_up f a j v) = some (.inl (pc', L', S', sh', f')) := by rw [← h6]; exact (if_pos hc).symm
    cases am_nx_some h6
    obtain ⟨rfl, g2, g3, g4, g5⟩ := hc
    obtain ⟨ov, hr⟩ := List.forall_mem_cons.mp hJ.2.1.2
    obtain ⟨oj, hr⟩ := List.forall_mem_cons.mp hr
    obtain ⟨oa, hr⟩ := List.forall_mem_cons.mp hr
    obtain ⟨n, e1, e2, e3, e4⟩ := am_at hJ.2.2.2.1 oa (by decide) (by decide) h0
    rw [e3] at g5
    have hea : ((a.toNat : Nat) : Int) = a := Int.toNat_of_nonneg h0
    have hej : ((j.toNat : Nat) : Int) = j := Int.toNat_of_nonneg g4
    have he := am_ws_at (dA := dA) (sa := sa) (ad := ad) (f := f) e1
    rw [am_cell24] at he
    have hWT : am_WT sh (am_up f a j v) := by
      rw [← hea, ← hej]; exact am_WT_up hJ.2.2.2.1 e1 ov
    have hset : (am_ws dA sa ad sh f).set a.toNat (ad.getD a.toNat 0, .inl (dA 4, n, .inr (.inr (.inr (.inr (va_up (fun k : Nat => if f (a.toNat : Int) k < 0 then none else some (ad.getD (f (a.toNat : Int) k).toNat 0)) (Int32.ofInt j).toNatClampNeg (some (ad.getD v.toNat 0)))))))) = am_ws dA sa ad sh (am_up f a j v) := by
      refine am_ws_set e1 (fun i hi k => ?_) ?_
      · unfold am_up; rw [if_neg (fun q => hi (by omega))]
      · rw [am_cl0 (oj.1 rfl), ← am_updQ g4 (g3 (by decide)), am_cell24, hea]
    obtain ⟨nv, v1, v2, v3, v4⟩ := am_at hJ.2.2.2.1 ov (by decide) (by decide) (g3 (by decide))
    have hev := am_ws_at (dA := dA) (sa := sa) (ad := ad) (f := f) v1
    rw [am_cellO (by decide)] at hev
    rw [List.map_cons, List.map_cons, List.map_cons, am_rv0, am_rvr (t := 24) (by decide) (by decide) h0, am_rvr (t := 107) (by decide) (by decide) (g3 (by decide))]
    refine va_astq (ci := 7) hx hb hK hJ.2.2.2.2.1 hJ.2.2.2.2.2.1 hJ.2.2.2.2.2.2 a.toNat 4 v.toNat (r := (RX7, TX7, 12)) he rfl hev rfl (am_vin (oj.1 rfl) g4 g5) hd (fun H1 locs1 hP1 hD1 hS1 => ?_)
    rw [hset] at hP1 hD1
    have k0 := kk ad ls H1 locs1 ⟨[], (List.append_nil _).symm⟩ ⟨hJ.1, ⟨hJ.2.1.1, hr⟩, hJ.2.2.1, hWT, hP1, hD1, hS1⟩
    rw [Nat.sub_self, Nat.sub_self, Nat.add_zero, Nat.add_zero] at k0
    exact k0
  · exfalso
    have h6 : (none : Option am_O) = some (.inl (pc', L', S', sh', f')) := by rw [← h6]; exact (if_neg hc).symm
    cases h6

theorem am_s_arraylength (C : am_Cx p s m args meth c D dA sa sv A cc ml oc ini own) (hd : decode cc pc = .ok (.arraylength, 1)) (hJ : am_J D dA sa ad A s.heap ml ls L S sh f H locs) (hst : am_st (am_enc oc ini rt pc (.arraylength) (pc + 1)) L S (sh, f) = some (.inl (pc', L', S', sh', f'))) (kk : am_KK p l e R s m args below meth c D dA sa A ml cells slots Q ad sh pc' L' S' sh' f') : W p l e R s m args below meth c H locs cells slots Q (F0 m pc ls (S.map (am_rv sa ad))) := by
  obtain ⟨hx, hb, hml, hon, hown, hts, hK, hA, hin, hFo, hlk⟩ := C
  obtain ⟨v, r, rfl, h⟩ := am_pv_some (show am_pv S (fun v r => if 20 ≤ v.1 ∧ v.1 ≤ 24 ∧ 0 ≤ v.2 then am_nx (pc + 1) L ((0, am_len sh v.2) :: r) (sh, f) else none) = _ from hst)
  obtain ⟨t, a⟩ := v
  by_cases hc : 20 ≤ t ∧ t ≤ 24 ∧ 0 ≤ a
  · have h : am_nx (pc + 1) L ((0, am_len sh a) :: r) (sh, f) = some (.inl (pc', L', S', sh', f')) := by rw [← h]; exact (if_pos hc).symm
    cases am_nx_some h
    obtain ⟨g1, g2, g3⟩ := hc
    obtain ⟨oa, hr⟩ := List.forall_mem_cons.mp hJ.2.1.2
    obtain ⟨n, e1, e2, e3, e4⟩ := am_at hJ.2.2.2.1 oa g1 (by omega) g3
    have hn : n ≤ 10000 := by
      rcases e2 with e2 | e2
      · exact e2.2.2
      · have := e2.1; omega
    have he := am_ws_at (dA := dA) (sa := sa) (ad := ad) (f := f) e1
    have k0 := kk ad ls H locs ⟨[], (List.append_nil _).symm⟩ (hJ.st (List.forall_mem_cons.mpr ⟨am_ok0 (by rw [e3]; constructor <;> omega), hr⟩))
    rw [Nat.sub_self, Nat.sub_self, Nat.add_zero, Nat.add_zero] at k0
    rw [e3] at k0
    rw [List.map_cons, am_rvr g1 (by omega) g3]
    have ht : t = 20 ∨ t = 21 ∨ t = 22 ∨ t = 23 ∨ t = 24 := by omega
    rcases ht with rfl | rfl | rfl | rfl | rfl
    · rw [am_cell20] at he; exact va_alen hx hb hK hJ.2.2.2.2.1 a.toNat 0 he rfl (v := Int32.ofInt (n : Int)) rfl hd k0
    · rw [am_cell21] at he; exact va_alen hx hb hK hJ.2.2.2.2.1 a.toNat 1 he rfl (v := Int32.ofInt (n : Int)) rfl hd k0
    · rw [am_cell22] at he; exact va_alen hx hb hK hJ.2.2.2.2.1 a.toNat 2 he rfl (v := Int32.ofInt (n : Int)) rfl hd k0
    · rw [am_cell23] at he; exact va_alen hx hb hK hJ.2.2.2.2.1 a.toNat 3 he rfl (v := Int32.ofInt (n : Int)) rfl hd k0
    · rw [am_cell24] at he; exact va_alen hx hb hK hJ.2.2.2.2.1 a.toNat 4 he rfl (v := Int32.ofInt (n : Int)) rfl hd k0
  · exfalso
    have h6 : (none : Option am_O) = some (.inl (pc', L', S', sh', f')) := by rw [← h]; exact (if_neg hc).symm
    cases h6

end
