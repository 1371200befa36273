theorem am_sw_tb (v d pc : Int) : ∀ (fs : List Int) (lo : Int), am_sw v d (am_tb pc lo fs) = if lo ≤ v ∧ v < lo + fs.length then pc + fs.getD (v - lo).toNat 0 else d
  | [], lo => by
    rw [if_neg (by simp only [List.length_nil]; omega)]; rfl
  | g :: r, lo => by
    show (if v = lo then pc + g else am_sw v d (am_tb pc (lo + 1) r)) = _
    by_cases h : v = lo
    · subst h
      rw [if_pos rfl, if_pos ⟨by omega, by simp only [List.length_cons]; omega⟩]
      simp
    · rw [if_neg h, am_sw_tb v d pc r (lo + 1)]
      by_cases h2 : lo + 1 ≤ v ∧ v < lo + 1 + r.length
      · rw [if_pos h2, if_pos ⟨by omega, by simp only [List.length_cons]; omega⟩]
        have : (v - lo).toNat = (v - (lo + 1)).toNat + 1 := by omega
        rw [this]; rfl
      · rw [if_neg h2, if_neg (by simp only [List.length_cons]; omega)]
theorem am_WT_up {sh : am_H} {f : am_F} {i c n k : Nat} {v : Int} (h : am_WT sh f) (hs : sh[i]? = some (c, n)) (hv : am_okv sh (am_et c k, v)) : am_WT sh (am_up f i k v) := by
  intro i1 c1 n1 h1
  obtain ⟨h2, h3⟩ := h i1 c1 n1 h1
  refine ⟨h2, fun j hj => ?_⟩
  unfold am_up
  by_cases hq : ((i1 : Int) = (i : Int) ∧ (j : Int) = (k : Int))
  · rw [if_pos hq]
    have e1 : i1 = i := by omega
    have e2 : j = k := by omega
    subst e1; subst e2
    rw [hs] at h1; cases h1
    exact hv
  · rw [if_neg hq]; exact h3 j hj
/-- a reference of a tag, on the stack, and its cell -/
theorem am_at {sh : am_H} {f : am_F} {t : Nat} {a : Int} (hW : am_WT sh f) (ho : am_okv sh (t, a)) (ht : 20 ≤ t) (h3 : ¬ t = 30) (h0 : 0 ≤ a) : ∃ n, sh[a.toNat]? = some (t, n) ∧ am_okt t n ∧ am_len sh a = n ∧ ∀ k : Nat, k < n → am_okv sh (am_et t k, f a k) := by
  obtain ⟨n, hn⟩ := ho.2.2 ht h3 h0
  obtain ⟨h1, h2⟩ := hW _ _ _ hn
  refine ⟨n, hn, h1, ?_, fun k hk => ?_⟩
  · unfold am_len
    simp [List.getD_eq_getElem?_getD, hn]
  · have := h2 k (Or.inl hk)
    rwa [Int.toNat_of_nonneg h0] at this
theorem am_cellO {dA : Nat → ClassId} {sa : Nat} {ad : List Nat} {f : am_F} {i c n : Nat} (h : 100 ≤ c) : am_cell dA sa ad f i c n = .inr (c - 100, (List.range n).map fun k => am_rv sa ad (am_et c k, f i k)) := by unfold am_cell; rw [if_pos h]
theorem am_fs_at {sa : Nat} {ad : List Nat} {f : am_F} {i c n k : Nat} (hk : k < n) : ((List.range n).map fun k => am_rv sa ad (am_et c k, f i k))[k]? = some (am_rv sa ad (am_et c k, f i k)) := by
  rw [List.getElem?_map, List.getElem?_range hk]; rfl
theorem am_fs_set {sa : Nat} {ad : List Nat} {f : am_F} {i c n k : Nat} {v : Int} (hk : k < n) : ((List.range n).map fun j => am_rv sa ad (am_et c j, am_up f i k v i j)) = ((List.range n).map fun j => am_rv sa ad (am_et c j, f i j)).set k (am_rv sa ad (am_et c k, v)) := by
  apply List.ext_getElem?
  intro j
  by_cases hj : j = k
  · subst hj
    rw [List.getElem?_set_self (by simpa using hk), am_fs_at hk]
    simp [am_up]
  · rw [List.getElem?_set_ne (fun q => hj q.symm), List.getElem?_map, List.getElem?_map]
    have : ¬ (((i : Int)) = (i : Int) ∧ (j : Int) = (k : Int)) := by omega
    cases hr : (List.range n)[j]? with
    | none => rfl
    | some q =>
      have : q = j := by
        have := List.getElem?_eq_some_iff.mp hr
        obtain ⟨_, h2⟩ := this
        simp at h2; omega
      subst this
      have h3 : ¬ ((q : Int) = (k : Int)) := by omega
      simp [am_up, h3]
theorem am_narO {ty : FieldType} {t b : Nat} {sa : Nat} {ad : List Nat} {sh : am_H} {v : Int} (h : am_fd ty t b = true) (hb : b = 1 → v = 0 ∨ v = 1) (h0 : 20 ≤ t → 0 ≤ v) : narrow ty (am_rv sa ad (t, v)) = am_rv sa ad (t, v) ∧ fits ty (am_rv sa ad (t, v)) = true := by
  unfold am_fd at h
  split at h
  · simp only [Bool.and_eq_true, beq_iff_eq] at h
    obtain ⟨rfl, rfl⟩ := h
    exact ⟨rfl, rfl⟩
  · simp only [Bool.and_eq_true, beq_iff_eq] at h
    obtain ⟨rfl, rfl⟩ := h
    rcases hb rfl with rfl | rfl
    · exact ⟨show Value.int ((0 : Int32) &&& 1) = .int 0 by decide, show ((0 : Int32) == 0 || (0 : Int32) == 1) = true by decide⟩
    · exact ⟨show Value.int ((1 : Int32) &&& 1) = .int 1 by decide, show ((1 : Int32) == 0 || (1 : Int32) == 1) = true by decide⟩
  · simp only [Bool.and_eq_true, beq_iff_eq] at h
    obtain ⟨rfl, rfl⟩ := h
    exact ⟨rfl, rfl⟩
  · simp only [Bool.and_eq_true, decide_eq_true_eq, Bool.not_eq_true', beq_eq_false_iff_ne] at h
    rw [am_rvr h.1.1 h.1.2 (h0 h.1.1)]
    exact ⟨rfl, rfl⟩
  · simp only [Bool.and_eq_true, decide_eq_true_eq, Bool.not_eq_true', beq_eq_false_iff_ne] at h
    rw [am_rvr h.1.1 h.1.2 (h0 h.1.1)]
    exact ⟨rfl, rfl⟩
  · cases h
theorem am_own {ci : Nat} {r : vw_C} {own : String} (h : am_cl[ci]? = some r) (ho : am_on[ci]? = some own) : r.1 = own := by
  match ci, h, ho with
  | 0, h, ho => cases h; cases ho; rfl
  | 1, h, ho => cases h; cases ho; rfl
  | 2, h, ho => cases h; cases ho; rfl
  | 3, h, ho => cases h; cases ho; rfl
  | 4, h, ho => cases h; cases ho; rfl
  | 5, h, ho => cases h; cases ho; rfl
  | 6, h, ho => cases h; cases ho; rfl
  | 7, h, ho => cases h; cases ho; rfl
  | 8, h, ho => cases h; cases ho; rfl
  | 9, h, ho => cases h; cases ho; rfl
  | 10, h, ho => cases h; cases ho; rfl
  | n + 11, h, ho => simp [am_cl] at h
section
variable {p : Program} {l : Launch} {e : Env} {R : Room} {s : State} {m : MethodId} {args : Array Value} {below : List Frame} {meth : Method} {c : Code} {H : Heap} {locs : List Loc} {cells slots : Nat} {Q : State → Prop} {D : va_G} {dA : Nat → ClassId} {sa sv : Nat} {A : Nat → Prop} {cc : ByteArray} {ml oc rt : Nat} {ini : Bool} {own : String} {pc : Nat} {ls : Array Slot} {ad : List Nat} {sh sh' : am_H} {f f' : am_F} {L S L' S' : List am_V} {pc' : Nat}
theorem am_s_tableswitch {d lo hi : Int} {fs : Array Int} {len : Nat} (C : am_Cx p s m args meth c D dA sa sv A cc ml oc ini own) (hd : decode cc pc = .ok (.tableswitch d lo hi fs, len)) (hJ : am_J D dA sa ad A s.heap ml ls L S sh f H locs) (hst : am_st (am_enc oc ini rt pc (.tableswitch d lo hi fs) (pc + len)) L S (sh, f) = some (.inl (pc', L', S', sh', f'))) (kk : am_KK p l e R s m args below meth c D dA sa A ml cells slots Q ad sh pc' L' S' sh' f') : W p l e R s m args below meth c H locs cells slots Q (F0 m pc ls (S.map (am_rv sa ad))) := by
  obtain ⟨hx, hb, hml, hon, hown, hts, hK, hA, hin, hFo, hlk⟩ := C
  by_cases hc : lo + fs.size = hi + 1 ∧ (fs.toList.all fun f => decide (0 ≤ (pc : Int) + f)) = true ∧ 0 ≤ (pc : Int) + d
  · have hst : am_p0 S (fun a r => am_nx (am_sw a ((pc : Int) + d) (am_tb pc lo fs.toList)).toNat L r (sh, f)) = some (.inl (pc', L', S', sh', f')) := by
      rw [← hst]; unfold am_enc; dsimp only; rw [if_pos hc]; rfl
    obtain ⟨a, r, rfl, h⟩ := am_p0_some hst
    obtain ⟨oa, hr⟩ := List.forall_mem_cons.mp hJ.2.1.2
    have hi2 : (Int32.ofInt a).toInt = a := am_toI (oa.1 rfl)
    rw [am_sw_tb] at h
    by_cases hq : lo ≤ a ∧ a < lo + fs.toList.length
    · rw [if_pos hq] at h
      cases am_nx_some h
      have k0 := kk ad ls H locs ⟨[], (List.append_nil _).symm⟩ (hJ.st hr)
      rw [Nat.sub_self, Nat.sub_self, Nat.add_zero, Nat.add_zero] at k0
      have hlt : (a - lo).toNat < fs.size := by have := hq.2; simp at this; omega
      have hg : fs[(a - lo).toNat]? = some (fs.toList.getD (a - lo).toNat 0) := by
        rw [← Array.getElem?_toList, List.getD_eq_getElem?_getD, List.getElem?_eq_getElem (by simpa using hlt)]; rfl
      have hpos : 0 ≤ (pc : Int) + fs.toList.getD (a - lo).toNat 0 := by
        have := List.all_eq_true.mp hc.2.1 (fs.toList.getD (a - lo).toNat 0) (by
          rw [List.getD_eq_getElem?_getD, List.getElem?_eq_getElem (by simpa using hlt)]
          exact List.getElem_mem _)
        exact of_decide_eq_true this
      exact lv_tableIn hx hb hd (by rw [hi2]; have := hq.1; omega) (by rw [hi2]; have := hq.2; simp at this; omega) (by rw [hi2]; exact hg) (by omega) k0
    · rw [if_neg hq] at h
      cases am_nx_some h
      have k0 := kk ad ls H locs ⟨[], (List.append_nil _).symm⟩ (hJ.st hr)
      rw [Nat.sub_self, Nat.sub_self, Nat.add_zero, Nat.add_zero] at k0
      exact lv_tableOut hx hb hd (by rw [hi2]; have h9 : fs.toList.length = fs.size := by simp
                                     omega) (by omega) k0
  · exfalso
    unfold am_enc at hst; dsimp only at hst; rw [if_neg hc] at hst; cases hst
theorem am_s_getfield {k : Nat} (C : am_Cx p s m args meth c D dA sa sv A cc ml oc ini own) (hd : decode cc pc = .ok (.getfield k, 3)) (hJ : am_J D dA sa ad A s.heap ml ls L S sh f H locs) (hst : am_st (am_enc oc ini rt pc (.getfield k) (pc + 3)) L S (sh, f) = some (.inl (pc', L', S', sh', f'))) (kk : am_KK p l e R s m args below meth c D dA sa A ml cells slots Q ad sh pc' L' S' sh' f') : W p l e R s m args below meth c H locs cells slots Q (F0 m pc ls (S.map (am_rv sa ad))) := by
  obtain ⟨hx, hb, hml, hon, hown, hts, hK, hA, hin, hFo, hlk⟩ := C
  cases hq : am_fl oc k with
  | none => unfold am_enc at hst; dsimp only at hst; rw [hq] at hst; cases hst
  | some q =>
    obtain ⟨t, j, ft, bo, fi, ti⟩ := q
    have hst : am_pr ((t : Int)).toNat S (fun a r => am_nx (pc + 3) L ((((ft : Int)).toNat, f a (j : Int)) :: r) (sh, f)) = some (.inl (pc', L', S', sh', f')) := by
      rw [← hst]; unfold am_enc; dsimp only; rw [hq]; rfl
    rw [Int.toNat_natCast, Int.toNat_natCast] at hst
    obtain ⟨a, r, rfl, h0, h⟩ := am_pr_some hst
    cases am_nx_some h
    obtain ⟨cr, c1, c2, c3, c4, c5, c6, c7, c8⟩ := am_flok hon hq
    dsimp only at c1 c2 c3 c4 c5 c6 c7 c8
    obtain ⟨oa, hr⟩ := List.forall_mem_cons.mp hJ.2.1.2
    obtain ⟨n, e1, e2, e3, e4⟩ := am_at hJ.2.2.2.1 oa (by omega) (by omega) h0
    have en : n = cr.2.2 := by
      rcases e2 with e2 | ⟨-, r2, e5, e6⟩
      · omega
      · rw [c1] at e5; cases e5; exact e6.symm
    subst en
    have he := am_ws_at (dA := dA) (sa := sa) (ad := ad) (f := f) e1
    rw [am_cellO c2] at he
    have k0 := kk ad ls H locs ⟨[], (List.append_nil _).symm⟩ (hJ.st (List.forall_mem_cons.mpr ⟨by rw [c6]; exact e4 j c3, hr⟩))
    rw [Nat.sub_self, Nat.sub_self, Nat.add_zero, Nat.add_zero] at k0
    rw [List.map_cons, am_rvr (by omega) (by omega) h0]
    refine va_get (C := cr.1) (T := cr.2.1) (N := cr.2.2) hx hb hts (am_clok c1).1 hown hK hJ.2.2.2.2.1 a.toNat he c1 j c3 (hts _ c4) (fun x hx => by rw [c5] at hx; exact hx) (am_fs_at c3) hd ?_
    rw [Int.toNat_of_nonneg h0, ← c6]
    exact k0
theorem am_s_putfield {k : Nat} (C : am_Cx p s m args meth c D dA sa sv A cc ml oc ini own) (hd : decode cc pc = .ok (.putfield k, 3)) (hJ : am_J D dA sa ad A s.heap ml ls L S sh f H locs) (hst : am_st (am_enc oc ini rt pc (.putfield k) (pc + 3)) L S (sh, f) = some (.inl (pc', L', S', sh', f'))) (kk : am_KK p l e R s m args below meth c D dA sa A ml cells slots Q ad sh pc' L' S' sh' f') : W p l e R s m args below meth c H locs cells slots Q (F0 m pc ls (S.map (am_rv sa ad))) := by
  obtain ⟨hx, hb, hml, hon, hown, hts, hK, hA, hin, hFo, hlk⟩ := C
  cases hq : am_fl oc k with
  | none => unfold am_enc at hst; dsimp only at hst; rw [hq] at hst; cases hst
  | some q =>
    obtain ⟨t, j, ft, bo, fi, ti⟩ := q
    by_cases hfi : fi = 0 ∨ (ini = true ∧ t = 100 + oc)
    · have hst : am_pv S (fun v r => am_pr ((t : Int)).toNat r fun a r => if v.1 = ((ft : Int)).toNat ∧ ((bo : Int) = 1 → v.2 = 0 ∨ v.2 = 1) ∧ (20 ≤ v.1 → 0 ≤ v.2) then am_nx (pc + 3) L r (sh, am_up f a (j : Int) v.2) else none) = some (.inl (pc', L', S', sh', f')) := by
        rw [← hst]; unfold am_enc; dsimp only; rw [hq]; dsimp only; rw [if_pos hfi]; rfl
      rw [Int.toNat_natCast, Int.toNat_natCast] at hst
      obtain ⟨v, r, rfl, h⟩ := am_pv_some hst
      obtain ⟨a, r, rfl, h0, h6⟩ := am_pr_some h
      clear h hst
      by_cases hcv : v.1 = ft ∧ ((bo : Int) = 1 → v.2 = 0 ∨ v.2 = 1) ∧ (20 ≤ v.1 → 0 ≤ v.2)
      · rw [if_pos hcv] at h6
        obtain ⟨tv, v⟩ := v
        obtain ⟨g1, g2, g3⟩ := hcv
        dsimp only at g1 g2 g3
        subst g1
        cases am_nx_some h6
        obtain ⟨cr, c1, c2, c3, c4, c5, c6, c7, c8⟩ := am_flok hon hq
        dsimp only at c1 c2 c3 c4 c5 c6 c7 c8
        obtain ⟨ov, hr⟩ := List.forall_mem_cons.mp hJ.2.1.2
        obtain ⟨oa, hr⟩ := List.forall_mem_cons.mp hr
        obtain ⟨n, e1, e2, e3, e4⟩ := am_at hJ.2.2.2.1 oa (by omega) (by omega) h0
        have en : n = cr.2.2 := by
          rcases e2 with e2 | ⟨-, r2, e5, e6⟩
          · omega
          · rw [c1] at e5; cases e5; exact e6.symm
        subst en
        have he := am_ws_at (dA := dA) (sa := sa) (ad := ad) (f := f) e1
        rw [am_cellO c2] at he
        obtain ⟨hn, hf⟩ := am_narO (sa := sa) (ad := ad) (sh := sh) (v := v) c8 (fun q => g2 (by omega)) g3
        have hpd := (am_clok c1).2.1 j c3
        have hea : ((a.toNat : Nat) : Int) = a := Int.toNat_of_nonneg h0
        have hset : (am_ws dA sa ad sh f).set a.toNat (ad.getD a.toNat 0, .inr (t - 100, ((List.range cr.2.2).map fun k => am_rv sa ad (am_et t k, f (a.toNat : Int) k)).set j (am_rv sa ad (tv, v)))) = am_ws dA sa ad sh (am_up f a j v) := by
          refine am_ws_set e1 (fun i hi k => ?_) ?_
          · unfold am_up; rw [if_neg (fun q => hi (by omega))]
          · have h7 : am_up f a j v = am_up f (a.toNat : Int) j v := by rw [hea]
            rw [h7, am_cellO c2, am_fs_set c3, c6]
        have hWT : am_WT sh (am_up f a j v) := by
          rw [← hea]; exact am_WT_up hJ.2.2.2.1 e1 (by rw [← c6]; exact ov)
        rw [List.map_cons, List.map_cons, am_rvr (t := t) (by omega) (by omega) h0]
        have fin : ∀ (H1 : Heap) (locs1 : List Loc), va_P D am_cl ((am_ws dA sa ad sh f).set a.toNat (ad.getD a.toNat 0, .inr (t - 100, ((List.range cr.2.2).map fun k => am_rv sa ad (am_et t k, f (a.toNat : Int) k)).set j (am_rv sa ad (tv, v))))) H1 → va_D A ((am_ws dA sa ad sh f).set a.toNat (ad.getD a.toNat 0, .inr (t - 100, ((List.range cr.2.2).map fun k => am_rv sa ad (am_et t k, f (a.toNat : Int) k)).set j (am_rv sa ad (tv, v))))) → va_S A s.heap H1 locs1 → W p l e R s m args below meth c H1 locs1 cells slots Q (F0 m (pc + 3) ls (S'.map (am_rv sa ad))) := by
          intro H1 locs1 hP1 hD1 hS1
          rw [hset] at hP1 hD1
          have k0 := kk ad ls H1 locs1 ⟨[], (List.append_nil _).symm⟩ ⟨hJ.1, ⟨hJ.2.1.1, hr⟩, hJ.2.2.1, hWT, hP1, hD1, hS1⟩
          rw [Nat.sub_self, Nat.sub_self, Nat.add_zero, Nat.add_zero] at k0
          exact k0
        by_cases hf0 : fi = 1
        · rcases hfi with hfi | ⟨hi1, hi2⟩
          · omega
          refine va_putF (C := cr.1) (T := cr.2.1) (N := cr.2.2) (ty := am_ty (t - 100) j) hx hb hts (am_clok c1).1 (am_ty (t - 100)) (am_clok c1).2.1 (am_clok c1).2.2 hown hK hJ.2.2.2.2.1 hJ.2.2.2.2.2.1 hJ.2.2.2.2.2.2 a.toNat he c1 j c3 (hts _ c4) (fun x hx => by rw [c5] at hx; exact hx) (by rw [c7, hf0]; rfl) (hin hi1) ?_ hpd hn hf (by simpa using c3) hd fin
          rw [c5]
          have : t - 100 = oc := by omega
          rw [this] at c1
          exact am_own c1 hon
        · refine va_put (C := cr.1) (T := cr.2.1) (N := cr.2.2) (ty := am_ty (t - 100) j) hx hb hts (am_clok c1).1 (am_ty (t - 100)) (am_clok c1).2.1 (am_clok c1).2.2 hown hK hJ.2.2.2.2.1 hJ.2.2.2.2.2.1 hJ.2.2.2.2.2.2 a.toNat he c1 j c3 (hts _ c4) (fun x hx => by rw [c5] at hx; exact hx) (by rw [c7]; simpa using hf0) hpd hn hf (by simpa using c3) hd fin
      · rw [if_neg hcv] at h6; cases h6
    · exfalso
      unfold am_enc at hst; dsimp only at hst; rw [hq] at hst; dsimp only at hst; rw [if_neg hfi] at hst; cases hst
end
