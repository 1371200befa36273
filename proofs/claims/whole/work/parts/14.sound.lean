/-! calls; the soundness of a run -/
theorem am_callx {oc rt pc len : Nat} {ini : Bool} {ins : Instr} {L S : List am_V} {s : am_S} {m' : Nat} {as : List am_V} {pc1 : Nat} {L1 S1 : List am_V} {s1 : am_S} (hst : am_st (am_enc oc ini rt pc ins (pc + len)) L S s = some (.inr (.inr (m', as, pc1, L1, S1, s1)))) : ∃ kd k ti : Nat, ((ins = .invokestatic k ∧ kd = 0) ∨ (ins = .invokevirtual k ∧ kd = 1) ∨ (ins = .invokespecial k ∧ (kd = 2 ∨ kd = 3))) ∧ am_ll oc k = some (kd, m', ti) ∧ (am_pt m').length ≤ S.length ∧ as = (S.take (am_pt m').length).reverse ∧ as.map Prod.fst = am_pt m' ∧ (kd = 0 ∨ 0 ≤ (as.getD 0 (0, -1)).2) ∧ am_cs (S.drop (am_pt m').length) ≤ 8 ∧ pc1 = pc + len ∧ L1 = L ∧ S1 = S.drop (am_pt m').length ∧ s1 = s := by
  have hop := am_call_op hst
  have hrk := am_enc_op oc ini rt pc ins (pc + len) (Or.inr hop)
  rw [hop] at hrk
  have fin : ∀ (kd mi : Nat), am_st (28, pc + len, [(kd : Int), (mi : Int)]) L S s = some (.inr (.inr (m', as, pc1, L1, S1, s1))) → m' = mi ∧ (am_pt m').length ≤ S.length ∧ as = (S.take (am_pt m').length).reverse ∧ as.map Prod.fst = am_pt m' ∧ (kd = 0 ∨ 0 ≤ (as.getD 0 (0, -1)).2) ∧ am_cs (S.drop (am_pt m').length) ≤ 8 ∧ pc1 = pc + len ∧ L1 = L ∧ S1 = S.drop (am_pt m').length ∧ s1 = s := by
    intro kd mi h
    rw [am_st28] at h
    have e1 : ([(kd : Int), (mi : Int)].getD 1 0).toNat = mi := Int.toNat_natCast mi
    have e0 : [(kd : Int), (mi : Int)].getD 0 0 = (kd : Int) := rfl
    rw [e1, e0] at h
    split at h
    · rename_i hc
      cases h
      obtain ⟨c1, c2, c3, c4⟩ := hc
      exact ⟨rfl, c1, rfl, c2, c3.imp (fun h => by omega) id, c4, rfl, rfl, rfl, rfl⟩
    · cases h
  have hbad : ∀ n, am_st (99, n, []) L S s = some (.inr (.inr (m', as, pc1, L1, S1, s1))) → False := fun n h => by cases h
  cases ins with
  | invokestatic k =>
    unfold am_enc at hst; dsimp only at hst
    cases hk : am_ll oc k with
    | none => rw [hk] at hst; exact (hbad _ hst).elim
    | some q =>
      obtain ⟨kd, mi, ti⟩ := q
      rw [hk] at hst; dsimp only at hst
      by_cases h0 : kd = 0
      · subst h0
        rw [if_pos rfl] at hst
        obtain ⟨rfl, hh⟩ := fin 0 mi hst
        exact ⟨0, k, ti, Or.inl ⟨rfl, rfl⟩, hk, hh⟩
      · rw [if_neg h0] at hst
        by_cases h5 : kd = 5
        · rw [if_pos h5] at hst
          have := am_call_op hst
          cases this
        · rw [if_neg h5] at hst; exact (hbad _ hst).elim
  | invokevirtual k =>
    unfold am_enc at hst; dsimp only at hst
    cases hk : am_ll oc k with
    | none => rw [hk] at hst; exact (hbad _ hst).elim
    | some q =>
      obtain ⟨kd, mi, ti⟩ := q
      rw [hk] at hst; dsimp only at hst
      by_cases h0 : kd = 1
      · subst h0
        rw [if_pos rfl] at hst
        obtain ⟨rfl, hh⟩ := fin 1 mi hst
        exact ⟨1, k, ti, Or.inr (Or.inl ⟨rfl, rfl⟩), hk, hh⟩
      · rw [if_neg h0] at hst
        by_cases h5 : kd = 6
        · rw [if_pos h5] at hst
          have := am_call_op hst
          cases this
        · rw [if_neg h5] at hst
          by_cases h6 : kd = 7
          · rw [if_pos h6] at hst
            have := am_call_op hst
            cases this
          · rw [if_neg h6] at hst; exact (hbad _ hst).elim
  | invokespecial k =>
    unfold am_enc at hst; dsimp only at hst
    cases hk : am_ll oc k with
    | none => rw [hk] at hst; exact (hbad _ hst).elim
    | some q =>
      obtain ⟨kd, mi, ti⟩ := q
      rw [hk] at hst; dsimp only at hst
      by_cases h0 : kd = 2
      · subst h0
        rw [if_pos rfl] at hst
        obtain ⟨rfl, hh⟩ := fin 2 mi hst
        exact ⟨2, k, ti, Or.inr (Or.inr ⟨rfl, Or.inl rfl⟩), hk, hh⟩
      · rw [if_neg h0] at hst
        by_cases h5 : kd = 3
        · subst h5
          rw [if_pos rfl] at hst
          obtain ⟨rfl, hh⟩ := fin 3 mi hst
          exact ⟨3, k, ti, Or.inr (Or.inr ⟨rfl, Or.inr rfl⟩), hk, hh⟩
        · rw [if_neg h5] at hst
          by_cases h6 : kd = 4
          · rw [if_pos h6] at hst
            have := am_call_op hst
            cases this
          · rw [if_neg h6] at hst; exact (hbad _ hst).elim
  | _ => cases hrk
/-- the locals with which a callee begins -/
def am_fl1 (as : List am_V) : List am_V := as.flatMap fun v => if v.1 = 1 then [v, (2, 0)] else [v]
theorem am_lv_en (sa : Nat) (ad : List Nat) : ∀ (as : List am_V) (k n i : Nat) (v : am_V), (am_fl1 as ++ List.replicate n (2, 0))[i]? = some v → ¬ v.1 = 2 → (k + i, am_rv sa ad v) ∈ lv_args k (as.map (am_rv sa ad))
  | [], k, n, i, v, h, h2 => by
    have h : (List.replicate n ((2, 0) : am_V))[i]? = some v := h
    have := List.eq_of_mem_replicate (List.mem_of_getElem? h)
    subst this
    exact absurd rfl h2
  | w :: r, k, n, i, v, h, h2 => by
    show (k + i, am_rv sa ad v) ∈ (k, am_rv sa ad w) :: lv_args (if (am_rv sa ad w).category = 2 then k + 2 else k + 1) (r.map (am_rv sa ad))
    have hcat : (am_rv sa ad w).category = if w.1 = 1 then 2 else 1 := am_cat2
    by_cases h1 : w.1 = 1
    · rw [if_pos h1] at hcat
      rw [if_pos hcat]
      have e : am_fl1 (w :: r) = w :: (2, 0) :: am_fl1 r := by simp [am_fl1, h1]
      rw [e] at h
      match i, h with
      | 0, h => cases h; exact List.mem_cons_self
      | 1, h => cases h; exact absurd rfl h2
      | i + 2, h =>
        have := am_lv_en sa ad r (k + 2) n i v h h2
        rw [show k + (i + 2) = k + 2 + i by omega]
        exact List.mem_cons_of_mem _ this
    · rw [if_neg h1] at hcat
      rw [if_neg (by omega)]
      have e : am_fl1 (w :: r) = w :: am_fl1 r := by simp [am_fl1, h1]
      rw [e] at h
      match i, h with
      | 0, h => cases h; exact List.mem_cons_self
      | i + 1, h =>
        have := am_lv_en sa ad r (k + 1) n i v h h2
        rw [show k + (i + 1) = k + 1 + i by omega]
        exact List.mem_cons_of_mem _ this
theorem am_sl_len (sa : Nat) (ad : List Nat) : ∀ as : List am_V, (lg_sl (as.map (am_rv sa ad))).length = (am_fl1 as).length ∧ (am_fl1 as).length = (as.map fun v => if v.1 = 1 then 2 else 1).sum
  | [] => ⟨rfl, rfl⟩
  | w :: r => by
    obtain ⟨i1, i2⟩ := am_sl_len sa ad r
    have hcat : (am_rv sa ad w).category = if w.1 = 1 then 2 else 1 := am_cat2
    by_cases h1 : w.1 = 1
    · have e : am_fl1 (w :: r) = w :: (2, 0) :: am_fl1 r := by simp [am_fl1, h1]
      have e2 : lg_sl ((w :: r).map (am_rv sa ad)) = Slot.val (am_rv sa ad w) :: Slot.second :: lg_sl (r.map (am_rv sa ad)) := by simp [lg_sl, hcat, h1]
      rw [e, e2]
      simp [i1, i2, h1]
      omega
    · have e : am_fl1 (w :: r) = w :: am_fl1 r := by simp [am_fl1, h1]
      have e2 : lg_sl ((w :: r).map (am_rv sa ad)) = Slot.val (am_rv sa ad w) :: lg_sl (r.map (am_rv sa ad)) := by simp [lg_sl, hcat, h1]
      rw [e, e2]
      simp [i1, i2, h1]
      omega
theorem am_sum_tags : ∀ as : List am_V, (as.map fun v => if v.1 = 1 then 2 else 1).sum = ((as.map Prod.fst).map fun t => if t = 1 then 2 else 1).sum
  | [] => rfl
  | w :: r => by simp [am_sum_tags r]
theorem am_mono : ∀ (n d mi : Nat) (c : am_K) (v : am_V) (s' : am_S), am_run n d mi c = some (v, s') → ∃ z, s'.1 = c.2.2.2.1 ++ z
  | 0, d, mi, c, v, s', h => by cases h
  | n + 1, d, mi, c, v, s', h => by
    unfold am_run at h
    split at h
    · cases h
    · rename_i c' hc
      obtain ⟨z, hz⟩ := am_mono n d mi c' v s' h
      unfold am_stp at hc
      split at hc
      · rename_i i hi
        obtain ⟨op, nn, xs⟩ := i
        by_cases h9 : op = 29
        · subst h9
          obtain ⟨q, hq⟩ := am_29 hc
          cases hq
        · by_cases h8 : op = 28
          · subst h8
            obtain ⟨q, hq⟩ := am_28 hc
            cases hq
          · rcases am_st_isI op nn xs c.2.1 c.2.2.1 c.2.2.2 h8 h9 with h1 | ⟨q, h1, z2, hz2⟩
            · rw [h1] at hc; cases hc
            · rw [h1] at hc
              cases hc
              exact ⟨z2 ++ z, by rw [hz, hz2, List.append_assoc]⟩
      · cases hc
    · rename_i r hc
      cases h
      unfold am_stp at hc
      split at hc
      · rename_i i hi
        have hop := am_ret_op hc
        obtain ⟨op, nn, xs⟩ := i
        have hop : op = 29 := hop
        subst hop
        rw [am_st29] at hc
        refine ⟨[], ?_⟩
        rw [List.append_nil]
        split at hc
        · cases hc; rfl
        · split at hc
          · cases hc; rfl
          · cases hc
        · cases hc; rfl
        · cases hc; rfl
        · cases hc
      · cases hc
    · rename_i m' as pc ls st s hc
      have hs : s = c.2.2.2 := by
        unfold am_stp at hc
        split at hc
        · rename_i i hi
          have hop := am_call_op hc
          obtain ⟨op, nn, xs⟩ := i
          have hop : op = 28 := hop
          subst hop
          rw [am_st28] at hc
          split at hc
          · cases hc; rfl
          · cases hc
        · cases hc
      split at h
      · cases h
      · rename_i d'
        split at h
        · cases h
        · rename_i v1 s1 hr
          obtain ⟨z1, hz1⟩ := am_mono n d' m' _ v1 s1 hr
          obtain ⟨z2, hz2⟩ := am_mono n (d' + 1) mi _ v s' h
          have hz1 : s1.1 = s.1 ++ z1 := hz1
          have hz2 : s'.1 = s1.1 ++ z2 := hz2
          exact ⟨z1 ++ z2, by rw [hz2, hz1, hs, List.append_assoc]⟩
theorem am_tot_app (a b : am_H) : am_tot (a ++ b) = am_tot a + am_tot b := by simp [am_tot]
def am_Snd (n : Nat) : Prop := ∀ (d mi : Nat) (q : am_Q) (pc : Nat) (L S : List am_V) (sh : am_H) (f : am_F) (v : am_V) (sh' : am_H) (f' : am_F), am_M[mi]? = some q → am_run n d mi (pc, L, S, sh, f) = some (v, sh', f') → ∀ (p : Program) (l : Launch) (e : Env) (R : Room) (s : State) (m : MethodId) (args : Array Value) (below : List Frame) (meth : Method) (c : Code) (D : va_G) (dA : Nat → ClassId) (sa sv : Nat) (A : Nat → Prop) (ls : Array Slot) (ad0 ad : List Nat) (H : Heap) (locs : List Loc) (cells slots : Nat), am_Cx p s m args meth c D dA sa sv A q.2.1 q.2.2.1 q.2.2.2.2.1 (q.2.2.2.2.2.2.2.1 == 2) q.1.cls → meth.sig.returnType = q.2.2.2.1 → (∃ z, ad = ad0 ++ z) → am_J D dA sa ad A s.heap q.2.2.1 ls L S sh f H locs → d + 6 ≤ R.frames → 60 * (d + 4) ≤ R.locals → cells + (sh'.length - sh.length) ≤ R.cells → slots + (am_tot sh' - am_tot sh) ≤ R.slots → W p l e R s m args below meth c H locs cells slots (MQ below (am_po D dA sa A ad0 v sh' f') args s (cells + (sh'.length - sh.length)) (slots + (am_tot sh' - am_tot sh)) A) (F0 m pc ls (S.map (am_rv sa ad)))
def am_pr0 (D : va_G) (dA : Nat → ClassId) (sa sv : Nat) (ad : List Nat) (sh : am_H) (f : am_F) (sz : Nat) (U : State) : Prop := U.heap.size = sz ∧ va_P D am_cl (am_ws dA sa ad sh f) U.heap ∧ va_K D am_cl (am_tys dA) U ∧ va_D (fun _ => True) (am_ws dA sa ad sh f) ∧ am_Fo sa sv (va_A (am_ws dA sa ad sh f) sz) U U.heap
theorem am_pr0_blind {D : va_G} {dA : Nat → ClassId} {sa sv : Nat} {ad : List Nat} {sh : am_H} {f : am_F} {sz : Nat} {av : List Value} : FrameBlind (va_Pc av (am_pr0 D dA sa sv ad sh f sz)) := by
  intro a U g mk q
  obtain ⟨q0, q1, qP, qK, qD, qF⟩ := q
  exact ⟨q0, q1, qP, va_K.moved (u := U) (U := U.calling g mk a) (Vm.Alike.refl U.vm) qK, qD, am_Fo.same (U2 := U.calling g mk a) qF rfl⟩
theorem am_met {n : Nat} (hS : am_Snd n) {d mi : Nat} {q : am_Q} {as : List am_V} {sh : am_H} {f : am_F} {v1 : am_V} {sh1 : am_H} {f1 : am_F} (hq : am_M[mi]? = some q) (hrun : am_run n d mi (0, am_en (am_ml mi) as, [], sh, f) = some (v1, sh1, f1)) (htags : as.map Prod.fst = am_pt mi) (hoka : ∀ v ∈ as, am_okv sh v) (l : Launch) (D : va_G) (dA : Nat → ClassId) (sa sv : Nat) (ad : List Nat) (sz : Nat) (hl : ad.length = sh.length) (hWT : am_WT sh f) : Met l q.1 (Cond.code q.1 q.2.1 q.2.2.1 q.2.2.2.1 :: am_tbl) ({ frames := d + 6, cells := sh1.length - sh.length, slots := am_tot sh1 - am_tot sh, locals := 60 * (d + 4) }) (va_Pc (as.map (am_rv sa ad)) (am_pr0 D dA sa sv ad sh f sz)) (am_po D dA sa (va_A (am_ws dA sa ad sh f) sz) ad v1 sh1 f1) (sh1.length - sh.length) (am_tot sh1 - am_tot sh) (va_A (am_ws dA sa ad sh f) sz) := by
  have hmc := am_mok hq
  unfold am_mc at hmc
  simp only [Bool.and_eq_true, decide_eq_true_eq] at hmc
  obtain ⟨⟨⟨⟨⟨⟨⟨⟨h1, h2⟩, h3⟩, h4⟩, h5⟩, h6⟩, h7⟩, h8⟩, h9⟩ := hmc
  have eml : am_ml mi = q.2.2.1 := by unfold am_ml; rw [hq]
  have ept : am_pt mi = q.2.2.2.2.2.1 := by unfold am_pt; rw [hq]
  rw [eml] at hrun
  rw [ept] at htags
  refine va_MetF (cc := q.2.1) (maxL := q.2.2.1) (ret := q.2.2.2.1) h5 rfl ?_
  intro p e s m args below meth c s₁ B hml hv
  obtain ⟨rfl, hsz, hP, hK, hD0, hFo⟩ := hv
  have hts := atoms_spec (ws := Cond.code q.1 q.2.1 q.2.2.1 q.2.2.2.1 :: am_tbl) B.pre
  subst hsz
  have hD := hD0.self (sz := s.heap.size)
  obtain ⟨sl1, sl2⟩ := am_sl_len sa ad as
  have hfit : (lg_sl (as.map (am_rv sa ad))).length ≤ q.2.2.1 := by
    rw [sl1, sl2, am_sum_tags, htags]; exact h9
  have hle := lv_entry (as.map (am_rv sa ad)) (n := q.2.2.1) hfit
  rw [lg_entry_eq]
  generalize (lg_sl (as.map (am_rv sa ad)) ++ List.replicate (q.2.2.1 - (lg_sl (as.map (am_rv sa ad))).length) Slot.unset).toArray = ls at hle ⊢
  have een : am_en q.2.2.1 as = am_fl1 as ++ List.replicate (q.2.2.1 - (am_fl1 as).length) (2, 0) := rfl
  have hlv : lv_has ls q.2.2.1 (am_lv sa ad (am_en q.2.2.1 as)) := by
    refine am_lh_sub hle (fun x hx => ?_)
    obtain ⟨w, g1, g2, g3⟩ := am_lv_of hx
    obtain ⟨i, y⟩ := x
    dsimp only at g1 g3
    subst g3
    rw [een] at g1
    have := am_lv_en sa ad as 0 _ i w g1 g2
    rwa [Nat.zero_add] at this
  have hlen : (am_en q.2.2.1 as).length = q.2.2.1 := by
    rw [een]; simp; omega
  have hokL : ∀ w ∈ am_en q.2.2.1 as, am_okv sh w := by
    intro w hw
    rw [een] at hw
    rcases List.mem_append.mp hw with hw | hw
    · obtain ⟨x, hx, hxw⟩ := List.mem_flatMap.mp hw
      split at hxw
      · rcases List.mem_cons.mp hxw with rfl | hxw
        · exact hoka _ hx
        · rw [List.mem_singleton.mp hxw]; exact am_ok2
      · rw [List.mem_singleton.mp hxw]; exact hoka _ hx
    · rw [List.eq_of_mem_replicate hw]; exact am_ok2
  have hw0 := hS d mi q 0 (am_en q.2.2.1 as) [] sh f v1 sh1 f1 hq hrun p l e (headSpec (Cond.code q.1 q.2.1 q.2.2.1 q.2.2.2.1 :: am_tbl) { frames := d + 6, cells := sh1.length - sh.length, slots := am_tot sh1 - am_tot sh, locals := 60 * (d + 4) }).room s m (as.map (am_rv sa ad)).toArray below meth c D dA sa sv (va_A (am_ws dA sa ad sh f) s.heap.size) ls ad ad s.heap [] 0 0
    ⟨B.exec, B.bytes, hml, h1, findClass_of_methodNamed B.named, fun w hw => hts w (List.mem_cons_of_mem _ hw), hK, fun x hx => Or.inr hx, fun hin => by
      rw [(name_of_methodNamed B.named B.method).1]
      have hk2 : q.2.2.2.2.2.2.2.1 = 2 := by simpa using hin
      rw [hk2] at h4
      simp only [Bool.and_eq_true, decide_eq_true_eq] at h4
      exact h4.1.1.1.1.2, hFo, B.notSynchronized⟩
    B.returns ⟨[], (List.append_nil _).symm⟩ ⟨⟨hlv, hlen⟩, ⟨hokL, fun w hw => by cases hw⟩, hl, hWT, hP, hD, va_S.rf⟩ (Nat.le_refl _) (Nat.le_refl _) (Nat.le_of_eq (Nat.zero_add _)) (Nat.le_of_eq (Nat.zero_add _))
  rw [Nat.zero_add, Nat.zero_add] at hw0
  exact hw0
