/-! a method's end, a call, a whole run -/
def am_po (D : va_G) (dA : Nat → ClassId) (sa : Nat) (A : Nat → Prop) (ad : List Nat) (v : am_V) (sh' : am_H) (f' : am_F) : Array Value → State → Outcome → State → Prop := fun _ st o t =>
  (∃ ad' : List Nat, (∃ z, ad' = ad ++ z) ∧ o = .returned (if v.1 = 3 then none else some (am_rv sa ad' v)) ∧ ad'.length = sh'.length ∧ am_WT sh' f' ∧ am_okv sh' v ∧ va_P D am_cl (am_ws dA sa ad' sh' f') t.heap ∧ va_D A (am_ws dA sa ad' sh' f')) ∧ va_F A st t
theorem am_ret_op {i : am_I} {L S : List am_V} {s : am_S} {r : am_V × am_S} (h : am_st i L S s = some (.inr (.inl r))) : i.1 = 29 := by
  obtain ⟨op, n, xs⟩ := i
  by_cases h9 : op = 29
  · exact h9
  · by_cases h8 : op = 28
    · subst h8
      obtain ⟨q, hq⟩ := am_28 h
      cases hq
    · rcases am_st_isI op n xs L S s h8 h9 with h1 | ⟨q, h1, -⟩
      · rw [h1] at h; cases h
      · rw [h1] at h; cases h
theorem am_call_op {i : am_I} {L S : List am_V} {s : am_S} {r : Nat × List am_V × am_K} (h : am_st i L S s = some (.inr (.inr r))) : i.1 = 28 := by
  obtain ⟨op, n, xs⟩ := i
  by_cases h9 : op = 29
  · subst h9
    obtain ⟨q, hq⟩ := am_29 h
    cases hq
  · by_cases h8 : op = 28
    · exact h8
    · rcases am_st_isI op n xs L S s h8 h9 with h1 | ⟨q, h1, -⟩
      · rw [h1] at h; cases h
      · rw [h1] at h; cases h
def am_rk (i : Instr) : Nat := match i with
  | .ireturn | .lreturn | .return_ => 29
  | .invokestatic _ | .invokevirtual _ | .invokespecial _ => 28
  | _ => 0
theorem am_enc_op (oc : Nat) (ini : Bool) (rt pc : Nat) (i : Instr) (n : Nat) : (am_enc oc ini rt pc i n).1 = 29 ∨ (am_enc oc ini rt pc i n).1 = 28 → am_rk i = (am_enc oc ini rt pc i n).1 := by
  intro h
  cases i
  all_goals (unfold am_enc at h ⊢; dsimp only at h ⊢)
  all_goals first
    | (rcases h with h | h <;> cases h; done)
    | skip
  all_goals (repeat' (split at h))
  all_goals first
    | (rcases h with h | h <;> cases h; done)
    | (simp_all [am_rk]; done)
    | skip
theorem am_r0 {n : Nat} {L S : List am_V} {s : am_S} {r : am_V × am_S} (h : am_st (29, n, [0]) L S s = some (.inr (.inl r))) : ∃ x, S = [(0, x)] ∧ r = ((0, x), s) := by
  rcases S with _ | ⟨⟨t, x⟩, _ | ⟨b, r2⟩⟩
  · cases h
  · rcases t with _ | t
    · cases h; exact ⟨x, rfl, rfl⟩
    · cases h
  · rcases t with _ | t <;> cases h
theorem am_r4 {n : Nat} {L S : List am_V} {s : am_S} {r : am_V × am_S} (h : am_st (29, n, [4]) L S s = some (.inr (.inl r))) : ∃ x, S = [(0, x)] ∧ r = ((0, x), s) ∧ (x = 0 ∨ x = 1) := by
  rcases S with _ | ⟨⟨t, x⟩, _ | ⟨b, r2⟩⟩
  · cases h
  · rcases t with _ | t
    · have h : (if x = 0 ∨ x = 1 then some (Sum.inr (Sum.inl ((0, x), s))) else (none : Option am_O)) = some (.inr (.inl r)) := h
      by_cases hx : x = 0 ∨ x = 1
      · rw [if_pos hx] at h
        cases h; exact ⟨x, rfl, rfl, hx⟩
      · rw [if_neg hx] at h; cases h
    · cases h
  · rcases t with _ | t <;> cases h
theorem am_r1 {n : Nat} {L S : List am_V} {s : am_S} {r : am_V × am_S} (h : am_st (29, n, [1]) L S s = some (.inr (.inl r))) : ∃ x, S = [(1, x)] ∧ r = ((1, x), s) := by
  rcases S with _ | ⟨⟨t, x⟩, _ | ⟨b, r2⟩⟩
  · cases h
  · rcases t with _ | _ | t
    · cases h
    · cases h; exact ⟨x, rfl, rfl⟩
    · cases h
  · rcases t with _ | _ | t <;> cases h
theorem am_r3 {n : Nat} {L S : List am_V} {s : am_S} {r : am_V × am_S} (h : am_st (29, n, [3]) L S s = some (.inr (.inl r))) : S = [] ∧ r = ((3, 0), s) := by
  rcases S with _ | ⟨⟨t, x⟩, r2⟩
  · cases h; exact ⟨rfl, rfl⟩
  · cases h
section
variable {p : Program} {l : Launch} {e : Env} {R : Room} {s : State} {m : MethodId} {args : Array Value} {below : List Frame} {meth : Method} {c : Code} {H : Heap} {locs : List Loc} {cells slots : Nat} {Q : State → Prop} {D : va_G} {dA : Nat → ClassId} {sa sv : Nat} {A : Nat → Prop} {cc : ByteArray} {ml oc rt : Nat} {ini : Bool} {own : String} {pc : Nat} {ls : Array Slot} {ad ad0 : List Nat} {sh sh' : am_H} {f f' : am_F} {L S L' S' : List am_V} {pc' : Nat}
theorem am_retn {ins : Instr} {len : Nat} {v : am_V} {ret : Option FieldType} (C : am_Cx p s m args meth c D dA sa sv A cc ml oc ini own) (hd : decode cc pc = .ok (ins, len)) (hlen : am_ilen ins = 0 ∨ am_ilen ins = len) (hr : meth.sig.returnType = ret) (hrt : am_rtc ret rt = true) (hz : ∃ z, ad = ad0 ++ z) (hJ : am_J D dA sa ad A s.heap ml ls L S sh f H locs) (hst : am_st (am_enc oc ini rt pc ins (pc + len)) L S (sh, f) = some (.inr (.inl (v, sh', f')))) : W p l e R s m args below meth c H locs cells slots (MQ below (am_po D dA sa A ad0 v sh' f') args s (cells + (sh'.length - sh.length)) (slots + (am_tot sh' - am_tot sh)) A) (F0 m pc ls (S.map (am_rv sa ad))) := by
  obtain ⟨hx, hb, hml, hon, hown, hts, hK, hA, hin, hFo, hlk⟩ := C
  have hop := am_ret_op hst
  have hrk := am_enc_op oc ini rt pc ins (pc + len) (Or.inl hop)
  rw [hop] at hrk
  have hbad : ∀ n, am_st (99, n, []) L S (sh, f) = some (.inr (.inl (v, sh', f'))) → False := fun n h => by cases h
  have hall := hJ.2.2.2.2.2.2.2.2
  have key : ∀ (w : am_V), S = (if w.1 = 3 then [] else [w]) → (v, sh', f') = (w, sh, f) → am_okv sh w → (∀ t : State, t.heap = H → s.WarmedH t.vm → am_po D dA sa A ad0 v sh' f' args s (.returned (if w.1 = 3 then none else some (am_rv sa ad w))) t) := by
    intro w _ hq hw t ht hW
    cases hq
    exact ⟨⟨ad, hz, rfl, hJ.2.2.1, hJ.2.2.2.1, hw, by rw [ht]; exact hJ.2.2.2.2.1, hJ.2.2.2.2.2.1⟩, hJ.2.2.2.2.2.2.F ht⟩
  cases ins with
  | ireturn =>
    obtain rfl : len = 1 := am_ln hlen rfl (by decide)
    unfold am_enc at hst; dsimp only at hst
    by_cases h : rt = 0 ∨ rt = 4
    · rw [if_pos h] at hst
      rcases h with rfl | rfl
      · obtain ⟨x, rfl, hq⟩ := am_r0 hst
        have hret : ret = some .int := by
          unfold am_rtc at hrt
          split at hrt <;> first | rfl | (cases hrt; done)
        subst hret
        have k0 := key (0, x) rfl hq (hJ.2.1.2 _ List.mem_cons_self)
        cases hq
        rw [Nat.sub_self, Nat.sub_self, Nat.add_zero, Nat.add_zero]
        exact W.iret (v := Int32.ofInt x) hx hb hr k0 hall hd (hlocks := hlk)
      · obtain ⟨x, rfl, hq, hx01⟩ := am_r4 hst
        have hret : ret = some .boolean := by
          unfold am_rtc at hrt
          split at hrt <;> first | rfl | (cases hrt; done)
        subst hret
        have k0 := key (0, x) rfl hq (hJ.2.1.2 _ List.mem_cons_self)
        cases hq
        rw [Nat.sub_self, Nat.sub_self, Nat.add_zero, Nat.add_zero]
        refine W.zret (v := Int32.ofInt x) (ty := .boolean) hx hb hr ?_ k0 hall hd (hlocks := hlk)
        rcases hx01 with rfl | rfl
        · show Value.int ((0 : Int32) &&& 1) = .int 0; decide
        · show Value.int ((1 : Int32) &&& 1) = .int 1; decide
    · rw [if_neg h] at hst; exact (hbad _ hst).elim
  | lreturn =>
    obtain rfl : len = 1 := am_ln hlen rfl (by decide)
    unfold am_enc at hst; dsimp only at hst
    by_cases h : rt = 1
    · rw [if_pos h] at hst
      subst h
      obtain ⟨x, rfl, hq⟩ := am_r1 hst
      have hret : ret = some .long := by
        unfold am_rtc at hrt
        split at hrt <;> first | rfl | (cases hrt; done)
      subst hret
      have k0 := key (1, x) rfl hq (hJ.2.1.2 _ List.mem_cons_self)
      cases hq
      rw [Nat.sub_self, Nat.sub_self, Nat.add_zero, Nat.add_zero]
      exact W.lret (v := Int64.ofInt x) hx hb hr k0 hall hd (hlocks := hlk)
    · rw [if_neg h] at hst; exact (hbad _ hst).elim
  | return_ =>
    obtain rfl : len = 1 := am_ln hlen rfl (by decide)
    unfold am_enc at hst; dsimp only at hst
    by_cases h : rt = 3
    · rw [if_pos h] at hst
      subst h
      obtain ⟨rfl, hq⟩ := am_r3 hst
      have hret : ret = none := by
        unfold am_rtc at hrt
        split at hrt <;> first | rfl | (cases hrt; done)
      subst hret
      have k0 := key (3, 0) rfl hq ⟨fun h => (by cases h), fun h => (by cases h), fun h => absurd h (by show ¬ 20 ≤ 3; decide)⟩
      cases hq
      rw [Nat.sub_self, Nat.sub_self, Nat.add_zero, Nat.add_zero]
      exact W.vret hx hb hr k0 hall hd (hlocks := hlk)
    · rw [if_neg h] at hst; exact (hbad _ hst).elim
  | _ => cases hrk
end
