section
variable {p : Program} {l : Launch} {e : Env} {R : Room} {s : State} {m : MethodId} {args : Array Value} {below : List Frame} {meth : Method} {c : Code} {H : Heap} {locs : List Loc} {cells slots : Nat} {Q : State → Prop} {D : va_G} {dA : Nat → ClassId} {sa sv : Nat} {A : Nat → Prop} {cc : ByteArray} {ml oc rt : Nat} {ini : Bool} {own : String} {pc : Nat} {ls : Array Slot} {ad : List Nat} {sh sh' : am_H} {f f' : am_F} {L S L' S' : List am_V} {pc' : Nat}
theorem am_s_sldc (C : am_Cx p s m args meth c D dA sa sv A cc ml 4 ini own) (hd : decode cc pc = .ok (.ldc 139, 2)) (hJ : am_J D dA sa ad A s.heap ml ls L S sh f H locs) (hst : am_nx (pc + 2) L ((30, 0) :: S) (sh, f) = some (.inl (pc', L', S', sh', f'))) (kk : am_KK p l e R s m args below meth c D dA sa A ml cells slots Q ad sh pc' L' S' sh' f') : W p l e R s m args below meth c H locs cells slots Q (F0 m pc ls (S.map (am_rv sa ad))) := by
  obtain ⟨hx, hb, hml, hon, hown, hts, hK, hA, hin, hFo, hlk⟩ := C
  cases am_nx_some hst
  have k0 := kk ad ls H locs ⟨[], (List.append_nil _).symm⟩ (hJ.st (List.forall_mem_cons.mpr ⟨am_ok30, hJ.2.1.2⟩))
  rw [Nat.sub_self, Nat.sub_self, Nat.add_zero, Nat.add_zero] at k0
  have ho : own = "MendedThings$Reader" := (Option.some.inj hon).symm
  subst ho
  exact va_ldcS hx hb hown hFo.1 hd k0
theorem am_s_slen {k ti mi : Nat} (C : am_Cx p s m args meth c D dA sa sv A cc ml oc ini own) (hd : decode cc pc = .ok (.invokevirtual k, 3)) (hJ : am_J D dA sa ad A s.heap ml ls L S sh f H locs) (hst : am_st (am_enc oc ini rt pc (.invokevirtual k) (pc + 3)) L S (sh, f) = some (.inl (pc', L', S', sh', f'))) (hq : am_ll oc k = some (6, mi, ti)) (hR : 1 ≤ R.frames ∧ 60 ≤ R.locals) (kk : am_KK p l e R s m args below meth c D dA sa A ml cells slots Q ad sh pc' L' S' sh' f') : W p l e R s m args below meth c H locs cells slots Q (F0 m pc ls (S.map (am_rv sa ad))) := by
  sorry
theorem am_s_schar {k ti mi : Nat} (C : am_Cx p s m args meth c D dA sa sv A cc ml oc ini own) (hd : decode cc pc = .ok (.invokevirtual k, 3)) (hJ : am_J D dA sa ad A s.heap ml ls L S sh f H locs) (hst : am_st (am_enc oc ini rt pc (.invokevirtual k) (pc + 3)) L S (sh, f) = some (.inl (pc', L', S', sh', f'))) (hq : am_ll oc k = some (7, mi, ti)) (hR : 1 ≤ R.frames ∧ 60 ≤ R.locals) (kk : am_KK p l e R s m args below meth c D dA sa A ml cells slots Q ad sh pc' L' S' sh' f') : W p l e R s m args below meth c H locs cells slots Q (F0 m pc ls (S.map (am_rv sa ad))) := by
  sorry
end
