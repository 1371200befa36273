def as_y_len : MethodName := ⟨"java/lang/String", "length", "()I"⟩
theorem as_c_len : Cond.code as_y_len prog_15_method_54_code 1 (some .int) ∈ am_tbl := am_in (am_tb2 _ (List.mem_of_getElem? (i := 234) rfl)) rfl
theorem as_d_len_0 : decode prog_15_method_54_code 0 = .ok (.aload_n 0, 1) := by decide +kernel
theorem as_d_len_1 : decode prog_15_method_54_code 1 = .ok (.getfield 9, 3) := by decide +kernel
theorem as_d_len_4 : decode prog_15_method_54_code 4 = .ok (.arraylength, 1) := by decide +kernel
theorem as_d_len_5 : decode prog_15_method_54_code 5 = .ok (.aload_n 0, 1) := by decide +kernel
theorem as_d_len_6 : decode prog_15_method_54_code 6 = .ok (.invokevirtual 335, 3) := by decide +kernel
theorem as_d_len_9 : decode prog_15_method_54_code 9 = .ok (.ishr, 1) := by decide +kernel
theorem as_d_len_10 : decode prog_15_method_54_code 10 = .ok (.ireturn, 1) := by decide +kernel
def as_y_cod : MethodName := ⟨"java/lang/String", "coder", "()B"⟩
theorem as_c_cod : Cond.code as_y_cod prog_15_method_152_code 1 (some .byte) ∈ am_tbl := am_in (am_tb2 _ (List.mem_of_getElem? (i := 238) rfl)) rfl
theorem as_d_cod_0 : decode prog_15_method_152_code 0 = .ok (.getstatic 38, 3) := by decide +kernel
theorem as_d_cod_3 : decode prog_15_method_152_code 3 = .ok (.ifCond .eq 10, 3) := by decide +kernel
theorem as_d_cod_6 : decode prog_15_method_152_code 6 = .ok (.aload_n 0, 1) := by decide +kernel
theorem as_d_cod_7 : decode prog_15_method_152_code 7 = .ok (.getfield 15, 3) := by decide +kernel
theorem as_d_cod_10 : decode prog_15_method_152_code 10 = .ok (.goto 4, 3) := by decide +kernel
theorem as_d_cod_13 : decode prog_15_method_152_code 13 = .ok (.iconst 1, 1) := by decide +kernel
theorem as_d_cod_14 : decode prog_15_method_152_code 14 = .ok (.ireturn, 1) := by decide +kernel
def as_y_chr : MethodName := ⟨"java/lang/String", "charAt", "(I)C"⟩
theorem as_c_chr : Cond.code as_y_chr prog_15_method_56_code 2 (some .char) ∈ am_tbl := am_in (am_tb3 _ (List.mem_of_getElem? (i := 4) rfl)) rfl
theorem as_d_chr_0 : decode prog_15_method_56_code 0 = .ok (.aload_n 0, 1) := by decide +kernel
theorem as_d_chr_1 : decode prog_15_method_56_code 1 = .ok (.invokevirtual 492, 3) := by decide +kernel
theorem as_d_chr_4 : decode prog_15_method_56_code 4 = .ok (.ifCond .eq 12, 3) := by decide +kernel
theorem as_d_chr_7 : decode prog_15_method_56_code 7 = .ok (.aload_n 0, 1) := by decide +kernel
theorem as_d_chr_8 : decode prog_15_method_56_code 8 = .ok (.getfield 9, 3) := by decide +kernel
theorem as_d_chr_11 : decode prog_15_method_56_code 11 = .ok (.iload_n 1, 1) := by decide +kernel
theorem as_d_chr_12 : decode prog_15_method_56_code 12 = .ok (.invokestatic 495, 3) := by decide +kernel
theorem as_d_chr_15 : decode prog_15_method_56_code 15 = .ok (.ireturn, 1) := by decide +kernel
theorem as_d_chr_16 : decode prog_15_method_56_code 16 = .ok (.aload_n 0, 1) := by decide +kernel
theorem as_d_chr_17 : decode prog_15_method_56_code 17 = .ok (.getfield 9, 3) := by decide +kernel
theorem as_d_chr_20 : decode prog_15_method_56_code 20 = .ok (.iload_n 1, 1) := by decide +kernel
theorem as_d_chr_21 : decode prog_15_method_56_code 21 = .ok (.invokestatic 498, 3) := by decide +kernel
theorem as_d_chr_24 : decode prog_15_method_56_code 24 = .ok (.ireturn, 1) := by decide +kernel
def as_y_lat : MethodName := ⟨"java/lang/String", "isLatin1", "()Z"⟩
theorem as_c_lat : Cond.code as_y_lat prog_15_method_154_code 1 (some .boolean) ∈ am_tbl := am_in (am_tb3 _ (List.mem_of_getElem? (i := 8) rfl)) rfl
theorem as_d_lat_0 : decode prog_15_method_154_code 0 = .ok (.getstatic 38, 3) := by decide +kernel
theorem as_d_lat_3 : decode prog_15_method_154_code 3 = .ok (.ifCond .eq 14, 3) := by decide +kernel
theorem as_d_lat_6 : decode prog_15_method_154_code 6 = .ok (.aload_n 0, 1) := by decide +kernel
theorem as_d_lat_7 : decode prog_15_method_154_code 7 = .ok (.getfield 15, 3) := by decide +kernel
theorem as_d_lat_10 : decode prog_15_method_154_code 10 = .ok (.ifCond .ne 7, 3) := by decide +kernel
theorem as_d_lat_13 : decode prog_15_method_154_code 13 = .ok (.iconst 1, 1) := by decide +kernel
theorem as_d_lat_14 : decode prog_15_method_154_code 14 = .ok (.goto 4, 3) := by decide +kernel
theorem as_d_lat_17 : decode prog_15_method_154_code 17 = .ok (.iconst 0, 1) := by decide +kernel
theorem as_d_lat_18 : decode prog_15_method_154_code 18 = .ok (.ireturn, 1) := by decide +kernel
def as_y_lch : MethodName := ⟨"java/lang/StringLatin1", "charAt", "([BI)C"⟩
theorem as_c_lch : Cond.code as_y_lch prog_16_method_2_code 2 (some .char) ∈ am_tbl := am_in (am_tb3 _ (List.mem_of_getElem? (i := 11) rfl)) rfl
theorem as_d_lch_0 : decode prog_16_method_2_code 0 = .ok (.iload_n 1, 1) := by decide +kernel
theorem as_d_lch_1 : decode prog_16_method_2_code 1 = .ok (.aload_n 0, 1) := by decide +kernel
theorem as_d_lch_2 : decode prog_16_method_2_code 2 = .ok (.arraylength, 1) := by decide +kernel
theorem as_d_lch_3 : decode prog_16_method_2_code 3 = .ok (.invokestatic 9, 3) := by decide +kernel
theorem as_d_lch_6 : decode prog_16_method_2_code 6 = .ok (.aload_n 0, 1) := by decide +kernel
theorem as_d_lch_7 : decode prog_16_method_2_code 7 = .ok (.iload_n 1, 1) := by decide +kernel
theorem as_d_lch_8 : decode prog_16_method_2_code 8 = .ok (.baload, 1) := by decide +kernel
theorem as_d_lch_9 : decode prog_16_method_2_code 9 = .ok (.sipush 255, 3) := by decide +kernel
theorem as_d_lch_12 : decode prog_16_method_2_code 12 = .ok (.iand, 1) := by decide +kernel
theorem as_d_lch_13 : decode prog_16_method_2_code 13 = .ok (.i2c, 1) := by decide +kernel
theorem as_d_lch_14 : decode prog_16_method_2_code 14 = .ok (.ireturn, 1) := by decide +kernel
def as_y_chk : MethodName := ⟨"java/lang/String", "checkIndex", "(II)V"⟩
theorem as_c_chk : Cond.code as_y_chk prog_15_method_155_code 2 (none) ∈ am_tbl := am_in (am_tb3 _ (List.mem_of_getElem? (i := 14) rfl)) rfl
theorem as_d_chk_0 : decode prog_15_method_155_code 0 = .ok (.iload_n 0, 1) := by decide +kernel
theorem as_d_chk_1 : decode prog_15_method_155_code 1 = .ok (.iload_n 1, 1) := by decide +kernel
theorem as_d_chk_2 : decode prog_15_method_155_code 2 = .ok (.getstatic 1053, 3) := by decide +kernel
theorem as_d_chk_5 : decode prog_15_method_155_code 5 = .ok (.invokestatic 1059, 3) := by decide +kernel
theorem as_d_chk_8 : decode prog_15_method_155_code 8 = .ok (.pop, 1) := by decide +kernel
theorem as_d_chk_9 : decode prog_15_method_155_code 9 = .ok (.return_, 1) := by decide +kernel
def as_y_pck : MethodName := ⟨"jdk/internal/util/Preconditions", "checkIndex", "(IILjava/util/function/BiFunction;)I"⟩
theorem as_c_pck : Cond.code as_y_pck prog_20_method_11_code 3 (some .int) ∈ am_tbl := am_in (am_tb3 _ (List.mem_of_getElem? (i := 19) rfl)) rfl
theorem as_d_pck_0 : decode prog_20_method_11_code 0 = .ok (.iload_n 0, 1) := by decide +kernel
theorem as_d_pck_1 : decode prog_20_method_11_code 1 = .ok (.ifCond .lt 8, 3) := by decide +kernel
theorem as_d_pck_4 : decode prog_20_method_11_code 4 = .ok (.iload_n 0, 1) := by decide +kernel
theorem as_d_pck_5 : decode prog_20_method_11_code 5 = .ok (.iload_n 1, 1) := by decide +kernel
theorem as_d_pck_6 : decode prog_20_method_11_code 6 = .ok (.if_icmp .lt 10, 3) := by decide +kernel
theorem as_d_pck_9 : decode prog_20_method_11_code 9 = .ok (.aload_n 2, 1) := by decide +kernel
theorem as_d_pck_10 : decode prog_20_method_11_code 10 = .ok (.iload_n 0, 1) := by decide +kernel
theorem as_d_pck_11 : decode prog_20_method_11_code 11 = .ok (.iload_n 1, 1) := by decide +kernel
theorem as_d_pck_16 : decode prog_20_method_11_code 16 = .ok (.iload_n 0, 1) := by decide +kernel
theorem as_d_pck_17 : decode prog_20_method_11_code 17 = .ok (.ireturn, 1) := by decide +kernel
set_option maxRecDepth 100000 in
theorem as_i_len : Cond.instanceMethod as_y_len ∈ am_tbl := am_in (List.mem_of_getElem? (i := 625) (by decide +kernel)) rfl
set_option maxRecDepth 100000 in
theorem as_s_len : Cond.selects "java/lang/String" as_y_len as_y_len ∈ am_tbl := am_in (List.mem_of_getElem? (i := 626) (by decide +kernel)) rfl
set_option maxRecDepth 100000 in
theorem as_i_cod : Cond.instanceMethod as_y_cod ∈ am_tbl := am_in (List.mem_of_getElem? (i := 629) (by decide +kernel)) rfl
set_option maxRecDepth 100000 in
theorem as_s_cod : Cond.selects "java/lang/String" as_y_cod as_y_cod ∈ am_tbl := am_in (List.mem_of_getElem? (i := 630) (by decide +kernel)) rfl
set_option maxRecDepth 100000 in
theorem as_i_chr : Cond.instanceMethod as_y_chr ∈ am_tbl := am_in (List.mem_of_getElem? (i := 635) (by decide +kernel)) rfl
set_option maxRecDepth 100000 in
theorem as_s_chr : Cond.selects "java/lang/String" as_y_chr as_y_chr ∈ am_tbl := am_in (List.mem_of_getElem? (i := 636) (by decide +kernel)) rfl
set_option maxRecDepth 100000 in
theorem as_i_lat : Cond.instanceMethod as_y_lat ∈ am_tbl := am_in (List.mem_of_getElem? (i := 639) (by decide +kernel)) rfl
set_option maxRecDepth 100000 in
theorem as_s_lat : Cond.selects "java/lang/String" as_y_lat as_y_lat ∈ am_tbl := am_in (List.mem_of_getElem? (i := 640) (by decide +kernel)) rfl
set_option maxRecDepth 100000 in
theorem as_s_lch : Cond.static as_y_lch ∈ am_tbl := am_in (List.mem_of_getElem? (i := 643) (by decide +kernel)) rfl
set_option maxRecDepth 100000 in
theorem as_s_chk : Cond.static as_y_chk ∈ am_tbl := am_in (List.mem_of_getElem? (i := 646) (by decide +kernel)) rfl
set_option maxRecDepth 100000 in
theorem as_s_pck : Cond.static as_y_pck ∈ am_tbl := am_in (List.mem_of_getElem? (i := 651) (by decide +kernel)) rfl
set_option maxRecDepth 100000 in
theorem as_n_S : Cond.initialized "java/lang/String" ∈ am_tbl := am_in (List.mem_of_getElem? (i := 166) (by decide +kernel)) rfl
set_option maxRecDepth 100000 in
theorem as_n_L : Cond.initialized "java/lang/StringLatin1" ∈ am_tbl := am_in (List.mem_of_getElem? (i := 167) (by decide +kernel)) rfl
set_option maxRecDepth 100000 in
theorem as_n_P : Cond.initialized "jdk/internal/util/Preconditions" ∈ am_tbl := am_in (List.mem_of_getElem? (i := 168) (by decide +kernel)) rfl
set_option maxRecDepth 100000 in
theorem as_f_val : Cond.fieldLink "java/lang/String" 9 "java/lang/String" "value" "[B" ∈ am_tbl := am_in (List.mem_of_getElem? (i := 2114) (by decide +kernel)) rfl
set_option maxRecDepth 100000 in
theorem as_f_cod : Cond.fieldLink "java/lang/String" 15 "java/lang/String" "coder" "B" ∈ am_tbl := am_in (List.mem_of_getElem? (i := 2115) (by decide +kernel)) rfl
set_option maxRecDepth 100000 in
theorem as_f_cmp : Cond.fieldLink "java/lang/String" 38 "java/lang/String" "COMPACT_STRINGS" "Z" ∈ am_tbl := am_in (List.mem_of_getElem? (i := 632) (by decide +kernel)) rfl
set_option maxRecDepth 100000 in
theorem as_f_sio : Cond.fieldLink "java/lang/String" 1053 "jdk/internal/util/Preconditions" "SIOOBE_FORMATTER" "Ljava/util/function/BiFunction;" ∈ am_tbl := am_in (List.mem_of_getElem? (i := 648) (by decide +kernel)) rfl
set_option maxRecDepth 100000 in
theorem as_l_cod : Cond.methodLink "java/lang/String" 335 as_y_cod ∈ am_tbl := am_in (List.mem_of_getElem? (i := 628) (by decide +kernel)) rfl
set_option maxRecDepth 100000 in
theorem as_l_lat : Cond.methodLink "java/lang/String" 492 as_y_lat ∈ am_tbl := am_in (List.mem_of_getElem? (i := 638) (by decide +kernel)) rfl
set_option maxRecDepth 100000 in
theorem as_l_lch : Cond.methodLink "java/lang/String" 495 as_y_lch ∈ am_tbl := am_in (List.mem_of_getElem? (i := 642) (by decide +kernel)) rfl
set_option maxRecDepth 100000 in
theorem as_l_chk : Cond.methodLink "java/lang/StringLatin1" 9 as_y_chk ∈ am_tbl := am_in (List.mem_of_getElem? (i := 645) (by decide +kernel)) rfl
set_option maxRecDepth 100000 in
theorem as_l_pck : Cond.methodLink "java/lang/String" 1059 as_y_pck ∈ am_tbl := am_in (List.mem_of_getElem? (i := 650) (by decide +kernel)) rfl
theorem am_Fo.same {sa sv : Nat} {A : Nat → Prop} {U U2 : State} {H : Heap} (h : am_Fo sa sv A U H) (hv : U2.vm = U.vm) : am_Fo sa sv A U2 H := ⟨h.1.same hv, h.2.1.moved (by rw [hv]; exact Vm.Alike.refl U.vm), h.2.2.1.moved (by rw [hv]; exact Vm.Alike.refl U.vm), h.2.2.2.moved (by rw [hv]; exact Vm.Alike.refl U.vm)⟩
theorem am_Fo.pass {sa sv : Nat} {A A1 : Nat → Prop} {s U : State} {H : Heap} {locs : List Loc} (h : am_Fo sa sv A s s.heap) (hS : va_S A s.heap H locs) (hW : s.WarmedH U.vm) (hA : ∀ q, A1 q → A q) : am_Fo sa sv A1 U H := ⟨h.1.warm hW, ((h.2.1.kept hS.2.1).moved hW.alike).narrow hA, ((h.2.2.1.kept hS.2.1).moved hW.alike).narrow hA, ((h.2.2.2.kept hS.2.1).moved hW.alike).narrow hA⟩
theorem as_txt : ∀ k, k < am_txt.length → ((((([am_txt.map Int32.ofInt].getD 0 []).getD k 0) &&& 255).toUInt32 % 65536).toInt32) = Int32.ofInt (am_txt.getD k 0) := by decide +kernel
theorem as_txt2 : ∀ k, k < am_txt.length → narrow .char (.int (Int32.ofInt (am_txt.getD k 0))) = .int (Int32.ofInt (am_txt.getD k 0)) := by decide +kernel

/-- a method that answers v and leaves the heap as it is -/
theorem as_sl3 (i n : Int32) (v : Value) (hv : v.category = 1) : (lg_sl [Value.int i, Value.int n, v]).length ≤ 3 := by
  have e1 : (Value.int i).category = 1 := rfl
  have e2 : (Value.int n).category = 1 := rfl
  simp [lg_sl, hv, e1, e2]
theorem as_w {A : Nat → Prop} {H0 H : Heap} {locs : List Loc} (h : va_S (fun _ => False) H0 H locs) : va_S A H0 H locs := ⟨h.1, fun q a _ => h.2.1 q a (fun z => z), fun q hq => (h.2.2 q hq).elim⟩
def as_Q (v : Option Value) : Array Value → State → Outcome → State → Prop := fun _ st o t => o = .returned v ∧ t.heap = st.heap
theorem as_call {p : Program} {l : Launch} {e : Env} {R : Room} {s : State} {m : MethodId} {args : Array Value} {below : List Frame} {meth : Method} {c : Code} {H : Heap} {locs : List Loc} {cells slots : Nat} {Q : State → Prop} {pc : Nat} {ls : Array Slot} {rest st0 : List Value} {A0 : Nat → Prop} {H0 : Heap} {a : Array Value} {v : Option Value} (hr : va_Run p l e R s m args below meth c H locs cells slots 0 0 (F0 m pc ls st0) rest (as_Q v a) (fun _ => False)) (hS : va_S A0 H0 H locs)
    (kk : ∀ (locs1 : List Loc), va_S A0 H0 H locs1 → W p l e R s m args below meth c H locs1 cells slots Q (F0 m (pc + 3) ls (v.toList ++ rest))) : W p l e R s m args below meth c H locs cells slots Q (F0 m pc ls st0) := by
  intro T hT X
  obtain ⟨v9, st₀, t, T', L, h0, X', hL, e1, e2, ⟨hv, ht⟩, st⟩ := hr T hT X
  cases hv
  obtain ⟨t2, a1, b1⟩ := kk (locs ++ L) ⟨hS.1, hS.2.1, fun q hq => by
      rcases List.mem_append.mp hq with h | h
      · exact hS.2.2 q h
      · exact (hL q h).elim⟩ T' (by rw [e1, ht, h0]) X'
  exact ⟨t2, st t2 a1, b1⟩
theorem as_cb {R : Room} {s : State} {args : Array Value} {own : String} {index : Nat} {y : MethodName} {bytes : ByteArray} {maxL : Nat} {ret : Option FieldType} {rm : Room} (n : Nat) (hts : ∀ w ∈ am_tbl, w.before args s = true) (hc : Cond.code y bytes maxL ret ∈ am_tbl) (hi : Cond.initialized y.cls ∈ am_tbl) (hl : Cond.methodLink own index y ∈ am_tbl) (hy : y.cls ≠ "java/lang/invoke/MethodHandle" ∧ y.cls ≠ "java/lang/invoke/VarHandle") (hn : (parseMethodDescriptor y.desc).map (fun d => d.parameters.length) = some n) (hc0 : rm.cells = 0) (hs0 : rm.slots = 0) (hR : rm.frames + 1 ≤ R.frames ∧ 8 + (maxL + 11) + rm.locals ≤ R.locals) : CallB R s args own index y bytes maxL ret (Cond.code y bytes maxL ret :: am_tbl) rm 0 0 n := by
  refine ⟨hc0, hs0, hR.1, hR.2, fun w hw a' U hW => ?_, List.mem_cons_self, hts _ hc, hts _ hi, hy, fun sig hs => ?_, hts _ hl⟩
  · rcases List.mem_cons.mp hw with rfl | hw
    · exact am_warm hts hW _ hc a'
    · exact am_warm hts hW w hw a'
  · rw [hs] at hn; exact (Option.some.inj hn).symm
theorem as_blind {sa sv : Nat} {A : Nat → Prop} {av : List Value} : FrameBlind (va_Pc av (fun U => am_Fo sa sv A U U.heap)) := by
  intro a U g mk q
  obtain ⟨q0, qF⟩ := q
  exact ⟨q0, am_Fo.same (U2 := U.calling g mk a) qF rfl⟩
theorem as_blind0 {av : List Value} : FrameBlind (va_Pc av (fun _ => True)) := fun _ _ _ _ q => q

set_option maxRecDepth 100000 in
theorem as_m_cod (l : Launch) (sa sv : Nat) (A : Nat → Prop) : Met l as_y_cod (Cond.code as_y_cod prog_15_method_152_code 1 (some .byte) :: am_tbl) ({ frames := 0, cells := 0, slots := 0, locals := 0 }) (va_Pc ([.ref sa]) (fun U => am_Fo sa sv A U U.heap)) (as_Q (some (.int 0))) 0 0 (fun _ => False) := by
  refine va_MetF (cc := prog_15_method_152_code) (maxL := 1) (ret := some .byte) (by decide +kernel) rfl ?_
  intro p e s m args below meth c s₁ B hml hv
  obtain ⟨rfl, hFo⟩ := hv
  have hx := B.exec
  have hb := B.bytes
  have hr := B.returns
  have hts0 := atoms_spec (ws := Cond.code as_y_cod prog_15_method_152_code 1 (some .byte) :: am_tbl) B.pre
  have hts : ∀ w ∈ am_tbl, w.before _ s = true := fun w hw => hts0 w (List.mem_cons_of_mem _ hw)
  have hown := findClass_of_methodNamed B.named
  have hlk := B.notSynchronized
  have hS0 : va_S (fun _ => False) s.heap s.heap [] := va_S.rf
  have hS : va_S (A) s.heap s.heap [] := as_w hS0
  have hl := lv_entry ([.ref sa]) (n := 1) (Nat.le_of_ble_eq_true rfl)
  rw [lg_entry_eq]
  generalize (lg_sl ([.ref sa]) ++ List.replicate (1 - (lg_sl ([.ref sa])).length) Slot.unset).toArray = ls at hl ⊢
  have hl : lv_has ls 1 [(0, .ref sa)] := hl
  refine va_gets hx hb hFo.2.2.1 hS hown (hts _ as_f_cmp) (fun _ h => h) as_d_cod_0 ?_
  refine lv_if_eq (tgt := 13) hx hb as_d_cod_3 (by decide) (fun h => absurd h (by decide)) (fun _ => ?_)
  refine lv_aload_n hx hb as_d_cod_6 rfl (lv_at hl 0 rfl) ?_
  refine vk_getf hx hb (hFo.2.1.1 0 (by decide)).2.1 hS hown (hts _ as_f_cod) (fun _ h => h) as_d_cod_7 ?_
  refine lv_goto (tgt := 14) hx hb as_d_cod_10 (by decide) ?_
  exact W.zret (v := 0) (ty := .byte) hx hb hr (by decide) (fun t ht hW => ⟨rfl, ht⟩) (fun q hq => by cases hq) as_d_cod_14 (hlocks := hlk)

set_option maxRecDepth 100000 in
theorem as_m_lat (l : Launch) (sa sv : Nat) (A : Nat → Prop) : Met l as_y_lat (Cond.code as_y_lat prog_15_method_154_code 1 (some .boolean) :: am_tbl) ({ frames := 0, cells := 0, slots := 0, locals := 0 }) (va_Pc ([.ref sa]) (fun U => am_Fo sa sv A U U.heap)) (as_Q (some (.int 1))) 0 0 (fun _ => False) := by
  refine va_MetF (cc := prog_15_method_154_code) (maxL := 1) (ret := some .boolean) (by decide +kernel) rfl ?_
  intro p e s m args below meth c s₁ B hml hv
  obtain ⟨rfl, hFo⟩ := hv
  have hx := B.exec
  have hb := B.bytes
  have hr := B.returns
  have hts0 := atoms_spec (ws := Cond.code as_y_lat prog_15_method_154_code 1 (some .boolean) :: am_tbl) B.pre
  have hts : ∀ w ∈ am_tbl, w.before _ s = true := fun w hw => hts0 w (List.mem_cons_of_mem _ hw)
  have hown := findClass_of_methodNamed B.named
  have hlk := B.notSynchronized
  have hS0 : va_S (fun _ => False) s.heap s.heap [] := va_S.rf
  have hS : va_S (A) s.heap s.heap [] := as_w hS0
  have hl := lv_entry ([.ref sa]) (n := 1) (Nat.le_of_ble_eq_true rfl)
  rw [lg_entry_eq]
  generalize (lg_sl ([.ref sa]) ++ List.replicate (1 - (lg_sl ([.ref sa])).length) Slot.unset).toArray = ls at hl ⊢
  have hl : lv_has ls 1 [(0, .ref sa)] := hl
  refine va_gets hx hb hFo.2.2.1 hS hown (hts _ as_f_cmp) (fun _ h => h) as_d_lat_0 ?_
  refine lv_if_eq (tgt := 17) hx hb as_d_lat_3 (by decide) (fun h => absurd h (by decide)) (fun _ => ?_)
  refine lv_aload_n hx hb as_d_lat_6 rfl (lv_at hl 0 rfl) ?_
  refine vk_getf hx hb (hFo.2.1.1 0 (by decide)).2.1 hS hown (hts _ as_f_cod) (fun _ h => h) as_d_lat_7 ?_
  refine lv_if_ne (tgt := 17) hx hb as_d_lat_10 (by decide) (fun h => absurd rfl h) (fun _ => ?_)
  refine lv_iconst (v := 1) hx hb as_d_lat_13 (by decide) ?_
  refine lv_goto (tgt := 18) hx hb as_d_lat_14 (by decide) ?_
  exact W.zret (v := 1) (ty := .boolean) hx hb hr (by decide) (fun t ht hW => ⟨rfl, ht⟩) (fun q hq => by cases hq) as_d_lat_18 (hlocks := hlk)

set_option maxRecDepth 100000 in
theorem as_m_pck (l : Launch) (i n : Int32) (v : Value) (hv : v.category = 1) (h0 : ¬ i < 0) (h1 : i < n) : Met l as_y_pck (Cond.code as_y_pck prog_20_method_11_code 3 (some .int) :: am_tbl) ({ frames := 0, cells := 0, slots := 0, locals := 0 }) (va_Pc ([.int i, .int n, v]) (fun _ => True)) (as_Q (some (.int i))) 0 0 (fun _ => False) := by
  refine va_MetF (cc := prog_20_method_11_code) (maxL := 3) (ret := some .int) (by decide +kernel) rfl ?_
  intro p e s m args below meth c s₁ B hml hv
  obtain ⟨rfl, -⟩ := hv
  have hx := B.exec
  have hb := B.bytes
  have hr := B.returns
  have hts0 := atoms_spec (ws := Cond.code as_y_pck prog_20_method_11_code 3 (some .int) :: am_tbl) B.pre
  have hts : ∀ w ∈ am_tbl, w.before _ s = true := fun w hw => hts0 w (List.mem_cons_of_mem _ hw)
  have hown := findClass_of_methodNamed B.named
  have hlk := B.notSynchronized
  have hS0 : va_S (fun _ => False) s.heap s.heap [] := va_S.rf
  have hS : va_S (fun _ => False) s.heap s.heap [] := as_w hS0
  have hl := lv_entry ([.int i, .int n, v]) (n := 3) (as_sl3 i n v hv)
  rw [lg_entry_eq]
  generalize (lg_sl ([.int i, .int n, v]) ++ List.replicate (3 - (lg_sl ([.int i, .int n, v])).length) Slot.unset).toArray = ls at hl ⊢
  have hl : lv_has ls 3 [(0, .int i), (1, .int n)] := am_lh_sub hl (fun q hq => by
    have hq : q = (0, .int i) ∨ q = (1, .int n) := by simpa using hq
    rcases hq with rfl | rfl
    · exact List.mem_cons_self
    · exact List.mem_cons_of_mem _ List.mem_cons_self)
  refine lv_iload_n hx hb as_d_pck_0 rfl (lv_at hl 0 rfl) ?_
  refine lv_if_lt (tgt := 9) hx hb as_d_pck_1 (by decide) (fun h => absurd h h0) (fun _ => ?_)
  refine lv_iload_n hx hb as_d_pck_4 rfl (lv_at hl 0 rfl) ?_
  refine lv_iload_n hx hb as_d_pck_5 rfl (lv_at hl 1 rfl) ?_
  refine lv_icmp_lt (tgt := 16) hx hb as_d_pck_6 (by decide) (fun _ => ?_) (fun h => absurd h1 h)
  refine lv_iload_n hx hb as_d_pck_16 rfl (lv_at hl 0 rfl) ?_
  exact W.iret (v := i) hx hb hr (fun t ht hW => ⟨rfl, ht⟩) (fun q hq => by cases hq) as_d_pck_17 (hlocks := hlk)

set_option maxRecDepth 100000 in
theorem as_m_chk (l : Launch) (sa sv : Nat) (A : Nat → Prop) (i n : Int32) (h0 : ¬ i < 0) (h1 : i < n) : Met l as_y_chk (Cond.code as_y_chk prog_15_method_155_code 2 (none) :: am_tbl) ({ frames := 1, cells := 0, slots := 0, locals := 25 }) (va_Pc ([.int i, .int n]) (fun U => am_Fo sa sv A U U.heap)) (as_Q (none)) 0 0 (fun _ => False) := by
  refine va_MetF (cc := prog_15_method_155_code) (maxL := 2) (ret := none) (by decide +kernel) rfl ?_
  intro p e s m args below meth c s₁ B hml hv
  obtain ⟨rfl, hFo⟩ := hv
  have hx := B.exec
  have hb := B.bytes
  have hr := B.returns
  have hts0 := atoms_spec (ws := Cond.code as_y_chk prog_15_method_155_code 2 (none) :: am_tbl) B.pre
  have hts : ∀ w ∈ am_tbl, w.before _ s = true := fun w hw => hts0 w (List.mem_cons_of_mem _ hw)
  have hown := findClass_of_methodNamed B.named
  have hlk := B.notSynchronized
  have hS0 : va_S (fun _ => False) s.heap s.heap [] := va_S.rf
  have hS : va_S (A) s.heap s.heap [] := as_w hS0
  have hl := lv_entry ([.int i, .int n]) (n := 2) (Nat.le_of_ble_eq_true rfl)
  rw [lg_entry_eq]
  generalize (lg_sl ([.int i, .int n]) ++ List.replicate (2 - (lg_sl ([.int i, .int n])).length) Slot.unset).toArray = ls at hl ⊢
  have hl : lv_has ls 2 [(0, .int i), (1, .int n)] := hl
  refine lv_iload_n hx hb as_d_chk_0 rfl (lv_at hl 0 rfl) ?_
  refine lv_iload_n hx hb as_d_chk_1 rfl (lv_at hl 1 rfl) ?_
  have go : ∀ v : Value, v.category = 1 → va_Z "jdk/internal/util/Preconditions" "SIOOBE_FORMATTER" "Ljava/util/function/BiFunction;" v A s s.heap → W p l e (headSpec (Cond.code as_y_chk prog_15_method_155_code 2 none :: am_tbl) { frames := 1, cells := 0, slots := 0, locals := 25 }).room s m [Value.int i, Value.int n].toArray below meth c s.heap [] 0 0 (MQ below (as_Q none) [Value.int i, Value.int n].toArray s 0 0 (fun _ => False)) (F0 m 2 ls [.int n, .int i]) := by
    intro v hv hZ
    refine va_gets hx hb hZ hS hown (hts _ as_f_sio) (fun _ h => h) as_d_chk_2 ?_
    refine as_call (va_runS (As := [.int i, .int n, v]) (rest := []) (n := 3) ⟨hx, hb, hml, hown, hts⟩ (as_m_pck l i n v hv h0 h1) ⟨as_cb 3 hts as_c_pck as_n_P as_l_pck (by decide) (by decide +kernel) rfl rfl ⟨Nat.le_of_ble_eq_true rfl, Nat.le_of_ble_eq_true rfl⟩, hts _ as_s_pck⟩ ⟨as_blind0, fun U hU hW => ⟨rfl, trivial⟩⟩ rfl rfl hl.1 rfl (lv_room (Nat.le_of_ble_eq_true rfl)) as_d_chk_5 ⟨Nat.zero_le _, Nat.zero_le _⟩) hS0 (fun locs1 hS1 => ?_)
    have hS2 := as_w (A := A) hS1
    refine lv_pop hx hb as_d_chk_8 rfl ?_
    exact W.vret hx hb hr (fun t ht hW => ⟨rfl, ht⟩) (fun q hq => hS1.2.2 q hq) as_d_chk_9 (hlocks := hlk)
  rcases hFo.2.2.2 with hZ | ⟨t, hZ⟩
  · exact go .null rfl hZ
  · exact go (.ref t) rfl hZ

set_option maxRecDepth 100000 in
theorem as_m_lch (l : Launch) (sa sv : Nat) (A : Nat → Prop) (j : Int) (h0 : 0 ≤ j) (h1 : j < (am_txt.length : Int)) : Met l as_y_lch (Cond.code as_y_lch prog_16_method_2_code 2 (some .char) :: am_tbl) ({ frames := 2, cells := 0, slots := 0, locals := 50 }) (va_Pc ([.ref sv, .int (Int32.ofInt j)]) (fun U => am_Fo sa sv A U U.heap)) (as_Q (some (.int (Int32.ofInt (am_txt.getD j.toNat 0))))) 0 0 (fun _ => False) := by
  refine va_MetF (cc := prog_16_method_2_code) (maxL := 2) (ret := some .char) (by decide +kernel) rfl ?_
  intro p e s m args below meth c s₁ B hml hv
  obtain ⟨rfl, hFo⟩ := hv
  have hx := B.exec
  have hb := B.bytes
  have hr := B.returns
  have hts0 := atoms_spec (ws := Cond.code as_y_lch prog_16_method_2_code 2 (some .char) :: am_tbl) B.pre
  have hts : ∀ w ∈ am_tbl, w.before _ s = true := fun w hw => hts0 w (List.mem_cons_of_mem _ hw)
  have hown := findClass_of_methodNamed B.named
  have hlk := B.notSynchronized
  have hS0 : va_S (fun _ => False) s.heap s.heap [] := va_S.rf
  have hS : va_S (A) s.heap s.heap [] := as_w hS0
  have hl := lv_entry ([.ref sv, .int (Int32.ofInt j)]) (n := 2) (Nat.le_of_ble_eq_true rfl)
  rw [lg_entry_eq]
  generalize (lg_sl ([.ref sv, .int (Int32.ofInt j)]) ++ List.replicate (2 - (lg_sl ([.ref sv, .int (Int32.ofInt j)])).length) Slot.unset).toArray = ls at hl ⊢
  have hl : lv_has ls 2 [(0, .ref sv), (1, .int (Int32.ofInt j))] := hl
  have hlt : am_txt.length < 1000 := by decide +kernel
  have hj : am_inI j := ⟨by omega, by omega⟩
  have hn : Int32.ofInt j < Int32.ofNat am_txt.length := (am_ltI hj ⟨by omega, by omega⟩).mpr h1
  have hT := (hFo.2.1.1 0 (by decide)).2.2.2
  refine lv_iload_n hx hb as_d_lch_0 rfl (lv_at hl 1 rfl) ?_
  refine lv_aload_n hx hb as_d_lch_1 rfl (lv_at hl 0 rfl) ?_
  refine va_tlen hx hb hT hS (v := Int32.ofNat am_txt.length) rfl as_d_lch_2 ?_
  refine as_call (va_runS (As := [.int (Int32.ofInt j), .int (Int32.ofNat am_txt.length)]) (rest := []) (n := 2) ⟨hx, hb, hml, hown, hts⟩ (as_m_chk l sa sv A (Int32.ofInt j) (Int32.ofNat am_txt.length) (fun q => by have := (am_neg hj).mp q; omega) hn) ⟨as_cb 2 hts as_c_chk as_n_S as_l_chk (by decide) (by decide +kernel) rfl rfl ⟨Nat.le_of_ble_eq_true rfl, Nat.le_of_ble_eq_true rfl⟩, hts _ as_s_chk⟩ ⟨as_blind, fun U hU hW => ⟨rfl, show am_Fo sa sv A U U.heap by rw [hU]; exact am_Fo.pass hFo hS hW (fun _ h => h)⟩⟩ rfl rfl hl.1 rfl (lv_room (Nat.le_of_ble_eq_true rfl)) as_d_lch_3 ⟨Nat.zero_le _, Nat.zero_le _⟩) hS0 (fun locs1 hS1 => ?_)
  have hS2 := as_w (A := A) hS1
  refine lv_aload_n hx hb as_d_lch_6 rfl (lv_at hl 0 rfl) ?_
  refine lv_iload_n hx hb as_d_lch_7 rfl (lv_at hl 1 rfl) ?_
  refine va_tb hx hb hT hS2 (am_vin hj h0 h1) rfl as_d_lch_8 ?_
  refine lv_sipush (v := 255) hx hb as_d_lch_9 (by decide) ?_
  refine lv_iand hx hb as_d_lch_12 ?_
  refine lv_i2c hx hb as_d_lch_13 (v := Int32.ofInt (am_txt.getD j.toNat 0)) ?_ ?_
  · rw [am_cl0 hj]
    have hm : j.toNat < am_txt.length := by omega
    exact as_txt j.toNat hm
  · refine W.zret (ty := .char) hx hb hr ?_ (fun t ht hW => ⟨rfl, ht⟩) (fun q hq => hS1.2.2 q hq) as_d_lch_14 (hlocks := hlk)
    exact as_txt2 j.toNat (by omega)

set_option maxRecDepth 100000 in
theorem as_m_chr (l : Launch) (sa sv : Nat) (A : Nat → Prop) (j : Int) (h0 : 0 ≤ j) (h1 : j < (am_txt.length : Int)) : Met l as_y_chr (Cond.code as_y_chr prog_15_method_56_code 2 (some .char) :: am_tbl) ({ frames := 3, cells := 0, slots := 0, locals := 75 }) (va_Pc ([.ref sa, .int (Int32.ofInt j)]) (fun U => am_Fo sa sv A U U.heap)) (as_Q (some (.int (Int32.ofInt (am_txt.getD j.toNat 0))))) 0 0 (fun _ => False) := by
  refine va_MetF (cc := prog_15_method_56_code) (maxL := 2) (ret := some .char) (by decide +kernel) rfl ?_
  intro p e s m args below meth c s₁ B hml hv
  obtain ⟨rfl, hFo⟩ := hv
  have hx := B.exec
  have hb := B.bytes
  have hr := B.returns
  have hts0 := atoms_spec (ws := Cond.code as_y_chr prog_15_method_56_code 2 (some .char) :: am_tbl) B.pre
  have hts : ∀ w ∈ am_tbl, w.before _ s = true := fun w hw => hts0 w (List.mem_cons_of_mem _ hw)
  have hown := findClass_of_methodNamed B.named
  have hlk := B.notSynchronized
  have hS0 : va_S (fun _ => False) s.heap s.heap [] := va_S.rf
  have hS : va_S (A) s.heap s.heap [] := as_w hS0
  have hl := lv_entry ([.ref sa, .int (Int32.ofInt j)]) (n := 2) (Nat.le_of_ble_eq_true rfl)
  rw [lg_entry_eq]
  generalize (lg_sl ([.ref sa, .int (Int32.ofInt j)]) ++ List.replicate (2 - (lg_sl ([.ref sa, .int (Int32.ofInt j)])).length) Slot.unset).toArray = ls at hl ⊢
  have hl : lv_has ls 2 [(0, .ref sa), (1, .int (Int32.ofInt j))] := hl
  refine lv_aload_n hx hb as_d_chr_0 rfl (lv_at hl 0 rfl) ?_
  have hrc := vk_recv hFo.2.1 (show 0 < 1 by decide) hS
  refine as_call (va_runV (As := []) (rest := []) (n := 0) (C := "java/lang/String") (b := sa) ⟨hx, hb, hml, hown, hts⟩ (as_m_lat l sa sv A) ⟨as_cb 0 hts as_c_lat as_n_S as_l_lat (by decide) (by decide +kernel) rfl rfl ⟨Nat.le_of_ble_eq_true rfl, Nat.le_of_ble_eq_true rfl⟩, hts _ as_i_lat, hts _ as_s_lat⟩ ⟨as_blind, hrc, fun U hU hW => ⟨rfl, show am_Fo sa sv A U U.heap by rw [hU]; exact am_Fo.pass hFo hS hW (fun _ h => h)⟩⟩ rfl rfl hl.1 rfl (lv_room (Nat.le_of_ble_eq_true rfl)) as_d_chr_1 ⟨Nat.zero_le _, Nat.zero_le _⟩) hS0 (fun locs1 hS1 => ?_)
  have hS2 := as_w (A := A) hS1
  refine lv_if_eq (tgt := 16) hx hb as_d_chr_4 (by decide) (fun h => absurd h (by decide)) (fun _ => ?_)
  refine lv_aload_n hx hb as_d_chr_7 rfl (lv_at hl 0 rfl) ?_
  refine vk_getf hx hb (hFo.2.1.1 0 (by decide)).2.2.1 hS2 hown (hts _ as_f_val) (fun _ h => h) as_d_chr_8 ?_
  refine lv_iload_n hx hb as_d_chr_11 rfl (lv_at hl 1 rfl) ?_
  refine as_call (va_runS (As := [.ref sv, .int (Int32.ofInt j)]) (rest := []) (n := 2) ⟨hx, hb, hml, hown, hts⟩ (as_m_lch l sa sv A j h0 h1) ⟨as_cb 2 hts as_c_lch as_n_L as_l_lch (by decide) (by decide +kernel) rfl rfl ⟨Nat.le_of_ble_eq_true rfl, Nat.le_of_ble_eq_true rfl⟩, hts _ as_s_lch⟩ ⟨as_blind, fun U hU hW => ⟨rfl, show am_Fo sa sv A U U.heap by rw [hU]; exact am_Fo.pass hFo hS hW (fun _ h => h)⟩⟩ rfl rfl hl.1 rfl (lv_room (Nat.le_of_ble_eq_true rfl)) as_d_chr_12 ⟨Nat.zero_le _, Nat.zero_le _⟩) hS1 (fun locs2 hS3 => ?_)
  refine W.zret (ty := .char) hx hb hr (as_txt2 j.toNat (by omega)) (fun t ht hW => ⟨rfl, ht⟩) (fun q hq => hS3.2.2 q hq) as_d_chr_15 (hlocks := hlk)

set_option maxRecDepth 100000 in
theorem as_m_len (l : Launch) (sa sv : Nat) (A : Nat → Prop) : Met l as_y_len (Cond.code as_y_len prog_15_method_54_code 1 (some .int) :: am_tbl) ({ frames := 1, cells := 0, slots := 0, locals := 25 }) (va_Pc ([.ref sa]) (fun U => am_Fo sa sv A U U.heap)) (as_Q (some (.int (Int32.ofInt (am_txt.length : Int))))) 0 0 (fun _ => False) := by
  refine va_MetF (cc := prog_15_method_54_code) (maxL := 1) (ret := some .int) (by decide +kernel) rfl ?_
  intro p e s m args below meth c s₁ B hml hv
  obtain ⟨rfl, hFo⟩ := hv
  have hx := B.exec
  have hb := B.bytes
  have hr := B.returns
  have hts0 := atoms_spec (ws := Cond.code as_y_len prog_15_method_54_code 1 (some .int) :: am_tbl) B.pre
  have hts : ∀ w ∈ am_tbl, w.before _ s = true := fun w hw => hts0 w (List.mem_cons_of_mem _ hw)
  have hown := findClass_of_methodNamed B.named
  have hlk := B.notSynchronized
  have hS0 : va_S (fun _ => False) s.heap s.heap [] := va_S.rf
  have hS : va_S (A) s.heap s.heap [] := as_w hS0
  have hl := lv_entry ([.ref sa]) (n := 1) (Nat.le_of_ble_eq_true rfl)
  rw [lg_entry_eq]
  generalize (lg_sl ([.ref sa]) ++ List.replicate (1 - (lg_sl ([.ref sa])).length) Slot.unset).toArray = ls at hl ⊢
  have hl : lv_has ls 1 [(0, .ref sa)] := hl
  have hT := (hFo.2.1.1 0 (by decide)).2.2.2
  refine lv_aload_n hx hb as_d_len_0 rfl (lv_at hl 0 rfl) ?_
  refine vk_getf hx hb (hFo.2.1.1 0 (by decide)).2.2.1 hS hown (hts _ as_f_val) (fun _ h => h) as_d_len_1 ?_
  refine va_tlen hx hb hT hS (v := Int32.ofNat am_txt.length) rfl as_d_len_4 ?_
  refine lv_aload_n hx hb as_d_len_5 rfl (lv_at hl 0 rfl) ?_
  have hrc := vk_recv hFo.2.1 (show 0 < 1 by decide) hS
  refine as_call (va_runV (As := []) (rest := [.int (Int32.ofNat am_txt.length)]) (n := 0) (C := "java/lang/String") (b := sa) ⟨hx, hb, hml, hown, hts⟩ (as_m_cod l sa sv A) ⟨as_cb 0 hts as_c_cod as_n_S as_l_cod (by decide) (by decide +kernel) rfl rfl ⟨Nat.le_of_ble_eq_true rfl, Nat.le_of_ble_eq_true rfl⟩, hts _ as_i_cod, hts _ as_s_cod⟩ ⟨as_blind, hrc, fun U hU hW => ⟨rfl, show am_Fo sa sv A U U.heap by rw [hU]; exact am_Fo.pass hFo hS hW (fun _ h => h)⟩⟩ rfl rfl hl.1 rfl (lv_room (Nat.le_of_ble_eq_true rfl)) as_d_len_6 ⟨Nat.zero_le _, Nat.zero_le _⟩) hS0 (fun locs1 hS1 => ?_)
  have hS2 := as_w (A := A) hS1
  refine lv_ishr hx hb as_d_len_9 ?_
  rw [show Int32.ofNat am_txt.length >>> ((0 : Int32) &&& 31) = Int32.ofInt (am_txt.length : Int) by decide]
  exact W.iret (v := Int32.ofInt (am_txt.length : Int)) hx hb hr (fun t ht hW => ⟨rfl, ht⟩) (fun q hq => hS1.2.2 q hq) as_d_len_10 (hlocks := hlk)

set_option maxRecDepth 100000 in
theorem as_txt3 (k : Nat) (hk : k < am_txt.length) : am_inI (am_txt.getD k 0) := by
  have h : ∀ k, k < am_txt.length → -2147483648 ≤ am_txt.getD k 0 ∧ am_txt.getD k 0 < 2147483648 := by decide +kernel
  exact h k hk
section
variable {p : Program} {l : Launch} {e : Env} {R : Room} {s : State} {m : MethodId} {args : Array Value} {below : List Frame} {meth : Method} {c : Code} {H : Heap} {locs : List Loc} {cells slots : Nat} {Q : State → Prop} {D : va_G} {dA : Nat → ClassId} {sa sv : Nat} {A : Nat → Prop} {cc : ByteArray} {ml oc rt : Nat} {ini : Bool} {own : String} {pc : Nat} {ls : Array Slot} {ad : List Nat} {sh sh' : am_H} {f f' : am_F} {L S L' S' : List am_V} {pc' : Nat}
theorem am_s_sldc (C : am_Cx p s m args meth c D dA sa sv A cc ml 4 ini own) (hd : decode cc pc = .ok (.ldc 139, 2)) (hJ : am_J D dA sa ad A s.heap ml ls L S sh f H locs) (hst : am_nx (pc + 2) L ((30, 0) :: S) (sh, f) = some (.inl (pc', L', S', sh', f'))) (kk : am_KK p l e R s m args below meth c D dA sa A ml cells slots Q ad sh pc' L' S' sh' f') : W p l e R s m args below meth c H locs cells slots Q (F0 m pc ls (S.map (am_rv sa ad))) := by
  obtain ⟨hx, hb, hml, hon, hown, hts, hK, hA, hin, hFo, hlk⟩ := C
  cases am_nx_some hst
  have k0 := kk ad ls H locs ⟨[], (List.append_nil _).symm⟩ (hJ.st (List.forall_mem_cons.mpr ⟨am_ok30, hJ.2.1.2⟩))
  rw [Nat.sub_self, Nat.sub_self, Nat.add_zero, Nat.add_zero] at k0
  have ho : own = "MendedThings$Reader" := (Option.some.inj hon).symm
  subst ho
  exact va_ldcS hx hb hown hFo.1 hd k0
set_option maxRecDepth 100000 in
theorem am_s_slen {k ti mi : Nat} (C : am_Cx p s m args meth c D dA sa sv A cc ml oc ini own) (hd : decode cc pc = .ok (.invokevirtual k, 3)) (hJ : am_J D dA sa ad A s.heap ml ls L S sh f H locs) (hst : am_st (am_enc oc ini rt pc (.invokevirtual k) (pc + 3)) L S (sh, f) = some (.inl (pc', L', S', sh', f'))) (hq : am_ll oc k = some (6, mi, ti)) (hR : 6 ≤ R.frames ∧ 200 ≤ R.locals) (hR2 : cells + 0 ≤ R.cells ∧ slots + 0 ≤ R.slots) (kk : am_KK p l e R s m args below meth c D dA sa A ml cells slots Q ad sh pc' L' S' sh' f') : W p l e R s m args below meth c H locs cells slots Q (F0 m pc ls (S.map (am_rv sa ad))) := by
  obtain ⟨hx, hb, hml, hon, hown, hts, hK, hA, hin, hFo, hlk⟩ := C
  have hst : am_pr 30 S (fun _ r => if am_cs r ≤ 8 then am_nx (pc + 3) L ((0, (am_txt.length : Int)) :: r) (sh, f) else none) = some (.inl (pc', L', S', sh', f')) := by
    rw [← hst]; unfold am_enc; dsimp only; rw [hq]; rfl
  obtain ⟨a, r, rfl, h0, h⟩ := am_pr_some hst
  by_cases hc : am_cs r ≤ 8
  · rw [if_pos hc] at h
    cases am_nx_some h
    obtain ⟨-, hr⟩ := List.forall_mem_cons.mp hJ.2.1.2
    have hl : decide (lw_tbl[ti]? = some (Cond.methodLink own k as_y_len)) = true := am_llok hon hq
    have hrc := vk_recv hFo.2.1 (show 0 < 1 by decide) hJ.2.2.2.2.2.2
    refine as_call (va_runV (As := []) (rest := r.map (am_rv sa ad)) (n := 0) (C := "java/lang/String") (b := sa) ⟨hx, hb, hml, hown, hts⟩ (as_m_len l sa sv A) ⟨as_cb 0 hts as_c_len as_n_S (am_in (List.mem_of_getElem? (of_decide_eq_true hl)) rfl) (by decide) (by decide +kernel) rfl rfl ⟨by show 1 + 1 ≤ R.frames; omega, by show 8 + (1 + 11) + 25 ≤ R.locals; omega⟩, hts _ as_i_len, hts _ as_s_len⟩ ⟨as_blind, hrc, fun U hU hW => ⟨rfl, show am_Fo sa sv A U U.heap by rw [hU]; exact am_Fo.pass hFo hJ.2.2.2.2.2.2 hW (fun _ h => h)⟩⟩ rfl rfl hJ.1.1.1 rfl (lv_room (by rw [am_cats]; exact hc)) hd ⟨hR2.1, hR2.2⟩) hJ.2.2.2.2.2.2 (fun locs1 hS1 => ?_)
    have k0 := kk ad ls H locs1 ⟨[], (List.append_nil _).symm⟩ ⟨hJ.1, ⟨hJ.2.1.1, List.forall_mem_cons.mpr ⟨am_ok0 (by constructor <;> decide), hr⟩⟩, hJ.2.2.1, hJ.2.2.2.1, hJ.2.2.2.2.1, hJ.2.2.2.2.2.1, hS1⟩
    rw [Nat.sub_self, Nat.sub_self, Nat.add_zero, Nat.add_zero] at k0
    exact k0
  · rw [if_neg hc] at h; cases h
set_option maxRecDepth 100000 in
theorem am_s_schar {k ti mi : Nat} (C : am_Cx p s m args meth c D dA sa sv A cc ml oc ini own) (hd : decode cc pc = .ok (.invokevirtual k, 3)) (hJ : am_J D dA sa ad A s.heap ml ls L S sh f H locs) (hst : am_st (am_enc oc ini rt pc (.invokevirtual k) (pc + 3)) L S (sh, f) = some (.inl (pc', L', S', sh', f'))) (hq : am_ll oc k = some (7, mi, ti)) (hR : 6 ≤ R.frames ∧ 200 ≤ R.locals) (hR2 : cells + 0 ≤ R.cells ∧ slots + 0 ≤ R.slots) (kk : am_KK p l e R s m args below meth c D dA sa A ml cells slots Q ad sh pc' L' S' sh' f') : W p l e R s m args below meth c H locs cells slots Q (F0 m pc ls (S.map (am_rv sa ad))) := by
  obtain ⟨hx, hb, hml, hon, hown, hts, hK, hA, hin, hFo, hlk⟩ := C
  have hst : am_p0 S (fun j r => am_pr 30 r fun _ r => if 0 ≤ j ∧ j < (am_txt.length : Int) ∧ am_cs r ≤ 8 then am_nx (pc + 3) L ((0, am_txt.getD j.toNat 0) :: r) (sh, f) else none) = some (.inl (pc', L', S', sh', f')) := by
    rw [← hst]; unfold am_enc; dsimp only; rw [hq]; rfl
  obtain ⟨j, r, rfl, h⟩ := am_p0_some hst
  obtain ⟨a, r, rfl, h0, h6⟩ := am_pr_some h
  clear h hst
  by_cases hc : 0 ≤ j ∧ j < (am_txt.length : Int) ∧ am_cs r ≤ 8
  · rw [if_pos hc] at h6
    cases am_nx_some h6
    obtain ⟨-, hr⟩ := List.forall_mem_cons.mp hJ.2.1.2
    obtain ⟨-, hr⟩ := List.forall_mem_cons.mp hr
    have hl : decide (lw_tbl[ti]? = some (Cond.methodLink own k as_y_chr)) = true := am_llok hon hq
    have hrc := vk_recv hFo.2.1 (show 0 < 1 by decide) hJ.2.2.2.2.2.2
    refine as_call (va_runV (As := [.int (Int32.ofInt j)]) (rest := r.map (am_rv sa ad)) (n := 1) (C := "java/lang/String") (b := sa) ⟨hx, hb, hml, hown, hts⟩ (as_m_chr l sa sv A j hc.1 hc.2.1) ⟨as_cb 1 hts as_c_chr as_n_S (am_in (List.mem_of_getElem? (of_decide_eq_true hl)) rfl) (by decide) (by decide +kernel) rfl rfl ⟨by show 3 + 1 ≤ R.frames; omega, by show 8 + (2 + 11) + 75 ≤ R.locals; omega⟩, hts _ as_i_chr, hts _ as_s_chr⟩ ⟨as_blind, hrc, fun U hU hW => ⟨rfl, show am_Fo sa sv A U U.heap by rw [hU]; exact am_Fo.pass hFo hJ.2.2.2.2.2.2 hW (fun _ h => h)⟩⟩ rfl rfl hJ.1.1.1 rfl (lv_room (by rw [am_cats]; exact hc.2.2)) hd ⟨hR2.1, hR2.2⟩) hJ.2.2.2.2.2.2 (fun locs1 hS1 => ?_)
    have k0 := kk ad ls H locs1 ⟨[], (List.append_nil _).symm⟩ ⟨hJ.1, ⟨hJ.2.1.1, List.forall_mem_cons.mpr ⟨am_ok0 (as_txt3 j.toNat (by omega)), hr⟩⟩, hJ.2.2.1, hJ.2.2.2.1, hJ.2.2.2.2.1, hJ.2.2.2.2.2.1, hS1⟩
    rw [Nat.sub_self, Nat.sub_self, Nat.add_zero, Nat.add_zero] at k0
    exact k0
  · rw [if_neg hc] at h6; cases h6
end
