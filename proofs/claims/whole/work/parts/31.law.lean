/-! THE LAW: a call out of it, its loop, over any pure relation Inv that the calls keep (al_H) -/
theorem al_rm {a : Nat} (h : a ≤ 20) : 8 + (a + 11) + 60 * (100 + 4) ≤ room_1.locals := by show 8 + (a + 11) + 60 * (100 + 4) ≤ 84000; omega
/-! THE CLAIM OUT OF ONE WALK OF THE LAW'S BODY. Your part is whole_start (and what it stands on); all else here is the same for every law, but numbers. -/
def R_law : String := "MendedThingsLaw"
def lw_P (b : Addr) (xs : List Int32) (args : Array Value) (s : State) : Prop := args = #[.ref b] ∧ s.IntsAt b xs ∧ xs.length ≤ 3072 ∧ (Jvm.Cond.and given_1 narrow_1).before args s = true
def lw_Q (_ : Array Value) (s : State) (o : Outcome) (t : State) : Prop := o = .returned (some (.int 1)) ∧ Framed s o t [] 600000 7302250
def lw_Z (below : List Frame) (a : Array Value) (s : State) : State → Prop := fun t => ∃ o, t.status = .running ∧ Ended t below o ∧ lw_Q a s o t
/-- the law's own end, with 1 on the stack, nothing written that was there before, its room as the claim has it -/
theorem lw_ret {p : Program} {l : Launch} {e : Env} {s : State} {m : MethodId} {below : List Frame} {meth : Method} {c : Code} {b : Nat} (hx : p.tables.exec = Jvm.exec) (hb : c.code = code) (hr : meth.sig.returnType = ret) (hlocks : meth.locks = false) {pc : Nat} {H : Heap} {ls : Array Slot} (hdg : decode code pc = .ok (.ireturn, 1)) : W p l e room_1 s m #[Value.ref b] below meth c H [] 600000 7302250 (lw_Z below #[Value.ref b] s) (F0 m pc ls [.int 1]) := by
  intro T hT X
  obtain ⟨fs, hret, hrun, hended, hW, hframe⟩ := X.leave (v := some (.int 1)) (hlocks := hlocks) (fun h => by rw [hr] at h; cases h)
  have hmeth' : T.vm.method? m = some meth := X.method'
  refine ⟨T.setFrames fs, ?_, .returned (some (.int 1)), hrun, hended, rfl, ⟨_, rfl⟩, hW, hframe⟩
  jvm_step X.here [X.here.top, hx, hb, hdg, hmeth', hr, ret, narrow_b1]
  (try refine ⟨rfl, ?_⟩); (try refine ⟨rfl, ?_⟩)
  first | (intro acts; rw [hret _ acts rfl rfl rfl]) | rw [hret _ _ rfl rfl rfl]
  exact Steps.refl _
/-- what holds at the law's entry: the machine, the code, the tables' words (any of lw_tbl by 'hts w (by decide +kernel)'), the script of L ints xs at the cell b, what the Statement gives of the start (any of its parts by flat_of_before) -/
def lw_At (p : Program) (s : State) (m : MethodId) (meth : Method) (c : Code) (b L : Nat) (xs : Nat → Int32) : Prop :=
  p.tables.exec = Jvm.exec ∧ c.code = code ∧ meth.sig.returnType = ret ∧ c.maxLocals = 4 ∧ s.vm.findClass R_law = some m.cls ∧ (∀ w ∈ lw_tbl, w.before #[Value.ref b] s = true) ∧ va_X b L xs s s.heap ∧ b < s.heap.size ∧ meth.locks = false ∧ (Jvm.Cond.and given_1 narrow_1).before #[Value.ref b] s = true

def al_tab : List (Nat × Nat × Nat × Nat × Nat) := [(0, 10, 159, 5, 0), (1, 13, 160, 1, 0), (2, 14, 161, 0, 0), (3, 62, 206, 1, 0), (4, 63, 207, 1, 0), (5, 80, 228, 3, 0), (6, 85, 229, 2, 0), (7, 86, 231, 2, 0), (8, 87, 234, 2, 0), (9, 89, 236, 2, 0), (10, 91, 238, 2, 0), (11, 93, 241, 2, 0), (12, 94, 242, 2, 0), (13, 106, 255, 1, 0), (14, 107, 256, 2, 0), (15, 112, 261, 2, 1), (16, 113, 262, 1, 0), (17, 119, 265, 0, 0), (18, 122, 267, 2, 0), (19, 124, 268, 1, 0), (20, 129, 272, 2, 0), (21, 131, 274, 1, 0), (22, 133, 277, 2, 0), (23, 134, 278, 1, 0), (24, 135, 279, 1, 0), (25, 137, 281, 1, 0), (26, 140, 273, 0, 0), (27, 142, 280, 1, 0), (28, 143, 283, 0, 1), (29, 150, 288, 0, 0), (30, 152, 291, 1, 0), (31, 153, 292, 0, 0), (32, 157, 295, 1, 0)]
set_option maxRecDepth 100000 in
theorem al_l13 : Cond.methodLink "MendedThingsLaw" 13 am_m10.1 ∈ am_tbl := am_in (List.mem_of_getElem? (i := 566) (by decide +kernel)) rfl
set_option maxRecDepth 100000 in
theorem al_l18 : Cond.methodLink "MendedThingsLaw" 18 am_m13.1 ∈ am_tbl := am_in (List.mem_of_getElem? (i := 578) (by decide +kernel)) rfl
set_option maxRecDepth 100000 in
theorem al_l23 : Cond.methodLink "MendedThingsLaw" 23 am_m14.1 ∈ am_tbl := am_in (List.mem_of_getElem? (i := 582) (by decide +kernel)) rfl
set_option maxRecDepth 100000 in
theorem al_l28 : Cond.methodLink "MendedThingsLaw" 28 am_m62.1 ∈ am_tbl := am_in (List.mem_of_getElem? (i := 827) (by decide +kernel)) rfl
set_option maxRecDepth 100000 in
theorem al_l33 : Cond.methodLink "MendedThingsLaw" 33 am_m63.1 ∈ am_tbl := am_in (List.mem_of_getElem? (i := 831) (by decide +kernel)) rfl
set_option maxRecDepth 100000 in
theorem al_l37 : Cond.methodLink "MendedThingsLaw" 37 am_m80.1 ∈ am_tbl := am_in (List.mem_of_getElem? (i := 895) (by decide +kernel)) rfl
set_option maxRecDepth 100000 in
theorem al_l42 : Cond.methodLink "MendedThingsLaw" 42 am_m85.1 ∈ am_tbl := am_in (List.mem_of_getElem? (i := 914) (by decide +kernel)) rfl
set_option maxRecDepth 100000 in
theorem al_l47 : Cond.methodLink "MendedThingsLaw" 47 am_m86.1 ∈ am_tbl := am_in (List.mem_of_getElem? (i := 919) (by decide +kernel)) rfl
set_option maxRecDepth 100000 in
theorem al_l51 : Cond.methodLink "MendedThingsLaw" 51 am_m87.1 ∈ am_tbl := am_in (List.mem_of_getElem? (i := 923) (by decide +kernel)) rfl
set_option maxRecDepth 100000 in
theorem al_l55 : Cond.methodLink "MendedThingsLaw" 55 am_m89.1 ∈ am_tbl := am_in (List.mem_of_getElem? (i := 932) (by decide +kernel)) rfl
set_option maxRecDepth 100000 in
theorem al_l59 : Cond.methodLink "MendedThingsLaw" 59 am_m91.1 ∈ am_tbl := am_in (List.mem_of_getElem? (i := 940) (by decide +kernel)) rfl
set_option maxRecDepth 100000 in
theorem al_l63 : Cond.methodLink "MendedThingsLaw" 63 am_m93.1 ∈ am_tbl := am_in (List.mem_of_getElem? (i := 948) (by decide +kernel)) rfl
set_option maxRecDepth 100000 in
theorem al_l67 : Cond.methodLink "MendedThingsLaw" 67 am_m94.1 ∈ am_tbl := am_in (List.mem_of_getElem? (i := 952) (by decide +kernel)) rfl
set_option maxRecDepth 100000 in
theorem al_l71 : Cond.methodLink "MendedThingsLaw" 71 am_m106.1 ∈ am_tbl := am_in (List.mem_of_getElem? (i := 1005) (by decide +kernel)) rfl
set_option maxRecDepth 100000 in
theorem al_l75 : Cond.methodLink "MendedThingsLaw" 75 am_m107.1 ∈ am_tbl := am_in (List.mem_of_getElem? (i := 1009) (by decide +kernel)) rfl
set_option maxRecDepth 100000 in
theorem al_l79 : Cond.methodLink "MendedThingsLaw" 79 am_m112.1 ∈ am_tbl := am_in (List.mem_of_getElem? (i := 1036) (by decide +kernel)) rfl
set_option maxRecDepth 100000 in
theorem al_l84 : Cond.methodLink "MendedThingsLaw" 84 am_m113.1 ∈ am_tbl := am_in (List.mem_of_getElem? (i := 1042) (by decide +kernel)) rfl
set_option maxRecDepth 100000 in
theorem al_l88 : Cond.methodLink "MendedThingsLaw" 88 am_m119.1 ∈ am_tbl := am_in (List.mem_of_getElem? (i := 1068) (by decide +kernel)) rfl
set_option maxRecDepth 100000 in
theorem al_l92 : Cond.methodLink "MendedThingsLaw" 92 am_m122.1 ∈ am_tbl := am_in (List.mem_of_getElem? (i := 1082) (by decide +kernel)) rfl
set_option maxRecDepth 100000 in
theorem al_l96 : Cond.methodLink "MendedThingsLaw" 96 am_m124.1 ∈ am_tbl := am_in (List.mem_of_getElem? (i := 1090) (by decide +kernel)) rfl
set_option maxRecDepth 100000 in
theorem al_l100 : Cond.methodLink "MendedThingsLaw" 100 am_m129.1 ∈ am_tbl := am_in (List.mem_of_getElem? (i := 1111) (by decide +kernel)) rfl
set_option maxRecDepth 100000 in
theorem al_l104 : Cond.methodLink "MendedThingsLaw" 104 am_m131.1 ∈ am_tbl := am_in (List.mem_of_getElem? (i := 1120) (by decide +kernel)) rfl
set_option maxRecDepth 100000 in
theorem al_l108 : Cond.methodLink "MendedThingsLaw" 108 am_m133.1 ∈ am_tbl := am_in (List.mem_of_getElem? (i := 1131) (by decide +kernel)) rfl
set_option maxRecDepth 100000 in
theorem al_l112 : Cond.methodLink "MendedThingsLaw" 112 am_m134.1 ∈ am_tbl := am_in (List.mem_of_getElem? (i := 1135) (by decide +kernel)) rfl
set_option maxRecDepth 100000 in
theorem al_l116 : Cond.methodLink "MendedThingsLaw" 116 am_m135.1 ∈ am_tbl := am_in (List.mem_of_getElem? (i := 1139) (by decide +kernel)) rfl
set_option maxRecDepth 100000 in
theorem al_l120 : Cond.methodLink "MendedThingsLaw" 120 am_m137.1 ∈ am_tbl := am_in (List.mem_of_getElem? (i := 1147) (by decide +kernel)) rfl
set_option maxRecDepth 100000 in
theorem al_l124 : Cond.methodLink "MendedThingsLaw" 124 am_m140.1 ∈ am_tbl := am_in (List.mem_of_getElem? (i := 1163) (by decide +kernel)) rfl
set_option maxRecDepth 100000 in
theorem al_l129 : Cond.methodLink "MendedThingsLaw" 129 am_m142.1 ∈ am_tbl := am_in (List.mem_of_getElem? (i := 1171) (by decide +kernel)) rfl
set_option maxRecDepth 100000 in
theorem al_l133 : Cond.methodLink "MendedThingsLaw" 133 am_m143.1 ∈ am_tbl := am_in (List.mem_of_getElem? (i := 1175) (by decide +kernel)) rfl
set_option maxRecDepth 100000 in
theorem al_l138 : Cond.methodLink "MendedThingsLaw" 138 am_m150.1 ∈ am_tbl := am_in (List.mem_of_getElem? (i := 1207) (by decide +kernel)) rfl
set_option maxRecDepth 100000 in
theorem al_l142 : Cond.methodLink "MendedThingsLaw" 142 am_m152.1 ∈ am_tbl := am_in (List.mem_of_getElem? (i := 1214) (by decide +kernel)) rfl
set_option maxRecDepth 100000 in
theorem al_l146 : Cond.methodLink "MendedThingsLaw" 146 am_m153.1 ∈ am_tbl := am_in (List.mem_of_getElem? (i := 1218) (by decide +kernel)) rfl
set_option maxRecDepth 100000 in
theorem al_l150 : Cond.methodLink "MendedThingsLaw" 150 am_m157.1 ∈ am_tbl := am_in (List.mem_of_getElem? (i := 1234) (by decide +kernel)) rfl
set_option maxRecDepth 100000 in
theorem al_l17 : Cond.methodLink "MendedThingsLaw" 17 am_m159.1 ∈ am_tbl := am_in (List.mem_of_getElem? (i := 1557) (by decide +kernel)) rfl
set_option maxRecDepth 100000 in
theorem al_l22 : Cond.methodLink "MendedThingsLaw" 22 am_m160.1 ∈ am_tbl := am_in (List.mem_of_getElem? (i := 1561) (by decide +kernel)) rfl
set_option maxRecDepth 100000 in
theorem al_l27 : Cond.methodLink "MendedThingsLaw" 27 am_m161.1 ∈ am_tbl := am_in (List.mem_of_getElem? (i := 1565) (by decide +kernel)) rfl
set_option maxRecDepth 100000 in
theorem al_l32 : Cond.methodLink "MendedThingsLaw" 32 am_m206.1 ∈ am_tbl := am_in (List.mem_of_getElem? (i := 1742) (by decide +kernel)) rfl
set_option maxRecDepth 100000 in
theorem al_l36 : Cond.methodLink "MendedThingsLaw" 36 am_m207.1 ∈ am_tbl := am_in (List.mem_of_getElem? (i := 1746) (by decide +kernel)) rfl
set_option maxRecDepth 100000 in
theorem al_l41 : Cond.methodLink "MendedThingsLaw" 41 am_m228.1 ∈ am_tbl := am_in (List.mem_of_getElem? (i := 1829) (by decide +kernel)) rfl
set_option maxRecDepth 100000 in
theorem al_l46 : Cond.methodLink "MendedThingsLaw" 46 am_m229.1 ∈ am_tbl := am_in (List.mem_of_getElem? (i := 1835) (by decide +kernel)) rfl
set_option maxRecDepth 100000 in
theorem al_l50 : Cond.methodLink "MendedThingsLaw" 50 am_m231.1 ∈ am_tbl := am_in (List.mem_of_getElem? (i := 1845) (by decide +kernel)) rfl
set_option maxRecDepth 100000 in
theorem al_l54 : Cond.methodLink "MendedThingsLaw" 54 am_m234.1 ∈ am_tbl := am_in (List.mem_of_getElem? (i := 1857) (by decide +kernel)) rfl
set_option maxRecDepth 100000 in
theorem al_l58 : Cond.methodLink "MendedThingsLaw" 58 am_m236.1 ∈ am_tbl := am_in (List.mem_of_getElem? (i := 1866) (by decide +kernel)) rfl
set_option maxRecDepth 100000 in
theorem al_l62 : Cond.methodLink "MendedThingsLaw" 62 am_m238.1 ∈ am_tbl := am_in (List.mem_of_getElem? (i := 1874) (by decide +kernel)) rfl
set_option maxRecDepth 100000 in
theorem al_l66 : Cond.methodLink "MendedThingsLaw" 66 am_m241.1 ∈ am_tbl := am_in (List.mem_of_getElem? (i := 1886) (by decide +kernel)) rfl
set_option maxRecDepth 100000 in
theorem al_l70 : Cond.methodLink "MendedThingsLaw" 70 am_m242.1 ∈ am_tbl := am_in (List.mem_of_getElem? (i := 1890) (by decide +kernel)) rfl
set_option maxRecDepth 100000 in
theorem al_l74 : Cond.methodLink "MendedThingsLaw" 74 am_m255.1 ∈ am_tbl := am_in (List.mem_of_getElem? (i := 1942) (by decide +kernel)) rfl
set_option maxRecDepth 100000 in
theorem al_l78 : Cond.methodLink "MendedThingsLaw" 78 am_m256.1 ∈ am_tbl := am_in (List.mem_of_getElem? (i := 1946) (by decide +kernel)) rfl
set_option maxRecDepth 100000 in
theorem al_l83 : Cond.methodLink "MendedThingsLaw" 83 am_m261.1 ∈ am_tbl := am_in (List.mem_of_getElem? (i := 1967) (by decide +kernel)) rfl
set_option maxRecDepth 100000 in
theorem al_l87 : Cond.methodLink "MendedThingsLaw" 87 am_m262.1 ∈ am_tbl := am_in (List.mem_of_getElem? (i := 1972) (by decide +kernel)) rfl
set_option maxRecDepth 100000 in
theorem al_l91 : Cond.methodLink "MendedThingsLaw" 91 am_m265.1 ∈ am_tbl := am_in (List.mem_of_getElem? (i := 1985) (by decide +kernel)) rfl
set_option maxRecDepth 100000 in
theorem al_l95 : Cond.methodLink "MendedThingsLaw" 95 am_m267.1 ∈ am_tbl := am_in (List.mem_of_getElem? (i := 1993) (by decide +kernel)) rfl
set_option maxRecDepth 100000 in
theorem al_l99 : Cond.methodLink "MendedThingsLaw" 99 am_m268.1 ∈ am_tbl := am_in (List.mem_of_getElem? (i := 1997) (by decide +kernel)) rfl
set_option maxRecDepth 100000 in
theorem al_l103 : Cond.methodLink "MendedThingsLaw" 103 am_m272.1 ∈ am_tbl := am_in (List.mem_of_getElem? (i := 2015) (by decide +kernel)) rfl
set_option maxRecDepth 100000 in
theorem al_l128 : Cond.methodLink "MendedThingsLaw" 128 am_m273.1 ∈ am_tbl := am_in (List.mem_of_getElem? (i := 2019) (by decide +kernel)) rfl
set_option maxRecDepth 100000 in
theorem al_l107 : Cond.methodLink "MendedThingsLaw" 107 am_m274.1 ∈ am_tbl := am_in (List.mem_of_getElem? (i := 2023) (by decide +kernel)) rfl
set_option maxRecDepth 100000 in
theorem al_l111 : Cond.methodLink "MendedThingsLaw" 111 am_m277.1 ∈ am_tbl := am_in (List.mem_of_getElem? (i := 2035) (by decide +kernel)) rfl
set_option maxRecDepth 100000 in
theorem al_l115 : Cond.methodLink "MendedThingsLaw" 115 am_m278.1 ∈ am_tbl := am_in (List.mem_of_getElem? (i := 2039) (by decide +kernel)) rfl
set_option maxRecDepth 100000 in
theorem al_l119 : Cond.methodLink "MendedThingsLaw" 119 am_m279.1 ∈ am_tbl := am_in (List.mem_of_getElem? (i := 2043) (by decide +kernel)) rfl
set_option maxRecDepth 100000 in
theorem al_l132 : Cond.methodLink "MendedThingsLaw" 132 am_m280.1 ∈ am_tbl := am_in (List.mem_of_getElem? (i := 2047) (by decide +kernel)) rfl
set_option maxRecDepth 100000 in
theorem al_l123 : Cond.methodLink "MendedThingsLaw" 123 am_m281.1 ∈ am_tbl := am_in (List.mem_of_getElem? (i := 2051) (by decide +kernel)) rfl
set_option maxRecDepth 100000 in
theorem al_l137 : Cond.methodLink "MendedThingsLaw" 137 am_m283.1 ∈ am_tbl := am_in (List.mem_of_getElem? (i := 2063) (by decide +kernel)) rfl
set_option maxRecDepth 100000 in
theorem al_l141 : Cond.methodLink "MendedThingsLaw" 141 am_m288.1 ∈ am_tbl := am_in (List.mem_of_getElem? (i := 2083) (by decide +kernel)) rfl
set_option maxRecDepth 100000 in
theorem al_l145 : Cond.methodLink "MendedThingsLaw" 145 am_m291.1 ∈ am_tbl := am_in (List.mem_of_getElem? (i := 2094) (by decide +kernel)) rfl
set_option maxRecDepth 100000 in
theorem al_l149 : Cond.methodLink "MendedThingsLaw" 149 am_m292.1 ∈ am_tbl := am_in (List.mem_of_getElem? (i := 2098) (by decide +kernel)) rfl
set_option maxRecDepth 100000 in
theorem al_l153 : Cond.methodLink "MendedThingsLaw" 153 am_m295.1 ∈ am_tbl := am_in (List.mem_of_getElem? (i := 2110) (by decide +kernel)) rfl
section
variable {p : Program} {l : Launch} {e : Env} {s : State} {m : MethodId} {below : List Frame} {meth : Method} {c : Code} {b L : Nat} {xs : Nat → Int32} {H : Heap} {locs : List Loc} {cells slots : Nat} {Q : State → Prop} {D : va_G} {dA : Nat → ClassId} {sa sv : Nat} {ad : List Nat} {ls : Array Slot} {f : am_F}
/-- the world between two calls -/
def al_R (s : State) (D : va_G) (dA : Nat → ClassId) (sa : Nat) (ad : List Nat) (f : am_F) (H : Heap) (locs : List Loc) : Prop := ad.length = aw_SH.length ∧ am_WT aw_SH f ∧ va_P D am_cl (am_ws dA sa ad aw_SH f) H ∧ va_D (fun q => s.heap.size ≤ q) (am_ws dA sa ad aw_SH f) ∧ va_S (fun q => s.heap.size ≤ q) s.heap H locs
/-- what stays during the law -/
def al_C (p : Program) (s : State) (m : MethodId) (meth : Method) (c : Code) (b L : Nat) (xs : Nat → Int32) (D : va_G) (dA : Nat → ClassId) (sa sv : Nat) : Prop := lw_At p s m meth c b L xs ∧ va_K D am_cl (am_tys dA) s ∧ am_Fo sa sv (fun q => s.heap.size ≤ q) s s.heap ∧ L ≤ 3072
theorem al_call {pc idx mi : Nat} {q : am_Q} {as : List am_V} {t0 : Nat} {a0 : Int} {rest : List Value} {Qp : am_V → am_F → Prop} (C : al_C p s m meth c b L xs D dA sa sv) (hR : al_R s D dA sa ad f H locs) (hl : ls.size = 4) (hq : am_M[mi]? = some q) (hkk : q.2.2.2.2.2.2.2.1 = 1) (hlink : Cond.methodLink "MendedThingsLaw" idx q.1 ∈ am_tbl) (hd : decode code pc = .ok (.invokevirtual idx, 3)) (htags : ((t0, a0) :: as).map Prod.fst = am_pt mi) (ha0 : 0 ≤ a0) (hoka : ∀ v ∈ (t0, a0) :: as, am_okv aw_SH v) (hrest : (rest.map fun v => v.category).sum ≤ 8) (hcs : cells ≤ 600000 ∧ slots ≤ 7302250) (hcl : aw_cl 100 mi ((t0, a0) :: as) f Qp)
    (kk : ∀ (v : am_V) (f' : am_F) (H1 : Heap) (locs1 : List Loc), Qp v f' → am_okv aw_SH v → al_R s D dA sa ad f' H1 locs1 → W p l e room_1 s m #[Value.ref b] below meth c H1 locs1 cells slots Q (F0 m (pc + 3) ls ((if v.1 = 3 then none else some (am_rv sa ad v)).toList ++ rest))) : W p l e room_1 s m #[Value.ref b] below meth c H locs cells slots Q (F0 m pc ls ((as.map (am_rv sa ad)).reverse ++ am_rv sa ad (t0, a0) :: rest)) := by
  obtain ⟨⟨hx, hb, hr, hml, hown, hts0, hX, hbl, hlk, hgv⟩, hK, hFo, hL⟩ := C
  have hts : ∀ w ∈ am_tbl, w.before #[Value.ref b] s = true := fun w hw => hts0 w (List.mem_filter.mp hw).1
  obtain ⟨hla, hWT, hP, hD, hS⟩ := hR
  obtain ⟨n, v, f', hrun, hQp⟩ := hcl
  have hmc' := am_mok hq
  unfold am_mc at hmc'
  simp only [Bool.and_eq_true, decide_eq_true_eq] at hmc'
  obtain ⟨⟨⟨⟨⟨⟨⟨⟨i1, i2⟩, i3⟩, i4⟩, i5⟩, i6⟩, i7⟩, i8⟩, i9⟩ := hmc'
  have ept : am_pt mi = q.2.2.2.2.2.1 := by unfold am_pt; rw [hq]
  rw [hkk] at i4
  simp only [Bool.and_eq_true, decide_eq_true_eq] at i4
  obtain ⟨⟨⟨⟨j1, j2⟩, j3⟩, j4⟩, j5⟩ := i4
  have ht0 : t0 = 100 + q.2.2.2.2.1 := by
    rw [← ept, ← htags] at j4
    exact Option.some.inj j4
  have e0 : am_rv sa ad (t0, a0) = .ref (ad.getD a0.toNat 0) := am_rvr (by omega) (by omega) ha0
  have hM := am_met (am_snd n) hq hrun htags hoka l D dA sa sv ad H.size hla hWT
  rw [Nat.sub_self, Nat.sub_self] at hM
  have hA : ∀ x, s.heap.size ≤ x → (fun q : Nat => s.heap.size ≤ q) x := fun _ h => h
  have hFc : ∀ x, va_A (am_ws dA sa ad aw_SH f) H.size x → (fun q : Nat => s.heap.size ≤ q) x := by
    intro x hx
    rcases hx with ⟨kx, ex, hx⟩ | hx
    · exact hD.2 kx _ hx
    · exact Nat.le_trans hS.1 hx
  have hPre : ∀ U : State, U.heap = H → s.WarmedH U.vm → va_Pc (((t0, a0) :: as).map (am_rv sa ad)) (am_pr0 D dA sa sv ad aw_SH f H.size) (((t0, a0) :: as).map (am_rv sa ad)).toArray U := by
    intro U hU hW
    exact ⟨rfl, by rw [hU], by rw [hU]; exact hP, va_K.moved hW.alike hK, hD.weaken (fun _ _ _ _ => trivial), by rw [hU]; exact am_Fo.pass hFo hS hW hFc⟩
  have hcw : Cond.code q.1 q.2.1 q.2.2.1 q.2.2.2.1 ∈ am_tbl := am_cwok hq
  have hwords : ∀ w ∈ (Cond.code q.1 q.2.1 q.2.2.1 q.2.2.2.1 :: am_tbl), ∀ (a' : Array Value) (U : State), s.WarmedH U.vm → w.before a' U = true := by
    intro w hw a' U hW
    rcases List.mem_cons.mp hw with rfl | hw
    · exact am_warm hts hW _ hcw a'
    · exact am_warm hts hW w hw a'
  have hini : Cond.initialized q.1.cls ∈ am_tbl := am_in (List.mem_of_getElem? i3) rfl
  have hrcv : ∃ cell : Cell, H[ad.getD a0.toNat 0]? = some cell ∧ cell.vm.isStatics = false ∧ s.vm.findClass q.1.cls = some cell.cls := by
    obtain ⟨nn, z1, z2, z3, z4⟩ := am_at hWT (hoka _ List.mem_cons_self) (by omega) (by omega) ha0
    have he := am_ws_at (dA := dA) (sa := sa) (ad := ad) (f := f) z1
    rw [am_cellO (by omega)] at he
    rcases z2 with z2 | ⟨-, r2, z5, z6⟩
    · omega
    · have hci : t0 - 100 = q.2.2.2.2.1 := by omega
      rw [hci] at z5 he
      have := va_recv hK hP z5 he
      rw [am_own z5 i1] at this
      exact this
  have hasl : as.length + 1 = q.2.2.2.2.2.1.length := by rw [← ept, ← htags]; simp
  rw [List.map_cons, e0] at hM hPre
  rw [e0]
  refine am_callk (va_runV (As := as.map (am_rv sa ad)) (rest := rest) (n := as.length) (C := q.1.cls) (b := ad.getD a0.toNat 0) ⟨hx, hb, hml, hown, hts⟩ hM ⟨⟨rfl, rfl, Nat.le_of_ble_eq_true rfl, al_rm i7, hwords, List.mem_cons_self, hts _ hcw, hts _ hini, i6, fun sig hsig => ?_, hts _ hlink⟩, hts _ (am_in (List.mem_of_getElem? j1) rfl), hts _ (am_in (List.mem_of_getElem? j2) rfl)⟩ ⟨am_pr0_blind, hrcv, hPre⟩ rfl (List.length_map _) hl rfl (lv_room hrest) hd ⟨hcs.1, hcs.2⟩) hS (fun x _ hx => hFc x hx) hFc (fun st o t h => h.2) ?_
  · rw [hsig] at j3
    have h9 : sig.parameters.length + 1 = _ := Option.some.inj j3
    omega
  · intro v9 st t H1 locs1 hpo ht hS1
    obtain ⟨⟨ad', ⟨x1, hx1⟩, ho, p1, p2, p3, p4, p5⟩, -⟩ := hpo
    have hx0 : x1 = [] := by
      have h1 := congrArg List.length hx1
      rw [List.length_append] at h1
      exact List.length_eq_zero_iff.mp (by omega)
    rw [hx0, List.append_nil] at hx1
    subst hx1
    rw [ht] at p4
    have ho : v9 = if v.1 = 3 then none else some (am_rv sa ad' v) := by injection ho
    rw [ho]
    exact kk v f' H1 locs1 hQp p3 ⟨p1, p2, p4, p5.weaken (fun _ _ _ hx => hFc _ hx), hS1⟩
theorem al_arg {pc k : Nat} {st : List Value} {i : Nat} (C : al_C p s m meth c b L xs D dA sa sv) (hR : al_R s D dA sa ad f H locs) (hl : lv_has ls 4 [(0, .ref b), (1, .ref (ad.getD 0 0)), (2, .ref (ad.getD 270 0)), (3, .int (nI i))]) (hi : i + 6 ≤ L) (hk : k < 6) (d0 : decode code pc = .ok (.aload_n 0, 1)) (d1 : decode code (pc + 1) = .ok (.iload_n 3, 1)) (d2 : decode code (pc + 2) = .ok (.iconst (k : Int), 1)) (d3 : decode code (pc + 3) = .ok (.iadd, 1)) (d4 : decode code (pc + 4) = .ok (.iaload, 1)) (kk : W p l e room_1 s m #[Value.ref b] below meth c H locs cells slots Q (F0 m (pc + 5) ls (.int (xs (i + k)) :: st))) : W p l e room_1 s m #[Value.ref b] below meth c H locs cells slots Q (F0 m pc ls st) := by
  obtain ⟨⟨hx, hb, hr, hml, hown, hts0, hX, hbl, hlk, hgv⟩, hK, hFo, hL⟩ := C
  refine lv_aload_n hx hb d0 rfl (lv_at hl 0 rfl) ?_
  refine lv_iload_n hx hb d1 rfl (lv_at hl 3 rfl) ?_
  refine lv_iconst (v := nI k) hx hb d2 rfl ?_
  refine lv_iadd hx hb d3 ?_
  rw [nI_add]
  refine va_sld hx hb hX hbl (Nat.not_le.mpr hbl) hR.2.2.2.2 (vp_in_nI (by omega) (by omega)) d4 ?_
  rw [nI_clamp (by omega)]
  exact kk
end

/-- what the pure side owes: each call of the two answers alike, and Inv holds again -/
def al_H (Inv : am_F → Prop) : Prop := ∀ q ∈ al_tab, ∀ (f : am_F) (as : List Int), as.length = q.2.2.2.1 → (∀ x ∈ as, am_inI x) → Inv f → aw_cl 100 q.2.1 ((109, 0) :: as.map (fun x => (0, x))) f (fun v f1 => aw_cl 100 q.2.2.1 ((110, 270) :: as.map (fun x => (0, x))) f1 (fun w f2 => w = v ∧ v.1 = q.2.2.2.2 ∧ Inv f2))
theorem al_ints {sh : am_H} {as : List Int} (h : ∀ x ∈ as, am_inI x) : ∀ v ∈ as.map (fun x => ((0 : Nat), x)), am_okv sh v := by
  intro v hv
  obtain ⟨x, hx, rfl⟩ := List.mem_map.mp hv
  exact am_ok0 (h x hx)
theorem al_mem {q : Nat × Nat × Nat × Nat × Nat} (i : Nat) (h : al_tab[i]? = some q) : q ∈ al_tab := List.mem_of_getElem? h
theorem al_xs {x : Int32} : Int32.ofInt x.toInt = x := Int32.ofInt_toInt x
theorem al_sh0 : aw_SH[0]? = some (109, 16) := by decide +kernel
theorem al_sh270 : aw_SH[270]? = some (110, 103) := by decide +kernel
theorem al_ok109 : am_okv aw_SH (109, 0) := ⟨fun h => (by cases h), fun h => (by cases h), fun _ _ _ => ⟨16, al_sh0⟩⟩
theorem al_ok110 : am_okv aw_SH (110, 270) := ⟨fun h => (by cases h), fun h => (by cases h), fun _ _ _ => ⟨103, al_sh270⟩⟩
