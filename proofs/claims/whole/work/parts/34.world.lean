def al_ce (j : Nat) : Cond := Cond.eq (.elem (.field (.string "MendedThings$Reader" 139) "java/lang/String" "value" "[B") (.int (Int32.ofNat j))) (.int (([am_txt.map Int32.ofInt].getD 0 []).getD j 0))
set_option maxRecDepth 100000 in
theorem al_fl : (flatC (Jvm.Cond.and given_1 narrow_1)).drop 13 = (List.range 171).map al_ce := by decide +kernel
theorem al_txt {j : Nat} (hj : j < 171) : al_ce j ∈ flatC (Jvm.Cond.and given_1 narrow_1) := List.mem_of_mem_drop (by rw [al_fl]; exact List.mem_map.mpr ⟨j, List.mem_range.mpr hj, rfl⟩)
set_option maxRecDepth 100000 in
theorem al_z1 : Cond.laysStatic "java/lang/String" "COMPACT_STRINGS" "Z" ∈ lw_tbl := List.mem_of_getElem? (i := 633) (by decide +kernel)
set_option maxRecDepth 100000 in
theorem al_z2 : Cond.initialized "java/lang/String" ∈ lw_tbl := List.mem_of_getElem? (i := 166) (by decide +kernel)
set_option maxRecDepth 100000 in
theorem al_z3 : Cond.laysStatic "jdk/internal/util/Preconditions" "SIOOBE_FORMATTER" "Ljava/util/function/BiFunction;" ∈ lw_tbl := List.mem_of_getElem? (i := 649) (by decide +kernel)
set_option maxRecDepth 100000 in
theorem al_z4 : Cond.initialized "jdk/internal/util/Preconditions" ∈ lw_tbl := List.mem_of_getElem? (i := 168) (by decide +kernel)
set_option maxRecDepth 100000 in
theorem al_z5 : Cond.stringRef "MendedThings$Reader" 139 am_wd ∈ lw_tbl := List.mem_of_getElem? (i := 623) (by decide +kernel)
set_option maxRecDepth 100000 in
theorem al_in0 : Cond.instantiable RX0 14 ∈ lw_tbl := List.mem_of_getElem? (i := 182) (by decide +kernel)
set_option maxRecDepth 100000 in
theorem al_in1 : Cond.instantiable RX1 4 ∈ lw_tbl := List.mem_of_getElem? (i := 371) (by decide +kernel)
set_option maxRecDepth 100000 in
theorem al_in2 : Cond.instantiable RX2 3 ∈ lw_tbl := List.mem_of_getElem? (i := 498) (by decide +kernel)
set_option maxRecDepth 100000 in
theorem al_in3 : Cond.instantiable RX3 9 ∈ lw_tbl := List.mem_of_getElem? (i := 390) (by decide +kernel)
set_option maxRecDepth 100000 in
theorem al_in4 : Cond.instantiable RX4 13 ∈ lw_tbl := List.mem_of_getElem? (i := 312) (by decide +kernel)
set_option maxRecDepth 100000 in
theorem al_in5 : Cond.instantiable RX5 1 ∈ lw_tbl := List.mem_of_getElem? (i := 361) (by decide +kernel)
set_option maxRecDepth 100000 in
theorem al_in6 : Cond.instantiable RX6 4 ∈ lw_tbl := List.mem_of_getElem? (i := 188) (by decide +kernel)
set_option maxRecDepth 100000 in
theorem al_in7 : Cond.instantiable RX7 12 ∈ lw_tbl := List.mem_of_getElem? (i := 428) (by decide +kernel)
set_option maxRecDepth 100000 in
theorem al_in8 : Cond.instantiable RX8 2 ∈ lw_tbl := List.mem_of_getElem? (i := 293) (by decide +kernel)
set_option maxRecDepth 100000 in
theorem al_in9 : Cond.instantiable RX9 16 ∈ lw_tbl := List.mem_of_getElem? (i := 174) (by decide +kernel)
set_option maxRecDepth 100000 in
theorem al_in10 : Cond.instantiable RX10 103 ∈ lw_tbl := List.mem_of_getElem? (i := 1239) (by decide +kernel)
set_option maxRecDepth 100000 in
/-- what lies ahead of the law: the classes' numbers, the array classes, the text constant -/
theorem al_world {p : Program} {s : State} {m : MethodId} {meth : Method} {c : Code} {b L : Nat} {xs : Nat → Int32} (C0 : lw_At p s m meth c b L xs) : ∃ (D : va_G) (dA : Nat → ClassId) (sa sv : Nat), va_K D am_cl (am_tys dA) s ∧ am_Fo sa sv (fun q => s.heap.size ≤ q) s s.heap := by
  obtain ⟨hx, hb, hr, hml, hown, hts, hX, hbl, hlk, hgv⟩ := C0
  have htb : ∀ w ∈ am_tbl, w.before #[Value.ref b] s = true := fun w hw => hts w (List.mem_filter.mp hw).1

  obtain ⟨c0, iS0, hKn0⟩ := u_known (C := RX0) (T := TX0) (N := 14) (n := 14) htb inX0 (hts _ al_in0)
  obtain ⟨c1, iS1, hKn1⟩ := u_known (C := RX1) (T := TX1) (N := 4) (n := 4) htb inX1 (hts _ al_in1)
  obtain ⟨c2, iS2, hKn2⟩ := u_known (C := RX2) (T := TX2) (N := 3) (n := 3) htb inX2 (hts _ al_in2)
  obtain ⟨c3, iS3, hKn3⟩ := u_known (C := RX3) (T := TX3) (N := 9) (n := 9) htb inX3 (hts _ al_in3)
  obtain ⟨c4, iS4, hKn4⟩ := u_known (C := RX4) (T := TX4) (N := 13) (n := 13) htb inX4 (hts _ al_in4)
  obtain ⟨c5, iS5, hKn5⟩ := u_known (C := RX5) (T := TX5) (N := 1) (n := 1) htb inX5 (hts _ al_in5)
  obtain ⟨c6, iS6, hKn6⟩ := u_known (C := RX6) (T := TX6) (N := 4) (n := 4) htb inX6 (hts _ al_in6)
  obtain ⟨c7, iS7, hKn7⟩ := u_known (C := RX7) (T := TX7) (N := 12) (n := 12) htb inX7 (hts _ al_in7)
  obtain ⟨c8, iS8, hKn8⟩ := u_known (C := RX8) (T := TX8) (N := 2) (n := 2) htb inX8 (hts _ al_in8)
  obtain ⟨c9, iS9, hKn9⟩ := u_known (C := RX9) (T := TX9) (N := 16) (n := 16) htb inX9 (hts _ al_in9)
  obtain ⟨c10, iS10, hKn10⟩ := u_known (C := RX10) (T := TX10) (N := 103) (n := 103) htb inX10 (hts _ al_in10)
  obtain ⟨dC, dI, hKc⟩ : ∃ (dC : Nat → ClassId) (dI : Nat → Nat → Nat), ∀ (k : Nat) (q : vw_C), am_cl[k]? = some q → u_Kn s q.1 q.2.1 q.2.2 (dC k) (dI k) := by
    refine ⟨fun k => match k with | 0 => c0 | 1 => c1 | 2 => c2 | 3 => c3 | 4 => c4 | 5 => c5 | 6 => c6 | 7 => c7 | 8 => c8 | 9 => c9 | _ => c10, fun k => match k with | 0 => iS0 | 1 => iS1 | 2 => iS2 | 3 => iS3 | 4 => iS4 | 5 => iS5 | 6 => iS6 | 7 => iS7 | 8 => iS8 | 9 => iS9 | _ => iS10, ?_⟩
    intro k q hq
    match k, hq with
    | 0, hq => cases hq; exact hKn0
    | 1, hq => cases hq; exact hKn1
    | 2, hq => cases hq; exact hKn2
    | 3, hq => cases hq; exact hKn3
    | 4, hq => cases hq; exact hKn4
    | 5, hq => cases hq; exact hKn5
    | 6, hq => cases hq; exact hKn6
    | 7, hq => cases hq; exact hKn7
    | 8, hq => cases hq; exact hKn8
    | 9, hq => cases hq; exact hKn9
    | 10, hq => cases hq; exact hKn10
    | k + 11, hq => simp [am_cl] at hq
  obtain ⟨a20, k20, p20, f20, g20, j20⟩ := Cond.arrayClass_spec (htb _ am_ac20)
  obtain ⟨a21, k21, p21, f21, g21, j21⟩ := Cond.arrayClass_spec (htb _ am_ac21)
  obtain ⟨a22, k22, p22, f22, g22, j22⟩ := Cond.arrayClass_spec (htb _ am_ac22)
  obtain ⟨a23, k23, p23, f23, g23, j23⟩ := Cond.arrayClass_spec (htb _ am_ac23)
  obtain ⟨p24, a24, k24, f24, e24, g24, j24, m24⟩ := Cond.arrayOver_spec (htb _ am_ao)
  have hA : ∀ a : Nat, a < s.heap.size → ¬ (fun q : Nat => s.heap.size ≤ q) a := fun a h => Nat.not_le.mpr h
  have hs := flat_of_before _ hgv
  have hZ := va_Zof (A := fun q => s.heap.size ≤ q) (hts _ al_z1) (hts _ al_z2) (va_eqi (z := 1) (hs _ (List.mem_of_getElem? (i := 4) (by decide +kernel)))) hA
  have hZq := va_Zqof (A := fun q => s.heap.size ≤ q) (hts _ al_z3) (hts _ al_z4) (hs _ (List.mem_of_getElem? (i := 5) (by decide +kernel))) hA
  obtain ⟨adK, adV, hvS, hev⟩ := vk_Sof (args := #[Value.ref b]) (s := s) (N := 1) (tm := fun _ => .string "MendedThings$Reader" 139) (len := [am_txt.length]) (byt := [am_txt.map Int32.ofInt]) (A := fun q => s.heap.size ≤ q)
    (fun i hi => by
      obtain rfl : i = 0 := by omega
      decide +kernel)
    (fun i hi => hs _ (List.mem_of_getElem? (i := 9) (by decide +kernel))) (fun i hi => hs _ (List.mem_of_getElem? (i := 10) (by decide +kernel))) (fun i hi => hs _ (List.mem_of_getElem? (i := 11) (by decide +kernel)))
    (fun i hi => by
      obtain rfl : i = 0 := by omega
      exact hs _ (List.mem_of_getElem? (i := 12) (by decide +kernel)))
    (fun i hi j hj => by
      obtain rfl : i = 0 := by omega
      exact hs _ (al_txt hj))
    (fun i j hi hj hne => absurd (show i = j by omega) hne) hA
  refine ⟨(dC, dI), fun k => match k with | 0 => a20 | 1 => a21 | 2 => a22 | 3 => a23 | _ => a24, adK 0, adV 0, ⟨hKc, ?_⟩, ?_⟩
  · intro k q hq
    match k, hq with
    | 0, hq => cases hq; exact ⟨fun n z => ⟨fun k h => (by cases h), k20, g20, p20, j20⟩, f20⟩
    | 1, hq => cases hq; exact ⟨fun n z => ⟨fun k h => (by cases h), k21, g21, p21, j21⟩, f21⟩
    | 2, hq => cases hq; exact ⟨fun n z => ⟨fun k h => (by cases h), k22, g22, p22, j22⟩, f22⟩
    | 3, hq => cases hq; exact ⟨fun n z => ⟨fun k h => (by cases h), k23, g23, p23, j23⟩, f23⟩
    | 4, hq => cases hq; exact ⟨fun n z => ⟨fun k h => (by cases h), k24, g24, p24, j24⟩, k24, p24, g24, j24, f24, m24⟩
    | k + 5, hq => simp [am_tys] at hq
  · refine ⟨vk_R.of (hts _ al_z5) (hev 0 (by decide)), ?_, hZ, hZq⟩
    refine ⟨fun i hi => ?_, fun i j hi hj _ => by omega⟩
    obtain rfl : i = 0 := by omega
    exact hvS.1 0 (by decide)

