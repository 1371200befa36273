/-! numbers: whole numbers beside the machine's -/
def am_inI (x : Int) : Prop := -2147483648 ≤ x ∧ x < 2147483648
def am_inL (x : Int) : Prop := -9223372036854775808 ≤ x ∧ x < 9223372036854775808
theorem am_ofw (x : Int) : Int32.ofInt (am_wI x) = Int32.ofInt x := Int32.ofInt_toInt _
theorem am_ofL (x : Int) : Int64.ofInt (am_wL x) = Int64.ofInt x := Int64.ofInt_toInt _
theorem am_inT (x : Int32) : am_inI x.toInt := ⟨x.le_toInt, x.toInt_lt⟩
theorem am_inTL (x : Int64) : am_inL x.toInt := ⟨x.le_toInt, x.toInt_lt⟩
theorem am_inw (x : Int) : am_inI (am_wI x) := am_inT _
theorem am_inwL (x : Int) : am_inL (am_wL x) := am_inTL _
theorem am_toI {x : Int} (h : am_inI x) : (Int32.ofInt x).toInt = x := Int32.toInt_ofInt_of_le h.1 h.2
theorem am_toL {x : Int} (h : am_inL x) : (Int64.ofInt x).toInt = x := Int64.toInt_ofInt_of_le h.1 h.2
theorem am_wid {x : Int} (h : am_inI x) : am_wI x = x := am_toI h
theorem am_wLd {x : Int} (h : am_inL x) : am_wL x = x := am_toL h
theorem am_eqI {a b : Int} (ha : am_inI a) (hb : am_inI b) : Int32.ofInt a = Int32.ofInt b ↔ a = b := by
  rw [← Int32.toInt_inj, am_toI ha, am_toI hb]
theorem am_ltI {a b : Int} (ha : am_inI a) (hb : am_inI b) : Int32.ofInt a < Int32.ofInt b ↔ a < b := by
  rw [Int32.lt_iff_toInt_lt, am_toI ha, am_toI hb]
theorem am_leI {a b : Int} (ha : am_inI a) (hb : am_inI b) : Int32.ofInt a ≤ Int32.ofInt b ↔ a ≤ b := by
  rw [Int32.le_iff_toInt_le, am_toI ha, am_toI hb]
theorem am_in0 : am_inI 0 := by constructor <;> decide
theorem am_cl0 {x : Int} (h : am_inI x) : (Int32.ofInt x).toNatClampNeg = x.toNat := Int32.toNatClampNeg_ofInt_of_le h.1 h.2
theorem am_neg {x : Int} (h : am_inI x) : Int32.ofInt x < 0 ↔ x < 0 := am_ltI h am_in0
theorem am_vin {x : Int} (h : am_inI x) {n : Nat} (h0 : 0 ≤ x) (h1 : x < (n : Int)) : vp_in (Int32.ofInt x) n := by
  intro q
  rcases q with q | q
  · exact absurd ((am_neg h).mp q) (by omega)
  · rw [am_cl0 h] at q; omega
theorem am_tdv {a b : Int} (ha : am_inI a) (hb : am_inI b) : Int32.ofInt (a.tdiv b) = Int32.ofInt a / Int32.ofInt b := by
  apply Int32.toInt_inj.mp
  rw [Int32.toInt_div, am_toI ha, am_toI hb, Int32.toInt_ofInt]
theorem am_tmd {a b : Int} (ha : am_inI a) (hb : am_inI b) : Int32.ofInt (a.tmod b) = Int32.ofInt a - Int32.ofInt a / Int32.ofInt b * Int32.ofInt b := by
  rw [← am_tdv ha hb, ← Int32.ofInt_mul, ← Int32.ofInt_sub]
  congr 1
  have := Int.mul_tdiv_add_tmod a b
  rw [Int.mul_comm] at this
  omega
theorem am_tdvL {a b : Int} (ha : am_inL a) (hb : am_inL b) : Int64.ofInt (a.tdiv b) = Int64.ofInt a / Int64.ofInt b := by
  apply Int64.toInt_inj.mp
  rw [Int64.toInt_div, am_toL ha, am_toL hb, Int64.toInt_ofInt]
theorem am_tmdL {a b : Int} (ha : am_inL a) (hb : am_inL b) : Int64.ofInt (a.tmod b) = Int64.ofInt a - Int64.ofInt a / Int64.ofInt b * Int64.ofInt b := by
  rw [← am_tdvL ha hb, ← Int64.ofInt_mul, ← Int64.ofInt_sub]
  congr 1
  have := Int.mul_tdiv_add_tmod a b
  rw [Int.mul_comm] at this
  omega
theorem am_eqL {a b : Int} (ha : am_inL a) (hb : am_inL b) : Int64.ofInt a = Int64.ofInt b ↔ a = b := by
  rw [← Int64.toInt_inj, am_toL ha, am_toL hb]
theorem am_ltL {a b : Int} (ha : am_inL a) (hb : am_inL b) : Int64.ofInt a < Int64.ofInt b ↔ a < b := by
  rw [Int64.lt_iff_toInt_lt, am_toL ha, am_toL hb]
theorem am_i2l {a : Int} (ha : am_inI a) : (Int32.ofInt a).toInt64 = Int64.ofInt a := by
  apply Int64.toInt_inj.mp
  rw [Int32.toInt_toInt64, am_toI ha, am_toL ⟨by have := ha.1; omega, by have := ha.2; omega⟩]
theorem am_i2c (a : Int) : ((Int32.ofInt a).toUInt32 % 65536).toInt32 = Int32.ofInt (a % 65536) := by
  apply Int32.toInt_inj.mp
  apply congrArg BitVec.toInt
  show ((Int32.ofInt a).toUInt32 % 65536).toInt32.toBitVec = (Int32.ofInt (a % 65536)).toBitVec
  apply BitVec.eq_of_toNat_eq
  show (BitVec.ofInt 32 a % 65536#32).toNat = (BitVec.ofInt 32 (a % 65536)).toNat
  rw [BitVec.toNat_umod, BitVec.toNat_ofInt, BitVec.toNat_ofInt]
  simp
  omega
/-! values, cells, worlds -/
def am_rv (sa : Nat) (ad : List Nat) (v : am_V) : Value := if v.1 = 0 then .int (Int32.ofInt v.2) else if v.1 = 1 then .long (Int64.ofInt v.2) else if v.1 = 30 then .ref sa else if v.2 < 0 ∨ v.1 < 20 then .null else .ref (ad.getD v.2.toNat 0)
theorem am_rv0 (sa : Nat) (ad : List Nat) (x : Int) : am_rv sa ad (0, x) = .int (Int32.ofInt x) := rfl
theorem am_rv1 (sa : Nat) (ad : List Nat) (x : Int) : am_rv sa ad (1, x) = .long (Int64.ofInt x) := rfl
theorem am_rvr {sa : Nat} {ad : List Nat} {t : Nat} {x : Int} (ht : 20 ≤ t) (h3 : ¬ t = 30) (hx : 0 ≤ x) : am_rv sa ad (t, x) = .ref (ad.getD x.toNat 0) := by
  unfold am_rv
  rw [if_neg (by show ¬ t = 0; omega), if_neg (by show ¬ t = 1; omega), if_neg (by exact h3), if_neg (by show ¬ (x < 0 ∨ t < 20); omega)]
theorem am_cat {sa : Nat} {ad : List Nat} {v : am_V} (h : ¬ v.1 = 1) : (am_rv sa ad v).category = 1 := by
  unfold am_rv
  rw [if_neg h]
  split
  · rfl
  · split
    · rfl
    · split <;> rfl
theorem am_cat2 {sa : Nat} {ad : List Nat} {v : am_V} : (am_rv sa ad v).category = if v.1 = 1 then 2 else 1 := by
  by_cases h : v.1 = 1
  · rw [if_pos h]; obtain ⟨t, x⟩ := v; subst h; rfl
  · rw [if_neg h]; exact am_cat h
theorem am_cats {sa : Nat} {ad : List Nat} (st : List am_V) : ((st.map (am_rv sa ad)).map fun v => v.category).sum = am_cs st := by
  unfold am_cs
  rw [List.map_map]
  congr 1
  apply List.map_congr_left
  intro v _
  exact am_cat2
def am_okv (sh : am_H) (v : am_V) : Prop := (v.1 = 0 → am_inI v.2) ∧ (v.1 = 1 → am_inL v.2) ∧ (20 ≤ v.1 → ¬ v.1 = 30 → 0 ≤ v.2 → ∃ n, sh[v.2.toNat]? = some (v.1, n))
def am_okt (c n : Nat) : Prop := (20 ≤ c ∧ c ≤ 24 ∧ n ≤ 10000) ∨ (100 ≤ c ∧ ∃ r : vw_C, am_cl[c - 100]? = some r ∧ r.2.2 = n)
def am_WT (sh : am_H) (f : am_F) : Prop := ∀ (i c n : Nat), sh[i]? = some (c, n) → am_okt c n ∧ ∀ k : Nat, k < n ∨ c = 24 → am_okv sh (am_et c k, f i k)
def am_cell (dA : Nat → ClassId) (sa : Nat) (ad : List Nat) (f : am_F) (i c n : Nat) : va_E :=
  if 100 ≤ c then .inr (c - 100, (List.range n).map fun k => am_rv sa ad (am_et c k, f i k))
  else if c = 21 then .inl (dA 1, n, .inr (.inl fun j => Int64.ofInt (f i j)))
  else if c = 24 then .inl (dA 4, n, .inr (.inr (.inr (.inr fun j => if f i j < 0 then none else some (ad.getD (f i j).toNat 0)))))
  else .inl (dA (c - 20), n, .inl fun j => Int32.ofInt (f i j))
def am_ws (dA : Nat → ClassId) (sa : Nat) (ad : List Nat) (sh : am_H) (f : am_F) : va_W := (List.range sh.length).map fun i => (ad.getD i 0, am_cell dA sa ad f i (sh.getD i (0, 0)).1 (sh.getD i (0, 0)).2)
theorem am_ws_at {dA : Nat → ClassId} {sa : Nat} {ad : List Nat} {sh : am_H} {f : am_F} {i c n : Nat} (h : sh[i]? = some (c, n)) : (am_ws dA sa ad sh f)[i]? = some (ad.getD i 0, am_cell dA sa ad f i c n) := by
  have hl : i < sh.length := (List.getElem?_eq_some_iff.mp h).1
  unfold am_ws
  rw [List.getElem?_map, List.getElem?_range hl]
  simp [List.getD_eq_getElem?_getD, h]
theorem am_ws_len {dA : Nat → ClassId} {sa : Nat} {ad : List Nat} {sh : am_H} {f : am_F} : (am_ws dA sa ad sh f).length = sh.length := by simp [am_ws]
/-- two worlds of the same shapes that differ in one cell -/
theorem am_ws_set {dA : Nat → ClassId} {sa : Nat} {ad : List Nat} {sh : am_H} {f g : am_F} {i c n : Nat} {e : va_E} (h : sh[i]? = some (c, n)) (hg : ∀ (j : Nat), ¬ j = i → ∀ k : Int, g j k = f j k) (he : am_cell dA sa ad g i c n = e) : (am_ws dA sa ad sh f).set i (ad.getD i 0, e) = am_ws dA sa ad sh g := by
  apply List.ext_getElem?
  intro j
  by_cases hj : j = i
  · subst hj
    rw [List.getElem?_set_self (by rw [am_ws_len]; exact (List.getElem?_eq_some_iff.mp h).1), am_ws_at h, he]
  · rw [List.getElem?_set_ne (fun q => hj q.symm)]
    cases hs : sh[j]? with
    | none =>
      have hl : sh.length ≤ j := by simpa using hs
      rw [List.getElem?_eq_none (by rw [am_ws_len]; exact hl), List.getElem?_eq_none (by rw [am_ws_len]; exact hl)]
    | some q =>
      obtain ⟨c1, n1⟩ := q
      rw [am_ws_at hs, am_ws_at hs]
      unfold am_cell
      simp only [hg j hj]
def am_lv (sa : Nat) (ad : List Nat) (L : List am_V) : List (Nat × Value) := (List.range L.length).filterMap fun i => match L[i]? with
  | some v => if v.1 = 2 then none else some (i, am_rv sa ad v)
  | none => none
theorem am_lv_mem {sa : Nat} {ad : List Nat} {L : List am_V} {i : Nat} {v : am_V} (h : L[i]? = some v) (h2 : ¬ v.1 = 2) : (i, am_rv sa ad v) ∈ am_lv sa ad L := by
  refine List.mem_filterMap.mpr ⟨i, List.mem_range.mpr (List.getElem?_eq_some_iff.mp h).1, ?_⟩
  rw [h]
  simp [h2]
theorem am_lv_of {sa : Nat} {ad : List Nat} {L : List am_V} {q : Nat × Value} (h : q ∈ am_lv sa ad L) : ∃ v : am_V, L[q.1]? = some v ∧ ¬ v.1 = 2 ∧ q.2 = am_rv sa ad v := by
  obtain ⟨i, -, hi⟩ := List.mem_filterMap.mp h
  cases hL : L[i]? with
  | none => rw [hL] at hi; cases hi
  | some v =>
    rw [hL] at hi
    by_cases h2 : v.1 = 2
    · simp [h2] at hi
    · simp [h2] at hi
      subst hi
      exact ⟨v, hL, h2, rfl⟩
theorem am_lh_sub {ls : Array Slot} {n : Nat} {l l' : List (Nat × Value)} (h : lv_has ls n l) (hs : ∀ q ∈ l', q ∈ l) : lv_has ls n l' := ⟨h.1, h.2.1, fun q hq => h.2.2 q (hs q hq)⟩
theorem am_p0_some {α : Type} {st : List am_V} {k : Int → List am_V → Option α} {o : α} (h : am_p0 st k = some o) : ∃ v r, st = (0, v) :: r ∧ k v r = some o := by
  unfold am_p0 at h
  split at h
  · exact ⟨_, _, rfl, h⟩
  · cases h
theorem am_p1_some {α : Type} {st : List am_V} {k : Int → List am_V → Option α} {o : α} (h : am_p1 st k = some o) : ∃ v r, st = (1, v) :: r ∧ k v r = some o := by
  unfold am_p1 at h
  split at h
  · exact ⟨_, _, rfl, h⟩
  · cases h
theorem am_pr_some {α : Type} {t : Nat} {st : List am_V} {k : Int → List am_V → Option α} {o : α} (h : am_pr t st k = some o) : ∃ a r, st = (t, a) :: r ∧ 0 ≤ a ∧ k a r = some o := by
  unfold am_pr at h
  split at h
  · split at h
    · rename_i u a r h2
      obtain ⟨rfl, h3⟩ := h2
      exact ⟨_, _, rfl, h3, h⟩
    · cases h
  · cases h
theorem am_pv_some {α : Type} {st : List am_V} {k : am_V → List am_V → Option α} {o : α} (h : am_pv st k = some o) : ∃ v r, st = v :: r ∧ k v r = some o := by
  unfold am_pv at h
  split at h
  · exact ⟨_, _, rfl, h⟩
  · cases h
theorem am_nx_some {n : Nat} {ls st : List am_V} {s : am_S} {q : am_K} (h : am_nx n ls st s = some (.inl q)) : q = (n, ls, st, s) := by
  unfold am_nx at h
  exact (Sum.inl.inj (Option.some.inj h)).symm
def am_tot (sh : am_H) : Nat := (sh.map Prod.snd).sum
def am_tys (dA : Nat → ClassId) : List (ClassId × FieldType) := [(dA 0, .int), (dA 1, .long), (dA 2, .char), (dA 3, .boolean), (dA 4, .object "MendedThings$State")]
def am_wd : String := "thing worth use frail mender skill hours trial is stands falls takes fine first cat breaks mends day glue number forged last or and not all min max often total most least "
/-- the text constant lies where nothing is written -/
def am_Fo (sa sv : Nat) (A : Nat → Prop) (U : State) (H : Heap) : Prop := vk_R "MendedThings$Reader" 139 am_wd sa U ∧ vk_S 1 [am_txt.length] [am_txt.map Int32.ofInt] (fun _ => sa) (fun _ => sv) A U H ∧ va_Z "java/lang/String" "COMPACT_STRINGS" "Z" (.int 1) A U H ∧ va_Zq "jdk/internal/util/Preconditions" "SIOOBE_FORMATTER" "Ljava/util/function/BiFunction;" A U H
def am_Cx (p : Program) (s : State) (m : MethodId) (args : Array Value) (meth : Method) (c : Code) (D : va_G) (dA : Nat → ClassId) (sa sv : Nat) (A : Nat → Prop) (cc : ByteArray) (ml oc : Nat) (ini : Bool) (own : String) : Prop :=
  p.tables.exec = Jvm.exec ∧ c.code = cc ∧ c.maxLocals = ml ∧ am_on[oc]? = some own ∧ s.vm.findClass own = some m.cls ∧ (∀ w ∈ am_tbl, w.before args s = true) ∧ va_K D am_cl (am_tys dA) s ∧ (∀ q, s.heap.size ≤ q → A q) ∧ (ini = true → meth.name = "<init>") ∧ am_Fo sa sv A s s.heap ∧ meth.locks = false
def am_J (D : va_G) (dA : Nat → ClassId) (sa : Nat) (ad : List Nat) (A : Nat → Prop) (H0 : Heap) (ml : Nat) (ls : Array Slot) (L S : List am_V) (sh : am_H) (f : am_F) (H : Heap) (locs : List Loc) : Prop :=
  (lv_has ls ml (am_lv sa ad L) ∧ L.length = ml) ∧ ((∀ v ∈ L, am_okv sh v) ∧ ∀ v ∈ S, am_okv sh v) ∧ ad.length = sh.length ∧ am_WT sh f ∧ va_P D am_cl (am_ws dA sa ad sh f) H ∧ va_D A (am_ws dA sa ad sh f) ∧ va_S A H0 H locs
/-- the same heap, another stack -/
theorem am_J.st {D : va_G} {dA : Nat → ClassId} {sa : Nat} {ad : List Nat} {A : Nat → Prop} {H0 : Heap} {ml : Nat} {ls : Array Slot} {L S S' : List am_V} {sh : am_H} {f : am_F} {H : Heap} {locs : List Loc} (h : am_J D dA sa ad A H0 ml ls L S sh f H locs) (hS : ∀ v ∈ S', am_okv sh v) : am_J D dA sa ad A H0 ml ls L S' sh f H locs := ⟨h.1, ⟨h.2.1.1, hS⟩, h.2.2⟩
