/-! what the tables say, as one fact for each kind of pool number -/
def am_fd (ty : FieldType) (t b : Nat) : Bool := match ty with
  | .int => t == 0 && b == 0
  | .boolean => t == 0 && b == 1
  | .long => t == 1 && b == 0
  | .object _ => decide (20 ≤ t) && !(t == 30) && b == 0
  | .array _ => decide (20 ≤ t) && !(t == 30) && b == 0
  | _ => false
def am_flc (own : String) (q : Nat × Nat × Nat × Nat × Nat × Nat × Nat) : Bool := match am_cl[q.2.1 - 100]? with
  | some r => decide (100 ≤ q.2.1) && decide (q.2.2.1 < r.2.2) && decide (lw_tbl[q.2.2.2.2.2.2]? = some (Cond.fieldLink own q.1 r.1 (r.2.1 q.2.2.1).2.1 (r.2.1 q.2.2.1).2.2.1)) && decide ((r.2.1 q.2.2.1).1 = r.1) && decide (q.2.2.2.1 = am_et q.2.1 q.2.2.1) && decide ((r.2.1 q.2.2.1).2.2.2 = (q.2.2.2.2.2.1 == 1)) && am_fd (am_ty (q.2.1 - 100) q.2.2.1) q.2.2.2.1 q.2.2.2.2.1
  | none => false
def am_all (i : Nat) : Bool := match am_on[i]? with
  | some own => (am_FL.getD i []).all (am_flc own)
  | none => true
set_option maxRecDepth 100000 in
theorem am_all_ok : (List.range 14).all am_all = true := by decide +kernel
theorem am_look {β : Type} {l : List (Nat × β)} {k : Nat} {e : β} (h : l.lookup k = some e) : (k, e) ∈ l := by
  induction l with
  | nil => cases h
  | cons q r ih =>
    obtain ⟨a, b⟩ := q
    simp only [List.lookup] at h
    split at h
    · rename_i hq
      cases h
      rw [show k = a from by simpa using hq]
      exact List.mem_cons_self
    · exact List.mem_cons_of_mem _ (ih h)
theorem am_on_lt {oc : Nat} {own : String} (h : am_on[oc]? = some own) : oc < 14 := (List.getElem?_eq_some_iff.mp h).1
theorem am_flok {oc idx : Nat} {own : String} {e : Nat × Nat × Nat × Nat × Nat × Nat} (ho : am_on[oc]? = some own) (h : am_fl oc idx = some e) : ∃ r : vw_C, am_cl[e.1 - 100]? = some r ∧ 100 ≤ e.1 ∧ e.2.1 < r.2.2 ∧ Cond.fieldLink own idx r.1 (r.2.1 e.2.1).2.1 (r.2.1 e.2.1).2.2.1 ∈ am_tbl ∧ (r.2.1 e.2.1).1 = r.1 ∧ e.2.2.1 = am_et e.1 e.2.1 ∧ (r.2.1 e.2.1).2.2.2 = (e.2.2.2.2.1 == 1) ∧ am_fd (am_ty (e.1 - 100) e.2.1) e.2.2.1 e.2.2.2.1 = true := by
  have h1 := List.all_eq_true.mp am_all_ok oc (List.mem_range.mpr (am_on_lt ho))
  unfold am_all at h1
  rw [ho] at h1
  have h2 := List.all_eq_true.mp h1 _ (am_look h)
  unfold am_flc at h2
  dsimp only at h2
  cases hr : am_cl[e.1 - 100]? with
  | none => rw [hr] at h2; cases h2
  | some r =>
    rw [hr] at h2
    simp only [Bool.and_eq_true, decide_eq_true_eq] at h2
    obtain ⟨⟨⟨⟨⟨⟨a1, a2⟩, a3⟩, a4⟩, a5⟩, a6⟩, a7⟩ := h2
    exact ⟨r, rfl, a1, a2, am_in (List.mem_of_getElem? a3) rfl, a4, a5, a6, a7⟩
/-- the classes' own tables -/
theorem am_clok {ci : Nat} {r : vw_C} (h : am_cl[ci]? = some r) : (∀ w ∈ u_ws r.1 r.2.1 r.2.2, w ∈ am_tbl) ∧ (∀ k, k < r.2.2 → parseFieldDescriptor (r.2.1 k).2.2.1 = some (am_ty ci k)) ∧ (∀ a, a < r.2.2 → ∀ b, b < r.2.2 → a ≠ b → (r.2.1 a).2.1 ≠ (r.2.1 b).2.1) := by
  match ci, h with
  | 0, h => cases h; exact ⟨inX0, tyX0_ok, nmX0⟩
  | 1, h => cases h; exact ⟨inX1, tyX1_ok, nmX1⟩
  | 2, h => cases h; exact ⟨inX2, tyX2_ok, nmX2⟩
  | 3, h => cases h; exact ⟨inX3, tyX3_ok, nmX3⟩
  | 4, h => cases h; exact ⟨inX4, tyX4_ok, nmX4⟩
  | 5, h => cases h; exact ⟨inX5, tyX5_ok, nmX5⟩
  | 6, h => cases h; exact ⟨inX6, tyX6_ok, nmX6⟩
  | 7, h => cases h; exact ⟨inX7, tyX7_ok, nmX7⟩
  | 8, h => cases h; exact ⟨inX8, tyX8_ok, nmX8⟩
  | 9, h => cases h; exact ⟨inX9, tyX9_ok, nmX9⟩
  | 10, h => cases h; exact ⟨inX10, tyX10_ok, nmX10⟩
  | n + 11, h => simp [am_cl] at h
def am_klc (own : String) (q : Nat × Int × Nat) : Bool := decide (lw_tbl[q.2.2]? = some (Cond.constant own q.1 (Int32.ofInt q.2.1))) && decide (-2147483648 ≤ q.2.1) && decide (q.2.1 < 2147483648)
def am_jlc (own : String) (q : Nat × Int × Nat) : Bool := decide (lw_tbl[q.2.2]? = some (Cond.constantLong own q.1 (Int64.ofInt q.2.1))) && decide (-9223372036854775808 ≤ q.2.1) && decide (q.2.1 < 9223372036854775808)
def am_ckc (own : String) (q : Nat × Nat × Nat × Nat × Nat × Nat) : Bool := match am_cl[q.2.1 - 100]? with
  | some r => decide (100 ≤ q.2.1) && decide (q.2.2.1 = r.2.2) && decide (lw_tbl[q.2.2.2.1]? = some (Cond.classLink own q.1 r.1)) && decide (lw_tbl[q.2.2.2.2.1]? = some (Cond.instantiable r.1 r.2.2)) && decide (lw_tbl[q.2.2.2.2.2]? = some (Cond.initialized r.1))
  | none => false
def am_all2 (i : Nat) : Bool := match am_on[i]? with
  | some own => (am_KL.getD i []).all (am_klc own) && (am_JL.getD i []).all (am_jlc own) && (am_CK.getD i []).all (am_ckc own)
  | none => true
set_option maxRecDepth 100000 in
theorem am_all2_ok : (List.range 14).all am_all2 = true := by decide +kernel
theorem am_klok {oc idx : Nat} {own : String} {e : Int × Nat} (ho : am_on[oc]? = some own) (h : am_kl oc idx = some e) : Cond.constant own idx (Int32.ofInt e.1) ∈ am_tbl ∧ am_inI e.1 := by
  have h1 := List.all_eq_true.mp am_all2_ok oc (List.mem_range.mpr (am_on_lt ho))
  unfold am_all2 at h1
  rw [ho] at h1
  simp only [Bool.and_eq_true] at h1
  have h2 := List.all_eq_true.mp h1.1.1 _ (am_look h)
  simp only [am_klc, Bool.and_eq_true, decide_eq_true_eq] at h2
  exact ⟨am_in (List.mem_of_getElem? h2.1.1) rfl, h2.1.2, h2.2⟩
theorem am_jlok {oc idx : Nat} {own : String} {e : Int × Nat} (ho : am_on[oc]? = some own) (h : am_jl oc idx = some e) : Cond.constantLong own idx (Int64.ofInt e.1) ∈ am_tbl ∧ am_inL e.1 := by
  have h1 := List.all_eq_true.mp am_all2_ok oc (List.mem_range.mpr (am_on_lt ho))
  unfold am_all2 at h1
  rw [ho] at h1
  simp only [Bool.and_eq_true] at h1
  have h2 := List.all_eq_true.mp h1.1.2 _ (am_look h)
  simp only [am_jlc, Bool.and_eq_true, decide_eq_true_eq] at h2
  exact ⟨am_in (List.mem_of_getElem? h2.1.1) rfl, h2.1.2, h2.2⟩
theorem am_ckok {oc idx : Nat} {own : String} {e : Nat × Nat × Nat × Nat × Nat} (ho : am_on[oc]? = some own) (h : am_ck oc idx = some e) : ∃ r : vw_C, am_cl[e.1 - 100]? = some r ∧ 100 ≤ e.1 ∧ e.2.1 = r.2.2 ∧ Cond.classLink own idx r.1 ∈ am_tbl ∧ Cond.instantiable r.1 r.2.2 ∈ am_tbl ∧ Cond.initialized r.1 ∈ am_tbl := by
  have h1 := List.all_eq_true.mp am_all2_ok oc (List.mem_range.mpr (am_on_lt ho))
  unfold am_all2 at h1
  rw [ho] at h1
  simp only [Bool.and_eq_true] at h1
  have h2 := List.all_eq_true.mp h1.2 _ (am_look h)
  unfold am_ckc at h2
  dsimp only at h2
  cases hr : am_cl[e.1 - 100]? with
  | none => rw [hr] at h2; cases h2
  | some r =>
    rw [hr] at h2
    simp only [Bool.and_eq_true, decide_eq_true_eq] at h2
    obtain ⟨⟨⟨⟨a1, a2⟩, a3⟩, a4⟩, a5⟩ := h2
    exact ⟨r, rfl, a1, a2, am_in (List.mem_of_getElem? a3) rfl, am_in (List.mem_of_getElem? a4) rfl, am_in (List.mem_of_getElem? a5) rfl⟩
