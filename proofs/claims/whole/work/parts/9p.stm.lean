/-! islands: statements, read by descent -/
/-- the letters of a name, the last first -/
def nmL (B : Int → Int) (s : Int) : Nat → List Int
  | 0 => []
  | j + 1 => (B (s + j) - 96) :: nmL B s j
theorem nmL_len {B : Int → Int} {s : Int} : ∀ j, (nmL B s j).length = j
  | 0 => rfl
  | j + 1 => by rw [nmL, List.length_cons, nmL_len j]
theorem nmL_d {B : Int → Int} {s : Int} : ∀ j : Nat, (∀ q, s ≤ q → q < s + j → 97 ≤ B q ∧ B q ≤ 122) → ∀ x ∈ nmL B s j, 1 ≤ x ∧ x ≤ 26
  | 0, _, x, hx => by cases hx
  | j + 1, h, x, hx => by
    rw [nmL, List.mem_cons] at hx
    rcases hx with e | e
    · have := h (s + j) (by omega) (by omega)
      omega
    · exact nmL_d j (fun q a b => h q a (by omega)) x e
def tN (B : Int → Int) (N p : Int) : List Int := nmL B (tS B N p) (tE B N p - tS B N p).toNat
def vnm (rs : List Int) : Prop := 1 ≤ rs.length ∧ rs.length ≤ 6 ∧ ∀ x ∈ rs, 1 ≤ x ∧ x ≤ 26
def pnm (rs : List Int) : Int := nv (List.replicate (6 - rs.length) 0 ++ rs)
theorem tN_v {B : Int → Int} {N p : Int} (hk : tK B N p = 1) (h1 : p ≤ N) (hl : tE B N p - tS B N p ≤ 6) : vnm (tN B N p) := by
  have tr := tE_r (Or.inl rfl) hk h1
  unfold tN
  refine ⟨by rw [nmL_len]; omega, by rw [nmL_len]; omega, nmL_d _ (fun q a b => srt_1.mp (tr.2.2.1 q a (by omega)))⟩
theorem nv_inj : ∀ (a b : List Int), (∀ x ∈ a, 1 ≤ x ∧ x ≤ 26) → (∀ x ∈ b, 1 ≤ x ∧ x ≤ 26) → nv a = nv b → a = b
  | [], [], _, _, _ => rfl
  | [], y :: b, _, hb, h => by
    have h1 := hb y List.mem_cons_self
    have h2 : 0 ≤ nv b := nv_0 b (fun x hx => by have := hb x (List.mem_cons_of_mem _ hx); omega)
    have h3 : (0 : Int) = 27 * nv b + y := h
    omega
  | x :: a, [], ha, _, h => by
    have h1 := ha x List.mem_cons_self
    have h2 : 0 ≤ nv a := nv_0 a (fun x hx => by have := ha x (List.mem_cons_of_mem _ hx); omega)
    have h3 : 27 * nv a + x = (0 : Int) := h
    omega
  | x :: a, y :: b, ha, hb, h => by
    have h1 := ha x List.mem_cons_self
    have h2 := hb y List.mem_cons_self
    have h3 : 27 * nv a + x = 27 * nv b + y := h
    have e : x = y := by omega
    have e2 : nv a = nv b := by omega
    rw [e, nv_inj a b (fun x hx => ha x (List.mem_cons_of_mem _ hx)) (fun x hx => hb x (List.mem_cons_of_mem _ hx)) e2]
where
  nv_0 : ∀ (a : List Int), (∀ x ∈ a, 0 ≤ x) → 0 ≤ nv a
    | [], _ => by unfold nv; omega
    | x :: a, h => by
      have h1 := h x List.mem_cons_self
      have h2 := nv_0 a (fun x hx => h x (List.mem_cons_of_mem _ hx))
      show 0 ≤ 27 * nv a + x
      omega
theorem nv_eq : ∀ (a b : List Int), a.length = b.length → (∀ x ∈ a, 0 ≤ x ∧ x ≤ 26) → (∀ x ∈ b, 0 ≤ x ∧ x ≤ 26) → nv a = nv b → a = b
  | [], [], _, _, _, _ => rfl
  | [], _ :: _, h, _, _, _ => by simp at h
  | _ :: _, [], h, _, _, _ => by simp at h
  | x :: a, y :: b, hl, ha, hb, h => by
    have h1 := ha x List.mem_cons_self
    have h2 := hb y List.mem_cons_self
    have h3 : 27 * nv a + x = 27 * nv b + y := h
    have e : x = y := by omega
    have e2 : nv a = nv b := by omega
    rw [e, nv_eq a b (by simpa using hl) (fun x hx => ha x (List.mem_cons_of_mem _ hx)) (fun x hx => hb x (List.mem_cons_of_mem _ hx)) e2]
theorem rep_eq : ∀ (i j : Nat) (a b : List Int), (∀ x ∈ a, 1 ≤ x ∧ x ≤ 26) → (∀ x ∈ b, 1 ≤ x ∧ x ≤ 26) → 1 ≤ a.length → 1 ≤ b.length → List.replicate i (0 : Int) ++ a = List.replicate j 0 ++ b → a = b
  | 0, 0, a, b, _, _, _, _, h => by simpa using h
  | 0, j + 1, a, b, ha, _, hl, _, h => by
    match a, ha, hl, h with
    | x :: a, ha, _, h =>
      simp [List.replicate_succ] at h
      have := ha x List.mem_cons_self
      omega
    | [], _, hl, _ => simp at hl
  | i + 1, 0, a, b, _, hb, _, hl, h => by
    match b, hb, hl, h with
    | x :: b, hb, _, h =>
      simp [List.replicate_succ] at h
      have := hb x List.mem_cons_self
      omega
    | [], _, hl, _ => simp at hl
  | i + 1, j + 1, a, b, ha, hb, h1, h2, h => by
    simp only [List.replicate_succ, List.cons_append, List.cons.injEq, true_and] at h
    exact rep_eq i j a b ha hb h1 h2 h
theorem pnm_inj {a b : List Int} (ha : vnm a) (hb : vnm b) (h : pnm a = pnm b) : a = b := by
  unfold pnm at h
  have e := nv_eq _ _ (by simp [ha.2.1, hb.2.1]) (fun x hx => by
    rcases List.mem_append.mp hx with q | q
    · have := List.eq_of_mem_replicate q; omega
    · have := ha.2.2 x q; omega) (fun x hx => by
    rcases List.mem_append.mp hx with q | q
    · have := List.eq_of_mem_replicate q; omega
    · have := hb.2.2 x q; omega) h
  exact rep_eq _ _ a b ha.2.2 hb.2.2 ha.1 hb.1 e
/-- what an island tells: how many of each kind, numbers, codes, which are told, names -/
abbrev IS : Type := (Int → Int) × am_F × (Int → List Int) × (Int → Bool) × (Int → List Int)
def dup1 (n b : Int) (ν : Int → List Int) (rs : List Int) : Bool := (List.range n.toNat).any fun t => decide (ν (b + (t : Int)) = rs)
def dupN (I : IS) (rs : List Int) : Bool := dup1 (I.1 0) 0 I.2.2.2.2 rs || (dup1 (I.1 1) 8 I.2.2.2.2 rs || dup1 (I.1 2) 16 I.2.2.2.2 rs)
theorem dup1_i {n b : Int} {ν : Int → List Int} {rs : List Int} : dup1 n b ν rs = true ↔ ∃ t : Int, 0 ≤ t ∧ t < n ∧ ν (b + t) = rs := by
  unfold dup1
  rw [List.any_eq_true]
  constructor
  · rintro ⟨t, h1, h2⟩
    rw [List.mem_range] at h1
    exact ⟨t, by omega, by omega, of_decide_eq_true h2⟩
  · rintro ⟨t, h1, h2, h3⟩
    refine ⟨t.toNat, List.mem_range.mpr (by omega), decide_eq_true ?_⟩
    rw [show ((t.toNat : Nat) : Int) = t by omega]
    exact h3
abbrev R1 : Type := (Int × Int) ⊕ Int
abbrev RI : Type := (Int × Int) ⊕ (Int × IS)
def b1 (x : R1) (h : Int → RI) : RI := match x with
  | .inl e => .inl e
  | .inr p => h p
def rWd (B : Int → Int) (N k p : Int) : R1 := if tW B N p = k then .inr (tE B N p) else .inl (1, tS B N p)
def rNu (B : Int → Int) (N a b p : Int) : R1 := if ¬ tK B N p = 2 then .inl (1, tS B N p) else if 4 < tE B N p - tS B N p then .inl (1, tS B N p + 4) else if a ≤ tV B N p ∧ tV B N p ≤ b then .inr (tE B N p) else .inl (2, tS B N p)
def rNm (B : Int → Int) (N : Int) (I : IS) (p : Int) : R1 := if ¬ tK B N p = 1 ∨ (0 ≤ tW B N p ∧ tW B N p < 28) then .inl (1, tS B N p) else if 6 < tE B N p - tS B N p then .inl (1, tS B N p + 6) else if dupN I (tN B N p) = true then .inl (3, tS B N p) else .inr (tE B N p)
def rK (B : Int → Int) (N κ : Int) (mode : Nat) (p : Int) : RR := (rd B N κ 20000 mode p 0).getD (.inl (1, 0))
theorem rK_e {B : Int → Int} {N κ p : Int} (hN : N ≤ 1600) (p0 : 0 ≤ p) (pN : p ≤ N) (mode : Nat) : rd B N κ 20000 mode p 0 = some (rK B N κ mode p) := by
  obtain ⟨r, hr⟩ := rd_K (B := B) (N := N) (κ := κ) (o := 0) hN p0 pN mode
  unfold rK
  rw [hr]; rfl
def u1 {α : Type} (f : Int → α) (i : Int) (v : α) : Int → α := fun j => if j = i then v else f j
theorem u1_e {α : Type} {f : Int → α} {i : Int} {v : α} : u1 f i v i = v := if_pos rfl
theorem u1_n {α : Type} {f : Int → α} {i j : Int} {v : α} (h : ¬ j = i) : u1 f i v j = f j := if_neg h
def sdT (B : Int → Int) (N : Int) (I : IS) (p : Int) : RI := if I.1 0 = 8 then .inl (5, tS B N p) else
  b1 (rNm B N I (tE B N p)) fun p2 => b1 (rWd B N 1 p2) fun p3 => b1 (rNu B N 0 99 p3) fun p4 => b1 (rWd B N 2 p4) fun p5 => b1 (rNu B N 0 99 p5) fun p6 => b1 (rWd B N 3 p6) fun p7 => b1 (rNu B N 0 9 p7) fun p8 =>
    .inr (p8, (u1 I.1 0 (I.1 0 + 1), am_up (am_up (am_up I.2.1 2 (I.1 0) (tV B N p3)) 3 (I.1 0) (tV B N p5)) 4 (I.1 0) (tV B N p7), I.2.2.1, I.2.2.2.1, u1 I.2.2.2.2 (0 + I.1 0) (tN B N (tE B N p))))
def sdM (B : Int → Int) (N : Int) (I : IS) (p : Int) : RI := if I.1 1 = 4 then .inl (5, tS B N p) else
  b1 (rNm B N I (tE B N p)) fun p2 => b1 (rWd B N 5 p2) fun p3 => b1 (rNu B N 0 9 p3) fun p4 => b1 (rWd B N 6 p4) fun p5 => b1 (rNu B N 1 24 p5) fun p6 =>
    .inr (p6, (u1 I.1 1 (I.1 1 + 1), am_up (am_up I.2.1 6 (I.1 1) (tV B N p3)) 7 (I.1 1) (tV B N p5), I.2.2.1, I.2.2.2.1, u1 I.2.2.2.2 (8 + I.1 1) (tN B N (tE B N p))))
def sdR (B : Int → Int) (N : Int) (I : IS) (p : Int) : RI := if I.1 2 = 5 then .inl (5, tS B N p) else
  b1 (rNm B N I (tE B N p)) fun p2 => b1 (rWd B N 8 p2) fun p3 => match rK B N 1 9 p3 with
    | .inl e => .inl e
    | .inr (p4, cs) => .inr (p4, (u1 I.1 2 (I.1 2 + 1), I.2.1, u1 I.2.2.1 (5 + I.1 2) cs, u1 I.2.2.2.1 (5 + I.1 2) true, u1 I.2.2.2.2 (16 + I.1 2) (tN B N (tE B N p))))
def wK (w : Int) : Int := if w = 1 ∨ w = 4 then 0 else if w = 2 ∨ w = 3 then 2 else 1
def wM (w : Int) : Nat := if w = 0 ∨ w = 1 ∨ 5 ≤ w then 9 else 4
def sdX (B : Int → Int) (N w : Int) (I : IS) (p : Int) : RI := if I.2.2.2.1 w = true then .inl (5, tS B N p) else match rK B N (wK w) (wM w) (tE B N p) with
    | .inl e => .inl e
    | .inr (p4, cs) => .inr (p4, (I.1, I.2.1, u1 I.2.2.1 w cs, u1 I.2.2.2.1 w true, I.2.2.2.2))
def sdC (B : Int → Int) (N : Int) (I : IS) (p : Int) : RI := b1 (rNu B N 0 100 (tE B N p)) fun p2 => .inr (p2, (I.1, am_up I.2.1 0 0 (tV B N (tE B N p)), I.2.2.1, I.2.2.2.1, I.2.2.2.2))
def sdd (B : Int → Int) (N : Int) (I : IS) (p : Int) : RI :=
  if tW B N p = 0 then sdT B N I p else if tW B N p = 4 then sdM B N I p else if tW B N p = 7 then sdR B N I p
  else if tW B N p = 9 then sdX B N 0 I p else if tW B N p = 10 then sdX B N 1 I p else if tW B N p = 11 then sdX B N 2 I p else if tW B N p = 12 then sdX B N 3 I p else if tW B N p = 13 then sdX B N 4 I p
  else if tW B N p = 14 then sdC B N I p else .inl (1, tS B N p)
def sS1 (B : Int → Int) (N : Int) (x : RI) : RI := match x with
  | .inl e => .inl e
  | .inr (p1, I1) => if isg B N p1 59 = true then .inr (tE B N p1, (I1.1, am_up I1.2.1 0 1 (I1.2.1 0 1 + 1), I1.2.2)) else .inl (1, tS B N p1)
def il (B : Int → Int) (N : Int) : Nat → IS → Int → (Int × Int) ⊕ IS
  | 0, I, p => if tK B N p = 0 then .inr I else .inl (5, tS B N p)
  | j + 1, I, p => if tK B N p = 0 then .inr I else match sS1 B N (sdd B N I p) with
    | .inl e => .inl e
    | .inr (p1, I1) => il B N j I1 p1
/-- what holds of an island as it is read -/
def PI (I : IS) : Prop := ((0 ≤ I.1 0 ∧ I.1 0 ≤ 8) ∧ (0 ≤ I.1 1 ∧ I.1 1 ≤ 4) ∧ (0 ≤ I.1 2 ∧ I.1 2 ≤ 5)) ∧ ((∀ t, 0 ≤ t → t < I.1 0 → vnm (I.2.2.2.2 (0 + t))) ∧ (∀ t, 0 ≤ t → t < I.1 1 → vnm (I.2.2.2.2 (8 + t))) ∧ (∀ t, 0 ≤ t → t < I.1 2 → vnm (I.2.2.2.2 (16 + t)))) ∧ ((∀ t, 0 ≤ t → t < I.1 0 → (0 ≤ I.2.1 2 t ∧ I.2.1 2 t ≤ 99) ∧ (0 ≤ I.2.1 3 t ∧ I.2.1 3 t ≤ 99) ∧ (0 ≤ I.2.1 4 t ∧ I.2.1 4 t ≤ 9)) ∧ (∀ k, 0 ≤ k → k < I.1 1 → (0 ≤ I.2.1 6 k ∧ I.2.1 6 k ≤ 9) ∧ (1 ≤ I.2.1 7 k ∧ I.2.1 7 k ≤ 24)) ∧ (0 ≤ I.2.1 0 0 ∧ I.2.1 0 0 ≤ 100)) ∧ ((∀ w, 0 ≤ w → w < 10 → I.2.2.2.1 w = true → 0 < (I.2.2.1 w).length ∧ ∃ b, tr (skw w) false (I.2.2.1 w) [] = some [b] ∧ (tyw w = true → b = true)) ∧ (∀ k, 0 ≤ k → k < 5 → (I.2.2.2.1 (5 + k) = true ↔ k < I.1 2)))
